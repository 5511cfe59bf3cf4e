abbrev EXN : String := "java/util/NoSuchElementException"
abbrev EXC : List String := ["java/lang/RuntimeException", "java/lang/Exception"]
abbrev EXD : List Cond := [.declares (Bundle.init0 "java/lang/RuntimeException"), .declares (Bundle.init0 "java/lang/Exception"), .declares (Bundle.init0 Bundle.tN), .castable EXN EXN]
def ki_ThA (A : Nat → Prop) (U : State) : Prop := (va_Nw (.castable EXN EXN) U ∧ va_Nw (.declares (Bundle.init0 "java/lang/RuntimeException")) U ∧ va_Nw (.declares (Bundle.init0 "java/lang/Exception")) U ∧ va_Nw (.declares (Bundle.init0 Bundle.tN)) U) ∧ vx_Zq Bundle.tN "UNASSIGNED_STACK" Bundle.steD A U U.heap ∧ vx_Zq Bundle.tN "SUPPRESSED_SENTINEL" Bundle.listD A U U.heap
theorem ki_ThA.call {A : Nat → Prop} {U : State} (h : ki_ThA A U) (g : JFrame) (mk : MethodId) (a : Array Value) : ki_ThA A (U.calling g mk a) :=
  ⟨⟨va_Nw.same (u := U) (U := U.calling g mk a) rfl rfl h.1.1, va_Nw.same (u := U) (U := U.calling g mk a) rfl rfl h.1.2.1, va_Nw.same (u := U) (U := U.calling g mk a) rfl rfl h.1.2.2.1, va_Nw.same (u := U) (U := U.calling g mk a) rfl rfl h.1.2.2.2⟩, vx_Zq.moved (u := U) (U := U.calling g mk a) (Vm.Alike.refl U.vm) h.2.1, vx_Zq.moved (u := U) (U := U.calling g mk a) (Vm.Alike.refl U.vm) h.2.2⟩
theorem ki_ThA.from {A A2 : Nat → Prop} {s U : State} {H : Heap} {locs : List Loc} (h : ki_ThA A s) (hS : va_S A s.heap H locs) (hU : U.heap = H) (hW : s.WarmedH U.vm) (hn : ∀ q, A2 q → A q) : ki_ThA A2 U := by
  subst hU
  refine ⟨⟨va_Nw.warmC hW h.1.1, va_Nw.warmD hW h.1.2.1, va_Nw.warmD hW h.1.2.2.1, va_Nw.warmD hW h.1.2.2.2⟩, ?_, ?_⟩
  · exact vx_Zq.moved hW.alike ((h.2.1.kept (fun a h1 h2 => hS.2.1 a h1 h2)).narrow hn)
  · exact vx_Zq.moved hW.alike ((h.2.2.kept (fun a h1 h2 => hS.2.1 a h1 h2)).narrow hn)
theorem ki_ex {A : Nat → Prop} {args : Array Value} {s : State} (h : ki_ThA A s) : ∀ w ∈ EXD, w.before args s = true := vx_c (va_Nw.use rfl h.1.2.1) (vx_c (va_Nw.use rfl h.1.2.2.1) (vx_c (va_Nw.use rfl h.1.2.2.2) (vx_c (va_Nw.use rfl h.1.1) vx_n)))
theorem ki_bad : ∀ w ∈ (vx_at0 RX4 109 EXN EXC).filter (fun w => !goodWord w), w ∈ EXD := by decide +kernel
theorem ki_ot : ∀ w ∈ Cond.classLink RX4 107 EXN :: Cond.initialized EXN :: vx_at0 RX4 109 EXN EXC, vx_ot w = true := by decide +kernel
theorem ki_ints {args : Array Value} {s : State} {D : va_G} {cl : List vw_C} (h : (Cond.arrayClass .int).before args s = true) (hK : va_K D cl [] s) : ∃ cA : ClassId, va_K D cl [(cA, .int)] s := by
  obtain ⟨cA, kA, comp, h1, h2, h3⟩ := Cond.arrayClass_spec h
  refine ⟨cA, hK.1, fun k q hq => ?_⟩
  have hz : k < 1 := (List.getElem?_eq_some_iff.mp hq).1
  rw [show k = 0 by omega] at hq
  cases hq
  exact ⟨fun n z => ⟨fun k h => (by cases h), kA, h2, comp, h3⟩, h1⟩

set_option maxHeartbeats 4000000 in
set_option maxRecDepth 100000 in
theorem c_X4_at (l : Launch) (hl0 : l.stackTraces = false) (dC : Nat → ClassId) (dI : Nat → Nat → Nat) (m_ : Nat) (q_row : Nat) (q_t : Nat) (t_ : Nat) (h0 : Nat) (k0 : Nat) (w_ : Nat) (z_ : Nat) (slots : Int32) (old : Int32) (q_cell : Nat) (cyI : ClassId) (len : Int32) (f : Nat → Int32) (p0 : Int32) (sz : Nat) (a0 : 0 ≤ len.toInt) (a1 : len.toInt ≤ 160) : vx_Met l yX4_at wsX4_at ({ frames := 8, cells := 1, slots := 6, locals := 360 }) (va_Pc [.ref m_, .int p0] (fun U => U.heap.size = sz ∧ va_P (dC, dI) vwCl [kx_4 m_ q_row q_t t_ h0 k0 w_ z_ slots old, kx_0 q_row q_cell len, kx_a q_cell cyI 160 f] U.heap ∧ va_K (dC, dI) vwCl [(cyI, .int)] U ∧ va_D (fun _ => True) [kx_4 m_ q_row q_t t_ h0 k0 w_ z_ slots old, kx_0 q_row q_cell len, kx_a q_cell cyI 160 f] ∧ ki_ThA (va_A [kx_4 m_ q_row q_t t_ h0 k0 w_ z_ slots old, kx_0 q_row q_cell len, kx_a q_cell cyI 160 f] sz) U)) (va_Qi (fun (r : Int32) (_ : Unit) => 0 ≤ p0.toInt ∧ p0.toInt < len.toInt ∧ r = f p0.toNatClampNeg) (fun (_ : Unit) (t : State) => va_P (dC, dI) vwCl [kx_4 m_ q_row q_t t_ h0 k0 w_ z_ slots old, kx_0 q_row q_cell len, kx_a q_cell cyI 160 f] t.heap ∧ va_K (dC, dI) vwCl [(cyI, .int)] t ∧ va_D (va_A [kx_4 m_ q_row q_t t_ h0 k0 w_ z_ slots old, kx_0 q_row q_cell len, kx_a q_cell cyI 160 f] sz) [kx_4 m_ q_row q_t t_ h0 k0 w_ z_ slots old, kx_0 q_row q_cell len, kx_a q_cell cyI 160 f]) (va_A [kx_4 m_ q_row q_t t_ h0 k0 w_ z_ slots old, kx_0 q_row q_cell len, kx_a q_cell cyI 160 f] sz)) (vx_X (fun u : Unit => (p0.toInt < 0 ∨ len.toInt ≤ p0.toInt)) (fun (E : String) (u : Unit) (t : State) => E = EXN ∧ va_P (dC, dI) vwCl [kx_4 m_ q_row q_t t_ h0 k0 w_ z_ slots old, kx_0 q_row q_cell len, kx_a q_cell cyI 160 f] t.heap ∧ va_K (dC, dI) vwCl [(cyI, .int)] t ∧ va_D (va_A [kx_4 m_ q_row q_t t_ h0 k0 w_ z_ slots old, kx_0 q_row q_cell len, kx_a q_cell cyI 160 f] sz) [kx_4 m_ q_row q_t t_ h0 k0 w_ z_ slots old, kx_0 q_row q_cell len, kx_a q_cell cyI 160 f]) (va_A [kx_4 m_ q_row q_t t_ h0 k0 w_ z_ slots old, kx_0 q_row q_cell len, kx_a q_cell cyI 160 f] sz)) 1 6 (va_A [kx_4 m_ q_row q_t t_ h0 k0 w_ z_ slots old, kx_0 q_row q_cell len, kx_a q_cell cyI 160 f] sz) := by
  refine vx_ofW (cc := cX4_at) (maxL := 2) (ret := (some .int)) (by decide) rfl ?_
  intro p e s m args below meth c s₁ B hml htab hv
  obtain ⟨rfl, hsz, hP, hK, hD0, hth⟩ := hv
  have hx := B.exec
  have hb := B.bytes
  have hr := B.returns
  have hts := atoms_spec (ws := wsX4_at) B.pre
  have hown : s.vm.findClass RX4 = some m.cls := findClass_of_methodNamed B.named
  have hlocks := B.notSynchronized
  have hat : ∀ w ∈ vx_at0 RX4 109 EXN EXC, w.before _ s = true := vx_hat (B := EXD) (fun w h => hts w (List.mem_cons_of_mem _ (List.mem_append_right _ h))) ki_bad (ki_ex hth)
  subst hsz
  have hD := hD0.self (sz := s.heap.size)
  generalize hAe : va_A [kx_4 m_ q_row q_t t_ h0 k0 w_ z_ slots old, kx_0 q_row q_cell len, kx_a q_cell cyI 160 f] s.heap.size = A at hD hth ⊢
  have hA : ∀ q : Nat, s.heap.size ≤ q → A q := fun q h => by rw [← hAe]; exact Or.inr h
  have hS : va_S A s.heap s.heap [] := va_S.rf
  have hP : va_P (dC, dI) vwCl [kx_4 m_ q_row q_t t_ h0 k0 w_ z_ slots old, kx_0 q_row q_cell len, kx_a q_cell cyI 160 f] s.heap := hP
  have hl := lv_entry ([.ref m_, .int p0]) (n := 2) (Nat.le_of_ble_eq_true rfl)
  rw [lg_entry_eq]
  generalize (lg_sl ([.ref m_, .int p0]) ++ List.replicate (2 - (lg_sl ([.ref m_, .int p0])).length) Slot.unset).toArray = ls at hl ⊢
  have hl : lv_has ls 2 [(0, .ref m_), (1, .int p0)] := hl
  have hf_12 := hts (.fieldLink RX4 12 "MajorityIndex" "row" "LMajorityIndex$Row;") (List.mem_of_getElem? (i := 3) rfl)
  have hi_4 : ∀ w ∈ u_ws RX4 TX4 9, w ∈ wsX4_at := fun w h => List.mem_cons_of_mem _ (List.mem_append_left _ (List.mem_append_left _ (List.mem_append_right _ h)))
  have hf_110 := hts (.fieldLink RX4 110 "MajorityIndex$Row" "cell" "[I") (List.mem_of_getElem? (i := 4) rfl)
  have hi_0 : ∀ w ∈ u_ws RX0 TX0 2, w ∈ wsX4_at := fun w h => List.mem_cons_of_mem _ (List.mem_append_left _ (List.mem_append_right _ h))
  have hc_107 := hts (.classLink RX4 107 EXN) (by decide +kernel)
  have hz_ex := hts (.initialized EXN) (by decide +kernel)
  refine lv_aload_n hx hb dX4_at_0 rfl (lv_at hl 0 rfl) ?_
  refine va_get (D := (dC, dI)) (ci := 4) (v := .ref q_row) (C := RX4) (T := TX4) (N := 9) hx hb hts hi_4 hown hK hP 0 rfl rfl 0 (by decide) hf_12 (fun _ h9 => h9) rfl dX4_at_1 ?_
  refine lv_iload_n hx hb dX4_at_4 rfl (lv_at hl 1 rfl) ?_
  have hPc := hP.sub (ws' := [kx_0 q_row q_cell len]) [1] rfl
  have hKc := hK.sub (tys' := []) [] rfl
  refine vp_callSi (W.runV (As := [.int p0]) (rest := []) ⟨hx, hb, hml, hown, hts⟩ (c_X0_hasPlace l dC dI q_row q_cell len p0) (cwV 1 hts gX4_at_X0_hasPlace rfl rfl rfl (by decide +kernel) ⟨Nat.le_of_ble_eq_true rfl, Nat.le_of_ble_eq_true rfl⟩) ⟨fun a U g mk q => by obtain ⟨q0, qP, qK⟩ := q; exact ⟨q0, qP, va_K.moved (u := U) (U := U.calling g mk a) (Vm.Alike.refl U.vm) qK⟩, kx_rc0 hKc hPc (q0 := 0) rfl, fun U hU hW => ⟨rfl, by rw [hU]; exact hPc, va_K.moved hW.alike hKc⟩⟩ rfl rfl hl.1 rfl (lv_room (Nat.le_of_ble_eq_true rfl)) dX4_at_5 ⟨Nat.le_of_ble_eq_true rfl, Nat.le_of_ble_eq_true rfl⟩) (fun r_1 w_1 => ?_)
  rcases w_1 with ⟨rfl, w_1⟩ | ⟨rfl, w_1⟩
  · have w_1 : (0 ≤ p0.toInt ∧ p0.toInt < len.toInt) := w_1
    refine lv_if_ne (tgt := 19) hx hb dX4_at_8 (by decide) (fun c_2 => ?_) (fun c_2 => ?_)
    · refine lv_aload_n hx hb dX4_at_19 rfl (lv_at hl 0 rfl) ?_
      refine va_get (D := (dC, dI)) (ci := 4) (v := .ref q_row) (C := RX4) (T := TX4) (N := 9) hx hb hts hi_4 hown hK hP 0 rfl rfl 0 (by decide) hf_12 (fun _ h9 => h9) rfl dX4_at_20 ?_
      refine va_get (D := (dC, dI)) (ci := 0) (v := .ref q_cell) (C := RX0) (T := TX0) (N := 2) hx hb hts hi_0 hown hK hP 1 rfl rfl 0 (by decide) hf_110 (fun _ h9 => h9) rfl dX4_at_23 ?_
      refine lv_iload_n hx hb dX4_at_26 rfl (lv_at hl 1 rfl) ?_
      refine va_iald hx hb hK hP 2 0 rfl rfl (ki_in (om_10 w_1.1) (om_1 a1 w_1.2)) dX4_at_27 ?_
      refine lv_topi (fun y_3 ey_3 => ?_)
      have j_3 : y_3.toInt = (f p0.toNatClampNeg).toInt := congrArg Int32.toInt ey_3
      refine vx_ret ?_
      have hP9 := hP
      have hD9 := hD
      have hK9 := hK
      refine W.widen (k := 1) (n := 6) (Nat.le_of_ble_eq_true rfl) (Nat.le_of_ble_eq_true rfl) ?_
      exact W.iret (v := y_3) hx hb hr (hlocks := hlocks) (fun t ht hW => ⟨⟨y_3, (), rfl, ⟨by omega, by omega, ey_3⟩, by rw [ht]; exact hP9, va_K.moved hW.alike hK9, hD9⟩, hS.F ht⟩) hS.2.2 dX4_at_28
    · exact absurd c_2 (by decide)
  · have w_1 : (p0.toInt < 0 ∨ len.toInt ≤ p0.toInt) := w_1
    refine lv_if_ne (tgt := 19) hx hb dX4_at_8 (by decide) (fun c_4 => ?_) (fun c_4 => ?_)
    · exact absurd c_4 (by decide)
    · have hP9 := hP.sub (ws' := [kx_4 m_ q_row q_t t_ h0 k0 w_ z_ slots old, kx_0 q_row q_cell len, kx_a q_cell cyI 160 f]) [0, 1, 2] rfl
      have hD9 := hD.sub (ws' := [kx_4 m_ q_row q_t t_ h0 k0 w_ z_ slots old, kx_0 q_row q_cell len, kx_a q_cell cyI 160 f]) [0, 1, 2] (by decide) rfl
      have hK9 := hK.sub (tys' := [(cyI, .int)]) [0] rfl
      exact vx_throw0 (names := EXC) hx hb hl0 hown (by decide +kernel) (by decide +kernel) hc_107 hz_ex hat ki_ot hth.2.1 hth.2.2 hS (hl.1.trans hml.symm) dX4_at_11 dX4_at_14 dX4_at_15 dX4_at_18 (fun x h => (htab x h).elim) (Nat.le_of_ble_eq_true rfl) (Nat.le_of_ble_eq_true rfl) (Nat.le_of_ble_eq_true rfl) (Nat.le_of_ble_eq_true rfl) hlocks (fun t ha hz hk => ⟨(), (by omega), ⟨rfl, hP9.kept (fun k x hx => hk x.1 ((hP9 k x hx).lt)), va_K.moved ha hK9, hD9⟩, Nat.le_trans hS.1 hz, fun q h1 h2 => (hk q (Nat.lt_of_lt_of_le h1 hS.1)).trans (hS.2.1 q h1 h2)⟩) hS.2.2 (Nat.le_refl _) (Nat.le_refl _)

set_option maxHeartbeats 4000000 in
set_option maxRecDepth 100000 in
theorem c_X4_vote (l : Launch) (hl0 : l.stackTraces = false) (dC : Nat → ClassId) (dI : Nat → Nat → Nat) (m_ : Nat) (q_row : Nat) (q_t : Nat) (t_ : Nat) (h0 : Nat) (k0 : Nat) (w_ : Nat) (z_ : Nat) (slots : Int32) (old : Int32) (q_joined : Nat) (q_from : Nat) (q_to : Nat) (q_size : Nat) (q_lossOf : Nat) (q_lessBy : Nat) (q_value : Nat) (q_number : Nat) (nodes : Int32) (here : Int32) (q_cell : Nat) (cyI : ClassId) (len : Int32) (f : Nat → Int32) (ff : Nat → Int32) (ft : Nat → Int32) (fs : Nat → Int32) (fo : Nat → Int32) (uv : Nat → Int32) (un : Nat → Int32) (fe : Nat → Int32) (j_v : Nat) (j_n : Nat) (js : Int32) (jl : Int32) (je : Int32) (jv : Nat → Int32) (jn : Nat → Int32) (a_v : Nat) (a_n : Nat) (vs : Int32) (lo : Int32) (le : Int32) (fv : Nat → Int32) (fn : Nat → Int32) (p0 : Int32) (p1 : Int32) (p2 : Int32) (p3 : Int32) (sz : Nat) (a0 : 0 ≤ len.toInt) (a1 : len.toInt ≤ 160) (s0 : sixes fs) (l0 : laidP old ff ft nodes len) : vx_Met l yX4_vote wsX4_vote ({ frames := 8, cells := 1, slots := 6, locals := 360 }) (va_Pc [.ref m_, .int p0, .int p1, .int p2, .int p3] (fun U => U.heap.size = sz ∧ va_P (dC, dI) vwCl [kx_4 m_ q_row q_t t_ h0 k0 w_ z_ slots old, kx_2 q_t q_row q_joined q_from q_to q_size q_lossOf q_lessBy q_value q_number nodes here, kx_0 q_row q_cell len, kx_a q_cell cyI 160 f, kx_a q_from cyI 319 ff, kx_a q_to cyI 319 ft, kx_a q_size cyI 319 fs, kx_a q_lossOf cyI 319 fo, kx_a q_lessBy cyI 319 fe, kx_a q_value cyI 1914 uv, kx_a q_number cyI 1914 un, kx_3 q_joined j_v j_n js jl je, kx_a j_v cyI 12 jv, kx_a j_n cyI 12 jn, kx_3 h0 a_v a_n vs lo le, kx_a a_v cyI 12 fv, kx_a a_n cyI 12 fn] U.heap ∧ va_K (dC, dI) vwCl [(cyI, .int)] U ∧ va_D (fun _ => True) [kx_4 m_ q_row q_t t_ h0 k0 w_ z_ slots old, kx_2 q_t q_row q_joined q_from q_to q_size q_lossOf q_lessBy q_value q_number nodes here, kx_0 q_row q_cell len, kx_a q_cell cyI 160 f, kx_a q_from cyI 319 ff, kx_a q_to cyI 319 ft, kx_a q_size cyI 319 fs, kx_a q_lossOf cyI 319 fo, kx_a q_lessBy cyI 319 fe, kx_a q_value cyI 1914 uv, kx_a q_number cyI 1914 un, kx_3 q_joined j_v j_n js jl je, kx_a j_v cyI 12 jv, kx_a j_n cyI 12 jn, kx_3 h0 a_v a_n vs lo le, kx_a a_v cyI 12 fv, kx_a a_n cyI 12 fn] ∧ ki_ThA (va_A [kx_4 m_ q_row q_t t_ h0 k0 w_ z_ slots old, kx_2 q_t q_row q_joined q_from q_to q_size q_lossOf q_lessBy q_value q_number nodes here, kx_0 q_row q_cell len, kx_a q_cell cyI 160 f, kx_a q_from cyI 319 ff, kx_a q_to cyI 319 ft, kx_a q_size cyI 319 fs, kx_a q_lossOf cyI 319 fo, kx_a q_lessBy cyI 319 fe, kx_a q_value cyI 1914 uv, kx_a q_number cyI 1914 un, kx_3 q_joined j_v j_n js jl je, kx_a j_v cyI 12 jv, kx_a j_n cyI 12 jn, kx_3 h0 a_v a_n vs lo le, kx_a a_v cyI 12 fv, kx_a a_n cyI 12 fn] sz) U)) (va_Qi (fun (r : Int32) (u : Int32 × Int32 × Int32 × (Nat → Int32) × (Nat → Int32) × (Nat → Int32) × (Nat → Int32) × (Nat → Int32) × (Nat → Int32) × (Nat → Int32) × Int32 × Int32 × Int32 × (Nat → Int32) × (Nat → Int32) × Int32 × Int32 × Int32 × (Nat → Int32) × (Nat → Int32)) => (0 : Int) ≤ 1 ∧ laidP u.1 u.2.2.2.1 u.2.2.2.2.1 u.2.1 len ∧ sixes u.2.2.2.2.2.1) (fun (u : Int32 × Int32 × Int32 × (Nat → Int32) × (Nat → Int32) × (Nat → Int32) × (Nat → Int32) × (Nat → Int32) × (Nat → Int32) × (Nat → Int32) × Int32 × Int32 × Int32 × (Nat → Int32) × (Nat → Int32) × Int32 × Int32 × Int32 × (Nat → Int32) × (Nat → Int32)) (t : State) => va_P (dC, dI) vwCl [kx_4 m_ q_row q_t t_ h0 k0 w_ z_ slots u.1, kx_2 q_t q_row q_joined q_from q_to q_size q_lossOf q_lessBy q_value q_number u.2.1 u.2.2.1, kx_0 q_row q_cell len, kx_a q_cell cyI 160 f, kx_a q_from cyI 319 u.2.2.2.1, kx_a q_to cyI 319 u.2.2.2.2.1, kx_a q_size cyI 319 u.2.2.2.2.2.1, kx_a q_lossOf cyI 319 u.2.2.2.2.2.2.1, kx_a q_lessBy cyI 319 u.2.2.2.2.2.2.2.1, kx_a q_value cyI 1914 u.2.2.2.2.2.2.2.2.1, kx_a q_number cyI 1914 u.2.2.2.2.2.2.2.2.2.1, kx_3 q_joined j_v j_n u.2.2.2.2.2.2.2.2.2.2.1 u.2.2.2.2.2.2.2.2.2.2.2.1 u.2.2.2.2.2.2.2.2.2.2.2.2.1, kx_a j_v cyI 12 u.2.2.2.2.2.2.2.2.2.2.2.2.2.1, kx_a j_n cyI 12 u.2.2.2.2.2.2.2.2.2.2.2.2.2.2.1, kx_3 h0 a_v a_n u.2.2.2.2.2.2.2.2.2.2.2.2.2.2.2.1 u.2.2.2.2.2.2.2.2.2.2.2.2.2.2.2.2.1 u.2.2.2.2.2.2.2.2.2.2.2.2.2.2.2.2.2.1, kx_a a_v cyI 12 u.2.2.2.2.2.2.2.2.2.2.2.2.2.2.2.2.2.2.1, kx_a a_n cyI 12 u.2.2.2.2.2.2.2.2.2.2.2.2.2.2.2.2.2.2.2] t.heap ∧ va_K (dC, dI) vwCl [(cyI, .int)] t ∧ va_D (va_A [kx_4 m_ q_row q_t t_ h0 k0 w_ z_ slots old, kx_2 q_t q_row q_joined q_from q_to q_size q_lossOf q_lessBy q_value q_number nodes here, kx_0 q_row q_cell len, kx_a q_cell cyI 160 f, kx_a q_from cyI 319 ff, kx_a q_to cyI 319 ft, kx_a q_size cyI 319 fs, kx_a q_lossOf cyI 319 fo, kx_a q_lessBy cyI 319 fe, kx_a q_value cyI 1914 uv, kx_a q_number cyI 1914 un, kx_3 q_joined j_v j_n js jl je, kx_a j_v cyI 12 jv, kx_a j_n cyI 12 jn, kx_3 h0 a_v a_n vs lo le, kx_a a_v cyI 12 fv, kx_a a_n cyI 12 fn] sz) [kx_4 m_ q_row q_t t_ h0 k0 w_ z_ slots u.1, kx_2 q_t q_row q_joined q_from q_to q_size q_lossOf q_lessBy q_value q_number u.2.1 u.2.2.1, kx_0 q_row q_cell len, kx_a q_cell cyI 160 f, kx_a q_from cyI 319 u.2.2.2.1, kx_a q_to cyI 319 u.2.2.2.2.1, kx_a q_size cyI 319 u.2.2.2.2.2.1, kx_a q_lossOf cyI 319 u.2.2.2.2.2.2.1, kx_a q_lessBy cyI 319 u.2.2.2.2.2.2.2.1, kx_a q_value cyI 1914 u.2.2.2.2.2.2.2.2.1, kx_a q_number cyI 1914 u.2.2.2.2.2.2.2.2.2.1, kx_3 q_joined j_v j_n u.2.2.2.2.2.2.2.2.2.2.1 u.2.2.2.2.2.2.2.2.2.2.2.1 u.2.2.2.2.2.2.2.2.2.2.2.2.1, kx_a j_v cyI 12 u.2.2.2.2.2.2.2.2.2.2.2.2.2.1, kx_a j_n cyI 12 u.2.2.2.2.2.2.2.2.2.2.2.2.2.2.1, kx_3 h0 a_v a_n u.2.2.2.2.2.2.2.2.2.2.2.2.2.2.2.1 u.2.2.2.2.2.2.2.2.2.2.2.2.2.2.2.2.1 u.2.2.2.2.2.2.2.2.2.2.2.2.2.2.2.2.2.1, kx_a a_v cyI 12 u.2.2.2.2.2.2.2.2.2.2.2.2.2.2.2.2.2.2.1, kx_a a_n cyI 12 u.2.2.2.2.2.2.2.2.2.2.2.2.2.2.2.2.2.2.2]) (va_A [kx_4 m_ q_row q_t t_ h0 k0 w_ z_ slots old, kx_2 q_t q_row q_joined q_from q_to q_size q_lossOf q_lessBy q_value q_number nodes here, kx_0 q_row q_cell len, kx_a q_cell cyI 160 f, kx_a q_from cyI 319 ff, kx_a q_to cyI 319 ft, kx_a q_size cyI 319 fs, kx_a q_lossOf cyI 319 fo, kx_a q_lessBy cyI 319 fe, kx_a q_value cyI 1914 uv, kx_a q_number cyI 1914 un, kx_3 q_joined j_v j_n js jl je, kx_a j_v cyI 12 jv, kx_a j_n cyI 12 jn, kx_3 h0 a_v a_n vs lo le, kx_a a_v cyI 12 fv, kx_a a_n cyI 12 fn] sz)) (vx_X (fun u : Int32 × Int32 × Int32 × (Nat → Int32) × (Nat → Int32) × (Nat → Int32) × (Nat → Int32) × (Nat → Int32) × (Nat → Int32) × (Nat → Int32) × Int32 × Int32 × Int32 × (Nat → Int32) × (Nat → Int32) × Int32 × Int32 × Int32 × (Nat → Int32) × (Nat → Int32) => (0 : Int) ≤ 1 ∧ laidP u.1 u.2.2.2.1 u.2.2.2.2.1 u.2.1 len ∧ sixes u.2.2.2.2.2.1) (fun (E : String) (u : Int32 × Int32 × Int32 × (Nat → Int32) × (Nat → Int32) × (Nat → Int32) × (Nat → Int32) × (Nat → Int32) × (Nat → Int32) × (Nat → Int32) × Int32 × Int32 × Int32 × (Nat → Int32) × (Nat → Int32) × Int32 × Int32 × Int32 × (Nat → Int32) × (Nat → Int32)) (t : State) => E = EXN ∧ va_P (dC, dI) vwCl [kx_4 m_ q_row q_t t_ h0 k0 w_ z_ slots u.1, kx_2 q_t q_row q_joined q_from q_to q_size q_lossOf q_lessBy q_value q_number u.2.1 u.2.2.1, kx_0 q_row q_cell len, kx_a q_cell cyI 160 f, kx_a q_from cyI 319 u.2.2.2.1, kx_a q_to cyI 319 u.2.2.2.2.1, kx_a q_size cyI 319 u.2.2.2.2.2.1, kx_a q_lossOf cyI 319 u.2.2.2.2.2.2.1, kx_a q_lessBy cyI 319 u.2.2.2.2.2.2.2.1, kx_a q_value cyI 1914 u.2.2.2.2.2.2.2.2.1, kx_a q_number cyI 1914 u.2.2.2.2.2.2.2.2.2.1, kx_3 q_joined j_v j_n u.2.2.2.2.2.2.2.2.2.2.1 u.2.2.2.2.2.2.2.2.2.2.2.1 u.2.2.2.2.2.2.2.2.2.2.2.2.1, kx_a j_v cyI 12 u.2.2.2.2.2.2.2.2.2.2.2.2.2.1, kx_a j_n cyI 12 u.2.2.2.2.2.2.2.2.2.2.2.2.2.2.1, kx_3 h0 a_v a_n u.2.2.2.2.2.2.2.2.2.2.2.2.2.2.2.1 u.2.2.2.2.2.2.2.2.2.2.2.2.2.2.2.2.1 u.2.2.2.2.2.2.2.2.2.2.2.2.2.2.2.2.2.1, kx_a a_v cyI 12 u.2.2.2.2.2.2.2.2.2.2.2.2.2.2.2.2.2.2.1, kx_a a_n cyI 12 u.2.2.2.2.2.2.2.2.2.2.2.2.2.2.2.2.2.2.2] t.heap ∧ va_K (dC, dI) vwCl [(cyI, .int)] t ∧ va_D (va_A [kx_4 m_ q_row q_t t_ h0 k0 w_ z_ slots old, kx_2 q_t q_row q_joined q_from q_to q_size q_lossOf q_lessBy q_value q_number nodes here, kx_0 q_row q_cell len, kx_a q_cell cyI 160 f, kx_a q_from cyI 319 ff, kx_a q_to cyI 319 ft, kx_a q_size cyI 319 fs, kx_a q_lossOf cyI 319 fo, kx_a q_lessBy cyI 319 fe, kx_a q_value cyI 1914 uv, kx_a q_number cyI 1914 un, kx_3 q_joined j_v j_n js jl je, kx_a j_v cyI 12 jv, kx_a j_n cyI 12 jn, kx_3 h0 a_v a_n vs lo le, kx_a a_v cyI 12 fv, kx_a a_n cyI 12 fn] sz) [kx_4 m_ q_row q_t t_ h0 k0 w_ z_ slots u.1, kx_2 q_t q_row q_joined q_from q_to q_size q_lossOf q_lessBy q_value q_number u.2.1 u.2.2.1, kx_0 q_row q_cell len, kx_a q_cell cyI 160 f, kx_a q_from cyI 319 u.2.2.2.1, kx_a q_to cyI 319 u.2.2.2.2.1, kx_a q_size cyI 319 u.2.2.2.2.2.1, kx_a q_lossOf cyI 319 u.2.2.2.2.2.2.1, kx_a q_lessBy cyI 319 u.2.2.2.2.2.2.2.1, kx_a q_value cyI 1914 u.2.2.2.2.2.2.2.2.1, kx_a q_number cyI 1914 u.2.2.2.2.2.2.2.2.2.1, kx_3 q_joined j_v j_n u.2.2.2.2.2.2.2.2.2.2.1 u.2.2.2.2.2.2.2.2.2.2.2.1 u.2.2.2.2.2.2.2.2.2.2.2.2.1, kx_a j_v cyI 12 u.2.2.2.2.2.2.2.2.2.2.2.2.2.1, kx_a j_n cyI 12 u.2.2.2.2.2.2.2.2.2.2.2.2.2.2.1, kx_3 h0 a_v a_n u.2.2.2.2.2.2.2.2.2.2.2.2.2.2.2.1 u.2.2.2.2.2.2.2.2.2.2.2.2.2.2.2.2.1 u.2.2.2.2.2.2.2.2.2.2.2.2.2.2.2.2.2.1, kx_a a_v cyI 12 u.2.2.2.2.2.2.2.2.2.2.2.2.2.2.2.2.2.2.1, kx_a a_n cyI 12 u.2.2.2.2.2.2.2.2.2.2.2.2.2.2.2.2.2.2.2]) (va_A [kx_4 m_ q_row q_t t_ h0 k0 w_ z_ slots old, kx_2 q_t q_row q_joined q_from q_to q_size q_lossOf q_lessBy q_value q_number nodes here, kx_0 q_row q_cell len, kx_a q_cell cyI 160 f, kx_a q_from cyI 319 ff, kx_a q_to cyI 319 ft, kx_a q_size cyI 319 fs, kx_a q_lossOf cyI 319 fo, kx_a q_lessBy cyI 319 fe, kx_a q_value cyI 1914 uv, kx_a q_number cyI 1914 un, kx_3 q_joined j_v j_n js jl je, kx_a j_v cyI 12 jv, kx_a j_n cyI 12 jn, kx_3 h0 a_v a_n vs lo le, kx_a a_v cyI 12 fv, kx_a a_n cyI 12 fn] sz)) 1 6 (va_A [kx_4 m_ q_row q_t t_ h0 k0 w_ z_ slots old, kx_2 q_t q_row q_joined q_from q_to q_size q_lossOf q_lessBy q_value q_number nodes here, kx_0 q_row q_cell len, kx_a q_cell cyI 160 f, kx_a q_from cyI 319 ff, kx_a q_to cyI 319 ft, kx_a q_size cyI 319 fs, kx_a q_lossOf cyI 319 fo, kx_a q_lessBy cyI 319 fe, kx_a q_value cyI 1914 uv, kx_a q_number cyI 1914 un, kx_3 q_joined j_v j_n js jl je, kx_a j_v cyI 12 jv, kx_a j_n cyI 12 jn, kx_3 h0 a_v a_n vs lo le, kx_a a_v cyI 12 fv, kx_a a_n cyI 12 fn] sz) := by
  refine vx_ofW (cc := cX4_vote) (maxL := 7) (ret := (some .int)) (by decide) rfl ?_
  intro p e s m args below meth c s₁ B hml htab hv
  obtain ⟨rfl, hsz, hP, hK, hD0, hth⟩ := hv
  have hx := B.exec
  have hb := B.bytes
  have hr := B.returns
  have hts := atoms_spec (ws := wsX4_vote) B.pre
  have hown : s.vm.findClass RX4 = some m.cls := findClass_of_methodNamed B.named
  have hlocks := B.notSynchronized
  have hat : ∀ w ∈ vx_at0 RX4 109 EXN EXC, w.before _ s = true := vx_hat (B := EXD) (fun w h => hts w (List.mem_cons_of_mem _ (List.mem_append_right _ h))) ki_bad (ki_ex hth)
  subst hsz
  have hD := hD0.self (sz := s.heap.size)
  generalize hAe : va_A [kx_4 m_ q_row q_t t_ h0 k0 w_ z_ slots old, kx_2 q_t q_row q_joined q_from q_to q_size q_lossOf q_lessBy q_value q_number nodes here, kx_0 q_row q_cell len, kx_a q_cell cyI 160 f, kx_a q_from cyI 319 ff, kx_a q_to cyI 319 ft, kx_a q_size cyI 319 fs, kx_a q_lossOf cyI 319 fo, kx_a q_lessBy cyI 319 fe, kx_a q_value cyI 1914 uv, kx_a q_number cyI 1914 un, kx_3 q_joined j_v j_n js jl je, kx_a j_v cyI 12 jv, kx_a j_n cyI 12 jn, kx_3 h0 a_v a_n vs lo le, kx_a a_v cyI 12 fv, kx_a a_n cyI 12 fn] s.heap.size = A at hD hth ⊢
  have hA : ∀ q : Nat, s.heap.size ≤ q → A q := fun q h => by rw [← hAe]; exact Or.inr h
  have hS : va_S A s.heap s.heap [] := va_S.rf
  have hP : va_P (dC, dI) vwCl [kx_4 m_ q_row q_t t_ h0 k0 w_ z_ slots old, kx_2 q_t q_row q_joined q_from q_to q_size q_lossOf q_lessBy q_value q_number nodes here, kx_0 q_row q_cell len, kx_a q_cell cyI 160 f, kx_a q_from cyI 319 ff, kx_a q_to cyI 319 ft, kx_a q_size cyI 319 fs, kx_a q_lossOf cyI 319 fo, kx_a q_lessBy cyI 319 fe, kx_a q_value cyI 1914 uv, kx_a q_number cyI 1914 un, kx_3 q_joined j_v j_n js jl je, kx_a j_v cyI 12 jv, kx_a j_n cyI 12 jn, kx_3 h0 a_v a_n vs lo le, kx_a a_v cyI 12 fv, kx_a a_n cyI 12 fn] s.heap := hP
  have hl := lv_entry ([.ref m_, .int p0, .int p1, .int p2, .int p3]) (n := 7) (Nat.le_of_ble_eq_true rfl)
  rw [lg_entry_eq]
  generalize (lg_sl ([.ref m_, .int p0, .int p1, .int p2, .int p3]) ++ List.replicate (7 - (lg_sl ([.ref m_, .int p0, .int p1, .int p2, .int p3])).length) Slot.unset).toArray = ls at hl ⊢
  have hl : lv_has ls 7 [(0, .ref m_), (1, .int p0), (2, .int p1), (3, .int p2), (4, .int p3)] := hl
  have hf_12 := hts (.fieldLink RX4 12 "MajorityIndex" "row" "LMajorityIndex$Row;") (List.mem_of_getElem? (i := 3) rfl)
  have hi_4 : ∀ w ∈ u_ws RX4 TX4 9, w ∈ wsX4_vote := fun w h => List.mem_cons_of_mem _ (List.mem_append_left _ (List.mem_append_left _ (List.mem_append_left _ (List.mem_append_left _ (List.mem_append_right _ h)))))
  have hc_107 := hts (.classLink RX4 107 EXN) (by decide +kernel)
  have hz_ex := hts (.initialized EXN) (by decide +kernel)
  have hf_126 := hts (.fieldLink RX4 126 "MajorityIndex$Tree" "size" "[I") (List.mem_of_getElem? (i := 4) rfl)
  have hi_2 : ∀ w ∈ u_ws RX2 TX2 11, w ∈ wsX4_vote := fun w h => List.mem_cons_of_mem _ (List.mem_append_left _ (List.mem_append_left _ (List.mem_append_left _ (List.mem_append_right _ h))))
  have hf_35 := hts (.fieldLink RX4 35 "MajorityIndex" "votes" "LMajorityIndex$Votes;") (List.mem_of_getElem? (i := 5) rfl)
  have hf_136 := hts (.fieldLink RX4 136 "MajorityIndex$Votes" "number" "[I") (List.mem_of_getElem? (i := 7) rfl)
  have hi_3 : ∀ w ∈ u_ws RX3 TX3 5, w ∈ wsX4_vote := fun w h => List.mem_cons_of_mem _ (List.mem_append_left _ (List.mem_append_left _ (List.mem_append_right _ h)))
  have hf_133 := hts (.fieldLink RX4 133 "MajorityIndex$Votes" "value" "[I") (List.mem_of_getElem? (i := 6) rfl)
  refine lv_aload_n hx hb dX4_vote_0 rfl (lv_at hl 0 rfl) ?_
  refine va_get (D := (dC, dI)) (ci := 4) (v := .ref q_row) (C := RX4) (T := TX4) (N := 9) hx hb hts hi_4 hown hK hP 0 rfl rfl 0 (by decide) hf_12 (fun _ h9 => h9) rfl dX4_vote_1 ?_
  refine lv_iload_n hx hb dX4_vote_4 rfl (lv_at hl 1 rfl) ?_
  refine lv_iload_n hx hb dX4_vote_5 rfl (lv_at hl 2 rfl) ?_
  have hPc := hP.sub (ws' := [kx_0 q_row q_cell len]) [2] rfl
  have hKc := hK.sub (tys' := []) [] rfl
  refine vp_callSi (W.runV (As := [.int p0, .int p1]) (rest := []) ⟨hx, hb, hml, hown, hts⟩ (c_X0_hasRange l dC dI q_row q_cell len p0 p1) (cwV 2 hts gX4_vote_X0_hasRange rfl rfl rfl (by decide +kernel) ⟨Nat.le_of_ble_eq_true rfl, Nat.le_of_ble_eq_true rfl⟩) ⟨fun a U g mk q => by obtain ⟨q0, qP, qK⟩ := q; exact ⟨q0, qP, va_K.moved (u := U) (U := U.calling g mk a) (Vm.Alike.refl U.vm) qK⟩, kx_rc0 hKc hPc (q0 := 0) rfl, fun U hU hW => ⟨rfl, by rw [hU]; exact hPc, va_K.moved hW.alike hKc⟩⟩ rfl rfl hl.1 rfl (lv_room (Nat.le_of_ble_eq_true rfl)) dX4_vote_6 ⟨Nat.le_of_ble_eq_true rfl, Nat.le_of_ble_eq_true rfl⟩) (fun r_1 w_1 => ?_)
  rcases w_1 with ⟨rfl, w_1⟩ | ⟨rfl, w_1⟩
  · have w_1 : (0 ≤ p0.toInt ∧ p0.toInt < p1.toInt ∧ p1.toInt ≤ len.toInt) := w_1
    refine lv_if_eq (tgt := 23) hx hb dX4_vote_9 (by decide) (fun c_2 => ?_) (fun c_2 => ?_)
    · exact absurd c_2 (by decide)
    · refine lv_iload hx hb dX4_vote_12 (lv_at hl 4 rfl) ?_
      refine lv_if_lt (tgt := 23) hx hb dX4_vote_14 (by decide) (fun c_3 => ?_) (fun c_3 => ?_)
      · have i_3 : p3.toInt < 0 := kc_lt c_3
        have hP9 := hP.sub (ws' := [kx_4 m_ q_row q_t t_ h0 k0 w_ z_ slots old, kx_2 q_t q_row q_joined q_from q_to q_size q_lossOf q_lessBy q_value q_number nodes here, kx_0 q_row q_cell len, kx_a q_cell cyI 160 f, kx_a q_from cyI 319 ff, kx_a q_to cyI 319 ft, kx_a q_size cyI 319 fs, kx_a q_lossOf cyI 319 fo, kx_a q_lessBy cyI 319 fe, kx_a q_value cyI 1914 uv, kx_a q_number cyI 1914 un, kx_3 q_joined j_v j_n js jl je, kx_a j_v cyI 12 jv, kx_a j_n cyI 12 jn, kx_3 h0 a_v a_n vs lo le, kx_a a_v cyI 12 fv, kx_a a_n cyI 12 fn]) [0, 1, 2, 3, 4, 5, 6, 7, 8, 9, 10, 11, 12, 13, 14, 15, 16] rfl
        have hD9 := hD.sub (ws' := [kx_4 m_ q_row q_t t_ h0 k0 w_ z_ slots old, kx_2 q_t q_row q_joined q_from q_to q_size q_lossOf q_lessBy q_value q_number nodes here, kx_0 q_row q_cell len, kx_a q_cell cyI 160 f, kx_a q_from cyI 319 ff, kx_a q_to cyI 319 ft, kx_a q_size cyI 319 fs, kx_a q_lossOf cyI 319 fo, kx_a q_lessBy cyI 319 fe, kx_a q_value cyI 1914 uv, kx_a q_number cyI 1914 un, kx_3 q_joined j_v j_n js jl je, kx_a j_v cyI 12 jv, kx_a j_n cyI 12 jn, kx_3 h0 a_v a_n vs lo le, kx_a a_v cyI 12 fv, kx_a a_n cyI 12 fn]) [0, 1, 2, 3, 4, 5, 6, 7, 8, 9, 10, 11, 12, 13, 14, 15, 16] (by decide) rfl
        have hK9 := hK.sub (tys' := [(cyI, .int)]) [0] rfl
        exact vx_throw0 (names := EXC) hx hb hl0 hown (by decide +kernel) (by decide +kernel) hc_107 hz_ex hat ki_ot hth.2.1 hth.2.2 hS (hl.1.trans hml.symm) dX4_vote_23 dX4_vote_26 dX4_vote_27 dX4_vote_30 (fun x h => (htab x h).elim) (Nat.le_of_ble_eq_true rfl) (Nat.le_of_ble_eq_true rfl) (Nat.le_of_ble_eq_true rfl) (Nat.le_of_ble_eq_true rfl) hlocks (fun t ha hz hk => ⟨(old, nodes, here, ff, ft, fs, fo, fe, uv, un, js, jl, je, jv, jn, vs, lo, le, fv, fn), ⟨(by decide), l0, s0⟩, ⟨rfl, hP9.kept (fun k x hx => hk x.1 ((hP9 k x hx).lt)), va_K.moved ha hK9, hD9⟩, Nat.le_trans hS.1 hz, fun q h1 h2 => (hk q (Nat.lt_of_lt_of_le h1 hS.1)).trans (hS.2.1 q h1 h2)⟩) hS.2.2 (Nat.le_refl _) (Nat.le_refl _)
      · have i_3 : 0 ≤ p3.toInt := kc_nlt c_3
        refine lv_iload hx hb dX4_vote_17 (lv_at hl 4 rfl) ?_
        refine lv_iconst (v := 1) hx hb dX4_vote_19 (by decide) ?_
        refine lv_icmp_le (tgt := 31) hx hb dX4_vote_20 (by decide) (fun c_4 => ?_) (fun c_4 => ?_)
        · have i_4 : p3.toInt ≤ 1 := kc_le c_4
          refine lv_aload_n hx hb dX4_vote_31 rfl (lv_at hl 0 rfl) ?_
          obtain ⟨hPc, hDc, hFc, hCc⟩ := kx_preM (wc := [kx_4 m_ q_row q_t t_ h0 k0 w_ z_ slots old, kx_2 q_t q_row q_joined q_from q_to q_size q_lossOf q_lessBy q_value q_number nodes here, kx_0 q_row q_cell len, kx_a q_cell cyI 160 f, kx_a q_from cyI 319 ff, kx_a q_to cyI 319 ft, kx_a q_size cyI 319 fs, kx_a q_lossOf cyI 319 fo, kx_a q_lessBy cyI 319 fe, kx_a q_value cyI 1914 uv, kx_a q_number cyI 1914 un, kx_3 q_joined j_v j_n js jl je, kx_a j_v cyI 12 jv, kx_a j_n cyI 12 jn]) hP hD hS hA [true, true, true, true, true, true, true, true, true, true, true, true, true, true, false, false, false] rfl
          have hKc := hK
          refine va_callr (va_runV (As := []) (rest := []) ⟨hx, hb, hml, hown, hts⟩ (kx_un (c_X4_laidTree l dC dI m_ q_row q_t t_ h0 k0 w_ z_ slots old q_joined q_from q_to q_size q_lossOf q_lessBy q_value q_number nodes here q_cell cyI len f ff ft fs fo uv un fe j_v j_n js jl je jv jn s.heap.size a0 a1 s0 l0)) (cwV 0 hts gX4_vote_X4_laidTree rfl rfl rfl (by decide +kernel) ⟨Nat.le_of_ble_eq_true rfl, Nat.le_of_ble_eq_true rfl⟩) ⟨fun a U g mk q => by obtain ⟨q0, q1, qP, qK, qD⟩ := q; exact ⟨q0, q1, qP, va_K.moved (u := U) (U := U.calling g mk a) (Vm.Alike.refl U.vm) qK, qD⟩, kx_rc4 hKc hPc (q0 := 0) rfl, fun U hU hW => ⟨rfl, by rw [hU], by rw [hU]; exact hPc, va_K.moved hW.alike hKc, hDc.weaken (fun _ _ _ _ => trivial)⟩⟩ rfl rfl hl.1 rfl (lv_room (Nat.le_of_ble_eq_true rfl)) dX4_vote_32 ⟨Nat.le_of_ble_eq_true rfl, Nat.le_of_ble_eq_true rfl⟩) hS (fun q _ h => hFc q h) hFc (fun u ra t H1 locs ht hvm w_5 hB hz1 hk1 hS => ?_)
          obtain ⟨o_6, o_7, o_8, o_9, o_10, o_11, o_12, o_13, o_14, o_15, o_16, o_17, o_18, o_19, o_20⟩ := u
          dsimp only at w_5 hB
          obtain ⟨er, hP1, hK1, hD1⟩ := hB
          rw [ht] at hP1
          have hK1 := va_K.moved hvm.symm hK1
          obtain ⟨hP, hD⟩ := kx_joinM (w2 := [kx_4 m_ q_row q_t t_ h0 k0 w_ z_ slots o_6, kx_2 q_t q_row q_joined q_from q_to q_size q_lossOf q_lessBy q_value q_number o_7 o_8, kx_0 q_row q_cell len, kx_a q_cell cyI 160 f, kx_a q_from cyI 319 o_9, kx_a q_to cyI 319 o_10, kx_a q_size cyI 319 o_11, kx_a q_lossOf cyI 319 o_12, kx_a q_lessBy cyI 319 o_13, kx_a q_value cyI 1914 o_14, kx_a q_number cyI 1914 o_15, kx_3 q_joined j_v j_n o_16 o_17 o_18, kx_a j_v cyI 12 o_19, kx_a j_n cyI 12 o_20, kx_3 h0 a_v a_n vs lo le, kx_a a_v cyI 12 fv, kx_a a_n cyI 12 fn]) hP hD hP1 hD1 hk1 hFc [true, true, true, true, true, true, true, true, true, true, true, true, true, true, false, false, false] hCc rfl
          clear hP1 hD1 hK1 hk1 hz1 hFc hDc hPc hKc hCc
          generalize H1 = H at hP hS ⊢
          have w_5 : o_6.toInt = 0 ∧ 0 ≤ o_7.toInt ∧ o_7.toInt ≤ 319 ∧ sixes o_11 ∧ treeOk o_9 o_10 o_7.toInt len.toInt := w_5
          rw [er]
          refine lv_astore (lv' := [(5, .ref q_t), (0, .ref m_), (1, .int p0), (2, .int p1), (3, .int p2), (4, .int p3)]) hx hb dX4_vote_35 hl (by decide) rfl (fun ls hl => ?_)
          refine lv_aload hx hb dX4_vote_37 (lv_at hl 0 rfl) ?_
          refine lv_iload_n hx hb dX4_vote_39 rfl (lv_at hl 2 rfl) ?_
          refine lv_iload_n hx hb dX4_vote_40 rfl (lv_at hl 3 rfl) ?_
          have hPc := hP.sub (ws' := [kx_2 q_t q_row q_joined q_from q_to q_size q_lossOf q_lessBy q_value q_number o_7 o_8, kx_a q_from cyI 319 o_9, kx_a q_to cyI 319 o_10]) [1, 4, 5] rfl
          have hKc := hK
          refine vp_callSi (W.runV (As := [.int p0, .int p1]) (rest := []) ⟨hx, hb, hml, hown, hts⟩ (c_X2_find l dC dI q_t q_row q_joined q_from q_to q_size q_lossOf q_lessBy q_value q_number o_7 o_8 cyI o_9 o_10 p0 p1 w_5.2.1 w_5.2.2.1) (cwV 2 hts gX4_vote_X2_find rfl rfl rfl (by decide +kernel) ⟨Nat.le_of_ble_eq_true rfl, Nat.le_of_ble_eq_true rfl⟩) ⟨fun a U g mk q => by obtain ⟨q0, qP, qK⟩ := q; exact ⟨q0, qP, va_K.moved (u := U) (U := U.calling g mk a) (Vm.Alike.refl U.vm) qK⟩, kx_rc2 hKc hPc (q0 := 0) rfl, fun U hU hW => ⟨rfl, by rw [hU]; exact hPc, va_K.moved hW.alike hKc⟩⟩ rfl rfl hl.1 rfl (lv_room (Nat.le_of_ble_eq_true rfl)) dX4_vote_41 ⟨Nat.le_of_ble_eq_true rfl, Nat.le_of_ble_eq_true rfl⟩) (fun r_21 w_21 => ?_)
          have w_21 : (r_21.toInt = -1 ∨ (0 ≤ r_21.toInt ∧ r_21.toInt < o_7.toInt)) := w_21
          refine lv_istore (lv' := [(6, .int r_21), (5, .ref q_t), (0, .ref m_), (1, .int p0), (2, .int p1), (3, .int p2), (4, .int p3)]) hx hb dX4_vote_44 hl (by decide) rfl (fun ls hl => ?_)
          refine lv_iload hx hb dX4_vote_46 (lv_at hl 0 rfl) ?_
          refine lv_iconst (v := (-1)) hx hb dX4_vote_48 (by decide) ?_
          refine lv_icmp_eq (tgt := 68) hx hb dX4_vote_49 (by decide) (fun c_22 => ?_) (fun c_22 => ?_)
          · have i_22 : r_21.toInt = (-1) := kc_eq c_22
            have hP9 := hP.sub (ws' := [kx_4 m_ q_row q_t t_ h0 k0 w_ z_ slots o_6, kx_2 q_t q_row q_joined q_from q_to q_size q_lossOf q_lessBy q_value q_number o_7 o_8, kx_0 q_row q_cell len, kx_a q_cell cyI 160 f, kx_a q_from cyI 319 o_9, kx_a q_to cyI 319 o_10, kx_a q_size cyI 319 o_11, kx_a q_lossOf cyI 319 o_12, kx_a q_lessBy cyI 319 o_13, kx_a q_value cyI 1914 o_14, kx_a q_number cyI 1914 o_15, kx_3 q_joined j_v j_n o_16 o_17 o_18, kx_a j_v cyI 12 o_19, kx_a j_n cyI 12 o_20, kx_3 h0 a_v a_n vs lo le, kx_a a_v cyI 12 fv, kx_a a_n cyI 12 fn]) [0, 1, 2, 3, 4, 5, 6, 7, 8, 9, 10, 11, 12, 13, 14, 15, 16] rfl
            have hD9 := hD.sub (ws' := [kx_4 m_ q_row q_t t_ h0 k0 w_ z_ slots o_6, kx_2 q_t q_row q_joined q_from q_to q_size q_lossOf q_lessBy q_value q_number o_7 o_8, kx_0 q_row q_cell len, kx_a q_cell cyI 160 f, kx_a q_from cyI 319 o_9, kx_a q_to cyI 319 o_10, kx_a q_size cyI 319 o_11, kx_a q_lossOf cyI 319 o_12, kx_a q_lessBy cyI 319 o_13, kx_a q_value cyI 1914 o_14, kx_a q_number cyI 1914 o_15, kx_3 q_joined j_v j_n o_16 o_17 o_18, kx_a j_v cyI 12 o_19, kx_a j_n cyI 12 o_20, kx_3 h0 a_v a_n vs lo le, kx_a a_v cyI 12 fv, kx_a a_n cyI 12 fn]) [0, 1, 2, 3, 4, 5, 6, 7, 8, 9, 10, 11, 12, 13, 14, 15, 16] (by decide) rfl
            have hK9 := hK.sub (tys' := [(cyI, .int)]) [0] rfl
            exact vx_throw0 (names := EXC) hx hb hl0 hown (by decide +kernel) (by decide +kernel) hc_107 hz_ex hat ki_ot hth.2.1 hth.2.2 hS (hl.1.trans hml.symm) dX4_vote_68 dX4_vote_71 dX4_vote_72 dX4_vote_75 (fun x h => (htab x h).elim) (Nat.le_of_ble_eq_true rfl) (Nat.le_of_ble_eq_true rfl) (Nat.le_of_ble_eq_true rfl) (Nat.le_of_ble_eq_true rfl) hlocks (fun t ha hz hk => ⟨(o_6, o_7, o_8, o_9, o_10, o_11, o_12, o_13, o_14, o_15, o_16, o_17, o_18, o_19, o_20, vs, lo, le, fv, fn), ⟨(by decide), (fun _ => ⟨(by (try dsimp only); omega), (by (try dsimp only); omega), w_5.2.2.2.2⟩), w_5.2.2.2.1⟩, ⟨rfl, hP9.kept (fun k x hx => hk x.1 ((hP9 k x hx).lt)), va_K.moved ha hK9, hD9⟩, Nat.le_trans hS.1 hz, fun q h1 h2 => (hk q (Nat.lt_of_lt_of_le h1 hS.1)).trans (hS.2.1 q h1 h2)⟩) hS.2.2 (Nat.le_refl _) (Nat.le_refl _)
          · have i_22 : ¬ r_21.toInt = (-1) := kc_ne c_22
            refine lv_iload_n hx hb dX4_vote_52 rfl (lv_at hl 5 rfl) ?_
            refine lv_if_lt (tgt := 68) hx hb dX4_vote_53 (by decide) (fun c_23 => ?_) (fun c_23 => ?_)
            · have i_23 : p2.toInt < 0 := kc_lt c_23
              have hP9 := hP.sub (ws' := [kx_4 m_ q_row q_t t_ h0 k0 w_ z_ slots o_6, kx_2 q_t q_row q_joined q_from q_to q_size q_lossOf q_lessBy q_value q_number o_7 o_8, kx_0 q_row q_cell len, kx_a q_cell cyI 160 f, kx_a q_from cyI 319 o_9, kx_a q_to cyI 319 o_10, kx_a q_size cyI 319 o_11, kx_a q_lossOf cyI 319 o_12, kx_a q_lessBy cyI 319 o_13, kx_a q_value cyI 1914 o_14, kx_a q_number cyI 1914 o_15, kx_3 q_joined j_v j_n o_16 o_17 o_18, kx_a j_v cyI 12 o_19, kx_a j_n cyI 12 o_20, kx_3 h0 a_v a_n vs lo le, kx_a a_v cyI 12 fv, kx_a a_n cyI 12 fn]) [0, 1, 2, 3, 4, 5, 6, 7, 8, 9, 10, 11, 12, 13, 14, 15, 16] rfl
              have hD9 := hD.sub (ws' := [kx_4 m_ q_row q_t t_ h0 k0 w_ z_ slots o_6, kx_2 q_t q_row q_joined q_from q_to q_size q_lossOf q_lessBy q_value q_number o_7 o_8, kx_0 q_row q_cell len, kx_a q_cell cyI 160 f, kx_a q_from cyI 319 o_9, kx_a q_to cyI 319 o_10, kx_a q_size cyI 319 o_11, kx_a q_lossOf cyI 319 o_12, kx_a q_lessBy cyI 319 o_13, kx_a q_value cyI 1914 o_14, kx_a q_number cyI 1914 o_15, kx_3 q_joined j_v j_n o_16 o_17 o_18, kx_a j_v cyI 12 o_19, kx_a j_n cyI 12 o_20, kx_3 h0 a_v a_n vs lo le, kx_a a_v cyI 12 fv, kx_a a_n cyI 12 fn]) [0, 1, 2, 3, 4, 5, 6, 7, 8, 9, 10, 11, 12, 13, 14, 15, 16] (by decide) rfl
              have hK9 := hK.sub (tys' := [(cyI, .int)]) [0] rfl
              exact vx_throw0 (names := EXC) hx hb hl0 hown (by decide +kernel) (by decide +kernel) hc_107 hz_ex hat ki_ot hth.2.1 hth.2.2 hS (hl.1.trans hml.symm) dX4_vote_68 dX4_vote_71 dX4_vote_72 dX4_vote_75 (fun x h => (htab x h).elim) (Nat.le_of_ble_eq_true rfl) (Nat.le_of_ble_eq_true rfl) (Nat.le_of_ble_eq_true rfl) (Nat.le_of_ble_eq_true rfl) hlocks (fun t ha hz hk => ⟨(o_6, o_7, o_8, o_9, o_10, o_11, o_12, o_13, o_14, o_15, o_16, o_17, o_18, o_19, o_20, vs, lo, le, fv, fn), ⟨(by decide), (fun _ => ⟨(by (try dsimp only); omega), (by (try dsimp only); omega), w_5.2.2.2.2⟩), w_5.2.2.2.1⟩, ⟨rfl, hP9.kept (fun k x hx => hk x.1 ((hP9 k x hx).lt)), va_K.moved ha hK9, hD9⟩, Nat.le_trans hS.1 hz, fun q h1 h2 => (hk q (Nat.lt_of_lt_of_le h1 hS.1)).trans (hS.2.1 q h1 h2)⟩) hS.2.2 (Nat.le_refl _) (Nat.le_refl _)
            · have i_23 : 0 ≤ p2.toInt := kc_nlt c_23
              refine lv_iload_n hx hb dX4_vote_56 rfl (lv_at hl 5 rfl) ?_
              refine lv_aload hx hb dX4_vote_57 (lv_at hl 1 rfl) ?_
              refine va_get (D := (dC, dI)) (ci := 2) (v := .ref q_size) (C := RX2) (T := TX2) (N := 11) hx hb hts hi_2 hown hK hP 1 rfl rfl 4 (by decide) hf_126 (fun _ h9 => h9) rfl dX4_vote_59 ?_
              refine lv_iload hx hb dX4_vote_62 (lv_at hl 0 rfl) ?_
              refine va_iald hx hb hK hP 6 0 rfl rfl (ki_in (by omega) (by omega)) dX4_vote_64 ?_
              refine lv_topi (fun y_24 ey_24 => ?_)
              have j_24 : y_24.toInt = (o_11 r_21.toNatClampNeg).toInt := congrArg Int32.toInt ey_24
              have n_25 : (r_21.toNatClampNeg : Int) = r_21.toInt := ki_nat _ rfl (by omega)
              have i_26 := w_5.2.2.2.1 r_21.toNatClampNeg (by omega)
              refine lv_icmp_lt (tgt := 76) hx hb dX4_vote_65 (by decide) (fun c_27 => ?_) (fun c_27 => ?_)
              · have i_27 : p2.toInt < y_24.toInt := kc_lt c_27
                refine lv_aload hx hb dX4_vote_76 (lv_at hl 1 rfl) ?_
                refine lv_aload_n hx hb dX4_vote_78 rfl (lv_at hl 2 rfl) ?_
                refine va_get (D := (dC, dI)) (ci := 4) (v := .ref h0) (C := RX4) (T := TX4) (N := 9) hx hb hts hi_4 hown hK hP 0 rfl rfl 3 (by decide) hf_35 (fun _ h9 => h9) rfl dX4_vote_79 ?_
                refine lv_iload hx hb dX4_vote_82 (lv_at hl 0 rfl) ?_
                obtain ⟨hPc, hDc, hFc, hCc⟩ := kx_preM (wc := [kx_2 q_t q_row q_joined q_from q_to q_size q_lossOf q_lessBy q_value q_number o_7 o_8, kx_a q_size cyI 319 o_11, kx_a q_lossOf cyI 319 o_12, kx_a q_value cyI 1914 o_14, kx_a q_number cyI 1914 o_15, kx_3 h0 a_v a_n vs lo le, kx_a a_v cyI 12 fv, kx_a a_n cyI 12 fn]) hP hD hS hA [false, true, false, false, false, false, true, true, false, true, true, false, false, false, true, true, true] rfl
                have hKc := hK
                refine va_callv (va_runV (As := [.ref h0, .int r_21]) (rest := []) ⟨hx, hb, hml, hown, hts⟩ (kx_un (c_X2_copyTo l dC dI q_t q_row q_joined q_from q_to q_size q_lossOf q_lessBy q_value q_number o_7 o_8 h0 a_v a_n cyI vs lo le fv fn o_11 o_12 o_14 o_15 r_21 H.size (om_475 n_25 (Int.natCast_nonneg _)) (by omega) w_5.2.2.2.1)) (cwV 2 hts gX4_vote_X2_copyTo rfl rfl rfl (by decide +kernel) ⟨Nat.le_of_ble_eq_true rfl, Nat.le_of_ble_eq_true rfl⟩) ⟨fun a U g mk q => by obtain ⟨q0, q1, qP, qK, qD⟩ := q; exact ⟨q0, q1, qP, va_K.moved (u := U) (U := U.calling g mk a) (Vm.Alike.refl U.vm) qK, qD⟩, kx_rc2 hKc hPc (q0 := 0) rfl, fun U hU hW => ⟨rfl, by rw [hU], by rw [hU]; exact hPc, va_K.moved hW.alike hKc, hDc.weaken (fun _ _ _ _ => trivial)⟩⟩ rfl rfl hl.1 rfl (lv_room (Nat.le_of_ble_eq_true rfl)) dX4_vote_84 ⟨Nat.le_of_ble_eq_true rfl, Nat.le_of_ble_eq_true rfl⟩) hS (fun q _ h => hFc q h) hFc (fun u t H1 locs ht hvm w_28 hB hz1 hk1 hS => ?_)
                obtain ⟨o_29, o_30, o_31, o_32⟩ := u
                dsimp only at w_28 hB
                obtain ⟨hP1, hK1, hD1⟩ := hB
                rw [ht] at hP1
                have hK1 := va_K.moved hvm.symm hK1
                obtain ⟨hP, hD⟩ := kx_joinM (w2 := [kx_4 m_ q_row q_t t_ h0 k0 w_ z_ slots o_6, kx_2 q_t q_row q_joined q_from q_to q_size q_lossOf q_lessBy q_value q_number o_7 o_8, kx_0 q_row q_cell len, kx_a q_cell cyI 160 f, kx_a q_from cyI 319 o_9, kx_a q_to cyI 319 o_10, kx_a q_size cyI 319 o_11, kx_a q_lossOf cyI 319 o_12, kx_a q_lessBy cyI 319 o_13, kx_a q_value cyI 1914 o_14, kx_a q_number cyI 1914 o_15, kx_3 q_joined j_v j_n o_16 o_17 o_18, kx_a j_v cyI 12 o_19, kx_a j_n cyI 12 o_20, kx_3 h0 a_v a_n o_29 o_30 0, kx_a a_v cyI 12 o_31, kx_a a_n cyI 12 o_32]) hP hD hP1 hD1 hk1 hFc [false, true, false, false, false, false, true, true, false, true, true, false, false, false, true, true, true] hCc rfl
                clear hP1 hD1 hK1 hk1 hz1 hFc hDc hPc hKc hCc
                generalize H1 = H at hP hS ⊢
                have w_28 : 0 ≤ o_29.toInt ∧ o_29.toInt ≤ 12 := w_28
                refine lv_iload hx hb dX4_vote_87 (lv_at hl 6 rfl) ?_
                refine lv_if_ne (tgt := 104) hx hb dX4_vote_89 (by decide) (fun c_33 => ?_) (fun c_33 => ?_)
                · have i_33 : ¬ p3.toInt = 0 := kc_ne c_33
                  refine lv_aload_n hx hb dX4_vote_104 rfl (lv_at hl 2 rfl) ?_
                  refine va_get (D := (dC, dI)) (ci := 4) (v := .ref h0) (C := RX4) (T := TX4) (N := 9) hx hb hts hi_4 hown hK hP 0 rfl rfl 3 (by decide) hf_35 (fun _ h9 => h9) rfl dX4_vote_105 ?_
                  refine va_get (D := (dC, dI)) (ci := 3) (v := .ref a_n) (C := RX3) (T := TX3) (N := 5) hx hb hts hi_3 hown hK hP 14 rfl rfl 1 (by decide) hf_136 (fun _ h9 => h9) rfl dX4_vote_108 ?_
                  refine lv_iload_n hx hb dX4_vote_111 rfl (lv_at hl 5 rfl) ?_
                  refine va_iald hx hb hK hP 16 0 rfl rfl (ki_in (om_10 i_23) (om_476 j_24 i_26.2 i_27)) dX4_vote_112 ?_
                  refine lv_topi (fun y_34 ey_34 => ?_)
                  have j_34 : y_34.toInt = (o_32 p2.toNatClampNeg).toInt := congrArg Int32.toInt ey_34
                  refine vx_ret ?_
                  have hP9 := hP
                  have hD9 := hD
                  have hK9 := hK
                  refine W.widen (k := 1) (n := 6) (Nat.le_of_ble_eq_true rfl) (Nat.le_of_ble_eq_true rfl) ?_
                  exact W.iret (v := y_34) hx hb hr (hlocks := hlocks) (fun t ht hW => ⟨⟨y_34, (o_6, o_7, o_8, o_9, o_10, o_11, o_12, o_13, o_14, o_15, o_16, o_17, o_18, o_19, o_20, o_29, o_30, 0, o_31, o_32), rfl, ⟨(by decide), (fun _ => ⟨(by (try dsimp only); omega), (by (try dsimp only); omega), w_5.2.2.2.2⟩), w_5.2.2.2.1⟩, by rw [ht]; exact hP9, va_K.moved hW.alike hK9, hD9⟩, hS.F ht⟩) hS.2.2 dX4_vote_113
                · have i_33 : p3.toInt = 0 := kc_eq c_33
                  refine lv_aload_n hx hb dX4_vote_92 rfl (lv_at hl 2 rfl) ?_
                  refine va_get (D := (dC, dI)) (ci := 4) (v := .ref h0) (C := RX4) (T := TX4) (N := 9) hx hb hts hi_4 hown hK hP 0 rfl rfl 3 (by decide) hf_35 (fun _ h9 => h9) rfl dX4_vote_93 ?_
                  refine va_get (D := (dC, dI)) (ci := 3) (v := .ref a_v) (C := RX3) (T := TX3) (N := 5) hx hb hts hi_3 hown hK hP 14 rfl rfl 0 (by decide) hf_133 (fun _ h9 => h9) rfl dX4_vote_96 ?_
                  refine lv_iload_n hx hb dX4_vote_99 rfl (lv_at hl 5 rfl) ?_
                  refine va_iald hx hb hK hP 15 0 rfl rfl (ki_in (om_10 i_23) (om_476 j_24 i_26.2 i_27)) dX4_vote_100 ?_
                  refine lv_topi (fun y_35 ey_35 => ?_)
                  have j_35 : y_35.toInt = (o_31 p2.toNatClampNeg).toInt := congrArg Int32.toInt ey_35
                  refine lv_goto (tgt := 113) hx hb dX4_vote_101 (by decide) ?_
                  refine vx_ret ?_
                  have hP9 := hP
                  have hD9 := hD
                  have hK9 := hK
                  refine W.widen (k := 1) (n := 6) (Nat.le_of_ble_eq_true rfl) (Nat.le_of_ble_eq_true rfl) ?_
                  exact W.iret (v := y_35) hx hb hr (hlocks := hlocks) (fun t ht hW => ⟨⟨y_35, (o_6, o_7, o_8, o_9, o_10, o_11, o_12, o_13, o_14, o_15, o_16, o_17, o_18, o_19, o_20, o_29, o_30, 0, o_31, o_32), rfl, ⟨(by decide), (fun _ => ⟨(by (try dsimp only); omega), (by (try dsimp only); omega), w_5.2.2.2.2⟩), w_5.2.2.2.1⟩, by rw [ht]; exact hP9, va_K.moved hW.alike hK9, hD9⟩, hS.F ht⟩) hS.2.2 dX4_vote_113
              · have i_27 : y_24.toInt ≤ p2.toInt := kc_nlt c_27
                have hP9 := hP.sub (ws' := [kx_4 m_ q_row q_t t_ h0 k0 w_ z_ slots o_6, kx_2 q_t q_row q_joined q_from q_to q_size q_lossOf q_lessBy q_value q_number o_7 o_8, kx_0 q_row q_cell len, kx_a q_cell cyI 160 f, kx_a q_from cyI 319 o_9, kx_a q_to cyI 319 o_10, kx_a q_size cyI 319 o_11, kx_a q_lossOf cyI 319 o_12, kx_a q_lessBy cyI 319 o_13, kx_a q_value cyI 1914 o_14, kx_a q_number cyI 1914 o_15, kx_3 q_joined j_v j_n o_16 o_17 o_18, kx_a j_v cyI 12 o_19, kx_a j_n cyI 12 o_20, kx_3 h0 a_v a_n vs lo le, kx_a a_v cyI 12 fv, kx_a a_n cyI 12 fn]) [0, 1, 2, 3, 4, 5, 6, 7, 8, 9, 10, 11, 12, 13, 14, 15, 16] rfl
                have hD9 := hD.sub (ws' := [kx_4 m_ q_row q_t t_ h0 k0 w_ z_ slots o_6, kx_2 q_t q_row q_joined q_from q_to q_size q_lossOf q_lessBy q_value q_number o_7 o_8, kx_0 q_row q_cell len, kx_a q_cell cyI 160 f, kx_a q_from cyI 319 o_9, kx_a q_to cyI 319 o_10, kx_a q_size cyI 319 o_11, kx_a q_lossOf cyI 319 o_12, kx_a q_lessBy cyI 319 o_13, kx_a q_value cyI 1914 o_14, kx_a q_number cyI 1914 o_15, kx_3 q_joined j_v j_n o_16 o_17 o_18, kx_a j_v cyI 12 o_19, kx_a j_n cyI 12 o_20, kx_3 h0 a_v a_n vs lo le, kx_a a_v cyI 12 fv, kx_a a_n cyI 12 fn]) [0, 1, 2, 3, 4, 5, 6, 7, 8, 9, 10, 11, 12, 13, 14, 15, 16] (by decide) rfl
                have hK9 := hK.sub (tys' := [(cyI, .int)]) [0] rfl
                exact vx_throw0 (names := EXC) hx hb hl0 hown (by decide +kernel) (by decide +kernel) hc_107 hz_ex hat ki_ot hth.2.1 hth.2.2 hS (hl.1.trans hml.symm) dX4_vote_68 dX4_vote_71 dX4_vote_72 dX4_vote_75 (fun x h => (htab x h).elim) (Nat.le_of_ble_eq_true rfl) (Nat.le_of_ble_eq_true rfl) (Nat.le_of_ble_eq_true rfl) (Nat.le_of_ble_eq_true rfl) hlocks (fun t ha hz hk => ⟨(o_6, o_7, o_8, o_9, o_10, o_11, o_12, o_13, o_14, o_15, o_16, o_17, o_18, o_19, o_20, vs, lo, le, fv, fn), ⟨(by decide), (fun _ => ⟨(by (try dsimp only); omega), (by (try dsimp only); omega), w_5.2.2.2.2⟩), w_5.2.2.2.1⟩, ⟨rfl, hP9.kept (fun k x hx => hk x.1 ((hP9 k x hx).lt)), va_K.moved ha hK9, hD9⟩, Nat.le_trans hS.1 hz, fun q h1 h2 => (hk q (Nat.lt_of_lt_of_le h1 hS.1)).trans (hS.2.1 q h1 h2)⟩) hS.2.2 (Nat.le_refl _) (Nat.le_refl _)
        · have i_4 : 1 < p3.toInt := kc_nle c_4
          have hP9 := hP.sub (ws' := [kx_4 m_ q_row q_t t_ h0 k0 w_ z_ slots old, kx_2 q_t q_row q_joined q_from q_to q_size q_lossOf q_lessBy q_value q_number nodes here, kx_0 q_row q_cell len, kx_a q_cell cyI 160 f, kx_a q_from cyI 319 ff, kx_a q_to cyI 319 ft, kx_a q_size cyI 319 fs, kx_a q_lossOf cyI 319 fo, kx_a q_lessBy cyI 319 fe, kx_a q_value cyI 1914 uv, kx_a q_number cyI 1914 un, kx_3 q_joined j_v j_n js jl je, kx_a j_v cyI 12 jv, kx_a j_n cyI 12 jn, kx_3 h0 a_v a_n vs lo le, kx_a a_v cyI 12 fv, kx_a a_n cyI 12 fn]) [0, 1, 2, 3, 4, 5, 6, 7, 8, 9, 10, 11, 12, 13, 14, 15, 16] rfl
          have hD9 := hD.sub (ws' := [kx_4 m_ q_row q_t t_ h0 k0 w_ z_ slots old, kx_2 q_t q_row q_joined q_from q_to q_size q_lossOf q_lessBy q_value q_number nodes here, kx_0 q_row q_cell len, kx_a q_cell cyI 160 f, kx_a q_from cyI 319 ff, kx_a q_to cyI 319 ft, kx_a q_size cyI 319 fs, kx_a q_lossOf cyI 319 fo, kx_a q_lessBy cyI 319 fe, kx_a q_value cyI 1914 uv, kx_a q_number cyI 1914 un, kx_3 q_joined j_v j_n js jl je, kx_a j_v cyI 12 jv, kx_a j_n cyI 12 jn, kx_3 h0 a_v a_n vs lo le, kx_a a_v cyI 12 fv, kx_a a_n cyI 12 fn]) [0, 1, 2, 3, 4, 5, 6, 7, 8, 9, 10, 11, 12, 13, 14, 15, 16] (by decide) rfl
          have hK9 := hK.sub (tys' := [(cyI, .int)]) [0] rfl
          exact vx_throw0 (names := EXC) hx hb hl0 hown (by decide +kernel) (by decide +kernel) hc_107 hz_ex hat ki_ot hth.2.1 hth.2.2 hS (hl.1.trans hml.symm) dX4_vote_23 dX4_vote_26 dX4_vote_27 dX4_vote_30 (fun x h => (htab x h).elim) (Nat.le_of_ble_eq_true rfl) (Nat.le_of_ble_eq_true rfl) (Nat.le_of_ble_eq_true rfl) (Nat.le_of_ble_eq_true rfl) hlocks (fun t ha hz hk => ⟨(old, nodes, here, ff, ft, fs, fo, fe, uv, un, js, jl, je, jv, jn, vs, lo, le, fv, fn), ⟨(by decide), l0, s0⟩, ⟨rfl, hP9.kept (fun k x hx => hk x.1 ((hP9 k x hx).lt)), va_K.moved ha hK9, hD9⟩, Nat.le_trans hS.1 hz, fun q h1 h2 => (hk q (Nat.lt_of_lt_of_le h1 hS.1)).trans (hS.2.1 q h1 h2)⟩) hS.2.2 (Nat.le_refl _) (Nat.le_refl _)
  · have w_1 : (p0.toInt < 0 ∨ p1.toInt ≤ p0.toInt ∨ len.toInt < p1.toInt) := w_1
    refine lv_if_eq (tgt := 23) hx hb dX4_vote_9 (by decide) (fun c_36 => ?_) (fun c_36 => ?_)
    · have hP9 := hP.sub (ws' := [kx_4 m_ q_row q_t t_ h0 k0 w_ z_ slots old, kx_2 q_t q_row q_joined q_from q_to q_size q_lossOf q_lessBy q_value q_number nodes here, kx_0 q_row q_cell len, kx_a q_cell cyI 160 f, kx_a q_from cyI 319 ff, kx_a q_to cyI 319 ft, kx_a q_size cyI 319 fs, kx_a q_lossOf cyI 319 fo, kx_a q_lessBy cyI 319 fe, kx_a q_value cyI 1914 uv, kx_a q_number cyI 1914 un, kx_3 q_joined j_v j_n js jl je, kx_a j_v cyI 12 jv, kx_a j_n cyI 12 jn, kx_3 h0 a_v a_n vs lo le, kx_a a_v cyI 12 fv, kx_a a_n cyI 12 fn]) [0, 1, 2, 3, 4, 5, 6, 7, 8, 9, 10, 11, 12, 13, 14, 15, 16] rfl
      have hD9 := hD.sub (ws' := [kx_4 m_ q_row q_t t_ h0 k0 w_ z_ slots old, kx_2 q_t q_row q_joined q_from q_to q_size q_lossOf q_lessBy q_value q_number nodes here, kx_0 q_row q_cell len, kx_a q_cell cyI 160 f, kx_a q_from cyI 319 ff, kx_a q_to cyI 319 ft, kx_a q_size cyI 319 fs, kx_a q_lossOf cyI 319 fo, kx_a q_lessBy cyI 319 fe, kx_a q_value cyI 1914 uv, kx_a q_number cyI 1914 un, kx_3 q_joined j_v j_n js jl je, kx_a j_v cyI 12 jv, kx_a j_n cyI 12 jn, kx_3 h0 a_v a_n vs lo le, kx_a a_v cyI 12 fv, kx_a a_n cyI 12 fn]) [0, 1, 2, 3, 4, 5, 6, 7, 8, 9, 10, 11, 12, 13, 14, 15, 16] (by decide) rfl
      have hK9 := hK.sub (tys' := [(cyI, .int)]) [0] rfl
      exact vx_throw0 (names := EXC) hx hb hl0 hown (by decide +kernel) (by decide +kernel) hc_107 hz_ex hat ki_ot hth.2.1 hth.2.2 hS (hl.1.trans hml.symm) dX4_vote_23 dX4_vote_26 dX4_vote_27 dX4_vote_30 (fun x h => (htab x h).elim) (Nat.le_of_ble_eq_true rfl) (Nat.le_of_ble_eq_true rfl) (Nat.le_of_ble_eq_true rfl) (Nat.le_of_ble_eq_true rfl) hlocks (fun t ha hz hk => ⟨(old, nodes, here, ff, ft, fs, fo, fe, uv, un, js, jl, je, jv, jn, vs, lo, le, fv, fn), ⟨(by decide), l0, s0⟩, ⟨rfl, hP9.kept (fun k x hx => hk x.1 ((hP9 k x hx).lt)), va_K.moved ha hK9, hD9⟩, Nat.le_trans hS.1 hz, fun q h1 h2 => (hk q (Nat.lt_of_lt_of_le h1 hS.1)).trans (hS.2.1 q h1 h2)⟩) hS.2.2 (Nat.le_refl _) (Nat.le_refl _)
    · exact absurd c_36 (by decide)

set_option maxHeartbeats 4000000 in
set_option maxRecDepth 100000 in
theorem c_X4_candidate (l : Launch) (hl0 : l.stackTraces = false) (dC : Nat → ClassId) (dI : Nat → Nat → Nat) (m_ : Nat) (q_row : Nat) (q_t : Nat) (t_ : Nat) (h0 : Nat) (k0 : Nat) (w_ : Nat) (z_ : Nat) (slots : Int32) (old : Int32) (q_joined : Nat) (q_from : Nat) (q_to : Nat) (q_size : Nat) (q_lossOf : Nat) (q_lessBy : Nat) (q_value : Nat) (q_number : Nat) (nodes : Int32) (here : Int32) (q_cell : Nat) (cyI : ClassId) (len : Int32) (f : Nat → Int32) (ff : Nat → Int32) (ft : Nat → Int32) (fs : Nat → Int32) (fo : Nat → Int32) (uv : Nat → Int32) (un : Nat → Int32) (fe : Nat → Int32) (j_v : Nat) (j_n : Nat) (js : Int32) (jl : Int32) (je : Int32) (jv : Nat → Int32) (jn : Nat → Int32) (a_v : Nat) (a_n : Nat) (vs : Int32) (lo : Int32) (le : Int32) (fv : Nat → Int32) (fn : Nat → Int32) (p0 : Int32) (p1 : Int32) (p2 : Int32) (p3 : Int32) (sz : Nat) (a0 : 0 ≤ len.toInt) (a1 : len.toInt ≤ 160) (s0 : sixes fs) (l0 : laidP old ff ft nodes len) : vx_Met l yX4_candidate wsX4_candidate ({ frames := 8, cells := 1, slots := 6, locals := 360 }) (va_Pc [.ref m_, .int p0, .int p1, .int p2, .int p3] (fun U => U.heap.size = sz ∧ va_P (dC, dI) vwCl [kx_4 m_ q_row q_t t_ h0 k0 w_ z_ slots old, kx_2 q_t q_row q_joined q_from q_to q_size q_lossOf q_lessBy q_value q_number nodes here, kx_0 q_row q_cell len, kx_a q_cell cyI 160 f, kx_a q_from cyI 319 ff, kx_a q_to cyI 319 ft, kx_a q_size cyI 319 fs, kx_a q_lossOf cyI 319 fo, kx_a q_lessBy cyI 319 fe, kx_a q_value cyI 1914 uv, kx_a q_number cyI 1914 un, kx_3 q_joined j_v j_n js jl je, kx_a j_v cyI 12 jv, kx_a j_n cyI 12 jn, kx_3 h0 a_v a_n vs lo le, kx_a a_v cyI 12 fv, kx_a a_n cyI 12 fn] U.heap ∧ va_K (dC, dI) vwCl [(cyI, .int)] U ∧ va_D (fun _ => True) [kx_4 m_ q_row q_t t_ h0 k0 w_ z_ slots old, kx_2 q_t q_row q_joined q_from q_to q_size q_lossOf q_lessBy q_value q_number nodes here, kx_0 q_row q_cell len, kx_a q_cell cyI 160 f, kx_a q_from cyI 319 ff, kx_a q_to cyI 319 ft, kx_a q_size cyI 319 fs, kx_a q_lossOf cyI 319 fo, kx_a q_lessBy cyI 319 fe, kx_a q_value cyI 1914 uv, kx_a q_number cyI 1914 un, kx_3 q_joined j_v j_n js jl je, kx_a j_v cyI 12 jv, kx_a j_n cyI 12 jn, kx_3 h0 a_v a_n vs lo le, kx_a a_v cyI 12 fv, kx_a a_n cyI 12 fn] ∧ ki_ThA (va_A [kx_4 m_ q_row q_t t_ h0 k0 w_ z_ slots old, kx_2 q_t q_row q_joined q_from q_to q_size q_lossOf q_lessBy q_value q_number nodes here, kx_0 q_row q_cell len, kx_a q_cell cyI 160 f, kx_a q_from cyI 319 ff, kx_a q_to cyI 319 ft, kx_a q_size cyI 319 fs, kx_a q_lossOf cyI 319 fo, kx_a q_lessBy cyI 319 fe, kx_a q_value cyI 1914 uv, kx_a q_number cyI 1914 un, kx_3 q_joined j_v j_n js jl je, kx_a j_v cyI 12 jv, kx_a j_n cyI 12 jn, kx_3 h0 a_v a_n vs lo le, kx_a a_v cyI 12 fv, kx_a a_n cyI 12 fn] sz) U)) (va_Qi (fun (r : Int32) (u : Int32 × Int32 × Int32 × (Nat → Int32) × (Nat → Int32) × (Nat → Int32) × (Nat → Int32) × (Nat → Int32) × (Nat → Int32) × (Nat → Int32) × Int32 × Int32 × Int32 × (Nat → Int32) × (Nat → Int32) × Int32 × Int32 × Int32 × (Nat → Int32) × (Nat → Int32)) => (0 : Int) ≤ 1 ∧ laidP u.1 u.2.2.2.1 u.2.2.2.2.1 u.2.1 len ∧ sixes u.2.2.2.2.2.1) (fun (u : Int32 × Int32 × Int32 × (Nat → Int32) × (Nat → Int32) × (Nat → Int32) × (Nat → Int32) × (Nat → Int32) × (Nat → Int32) × (Nat → Int32) × Int32 × Int32 × Int32 × (Nat → Int32) × (Nat → Int32) × Int32 × Int32 × Int32 × (Nat → Int32) × (Nat → Int32)) (t : State) => va_P (dC, dI) vwCl [kx_4 m_ q_row q_t t_ h0 k0 w_ z_ slots u.1, kx_2 q_t q_row q_joined q_from q_to q_size q_lossOf q_lessBy q_value q_number u.2.1 u.2.2.1, kx_0 q_row q_cell len, kx_a q_cell cyI 160 f, kx_a q_from cyI 319 u.2.2.2.1, kx_a q_to cyI 319 u.2.2.2.2.1, kx_a q_size cyI 319 u.2.2.2.2.2.1, kx_a q_lossOf cyI 319 u.2.2.2.2.2.2.1, kx_a q_lessBy cyI 319 u.2.2.2.2.2.2.2.1, kx_a q_value cyI 1914 u.2.2.2.2.2.2.2.2.1, kx_a q_number cyI 1914 u.2.2.2.2.2.2.2.2.2.1, kx_3 q_joined j_v j_n u.2.2.2.2.2.2.2.2.2.2.1 u.2.2.2.2.2.2.2.2.2.2.2.1 u.2.2.2.2.2.2.2.2.2.2.2.2.1, kx_a j_v cyI 12 u.2.2.2.2.2.2.2.2.2.2.2.2.2.1, kx_a j_n cyI 12 u.2.2.2.2.2.2.2.2.2.2.2.2.2.2.1, kx_3 h0 a_v a_n u.2.2.2.2.2.2.2.2.2.2.2.2.2.2.2.1 u.2.2.2.2.2.2.2.2.2.2.2.2.2.2.2.2.1 u.2.2.2.2.2.2.2.2.2.2.2.2.2.2.2.2.2.1, kx_a a_v cyI 12 u.2.2.2.2.2.2.2.2.2.2.2.2.2.2.2.2.2.2.1, kx_a a_n cyI 12 u.2.2.2.2.2.2.2.2.2.2.2.2.2.2.2.2.2.2.2] t.heap ∧ va_K (dC, dI) vwCl [(cyI, .int)] t ∧ va_D (va_A [kx_4 m_ q_row q_t t_ h0 k0 w_ z_ slots old, kx_2 q_t q_row q_joined q_from q_to q_size q_lossOf q_lessBy q_value q_number nodes here, kx_0 q_row q_cell len, kx_a q_cell cyI 160 f, kx_a q_from cyI 319 ff, kx_a q_to cyI 319 ft, kx_a q_size cyI 319 fs, kx_a q_lossOf cyI 319 fo, kx_a q_lessBy cyI 319 fe, kx_a q_value cyI 1914 uv, kx_a q_number cyI 1914 un, kx_3 q_joined j_v j_n js jl je, kx_a j_v cyI 12 jv, kx_a j_n cyI 12 jn, kx_3 h0 a_v a_n vs lo le, kx_a a_v cyI 12 fv, kx_a a_n cyI 12 fn] sz) [kx_4 m_ q_row q_t t_ h0 k0 w_ z_ slots u.1, kx_2 q_t q_row q_joined q_from q_to q_size q_lossOf q_lessBy q_value q_number u.2.1 u.2.2.1, kx_0 q_row q_cell len, kx_a q_cell cyI 160 f, kx_a q_from cyI 319 u.2.2.2.1, kx_a q_to cyI 319 u.2.2.2.2.1, kx_a q_size cyI 319 u.2.2.2.2.2.1, kx_a q_lossOf cyI 319 u.2.2.2.2.2.2.1, kx_a q_lessBy cyI 319 u.2.2.2.2.2.2.2.1, kx_a q_value cyI 1914 u.2.2.2.2.2.2.2.2.1, kx_a q_number cyI 1914 u.2.2.2.2.2.2.2.2.2.1, kx_3 q_joined j_v j_n u.2.2.2.2.2.2.2.2.2.2.1 u.2.2.2.2.2.2.2.2.2.2.2.1 u.2.2.2.2.2.2.2.2.2.2.2.2.1, kx_a j_v cyI 12 u.2.2.2.2.2.2.2.2.2.2.2.2.2.1, kx_a j_n cyI 12 u.2.2.2.2.2.2.2.2.2.2.2.2.2.2.1, kx_3 h0 a_v a_n u.2.2.2.2.2.2.2.2.2.2.2.2.2.2.2.1 u.2.2.2.2.2.2.2.2.2.2.2.2.2.2.2.2.1 u.2.2.2.2.2.2.2.2.2.2.2.2.2.2.2.2.2.1, kx_a a_v cyI 12 u.2.2.2.2.2.2.2.2.2.2.2.2.2.2.2.2.2.2.1, kx_a a_n cyI 12 u.2.2.2.2.2.2.2.2.2.2.2.2.2.2.2.2.2.2.2]) (va_A [kx_4 m_ q_row q_t t_ h0 k0 w_ z_ slots old, kx_2 q_t q_row q_joined q_from q_to q_size q_lossOf q_lessBy q_value q_number nodes here, kx_0 q_row q_cell len, kx_a q_cell cyI 160 f, kx_a q_from cyI 319 ff, kx_a q_to cyI 319 ft, kx_a q_size cyI 319 fs, kx_a q_lossOf cyI 319 fo, kx_a q_lessBy cyI 319 fe, kx_a q_value cyI 1914 uv, kx_a q_number cyI 1914 un, kx_3 q_joined j_v j_n js jl je, kx_a j_v cyI 12 jv, kx_a j_n cyI 12 jn, kx_3 h0 a_v a_n vs lo le, kx_a a_v cyI 12 fv, kx_a a_n cyI 12 fn] sz)) (vx_X (fun u : Int32 × Int32 × Int32 × (Nat → Int32) × (Nat → Int32) × (Nat → Int32) × (Nat → Int32) × (Nat → Int32) × (Nat → Int32) × (Nat → Int32) × Int32 × Int32 × Int32 × (Nat → Int32) × (Nat → Int32) × Int32 × Int32 × Int32 × (Nat → Int32) × (Nat → Int32) => (0 : Int) ≤ 1 ∧ laidP u.1 u.2.2.2.1 u.2.2.2.2.1 u.2.1 len ∧ sixes u.2.2.2.2.2.1) (fun (E : String) (u : Int32 × Int32 × Int32 × (Nat → Int32) × (Nat → Int32) × (Nat → Int32) × (Nat → Int32) × (Nat → Int32) × (Nat → Int32) × (Nat → Int32) × Int32 × Int32 × Int32 × (Nat → Int32) × (Nat → Int32) × Int32 × Int32 × Int32 × (Nat → Int32) × (Nat → Int32)) (t : State) => E = EXN ∧ va_P (dC, dI) vwCl [kx_4 m_ q_row q_t t_ h0 k0 w_ z_ slots u.1, kx_2 q_t q_row q_joined q_from q_to q_size q_lossOf q_lessBy q_value q_number u.2.1 u.2.2.1, kx_0 q_row q_cell len, kx_a q_cell cyI 160 f, kx_a q_from cyI 319 u.2.2.2.1, kx_a q_to cyI 319 u.2.2.2.2.1, kx_a q_size cyI 319 u.2.2.2.2.2.1, kx_a q_lossOf cyI 319 u.2.2.2.2.2.2.1, kx_a q_lessBy cyI 319 u.2.2.2.2.2.2.2.1, kx_a q_value cyI 1914 u.2.2.2.2.2.2.2.2.1, kx_a q_number cyI 1914 u.2.2.2.2.2.2.2.2.2.1, kx_3 q_joined j_v j_n u.2.2.2.2.2.2.2.2.2.2.1 u.2.2.2.2.2.2.2.2.2.2.2.1 u.2.2.2.2.2.2.2.2.2.2.2.2.1, kx_a j_v cyI 12 u.2.2.2.2.2.2.2.2.2.2.2.2.2.1, kx_a j_n cyI 12 u.2.2.2.2.2.2.2.2.2.2.2.2.2.2.1, kx_3 h0 a_v a_n u.2.2.2.2.2.2.2.2.2.2.2.2.2.2.2.1 u.2.2.2.2.2.2.2.2.2.2.2.2.2.2.2.2.1 u.2.2.2.2.2.2.2.2.2.2.2.2.2.2.2.2.2.1, kx_a a_v cyI 12 u.2.2.2.2.2.2.2.2.2.2.2.2.2.2.2.2.2.2.1, kx_a a_n cyI 12 u.2.2.2.2.2.2.2.2.2.2.2.2.2.2.2.2.2.2.2] t.heap ∧ va_K (dC, dI) vwCl [(cyI, .int)] t ∧ va_D (va_A [kx_4 m_ q_row q_t t_ h0 k0 w_ z_ slots old, kx_2 q_t q_row q_joined q_from q_to q_size q_lossOf q_lessBy q_value q_number nodes here, kx_0 q_row q_cell len, kx_a q_cell cyI 160 f, kx_a q_from cyI 319 ff, kx_a q_to cyI 319 ft, kx_a q_size cyI 319 fs, kx_a q_lossOf cyI 319 fo, kx_a q_lessBy cyI 319 fe, kx_a q_value cyI 1914 uv, kx_a q_number cyI 1914 un, kx_3 q_joined j_v j_n js jl je, kx_a j_v cyI 12 jv, kx_a j_n cyI 12 jn, kx_3 h0 a_v a_n vs lo le, kx_a a_v cyI 12 fv, kx_a a_n cyI 12 fn] sz) [kx_4 m_ q_row q_t t_ h0 k0 w_ z_ slots u.1, kx_2 q_t q_row q_joined q_from q_to q_size q_lossOf q_lessBy q_value q_number u.2.1 u.2.2.1, kx_0 q_row q_cell len, kx_a q_cell cyI 160 f, kx_a q_from cyI 319 u.2.2.2.1, kx_a q_to cyI 319 u.2.2.2.2.1, kx_a q_size cyI 319 u.2.2.2.2.2.1, kx_a q_lossOf cyI 319 u.2.2.2.2.2.2.1, kx_a q_lessBy cyI 319 u.2.2.2.2.2.2.2.1, kx_a q_value cyI 1914 u.2.2.2.2.2.2.2.2.1, kx_a q_number cyI 1914 u.2.2.2.2.2.2.2.2.2.1, kx_3 q_joined j_v j_n u.2.2.2.2.2.2.2.2.2.2.1 u.2.2.2.2.2.2.2.2.2.2.2.1 u.2.2.2.2.2.2.2.2.2.2.2.2.1, kx_a j_v cyI 12 u.2.2.2.2.2.2.2.2.2.2.2.2.2.1, kx_a j_n cyI 12 u.2.2.2.2.2.2.2.2.2.2.2.2.2.2.1, kx_3 h0 a_v a_n u.2.2.2.2.2.2.2.2.2.2.2.2.2.2.2.1 u.2.2.2.2.2.2.2.2.2.2.2.2.2.2.2.2.1 u.2.2.2.2.2.2.2.2.2.2.2.2.2.2.2.2.2.1, kx_a a_v cyI 12 u.2.2.2.2.2.2.2.2.2.2.2.2.2.2.2.2.2.2.1, kx_a a_n cyI 12 u.2.2.2.2.2.2.2.2.2.2.2.2.2.2.2.2.2.2.2]) (va_A [kx_4 m_ q_row q_t t_ h0 k0 w_ z_ slots old, kx_2 q_t q_row q_joined q_from q_to q_size q_lossOf q_lessBy q_value q_number nodes here, kx_0 q_row q_cell len, kx_a q_cell cyI 160 f, kx_a q_from cyI 319 ff, kx_a q_to cyI 319 ft, kx_a q_size cyI 319 fs, kx_a q_lossOf cyI 319 fo, kx_a q_lessBy cyI 319 fe, kx_a q_value cyI 1914 uv, kx_a q_number cyI 1914 un, kx_3 q_joined j_v j_n js jl je, kx_a j_v cyI 12 jv, kx_a j_n cyI 12 jn, kx_3 h0 a_v a_n vs lo le, kx_a a_v cyI 12 fv, kx_a a_n cyI 12 fn] sz)) 1 6 (va_A [kx_4 m_ q_row q_t t_ h0 k0 w_ z_ slots old, kx_2 q_t q_row q_joined q_from q_to q_size q_lossOf q_lessBy q_value q_number nodes here, kx_0 q_row q_cell len, kx_a q_cell cyI 160 f, kx_a q_from cyI 319 ff, kx_a q_to cyI 319 ft, kx_a q_size cyI 319 fs, kx_a q_lossOf cyI 319 fo, kx_a q_lessBy cyI 319 fe, kx_a q_value cyI 1914 uv, kx_a q_number cyI 1914 un, kx_3 q_joined j_v j_n js jl je, kx_a j_v cyI 12 jv, kx_a j_n cyI 12 jn, kx_3 h0 a_v a_n vs lo le, kx_a a_v cyI 12 fv, kx_a a_n cyI 12 fn] sz) := by
  refine vx_ofW (cc := cX4_candidate) (maxL := 5) (ret := (some .int)) (by decide) rfl ?_
  intro p e s m args below meth c s₁ B hml htab hv
  obtain ⟨rfl, hsz, hP, hK, hD0, hth⟩ := hv
  have hx := B.exec
  have hb := B.bytes
  have hr := B.returns
  have hts := atoms_spec (ws := wsX4_candidate) B.pre
  have hown : s.vm.findClass RX4 = some m.cls := findClass_of_methodNamed B.named
  have hlocks := B.notSynchronized
  have hat : ∀ w ∈ vx_at0 RX4 109 EXN EXC, w.before _ s = true := vx_hat (B := EXD) (fun w h => hts w (List.mem_cons_of_mem _ (List.mem_append_right _ h))) ki_bad (ki_ex hth)
  subst hsz
  have hD := hD0.self (sz := s.heap.size)
  generalize hAe : va_A [kx_4 m_ q_row q_t t_ h0 k0 w_ z_ slots old, kx_2 q_t q_row q_joined q_from q_to q_size q_lossOf q_lessBy q_value q_number nodes here, kx_0 q_row q_cell len, kx_a q_cell cyI 160 f, kx_a q_from cyI 319 ff, kx_a q_to cyI 319 ft, kx_a q_size cyI 319 fs, kx_a q_lossOf cyI 319 fo, kx_a q_lessBy cyI 319 fe, kx_a q_value cyI 1914 uv, kx_a q_number cyI 1914 un, kx_3 q_joined j_v j_n js jl je, kx_a j_v cyI 12 jv, kx_a j_n cyI 12 jn, kx_3 h0 a_v a_n vs lo le, kx_a a_v cyI 12 fv, kx_a a_n cyI 12 fn] s.heap.size = A at hD hth ⊢
  have hA : ∀ q : Nat, s.heap.size ≤ q → A q := fun q h => by rw [← hAe]; exact Or.inr h
  have hS : va_S A s.heap s.heap [] := va_S.rf
  have hP : va_P (dC, dI) vwCl [kx_4 m_ q_row q_t t_ h0 k0 w_ z_ slots old, kx_2 q_t q_row q_joined q_from q_to q_size q_lossOf q_lessBy q_value q_number nodes here, kx_0 q_row q_cell len, kx_a q_cell cyI 160 f, kx_a q_from cyI 319 ff, kx_a q_to cyI 319 ft, kx_a q_size cyI 319 fs, kx_a q_lossOf cyI 319 fo, kx_a q_lessBy cyI 319 fe, kx_a q_value cyI 1914 uv, kx_a q_number cyI 1914 un, kx_3 q_joined j_v j_n js jl je, kx_a j_v cyI 12 jv, kx_a j_n cyI 12 jn, kx_3 h0 a_v a_n vs lo le, kx_a a_v cyI 12 fv, kx_a a_n cyI 12 fn] s.heap := hP
  have hl := lv_entry ([.ref m_, .int p0, .int p1, .int p2, .int p3]) (n := 5) (Nat.le_of_ble_eq_true rfl)
  rw [lg_entry_eq]
  generalize (lg_sl ([.ref m_, .int p0, .int p1, .int p2, .int p3]) ++ List.replicate (5 - (lg_sl ([.ref m_, .int p0, .int p1, .int p2, .int p3])).length) Slot.unset).toArray = ls at hl ⊢
  have hl : lv_has ls 5 [(0, .ref m_), (1, .int p0), (2, .int p1), (3, .int p2), (4, .int p3)] := hl
  have hf_12 := hts (.fieldLink RX4 12 "MajorityIndex" "row" "LMajorityIndex$Row;") (List.mem_of_getElem? (i := 3) rfl)
  have hi_4 : ∀ w ∈ u_ws RX4 TX4 9, w ∈ wsX4_candidate := fun w h => List.mem_cons_of_mem _ (List.mem_append_left _ (List.mem_append_left _ (List.mem_append_left _ (List.mem_append_left _ (List.mem_append_right _ h)))))
  have hc_107 := hts (.classLink RX4 107 EXN) (by decide +kernel)
  have hz_ex := hts (.initialized EXN) (by decide +kernel)
  have hf_35 := hts (.fieldLink RX4 35 "MajorityIndex" "votes" "LMajorityIndex$Votes;") (List.mem_of_getElem? (i := 4) rfl)
  have hf_174 := hts (.fieldLink RX4 174 "MajorityIndex$Votes" "size" "I") (List.mem_of_getElem? (i := 5) rfl)
  have hi_3 : ∀ w ∈ u_ws RX3 TX3 5, w ∈ wsX4_candidate := fun w h => List.mem_cons_of_mem _ (List.mem_append_left _ (List.mem_append_left _ (List.mem_append_left _ (List.mem_append_right _ h))))
  have hf_133 := hts (.fieldLink RX4 133 "MajorityIndex$Votes" "value" "[I") (List.mem_of_getElem? (i := 6) rfl)
  have hf_136 := hts (.fieldLink RX4 136 "MajorityIndex$Votes" "number" "[I") (List.mem_of_getElem? (i := 7) rfl)
  refine lv_aload_n hx hb dX4_candidate_0 rfl (lv_at hl 0 rfl) ?_
  refine va_get (D := (dC, dI)) (ci := 4) (v := .ref q_row) (C := RX4) (T := TX4) (N := 9) hx hb hts hi_4 hown hK hP 0 rfl rfl 0 (by decide) hf_12 (fun _ h9 => h9) rfl dX4_candidate_1 ?_
  refine lv_iload_n hx hb dX4_candidate_4 rfl (lv_at hl 1 rfl) ?_
  refine lv_iload_n hx hb dX4_candidate_5 rfl (lv_at hl 2 rfl) ?_
  have hPc := hP.sub (ws' := [kx_0 q_row q_cell len]) [2] rfl
  have hKc := hK.sub (tys' := []) [] rfl
  refine vp_callSi (W.runV (As := [.int p0, .int p1]) (rest := []) ⟨hx, hb, hml, hown, hts⟩ (c_X0_hasRange l dC dI q_row q_cell len p0 p1) (cwV 2 hts gX4_candidate_X0_hasRange rfl rfl rfl (by decide +kernel) ⟨Nat.le_of_ble_eq_true rfl, Nat.le_of_ble_eq_true rfl⟩) ⟨fun a U g mk q => by obtain ⟨q0, qP, qK⟩ := q; exact ⟨q0, qP, va_K.moved (u := U) (U := U.calling g mk a) (Vm.Alike.refl U.vm) qK⟩, kx_rc0 hKc hPc (q0 := 0) rfl, fun U hU hW => ⟨rfl, by rw [hU]; exact hPc, va_K.moved hW.alike hKc⟩⟩ rfl rfl hl.1 rfl (lv_room (Nat.le_of_ble_eq_true rfl)) dX4_candidate_6 ⟨Nat.le_of_ble_eq_true rfl, Nat.le_of_ble_eq_true rfl⟩) (fun r_1 w_1 => ?_)
  rcases w_1 with ⟨rfl, w_1⟩ | ⟨rfl, w_1⟩
  · have w_1 : (0 ≤ p0.toInt ∧ p0.toInt < p1.toInt ∧ p1.toInt ≤ len.toInt) := w_1
    refine lv_if_eq (tgt := 27) hx hb dX4_candidate_9 (by decide) (fun c_2 => ?_) (fun c_2 => ?_)
    · exact absurd c_2 (by decide)
    · refine lv_iload_n hx hb dX4_candidate_12 rfl (lv_at hl 3 rfl) ?_
      refine lv_if_lt (tgt := 27) hx hb dX4_candidate_13 (by decide) (fun c_3 => ?_) (fun c_3 => ?_)
      · have i_3 : p2.toInt < 0 := kc_lt c_3
        have hP9 := hP.sub (ws' := [kx_4 m_ q_row q_t t_ h0 k0 w_ z_ slots old, kx_2 q_t q_row q_joined q_from q_to q_size q_lossOf q_lessBy q_value q_number nodes here, kx_0 q_row q_cell len, kx_a q_cell cyI 160 f, kx_a q_from cyI 319 ff, kx_a q_to cyI 319 ft, kx_a q_size cyI 319 fs, kx_a q_lossOf cyI 319 fo, kx_a q_lessBy cyI 319 fe, kx_a q_value cyI 1914 uv, kx_a q_number cyI 1914 un, kx_3 q_joined j_v j_n js jl je, kx_a j_v cyI 12 jv, kx_a j_n cyI 12 jn, kx_3 h0 a_v a_n vs lo le, kx_a a_v cyI 12 fv, kx_a a_n cyI 12 fn]) [0, 1, 2, 3, 4, 5, 6, 7, 8, 9, 10, 11, 12, 13, 14, 15, 16] rfl
        have hD9 := hD.sub (ws' := [kx_4 m_ q_row q_t t_ h0 k0 w_ z_ slots old, kx_2 q_t q_row q_joined q_from q_to q_size q_lossOf q_lessBy q_value q_number nodes here, kx_0 q_row q_cell len, kx_a q_cell cyI 160 f, kx_a q_from cyI 319 ff, kx_a q_to cyI 319 ft, kx_a q_size cyI 319 fs, kx_a q_lossOf cyI 319 fo, kx_a q_lessBy cyI 319 fe, kx_a q_value cyI 1914 uv, kx_a q_number cyI 1914 un, kx_3 q_joined j_v j_n js jl je, kx_a j_v cyI 12 jv, kx_a j_n cyI 12 jn, kx_3 h0 a_v a_n vs lo le, kx_a a_v cyI 12 fv, kx_a a_n cyI 12 fn]) [0, 1, 2, 3, 4, 5, 6, 7, 8, 9, 10, 11, 12, 13, 14, 15, 16] (by decide) rfl
        have hK9 := hK.sub (tys' := [(cyI, .int)]) [0] rfl
        exact vx_throw0 (names := EXC) hx hb hl0 hown (by decide +kernel) (by decide +kernel) hc_107 hz_ex hat ki_ot hth.2.1 hth.2.2 hS (hl.1.trans hml.symm) dX4_candidate_27 dX4_candidate_30 dX4_candidate_31 dX4_candidate_34 (fun x h => (htab x h).elim) (Nat.le_of_ble_eq_true rfl) (Nat.le_of_ble_eq_true rfl) (Nat.le_of_ble_eq_true rfl) (Nat.le_of_ble_eq_true rfl) hlocks (fun t ha hz hk => ⟨(old, nodes, here, ff, ft, fs, fo, fe, uv, un, js, jl, je, jv, jn, vs, lo, le, fv, fn), ⟨(by decide), l0, s0⟩, ⟨rfl, hP9.kept (fun k x hx => hk x.1 ((hP9 k x hx).lt)), va_K.moved ha hK9, hD9⟩, Nat.le_trans hS.1 hz, fun q h1 h2 => (hk q (Nat.lt_of_lt_of_le h1 hS.1)).trans (hS.2.1 q h1 h2)⟩) hS.2.2 (Nat.le_refl _) (Nat.le_refl _)
      · have i_3 : 0 ≤ p2.toInt := kc_nlt c_3
        refine lv_iload hx hb dX4_candidate_16 (lv_at hl 4 rfl) ?_
        refine lv_if_lt (tgt := 27) hx hb dX4_candidate_18 (by decide) (fun c_4 => ?_) (fun c_4 => ?_)
        · have i_4 : p3.toInt < 0 := kc_lt c_4
          have hP9 := hP.sub (ws' := [kx_4 m_ q_row q_t t_ h0 k0 w_ z_ slots old, kx_2 q_t q_row q_joined q_from q_to q_size q_lossOf q_lessBy q_value q_number nodes here, kx_0 q_row q_cell len, kx_a q_cell cyI 160 f, kx_a q_from cyI 319 ff, kx_a q_to cyI 319 ft, kx_a q_size cyI 319 fs, kx_a q_lossOf cyI 319 fo, kx_a q_lessBy cyI 319 fe, kx_a q_value cyI 1914 uv, kx_a q_number cyI 1914 un, kx_3 q_joined j_v j_n js jl je, kx_a j_v cyI 12 jv, kx_a j_n cyI 12 jn, kx_3 h0 a_v a_n vs lo le, kx_a a_v cyI 12 fv, kx_a a_n cyI 12 fn]) [0, 1, 2, 3, 4, 5, 6, 7, 8, 9, 10, 11, 12, 13, 14, 15, 16] rfl
          have hD9 := hD.sub (ws' := [kx_4 m_ q_row q_t t_ h0 k0 w_ z_ slots old, kx_2 q_t q_row q_joined q_from q_to q_size q_lossOf q_lessBy q_value q_number nodes here, kx_0 q_row q_cell len, kx_a q_cell cyI 160 f, kx_a q_from cyI 319 ff, kx_a q_to cyI 319 ft, kx_a q_size cyI 319 fs, kx_a q_lossOf cyI 319 fo, kx_a q_lessBy cyI 319 fe, kx_a q_value cyI 1914 uv, kx_a q_number cyI 1914 un, kx_3 q_joined j_v j_n js jl je, kx_a j_v cyI 12 jv, kx_a j_n cyI 12 jn, kx_3 h0 a_v a_n vs lo le, kx_a a_v cyI 12 fv, kx_a a_n cyI 12 fn]) [0, 1, 2, 3, 4, 5, 6, 7, 8, 9, 10, 11, 12, 13, 14, 15, 16] (by decide) rfl
          have hK9 := hK.sub (tys' := [(cyI, .int)]) [0] rfl
          exact vx_throw0 (names := EXC) hx hb hl0 hown (by decide +kernel) (by decide +kernel) hc_107 hz_ex hat ki_ot hth.2.1 hth.2.2 hS (hl.1.trans hml.symm) dX4_candidate_27 dX4_candidate_30 dX4_candidate_31 dX4_candidate_34 (fun x h => (htab x h).elim) (Nat.le_of_ble_eq_true rfl) (Nat.le_of_ble_eq_true rfl) (Nat.le_of_ble_eq_true rfl) (Nat.le_of_ble_eq_true rfl) hlocks (fun t ha hz hk => ⟨(old, nodes, here, ff, ft, fs, fo, fe, uv, un, js, jl, je, jv, jn, vs, lo, le, fv, fn), ⟨(by decide), l0, s0⟩, ⟨rfl, hP9.kept (fun k x hx => hk x.1 ((hP9 k x hx).lt)), va_K.moved ha hK9, hD9⟩, Nat.le_trans hS.1 hz, fun q h1 h2 => (hk q (Nat.lt_of_lt_of_le h1 hS.1)).trans (hS.2.1 q h1 h2)⟩) hS.2.2 (Nat.le_refl _) (Nat.le_refl _)
        · have i_4 : 0 ≤ p3.toInt := kc_nlt c_4
          refine lv_iload hx hb dX4_candidate_21 (lv_at hl 4 rfl) ?_
          refine lv_iconst (v := 2) hx hb dX4_candidate_23 (by decide) ?_
          refine lv_icmp_le (tgt := 35) hx hb dX4_candidate_24 (by decide) (fun c_5 => ?_) (fun c_5 => ?_)
          · have i_5 : p3.toInt ≤ 2 := kc_le c_5
            refine lv_aload_n hx hb dX4_candidate_35 rfl (lv_at hl 0 rfl) ?_
            obtain ⟨hPc, hDc, hFc, hCc⟩ := kx_preM (wc := [kx_4 m_ q_row q_t t_ h0 k0 w_ z_ slots old, kx_2 q_t q_row q_joined q_from q_to q_size q_lossOf q_lessBy q_value q_number nodes here, kx_0 q_row q_cell len, kx_a q_cell cyI 160 f, kx_a q_from cyI 319 ff, kx_a q_to cyI 319 ft, kx_a q_size cyI 319 fs, kx_a q_lossOf cyI 319 fo, kx_a q_lessBy cyI 319 fe, kx_a q_value cyI 1914 uv, kx_a q_number cyI 1914 un, kx_3 q_joined j_v j_n js jl je, kx_a j_v cyI 12 jv, kx_a j_n cyI 12 jn]) hP hD hS hA [true, true, true, true, true, true, true, true, true, true, true, true, true, true, false, false, false] rfl
            have hKc := hK
            refine va_callr (va_runV (As := []) (rest := []) ⟨hx, hb, hml, hown, hts⟩ (kx_un (c_X4_laidTree l dC dI m_ q_row q_t t_ h0 k0 w_ z_ slots old q_joined q_from q_to q_size q_lossOf q_lessBy q_value q_number nodes here q_cell cyI len f ff ft fs fo uv un fe j_v j_n js jl je jv jn s.heap.size a0 a1 s0 l0)) (cwV 0 hts gX4_candidate_X4_laidTree rfl rfl rfl (by decide +kernel) ⟨Nat.le_of_ble_eq_true rfl, Nat.le_of_ble_eq_true rfl⟩) ⟨fun a U g mk q => by obtain ⟨q0, q1, qP, qK, qD⟩ := q; exact ⟨q0, q1, qP, va_K.moved (u := U) (U := U.calling g mk a) (Vm.Alike.refl U.vm) qK, qD⟩, kx_rc4 hKc hPc (q0 := 0) rfl, fun U hU hW => ⟨rfl, by rw [hU], by rw [hU]; exact hPc, va_K.moved hW.alike hKc, hDc.weaken (fun _ _ _ _ => trivial)⟩⟩ rfl rfl hl.1 rfl (lv_room (Nat.le_of_ble_eq_true rfl)) dX4_candidate_36 ⟨Nat.le_of_ble_eq_true rfl, Nat.le_of_ble_eq_true rfl⟩) hS (fun q _ h => hFc q h) hFc (fun u ra t H1 locs ht hvm w_6 hB hz1 hk1 hS => ?_)
            obtain ⟨o_7, o_8, o_9, o_10, o_11, o_12, o_13, o_14, o_15, o_16, o_17, o_18, o_19, o_20, o_21⟩ := u
            dsimp only at w_6 hB
            obtain ⟨er, hP1, hK1, hD1⟩ := hB
            rw [ht] at hP1
            have hK1 := va_K.moved hvm.symm hK1
            obtain ⟨hP, hD⟩ := kx_joinM (w2 := [kx_4 m_ q_row q_t t_ h0 k0 w_ z_ slots o_7, kx_2 q_t q_row q_joined q_from q_to q_size q_lossOf q_lessBy q_value q_number o_8 o_9, kx_0 q_row q_cell len, kx_a q_cell cyI 160 f, kx_a q_from cyI 319 o_10, kx_a q_to cyI 319 o_11, kx_a q_size cyI 319 o_12, kx_a q_lossOf cyI 319 o_13, kx_a q_lessBy cyI 319 o_14, kx_a q_value cyI 1914 o_15, kx_a q_number cyI 1914 o_16, kx_3 q_joined j_v j_n o_17 o_18 o_19, kx_a j_v cyI 12 o_20, kx_a j_n cyI 12 o_21, kx_3 h0 a_v a_n vs lo le, kx_a a_v cyI 12 fv, kx_a a_n cyI 12 fn]) hP hD hP1 hD1 hk1 hFc [true, true, true, true, true, true, true, true, true, true, true, true, true, true, false, false, false] hCc rfl
            clear hP1 hD1 hK1 hk1 hz1 hFc hDc hPc hKc hCc
            generalize H1 = H at hP hS ⊢
            have w_6 : o_7.toInt = 0 ∧ 0 ≤ o_8.toInt ∧ o_8.toInt ≤ 319 ∧ sixes o_12 ∧ treeOk o_10 o_11 o_8.toInt len.toInt := w_6
            rw [er]
            refine lv_aload_n hx hb dX4_candidate_39 rfl (lv_at hl 0 rfl) ?_
            refine va_get (D := (dC, dI)) (ci := 4) (v := .ref h0) (C := RX4) (T := TX4) (N := 9) hx hb hts hi_4 hown hK hP 0 rfl rfl 3 (by decide) hf_35 (fun _ h9 => h9) rfl dX4_candidate_40 ?_
            refine lv_iload_n hx hb dX4_candidate_43 rfl (lv_at hl 1 rfl) ?_
            refine lv_iload_n hx hb dX4_candidate_44 rfl (lv_at hl 2 rfl) ?_
            obtain ⟨hPc, hDc, hFc, hCc⟩ := kx_preM (wc := [kx_2 q_t q_row q_joined q_from q_to q_size q_lossOf q_lessBy q_value q_number o_8 o_9, kx_a q_from cyI 319 o_10, kx_a q_to cyI 319 o_11, kx_a q_size cyI 319 o_12, kx_a q_lossOf cyI 319 o_13, kx_a q_value cyI 1914 o_15, kx_a q_number cyI 1914 o_16, kx_3 h0 a_v a_n vs lo le, kx_a a_v cyI 12 fv, kx_a a_n cyI 12 fn]) hP hD hS hA [false, true, false, false, true, true, true, true, false, true, true, false, false, false, true, true, true] rfl
            have hKc := hK
            refine va_callv (va_runV (As := [.ref h0, .int p0, .int p1]) (rest := []) ⟨hx, hb, hml, hown, hts⟩ (kx_un (c_X2_gather l dC dI q_t q_row q_joined q_from q_to q_size q_lossOf q_lessBy q_value q_number o_8 o_9 h0 a_v a_n cyI vs lo le fv fn o_10 o_11 o_12 o_13 o_15 o_16 p0 p1 H.size w_6.2.1 w_6.2.2.1 w_6.2.2.2.1)) (cwV 3 hts gX4_candidate_X2_gather rfl rfl rfl (by decide +kernel) ⟨Nat.le_of_ble_eq_true rfl, Nat.le_of_ble_eq_true rfl⟩) ⟨fun a U g mk q => by obtain ⟨q0, q1, qP, qK, qD⟩ := q; exact ⟨q0, q1, qP, va_K.moved (u := U) (U := U.calling g mk a) (Vm.Alike.refl U.vm) qK, qD⟩, kx_rc2 hKc hPc (q0 := 0) rfl, fun U hU hW => ⟨rfl, by rw [hU], by rw [hU]; exact hPc, va_K.moved hW.alike hKc, hDc.weaken (fun _ _ _ _ => trivial)⟩⟩ rfl rfl hl.1 rfl (lv_room (Nat.le_of_ble_eq_true rfl)) dX4_candidate_45 ⟨Nat.le_of_ble_eq_true rfl, Nat.le_of_ble_eq_true rfl⟩) hS (fun q _ h => hFc q h) hFc (fun u t H1 locs ht hvm w_22 hB hz1 hk1 hS => ?_)
            obtain ⟨o_23, o_24, o_25, o_26, o_27⟩ := u
            dsimp only at w_22 hB
            obtain ⟨hP1, hK1, hD1⟩ := hB
            rw [ht] at hP1
            have hK1 := va_K.moved hvm.symm hK1
            obtain ⟨hP, hD⟩ := kx_joinM (w2 := [kx_4 m_ q_row q_t t_ h0 k0 w_ z_ slots o_7, kx_2 q_t q_row q_joined q_from q_to q_size q_lossOf q_lessBy q_value q_number o_8 o_9, kx_0 q_row q_cell len, kx_a q_cell cyI 160 f, kx_a q_from cyI 319 o_10, kx_a q_to cyI 319 o_11, kx_a q_size cyI 319 o_12, kx_a q_lossOf cyI 319 o_13, kx_a q_lessBy cyI 319 o_14, kx_a q_value cyI 1914 o_15, kx_a q_number cyI 1914 o_16, kx_3 q_joined j_v j_n o_17 o_18 o_19, kx_a j_v cyI 12 o_20, kx_a j_n cyI 12 o_21, kx_3 h0 a_v a_n o_23 o_24 o_25, kx_a a_v cyI 12 o_26, kx_a a_n cyI 12 o_27]) hP hD hP1 hD1 hk1 hFc [false, true, false, false, true, true, true, true, false, true, true, false, false, false, true, true, true] hCc rfl
            clear hP1 hD1 hK1 hk1 hz1 hFc hDc hPc hKc hCc
            generalize H1 = H at hP hS ⊢
            have w_22 : 0 ≤ o_23.toInt ∧ o_23.toInt ≤ 12 := w_22
            refine lv_iload_n hx hb dX4_candidate_48 rfl (lv_at hl 3 rfl) ?_
            refine lv_aload_n hx hb dX4_candidate_49 rfl (lv_at hl 0 rfl) ?_
            refine va_get (D := (dC, dI)) (ci := 4) (v := .ref h0) (C := RX4) (T := TX4) (N := 9) hx hb hts hi_4 hown hK hP 0 rfl rfl 3 (by decide) hf_35 (fun _ h9 => h9) rfl dX4_candidate_50 ?_
            refine va_get (D := (dC, dI)) (ci := 3) (v := .int o_23) (C := RX3) (T := TX3) (N := 5) hx hb hts hi_3 hown hK hP 14 rfl rfl 2 (by decide) hf_174 (fun _ h9 => h9) rfl dX4_candidate_53 ?_
            refine lv_icmp_lt (tgt := 67) hx hb dX4_candidate_56 (by decide) (fun c_28 => ?_) (fun c_28 => ?_)
            · have i_28 : p2.toInt < o_23.toInt := kc_lt c_28
              refine lv_iload hx hb dX4_candidate_67 (lv_at hl 4 rfl) ?_
              by_cases s_29 : p3.toInt = 0
              · refine lv_lookup (tgt := 96) (off := 27) hx hb dX4_candidate_69 (by decide) (by rw [s_29]; rfl) (by decide) ?_
                refine lv_aload_n hx hb dX4_candidate_96 rfl (lv_at hl 0 rfl) ?_
                refine va_get (D := (dC, dI)) (ci := 4) (v := .ref h0) (C := RX4) (T := TX4) (N := 9) hx hb hts hi_4 hown hK hP 0 rfl rfl 3 (by decide) hf_35 (fun _ h9 => h9) rfl dX4_candidate_97 ?_
                refine va_get (D := (dC, dI)) (ci := 3) (v := .ref a_v) (C := RX3) (T := TX3) (N := 5) hx hb hts hi_3 hown hK hP 14 rfl rfl 0 (by decide) hf_133 (fun _ h9 => h9) rfl dX4_candidate_100 ?_
                refine lv_iload_n hx hb dX4_candidate_103 rfl (lv_at hl 3 rfl) ?_
                refine va_iald hx hb hK hP 15 0 rfl rfl (ki_in (om_10 i_3) (om_32 w_22.2 i_28)) dX4_candidate_104 ?_
                refine lv_topi (fun y_30 ey_30 => ?_)
                have j_30 : y_30.toInt = (o_26 p2.toNatClampNeg).toInt := congrArg Int32.toInt ey_30
                refine vx_ret ?_
                have hP9 := hP
                have hD9 := hD
                have hK9 := hK
                refine W.widen (k := 1) (n := 6) (Nat.le_of_ble_eq_true rfl) (Nat.le_of_ble_eq_true rfl) ?_
                exact W.iret (v := y_30) hx hb hr (hlocks := hlocks) (fun t ht hW => ⟨⟨y_30, (o_7, o_8, o_9, o_10, o_11, o_12, o_13, o_14, o_15, o_16, o_17, o_18, o_19, o_20, o_21, o_23, o_24, o_25, o_26, o_27), rfl, ⟨(by decide), (fun _ => ⟨(by (try dsimp only); omega), (by (try dsimp only); omega), w_6.2.2.2.2⟩), w_6.2.2.2.1⟩, by rw [ht]; exact hP9, va_K.moved hW.alike hK9, hD9⟩, hS.F ht⟩) hS.2.2 dX4_candidate_105
              by_cases s_31 : p3.toInt = 1
              · refine lv_lookup (tgt := 106) (off := 37) hx hb dX4_candidate_69 (by decide) (by rw [s_31]; rfl) (by decide) ?_
                refine lv_aload_n hx hb dX4_candidate_106 rfl (lv_at hl 0 rfl) ?_
                refine va_get (D := (dC, dI)) (ci := 4) (v := .ref h0) (C := RX4) (T := TX4) (N := 9) hx hb hts hi_4 hown hK hP 0 rfl rfl 3 (by decide) hf_35 (fun _ h9 => h9) rfl dX4_candidate_107 ?_
                refine va_get (D := (dC, dI)) (ci := 3) (v := .ref a_n) (C := RX3) (T := TX3) (N := 5) hx hb hts hi_3 hown hK hP 14 rfl rfl 1 (by decide) hf_136 (fun _ h9 => h9) rfl dX4_candidate_110 ?_
                refine lv_iload_n hx hb dX4_candidate_113 rfl (lv_at hl 3 rfl) ?_
                refine va_iald hx hb hK hP 16 0 rfl rfl (ki_in (om_10 i_3) (om_32 w_22.2 i_28)) dX4_candidate_114 ?_
                refine lv_topi (fun y_32 ey_32 => ?_)
                have j_32 : y_32.toInt = (o_27 p2.toNatClampNeg).toInt := congrArg Int32.toInt ey_32
                refine vx_ret ?_
                have hP9 := hP
                have hD9 := hD
                have hK9 := hK
                refine W.widen (k := 1) (n := 6) (Nat.le_of_ble_eq_true rfl) (Nat.le_of_ble_eq_true rfl) ?_
                exact W.iret (v := y_32) hx hb hr (hlocks := hlocks) (fun t ht hW => ⟨⟨y_32, (o_7, o_8, o_9, o_10, o_11, o_12, o_13, o_14, o_15, o_16, o_17, o_18, o_19, o_20, o_21, o_23, o_24, o_25, o_26, o_27), rfl, ⟨(by decide), (fun _ => ⟨(by (try dsimp only); omega), (by (try dsimp only); omega), w_6.2.2.2.2⟩), w_6.2.2.2.1⟩, by rw [ht]; exact hP9, va_K.moved hW.alike hK9, hD9⟩, hS.F ht⟩) hS.2.2 dX4_candidate_115
              have s_33 : p3.toInt = 2 := by omega
              refine lv_lookup (tgt := 116) (off := 47) hx hb dX4_candidate_69 (by decide) (by rw [s_33]; rfl) (by decide) ?_
              refine lv_aload_n hx hb dX4_candidate_116 rfl (lv_at hl 0 rfl) ?_
              refine va_get (D := (dC, dI)) (ci := 4) (v := .ref q_row) (C := RX4) (T := TX4) (N := 9) hx hb hts hi_4 hown hK hP 0 rfl rfl 0 (by decide) hf_12 (fun _ h9 => h9) rfl dX4_candidate_117 ?_
              refine lv_aload_n hx hb dX4_candidate_120 rfl (lv_at hl 0 rfl) ?_
              refine va_get (D := (dC, dI)) (ci := 4) (v := .ref h0) (C := RX4) (T := TX4) (N := 9) hx hb hts hi_4 hown hK hP 0 rfl rfl 3 (by decide) hf_35 (fun _ h9 => h9) rfl dX4_candidate_121 ?_
              refine va_get (D := (dC, dI)) (ci := 3) (v := .ref a_v) (C := RX3) (T := TX3) (N := 5) hx hb hts hi_3 hown hK hP 14 rfl rfl 0 (by decide) hf_133 (fun _ h9 => h9) rfl dX4_candidate_124 ?_
              refine lv_iload_n hx hb dX4_candidate_127 rfl (lv_at hl 3 rfl) ?_
              refine va_iald hx hb hK hP 15 0 rfl rfl (ki_in (om_10 i_3) (om_32 w_22.2 i_28)) dX4_candidate_128 ?_
              refine lv_topi (fun y_34 ey_34 => ?_)
              have j_34 : y_34.toInt = (o_26 p2.toNatClampNeg).toInt := congrArg Int32.toInt ey_34
              refine lv_iload_n hx hb dX4_candidate_129 rfl (lv_at hl 1 rfl) ?_
              refine lv_iload_n hx hb dX4_candidate_130 rfl (lv_at hl 2 rfl) ?_
              have hPc := hP.sub (ws' := [kx_0 q_row q_cell len, kx_a q_cell cyI 160 f]) [2, 3] rfl
              have hKc := hK
              refine vp_callSi (W.runV (As := [.int y_34, .int p0, .int p1]) (rest := []) ⟨hx, hb, hml, hown, hts⟩ (c_X0_oftenIn l dC dI q_row q_cell cyI len f y_34 p0 p1 (om_10 w_1.1) (om_167 a1 w_1.2.2)) (cwV 3 hts gX4_candidate_X0_oftenIn rfl rfl rfl (by decide +kernel) ⟨Nat.le_of_ble_eq_true rfl, Nat.le_of_ble_eq_true rfl⟩) ⟨fun a U g mk q => by obtain ⟨q0, qP, qK⟩ := q; exact ⟨q0, qP, va_K.moved (u := U) (U := U.calling g mk a) (Vm.Alike.refl U.vm) qK⟩, kx_rc0 hKc hPc (q0 := 0) rfl, fun U hU hW => ⟨rfl, by rw [hU]; exact hPc, va_K.moved hW.alike hKc⟩⟩ rfl rfl hl.1 rfl (lv_room (Nat.le_of_ble_eq_true rfl)) dX4_candidate_131 ⟨Nat.le_of_ble_eq_true rfl, Nat.le_of_ble_eq_true rfl⟩) (fun r_35 w_35 => ?_)
              have w_35 : r_35.toInt = (cnt f y_34 p0.toNatClampNeg (p1.toInt - p0.toInt).toNat : Int) := w_35
              refine vx_ret ?_
              have hP9 := hP
              have hD9 := hD
              have hK9 := hK
              refine W.widen (k := 1) (n := 6) (Nat.le_of_ble_eq_true rfl) (Nat.le_of_ble_eq_true rfl) ?_
              exact W.iret (v := r_35) hx hb hr (hlocks := hlocks) (fun t ht hW => ⟨⟨r_35, (o_7, o_8, o_9, o_10, o_11, o_12, o_13, o_14, o_15, o_16, o_17, o_18, o_19, o_20, o_21, o_23, o_24, o_25, o_26, o_27), rfl, ⟨(by decide), (fun _ => ⟨(by (try dsimp only); omega), (by (try dsimp only); omega), w_6.2.2.2.2⟩), w_6.2.2.2.1⟩, by rw [ht]; exact hP9, va_K.moved hW.alike hK9, hD9⟩, hS.F ht⟩) hS.2.2 dX4_candidate_134
            · have i_28 : o_23.toInt ≤ p2.toInt := kc_nlt c_28
              have hP9 := hP.sub (ws' := [kx_4 m_ q_row q_t t_ h0 k0 w_ z_ slots o_7, kx_2 q_t q_row q_joined q_from q_to q_size q_lossOf q_lessBy q_value q_number o_8 o_9, kx_0 q_row q_cell len, kx_a q_cell cyI 160 f, kx_a q_from cyI 319 o_10, kx_a q_to cyI 319 o_11, kx_a q_size cyI 319 o_12, kx_a q_lossOf cyI 319 o_13, kx_a q_lessBy cyI 319 o_14, kx_a q_value cyI 1914 o_15, kx_a q_number cyI 1914 o_16, kx_3 q_joined j_v j_n o_17 o_18 o_19, kx_a j_v cyI 12 o_20, kx_a j_n cyI 12 o_21, kx_3 h0 a_v a_n o_23 o_24 o_25, kx_a a_v cyI 12 o_26, kx_a a_n cyI 12 o_27]) [0, 1, 2, 3, 4, 5, 6, 7, 8, 9, 10, 11, 12, 13, 14, 15, 16] rfl
              have hD9 := hD.sub (ws' := [kx_4 m_ q_row q_t t_ h0 k0 w_ z_ slots o_7, kx_2 q_t q_row q_joined q_from q_to q_size q_lossOf q_lessBy q_value q_number o_8 o_9, kx_0 q_row q_cell len, kx_a q_cell cyI 160 f, kx_a q_from cyI 319 o_10, kx_a q_to cyI 319 o_11, kx_a q_size cyI 319 o_12, kx_a q_lossOf cyI 319 o_13, kx_a q_lessBy cyI 319 o_14, kx_a q_value cyI 1914 o_15, kx_a q_number cyI 1914 o_16, kx_3 q_joined j_v j_n o_17 o_18 o_19, kx_a j_v cyI 12 o_20, kx_a j_n cyI 12 o_21, kx_3 h0 a_v a_n o_23 o_24 o_25, kx_a a_v cyI 12 o_26, kx_a a_n cyI 12 o_27]) [0, 1, 2, 3, 4, 5, 6, 7, 8, 9, 10, 11, 12, 13, 14, 15, 16] (by decide) rfl
              have hK9 := hK.sub (tys' := [(cyI, .int)]) [0] rfl
              exact vx_throw0 (names := EXC) hx hb hl0 hown (by decide +kernel) (by decide +kernel) hc_107 hz_ex hat ki_ot hth.2.1 hth.2.2 hS (hl.1.trans hml.symm) dX4_candidate_59 dX4_candidate_62 dX4_candidate_63 dX4_candidate_66 (fun x h => (htab x h).elim) (Nat.le_of_ble_eq_true rfl) (Nat.le_of_ble_eq_true rfl) (Nat.le_of_ble_eq_true rfl) (Nat.le_of_ble_eq_true rfl) hlocks (fun t ha hz hk => ⟨(o_7, o_8, o_9, o_10, o_11, o_12, o_13, o_14, o_15, o_16, o_17, o_18, o_19, o_20, o_21, o_23, o_24, o_25, o_26, o_27), ⟨(by decide), (fun _ => ⟨(by (try dsimp only); omega), (by (try dsimp only); omega), w_6.2.2.2.2⟩), w_6.2.2.2.1⟩, ⟨rfl, hP9.kept (fun k x hx => hk x.1 ((hP9 k x hx).lt)), va_K.moved ha hK9, hD9⟩, Nat.le_trans hS.1 hz, fun q h1 h2 => (hk q (Nat.lt_of_lt_of_le h1 hS.1)).trans (hS.2.1 q h1 h2)⟩) hS.2.2 (Nat.le_refl _) (Nat.le_refl _)
          · have i_5 : 2 < p3.toInt := kc_nle c_5
            have hP9 := hP.sub (ws' := [kx_4 m_ q_row q_t t_ h0 k0 w_ z_ slots old, kx_2 q_t q_row q_joined q_from q_to q_size q_lossOf q_lessBy q_value q_number nodes here, kx_0 q_row q_cell len, kx_a q_cell cyI 160 f, kx_a q_from cyI 319 ff, kx_a q_to cyI 319 ft, kx_a q_size cyI 319 fs, kx_a q_lossOf cyI 319 fo, kx_a q_lessBy cyI 319 fe, kx_a q_value cyI 1914 uv, kx_a q_number cyI 1914 un, kx_3 q_joined j_v j_n js jl je, kx_a j_v cyI 12 jv, kx_a j_n cyI 12 jn, kx_3 h0 a_v a_n vs lo le, kx_a a_v cyI 12 fv, kx_a a_n cyI 12 fn]) [0, 1, 2, 3, 4, 5, 6, 7, 8, 9, 10, 11, 12, 13, 14, 15, 16] rfl
            have hD9 := hD.sub (ws' := [kx_4 m_ q_row q_t t_ h0 k0 w_ z_ slots old, kx_2 q_t q_row q_joined q_from q_to q_size q_lossOf q_lessBy q_value q_number nodes here, kx_0 q_row q_cell len, kx_a q_cell cyI 160 f, kx_a q_from cyI 319 ff, kx_a q_to cyI 319 ft, kx_a q_size cyI 319 fs, kx_a q_lossOf cyI 319 fo, kx_a q_lessBy cyI 319 fe, kx_a q_value cyI 1914 uv, kx_a q_number cyI 1914 un, kx_3 q_joined j_v j_n js jl je, kx_a j_v cyI 12 jv, kx_a j_n cyI 12 jn, kx_3 h0 a_v a_n vs lo le, kx_a a_v cyI 12 fv, kx_a a_n cyI 12 fn]) [0, 1, 2, 3, 4, 5, 6, 7, 8, 9, 10, 11, 12, 13, 14, 15, 16] (by decide) rfl
            have hK9 := hK.sub (tys' := [(cyI, .int)]) [0] rfl
            exact vx_throw0 (names := EXC) hx hb hl0 hown (by decide +kernel) (by decide +kernel) hc_107 hz_ex hat ki_ot hth.2.1 hth.2.2 hS (hl.1.trans hml.symm) dX4_candidate_27 dX4_candidate_30 dX4_candidate_31 dX4_candidate_34 (fun x h => (htab x h).elim) (Nat.le_of_ble_eq_true rfl) (Nat.le_of_ble_eq_true rfl) (Nat.le_of_ble_eq_true rfl) (Nat.le_of_ble_eq_true rfl) hlocks (fun t ha hz hk => ⟨(old, nodes, here, ff, ft, fs, fo, fe, uv, un, js, jl, je, jv, jn, vs, lo, le, fv, fn), ⟨(by decide), l0, s0⟩, ⟨rfl, hP9.kept (fun k x hx => hk x.1 ((hP9 k x hx).lt)), va_K.moved ha hK9, hD9⟩, Nat.le_trans hS.1 hz, fun q h1 h2 => (hk q (Nat.lt_of_lt_of_le h1 hS.1)).trans (hS.2.1 q h1 h2)⟩) hS.2.2 (Nat.le_refl _) (Nat.le_refl _)
  · have w_1 : (p0.toInt < 0 ∨ p1.toInt ≤ p0.toInt ∨ len.toInt < p1.toInt) := w_1
    refine lv_if_eq (tgt := 27) hx hb dX4_candidate_9 (by decide) (fun c_36 => ?_) (fun c_36 => ?_)
    · have hP9 := hP.sub (ws' := [kx_4 m_ q_row q_t t_ h0 k0 w_ z_ slots old, kx_2 q_t q_row q_joined q_from q_to q_size q_lossOf q_lessBy q_value q_number nodes here, kx_0 q_row q_cell len, kx_a q_cell cyI 160 f, kx_a q_from cyI 319 ff, kx_a q_to cyI 319 ft, kx_a q_size cyI 319 fs, kx_a q_lossOf cyI 319 fo, kx_a q_lessBy cyI 319 fe, kx_a q_value cyI 1914 uv, kx_a q_number cyI 1914 un, kx_3 q_joined j_v j_n js jl je, kx_a j_v cyI 12 jv, kx_a j_n cyI 12 jn, kx_3 h0 a_v a_n vs lo le, kx_a a_v cyI 12 fv, kx_a a_n cyI 12 fn]) [0, 1, 2, 3, 4, 5, 6, 7, 8, 9, 10, 11, 12, 13, 14, 15, 16] rfl
      have hD9 := hD.sub (ws' := [kx_4 m_ q_row q_t t_ h0 k0 w_ z_ slots old, kx_2 q_t q_row q_joined q_from q_to q_size q_lossOf q_lessBy q_value q_number nodes here, kx_0 q_row q_cell len, kx_a q_cell cyI 160 f, kx_a q_from cyI 319 ff, kx_a q_to cyI 319 ft, kx_a q_size cyI 319 fs, kx_a q_lossOf cyI 319 fo, kx_a q_lessBy cyI 319 fe, kx_a q_value cyI 1914 uv, kx_a q_number cyI 1914 un, kx_3 q_joined j_v j_n js jl je, kx_a j_v cyI 12 jv, kx_a j_n cyI 12 jn, kx_3 h0 a_v a_n vs lo le, kx_a a_v cyI 12 fv, kx_a a_n cyI 12 fn]) [0, 1, 2, 3, 4, 5, 6, 7, 8, 9, 10, 11, 12, 13, 14, 15, 16] (by decide) rfl
      have hK9 := hK.sub (tys' := [(cyI, .int)]) [0] rfl
      exact vx_throw0 (names := EXC) hx hb hl0 hown (by decide +kernel) (by decide +kernel) hc_107 hz_ex hat ki_ot hth.2.1 hth.2.2 hS (hl.1.trans hml.symm) dX4_candidate_27 dX4_candidate_30 dX4_candidate_31 dX4_candidate_34 (fun x h => (htab x h).elim) (Nat.le_of_ble_eq_true rfl) (Nat.le_of_ble_eq_true rfl) (Nat.le_of_ble_eq_true rfl) (Nat.le_of_ble_eq_true rfl) hlocks (fun t ha hz hk => ⟨(old, nodes, here, ff, ft, fs, fo, fe, uv, un, js, jl, je, jv, jn, vs, lo, le, fv, fn), ⟨(by decide), l0, s0⟩, ⟨rfl, hP9.kept (fun k x hx => hk x.1 ((hP9 k x hx).lt)), va_K.moved ha hK9, hD9⟩, Nat.le_trans hS.1 hz, fun q h1 h2 => (hk q (Nat.lt_of_lt_of_le h1 hS.1)).trans (hS.2.1 q h1 h2)⟩) hS.2.2 (Nat.le_refl _) (Nat.le_refl _)
    · exact absurd c_36 (by decide)

set_option maxHeartbeats 4000000 in
set_option maxRecDepth 100000 in
theorem c_X4_heavyAt (l : Launch) (hl0 : l.stackTraces = false) (dC : Nat → ClassId) (dI : Nat → Nat → Nat) (m_ : Nat) (q_row : Nat) (q_t : Nat) (t_ : Nat) (h0 : Nat) (k0 : Nat) (w_ : Nat) (z_ : Nat) (slots : Int32) (old : Int32) (q_joined : Nat) (q_from : Nat) (q_to : Nat) (q_size : Nat) (q_lossOf : Nat) (q_lessBy : Nat) (q_value : Nat) (q_number : Nat) (nodes : Int32) (here : Int32) (q_cell : Nat) (cyI : ClassId) (len : Int32) (f : Nat → Int32) (ff : Nat → Int32) (ft : Nat → Int32) (fs : Nat → Int32) (fo : Nat → Int32) (uv : Nat → Int32) (un : Nat → Int32) (fe : Nat → Int32) (j_v : Nat) (j_n : Nat) (js : Int32) (jl : Int32) (je : Int32) (jv : Nat → Int32) (jn : Nat → Int32) (a_v : Nat) (a_n : Nat) (vs : Int32) (lo : Int32) (le : Int32) (fv : Nat → Int32) (fn : Nat → Int32) (p0 : Int32) (p1 : Int32) (p2 : Int32) (p3 : Int32) (p4 : Int32) (p5 : Int32) (sz : Nat) (a0 : 0 ≤ len.toInt) (a1 : len.toInt ≤ 160) (s0 : sixes fs) (l0 : laidP old ff ft nodes len) : vx_Met l yX4_heavyAt wsX4_heavyAt ({ frames := 8, cells := 1, slots := 6, locals := 360 }) (va_Pc [.ref m_, .int p0, .int p1, .int p2, .int p3, .int p4, .int p5] (fun U => U.heap.size = sz ∧ va_P (dC, dI) vwCl [kx_4 m_ q_row q_t t_ h0 k0 w_ z_ slots old, kx_2 q_t q_row q_joined q_from q_to q_size q_lossOf q_lessBy q_value q_number nodes here, kx_0 q_row q_cell len, kx_a q_cell cyI 160 f, kx_a q_from cyI 319 ff, kx_a q_to cyI 319 ft, kx_a q_size cyI 319 fs, kx_a q_lossOf cyI 319 fo, kx_a q_lessBy cyI 319 fe, kx_a q_value cyI 1914 uv, kx_a q_number cyI 1914 un, kx_3 q_joined j_v j_n js jl je, kx_a j_v cyI 12 jv, kx_a j_n cyI 12 jn, kx_3 h0 a_v a_n vs lo le, kx_a a_v cyI 12 fv, kx_a a_n cyI 12 fn] U.heap ∧ va_K (dC, dI) vwCl [(cyI, .int)] U ∧ va_D (fun _ => True) [kx_4 m_ q_row q_t t_ h0 k0 w_ z_ slots old, kx_2 q_t q_row q_joined q_from q_to q_size q_lossOf q_lessBy q_value q_number nodes here, kx_0 q_row q_cell len, kx_a q_cell cyI 160 f, kx_a q_from cyI 319 ff, kx_a q_to cyI 319 ft, kx_a q_size cyI 319 fs, kx_a q_lossOf cyI 319 fo, kx_a q_lessBy cyI 319 fe, kx_a q_value cyI 1914 uv, kx_a q_number cyI 1914 un, kx_3 q_joined j_v j_n js jl je, kx_a j_v cyI 12 jv, kx_a j_n cyI 12 jn, kx_3 h0 a_v a_n vs lo le, kx_a a_v cyI 12 fv, kx_a a_n cyI 12 fn] ∧ va_Nw (.methodLinkNest RX3 42 yX4_isHeavy RX4) U ∧ ki_ThA (va_A [kx_4 m_ q_row q_t t_ h0 k0 w_ z_ slots old, kx_2 q_t q_row q_joined q_from q_to q_size q_lossOf q_lessBy q_value q_number nodes here, kx_0 q_row q_cell len, kx_a q_cell cyI 160 f, kx_a q_from cyI 319 ff, kx_a q_to cyI 319 ft, kx_a q_size cyI 319 fs, kx_a q_lossOf cyI 319 fo, kx_a q_lessBy cyI 319 fe, kx_a q_value cyI 1914 uv, kx_a q_number cyI 1914 un, kx_3 q_joined j_v j_n js jl je, kx_a j_v cyI 12 jv, kx_a j_n cyI 12 jn, kx_3 h0 a_v a_n vs lo le, kx_a a_v cyI 12 fv, kx_a a_n cyI 12 fn] sz) U)) (va_Qi (fun (r : Int32) (u : Int32 × Int32 × Int32 × (Nat → Int32) × (Nat → Int32) × (Nat → Int32) × (Nat → Int32) × (Nat → Int32) × (Nat → Int32) × (Nat → Int32) × Int32 × Int32 × Int32 × (Nat → Int32) × (Nat → Int32) × Int32 × Int32 × Int32 × (Nat → Int32) × (Nat → Int32)) => (0 : Int) ≤ 1 ∧ laidP u.1 u.2.2.2.1 u.2.2.2.2.1 u.2.1 len ∧ sixes u.2.2.2.2.2.1) (fun (u : Int32 × Int32 × Int32 × (Nat → Int32) × (Nat → Int32) × (Nat → Int32) × (Nat → Int32) × (Nat → Int32) × (Nat → Int32) × (Nat → Int32) × Int32 × Int32 × Int32 × (Nat → Int32) × (Nat → Int32) × Int32 × Int32 × Int32 × (Nat → Int32) × (Nat → Int32)) (t : State) => va_P (dC, dI) vwCl [kx_4 m_ q_row q_t t_ h0 k0 w_ z_ slots u.1, kx_2 q_t q_row q_joined q_from q_to q_size q_lossOf q_lessBy q_value q_number u.2.1 u.2.2.1, kx_0 q_row q_cell len, kx_a q_cell cyI 160 f, kx_a q_from cyI 319 u.2.2.2.1, kx_a q_to cyI 319 u.2.2.2.2.1, kx_a q_size cyI 319 u.2.2.2.2.2.1, kx_a q_lossOf cyI 319 u.2.2.2.2.2.2.1, kx_a q_lessBy cyI 319 u.2.2.2.2.2.2.2.1, kx_a q_value cyI 1914 u.2.2.2.2.2.2.2.2.1, kx_a q_number cyI 1914 u.2.2.2.2.2.2.2.2.2.1, kx_3 q_joined j_v j_n u.2.2.2.2.2.2.2.2.2.2.1 u.2.2.2.2.2.2.2.2.2.2.2.1 u.2.2.2.2.2.2.2.2.2.2.2.2.1, kx_a j_v cyI 12 u.2.2.2.2.2.2.2.2.2.2.2.2.2.1, kx_a j_n cyI 12 u.2.2.2.2.2.2.2.2.2.2.2.2.2.2.1, kx_3 h0 a_v a_n u.2.2.2.2.2.2.2.2.2.2.2.2.2.2.2.1 u.2.2.2.2.2.2.2.2.2.2.2.2.2.2.2.2.1 u.2.2.2.2.2.2.2.2.2.2.2.2.2.2.2.2.2.1, kx_a a_v cyI 12 u.2.2.2.2.2.2.2.2.2.2.2.2.2.2.2.2.2.2.1, kx_a a_n cyI 12 u.2.2.2.2.2.2.2.2.2.2.2.2.2.2.2.2.2.2.2] t.heap ∧ va_K (dC, dI) vwCl [(cyI, .int)] t ∧ va_D (va_A [kx_4 m_ q_row q_t t_ h0 k0 w_ z_ slots old, kx_2 q_t q_row q_joined q_from q_to q_size q_lossOf q_lessBy q_value q_number nodes here, kx_0 q_row q_cell len, kx_a q_cell cyI 160 f, kx_a q_from cyI 319 ff, kx_a q_to cyI 319 ft, kx_a q_size cyI 319 fs, kx_a q_lossOf cyI 319 fo, kx_a q_lessBy cyI 319 fe, kx_a q_value cyI 1914 uv, kx_a q_number cyI 1914 un, kx_3 q_joined j_v j_n js jl je, kx_a j_v cyI 12 jv, kx_a j_n cyI 12 jn, kx_3 h0 a_v a_n vs lo le, kx_a a_v cyI 12 fv, kx_a a_n cyI 12 fn] sz) [kx_4 m_ q_row q_t t_ h0 k0 w_ z_ slots u.1, kx_2 q_t q_row q_joined q_from q_to q_size q_lossOf q_lessBy q_value q_number u.2.1 u.2.2.1, kx_0 q_row q_cell len, kx_a q_cell cyI 160 f, kx_a q_from cyI 319 u.2.2.2.1, kx_a q_to cyI 319 u.2.2.2.2.1, kx_a q_size cyI 319 u.2.2.2.2.2.1, kx_a q_lossOf cyI 319 u.2.2.2.2.2.2.1, kx_a q_lessBy cyI 319 u.2.2.2.2.2.2.2.1, kx_a q_value cyI 1914 u.2.2.2.2.2.2.2.2.1, kx_a q_number cyI 1914 u.2.2.2.2.2.2.2.2.2.1, kx_3 q_joined j_v j_n u.2.2.2.2.2.2.2.2.2.2.1 u.2.2.2.2.2.2.2.2.2.2.2.1 u.2.2.2.2.2.2.2.2.2.2.2.2.1, kx_a j_v cyI 12 u.2.2.2.2.2.2.2.2.2.2.2.2.2.1, kx_a j_n cyI 12 u.2.2.2.2.2.2.2.2.2.2.2.2.2.2.1, kx_3 h0 a_v a_n u.2.2.2.2.2.2.2.2.2.2.2.2.2.2.2.1 u.2.2.2.2.2.2.2.2.2.2.2.2.2.2.2.2.1 u.2.2.2.2.2.2.2.2.2.2.2.2.2.2.2.2.2.1, kx_a a_v cyI 12 u.2.2.2.2.2.2.2.2.2.2.2.2.2.2.2.2.2.2.1, kx_a a_n cyI 12 u.2.2.2.2.2.2.2.2.2.2.2.2.2.2.2.2.2.2.2]) (va_A [kx_4 m_ q_row q_t t_ h0 k0 w_ z_ slots old, kx_2 q_t q_row q_joined q_from q_to q_size q_lossOf q_lessBy q_value q_number nodes here, kx_0 q_row q_cell len, kx_a q_cell cyI 160 f, kx_a q_from cyI 319 ff, kx_a q_to cyI 319 ft, kx_a q_size cyI 319 fs, kx_a q_lossOf cyI 319 fo, kx_a q_lessBy cyI 319 fe, kx_a q_value cyI 1914 uv, kx_a q_number cyI 1914 un, kx_3 q_joined j_v j_n js jl je, kx_a j_v cyI 12 jv, kx_a j_n cyI 12 jn, kx_3 h0 a_v a_n vs lo le, kx_a a_v cyI 12 fv, kx_a a_n cyI 12 fn] sz)) (vx_X (fun u : Int32 × Int32 × Int32 × (Nat → Int32) × (Nat → Int32) × (Nat → Int32) × (Nat → Int32) × (Nat → Int32) × (Nat → Int32) × (Nat → Int32) × Int32 × Int32 × Int32 × (Nat → Int32) × (Nat → Int32) × Int32 × Int32 × Int32 × (Nat → Int32) × (Nat → Int32) => (0 : Int) ≤ 1 ∧ laidP u.1 u.2.2.2.1 u.2.2.2.2.1 u.2.1 len ∧ sixes u.2.2.2.2.2.1) (fun (E : String) (u : Int32 × Int32 × Int32 × (Nat → Int32) × (Nat → Int32) × (Nat → Int32) × (Nat → Int32) × (Nat → Int32) × (Nat → Int32) × (Nat → Int32) × Int32 × Int32 × Int32 × (Nat → Int32) × (Nat → Int32) × Int32 × Int32 × Int32 × (Nat → Int32) × (Nat → Int32)) (t : State) => E = EXN ∧ va_P (dC, dI) vwCl [kx_4 m_ q_row q_t t_ h0 k0 w_ z_ slots u.1, kx_2 q_t q_row q_joined q_from q_to q_size q_lossOf q_lessBy q_value q_number u.2.1 u.2.2.1, kx_0 q_row q_cell len, kx_a q_cell cyI 160 f, kx_a q_from cyI 319 u.2.2.2.1, kx_a q_to cyI 319 u.2.2.2.2.1, kx_a q_size cyI 319 u.2.2.2.2.2.1, kx_a q_lossOf cyI 319 u.2.2.2.2.2.2.1, kx_a q_lessBy cyI 319 u.2.2.2.2.2.2.2.1, kx_a q_value cyI 1914 u.2.2.2.2.2.2.2.2.1, kx_a q_number cyI 1914 u.2.2.2.2.2.2.2.2.2.1, kx_3 q_joined j_v j_n u.2.2.2.2.2.2.2.2.2.2.1 u.2.2.2.2.2.2.2.2.2.2.2.1 u.2.2.2.2.2.2.2.2.2.2.2.2.1, kx_a j_v cyI 12 u.2.2.2.2.2.2.2.2.2.2.2.2.2.1, kx_a j_n cyI 12 u.2.2.2.2.2.2.2.2.2.2.2.2.2.2.1, kx_3 h0 a_v a_n u.2.2.2.2.2.2.2.2.2.2.2.2.2.2.2.1 u.2.2.2.2.2.2.2.2.2.2.2.2.2.2.2.2.1 u.2.2.2.2.2.2.2.2.2.2.2.2.2.2.2.2.2.1, kx_a a_v cyI 12 u.2.2.2.2.2.2.2.2.2.2.2.2.2.2.2.2.2.2.1, kx_a a_n cyI 12 u.2.2.2.2.2.2.2.2.2.2.2.2.2.2.2.2.2.2.2] t.heap ∧ va_K (dC, dI) vwCl [(cyI, .int)] t ∧ va_D (va_A [kx_4 m_ q_row q_t t_ h0 k0 w_ z_ slots old, kx_2 q_t q_row q_joined q_from q_to q_size q_lossOf q_lessBy q_value q_number nodes here, kx_0 q_row q_cell len, kx_a q_cell cyI 160 f, kx_a q_from cyI 319 ff, kx_a q_to cyI 319 ft, kx_a q_size cyI 319 fs, kx_a q_lossOf cyI 319 fo, kx_a q_lessBy cyI 319 fe, kx_a q_value cyI 1914 uv, kx_a q_number cyI 1914 un, kx_3 q_joined j_v j_n js jl je, kx_a j_v cyI 12 jv, kx_a j_n cyI 12 jn, kx_3 h0 a_v a_n vs lo le, kx_a a_v cyI 12 fv, kx_a a_n cyI 12 fn] sz) [kx_4 m_ q_row q_t t_ h0 k0 w_ z_ slots u.1, kx_2 q_t q_row q_joined q_from q_to q_size q_lossOf q_lessBy q_value q_number u.2.1 u.2.2.1, kx_0 q_row q_cell len, kx_a q_cell cyI 160 f, kx_a q_from cyI 319 u.2.2.2.1, kx_a q_to cyI 319 u.2.2.2.2.1, kx_a q_size cyI 319 u.2.2.2.2.2.1, kx_a q_lossOf cyI 319 u.2.2.2.2.2.2.1, kx_a q_lessBy cyI 319 u.2.2.2.2.2.2.2.1, kx_a q_value cyI 1914 u.2.2.2.2.2.2.2.2.1, kx_a q_number cyI 1914 u.2.2.2.2.2.2.2.2.2.1, kx_3 q_joined j_v j_n u.2.2.2.2.2.2.2.2.2.2.1 u.2.2.2.2.2.2.2.2.2.2.2.1 u.2.2.2.2.2.2.2.2.2.2.2.2.1, kx_a j_v cyI 12 u.2.2.2.2.2.2.2.2.2.2.2.2.2.1, kx_a j_n cyI 12 u.2.2.2.2.2.2.2.2.2.2.2.2.2.2.1, kx_3 h0 a_v a_n u.2.2.2.2.2.2.2.2.2.2.2.2.2.2.2.1 u.2.2.2.2.2.2.2.2.2.2.2.2.2.2.2.2.1 u.2.2.2.2.2.2.2.2.2.2.2.2.2.2.2.2.2.1, kx_a a_v cyI 12 u.2.2.2.2.2.2.2.2.2.2.2.2.2.2.2.2.2.2.1, kx_a a_n cyI 12 u.2.2.2.2.2.2.2.2.2.2.2.2.2.2.2.2.2.2.2]) (va_A [kx_4 m_ q_row q_t t_ h0 k0 w_ z_ slots old, kx_2 q_t q_row q_joined q_from q_to q_size q_lossOf q_lessBy q_value q_number nodes here, kx_0 q_row q_cell len, kx_a q_cell cyI 160 f, kx_a q_from cyI 319 ff, kx_a q_to cyI 319 ft, kx_a q_size cyI 319 fs, kx_a q_lossOf cyI 319 fo, kx_a q_lessBy cyI 319 fe, kx_a q_value cyI 1914 uv, kx_a q_number cyI 1914 un, kx_3 q_joined j_v j_n js jl je, kx_a j_v cyI 12 jv, kx_a j_n cyI 12 jn, kx_3 h0 a_v a_n vs lo le, kx_a a_v cyI 12 fv, kx_a a_n cyI 12 fn] sz)) 1 6 (va_A [kx_4 m_ q_row q_t t_ h0 k0 w_ z_ slots old, kx_2 q_t q_row q_joined q_from q_to q_size q_lossOf q_lessBy q_value q_number nodes here, kx_0 q_row q_cell len, kx_a q_cell cyI 160 f, kx_a q_from cyI 319 ff, kx_a q_to cyI 319 ft, kx_a q_size cyI 319 fs, kx_a q_lossOf cyI 319 fo, kx_a q_lessBy cyI 319 fe, kx_a q_value cyI 1914 uv, kx_a q_number cyI 1914 un, kx_3 q_joined j_v j_n js jl je, kx_a j_v cyI 12 jv, kx_a j_n cyI 12 jn, kx_3 h0 a_v a_n vs lo le, kx_a a_v cyI 12 fv, kx_a a_n cyI 12 fn] sz) := by
  refine vx_ofW (cc := cX4_heavyAt) (maxL := 7) (ret := (some .int)) (by decide) rfl ?_
  intro p e s m args below meth c s₁ B hml htab hv
  obtain ⟨rfl, hsz, hP, hK, hD0, hN0, hth⟩ := hv
  have hx := B.exec
  have hb := B.bytes
  have hr := B.returns
  have hts := atoms_spec (ws := wsX4_heavyAt) B.pre
  have hown : s.vm.findClass RX4 = some m.cls := findClass_of_methodNamed B.named
  have hlocks := B.notSynchronized
  have hat : ∀ w ∈ vx_at0 RX4 109 EXN EXC, w.before _ s = true := vx_hat (B := EXD) (fun w h => hts w (List.mem_cons_of_mem _ (List.mem_append_right _ h))) ki_bad (ki_ex hth)
  subst hsz
  have hD := hD0.self (sz := s.heap.size)
  generalize hAe : va_A [kx_4 m_ q_row q_t t_ h0 k0 w_ z_ slots old, kx_2 q_t q_row q_joined q_from q_to q_size q_lossOf q_lessBy q_value q_number nodes here, kx_0 q_row q_cell len, kx_a q_cell cyI 160 f, kx_a q_from cyI 319 ff, kx_a q_to cyI 319 ft, kx_a q_size cyI 319 fs, kx_a q_lossOf cyI 319 fo, kx_a q_lessBy cyI 319 fe, kx_a q_value cyI 1914 uv, kx_a q_number cyI 1914 un, kx_3 q_joined j_v j_n js jl je, kx_a j_v cyI 12 jv, kx_a j_n cyI 12 jn, kx_3 h0 a_v a_n vs lo le, kx_a a_v cyI 12 fv, kx_a a_n cyI 12 fn] s.heap.size = A at hD hth ⊢
  have hA : ∀ q : Nat, s.heap.size ≤ q → A q := fun q h => by rw [← hAe]; exact Or.inr h
  have hS : va_S A s.heap s.heap [] := va_S.rf
  have hP : va_P (dC, dI) vwCl [kx_4 m_ q_row q_t t_ h0 k0 w_ z_ slots old, kx_2 q_t q_row q_joined q_from q_to q_size q_lossOf q_lessBy q_value q_number nodes here, kx_0 q_row q_cell len, kx_a q_cell cyI 160 f, kx_a q_from cyI 319 ff, kx_a q_to cyI 319 ft, kx_a q_size cyI 319 fs, kx_a q_lossOf cyI 319 fo, kx_a q_lessBy cyI 319 fe, kx_a q_value cyI 1914 uv, kx_a q_number cyI 1914 un, kx_3 q_joined j_v j_n js jl je, kx_a j_v cyI 12 jv, kx_a j_n cyI 12 jn, kx_3 h0 a_v a_n vs lo le, kx_a a_v cyI 12 fv, kx_a a_n cyI 12 fn] s.heap := hP
  have hl := lv_entry ([.ref m_, .int p0, .int p1, .int p2, .int p3, .int p4, .int p5]) (n := 7) (Nat.le_of_ble_eq_true rfl)
  rw [lg_entry_eq]
  generalize (lg_sl ([.ref m_, .int p0, .int p1, .int p2, .int p3, .int p4, .int p5]) ++ List.replicate (7 - (lg_sl ([.ref m_, .int p0, .int p1, .int p2, .int p3, .int p4, .int p5])).length) Slot.unset).toArray = ls at hl ⊢
  have hl : lv_has ls 7 [(0, .ref m_), (1, .int p0), (2, .int p1), (3, .int p2), (4, .int p3), (5, .int p4), (6, .int p5)] := hl
  have hf_12 := hts (.fieldLink RX4 12 "MajorityIndex" "row" "LMajorityIndex$Row;") (List.mem_of_getElem? (i := 3) rfl)
  have hi_4 : ∀ w ∈ u_ws RX4 TX4 9, w ∈ wsX4_heavyAt := fun w h => List.mem_cons_of_mem _ (List.mem_append_left _ (List.mem_append_left _ (List.mem_append_left _ (List.mem_append_left _ (List.mem_append_right _ h)))))
  have hc_107 := hts (.classLink RX4 107 EXN) (by decide +kernel)
  have hz_ex := hts (.initialized EXN) (by decide +kernel)
  have hf_35 := hts (.fieldLink RX4 35 "MajorityIndex" "votes" "LMajorityIndex$Votes;") (List.mem_of_getElem? (i := 4) rfl)
  have hf_174 := hts (.fieldLink RX4 174 "MajorityIndex$Votes" "size" "I") (List.mem_of_getElem? (i := 5) rfl)
  have hi_3 : ∀ w ∈ u_ws RX3 TX3 5, w ∈ wsX4_heavyAt := fun w h => List.mem_cons_of_mem _ (List.mem_append_left _ (List.mem_append_left _ (List.mem_append_left _ (List.mem_append_right _ h))))
  have hf_136 := hts (.fieldLink RX4 136 "MajorityIndex$Votes" "number" "[I") (List.mem_of_getElem? (i := 7) rfl)
  have hf_133 := hts (.fieldLink RX4 133 "MajorityIndex$Votes" "value" "[I") (List.mem_of_getElem? (i := 6) rfl)
  refine lv_aload_n hx hb dX4_heavyAt_0 rfl (lv_at hl 0 rfl) ?_
  refine va_get (D := (dC, dI)) (ci := 4) (v := .ref q_row) (C := RX4) (T := TX4) (N := 9) hx hb hts hi_4 hown hK hP 0 rfl rfl 0 (by decide) hf_12 (fun _ h9 => h9) rfl dX4_heavyAt_1 ?_
  refine lv_iload_n hx hb dX4_heavyAt_4 rfl (lv_at hl 1 rfl) ?_
  refine lv_iload_n hx hb dX4_heavyAt_5 rfl (lv_at hl 2 rfl) ?_
  have hPc := hP.sub (ws' := [kx_0 q_row q_cell len]) [2] rfl
  have hKc := hK.sub (tys' := []) [] rfl
  refine vp_callSi (W.runV (As := [.int p0, .int p1]) (rest := []) ⟨hx, hb, hml, hown, hts⟩ (c_X0_hasRange l dC dI q_row q_cell len p0 p1) (cwV 2 hts gX4_heavyAt_X0_hasRange rfl rfl rfl (by decide +kernel) ⟨Nat.le_of_ble_eq_true rfl, Nat.le_of_ble_eq_true rfl⟩) ⟨fun a U g mk q => by obtain ⟨q0, qP, qK⟩ := q; exact ⟨q0, qP, va_K.moved (u := U) (U := U.calling g mk a) (Vm.Alike.refl U.vm) qK⟩, kx_rc0 hKc hPc (q0 := 0) rfl, fun U hU hW => ⟨rfl, by rw [hU]; exact hPc, va_K.moved hW.alike hKc⟩⟩ rfl rfl hl.1 rfl (lv_room (Nat.le_of_ble_eq_true rfl)) dX4_heavyAt_6 ⟨Nat.le_of_ble_eq_true rfl, Nat.le_of_ble_eq_true rfl⟩) (fun r_1 w_1 => ?_)
  rcases w_1 with ⟨rfl, w_1⟩ | ⟨rfl, w_1⟩
  · have w_1 : (0 ≤ p0.toInt ∧ p0.toInt < p1.toInt ∧ p1.toInt ≤ len.toInt) := w_1
    refine lv_if_eq (tgt := 37) hx hb dX4_heavyAt_9 (by decide) (fun c_2 => ?_) (fun c_2 => ?_)
    · exact absurd c_2 (by decide)
    · refine lv_iload_n hx hb dX4_heavyAt_12 rfl (lv_at hl 3 rfl) ?_
      refine lv_iload hx hb dX4_heavyAt_13 (lv_at hl 4 rfl) ?_
      have hPc := hP.sub (ws' := []) [] rfl
      have hKc := hK.sub (tys' := []) [] rfl
      refine vp_callSi (W.runS (As := [.int p2, .int p3]) (rest := []) ⟨hx, hb, hml, hown, hts⟩ (c_X4_isShare l dC dI p2 p3) (va_cwS 2 hts gX4_heavyAt_X4_isShare rfl rfl rfl (by decide +kernel) ⟨Nat.le_of_ble_eq_true rfl, Nat.le_of_ble_eq_true rfl⟩) ⟨fun a U g mk q => by obtain ⟨q0, qP, qK⟩ := q; exact ⟨q0, qP, va_K.moved (u := U) (U := U.calling g mk a) (Vm.Alike.refl U.vm) qK⟩, fun U hU hW => ⟨rfl, by rw [hU]; exact hPc, va_K.moved hW.alike hKc⟩⟩ rfl rfl hl.1 rfl (lv_room (Nat.le_of_ble_eq_true rfl)) dX4_heavyAt_15 ⟨Nat.le_of_ble_eq_true rfl, Nat.le_of_ble_eq_true rfl⟩) (fun r_3 w_3 => ?_)
      rcases w_3 with ⟨rfl, w_3⟩ | ⟨rfl, w_3⟩
      · have w_3 : (1 ≤ p2.toInt ∧ p2.toInt ≤ p3.toInt ∧ p3.toInt ≤ 999) := w_3
        refine lv_if_eq (tgt := 37) hx hb dX4_heavyAt_18 (by decide) (fun c_4 => ?_) (fun c_4 => ?_)
        · exact absurd c_4 (by decide)
        · refine lv_iload hx hb dX4_heavyAt_21 (lv_at hl 5 rfl) ?_
          refine lv_if_lt (tgt := 37) hx hb dX4_heavyAt_23 (by decide) (fun c_5 => ?_) (fun c_5 => ?_)
          · have i_5 : p4.toInt < 0 := kc_lt c_5
            have hP9 := hP.sub (ws' := [kx_4 m_ q_row q_t t_ h0 k0 w_ z_ slots old, kx_2 q_t q_row q_joined q_from q_to q_size q_lossOf q_lessBy q_value q_number nodes here, kx_0 q_row q_cell len, kx_a q_cell cyI 160 f, kx_a q_from cyI 319 ff, kx_a q_to cyI 319 ft, kx_a q_size cyI 319 fs, kx_a q_lossOf cyI 319 fo, kx_a q_lessBy cyI 319 fe, kx_a q_value cyI 1914 uv, kx_a q_number cyI 1914 un, kx_3 q_joined j_v j_n js jl je, kx_a j_v cyI 12 jv, kx_a j_n cyI 12 jn, kx_3 h0 a_v a_n vs lo le, kx_a a_v cyI 12 fv, kx_a a_n cyI 12 fn]) [0, 1, 2, 3, 4, 5, 6, 7, 8, 9, 10, 11, 12, 13, 14, 15, 16] rfl
            have hD9 := hD.sub (ws' := [kx_4 m_ q_row q_t t_ h0 k0 w_ z_ slots old, kx_2 q_t q_row q_joined q_from q_to q_size q_lossOf q_lessBy q_value q_number nodes here, kx_0 q_row q_cell len, kx_a q_cell cyI 160 f, kx_a q_from cyI 319 ff, kx_a q_to cyI 319 ft, kx_a q_size cyI 319 fs, kx_a q_lossOf cyI 319 fo, kx_a q_lessBy cyI 319 fe, kx_a q_value cyI 1914 uv, kx_a q_number cyI 1914 un, kx_3 q_joined j_v j_n js jl je, kx_a j_v cyI 12 jv, kx_a j_n cyI 12 jn, kx_3 h0 a_v a_n vs lo le, kx_a a_v cyI 12 fv, kx_a a_n cyI 12 fn]) [0, 1, 2, 3, 4, 5, 6, 7, 8, 9, 10, 11, 12, 13, 14, 15, 16] (by decide) rfl
            have hK9 := hK.sub (tys' := [(cyI, .int)]) [0] rfl
            exact vx_throw0 (names := EXC) hx hb hl0 hown (by decide +kernel) (by decide +kernel) hc_107 hz_ex hat ki_ot hth.2.1 hth.2.2 hS (hl.1.trans hml.symm) dX4_heavyAt_37 dX4_heavyAt_40 dX4_heavyAt_41 dX4_heavyAt_44 (fun x h => (htab x h).elim) (Nat.le_of_ble_eq_true rfl) (Nat.le_of_ble_eq_true rfl) (Nat.le_of_ble_eq_true rfl) (Nat.le_of_ble_eq_true rfl) hlocks (fun t ha hz hk => ⟨(old, nodes, here, ff, ft, fs, fo, fe, uv, un, js, jl, je, jv, jn, vs, lo, le, fv, fn), ⟨(by decide), l0, s0⟩, ⟨rfl, hP9.kept (fun k x hx => hk x.1 ((hP9 k x hx).lt)), va_K.moved ha hK9, hD9⟩, Nat.le_trans hS.1 hz, fun q h1 h2 => (hk q (Nat.lt_of_lt_of_le h1 hS.1)).trans (hS.2.1 q h1 h2)⟩) hS.2.2 (Nat.le_refl _) (Nat.le_refl _)
          · have i_5 : 0 ≤ p4.toInt := kc_nlt c_5
            refine lv_iload hx hb dX4_heavyAt_26 (lv_at hl 6 rfl) ?_
            refine lv_if_lt (tgt := 37) hx hb dX4_heavyAt_28 (by decide) (fun c_6 => ?_) (fun c_6 => ?_)
            · have i_6 : p5.toInt < 0 := kc_lt c_6
              have hP9 := hP.sub (ws' := [kx_4 m_ q_row q_t t_ h0 k0 w_ z_ slots old, kx_2 q_t q_row q_joined q_from q_to q_size q_lossOf q_lessBy q_value q_number nodes here, kx_0 q_row q_cell len, kx_a q_cell cyI 160 f, kx_a q_from cyI 319 ff, kx_a q_to cyI 319 ft, kx_a q_size cyI 319 fs, kx_a q_lossOf cyI 319 fo, kx_a q_lessBy cyI 319 fe, kx_a q_value cyI 1914 uv, kx_a q_number cyI 1914 un, kx_3 q_joined j_v j_n js jl je, kx_a j_v cyI 12 jv, kx_a j_n cyI 12 jn, kx_3 h0 a_v a_n vs lo le, kx_a a_v cyI 12 fv, kx_a a_n cyI 12 fn]) [0, 1, 2, 3, 4, 5, 6, 7, 8, 9, 10, 11, 12, 13, 14, 15, 16] rfl
              have hD9 := hD.sub (ws' := [kx_4 m_ q_row q_t t_ h0 k0 w_ z_ slots old, kx_2 q_t q_row q_joined q_from q_to q_size q_lossOf q_lessBy q_value q_number nodes here, kx_0 q_row q_cell len, kx_a q_cell cyI 160 f, kx_a q_from cyI 319 ff, kx_a q_to cyI 319 ft, kx_a q_size cyI 319 fs, kx_a q_lossOf cyI 319 fo, kx_a q_lessBy cyI 319 fe, kx_a q_value cyI 1914 uv, kx_a q_number cyI 1914 un, kx_3 q_joined j_v j_n js jl je, kx_a j_v cyI 12 jv, kx_a j_n cyI 12 jn, kx_3 h0 a_v a_n vs lo le, kx_a a_v cyI 12 fv, kx_a a_n cyI 12 fn]) [0, 1, 2, 3, 4, 5, 6, 7, 8, 9, 10, 11, 12, 13, 14, 15, 16] (by decide) rfl
              have hK9 := hK.sub (tys' := [(cyI, .int)]) [0] rfl
              exact vx_throw0 (names := EXC) hx hb hl0 hown (by decide +kernel) (by decide +kernel) hc_107 hz_ex hat ki_ot hth.2.1 hth.2.2 hS (hl.1.trans hml.symm) dX4_heavyAt_37 dX4_heavyAt_40 dX4_heavyAt_41 dX4_heavyAt_44 (fun x h => (htab x h).elim) (Nat.le_of_ble_eq_true rfl) (Nat.le_of_ble_eq_true rfl) (Nat.le_of_ble_eq_true rfl) (Nat.le_of_ble_eq_true rfl) hlocks (fun t ha hz hk => ⟨(old, nodes, here, ff, ft, fs, fo, fe, uv, un, js, jl, je, jv, jn, vs, lo, le, fv, fn), ⟨(by decide), l0, s0⟩, ⟨rfl, hP9.kept (fun k x hx => hk x.1 ((hP9 k x hx).lt)), va_K.moved ha hK9, hD9⟩, Nat.le_trans hS.1 hz, fun q h1 h2 => (hk q (Nat.lt_of_lt_of_le h1 hS.1)).trans (hS.2.1 q h1 h2)⟩) hS.2.2 (Nat.le_refl _) (Nat.le_refl _)
            · have i_6 : 0 ≤ p5.toInt := kc_nlt c_6
              refine lv_iload hx hb dX4_heavyAt_31 (lv_at hl 6 rfl) ?_
              refine lv_iconst (v := 1) hx hb dX4_heavyAt_33 (by decide) ?_
              refine lv_icmp_le (tgt := 45) hx hb dX4_heavyAt_34 (by decide) (fun c_7 => ?_) (fun c_7 => ?_)
              · have i_7 : p5.toInt ≤ 1 := kc_le c_7
                refine lv_aload_n hx hb dX4_heavyAt_45 rfl (lv_at hl 0 rfl) ?_
                refine lv_iload_n hx hb dX4_heavyAt_46 rfl (lv_at hl 3 rfl) ?_
                refine lv_iload hx hb dX4_heavyAt_47 (lv_at hl 4 rfl) ?_
                have hPc := hP.sub (ws' := [kx_4 m_ q_row q_t t_ h0 k0 w_ z_ slots old]) [0] rfl
                have hKc := hK.sub (tys' := []) [] rfl
                refine vp_callSi (W.runV (As := [.int p2, .int p3]) (rest := []) ⟨hx, hb, hml, hown, hts⟩ (c_X4_isEnough l dC dI m_ q_row q_t t_ h0 k0 w_ z_ slots old p2 p3) (cwV 2 hts gX4_heavyAt_X4_isEnough rfl rfl rfl (by decide +kernel) ⟨Nat.le_of_ble_eq_true rfl, Nat.le_of_ble_eq_true rfl⟩) ⟨fun a U g mk q => by obtain ⟨q0, qP, qK⟩ := q; exact ⟨q0, qP, va_K.moved (u := U) (U := U.calling g mk a) (Vm.Alike.refl U.vm) qK⟩, kx_rc4 hKc hPc (q0 := 0) rfl, fun U hU hW => ⟨rfl, by rw [hU]; exact hPc, va_K.moved hW.alike hKc⟩⟩ rfl rfl hl.1 rfl (lv_room (Nat.le_of_ble_eq_true rfl)) dX4_heavyAt_49 ⟨Nat.le_of_ble_eq_true rfl, Nat.le_of_ble_eq_true rfl⟩) (fun r_8 w_8 => ?_)
                rcases w_8 with ⟨rfl, w_8⟩ | ⟨rfl, w_8⟩
                · have w_8 : (0 : Int) ≤ 1 := w_8
                  refine lv_if_ne (tgt := 63) hx hb dX4_heavyAt_52 (by decide) (fun c_9 => ?_) (fun c_9 => ?_)
                  · refine lv_aload_n hx hb dX4_heavyAt_63 rfl (lv_at hl 0 rfl) ?_
                    refine lv_aload_n hx hb dX4_heavyAt_64 rfl (lv_at hl 0 rfl) ?_
                    obtain ⟨hPc, hDc, hFc, hCc⟩ := kx_preM (wc := [kx_4 m_ q_row q_t t_ h0 k0 w_ z_ slots old, kx_2 q_t q_row q_joined q_from q_to q_size q_lossOf q_lessBy q_value q_number nodes here, kx_0 q_row q_cell len, kx_a q_cell cyI 160 f, kx_a q_from cyI 319 ff, kx_a q_to cyI 319 ft, kx_a q_size cyI 319 fs, kx_a q_lossOf cyI 319 fo, kx_a q_lessBy cyI 319 fe, kx_a q_value cyI 1914 uv, kx_a q_number cyI 1914 un, kx_3 q_joined j_v j_n js jl je, kx_a j_v cyI 12 jv, kx_a j_n cyI 12 jn]) hP hD hS hA [true, true, true, true, true, true, true, true, true, true, true, true, true, true, false, false, false] rfl
                    have hKc := hK
                    refine va_callr (va_runV (As := []) (rest := [.ref m_]) ⟨hx, hb, hml, hown, hts⟩ (kx_un (c_X4_laidTree l dC dI m_ q_row q_t t_ h0 k0 w_ z_ slots old q_joined q_from q_to q_size q_lossOf q_lessBy q_value q_number nodes here q_cell cyI len f ff ft fs fo uv un fe j_v j_n js jl je jv jn s.heap.size a0 a1 s0 l0)) (cwV 0 hts gX4_heavyAt_X4_laidTree rfl rfl rfl (by decide +kernel) ⟨Nat.le_of_ble_eq_true rfl, Nat.le_of_ble_eq_true rfl⟩) ⟨fun a U g mk q => by obtain ⟨q0, q1, qP, qK, qD⟩ := q; exact ⟨q0, q1, qP, va_K.moved (u := U) (U := U.calling g mk a) (Vm.Alike.refl U.vm) qK, qD⟩, kx_rc4 hKc hPc (q0 := 0) rfl, fun U hU hW => ⟨rfl, by rw [hU], by rw [hU]; exact hPc, va_K.moved hW.alike hKc, hDc.weaken (fun _ _ _ _ => trivial)⟩⟩ rfl rfl hl.1 rfl (lv_room (Nat.le_of_ble_eq_true rfl)) dX4_heavyAt_65 ⟨Nat.le_of_ble_eq_true rfl, Nat.le_of_ble_eq_true rfl⟩) hS (fun q _ h => hFc q h) hFc (fun u ra t H1 locs ht hvm w_10 hB hz1 hk1 hS => ?_)
                    obtain ⟨o_11, o_12, o_13, o_14, o_15, o_16, o_17, o_18, o_19, o_20, o_21, o_22, o_23, o_24, o_25⟩ := u
                    dsimp only at w_10 hB
                    obtain ⟨er, hP1, hK1, hD1⟩ := hB
                    rw [ht] at hP1
                    have hK1 := va_K.moved hvm.symm hK1
                    obtain ⟨hP, hD⟩ := kx_joinM (w2 := [kx_4 m_ q_row q_t t_ h0 k0 w_ z_ slots o_11, kx_2 q_t q_row q_joined q_from q_to q_size q_lossOf q_lessBy q_value q_number o_12 o_13, kx_0 q_row q_cell len, kx_a q_cell cyI 160 f, kx_a q_from cyI 319 o_14, kx_a q_to cyI 319 o_15, kx_a q_size cyI 319 o_16, kx_a q_lossOf cyI 319 o_17, kx_a q_lessBy cyI 319 o_18, kx_a q_value cyI 1914 o_19, kx_a q_number cyI 1914 o_20, kx_3 q_joined j_v j_n o_21 o_22 o_23, kx_a j_v cyI 12 o_24, kx_a j_n cyI 12 o_25, kx_3 h0 a_v a_n vs lo le, kx_a a_v cyI 12 fv, kx_a a_n cyI 12 fn]) hP hD hP1 hD1 hk1 hFc [true, true, true, true, true, true, true, true, true, true, true, true, true, true, false, false, false] hCc rfl
                    clear hP1 hD1 hK1 hk1 hz1 hFc hDc hPc hKc hCc
                    generalize H1 = H at hP hS ⊢
                    have w_10 : o_11.toInt = 0 ∧ 0 ≤ o_12.toInt ∧ o_12.toInt ≤ 319 ∧ sixes o_16 ∧ treeOk o_14 o_15 o_12.toInt len.toInt := w_10
                    rw [er]
                    refine lv_iload_n hx hb dX4_heavyAt_68 rfl (lv_at hl 1 rfl) ?_
                    refine lv_iload_n hx hb dX4_heavyAt_69 rfl (lv_at hl 2 rfl) ?_
                    refine lv_iload_n hx hb dX4_heavyAt_70 rfl (lv_at hl 3 rfl) ?_
                    refine lv_iload hx hb dX4_heavyAt_71 (lv_at hl 4 rfl) ?_
                    obtain ⟨hPc, hDc, hFc, hCc⟩ := kx_pre (wc := [kx_4 m_ q_row q_t t_ h0 k0 w_ z_ slots o_11, kx_0 q_row q_cell len, kx_a q_cell cyI 160 f, kx_2 q_t q_row q_joined q_from q_to q_size q_lossOf q_lessBy q_value q_number o_12 o_13, kx_a q_from cyI 319 o_14, kx_a q_to cyI 319 o_15, kx_a q_size cyI 319 o_16, kx_a q_lossOf cyI 319 o_17, kx_a q_value cyI 1914 o_19, kx_a q_number cyI 1914 o_20, kx_3 h0 a_v a_n vs lo le, kx_a a_v cyI 12 fv, kx_a a_n cyI 12 fn]) hP hD hS hA [0, 2, 3, 1, 4, 5, 6, 7, 9, 10, 14, 15, 16] (by decide) rfl
                    have hKc := hK
                    refine va_callv (va_runV (As := [.ref q_t, .int p0, .int p1, .int p2, .int p3]) (rest := []) ⟨hx, hb, hml, hown, hts⟩ (c_X4_gatherHeavy l dC dI m_ q_row q_t t_ h0 k0 w_ z_ slots o_11 q_joined q_from q_to q_size q_lossOf q_lessBy q_value q_number o_12 o_13 q_cell cyI len f o_14 o_15 o_16 o_17 o_19 o_20 a_v a_n cyI vs lo le fv fn p0 p1 p2 p3 H.size w_10.2.1 w_10.2.2.1 w_10.2.2.2.1 (om_10 w_1.1) (om_167 a1 w_1.2.2)) (cwV 5 hts gX4_heavyAt_X4_gatherHeavy rfl rfl rfl (by decide +kernel) ⟨Nat.le_of_ble_eq_true rfl, Nat.le_of_ble_eq_true rfl⟩) ⟨fun a U g mk q => by obtain ⟨q0, q1, qP, qK, qD, qn0⟩ := q; exact ⟨q0, q1, qP, va_K.moved (u := U) (U := U.calling g mk a) (Vm.Alike.refl U.vm) qK, qD, va_Nw.same (u := U) (U := U.calling g mk a) rfl rfl qn0⟩, kx_rc4 hKc hPc (q0 := 0) rfl, fun U hU hW => ⟨rfl, by rw [hU], by rw [hU]; exact hPc, va_K.moved hW.alike hKc, hDc.weaken (fun _ _ _ _ => trivial), va_Nw.warmM hW hN0⟩⟩ rfl rfl hl.1 rfl (lv_room (Nat.le_of_ble_eq_true rfl)) dX4_heavyAt_73 ⟨Nat.le_of_ble_eq_true rfl, Nat.le_of_ble_eq_true rfl⟩) hS (fun q _ h => hFc q h) hFc (fun u t H1 locs ht hvm w_26 hB hz1 hk1 hS => ?_)
                    obtain ⟨o_27, o_28, o_29, o_30, o_31⟩ := u
                    dsimp only at w_26 hB
                    obtain ⟨hP1, hK1, hD1⟩ := hB
                    rw [ht] at hP1
                    have hK1 := va_K.moved hvm.symm hK1
                    obtain ⟨hP, hD⟩ := kx_join (w2 := [kx_a q_lessBy cyI 319 o_18, kx_3 q_joined j_v j_n o_21 o_22 o_23, kx_a j_v cyI 12 o_24, kx_a j_n cyI 12 o_25, kx_4 m_ q_row q_t t_ h0 k0 w_ z_ slots o_11, kx_0 q_row q_cell len, kx_a q_cell cyI 160 f, kx_2 q_t q_row q_joined q_from q_to q_size q_lossOf q_lessBy q_value q_number o_12 o_13, kx_a q_from cyI 319 o_14, kx_a q_to cyI 319 o_15, kx_a q_size cyI 319 o_16, kx_a q_lossOf cyI 319 o_17, kx_a q_value cyI 1914 o_19, kx_a q_number cyI 1914 o_20, kx_3 h0 a_v a_n o_27 o_28 o_29, kx_a a_v cyI 12 o_30, kx_a a_n cyI 12 o_31]) hP hD hP1 hD1 hk1 hFc [0, 2, 3, 1, 4, 5, 6, 7, 9, 10, 14, 15, 16] [8, 11, 12, 13] hCc rfl (by decide) (by decide)
                    clear hP1 hD1 hK1 hk1 hz1 hFc hDc hPc hKc hCc
                    generalize H1 = H at hP hS ⊢
                    have w_26 : 0 ≤ o_27.toInt ∧ o_27.toInt ≤ 12 := w_26
                    refine lv_iload hx hb dX4_heavyAt_76 (lv_at hl 5 rfl) ?_
                    refine lv_aload_n hx hb dX4_heavyAt_78 rfl (lv_at hl 0 rfl) ?_
                    refine va_get (D := (dC, dI)) (ci := 4) (v := .ref h0) (C := RX4) (T := TX4) (N := 9) hx hb hts hi_4 hown hK hP 4 rfl rfl 3 (by decide) hf_35 (fun _ h9 => h9) rfl dX4_heavyAt_79 ?_
                    refine va_get (D := (dC, dI)) (ci := 3) (v := .int o_27) (C := RX3) (T := TX3) (N := 5) hx hb hts hi_3 hown hK hP 14 rfl rfl 2 (by decide) hf_174 (fun _ h9 => h9) rfl dX4_heavyAt_82 ?_
                    refine lv_icmp_lt (tgt := 96) hx hb dX4_heavyAt_85 (by decide) (fun c_32 => ?_) (fun c_32 => ?_)
                    · have i_32 : p4.toInt < o_27.toInt := kc_lt c_32
                      refine lv_iload hx hb dX4_heavyAt_96 (lv_at hl 6 rfl) ?_
                      refine lv_if_ne (tgt := 114) hx hb dX4_heavyAt_98 (by decide) (fun c_33 => ?_) (fun c_33 => ?_)
                      · have i_33 : ¬ p5.toInt = 0 := kc_ne c_33
                        refine lv_aload_n hx hb dX4_heavyAt_114 rfl (lv_at hl 0 rfl) ?_
                        refine va_get (D := (dC, dI)) (ci := 4) (v := .ref h0) (C := RX4) (T := TX4) (N := 9) hx hb hts hi_4 hown hK hP 4 rfl rfl 3 (by decide) hf_35 (fun _ h9 => h9) rfl dX4_heavyAt_115 ?_
                        refine va_get (D := (dC, dI)) (ci := 3) (v := .ref a_n) (C := RX3) (T := TX3) (N := 5) hx hb hts hi_3 hown hK hP 14 rfl rfl 1 (by decide) hf_136 (fun _ h9 => h9) rfl dX4_heavyAt_118 ?_
                        refine lv_iload hx hb dX4_heavyAt_121 (lv_at hl 5 rfl) ?_
                        refine va_iald hx hb hK hP 16 0 rfl rfl (ki_in (om_10 i_5) (om_32 w_26.2 i_32)) dX4_heavyAt_123 ?_
                        refine lv_topi (fun y_34 ey_34 => ?_)
                        have j_34 : y_34.toInt = (o_31 p4.toNatClampNeg).toInt := congrArg Int32.toInt ey_34
                        refine vx_ret ?_
                        obtain ⟨hP9, hD9⟩ := kx_sub (w2 := [kx_4 m_ q_row q_t t_ h0 k0 w_ z_ slots o_11, kx_2 q_t q_row q_joined q_from q_to q_size q_lossOf q_lessBy q_value q_number o_12 o_13, kx_0 q_row q_cell len, kx_a q_cell cyI 160 f, kx_a q_from cyI 319 o_14, kx_a q_to cyI 319 o_15, kx_a q_size cyI 319 o_16, kx_a q_lossOf cyI 319 o_17, kx_a q_lessBy cyI 319 o_18, kx_a q_value cyI 1914 o_19, kx_a q_number cyI 1914 o_20, kx_3 q_joined j_v j_n o_21 o_22 o_23, kx_a j_v cyI 12 o_24, kx_a j_n cyI 12 o_25, kx_3 h0 a_v a_n o_27 o_28 o_29, kx_a a_v cyI 12 o_30, kx_a a_n cyI 12 o_31]) hP hD [4, 7, 5, 6, 8, 9, 10, 11, 0, 12, 13, 1, 2, 3, 14, 15, 16] (by decide) rfl
                        have hK9 := hK
                        refine W.widen (k := 1) (n := 6) (Nat.le_of_ble_eq_true rfl) (Nat.le_of_ble_eq_true rfl) ?_
                        exact W.iret (v := y_34) hx hb hr (hlocks := hlocks) (fun t ht hW => ⟨⟨y_34, (o_11, o_12, o_13, o_14, o_15, o_16, o_17, o_18, o_19, o_20, o_21, o_22, o_23, o_24, o_25, o_27, o_28, o_29, o_30, o_31), rfl, ⟨(by decide), (fun _ => ⟨(by (try dsimp only); omega), (by (try dsimp only); omega), w_10.2.2.2.2⟩), w_10.2.2.2.1⟩, by rw [ht]; exact hP9, va_K.moved hW.alike hK9, hD9⟩, hS.F ht⟩) hS.2.2 dX4_heavyAt_124
                      · have i_33 : p5.toInt = 0 := kc_eq c_33
                        refine lv_aload_n hx hb dX4_heavyAt_101 rfl (lv_at hl 0 rfl) ?_
                        refine va_get (D := (dC, dI)) (ci := 4) (v := .ref h0) (C := RX4) (T := TX4) (N := 9) hx hb hts hi_4 hown hK hP 4 rfl rfl 3 (by decide) hf_35 (fun _ h9 => h9) rfl dX4_heavyAt_102 ?_
                        refine va_get (D := (dC, dI)) (ci := 3) (v := .ref a_v) (C := RX3) (T := TX3) (N := 5) hx hb hts hi_3 hown hK hP 14 rfl rfl 0 (by decide) hf_133 (fun _ h9 => h9) rfl dX4_heavyAt_105 ?_
                        refine lv_iload hx hb dX4_heavyAt_108 (lv_at hl 5 rfl) ?_
                        refine va_iald hx hb hK hP 15 0 rfl rfl (ki_in (om_10 i_5) (om_32 w_26.2 i_32)) dX4_heavyAt_110 ?_
                        refine lv_topi (fun y_35 ey_35 => ?_)
                        have j_35 : y_35.toInt = (o_30 p4.toNatClampNeg).toInt := congrArg Int32.toInt ey_35
                        refine lv_goto (tgt := 124) hx hb dX4_heavyAt_111 (by decide) ?_
                        refine vx_ret ?_
                        obtain ⟨hP9, hD9⟩ := kx_sub (w2 := [kx_4 m_ q_row q_t t_ h0 k0 w_ z_ slots o_11, kx_2 q_t q_row q_joined q_from q_to q_size q_lossOf q_lessBy q_value q_number o_12 o_13, kx_0 q_row q_cell len, kx_a q_cell cyI 160 f, kx_a q_from cyI 319 o_14, kx_a q_to cyI 319 o_15, kx_a q_size cyI 319 o_16, kx_a q_lossOf cyI 319 o_17, kx_a q_lessBy cyI 319 o_18, kx_a q_value cyI 1914 o_19, kx_a q_number cyI 1914 o_20, kx_3 q_joined j_v j_n o_21 o_22 o_23, kx_a j_v cyI 12 o_24, kx_a j_n cyI 12 o_25, kx_3 h0 a_v a_n o_27 o_28 o_29, kx_a a_v cyI 12 o_30, kx_a a_n cyI 12 o_31]) hP hD [4, 7, 5, 6, 8, 9, 10, 11, 0, 12, 13, 1, 2, 3, 14, 15, 16] (by decide) rfl
                        have hK9 := hK
                        refine W.widen (k := 1) (n := 6) (Nat.le_of_ble_eq_true rfl) (Nat.le_of_ble_eq_true rfl) ?_
                        exact W.iret (v := y_35) hx hb hr (hlocks := hlocks) (fun t ht hW => ⟨⟨y_35, (o_11, o_12, o_13, o_14, o_15, o_16, o_17, o_18, o_19, o_20, o_21, o_22, o_23, o_24, o_25, o_27, o_28, o_29, o_30, o_31), rfl, ⟨(by decide), (fun _ => ⟨(by (try dsimp only); omega), (by (try dsimp only); omega), w_10.2.2.2.2⟩), w_10.2.2.2.1⟩, by rw [ht]; exact hP9, va_K.moved hW.alike hK9, hD9⟩, hS.F ht⟩) hS.2.2 dX4_heavyAt_124
                    · have i_32 : o_27.toInt ≤ p4.toInt := kc_nlt c_32
                      have hP9 := hP.sub (ws' := [kx_4 m_ q_row q_t t_ h0 k0 w_ z_ slots o_11, kx_2 q_t q_row q_joined q_from q_to q_size q_lossOf q_lessBy q_value q_number o_12 o_13, kx_0 q_row q_cell len, kx_a q_cell cyI 160 f, kx_a q_from cyI 319 o_14, kx_a q_to cyI 319 o_15, kx_a q_size cyI 319 o_16, kx_a q_lossOf cyI 319 o_17, kx_a q_lessBy cyI 319 o_18, kx_a q_value cyI 1914 o_19, kx_a q_number cyI 1914 o_20, kx_3 q_joined j_v j_n o_21 o_22 o_23, kx_a j_v cyI 12 o_24, kx_a j_n cyI 12 o_25, kx_3 h0 a_v a_n o_27 o_28 o_29, kx_a a_v cyI 12 o_30, kx_a a_n cyI 12 o_31]) [4, 7, 5, 6, 8, 9, 10, 11, 0, 12, 13, 1, 2, 3, 14, 15, 16] rfl
                      have hD9 := hD.sub (ws' := [kx_4 m_ q_row q_t t_ h0 k0 w_ z_ slots o_11, kx_2 q_t q_row q_joined q_from q_to q_size q_lossOf q_lessBy q_value q_number o_12 o_13, kx_0 q_row q_cell len, kx_a q_cell cyI 160 f, kx_a q_from cyI 319 o_14, kx_a q_to cyI 319 o_15, kx_a q_size cyI 319 o_16, kx_a q_lossOf cyI 319 o_17, kx_a q_lessBy cyI 319 o_18, kx_a q_value cyI 1914 o_19, kx_a q_number cyI 1914 o_20, kx_3 q_joined j_v j_n o_21 o_22 o_23, kx_a j_v cyI 12 o_24, kx_a j_n cyI 12 o_25, kx_3 h0 a_v a_n o_27 o_28 o_29, kx_a a_v cyI 12 o_30, kx_a a_n cyI 12 o_31]) [4, 7, 5, 6, 8, 9, 10, 11, 0, 12, 13, 1, 2, 3, 14, 15, 16] (by decide) rfl
                      have hK9 := hK.sub (tys' := [(cyI, .int)]) [0] rfl
                      exact vx_throw0 (names := EXC) hx hb hl0 hown (by decide +kernel) (by decide +kernel) hc_107 hz_ex hat ki_ot hth.2.1 hth.2.2 hS (hl.1.trans hml.symm) dX4_heavyAt_88 dX4_heavyAt_91 dX4_heavyAt_92 dX4_heavyAt_95 (fun x h => (htab x h).elim) (Nat.le_of_ble_eq_true rfl) (Nat.le_of_ble_eq_true rfl) (Nat.le_of_ble_eq_true rfl) (Nat.le_of_ble_eq_true rfl) hlocks (fun t ha hz hk => ⟨(o_11, o_12, o_13, o_14, o_15, o_16, o_17, o_18, o_19, o_20, o_21, o_22, o_23, o_24, o_25, o_27, o_28, o_29, o_30, o_31), ⟨(by decide), (fun _ => ⟨(by (try dsimp only); omega), (by (try dsimp only); omega), w_10.2.2.2.2⟩), w_10.2.2.2.1⟩, ⟨rfl, hP9.kept (fun k x hx => hk x.1 ((hP9 k x hx).lt)), va_K.moved ha hK9, hD9⟩, Nat.le_trans hS.1 hz, fun q h1 h2 => (hk q (Nat.lt_of_lt_of_le h1 hS.1)).trans (hS.2.1 q h1 h2)⟩) hS.2.2 (Nat.le_refl _) (Nat.le_refl _)
                  · exact absurd c_9 (by decide)
                · have w_8 : (0 : Int) ≤ 1 := w_8
                  refine lv_if_ne (tgt := 63) hx hb dX4_heavyAt_52 (by decide) (fun c_36 => ?_) (fun c_36 => ?_)
                  · exact absurd c_36 (by decide)
                  · have hP9 := hP.sub (ws' := [kx_4 m_ q_row q_t t_ h0 k0 w_ z_ slots old, kx_2 q_t q_row q_joined q_from q_to q_size q_lossOf q_lessBy q_value q_number nodes here, kx_0 q_row q_cell len, kx_a q_cell cyI 160 f, kx_a q_from cyI 319 ff, kx_a q_to cyI 319 ft, kx_a q_size cyI 319 fs, kx_a q_lossOf cyI 319 fo, kx_a q_lessBy cyI 319 fe, kx_a q_value cyI 1914 uv, kx_a q_number cyI 1914 un, kx_3 q_joined j_v j_n js jl je, kx_a j_v cyI 12 jv, kx_a j_n cyI 12 jn, kx_3 h0 a_v a_n vs lo le, kx_a a_v cyI 12 fv, kx_a a_n cyI 12 fn]) [0, 1, 2, 3, 4, 5, 6, 7, 8, 9, 10, 11, 12, 13, 14, 15, 16] rfl
                    have hD9 := hD.sub (ws' := [kx_4 m_ q_row q_t t_ h0 k0 w_ z_ slots old, kx_2 q_t q_row q_joined q_from q_to q_size q_lossOf q_lessBy q_value q_number nodes here, kx_0 q_row q_cell len, kx_a q_cell cyI 160 f, kx_a q_from cyI 319 ff, kx_a q_to cyI 319 ft, kx_a q_size cyI 319 fs, kx_a q_lossOf cyI 319 fo, kx_a q_lessBy cyI 319 fe, kx_a q_value cyI 1914 uv, kx_a q_number cyI 1914 un, kx_3 q_joined j_v j_n js jl je, kx_a j_v cyI 12 jv, kx_a j_n cyI 12 jn, kx_3 h0 a_v a_n vs lo le, kx_a a_v cyI 12 fv, kx_a a_n cyI 12 fn]) [0, 1, 2, 3, 4, 5, 6, 7, 8, 9, 10, 11, 12, 13, 14, 15, 16] (by decide) rfl
                    have hK9 := hK.sub (tys' := [(cyI, .int)]) [0] rfl
                    exact vx_throw0 (names := EXC) hx hb hl0 hown (by decide +kernel) (by decide +kernel) hc_107 hz_ex hat ki_ot hth.2.1 hth.2.2 hS (hl.1.trans hml.symm) dX4_heavyAt_55 dX4_heavyAt_58 dX4_heavyAt_59 dX4_heavyAt_62 (fun x h => (htab x h).elim) (Nat.le_of_ble_eq_true rfl) (Nat.le_of_ble_eq_true rfl) (Nat.le_of_ble_eq_true rfl) (Nat.le_of_ble_eq_true rfl) hlocks (fun t ha hz hk => ⟨(old, nodes, here, ff, ft, fs, fo, fe, uv, un, js, jl, je, jv, jn, vs, lo, le, fv, fn), ⟨(by decide), l0, s0⟩, ⟨rfl, hP9.kept (fun k x hx => hk x.1 ((hP9 k x hx).lt)), va_K.moved ha hK9, hD9⟩, Nat.le_trans hS.1 hz, fun q h1 h2 => (hk q (Nat.lt_of_lt_of_le h1 hS.1)).trans (hS.2.1 q h1 h2)⟩) hS.2.2 (Nat.le_refl _) (Nat.le_refl _)
              · have i_7 : 1 < p5.toInt := kc_nle c_7
                have hP9 := hP.sub (ws' := [kx_4 m_ q_row q_t t_ h0 k0 w_ z_ slots old, kx_2 q_t q_row q_joined q_from q_to q_size q_lossOf q_lessBy q_value q_number nodes here, kx_0 q_row q_cell len, kx_a q_cell cyI 160 f, kx_a q_from cyI 319 ff, kx_a q_to cyI 319 ft, kx_a q_size cyI 319 fs, kx_a q_lossOf cyI 319 fo, kx_a q_lessBy cyI 319 fe, kx_a q_value cyI 1914 uv, kx_a q_number cyI 1914 un, kx_3 q_joined j_v j_n js jl je, kx_a j_v cyI 12 jv, kx_a j_n cyI 12 jn, kx_3 h0 a_v a_n vs lo le, kx_a a_v cyI 12 fv, kx_a a_n cyI 12 fn]) [0, 1, 2, 3, 4, 5, 6, 7, 8, 9, 10, 11, 12, 13, 14, 15, 16] rfl
                have hD9 := hD.sub (ws' := [kx_4 m_ q_row q_t t_ h0 k0 w_ z_ slots old, kx_2 q_t q_row q_joined q_from q_to q_size q_lossOf q_lessBy q_value q_number nodes here, kx_0 q_row q_cell len, kx_a q_cell cyI 160 f, kx_a q_from cyI 319 ff, kx_a q_to cyI 319 ft, kx_a q_size cyI 319 fs, kx_a q_lossOf cyI 319 fo, kx_a q_lessBy cyI 319 fe, kx_a q_value cyI 1914 uv, kx_a q_number cyI 1914 un, kx_3 q_joined j_v j_n js jl je, kx_a j_v cyI 12 jv, kx_a j_n cyI 12 jn, kx_3 h0 a_v a_n vs lo le, kx_a a_v cyI 12 fv, kx_a a_n cyI 12 fn]) [0, 1, 2, 3, 4, 5, 6, 7, 8, 9, 10, 11, 12, 13, 14, 15, 16] (by decide) rfl
                have hK9 := hK.sub (tys' := [(cyI, .int)]) [0] rfl
                exact vx_throw0 (names := EXC) hx hb hl0 hown (by decide +kernel) (by decide +kernel) hc_107 hz_ex hat ki_ot hth.2.1 hth.2.2 hS (hl.1.trans hml.symm) dX4_heavyAt_37 dX4_heavyAt_40 dX4_heavyAt_41 dX4_heavyAt_44 (fun x h => (htab x h).elim) (Nat.le_of_ble_eq_true rfl) (Nat.le_of_ble_eq_true rfl) (Nat.le_of_ble_eq_true rfl) (Nat.le_of_ble_eq_true rfl) hlocks (fun t ha hz hk => ⟨(old, nodes, here, ff, ft, fs, fo, fe, uv, un, js, jl, je, jv, jn, vs, lo, le, fv, fn), ⟨(by decide), l0, s0⟩, ⟨rfl, hP9.kept (fun k x hx => hk x.1 ((hP9 k x hx).lt)), va_K.moved ha hK9, hD9⟩, Nat.le_trans hS.1 hz, fun q h1 h2 => (hk q (Nat.lt_of_lt_of_le h1 hS.1)).trans (hS.2.1 q h1 h2)⟩) hS.2.2 (Nat.le_refl _) (Nat.le_refl _)
      · have w_3 : (p2.toInt < 1 ∨ p3.toInt < p2.toInt ∨ 999 < p3.toInt) := w_3
        refine lv_if_eq (tgt := 37) hx hb dX4_heavyAt_18 (by decide) (fun c_37 => ?_) (fun c_37 => ?_)
        · have hP9 := hP.sub (ws' := [kx_4 m_ q_row q_t t_ h0 k0 w_ z_ slots old, kx_2 q_t q_row q_joined q_from q_to q_size q_lossOf q_lessBy q_value q_number nodes here, kx_0 q_row q_cell len, kx_a q_cell cyI 160 f, kx_a q_from cyI 319 ff, kx_a q_to cyI 319 ft, kx_a q_size cyI 319 fs, kx_a q_lossOf cyI 319 fo, kx_a q_lessBy cyI 319 fe, kx_a q_value cyI 1914 uv, kx_a q_number cyI 1914 un, kx_3 q_joined j_v j_n js jl je, kx_a j_v cyI 12 jv, kx_a j_n cyI 12 jn, kx_3 h0 a_v a_n vs lo le, kx_a a_v cyI 12 fv, kx_a a_n cyI 12 fn]) [0, 1, 2, 3, 4, 5, 6, 7, 8, 9, 10, 11, 12, 13, 14, 15, 16] rfl
          have hD9 := hD.sub (ws' := [kx_4 m_ q_row q_t t_ h0 k0 w_ z_ slots old, kx_2 q_t q_row q_joined q_from q_to q_size q_lossOf q_lessBy q_value q_number nodes here, kx_0 q_row q_cell len, kx_a q_cell cyI 160 f, kx_a q_from cyI 319 ff, kx_a q_to cyI 319 ft, kx_a q_size cyI 319 fs, kx_a q_lossOf cyI 319 fo, kx_a q_lessBy cyI 319 fe, kx_a q_value cyI 1914 uv, kx_a q_number cyI 1914 un, kx_3 q_joined j_v j_n js jl je, kx_a j_v cyI 12 jv, kx_a j_n cyI 12 jn, kx_3 h0 a_v a_n vs lo le, kx_a a_v cyI 12 fv, kx_a a_n cyI 12 fn]) [0, 1, 2, 3, 4, 5, 6, 7, 8, 9, 10, 11, 12, 13, 14, 15, 16] (by decide) rfl
          have hK9 := hK.sub (tys' := [(cyI, .int)]) [0] rfl
          exact vx_throw0 (names := EXC) hx hb hl0 hown (by decide +kernel) (by decide +kernel) hc_107 hz_ex hat ki_ot hth.2.1 hth.2.2 hS (hl.1.trans hml.symm) dX4_heavyAt_37 dX4_heavyAt_40 dX4_heavyAt_41 dX4_heavyAt_44 (fun x h => (htab x h).elim) (Nat.le_of_ble_eq_true rfl) (Nat.le_of_ble_eq_true rfl) (Nat.le_of_ble_eq_true rfl) (Nat.le_of_ble_eq_true rfl) hlocks (fun t ha hz hk => ⟨(old, nodes, here, ff, ft, fs, fo, fe, uv, un, js, jl, je, jv, jn, vs, lo, le, fv, fn), ⟨(by decide), l0, s0⟩, ⟨rfl, hP9.kept (fun k x hx => hk x.1 ((hP9 k x hx).lt)), va_K.moved ha hK9, hD9⟩, Nat.le_trans hS.1 hz, fun q h1 h2 => (hk q (Nat.lt_of_lt_of_le h1 hS.1)).trans (hS.2.1 q h1 h2)⟩) hS.2.2 (Nat.le_refl _) (Nat.le_refl _)
        · exact absurd c_37 (by decide)
  · have w_1 : (p0.toInt < 0 ∨ p1.toInt ≤ p0.toInt ∨ len.toInt < p1.toInt) := w_1
    refine lv_if_eq (tgt := 37) hx hb dX4_heavyAt_9 (by decide) (fun c_38 => ?_) (fun c_38 => ?_)
    · have hP9 := hP.sub (ws' := [kx_4 m_ q_row q_t t_ h0 k0 w_ z_ slots old, kx_2 q_t q_row q_joined q_from q_to q_size q_lossOf q_lessBy q_value q_number nodes here, kx_0 q_row q_cell len, kx_a q_cell cyI 160 f, kx_a q_from cyI 319 ff, kx_a q_to cyI 319 ft, kx_a q_size cyI 319 fs, kx_a q_lossOf cyI 319 fo, kx_a q_lessBy cyI 319 fe, kx_a q_value cyI 1914 uv, kx_a q_number cyI 1914 un, kx_3 q_joined j_v j_n js jl je, kx_a j_v cyI 12 jv, kx_a j_n cyI 12 jn, kx_3 h0 a_v a_n vs lo le, kx_a a_v cyI 12 fv, kx_a a_n cyI 12 fn]) [0, 1, 2, 3, 4, 5, 6, 7, 8, 9, 10, 11, 12, 13, 14, 15, 16] rfl
      have hD9 := hD.sub (ws' := [kx_4 m_ q_row q_t t_ h0 k0 w_ z_ slots old, kx_2 q_t q_row q_joined q_from q_to q_size q_lossOf q_lessBy q_value q_number nodes here, kx_0 q_row q_cell len, kx_a q_cell cyI 160 f, kx_a q_from cyI 319 ff, kx_a q_to cyI 319 ft, kx_a q_size cyI 319 fs, kx_a q_lossOf cyI 319 fo, kx_a q_lessBy cyI 319 fe, kx_a q_value cyI 1914 uv, kx_a q_number cyI 1914 un, kx_3 q_joined j_v j_n js jl je, kx_a j_v cyI 12 jv, kx_a j_n cyI 12 jn, kx_3 h0 a_v a_n vs lo le, kx_a a_v cyI 12 fv, kx_a a_n cyI 12 fn]) [0, 1, 2, 3, 4, 5, 6, 7, 8, 9, 10, 11, 12, 13, 14, 15, 16] (by decide) rfl
      have hK9 := hK.sub (tys' := [(cyI, .int)]) [0] rfl
      exact vx_throw0 (names := EXC) hx hb hl0 hown (by decide +kernel) (by decide +kernel) hc_107 hz_ex hat ki_ot hth.2.1 hth.2.2 hS (hl.1.trans hml.symm) dX4_heavyAt_37 dX4_heavyAt_40 dX4_heavyAt_41 dX4_heavyAt_44 (fun x h => (htab x h).elim) (Nat.le_of_ble_eq_true rfl) (Nat.le_of_ble_eq_true rfl) (Nat.le_of_ble_eq_true rfl) (Nat.le_of_ble_eq_true rfl) hlocks (fun t ha hz hk => ⟨(old, nodes, here, ff, ft, fs, fo, fe, uv, un, js, jl, je, jv, jn, vs, lo, le, fv, fn), ⟨(by decide), l0, s0⟩, ⟨rfl, hP9.kept (fun k x hx => hk x.1 ((hP9 k x hx).lt)), va_K.moved ha hK9, hD9⟩, Nat.le_trans hS.1 hz, fun q h1 h2 => (hk q (Nat.lt_of_lt_of_le h1 hS.1)).trans (hS.2.1 q h1 h2)⟩) hS.2.2 (Nat.le_refl _) (Nat.le_refl _)
    · exact absurd c_38 (by decide)



def RL : String := "MajorityIndexLaw"
abbrev cL_at : ByteArray := method_3_code
def yL_at : MethodName := ⟨RL, "at", "(LMajorityIndex;I[J)I"⟩
abbrev cL_vote : ByteArray := method_4_code
def yL_vote : MethodName := ⟨RL, "vote", "(LMajorityIndex;IIII[J)I"⟩
abbrev cL_candidate : ByteArray := method_5_code
def yL_candidate : MethodName := ⟨RL, "candidate", "(LMajorityIndex;IIII[J)I"⟩
abbrev cL_heavyAt : ByteArray := method_6_code
def yL_heavyAt : MethodName := ⟨RL, "heavyAt", "(LMajorityIndex;IIIIII[J)I"⟩
def wsL_at : List Cond := .codeWith yL_at cL_at 4 (some .int) [(0, 9, 12, 13)] :: ([.classLink RL 13 "java/util/NoSuchElementException", .methodLink RL 7 yX4_at, .instanceMethod yX4_at, .selects RX4 yX4_at yX4_at, .initialized RX4, .code yX4_at cX4_at 2 (some .int), .classLink RX4 107 "java/util/NoSuchElementException", .initialized "java/util/NoSuchElementException", .fieldLink RX4 12 "MajorityIndex" "row" "LMajorityIndex$Row;", .fieldLink RX4 110 "MajorityIndex$Row" "cell" "[I", .methodLink RX4 64 yX0_hasPlace, .instanceMethod yX0_hasPlace, .selects RX0 yX0_hasPlace yX0_hasPlace, .initialized RX0, .code yX0_hasPlace cX0_hasPlace 2 (some .boolean), .fieldLink RX0 15 "MajorityIndex$Row" "length" "I"] ++ wsX40 ++ wsX00 ++ (vx_at0 RX4 109 "java/util/NoSuchElementException" ["java/lang/RuntimeException", "java/lang/Exception"]).filter goodWord)
def wsL_vote_r1 : List Cond := [Cond.classLink RL 13 "java/util/NoSuchElementException", Cond.methodLink RL 15 yX4_vote, Cond.instanceMethod yX4_vote, Cond.selects RX4 yX4_vote yX4_vote, Cond.initialized RX4, Cond.code yX4_vote cX4_vote 7 (some .int), Cond.classLink RX4 107 "java/util/NoSuchElementException", Cond.initialized "java/util/NoSuchElementException", Cond.fieldLink RX4 12 "MajorityIndex" "row" "LMajorityIndex$Row;", Cond.fieldLink RX4 126 "MajorityIndex$Tree" "size" "[I", Cond.fieldLink RX4 35 "MajorityIndex" "votes" "LMajorityIndex$Votes;", Cond.fieldLink RX4 133 "MajorityIndex$Votes" "value" "[I", Cond.fieldLink RX4 136 "MajorityIndex$Votes" "number" "[I", Cond.methodLink RX4 79 yX0_hasRange, Cond.instanceMethod yX0_hasRange, Cond.selects RX0 yX0_hasRange yX0_hasRange, Cond.initialized RX0, Cond.code yX0_hasRange cX0_hasRange 3 (some .boolean), Cond.fieldLink RX0 15 "MajorityIndex$Row" "length" "I", Cond.methodLink RX4 71 yX4_laidTree, Cond.instanceMethod yX4_laidTree, Cond.selects RX4 yX4_laidTree yX4_laidTree, Cond.code yX4_laidTree cX4_laidTree 1 (some (.object "MajorityIndex$Tree")), Cond.fieldLink RX4 53 "MajorityIndex" "treeIsOld" "Z"]
def wsL_vote_r2 : List Cond := [Cond.fieldLink RX4 21 "MajorityIndex" "tree" "LMajorityIndex$Tree;", Cond.fieldLink RX4 49 "MajorityIndex" "slotsNow" "I", Cond.fieldLink RX4 204 "MajorityIndex$Tree" "slotsHere" "I", Cond.fieldLink RX4 57 "MajorityIndex$Row" "length" "I", Cond.methodLink RX4 259 yX2_layRanges, Cond.instanceMethod yX2_layRanges, Cond.selects RX2 yX2_layRanges yX2_layRanges, Cond.initialized RX2, Cond.code yX2_layRanges cX2_layRanges 2 none, Cond.fieldLink RX2 40 "MajorityIndex$Tree" "row" "LMajorityIndex$Row;", Cond.fieldLink RX2 44 "MajorityIndex$Row" "length" "I", Cond.fieldLink RX2 50 "MajorityIndex$Tree" "nodes" "I", Cond.fieldLink RX2 18 "MajorityIndex$Tree" "from" "[I", Cond.fieldLink RX2 22 "MajorityIndex$Tree" "to" "[I", Cond.methodLink RX2 53 yX2_layBelow, Cond.instanceMethod yX2_layBelow, Cond.selects RX2 yX2_layBelow yX2_layBelow, Cond.code yX2_layBelow cX2_layBelow 4 none, Cond.methodLink RX2 57 yX2_rightBelow, Cond.instanceMethod yX2_rightBelow, Cond.selects RX2 yX2_rightBelow yX2_rightBelow, Cond.code yX2_rightBelow cX2_rightBelow 3 (some .int), Cond.methodLink RX4 87 yX2_renew, Cond.instanceMethod yX2_renew]
def wsL_vote_r3 : List Cond := [Cond.selects RX2 yX2_renew yX2_renew, Cond.code yX2_renew cX2_renew 5 (some .int), Cond.methodLink RX2 61 yX2_putTogether, Cond.instanceMethod yX2_putTogether, Cond.selects RX2 yX2_putTogether yX2_putTogether, Cond.code yX2_putTogether cX2_putTogether 2 none, Cond.fieldLink RX2 12 "MajorityIndex$Tree" "joined" "LMajorityIndex$Votes;", Cond.fieldLink RX2 74 "MajorityIndex$Row" "cell" "[I", Cond.fieldLink RX2 85 "MajorityIndex$Tree" "slotsHere" "I", Cond.methodLink RX2 71 yX3_clear, Cond.instanceMethod yX3_clear, Cond.selects RX3 yX3_clear yX3_clear, Cond.initialized RX3, Cond.code yX3_clear cX3_clear 1 none, Cond.fieldLink RX3 18 "MajorityIndex$Votes" "size" "I", Cond.fieldLink RX3 22 "MajorityIndex$Votes" "lost" "I", Cond.fieldLink RX3 25 "MajorityIndex$Votes" "lessBy" "I", Cond.methodLink RX2 77 yX3_add, Cond.instanceMethod yX3_add, Cond.selects RX3 yX3_add yX3_add, Cond.code yX3_add cX3_add 4 none, Cond.fieldLink RX3 9 "MajorityIndex$Votes" "value" "[I", Cond.fieldLink RX3 15 "MajorityIndex$Votes" "number" "[I", Cond.methodLink RX2 81 yX2_joinNode]
def wsL_vote_r4 : List Cond := [Cond.instanceMethod yX2_joinNode, Cond.selects RX2 yX2_joinNode yX2_joinNode, Cond.code yX2_joinNode cX2_joinNode 5 none, Cond.fieldLink RX2 25 "MajorityIndex$Tree" "size" "[I", Cond.fieldLink RX2 34 "MajorityIndex$Tree" "value" "[I", Cond.fieldLink RX2 37 "MajorityIndex$Tree" "number" "[I", Cond.fieldLink RX2 91 "MajorityIndex$Votes" "lost" "I", Cond.fieldLink RX2 28 "MajorityIndex$Tree" "lossOf" "[I", Cond.methodLink RX2 88 yX3_cancel, Cond.instanceMethod yX3_cancel, Cond.selects RX3 yX3_cancel yX3_cancel, Cond.code yX3_cancel cX3_cancel 4 none, Cond.methodLink RX3 32 yX3_order, Cond.instanceMethod yX3_order, Cond.selects RX3 yX3_order yX3_order, Cond.code yX3_order cX3_order 3 none, Cond.methodLink RX3 35 yX3_isAhead, Cond.instanceMethod yX3_isAhead, Cond.selects RX3 yX3_isAhead yX3_isAhead, Cond.code yX3_isAhead cX3_isAhead 3 (some .boolean), Cond.methodLink RX3 39 yX3_exchange, Cond.instanceMethod yX3_exchange, Cond.selects RX3 yX3_exchange yX3_exchange, Cond.code yX3_exchange cX3_exchange 5 none]
def wsL_vote_r5 : List Cond := [Cond.methodLink RX2 64 yX2_isJoined, Cond.instanceMethod yX2_isJoined, Cond.selects RX2 yX2_isJoined yX2_isJoined, Cond.code yX2_isJoined cX2_isJoined 4 (some .boolean), Cond.fieldLink RX2 94 "MajorityIndex$Votes" "size" "I", Cond.fieldLink RX2 96 "MajorityIndex$Votes" "value" "[I", Cond.fieldLink RX2 97 "MajorityIndex$Votes" "number" "[I", Cond.methodLink RX2 68 yX2_keepJoined, Cond.instanceMethod yX2_keepJoined, Cond.selects RX2 yX2_keepJoined yX2_keepJoined, Cond.code yX2_keepJoined cX2_keepJoined 4 none, Cond.methodLink RX2 98 Lib.Math.min.name, Cond.static Lib.Math.min.name, Cond.initialized "java/lang/Math", Cond.code Lib.Math.min.name Lib.Math.min.code 2 (some .int), Cond.fieldLink RX2 31 "MajorityIndex$Tree" "lessBy" "[I", Cond.fieldLink RX2 104 "MajorityIndex$Votes" "lessBy" "I", Cond.methodLink RX4 123 yX2_find, Cond.instanceMethod yX2_find, Cond.selects RX2 yX2_find yX2_find, Cond.code yX2_find cX2_find 4 (some .int), Cond.methodLink RX4 129 yX2_copyTo, Cond.instanceMethod yX2_copyTo, Cond.selects RX2 yX2_copyTo yX2_copyTo]
def wsL_vote_r6 : List Cond := [Cond.code yX2_copyTo cX2_copyTo 3 none]
def wsL_vote : List Cond := .codeWith yL_vote cL_vote 7 (some .int) [(0, 14, 17, 13)] :: ((wsL_vote_r1 ++ (wsL_vote_r2 ++ (wsL_vote_r3 ++ (wsL_vote_r4 ++ (wsL_vote_r5 ++ wsL_vote_r6))))) ++ wsX40 ++ wsX20 ++ wsX30 ++ wsX00 ++ (vx_at0 RX4 109 "java/util/NoSuchElementException" ["java/lang/RuntimeException", "java/lang/Exception"]).filter goodWord)
def wsL_candidate_r1 : List Cond := [Cond.classLink RL 13 "java/util/NoSuchElementException", Cond.methodLink RL 19 yX4_candidate, Cond.instanceMethod yX4_candidate, Cond.selects RX4 yX4_candidate yX4_candidate, Cond.initialized RX4, Cond.code yX4_candidate cX4_candidate 5 (some .int), Cond.classLink RX4 107 "java/util/NoSuchElementException", Cond.initialized "java/util/NoSuchElementException", Cond.fieldLink RX4 12 "MajorityIndex" "row" "LMajorityIndex$Row;", Cond.fieldLink RX4 35 "MajorityIndex" "votes" "LMajorityIndex$Votes;", Cond.fieldLink RX4 174 "MajorityIndex$Votes" "size" "I", Cond.fieldLink RX4 133 "MajorityIndex$Votes" "value" "[I", Cond.fieldLink RX4 136 "MajorityIndex$Votes" "number" "[I", Cond.methodLink RX4 79 yX0_hasRange, Cond.instanceMethod yX0_hasRange, Cond.selects RX0 yX0_hasRange yX0_hasRange, Cond.initialized RX0, Cond.code yX0_hasRange cX0_hasRange 3 (some .boolean), Cond.fieldLink RX0 15 "MajorityIndex$Row" "length" "I", Cond.methodLink RX4 71 yX4_laidTree, Cond.instanceMethod yX4_laidTree, Cond.selects RX4 yX4_laidTree yX4_laidTree, Cond.code yX4_laidTree cX4_laidTree 1 (some (.object "MajorityIndex$Tree")), Cond.fieldLink RX4 53 "MajorityIndex" "treeIsOld" "Z"]
def wsL_candidate_r2 : List Cond := [Cond.fieldLink RX4 21 "MajorityIndex" "tree" "LMajorityIndex$Tree;", Cond.fieldLink RX4 49 "MajorityIndex" "slotsNow" "I", Cond.fieldLink RX4 204 "MajorityIndex$Tree" "slotsHere" "I", Cond.fieldLink RX4 57 "MajorityIndex$Row" "length" "I", Cond.methodLink RX4 259 yX2_layRanges, Cond.instanceMethod yX2_layRanges, Cond.selects RX2 yX2_layRanges yX2_layRanges, Cond.initialized RX2, Cond.code yX2_layRanges cX2_layRanges 2 none, Cond.fieldLink RX2 40 "MajorityIndex$Tree" "row" "LMajorityIndex$Row;", Cond.fieldLink RX2 44 "MajorityIndex$Row" "length" "I", Cond.fieldLink RX2 50 "MajorityIndex$Tree" "nodes" "I", Cond.fieldLink RX2 18 "MajorityIndex$Tree" "from" "[I", Cond.fieldLink RX2 22 "MajorityIndex$Tree" "to" "[I", Cond.methodLink RX2 53 yX2_layBelow, Cond.instanceMethod yX2_layBelow, Cond.selects RX2 yX2_layBelow yX2_layBelow, Cond.code yX2_layBelow cX2_layBelow 4 none, Cond.methodLink RX2 57 yX2_rightBelow, Cond.instanceMethod yX2_rightBelow, Cond.selects RX2 yX2_rightBelow yX2_rightBelow, Cond.code yX2_rightBelow cX2_rightBelow 3 (some .int), Cond.methodLink RX4 87 yX2_renew, Cond.instanceMethod yX2_renew]
def wsL_candidate_r3 : List Cond := [Cond.selects RX2 yX2_renew yX2_renew, Cond.code yX2_renew cX2_renew 5 (some .int), Cond.methodLink RX2 61 yX2_putTogether, Cond.instanceMethod yX2_putTogether, Cond.selects RX2 yX2_putTogether yX2_putTogether, Cond.code yX2_putTogether cX2_putTogether 2 none, Cond.fieldLink RX2 12 "MajorityIndex$Tree" "joined" "LMajorityIndex$Votes;", Cond.fieldLink RX2 74 "MajorityIndex$Row" "cell" "[I", Cond.fieldLink RX2 85 "MajorityIndex$Tree" "slotsHere" "I", Cond.methodLink RX2 71 yX3_clear, Cond.instanceMethod yX3_clear, Cond.selects RX3 yX3_clear yX3_clear, Cond.initialized RX3, Cond.code yX3_clear cX3_clear 1 none, Cond.fieldLink RX3 18 "MajorityIndex$Votes" "size" "I", Cond.fieldLink RX3 22 "MajorityIndex$Votes" "lost" "I", Cond.fieldLink RX3 25 "MajorityIndex$Votes" "lessBy" "I", Cond.methodLink RX2 77 yX3_add, Cond.instanceMethod yX3_add, Cond.selects RX3 yX3_add yX3_add, Cond.code yX3_add cX3_add 4 none, Cond.fieldLink RX3 9 "MajorityIndex$Votes" "value" "[I", Cond.fieldLink RX3 15 "MajorityIndex$Votes" "number" "[I", Cond.methodLink RX2 81 yX2_joinNode]
def wsL_candidate_r4 : List Cond := [Cond.instanceMethod yX2_joinNode, Cond.selects RX2 yX2_joinNode yX2_joinNode, Cond.code yX2_joinNode cX2_joinNode 5 none, Cond.fieldLink RX2 25 "MajorityIndex$Tree" "size" "[I", Cond.fieldLink RX2 34 "MajorityIndex$Tree" "value" "[I", Cond.fieldLink RX2 37 "MajorityIndex$Tree" "number" "[I", Cond.fieldLink RX2 91 "MajorityIndex$Votes" "lost" "I", Cond.fieldLink RX2 28 "MajorityIndex$Tree" "lossOf" "[I", Cond.methodLink RX2 88 yX3_cancel, Cond.instanceMethod yX3_cancel, Cond.selects RX3 yX3_cancel yX3_cancel, Cond.code yX3_cancel cX3_cancel 4 none, Cond.methodLink RX3 32 yX3_order, Cond.instanceMethod yX3_order, Cond.selects RX3 yX3_order yX3_order, Cond.code yX3_order cX3_order 3 none, Cond.methodLink RX3 35 yX3_isAhead, Cond.instanceMethod yX3_isAhead, Cond.selects RX3 yX3_isAhead yX3_isAhead, Cond.code yX3_isAhead cX3_isAhead 3 (some .boolean), Cond.methodLink RX3 39 yX3_exchange, Cond.instanceMethod yX3_exchange, Cond.selects RX3 yX3_exchange yX3_exchange, Cond.code yX3_exchange cX3_exchange 5 none]
def wsL_candidate_r5 : List Cond := [Cond.methodLink RX2 64 yX2_isJoined, Cond.instanceMethod yX2_isJoined, Cond.selects RX2 yX2_isJoined yX2_isJoined, Cond.code yX2_isJoined cX2_isJoined 4 (some .boolean), Cond.fieldLink RX2 94 "MajorityIndex$Votes" "size" "I", Cond.fieldLink RX2 96 "MajorityIndex$Votes" "value" "[I", Cond.fieldLink RX2 97 "MajorityIndex$Votes" "number" "[I", Cond.methodLink RX2 68 yX2_keepJoined, Cond.instanceMethod yX2_keepJoined, Cond.selects RX2 yX2_keepJoined yX2_keepJoined, Cond.code yX2_keepJoined cX2_keepJoined 4 none, Cond.methodLink RX2 98 Lib.Math.min.name, Cond.static Lib.Math.min.name, Cond.initialized "java/lang/Math", Cond.code Lib.Math.min.name Lib.Math.min.code 2 (some .int), Cond.fieldLink RX2 31 "MajorityIndex$Tree" "lessBy" "[I", Cond.fieldLink RX2 104 "MajorityIndex$Votes" "lessBy" "I", Cond.methodLink RX4 170 yX2_gather, Cond.instanceMethod yX2_gather, Cond.selects RX2 yX2_gather yX2_gather, Cond.code yX2_gather cX2_gather 6 none, Cond.methodLink RX2 106 yX2_isPart, Cond.instanceMethod yX2_isPart, Cond.selects RX2 yX2_isPart yX2_isPart]
def wsL_candidate_r6 : List Cond := [Cond.code yX2_isPart cX2_isPart 4 (some .boolean), Cond.methodLink RX4 113 yX0_oftenIn, Cond.instanceMethod yX0_oftenIn, Cond.selects RX0 yX0_oftenIn yX0_oftenIn, Cond.code yX0_oftenIn cX0_oftenIn 6 (some .int), Cond.fieldLink RX0 9 "MajorityIndex$Row" "cell" "[I"]
def wsL_candidate : List Cond := .codeWith yL_candidate cL_candidate 7 (some .int) [(0, 14, 17, 13)] :: ((wsL_candidate_r1 ++ (wsL_candidate_r2 ++ (wsL_candidate_r3 ++ (wsL_candidate_r4 ++ (wsL_candidate_r5 ++ wsL_candidate_r6))))) ++ wsX40 ++ wsX30 ++ wsX00 ++ wsX20 ++ (vx_at0 RX4 109 "java/util/NoSuchElementException" ["java/lang/RuntimeException", "java/lang/Exception"]).filter goodWord)
def wsL_heavyAt_r1 : List Cond := [Cond.classLink RL 13 "java/util/NoSuchElementException", Cond.methodLink RL 22 yX4_heavyAt, Cond.instanceMethod yX4_heavyAt, Cond.selects RX4 yX4_heavyAt yX4_heavyAt, Cond.initialized RX4, Cond.code yX4_heavyAt cX4_heavyAt 7 (some .int), Cond.classLink RX4 107 "java/util/NoSuchElementException", Cond.initialized "java/util/NoSuchElementException", Cond.fieldLink RX4 12 "MajorityIndex" "row" "LMajorityIndex$Row;", Cond.fieldLink RX4 35 "MajorityIndex" "votes" "LMajorityIndex$Votes;", Cond.fieldLink RX4 174 "MajorityIndex$Votes" "size" "I", Cond.fieldLink RX4 133 "MajorityIndex$Votes" "value" "[I", Cond.fieldLink RX4 136 "MajorityIndex$Votes" "number" "[I", Cond.methodLink RX4 79 yX0_hasRange, Cond.instanceMethod yX0_hasRange, Cond.selects RX0 yX0_hasRange yX0_hasRange, Cond.initialized RX0, Cond.code yX0_hasRange cX0_hasRange 3 (some .boolean), Cond.fieldLink RX0 15 "MajorityIndex$Row" "length" "I", Cond.methodLink RX4 186 yX4_isShare, Cond.static yX4_isShare, Cond.code yX4_isShare cX4_isShare 2 (some .boolean), Cond.methodLink RX4 189 yX4_isEnough, Cond.instanceMethod yX4_isEnough]
def wsL_heavyAt_r2 : List Cond := [Cond.selects RX4 yX4_isEnough yX4_isEnough, Cond.code yX4_isEnough cX4_isEnough 3 (some .boolean), Cond.fieldLink RX4 49 "MajorityIndex" "slotsNow" "I", Cond.methodLink RX4 71 yX4_laidTree, Cond.instanceMethod yX4_laidTree, Cond.selects RX4 yX4_laidTree yX4_laidTree, Cond.code yX4_laidTree cX4_laidTree 1 (some (.object "MajorityIndex$Tree")), Cond.fieldLink RX4 53 "MajorityIndex" "treeIsOld" "Z", Cond.fieldLink RX4 21 "MajorityIndex" "tree" "LMajorityIndex$Tree;", Cond.fieldLink RX4 204 "MajorityIndex$Tree" "slotsHere" "I", Cond.fieldLink RX4 57 "MajorityIndex$Row" "length" "I", Cond.methodLink RX4 259 yX2_layRanges, Cond.instanceMethod yX2_layRanges, Cond.selects RX2 yX2_layRanges yX2_layRanges, Cond.initialized RX2, Cond.code yX2_layRanges cX2_layRanges 2 none, Cond.fieldLink RX2 40 "MajorityIndex$Tree" "row" "LMajorityIndex$Row;", Cond.fieldLink RX2 44 "MajorityIndex$Row" "length" "I", Cond.fieldLink RX2 50 "MajorityIndex$Tree" "nodes" "I", Cond.fieldLink RX2 18 "MajorityIndex$Tree" "from" "[I", Cond.fieldLink RX2 22 "MajorityIndex$Tree" "to" "[I", Cond.methodLink RX2 53 yX2_layBelow, Cond.instanceMethod yX2_layBelow, Cond.selects RX2 yX2_layBelow yX2_layBelow]
def wsL_heavyAt_r3 : List Cond := [Cond.code yX2_layBelow cX2_layBelow 4 none, Cond.methodLink RX2 57 yX2_rightBelow, Cond.instanceMethod yX2_rightBelow, Cond.selects RX2 yX2_rightBelow yX2_rightBelow, Cond.code yX2_rightBelow cX2_rightBelow 3 (some .int), Cond.methodLink RX4 87 yX2_renew, Cond.instanceMethod yX2_renew, Cond.selects RX2 yX2_renew yX2_renew, Cond.code yX2_renew cX2_renew 5 (some .int), Cond.methodLink RX2 61 yX2_putTogether, Cond.instanceMethod yX2_putTogether, Cond.selects RX2 yX2_putTogether yX2_putTogether, Cond.code yX2_putTogether cX2_putTogether 2 none, Cond.fieldLink RX2 12 "MajorityIndex$Tree" "joined" "LMajorityIndex$Votes;", Cond.fieldLink RX2 74 "MajorityIndex$Row" "cell" "[I", Cond.fieldLink RX2 85 "MajorityIndex$Tree" "slotsHere" "I", Cond.methodLink RX2 71 yX3_clear, Cond.instanceMethod yX3_clear, Cond.selects RX3 yX3_clear yX3_clear, Cond.initialized RX3, Cond.code yX3_clear cX3_clear 1 none, Cond.fieldLink RX3 18 "MajorityIndex$Votes" "size" "I", Cond.fieldLink RX3 22 "MajorityIndex$Votes" "lost" "I", Cond.fieldLink RX3 25 "MajorityIndex$Votes" "lessBy" "I"]
def wsL_heavyAt_r4 : List Cond := [Cond.methodLink RX2 77 yX3_add, Cond.instanceMethod yX3_add, Cond.selects RX3 yX3_add yX3_add, Cond.code yX3_add cX3_add 4 none, Cond.fieldLink RX3 9 "MajorityIndex$Votes" "value" "[I", Cond.fieldLink RX3 15 "MajorityIndex$Votes" "number" "[I", Cond.methodLink RX2 81 yX2_joinNode, Cond.instanceMethod yX2_joinNode, Cond.selects RX2 yX2_joinNode yX2_joinNode, Cond.code yX2_joinNode cX2_joinNode 5 none, Cond.fieldLink RX2 25 "MajorityIndex$Tree" "size" "[I", Cond.fieldLink RX2 34 "MajorityIndex$Tree" "value" "[I", Cond.fieldLink RX2 37 "MajorityIndex$Tree" "number" "[I", Cond.fieldLink RX2 91 "MajorityIndex$Votes" "lost" "I", Cond.fieldLink RX2 28 "MajorityIndex$Tree" "lossOf" "[I", Cond.methodLink RX2 88 yX3_cancel, Cond.instanceMethod yX3_cancel, Cond.selects RX3 yX3_cancel yX3_cancel, Cond.code yX3_cancel cX3_cancel 4 none, Cond.methodLink RX3 32 yX3_order, Cond.instanceMethod yX3_order, Cond.selects RX3 yX3_order yX3_order, Cond.code yX3_order cX3_order 3 none, Cond.methodLink RX3 35 yX3_isAhead]
def wsL_heavyAt_r5 : List Cond := [Cond.instanceMethod yX3_isAhead, Cond.selects RX3 yX3_isAhead yX3_isAhead, Cond.code yX3_isAhead cX3_isAhead 3 (some .boolean), Cond.methodLink RX3 39 yX3_exchange, Cond.instanceMethod yX3_exchange, Cond.selects RX3 yX3_exchange yX3_exchange, Cond.code yX3_exchange cX3_exchange 5 none, Cond.methodLink RX2 64 yX2_isJoined, Cond.instanceMethod yX2_isJoined, Cond.selects RX2 yX2_isJoined yX2_isJoined, Cond.code yX2_isJoined cX2_isJoined 4 (some .boolean), Cond.fieldLink RX2 94 "MajorityIndex$Votes" "size" "I", Cond.fieldLink RX2 96 "MajorityIndex$Votes" "value" "[I", Cond.fieldLink RX2 97 "MajorityIndex$Votes" "number" "[I", Cond.methodLink RX2 68 yX2_keepJoined, Cond.instanceMethod yX2_keepJoined, Cond.selects RX2 yX2_keepJoined yX2_keepJoined, Cond.code yX2_keepJoined cX2_keepJoined 4 none, Cond.methodLink RX2 98 Lib.Math.min.name, Cond.static Lib.Math.min.name, Cond.initialized "java/lang/Math", Cond.code Lib.Math.min.name Lib.Math.min.code 2 (some .int), Cond.fieldLink RX2 31 "MajorityIndex$Tree" "lessBy" "[I", Cond.fieldLink RX2 104 "MajorityIndex$Votes" "lessBy" "I"]
def wsL_heavyAt_r6 : List Cond := [Cond.methodLink RX4 192 yX4_gatherHeavy, Cond.instanceMethod yX4_gatherHeavy, Cond.selects RX4 yX4_gatherHeavy yX4_gatherHeavy, Cond.code yX4_gatherHeavy cX4_gatherHeavy 7 none, Cond.methodLink RX4 170 yX2_gather, Cond.instanceMethod yX2_gather, Cond.selects RX2 yX2_gather yX2_gather, Cond.code yX2_gather cX2_gather 6 none, Cond.methodLink RX2 106 yX2_isPart, Cond.instanceMethod yX2_isPart, Cond.selects RX2 yX2_isPart yX2_isPart, Cond.code yX2_isPart cX2_isPart 4 (some .boolean), Cond.methodLink RX4 113 yX0_oftenIn, Cond.instanceMethod yX0_oftenIn, Cond.selects RX0 yX0_oftenIn yX0_oftenIn, Cond.code yX0_oftenIn cX0_oftenIn 6 (some .int), Cond.fieldLink RX0 9 "MajorityIndex$Row" "cell" "[I", Cond.methodLink RX4 262 yX3_keepHeavy, Cond.instanceMethod yX3_keepHeavy, Cond.selects RX3 yX3_keepHeavy yX3_keepHeavy, Cond.code yX3_keepHeavy cX3_keepHeavy 6 none, Cond.static yX4_isHeavy, Cond.code yX4_isHeavy cX4_isHeavy 4 (some .boolean)]
def wsL_heavyAt : List Cond := .codeWith yL_heavyAt cL_heavyAt 9 (some .int) [(0, 18, 21, 13)] :: ((wsL_heavyAt_r1 ++ (wsL_heavyAt_r2 ++ (wsL_heavyAt_r3 ++ (wsL_heavyAt_r4 ++ (wsL_heavyAt_r5 ++ wsL_heavyAt_r6))))) ++ wsX40 ++ wsX30 ++ wsX00 ++ wsX20 ++ (vx_at0 RX4 109 "java/util/NoSuchElementException" ["java/lang/RuntimeException", "java/lang/Exception"]).filter goodWord)
set_option maxRecDepth 20000 in
theorem ggL_at_X4_at : GoodIn wsL_at wsX4_at := goodIn_ca (goodIn_r _ [6, 7, 8, 9, 10, 11, 12, 13, 14, 15, 16, 17, 18, 19, 20, 21, 22, 23, 24, 25, 26, 27] rfl (by decide +kernel)) (goodIn_sub (fun _ h => List.mem_cons_of_mem _ (List.mem_append_right _ h)) (by decide +kernel))
set_option maxRecDepth 20000 in
theorem gL_at_X4_at : GoodIn wsL_at (wsV RL 7 RX4 yX4_at wsX4_at) := goodIn_app (goodIn_r _ [2, 3, 4, 5] rfl (by decide +kernel)) ggL_at_X4_at
def dt_cL_at_0 : List (Nat × Nat × Nat × Nat) := [(0, 44, 0, 0), (1, 3, 0, 0), (2, 42, 0, 0), (3, 27, 0, 0), (4, 182, 2, 7), (7, 133, 0, 0), (8, 80, 0, 0), (9, 167, 2, 6), (12, 78, 0, 0), (13, 4, 0, 0), (14, 172, 0, 0), (15, 3, 0, 0), (16, 172, 0, 0)]
theorem da_cL_at_0 : fw dt_cL_at_0 0 cL_at.data.toList = true := by decide +kernel
theorem dL_at_0 : decode cL_at 0 = .ok (.aload_n 2, 1) := fo_44 (fw_get da_cL_at_0 0 rfl)
theorem dL_at_1 : decode cL_at 1 = .ok (.iconst 0, 1) := fo_3 (fw_get da_cL_at_0 1 rfl)
theorem dL_at_2 : decode cL_at 2 = .ok (.aload_n 0, 1) := fo_42 (fw_get da_cL_at_0 2 rfl)
theorem dL_at_3 : decode cL_at 3 = .ok (.iload_n 1, 1) := fo_27 (fw_get da_cL_at_0 3 rfl)
theorem dL_at_4 : decode cL_at 4 = .ok (.invokevirtual 7, 3) := fo_182 (fw_get da_cL_at_0 4 rfl)
theorem dL_at_7 : decode cL_at 7 = .ok (.i2l, 1) := fo_133 (fw_get da_cL_at_0 5 rfl)
theorem dL_at_8 : decode cL_at 8 = .ok (.lastore, 1) := fo_80 (fw_get da_cL_at_0 6 rfl)
theorem dL_at_9 : decode cL_at 9 = .ok (.goto 6, 3) := fo_167 (fw_get da_cL_at_0 7 rfl) (by decide +kernel)
theorem dL_at_12 : decode cL_at 12 = .ok (.astore_n 3, 1) := fo_78 (fw_get da_cL_at_0 8 rfl)
theorem dL_at_13 : decode cL_at 13 = .ok (.iconst 1, 1) := fo_4 (fw_get da_cL_at_0 9 rfl)
theorem dL_at_14 : decode cL_at 14 = .ok (.ireturn, 1) := fo_172 (fw_get da_cL_at_0 10 rfl)
theorem dL_at_15 : decode cL_at 15 = .ok (.iconst 0, 1) := fo_3 (fw_get da_cL_at_0 11 rfl)
theorem dL_at_16 : decode cL_at 16 = .ok (.ireturn, 1) := fo_172 (fw_get da_cL_at_0 12 rfl)
set_option maxRecDepth 20000 in
theorem ggL_vote_X4_vote : GoodIn wsL_vote wsX4_vote := goodIn_ca (goodIn_r _ [6, 7, 8, 9, 10, 11, 12, 13, 14, 15, 16, 17, 18, 19, 20, 21, 22, 5, 23, 24, 25, 26, 27, 28, 29, 30, 31, 32, 33, 34, 35, 36, 37, 38, 39, 40, 41, 42, 43, 44, 45, 46, 47, 48, 49, 50, 51, 52, 53, 54, 55, 56, 57, 58, 59, 60, 61, 62, 63, 64, 65, 66, 67, 68, 69, 70, 71, 72, 73, 74, 75, 76, 77, 78, 79, 80, 81, 82, 83, 84, 85, 86, 87, 88, 89, 90, 91, 92, 93, 94, 95, 96, 97, 98, 99, 100, 101, 102, 103, 104, 105, 106, 107, 108, 109, 110, 111, 112, 113, 114, 115, 116, 117, 118, 119, 120, 121, 122, 123, 124, 125, 126, 127, 128, 129, 130, 131, 132, 133, 134, 135, 136, 137, 138, 139, 140, 141, 142, 143, 144, 145, 146, 147, 148] rfl (by decide +kernel)) (goodIn_sub (fun _ h => List.mem_cons_of_mem _ (List.mem_append_right _ h)) (by decide +kernel))
set_option maxRecDepth 20000 in
theorem gL_vote_X4_vote : GoodIn wsL_vote (wsV RL 15 RX4 yX4_vote wsX4_vote) := goodIn_app (goodIn_r _ [2, 3, 4, 5] rfl (by decide +kernel)) ggL_vote_X4_vote
def dt_cL_vote_0 : List (Nat × Nat × Nat × Nat) := [(0, 25, 1, 5), (2, 3, 0, 0), (3, 42, 0, 0), (4, 27, 0, 0), (5, 28, 0, 0), (6, 29, 0, 0), (7, 21, 1, 4), (9, 182, 2, 15), (12, 133, 0, 0), (13, 80, 0, 0), (14, 167, 2, 7), (17, 58, 1, 6), (19, 4, 0, 0), (20, 172, 0, 0), (21, 3, 0, 0), (22, 172, 0, 0)]
theorem da_cL_vote_0 : fw dt_cL_vote_0 0 cL_vote.data.toList = true := by decide +kernel
theorem dL_vote_0 : decode cL_vote 0 = .ok (.aload 5, 2) := fo_25 (fw_get da_cL_vote_0 0 rfl)
theorem dL_vote_2 : decode cL_vote 2 = .ok (.iconst 0, 1) := fo_3 (fw_get da_cL_vote_0 1 rfl)
theorem dL_vote_3 : decode cL_vote 3 = .ok (.aload_n 0, 1) := fo_42 (fw_get da_cL_vote_0 2 rfl)
theorem dL_vote_4 : decode cL_vote 4 = .ok (.iload_n 1, 1) := fo_27 (fw_get da_cL_vote_0 3 rfl)
theorem dL_vote_5 : decode cL_vote 5 = .ok (.iload_n 2, 1) := fo_28 (fw_get da_cL_vote_0 4 rfl)
theorem dL_vote_6 : decode cL_vote 6 = .ok (.iload_n 3, 1) := fo_29 (fw_get da_cL_vote_0 5 rfl)
theorem dL_vote_7 : decode cL_vote 7 = .ok (.iload 4, 2) := fo_21 (fw_get da_cL_vote_0 6 rfl)
theorem dL_vote_9 : decode cL_vote 9 = .ok (.invokevirtual 15, 3) := fo_182 (fw_get da_cL_vote_0 7 rfl)
theorem dL_vote_12 : decode cL_vote 12 = .ok (.i2l, 1) := fo_133 (fw_get da_cL_vote_0 8 rfl)
theorem dL_vote_13 : decode cL_vote 13 = .ok (.lastore, 1) := fo_80 (fw_get da_cL_vote_0 9 rfl)
theorem dL_vote_14 : decode cL_vote 14 = .ok (.goto 7, 3) := fo_167 (fw_get da_cL_vote_0 10 rfl) (by decide +kernel)
theorem dL_vote_17 : decode cL_vote 17 = .ok (.astore 6, 2) := fo_58 (fw_get da_cL_vote_0 11 rfl)
theorem dL_vote_19 : decode cL_vote 19 = .ok (.iconst 1, 1) := fo_4 (fw_get da_cL_vote_0 12 rfl)
theorem dL_vote_20 : decode cL_vote 20 = .ok (.ireturn, 1) := fo_172 (fw_get da_cL_vote_0 13 rfl)
theorem dL_vote_21 : decode cL_vote 21 = .ok (.iconst 0, 1) := fo_3 (fw_get da_cL_vote_0 14 rfl)
theorem dL_vote_22 : decode cL_vote 22 = .ok (.ireturn, 1) := fo_172 (fw_get da_cL_vote_0 15 rfl)
set_option maxRecDepth 20000 in
theorem ggL_candidate_X4_candidate : GoodIn wsL_candidate wsX4_candidate := goodIn_ca (goodIn_r _ [6, 7, 8, 9, 10, 11, 12, 13, 14, 15, 16, 17, 18, 19, 20, 21, 22, 5, 23, 24, 25, 26, 27, 28, 29, 30, 31, 32, 33, 34, 35, 36, 37, 38, 39, 40, 41, 42, 43, 44, 45, 46, 47, 48, 49, 50, 51, 52, 53, 54, 55, 56, 57, 58, 59, 60, 61, 62, 63, 64, 65, 66, 67, 68, 69, 70, 71, 72, 73, 74, 75, 76, 77, 78, 79, 80, 81, 82, 83, 84, 85, 86, 87, 88, 89, 90, 91, 92, 93, 94, 95, 96, 97, 98, 99, 100, 101, 102, 103, 104, 105, 106, 107, 108, 109, 110, 111, 112, 113, 114, 115, 116, 117, 118, 119, 120, 121, 122, 123, 124, 125, 126, 127, 128, 129, 130, 131, 132, 133, 134, 135, 136, 137, 138, 139, 140, 141, 142, 143, 144, 145, 146, 147, 148, 149, 150, 151, 152, 153] rfl (by decide +kernel)) (goodIn_sub (fun _ h => List.mem_cons_of_mem _ (List.mem_append_right _ h)) (by decide +kernel))
set_option maxRecDepth 20000 in
theorem gL_candidate_X4_candidate : GoodIn wsL_candidate (wsV RL 19 RX4 yX4_candidate wsX4_candidate) := goodIn_app (goodIn_r _ [2, 3, 4, 5] rfl (by decide +kernel)) ggL_candidate_X4_candidate
def dt_cL_candidate_0 : List (Nat × Nat × Nat × Nat) := [(0, 25, 1, 5), (2, 3, 0, 0), (3, 42, 0, 0), (4, 27, 0, 0), (5, 28, 0, 0), (6, 29, 0, 0), (7, 21, 1, 4), (9, 182, 2, 19), (12, 133, 0, 0), (13, 80, 0, 0), (14, 167, 2, 7), (17, 58, 1, 6), (19, 4, 0, 0), (20, 172, 0, 0), (21, 3, 0, 0), (22, 172, 0, 0)]
theorem da_cL_candidate_0 : fw dt_cL_candidate_0 0 cL_candidate.data.toList = true := by decide +kernel
theorem dL_candidate_0 : decode cL_candidate 0 = .ok (.aload 5, 2) := fo_25 (fw_get da_cL_candidate_0 0 rfl)
theorem dL_candidate_2 : decode cL_candidate 2 = .ok (.iconst 0, 1) := fo_3 (fw_get da_cL_candidate_0 1 rfl)
theorem dL_candidate_3 : decode cL_candidate 3 = .ok (.aload_n 0, 1) := fo_42 (fw_get da_cL_candidate_0 2 rfl)
theorem dL_candidate_4 : decode cL_candidate 4 = .ok (.iload_n 1, 1) := fo_27 (fw_get da_cL_candidate_0 3 rfl)
theorem dL_candidate_5 : decode cL_candidate 5 = .ok (.iload_n 2, 1) := fo_28 (fw_get da_cL_candidate_0 4 rfl)
theorem dL_candidate_6 : decode cL_candidate 6 = .ok (.iload_n 3, 1) := fo_29 (fw_get da_cL_candidate_0 5 rfl)
theorem dL_candidate_7 : decode cL_candidate 7 = .ok (.iload 4, 2) := fo_21 (fw_get da_cL_candidate_0 6 rfl)
theorem dL_candidate_9 : decode cL_candidate 9 = .ok (.invokevirtual 19, 3) := fo_182 (fw_get da_cL_candidate_0 7 rfl)
theorem dL_candidate_12 : decode cL_candidate 12 = .ok (.i2l, 1) := fo_133 (fw_get da_cL_candidate_0 8 rfl)
theorem dL_candidate_13 : decode cL_candidate 13 = .ok (.lastore, 1) := fo_80 (fw_get da_cL_candidate_0 9 rfl)
theorem dL_candidate_14 : decode cL_candidate 14 = .ok (.goto 7, 3) := fo_167 (fw_get da_cL_candidate_0 10 rfl) (by decide +kernel)
theorem dL_candidate_17 : decode cL_candidate 17 = .ok (.astore 6, 2) := fo_58 (fw_get da_cL_candidate_0 11 rfl)
theorem dL_candidate_19 : decode cL_candidate 19 = .ok (.iconst 1, 1) := fo_4 (fw_get da_cL_candidate_0 12 rfl)
theorem dL_candidate_20 : decode cL_candidate 20 = .ok (.ireturn, 1) := fo_172 (fw_get da_cL_candidate_0 13 rfl)
theorem dL_candidate_21 : decode cL_candidate 21 = .ok (.iconst 0, 1) := fo_3 (fw_get da_cL_candidate_0 14 rfl)
theorem dL_candidate_22 : decode cL_candidate 22 = .ok (.ireturn, 1) := fo_172 (fw_get da_cL_candidate_0 15 rfl)
set_option maxRecDepth 20000 in
theorem ggL_heavyAt_X4_heavyAt : GoodIn wsL_heavyAt wsX4_heavyAt := goodIn_ca (goodIn_r _ [6, 7, 8, 9, 10, 11, 12, 13, 14, 15, 16, 17, 18, 19, 20, 21, 5, 22, 23, 24, 25, 26, 27, 28, 29, 30, 31, 32, 33, 34, 35, 36, 37, 38, 39, 40, 41, 42, 43, 44, 45, 46, 47, 48, 49, 50, 51, 52, 53, 54, 55, 56, 57, 58, 59, 60, 61, 62, 63, 64, 65, 66, 67, 68, 69, 70, 71, 72, 73, 74, 75, 76, 77, 78, 79, 80, 81, 82, 83, 84, 85, 86, 87, 88, 89, 90, 91, 92, 93, 94, 95, 96, 97, 98, 99, 100, 101, 102, 103, 104, 105, 106, 107, 108, 109, 110, 111, 112, 113, 114, 115, 116, 117, 118, 119, 120, 121, 122, 123, 124, 125, 126, 127, 128, 129, 130, 131, 132, 133, 134, 135, 136, 137, 138, 139, 140, 141, 142, 143, 144, 145, 146, 147, 148, 149, 150, 151, 152, 153, 154, 155, 156, 157, 158, 159, 160, 161, 162, 163, 164, 165, 166, 167, 168, 169, 170] rfl (by decide +kernel)) (goodIn_sub (fun _ h => List.mem_cons_of_mem _ (List.mem_append_right _ h)) (by decide +kernel))
set_option maxRecDepth 20000 in
theorem gL_heavyAt_X4_heavyAt : GoodIn wsL_heavyAt (wsV RL 22 RX4 yX4_heavyAt wsX4_heavyAt) := goodIn_app (goodIn_r _ [2, 3, 4, 5] rfl (by decide +kernel)) ggL_heavyAt_X4_heavyAt
def dt_cL_heavyAt_0 : List (Nat × Nat × Nat × Nat) := [(0, 25, 1, 7), (2, 3, 0, 0), (3, 42, 0, 0), (4, 27, 0, 0), (5, 28, 0, 0), (6, 29, 0, 0), (7, 21, 1, 4), (9, 21, 1, 5), (11, 21, 1, 6), (13, 182, 2, 22), (16, 133, 0, 0), (17, 80, 0, 0), (18, 167, 2, 7), (21, 58, 1, 8), (23, 4, 0, 0), (24, 172, 0, 0), (25, 3, 0, 0), (26, 172, 0, 0)]
theorem da_cL_heavyAt_0 : fw dt_cL_heavyAt_0 0 cL_heavyAt.data.toList = true := by decide +kernel
theorem dL_heavyAt_0 : decode cL_heavyAt 0 = .ok (.aload 7, 2) := fo_25 (fw_get da_cL_heavyAt_0 0 rfl)
theorem dL_heavyAt_2 : decode cL_heavyAt 2 = .ok (.iconst 0, 1) := fo_3 (fw_get da_cL_heavyAt_0 1 rfl)
theorem dL_heavyAt_3 : decode cL_heavyAt 3 = .ok (.aload_n 0, 1) := fo_42 (fw_get da_cL_heavyAt_0 2 rfl)
theorem dL_heavyAt_4 : decode cL_heavyAt 4 = .ok (.iload_n 1, 1) := fo_27 (fw_get da_cL_heavyAt_0 3 rfl)
theorem dL_heavyAt_5 : decode cL_heavyAt 5 = .ok (.iload_n 2, 1) := fo_28 (fw_get da_cL_heavyAt_0 4 rfl)
theorem dL_heavyAt_6 : decode cL_heavyAt 6 = .ok (.iload_n 3, 1) := fo_29 (fw_get da_cL_heavyAt_0 5 rfl)
theorem dL_heavyAt_7 : decode cL_heavyAt 7 = .ok (.iload 4, 2) := fo_21 (fw_get da_cL_heavyAt_0 6 rfl)
theorem dL_heavyAt_9 : decode cL_heavyAt 9 = .ok (.iload 5, 2) := fo_21 (fw_get da_cL_heavyAt_0 7 rfl)
theorem dL_heavyAt_11 : decode cL_heavyAt 11 = .ok (.iload 6, 2) := fo_21 (fw_get da_cL_heavyAt_0 8 rfl)
theorem dL_heavyAt_13 : decode cL_heavyAt 13 = .ok (.invokevirtual 22, 3) := fo_182 (fw_get da_cL_heavyAt_0 9 rfl)
theorem dL_heavyAt_16 : decode cL_heavyAt 16 = .ok (.i2l, 1) := fo_133 (fw_get da_cL_heavyAt_0 10 rfl)
theorem dL_heavyAt_17 : decode cL_heavyAt 17 = .ok (.lastore, 1) := fo_80 (fw_get da_cL_heavyAt_0 11 rfl)
theorem dL_heavyAt_18 : decode cL_heavyAt 18 = .ok (.goto 7, 3) := fo_167 (fw_get da_cL_heavyAt_0 12 rfl) (by decide +kernel)
theorem dL_heavyAt_21 : decode cL_heavyAt 21 = .ok (.astore 8, 2) := fo_58 (fw_get da_cL_heavyAt_0 13 rfl)
theorem dL_heavyAt_23 : decode cL_heavyAt 23 = .ok (.iconst 1, 1) := fo_4 (fw_get da_cL_heavyAt_0 14 rfl)
theorem dL_heavyAt_24 : decode cL_heavyAt 24 = .ok (.ireturn, 1) := fo_172 (fw_get da_cL_heavyAt_0 15 rfl)
theorem dL_heavyAt_25 : decode cL_heavyAt 25 = .ok (.iconst 0, 1) := fo_3 (fw_get da_cL_heavyAt_0 16 rfl)
theorem dL_heavyAt_26 : decode cL_heavyAt 26 = .ok (.ireturn, 1) := fo_172 (fw_get da_cL_heavyAt_0 17 rfl)


set_option maxHeartbeats 4000000 in
set_option maxRecDepth 100000 in
theorem c_L_at (l : Launch) (hl0 : l.stackTraces = false) (dC : Nat → ClassId) (dI : Nat → Nat → Nat) (m_ : Nat) (q_row : Nat) (q_t : Nat) (t_ : Nat) (h0 : Nat) (k0 : Nat) (w_ : Nat) (z_ : Nat) (slots : Int32) (old : Int32) (q_cell : Nat) (cyI : ClassId) (len : Int32) (f : Nat → Int32) (p0 : Int32) (cyL : ClassId) (ho : Nat) (ol : Nat → Int64) (sz : Nat) (a0 : 0 ≤ len.toInt) (a1 : len.toInt ≤ 160) : Met l yL_at wsL_at ({ frames := 9, cells := 1, slots := 6, locals := 405 }) (va_Pc [.ref m_, .int p0, .ref ho] (fun U => U.heap.size = sz ∧ va_P (dC, dI) vwCl [kx_4 m_ q_row q_t t_ h0 k0 w_ z_ slots old, kx_0 q_row q_cell len, kx_a q_cell cyI 160 f, (ho, .inl (cyL, 1, .inr (.inl ol)))] U.heap ∧ va_K (dC, dI) vwCl [(cyI, .int), (cyL, .long)] U ∧ va_D (fun _ => True) [kx_4 m_ q_row q_t t_ h0 k0 w_ z_ slots old, kx_0 q_row q_cell len, kx_a q_cell cyI 160 f, (ho, .inl (cyL, 1, .inr (.inl ol)))] ∧ ki_ThA (va_A [kx_4 m_ q_row q_t t_ h0 k0 w_ z_ slots old, kx_0 q_row q_cell len, kx_a q_cell cyI 160 f, (ho, .inl (cyL, 1, .inr (.inl ol)))] sz) U)) (va_Qi (fun (r : Int32) (u : (Nat → Int64) × Int32) => ((r = 0 ∧ (0 ≤ p0.toInt ∧ p0.toInt < len.toInt ∧ u.2 = f p0.toNatClampNeg) ∧ u.1 = vp_updL ol (0 : Int32).toNatClampNeg u.2.toInt64) ∨ (r = 1 ∧ ((p0.toInt < 0 ∨ len.toInt ≤ p0.toInt))))) (fun (u : (Nat → Int64) × Int32) (t : State) => va_P (dC, dI) vwCl [kx_4 m_ q_row q_t t_ h0 k0 w_ z_ slots old, kx_0 q_row q_cell len, kx_a q_cell cyI 160 f, (ho, .inl (cyL, 1, .inr (.inl u.1)))] t.heap ∧ va_K (dC, dI) vwCl [(cyI, .int), (cyL, .long)] t ∧ va_D (va_A [kx_4 m_ q_row q_t t_ h0 k0 w_ z_ slots old, kx_0 q_row q_cell len, kx_a q_cell cyI 160 f, (ho, .inl (cyL, 1, .inr (.inl ol)))] sz) [kx_4 m_ q_row q_t t_ h0 k0 w_ z_ slots old, kx_0 q_row q_cell len, kx_a q_cell cyI 160 f, (ho, .inl (cyL, 1, .inr (.inl u.1)))]) (va_A [kx_4 m_ q_row q_t t_ h0 k0 w_ z_ slots old, kx_0 q_row q_cell len, kx_a q_cell cyI 160 f, (ho, .inl (cyL, 1, .inr (.inl ol)))] sz)) 1 6 (va_A [kx_4 m_ q_row q_t t_ h0 k0 w_ z_ slots old, kx_0 q_row q_cell len, kx_a q_cell cyI 160 f, (ho, .inl (cyL, 1, .inr (.inl ol)))] sz) := by
  refine va_MetW (cc := cL_at) (maxL := 4) (ret := (some .int)) (hh := [(0, 9, 12, 13)]) (by decide) rfl ?_
  intro p e s m args below meth c s₁ B hml hv
  obtain ⟨rfl, hsz, hP, hK, hD0, hth⟩ := hv
  have hx := B.exec
  have hb := B.bytes
  have hr := B.returns
  have hts := atoms_spec (ws := wsL_at) B.pre
  have hown : s.vm.findClass RL = some m.cls := findClass_of_methodNamed B.named
  have hlocks := B.notSynchronized
  have htb : c.exceptionTable.toList = tableOf [(0, 9, 12, 13)] := vx_table (x := yL_at) B (hts (.codeWith yL_at cL_at 4 (some .int) [(0, 9, 12, 13)]) List.mem_cons_self)
  subst hsz
  have hD := hD0.self (sz := s.heap.size)
  generalize hAe : va_A [kx_4 m_ q_row q_t t_ h0 k0 w_ z_ slots old, kx_0 q_row q_cell len, kx_a q_cell cyI 160 f, (ho, .inl (cyL, 1, .inr (.inl ol)))] s.heap.size = A at hD hth ⊢
  have hA : ∀ q : Nat, s.heap.size ≤ q → A q := fun q h => by rw [← hAe]; exact Or.inr h
  have hS : va_S A s.heap s.heap [] := va_S.rf
  have hP : va_P (dC, dI) vwCl [kx_4 m_ q_row q_t t_ h0 k0 w_ z_ slots old, kx_0 q_row q_cell len, kx_a q_cell cyI 160 f, (ho, .inl (cyL, 1, .inr (.inl ol)))] s.heap := hP
  have hl := lv_entry ([.ref m_, .int p0, .ref ho]) (n := 4) (Nat.le_of_ble_eq_true rfl)
  rw [lg_entry_eq]
  generalize (lg_sl ([.ref m_, .int p0, .ref ho]) ++ List.replicate (4 - (lg_sl ([.ref m_, .int p0, .ref ho])).length) Slot.unset).toArray = ls at hl ⊢
  have hl : lv_has ls 4 [(0, .ref m_), (1, .int p0), (2, .ref ho)] := hl
  refine lv_aload_n hx hb dL_at_0 rfl (lv_at hl 2 rfl) ?_
  refine lv_iconst (v := 0) hx hb dL_at_1 (by decide) ?_
  refine lv_aload_n hx hb dL_at_2 rfl (lv_at hl 0 rfl) ?_
  refine lv_iload_n hx hb dL_at_3 rfl (lv_at hl 1 rfl) ?_
  have hPc := hP.sub (ws' := [kx_4 m_ q_row q_t t_ h0 k0 w_ z_ slots old, kx_0 q_row q_cell len, kx_a q_cell cyI 160 f]) [0, 1, 2] rfl
  have hKc := hK.sub (tys' := [(cyI, .int)]) [0] rfl
  have hDc := hD.sub (ws' := [kx_4 m_ q_row q_t t_ h0 k0 w_ z_ slots old, kx_0 q_row q_cell len, kx_a q_cell cyI 160 f]) [0, 1, 2] (by decide) rfl
  have hFc := va_free (wc := [kx_4 m_ q_row q_t t_ h0 k0 w_ z_ slots old, kx_0 q_row q_cell len, kx_a q_cell cyI 160 f]) hD hS hA [0, 1, 2] rfl
  refine vx_calli (vx_runV (As := [.int p0]) (rest := [.int 0, .ref ho]) ⟨hx, hb, hml, hown, hts⟩ (c_X4_at l hl0 dC dI m_ q_row q_t t_ h0 k0 w_ z_ slots old q_cell cyI len f p0 s.heap.size a0 a1) (cwV 1 hts gL_at_X4_at rfl rfl rfl (by decide +kernel) ⟨Nat.le_of_ble_eq_true rfl, Nat.le_of_ble_eq_true rfl⟩) ⟨fun a U g mk q => by obtain ⟨q0, q1, qP, qK, qD, qT⟩ := q; exact ⟨q0, q1, qP, va_K.moved (u := U) (U := U.calling g mk a) (Vm.Alike.refl U.vm) qK, qD, qT.call g mk a⟩, kx_rc4 hKc hPc (q0 := 0) rfl, fun U hU hW => ⟨rfl, by rw [hU], by rw [hU]; exact hPc, va_K.moved hW.alike hKc, hDc.weaken (fun _ _ _ _ => trivial), hth.from hS hU hW hFc⟩⟩ rfl rfl hl.1 rfl (lv_room (Nat.le_of_ble_eq_true rfl)) dL_at_4 ⟨Nat.le_of_ble_eq_true rfl, Nat.le_of_ble_eq_true rfl⟩) hS (fun q _ h => hFc q h) hFc (fun q _ h => hFc q h) (fun E ce q9 u t H1 locs ht hvm w_1 hB hz1 hk1 hS hce hcv hcl => ?_) (fun r_1 u t H1 locs ht hvm w_1 hB hz1 hk1 hS => ?_)
  · obtain ⟨hE, hP1, hK1, hD1⟩ := hB
    subst hE
    rw [ht] at hP1
    have hK1 := va_K.moved hvm.symm hK1
    obtain ⟨hP, hD⟩ := va_join (wr := [(ho, .inl (cyL, 1, .inr (.inl ol)))]) (w1 := [kx_4 m_ q_row q_t t_ h0 k0 w_ z_ slots old, kx_0 q_row q_cell len, kx_a q_cell cyI 160 f]) hP hD [0, 1, 2] [3] rfl rfl (by decide) (by decide) hk1 hFc hP1 hD1
    clear hP1 hD1 hK1 hk1 hz1 hFc hDc hPc hKc
    generalize H1 = H at hP hS hce ⊢
    obtain ⟨hP, hD⟩ := kx_re (w2 := [(ho, .inl (cyL, 1, .inr (.inl ol))), kx_4 m_ q_row q_t t_ h0 k0 w_ z_ slots old, kx_0 q_row q_cell len, kx_a q_cell cyI 160 f]) hP hD rfl
    refine vx_catch hown [] ⟨0, 9, 12, 13⟩ [] htb (fun z hz => by cases hz) (by decide) (by decide) (hts (.classLink RL 13 EXN) (by decide +kernel)) (va_Nw.use rfl hth.1.1) hce hcv hcl ?_
    refine W.eq (g2 := F0 m 12 ls [.ref q9]) rfl ?_
    have w_1 : (p0.toInt < 0 ∨ len.toInt ≤ p0.toInt) := w_1
    refine W.widen (k := 1) (n := 6) (Nat.le_of_ble_eq_true rfl) (Nat.le_of_ble_eq_true rfl) ?_
    refine lv_astore_n (lv' := [(3, .ref q9), (0, .ref m_), (1, .int p0), (2, .ref ho)]) hx hb dL_at_12 rfl hl (by decide) rfl (fun ls hl => ?_)
    refine lv_iconst (v := 1) hx hb dL_at_13 (by decide) ?_
    obtain ⟨hP9, hD9⟩ := kx_sub (w2 := [kx_4 m_ q_row q_t t_ h0 k0 w_ z_ slots old, kx_0 q_row q_cell len, kx_a q_cell cyI 160 f, (ho, .inl (cyL, 1, .inr (.inl ol)))]) hP hD [1, 2, 3, 0] (by decide) rfl
    have hK9 := hK
    exact W.iret (v := 1) hx hb hr (hlocks := hlocks) (fun t ht hW => ⟨⟨1, (ol, (0 : Int32)), rfl, (Or.inr ⟨rfl, w_1⟩), by rw [ht]; exact hP9, va_K.moved hW.alike hK9, hD9⟩, hS.F ht⟩) hS.2.2 dL_at_14
  · obtain ⟨hP1, hK1, hD1⟩ := hB
    rw [ht] at hP1
    have hK1 := va_K.moved hvm.symm hK1
    obtain ⟨hP, hD⟩ := va_join (wr := [(ho, .inl (cyL, 1, .inr (.inl ol)))]) (w1 := [kx_4 m_ q_row q_t t_ h0 k0 w_ z_ slots old, kx_0 q_row q_cell len, kx_a q_cell cyI 160 f]) hP hD [0, 1, 2] [3] rfl rfl (by decide) (by decide) hk1 hFc hP1 hD1
    clear hP1 hD1 hK1 hk1 hz1 hFc hDc hPc hKc
    generalize H1 = H at hP hS ⊢
    obtain ⟨hP, hD⟩ := kx_re (w2 := [(ho, .inl (cyL, 1, .inr (.inl ol))), kx_4 m_ q_row q_t t_ h0 k0 w_ z_ slots old, kx_0 q_row q_cell len, kx_a q_cell cyI 160 f]) hP hD rfl
    have w_1 : 0 ≤ p0.toInt ∧ p0.toInt < len.toInt ∧ r_1 = f p0.toNatClampNeg := w_1
    refine W.widen (k := 1) (n := 6) (Nat.le_of_ble_eq_true rfl) (Nat.le_of_ble_eq_true rfl) ?_
    refine lv_i2l hx hb dL_at_7 rfl ?_
    refine va_last hx hb hK hP hD hS 0 1 rfl rfl (ki_inl (by decide)) dL_at_8 (fun H locs hP hD hS => ?_)
    obtain ⟨hP, hD⟩ := kx_re (w2 := [(ho, .inl (cyL, 1, .inr (.inl (vp_updL ol (0 : Int32).toNatClampNeg r_1.toInt64)))), kx_4 m_ q_row q_t t_ h0 k0 w_ z_ slots old, kx_0 q_row q_cell len, kx_a q_cell cyI 160 f]) hP hD rfl
    refine lv_goto (tgt := 15) hx hb dL_at_9 (by decide) ?_
    refine lv_iconst (v := 0) hx hb dL_at_15 (by decide) ?_
    obtain ⟨hP9, hD9⟩ := kx_sub (w2 := [kx_4 m_ q_row q_t t_ h0 k0 w_ z_ slots old, kx_0 q_row q_cell len, kx_a q_cell cyI 160 f, (ho, .inl (cyL, 1, .inr (.inl (vp_updL ol (0 : Int32).toNatClampNeg r_1.toInt64))))]) hP hD [1, 2, 3, 0] (by decide) rfl
    have hK9 := hK
    exact W.iret (v := 0) hx hb hr (hlocks := hlocks) (fun t ht hW => ⟨⟨0, ((vp_updL ol (0 : Int32).toNatClampNeg r_1.toInt64), r_1), rfl, (Or.inl ⟨rfl, w_1, rfl⟩), by rw [ht]; exact hP9, va_K.moved hW.alike hK9, hD9⟩, hS.F ht⟩) hS.2.2 dL_at_16

set_option maxHeartbeats 4000000 in
set_option maxRecDepth 100000 in
theorem c_L_vote (l : Launch) (hl0 : l.stackTraces = false) (dC : Nat → ClassId) (dI : Nat → Nat → Nat) (m_ : Nat) (q_row : Nat) (q_t : Nat) (t_ : Nat) (h0 : Nat) (k0 : Nat) (w_ : Nat) (z_ : Nat) (slots : Int32) (old : Int32) (q_joined : Nat) (q_from : Nat) (q_to : Nat) (q_size : Nat) (q_lossOf : Nat) (q_lessBy : Nat) (q_value : Nat) (q_number : Nat) (nodes : Int32) (here : Int32) (q_cell : Nat) (cyI : ClassId) (len : Int32) (f : Nat → Int32) (ff : Nat → Int32) (ft : Nat → Int32) (fs : Nat → Int32) (fo : Nat → Int32) (uv : Nat → Int32) (un : Nat → Int32) (fe : Nat → Int32) (j_v : Nat) (j_n : Nat) (js : Int32) (jl : Int32) (je : Int32) (jv : Nat → Int32) (jn : Nat → Int32) (a_v : Nat) (a_n : Nat) (vs : Int32) (lo : Int32) (le : Int32) (fv : Nat → Int32) (fn : Nat → Int32) (p0 : Int32) (p1 : Int32) (p2 : Int32) (p3 : Int32) (cyL : ClassId) (ho : Nat) (ol : Nat → Int64) (sz : Nat) (a0 : 0 ≤ len.toInt) (a1 : len.toInt ≤ 160) (s0 : sixes fs) (l0 : laidP old ff ft nodes len) : Met l yL_vote wsL_vote ({ frames := 9, cells := 1, slots := 6, locals := 405 }) (va_Pc [.ref m_, .int p0, .int p1, .int p2, .int p3, .ref ho] (fun U => U.heap.size = sz ∧ va_P (dC, dI) vwCl [kx_4 m_ q_row q_t t_ h0 k0 w_ z_ slots old, kx_2 q_t q_row q_joined q_from q_to q_size q_lossOf q_lessBy q_value q_number nodes here, kx_0 q_row q_cell len, kx_a q_cell cyI 160 f, kx_a q_from cyI 319 ff, kx_a q_to cyI 319 ft, kx_a q_size cyI 319 fs, kx_a q_lossOf cyI 319 fo, kx_a q_lessBy cyI 319 fe, kx_a q_value cyI 1914 uv, kx_a q_number cyI 1914 un, kx_3 q_joined j_v j_n js jl je, kx_a j_v cyI 12 jv, kx_a j_n cyI 12 jn, kx_3 h0 a_v a_n vs lo le, kx_a a_v cyI 12 fv, kx_a a_n cyI 12 fn, (ho, .inl (cyL, 1, .inr (.inl ol)))] U.heap ∧ va_K (dC, dI) vwCl [(cyI, .int), (cyL, .long)] U ∧ va_D (fun _ => True) [kx_4 m_ q_row q_t t_ h0 k0 w_ z_ slots old, kx_2 q_t q_row q_joined q_from q_to q_size q_lossOf q_lessBy q_value q_number nodes here, kx_0 q_row q_cell len, kx_a q_cell cyI 160 f, kx_a q_from cyI 319 ff, kx_a q_to cyI 319 ft, kx_a q_size cyI 319 fs, kx_a q_lossOf cyI 319 fo, kx_a q_lessBy cyI 319 fe, kx_a q_value cyI 1914 uv, kx_a q_number cyI 1914 un, kx_3 q_joined j_v j_n js jl je, kx_a j_v cyI 12 jv, kx_a j_n cyI 12 jn, kx_3 h0 a_v a_n vs lo le, kx_a a_v cyI 12 fv, kx_a a_n cyI 12 fn, (ho, .inl (cyL, 1, .inr (.inl ol)))] ∧ ki_ThA (va_A [kx_4 m_ q_row q_t t_ h0 k0 w_ z_ slots old, kx_2 q_t q_row q_joined q_from q_to q_size q_lossOf q_lessBy q_value q_number nodes here, kx_0 q_row q_cell len, kx_a q_cell cyI 160 f, kx_a q_from cyI 319 ff, kx_a q_to cyI 319 ft, kx_a q_size cyI 319 fs, kx_a q_lossOf cyI 319 fo, kx_a q_lessBy cyI 319 fe, kx_a q_value cyI 1914 uv, kx_a q_number cyI 1914 un, kx_3 q_joined j_v j_n js jl je, kx_a j_v cyI 12 jv, kx_a j_n cyI 12 jn, kx_3 h0 a_v a_n vs lo le, kx_a a_v cyI 12 fv, kx_a a_n cyI 12 fn, (ho, .inl (cyL, 1, .inr (.inl ol)))] sz) U)) (va_Qi (fun (r : Int32) (u : Int32 × Int32 × Int32 × (Nat → Int32) × (Nat → Int32) × (Nat → Int32) × (Nat → Int32) × (Nat → Int32) × (Nat → Int32) × (Nat → Int32) × Int32 × Int32 × Int32 × (Nat → Int32) × (Nat → Int32) × Int32 × Int32 × Int32 × (Nat → Int32) × (Nat → Int32) × (Nat → Int64) × Int32) => ((r = 0 ∧ ((0 : Int) ≤ 1) ∧ u.2.2.2.2.2.2.2.2.2.2.2.2.2.2.2.2.2.2.2.2.1 = vp_updL ol (0 : Int32).toNatClampNeg u.2.2.2.2.2.2.2.2.2.2.2.2.2.2.2.2.2.2.2.2.2.toInt64) ∨ (r = 1 ∧ ((0 : Int) ≤ 1))) ∧ laidP u.1 u.2.2.2.1 u.2.2.2.2.1 u.2.1 len ∧ sixes u.2.2.2.2.2.1) (fun (u : Int32 × Int32 × Int32 × (Nat → Int32) × (Nat → Int32) × (Nat → Int32) × (Nat → Int32) × (Nat → Int32) × (Nat → Int32) × (Nat → Int32) × Int32 × Int32 × Int32 × (Nat → Int32) × (Nat → Int32) × Int32 × Int32 × Int32 × (Nat → Int32) × (Nat → Int32) × (Nat → Int64) × Int32) (t : State) => va_P (dC, dI) vwCl [kx_4 m_ q_row q_t t_ h0 k0 w_ z_ slots u.1, kx_2 q_t q_row q_joined q_from q_to q_size q_lossOf q_lessBy q_value q_number u.2.1 u.2.2.1, kx_0 q_row q_cell len, kx_a q_cell cyI 160 f, kx_a q_from cyI 319 u.2.2.2.1, kx_a q_to cyI 319 u.2.2.2.2.1, kx_a q_size cyI 319 u.2.2.2.2.2.1, kx_a q_lossOf cyI 319 u.2.2.2.2.2.2.1, kx_a q_lessBy cyI 319 u.2.2.2.2.2.2.2.1, kx_a q_value cyI 1914 u.2.2.2.2.2.2.2.2.1, kx_a q_number cyI 1914 u.2.2.2.2.2.2.2.2.2.1, kx_3 q_joined j_v j_n u.2.2.2.2.2.2.2.2.2.2.1 u.2.2.2.2.2.2.2.2.2.2.2.1 u.2.2.2.2.2.2.2.2.2.2.2.2.1, kx_a j_v cyI 12 u.2.2.2.2.2.2.2.2.2.2.2.2.2.1, kx_a j_n cyI 12 u.2.2.2.2.2.2.2.2.2.2.2.2.2.2.1, kx_3 h0 a_v a_n u.2.2.2.2.2.2.2.2.2.2.2.2.2.2.2.1 u.2.2.2.2.2.2.2.2.2.2.2.2.2.2.2.2.1 u.2.2.2.2.2.2.2.2.2.2.2.2.2.2.2.2.2.1, kx_a a_v cyI 12 u.2.2.2.2.2.2.2.2.2.2.2.2.2.2.2.2.2.2.1, kx_a a_n cyI 12 u.2.2.2.2.2.2.2.2.2.2.2.2.2.2.2.2.2.2.2.1, (ho, .inl (cyL, 1, .inr (.inl u.2.2.2.2.2.2.2.2.2.2.2.2.2.2.2.2.2.2.2.2.1)))] t.heap ∧ va_K (dC, dI) vwCl [(cyI, .int), (cyL, .long)] t ∧ va_D (va_A [kx_4 m_ q_row q_t t_ h0 k0 w_ z_ slots old, kx_2 q_t q_row q_joined q_from q_to q_size q_lossOf q_lessBy q_value q_number nodes here, kx_0 q_row q_cell len, kx_a q_cell cyI 160 f, kx_a q_from cyI 319 ff, kx_a q_to cyI 319 ft, kx_a q_size cyI 319 fs, kx_a q_lossOf cyI 319 fo, kx_a q_lessBy cyI 319 fe, kx_a q_value cyI 1914 uv, kx_a q_number cyI 1914 un, kx_3 q_joined j_v j_n js jl je, kx_a j_v cyI 12 jv, kx_a j_n cyI 12 jn, kx_3 h0 a_v a_n vs lo le, kx_a a_v cyI 12 fv, kx_a a_n cyI 12 fn, (ho, .inl (cyL, 1, .inr (.inl ol)))] sz) [kx_4 m_ q_row q_t t_ h0 k0 w_ z_ slots u.1, kx_2 q_t q_row q_joined q_from q_to q_size q_lossOf q_lessBy q_value q_number u.2.1 u.2.2.1, kx_0 q_row q_cell len, kx_a q_cell cyI 160 f, kx_a q_from cyI 319 u.2.2.2.1, kx_a q_to cyI 319 u.2.2.2.2.1, kx_a q_size cyI 319 u.2.2.2.2.2.1, kx_a q_lossOf cyI 319 u.2.2.2.2.2.2.1, kx_a q_lessBy cyI 319 u.2.2.2.2.2.2.2.1, kx_a q_value cyI 1914 u.2.2.2.2.2.2.2.2.1, kx_a q_number cyI 1914 u.2.2.2.2.2.2.2.2.2.1, kx_3 q_joined j_v j_n u.2.2.2.2.2.2.2.2.2.2.1 u.2.2.2.2.2.2.2.2.2.2.2.1 u.2.2.2.2.2.2.2.2.2.2.2.2.1, kx_a j_v cyI 12 u.2.2.2.2.2.2.2.2.2.2.2.2.2.1, kx_a j_n cyI 12 u.2.2.2.2.2.2.2.2.2.2.2.2.2.2.1, kx_3 h0 a_v a_n u.2.2.2.2.2.2.2.2.2.2.2.2.2.2.2.1 u.2.2.2.2.2.2.2.2.2.2.2.2.2.2.2.2.1 u.2.2.2.2.2.2.2.2.2.2.2.2.2.2.2.2.2.1, kx_a a_v cyI 12 u.2.2.2.2.2.2.2.2.2.2.2.2.2.2.2.2.2.2.1, kx_a a_n cyI 12 u.2.2.2.2.2.2.2.2.2.2.2.2.2.2.2.2.2.2.2.1, (ho, .inl (cyL, 1, .inr (.inl u.2.2.2.2.2.2.2.2.2.2.2.2.2.2.2.2.2.2.2.2.1)))]) (va_A [kx_4 m_ q_row q_t t_ h0 k0 w_ z_ slots old, kx_2 q_t q_row q_joined q_from q_to q_size q_lossOf q_lessBy q_value q_number nodes here, kx_0 q_row q_cell len, kx_a q_cell cyI 160 f, kx_a q_from cyI 319 ff, kx_a q_to cyI 319 ft, kx_a q_size cyI 319 fs, kx_a q_lossOf cyI 319 fo, kx_a q_lessBy cyI 319 fe, kx_a q_value cyI 1914 uv, kx_a q_number cyI 1914 un, kx_3 q_joined j_v j_n js jl je, kx_a j_v cyI 12 jv, kx_a j_n cyI 12 jn, kx_3 h0 a_v a_n vs lo le, kx_a a_v cyI 12 fv, kx_a a_n cyI 12 fn, (ho, .inl (cyL, 1, .inr (.inl ol)))] sz)) 1 6 (va_A [kx_4 m_ q_row q_t t_ h0 k0 w_ z_ slots old, kx_2 q_t q_row q_joined q_from q_to q_size q_lossOf q_lessBy q_value q_number nodes here, kx_0 q_row q_cell len, kx_a q_cell cyI 160 f, kx_a q_from cyI 319 ff, kx_a q_to cyI 319 ft, kx_a q_size cyI 319 fs, kx_a q_lossOf cyI 319 fo, kx_a q_lessBy cyI 319 fe, kx_a q_value cyI 1914 uv, kx_a q_number cyI 1914 un, kx_3 q_joined j_v j_n js jl je, kx_a j_v cyI 12 jv, kx_a j_n cyI 12 jn, kx_3 h0 a_v a_n vs lo le, kx_a a_v cyI 12 fv, kx_a a_n cyI 12 fn, (ho, .inl (cyL, 1, .inr (.inl ol)))] sz) := by
  refine va_MetW (cc := cL_vote) (maxL := 7) (ret := (some .int)) (hh := [(0, 14, 17, 13)]) (by decide) rfl ?_
  intro p e s m args below meth c s₁ B hml hv
  obtain ⟨rfl, hsz, hP, hK, hD0, hth⟩ := hv
  have hx := B.exec
  have hb := B.bytes
  have hr := B.returns
  have hts := atoms_spec (ws := wsL_vote) B.pre
  have hown : s.vm.findClass RL = some m.cls := findClass_of_methodNamed B.named
  have hlocks := B.notSynchronized
  have htb : c.exceptionTable.toList = tableOf [(0, 14, 17, 13)] := vx_table (x := yL_vote) B (hts (.codeWith yL_vote cL_vote 7 (some .int) [(0, 14, 17, 13)]) List.mem_cons_self)
  subst hsz
  have hD := hD0.self (sz := s.heap.size)
  generalize hAe : va_A [kx_4 m_ q_row q_t t_ h0 k0 w_ z_ slots old, kx_2 q_t q_row q_joined q_from q_to q_size q_lossOf q_lessBy q_value q_number nodes here, kx_0 q_row q_cell len, kx_a q_cell cyI 160 f, kx_a q_from cyI 319 ff, kx_a q_to cyI 319 ft, kx_a q_size cyI 319 fs, kx_a q_lossOf cyI 319 fo, kx_a q_lessBy cyI 319 fe, kx_a q_value cyI 1914 uv, kx_a q_number cyI 1914 un, kx_3 q_joined j_v j_n js jl je, kx_a j_v cyI 12 jv, kx_a j_n cyI 12 jn, kx_3 h0 a_v a_n vs lo le, kx_a a_v cyI 12 fv, kx_a a_n cyI 12 fn, (ho, .inl (cyL, 1, .inr (.inl ol)))] s.heap.size = A at hD hth ⊢
  have hA : ∀ q : Nat, s.heap.size ≤ q → A q := fun q h => by rw [← hAe]; exact Or.inr h
  have hS : va_S A s.heap s.heap [] := va_S.rf
  have hP : va_P (dC, dI) vwCl [kx_4 m_ q_row q_t t_ h0 k0 w_ z_ slots old, kx_2 q_t q_row q_joined q_from q_to q_size q_lossOf q_lessBy q_value q_number nodes here, kx_0 q_row q_cell len, kx_a q_cell cyI 160 f, kx_a q_from cyI 319 ff, kx_a q_to cyI 319 ft, kx_a q_size cyI 319 fs, kx_a q_lossOf cyI 319 fo, kx_a q_lessBy cyI 319 fe, kx_a q_value cyI 1914 uv, kx_a q_number cyI 1914 un, kx_3 q_joined j_v j_n js jl je, kx_a j_v cyI 12 jv, kx_a j_n cyI 12 jn, kx_3 h0 a_v a_n vs lo le, kx_a a_v cyI 12 fv, kx_a a_n cyI 12 fn, (ho, .inl (cyL, 1, .inr (.inl ol)))] s.heap := hP
  have hl := lv_entry ([.ref m_, .int p0, .int p1, .int p2, .int p3, .ref ho]) (n := 7) (Nat.le_of_ble_eq_true rfl)
  rw [lg_entry_eq]
  generalize (lg_sl ([.ref m_, .int p0, .int p1, .int p2, .int p3, .ref ho]) ++ List.replicate (7 - (lg_sl ([.ref m_, .int p0, .int p1, .int p2, .int p3, .ref ho])).length) Slot.unset).toArray = ls at hl ⊢
  have hl : lv_has ls 7 [(0, .ref m_), (1, .int p0), (2, .int p1), (3, .int p2), (4, .int p3), (5, .ref ho)] := hl
  refine lv_aload hx hb dL_vote_0 (lv_at hl 5 rfl) ?_
  refine lv_iconst (v := 0) hx hb dL_vote_2 (by decide) ?_
  refine lv_aload_n hx hb dL_vote_3 rfl (lv_at hl 0 rfl) ?_
  refine lv_iload_n hx hb dL_vote_4 rfl (lv_at hl 1 rfl) ?_
  refine lv_iload_n hx hb dL_vote_5 rfl (lv_at hl 2 rfl) ?_
  refine lv_iload_n hx hb dL_vote_6 rfl (lv_at hl 3 rfl) ?_
  refine lv_iload hx hb dL_vote_7 (lv_at hl 4 rfl) ?_
  have hPc := hP.sub (ws' := [kx_4 m_ q_row q_t t_ h0 k0 w_ z_ slots old, kx_2 q_t q_row q_joined q_from q_to q_size q_lossOf q_lessBy q_value q_number nodes here, kx_0 q_row q_cell len, kx_a q_cell cyI 160 f, kx_a q_from cyI 319 ff, kx_a q_to cyI 319 ft, kx_a q_size cyI 319 fs, kx_a q_lossOf cyI 319 fo, kx_a q_lessBy cyI 319 fe, kx_a q_value cyI 1914 uv, kx_a q_number cyI 1914 un, kx_3 q_joined j_v j_n js jl je, kx_a j_v cyI 12 jv, kx_a j_n cyI 12 jn, kx_3 h0 a_v a_n vs lo le, kx_a a_v cyI 12 fv, kx_a a_n cyI 12 fn]) [0, 1, 2, 3, 4, 5, 6, 7, 8, 9, 10, 11, 12, 13, 14, 15, 16] rfl
  have hKc := hK.sub (tys' := [(cyI, .int)]) [0] rfl
  have hDc := hD.sub (ws' := [kx_4 m_ q_row q_t t_ h0 k0 w_ z_ slots old, kx_2 q_t q_row q_joined q_from q_to q_size q_lossOf q_lessBy q_value q_number nodes here, kx_0 q_row q_cell len, kx_a q_cell cyI 160 f, kx_a q_from cyI 319 ff, kx_a q_to cyI 319 ft, kx_a q_size cyI 319 fs, kx_a q_lossOf cyI 319 fo, kx_a q_lessBy cyI 319 fe, kx_a q_value cyI 1914 uv, kx_a q_number cyI 1914 un, kx_3 q_joined j_v j_n js jl je, kx_a j_v cyI 12 jv, kx_a j_n cyI 12 jn, kx_3 h0 a_v a_n vs lo le, kx_a a_v cyI 12 fv, kx_a a_n cyI 12 fn]) [0, 1, 2, 3, 4, 5, 6, 7, 8, 9, 10, 11, 12, 13, 14, 15, 16] (by decide) rfl
  have hFc := va_free (wc := [kx_4 m_ q_row q_t t_ h0 k0 w_ z_ slots old, kx_2 q_t q_row q_joined q_from q_to q_size q_lossOf q_lessBy q_value q_number nodes here, kx_0 q_row q_cell len, kx_a q_cell cyI 160 f, kx_a q_from cyI 319 ff, kx_a q_to cyI 319 ft, kx_a q_size cyI 319 fs, kx_a q_lossOf cyI 319 fo, kx_a q_lessBy cyI 319 fe, kx_a q_value cyI 1914 uv, kx_a q_number cyI 1914 un, kx_3 q_joined j_v j_n js jl je, kx_a j_v cyI 12 jv, kx_a j_n cyI 12 jn, kx_3 h0 a_v a_n vs lo le, kx_a a_v cyI 12 fv, kx_a a_n cyI 12 fn]) hD hS hA [0, 1, 2, 3, 4, 5, 6, 7, 8, 9, 10, 11, 12, 13, 14, 15, 16] rfl
  refine vx_calli (vx_runV (As := [.int p0, .int p1, .int p2, .int p3]) (rest := [.int 0, .ref ho]) ⟨hx, hb, hml, hown, hts⟩ (c_X4_vote l hl0 dC dI m_ q_row q_t t_ h0 k0 w_ z_ slots old q_joined q_from q_to q_size q_lossOf q_lessBy q_value q_number nodes here q_cell cyI len f ff ft fs fo uv un fe j_v j_n js jl je jv jn a_v a_n vs lo le fv fn p0 p1 p2 p3 s.heap.size a0 a1 s0 l0) (cwV 4 hts gL_vote_X4_vote rfl rfl rfl (by decide +kernel) ⟨Nat.le_of_ble_eq_true rfl, Nat.le_of_ble_eq_true rfl⟩) ⟨fun a U g mk q => by obtain ⟨q0, q1, qP, qK, qD, qT⟩ := q; exact ⟨q0, q1, qP, va_K.moved (u := U) (U := U.calling g mk a) (Vm.Alike.refl U.vm) qK, qD, qT.call g mk a⟩, kx_rc4 hKc hPc (q0 := 0) rfl, fun U hU hW => ⟨rfl, by rw [hU], by rw [hU]; exact hPc, va_K.moved hW.alike hKc, hDc.weaken (fun _ _ _ _ => trivial), hth.from hS hU hW hFc⟩⟩ rfl rfl hl.1 rfl (lv_room (Nat.le_of_ble_eq_true rfl)) dL_vote_9 ⟨Nat.le_of_ble_eq_true rfl, Nat.le_of_ble_eq_true rfl⟩) hS (fun q _ h => hFc q h) hFc (fun q _ h => hFc q h) (fun E ce q9 u t H1 locs ht hvm w_1 hB hz1 hk1 hS hce hcv hcl => ?_) (fun r_1 u t H1 locs ht hvm w_1 hB hz1 hk1 hS => ?_)
  · obtain ⟨o_2, o_3, o_4, o_5, o_6, o_7, o_8, o_9, o_10, o_11, o_12, o_13, o_14, o_15, o_16, o_17, o_18, o_19, o_20, o_21⟩ := u
    dsimp only at w_1 hB
    obtain ⟨hE, hP1, hK1, hD1⟩ := hB
    subst hE
    rw [ht] at hP1
    have hK1 := va_K.moved hvm.symm hK1
    obtain ⟨hP, hD⟩ := va_join (wr := [(ho, .inl (cyL, 1, .inr (.inl ol)))]) (w1 := [kx_4 m_ q_row q_t t_ h0 k0 w_ z_ slots o_2, kx_2 q_t q_row q_joined q_from q_to q_size q_lossOf q_lessBy q_value q_number o_3 o_4, kx_0 q_row q_cell len, kx_a q_cell cyI 160 f, kx_a q_from cyI 319 o_5, kx_a q_to cyI 319 o_6, kx_a q_size cyI 319 o_7, kx_a q_lossOf cyI 319 o_8, kx_a q_lessBy cyI 319 o_9, kx_a q_value cyI 1914 o_10, kx_a q_number cyI 1914 o_11, kx_3 q_joined j_v j_n o_12 o_13 o_14, kx_a j_v cyI 12 o_15, kx_a j_n cyI 12 o_16, kx_3 h0 a_v a_n o_17 o_18 o_19, kx_a a_v cyI 12 o_20, kx_a a_n cyI 12 o_21]) hP hD [0, 1, 2, 3, 4, 5, 6, 7, 8, 9, 10, 11, 12, 13, 14, 15, 16] [17] rfl rfl (by decide) (by decide) hk1 hFc hP1 hD1
    clear hP1 hD1 hK1 hk1 hz1 hFc hDc hPc hKc
    generalize H1 = H at hP hS hce ⊢
    obtain ⟨hP, hD⟩ := kx_re (w2 := [(ho, .inl (cyL, 1, .inr (.inl ol))), kx_4 m_ q_row q_t t_ h0 k0 w_ z_ slots o_2, kx_2 q_t q_row q_joined q_from q_to q_size q_lossOf q_lessBy q_value q_number o_3 o_4, kx_0 q_row q_cell len, kx_a q_cell cyI 160 f, kx_a q_from cyI 319 o_5, kx_a q_to cyI 319 o_6, kx_a q_size cyI 319 o_7, kx_a q_lossOf cyI 319 o_8, kx_a q_lessBy cyI 319 o_9, kx_a q_value cyI 1914 o_10, kx_a q_number cyI 1914 o_11, kx_3 q_joined j_v j_n o_12 o_13 o_14, kx_a j_v cyI 12 o_15, kx_a j_n cyI 12 o_16, kx_3 h0 a_v a_n o_17 o_18 o_19, kx_a a_v cyI 12 o_20, kx_a a_n cyI 12 o_21]) hP hD rfl
    refine vx_catch hown [] ⟨0, 14, 17, 13⟩ [] htb (fun z hz => by cases hz) (by decide) (by decide) (hts (.classLink RL 13 EXN) (by decide +kernel)) (va_Nw.use rfl hth.1.1) hce hcv hcl ?_
    refine W.eq (g2 := F0 m 17 ls [.ref q9]) rfl ?_
    have w_1 : (0 : Int) ≤ 1 ∧ laidP o_2 o_5 o_6 o_3 len ∧ sixes o_7 := w_1
    refine W.widen (k := 1) (n := 6) (Nat.le_of_ble_eq_true rfl) (Nat.le_of_ble_eq_true rfl) ?_
    refine lv_astore (lv' := [(6, .ref q9), (0, .ref m_), (1, .int p0), (2, .int p1), (3, .int p2), (4, .int p3), (5, .ref ho)]) hx hb dL_vote_17 hl (by decide) rfl (fun ls hl => ?_)
    refine lv_iconst (v := 1) hx hb dL_vote_19 (by decide) ?_
    obtain ⟨hP9, hD9⟩ := kx_sub (w2 := [kx_4 m_ q_row q_t t_ h0 k0 w_ z_ slots o_2, kx_2 q_t q_row q_joined q_from q_to q_size q_lossOf q_lessBy q_value q_number o_3 o_4, kx_0 q_row q_cell len, kx_a q_cell cyI 160 f, kx_a q_from cyI 319 o_5, kx_a q_to cyI 319 o_6, kx_a q_size cyI 319 o_7, kx_a q_lossOf cyI 319 o_8, kx_a q_lessBy cyI 319 o_9, kx_a q_value cyI 1914 o_10, kx_a q_number cyI 1914 o_11, kx_3 q_joined j_v j_n o_12 o_13 o_14, kx_a j_v cyI 12 o_15, kx_a j_n cyI 12 o_16, kx_3 h0 a_v a_n o_17 o_18 o_19, kx_a a_v cyI 12 o_20, kx_a a_n cyI 12 o_21, (ho, .inl (cyL, 1, .inr (.inl ol)))]) hP hD [1, 2, 3, 4, 5, 6, 7, 8, 9, 10, 11, 12, 13, 14, 15, 16, 17, 0] (by decide) rfl
    have hK9 := hK
    exact W.iret (v := 1) hx hb hr (hlocks := hlocks) (fun t ht hW => ⟨⟨1, (o_2, o_3, o_4, o_5, o_6, o_7, o_8, o_9, o_10, o_11, o_12, o_13, o_14, o_15, o_16, o_17, o_18, o_19, o_20, o_21, ol, (0 : Int32)), rfl, ⟨Or.inr ⟨rfl, w_1.1⟩, w_1.2⟩, by rw [ht]; exact hP9, va_K.moved hW.alike hK9, hD9⟩, hS.F ht⟩) hS.2.2 dL_vote_20
  · obtain ⟨o_22, o_23, o_24, o_25, o_26, o_27, o_28, o_29, o_30, o_31, o_32, o_33, o_34, o_35, o_36, o_37, o_38, o_39, o_40, o_41⟩ := u
    dsimp only at w_1 hB
    obtain ⟨hP1, hK1, hD1⟩ := hB
    rw [ht] at hP1
    have hK1 := va_K.moved hvm.symm hK1
    obtain ⟨hP, hD⟩ := va_join (wr := [(ho, .inl (cyL, 1, .inr (.inl ol)))]) (w1 := [kx_4 m_ q_row q_t t_ h0 k0 w_ z_ slots o_22, kx_2 q_t q_row q_joined q_from q_to q_size q_lossOf q_lessBy q_value q_number o_23 o_24, kx_0 q_row q_cell len, kx_a q_cell cyI 160 f, kx_a q_from cyI 319 o_25, kx_a q_to cyI 319 o_26, kx_a q_size cyI 319 o_27, kx_a q_lossOf cyI 319 o_28, kx_a q_lessBy cyI 319 o_29, kx_a q_value cyI 1914 o_30, kx_a q_number cyI 1914 o_31, kx_3 q_joined j_v j_n o_32 o_33 o_34, kx_a j_v cyI 12 o_35, kx_a j_n cyI 12 o_36, kx_3 h0 a_v a_n o_37 o_38 o_39, kx_a a_v cyI 12 o_40, kx_a a_n cyI 12 o_41]) hP hD [0, 1, 2, 3, 4, 5, 6, 7, 8, 9, 10, 11, 12, 13, 14, 15, 16] [17] rfl rfl (by decide) (by decide) hk1 hFc hP1 hD1
    clear hP1 hD1 hK1 hk1 hz1 hFc hDc hPc hKc
    generalize H1 = H at hP hS ⊢
    obtain ⟨hP, hD⟩ := kx_re (w2 := [(ho, .inl (cyL, 1, .inr (.inl ol))), kx_4 m_ q_row q_t t_ h0 k0 w_ z_ slots o_22, kx_2 q_t q_row q_joined q_from q_to q_size q_lossOf q_lessBy q_value q_number o_23 o_24, kx_0 q_row q_cell len, kx_a q_cell cyI 160 f, kx_a q_from cyI 319 o_25, kx_a q_to cyI 319 o_26, kx_a q_size cyI 319 o_27, kx_a q_lossOf cyI 319 o_28, kx_a q_lessBy cyI 319 o_29, kx_a q_value cyI 1914 o_30, kx_a q_number cyI 1914 o_31, kx_3 q_joined j_v j_n o_32 o_33 o_34, kx_a j_v cyI 12 o_35, kx_a j_n cyI 12 o_36, kx_3 h0 a_v a_n o_37 o_38 o_39, kx_a a_v cyI 12 o_40, kx_a a_n cyI 12 o_41]) hP hD rfl
    have w_1 : (0 : Int) ≤ 1 ∧ laidP o_22 o_25 o_26 o_23 len ∧ sixes o_27 := w_1
    refine W.widen (k := 1) (n := 6) (Nat.le_of_ble_eq_true rfl) (Nat.le_of_ble_eq_true rfl) ?_
    refine lv_i2l hx hb dL_vote_12 rfl ?_
    refine va_last hx hb hK hP hD hS 0 1 rfl rfl (ki_inl (by decide)) dL_vote_13 (fun H locs hP hD hS => ?_)
    obtain ⟨hP, hD⟩ := kx_re (w2 := [(ho, .inl (cyL, 1, .inr (.inl (vp_updL ol (0 : Int32).toNatClampNeg r_1.toInt64)))), kx_4 m_ q_row q_t t_ h0 k0 w_ z_ slots o_22, kx_2 q_t q_row q_joined q_from q_to q_size q_lossOf q_lessBy q_value q_number o_23 o_24, kx_0 q_row q_cell len, kx_a q_cell cyI 160 f, kx_a q_from cyI 319 o_25, kx_a q_to cyI 319 o_26, kx_a q_size cyI 319 o_27, kx_a q_lossOf cyI 319 o_28, kx_a q_lessBy cyI 319 o_29, kx_a q_value cyI 1914 o_30, kx_a q_number cyI 1914 o_31, kx_3 q_joined j_v j_n o_32 o_33 o_34, kx_a j_v cyI 12 o_35, kx_a j_n cyI 12 o_36, kx_3 h0 a_v a_n o_37 o_38 o_39, kx_a a_v cyI 12 o_40, kx_a a_n cyI 12 o_41]) hP hD rfl
    refine lv_goto (tgt := 21) hx hb dL_vote_14 (by decide) ?_
    refine lv_iconst (v := 0) hx hb dL_vote_21 (by decide) ?_
    obtain ⟨hP9, hD9⟩ := kx_sub (w2 := [kx_4 m_ q_row q_t t_ h0 k0 w_ z_ slots o_22, kx_2 q_t q_row q_joined q_from q_to q_size q_lossOf q_lessBy q_value q_number o_23 o_24, kx_0 q_row q_cell len, kx_a q_cell cyI 160 f, kx_a q_from cyI 319 o_25, kx_a q_to cyI 319 o_26, kx_a q_size cyI 319 o_27, kx_a q_lossOf cyI 319 o_28, kx_a q_lessBy cyI 319 o_29, kx_a q_value cyI 1914 o_30, kx_a q_number cyI 1914 o_31, kx_3 q_joined j_v j_n o_32 o_33 o_34, kx_a j_v cyI 12 o_35, kx_a j_n cyI 12 o_36, kx_3 h0 a_v a_n o_37 o_38 o_39, kx_a a_v cyI 12 o_40, kx_a a_n cyI 12 o_41, (ho, .inl (cyL, 1, .inr (.inl (vp_updL ol (0 : Int32).toNatClampNeg r_1.toInt64))))]) hP hD [1, 2, 3, 4, 5, 6, 7, 8, 9, 10, 11, 12, 13, 14, 15, 16, 17, 0] (by decide) rfl
    have hK9 := hK
    exact W.iret (v := 0) hx hb hr (hlocks := hlocks) (fun t ht hW => ⟨⟨0, (o_22, o_23, o_24, o_25, o_26, o_27, o_28, o_29, o_30, o_31, o_32, o_33, o_34, o_35, o_36, o_37, o_38, o_39, o_40, o_41, (vp_updL ol (0 : Int32).toNatClampNeg r_1.toInt64), r_1), rfl, ⟨Or.inl ⟨rfl, w_1.1, rfl⟩, w_1.2⟩, by rw [ht]; exact hP9, va_K.moved hW.alike hK9, hD9⟩, hS.F ht⟩) hS.2.2 dL_vote_22

set_option maxHeartbeats 4000000 in
set_option maxRecDepth 100000 in
theorem c_L_candidate (l : Launch) (hl0 : l.stackTraces = false) (dC : Nat → ClassId) (dI : Nat → Nat → Nat) (m_ : Nat) (q_row : Nat) (q_t : Nat) (t_ : Nat) (h0 : Nat) (k0 : Nat) (w_ : Nat) (z_ : Nat) (slots : Int32) (old : Int32) (q_joined : Nat) (q_from : Nat) (q_to : Nat) (q_size : Nat) (q_lossOf : Nat) (q_lessBy : Nat) (q_value : Nat) (q_number : Nat) (nodes : Int32) (here : Int32) (q_cell : Nat) (cyI : ClassId) (len : Int32) (f : Nat → Int32) (ff : Nat → Int32) (ft : Nat → Int32) (fs : Nat → Int32) (fo : Nat → Int32) (uv : Nat → Int32) (un : Nat → Int32) (fe : Nat → Int32) (j_v : Nat) (j_n : Nat) (js : Int32) (jl : Int32) (je : Int32) (jv : Nat → Int32) (jn : Nat → Int32) (a_v : Nat) (a_n : Nat) (vs : Int32) (lo : Int32) (le : Int32) (fv : Nat → Int32) (fn : Nat → Int32) (p0 : Int32) (p1 : Int32) (p2 : Int32) (p3 : Int32) (cyL : ClassId) (ho : Nat) (ol : Nat → Int64) (sz : Nat) (a0 : 0 ≤ len.toInt) (a1 : len.toInt ≤ 160) (s0 : sixes fs) (l0 : laidP old ff ft nodes len) : Met l yL_candidate wsL_candidate ({ frames := 9, cells := 1, slots := 6, locals := 405 }) (va_Pc [.ref m_, .int p0, .int p1, .int p2, .int p3, .ref ho] (fun U => U.heap.size = sz ∧ va_P (dC, dI) vwCl [kx_4 m_ q_row q_t t_ h0 k0 w_ z_ slots old, kx_2 q_t q_row q_joined q_from q_to q_size q_lossOf q_lessBy q_value q_number nodes here, kx_0 q_row q_cell len, kx_a q_cell cyI 160 f, kx_a q_from cyI 319 ff, kx_a q_to cyI 319 ft, kx_a q_size cyI 319 fs, kx_a q_lossOf cyI 319 fo, kx_a q_lessBy cyI 319 fe, kx_a q_value cyI 1914 uv, kx_a q_number cyI 1914 un, kx_3 q_joined j_v j_n js jl je, kx_a j_v cyI 12 jv, kx_a j_n cyI 12 jn, kx_3 h0 a_v a_n vs lo le, kx_a a_v cyI 12 fv, kx_a a_n cyI 12 fn, (ho, .inl (cyL, 1, .inr (.inl ol)))] U.heap ∧ va_K (dC, dI) vwCl [(cyI, .int), (cyL, .long)] U ∧ va_D (fun _ => True) [kx_4 m_ q_row q_t t_ h0 k0 w_ z_ slots old, kx_2 q_t q_row q_joined q_from q_to q_size q_lossOf q_lessBy q_value q_number nodes here, kx_0 q_row q_cell len, kx_a q_cell cyI 160 f, kx_a q_from cyI 319 ff, kx_a q_to cyI 319 ft, kx_a q_size cyI 319 fs, kx_a q_lossOf cyI 319 fo, kx_a q_lessBy cyI 319 fe, kx_a q_value cyI 1914 uv, kx_a q_number cyI 1914 un, kx_3 q_joined j_v j_n js jl je, kx_a j_v cyI 12 jv, kx_a j_n cyI 12 jn, kx_3 h0 a_v a_n vs lo le, kx_a a_v cyI 12 fv, kx_a a_n cyI 12 fn, (ho, .inl (cyL, 1, .inr (.inl ol)))] ∧ ki_ThA (va_A [kx_4 m_ q_row q_t t_ h0 k0 w_ z_ slots old, kx_2 q_t q_row q_joined q_from q_to q_size q_lossOf q_lessBy q_value q_number nodes here, kx_0 q_row q_cell len, kx_a q_cell cyI 160 f, kx_a q_from cyI 319 ff, kx_a q_to cyI 319 ft, kx_a q_size cyI 319 fs, kx_a q_lossOf cyI 319 fo, kx_a q_lessBy cyI 319 fe, kx_a q_value cyI 1914 uv, kx_a q_number cyI 1914 un, kx_3 q_joined j_v j_n js jl je, kx_a j_v cyI 12 jv, kx_a j_n cyI 12 jn, kx_3 h0 a_v a_n vs lo le, kx_a a_v cyI 12 fv, kx_a a_n cyI 12 fn, (ho, .inl (cyL, 1, .inr (.inl ol)))] sz) U)) (va_Qi (fun (r : Int32) (u : Int32 × Int32 × Int32 × (Nat → Int32) × (Nat → Int32) × (Nat → Int32) × (Nat → Int32) × (Nat → Int32) × (Nat → Int32) × (Nat → Int32) × Int32 × Int32 × Int32 × (Nat → Int32) × (Nat → Int32) × Int32 × Int32 × Int32 × (Nat → Int32) × (Nat → Int32) × (Nat → Int64) × Int32) => ((r = 0 ∧ ((0 : Int) ≤ 1) ∧ u.2.2.2.2.2.2.2.2.2.2.2.2.2.2.2.2.2.2.2.2.1 = vp_updL ol (0 : Int32).toNatClampNeg u.2.2.2.2.2.2.2.2.2.2.2.2.2.2.2.2.2.2.2.2.2.toInt64) ∨ (r = 1 ∧ ((0 : Int) ≤ 1))) ∧ laidP u.1 u.2.2.2.1 u.2.2.2.2.1 u.2.1 len ∧ sixes u.2.2.2.2.2.1) (fun (u : Int32 × Int32 × Int32 × (Nat → Int32) × (Nat → Int32) × (Nat → Int32) × (Nat → Int32) × (Nat → Int32) × (Nat → Int32) × (Nat → Int32) × Int32 × Int32 × Int32 × (Nat → Int32) × (Nat → Int32) × Int32 × Int32 × Int32 × (Nat → Int32) × (Nat → Int32) × (Nat → Int64) × Int32) (t : State) => va_P (dC, dI) vwCl [kx_4 m_ q_row q_t t_ h0 k0 w_ z_ slots u.1, kx_2 q_t q_row q_joined q_from q_to q_size q_lossOf q_lessBy q_value q_number u.2.1 u.2.2.1, kx_0 q_row q_cell len, kx_a q_cell cyI 160 f, kx_a q_from cyI 319 u.2.2.2.1, kx_a q_to cyI 319 u.2.2.2.2.1, kx_a q_size cyI 319 u.2.2.2.2.2.1, kx_a q_lossOf cyI 319 u.2.2.2.2.2.2.1, kx_a q_lessBy cyI 319 u.2.2.2.2.2.2.2.1, kx_a q_value cyI 1914 u.2.2.2.2.2.2.2.2.1, kx_a q_number cyI 1914 u.2.2.2.2.2.2.2.2.2.1, kx_3 q_joined j_v j_n u.2.2.2.2.2.2.2.2.2.2.1 u.2.2.2.2.2.2.2.2.2.2.2.1 u.2.2.2.2.2.2.2.2.2.2.2.2.1, kx_a j_v cyI 12 u.2.2.2.2.2.2.2.2.2.2.2.2.2.1, kx_a j_n cyI 12 u.2.2.2.2.2.2.2.2.2.2.2.2.2.2.1, kx_3 h0 a_v a_n u.2.2.2.2.2.2.2.2.2.2.2.2.2.2.2.1 u.2.2.2.2.2.2.2.2.2.2.2.2.2.2.2.2.1 u.2.2.2.2.2.2.2.2.2.2.2.2.2.2.2.2.2.1, kx_a a_v cyI 12 u.2.2.2.2.2.2.2.2.2.2.2.2.2.2.2.2.2.2.1, kx_a a_n cyI 12 u.2.2.2.2.2.2.2.2.2.2.2.2.2.2.2.2.2.2.2.1, (ho, .inl (cyL, 1, .inr (.inl u.2.2.2.2.2.2.2.2.2.2.2.2.2.2.2.2.2.2.2.2.1)))] t.heap ∧ va_K (dC, dI) vwCl [(cyI, .int), (cyL, .long)] t ∧ va_D (va_A [kx_4 m_ q_row q_t t_ h0 k0 w_ z_ slots old, kx_2 q_t q_row q_joined q_from q_to q_size q_lossOf q_lessBy q_value q_number nodes here, kx_0 q_row q_cell len, kx_a q_cell cyI 160 f, kx_a q_from cyI 319 ff, kx_a q_to cyI 319 ft, kx_a q_size cyI 319 fs, kx_a q_lossOf cyI 319 fo, kx_a q_lessBy cyI 319 fe, kx_a q_value cyI 1914 uv, kx_a q_number cyI 1914 un, kx_3 q_joined j_v j_n js jl je, kx_a j_v cyI 12 jv, kx_a j_n cyI 12 jn, kx_3 h0 a_v a_n vs lo le, kx_a a_v cyI 12 fv, kx_a a_n cyI 12 fn, (ho, .inl (cyL, 1, .inr (.inl ol)))] sz) [kx_4 m_ q_row q_t t_ h0 k0 w_ z_ slots u.1, kx_2 q_t q_row q_joined q_from q_to q_size q_lossOf q_lessBy q_value q_number u.2.1 u.2.2.1, kx_0 q_row q_cell len, kx_a q_cell cyI 160 f, kx_a q_from cyI 319 u.2.2.2.1, kx_a q_to cyI 319 u.2.2.2.2.1, kx_a q_size cyI 319 u.2.2.2.2.2.1, kx_a q_lossOf cyI 319 u.2.2.2.2.2.2.1, kx_a q_lessBy cyI 319 u.2.2.2.2.2.2.2.1, kx_a q_value cyI 1914 u.2.2.2.2.2.2.2.2.1, kx_a q_number cyI 1914 u.2.2.2.2.2.2.2.2.2.1, kx_3 q_joined j_v j_n u.2.2.2.2.2.2.2.2.2.2.1 u.2.2.2.2.2.2.2.2.2.2.2.1 u.2.2.2.2.2.2.2.2.2.2.2.2.1, kx_a j_v cyI 12 u.2.2.2.2.2.2.2.2.2.2.2.2.2.1, kx_a j_n cyI 12 u.2.2.2.2.2.2.2.2.2.2.2.2.2.2.1, kx_3 h0 a_v a_n u.2.2.2.2.2.2.2.2.2.2.2.2.2.2.2.1 u.2.2.2.2.2.2.2.2.2.2.2.2.2.2.2.2.1 u.2.2.2.2.2.2.2.2.2.2.2.2.2.2.2.2.2.1, kx_a a_v cyI 12 u.2.2.2.2.2.2.2.2.2.2.2.2.2.2.2.2.2.2.1, kx_a a_n cyI 12 u.2.2.2.2.2.2.2.2.2.2.2.2.2.2.2.2.2.2.2.1, (ho, .inl (cyL, 1, .inr (.inl u.2.2.2.2.2.2.2.2.2.2.2.2.2.2.2.2.2.2.2.2.1)))]) (va_A [kx_4 m_ q_row q_t t_ h0 k0 w_ z_ slots old, kx_2 q_t q_row q_joined q_from q_to q_size q_lossOf q_lessBy q_value q_number nodes here, kx_0 q_row q_cell len, kx_a q_cell cyI 160 f, kx_a q_from cyI 319 ff, kx_a q_to cyI 319 ft, kx_a q_size cyI 319 fs, kx_a q_lossOf cyI 319 fo, kx_a q_lessBy cyI 319 fe, kx_a q_value cyI 1914 uv, kx_a q_number cyI 1914 un, kx_3 q_joined j_v j_n js jl je, kx_a j_v cyI 12 jv, kx_a j_n cyI 12 jn, kx_3 h0 a_v a_n vs lo le, kx_a a_v cyI 12 fv, kx_a a_n cyI 12 fn, (ho, .inl (cyL, 1, .inr (.inl ol)))] sz)) 1 6 (va_A [kx_4 m_ q_row q_t t_ h0 k0 w_ z_ slots old, kx_2 q_t q_row q_joined q_from q_to q_size q_lossOf q_lessBy q_value q_number nodes here, kx_0 q_row q_cell len, kx_a q_cell cyI 160 f, kx_a q_from cyI 319 ff, kx_a q_to cyI 319 ft, kx_a q_size cyI 319 fs, kx_a q_lossOf cyI 319 fo, kx_a q_lessBy cyI 319 fe, kx_a q_value cyI 1914 uv, kx_a q_number cyI 1914 un, kx_3 q_joined j_v j_n js jl je, kx_a j_v cyI 12 jv, kx_a j_n cyI 12 jn, kx_3 h0 a_v a_n vs lo le, kx_a a_v cyI 12 fv, kx_a a_n cyI 12 fn, (ho, .inl (cyL, 1, .inr (.inl ol)))] sz) := by
  refine va_MetW (cc := cL_candidate) (maxL := 7) (ret := (some .int)) (hh := [(0, 14, 17, 13)]) (by decide) rfl ?_
  intro p e s m args below meth c s₁ B hml hv
  obtain ⟨rfl, hsz, hP, hK, hD0, hth⟩ := hv
  have hx := B.exec
  have hb := B.bytes
  have hr := B.returns
  have hts := atoms_spec (ws := wsL_candidate) B.pre
  have hown : s.vm.findClass RL = some m.cls := findClass_of_methodNamed B.named
  have hlocks := B.notSynchronized
  have htb : c.exceptionTable.toList = tableOf [(0, 14, 17, 13)] := vx_table (x := yL_candidate) B (hts (.codeWith yL_candidate cL_candidate 7 (some .int) [(0, 14, 17, 13)]) List.mem_cons_self)
  subst hsz
  have hD := hD0.self (sz := s.heap.size)
  generalize hAe : va_A [kx_4 m_ q_row q_t t_ h0 k0 w_ z_ slots old, kx_2 q_t q_row q_joined q_from q_to q_size q_lossOf q_lessBy q_value q_number nodes here, kx_0 q_row q_cell len, kx_a q_cell cyI 160 f, kx_a q_from cyI 319 ff, kx_a q_to cyI 319 ft, kx_a q_size cyI 319 fs, kx_a q_lossOf cyI 319 fo, kx_a q_lessBy cyI 319 fe, kx_a q_value cyI 1914 uv, kx_a q_number cyI 1914 un, kx_3 q_joined j_v j_n js jl je, kx_a j_v cyI 12 jv, kx_a j_n cyI 12 jn, kx_3 h0 a_v a_n vs lo le, kx_a a_v cyI 12 fv, kx_a a_n cyI 12 fn, (ho, .inl (cyL, 1, .inr (.inl ol)))] s.heap.size = A at hD hth ⊢
  have hA : ∀ q : Nat, s.heap.size ≤ q → A q := fun q h => by rw [← hAe]; exact Or.inr h
  have hS : va_S A s.heap s.heap [] := va_S.rf
  have hP : va_P (dC, dI) vwCl [kx_4 m_ q_row q_t t_ h0 k0 w_ z_ slots old, kx_2 q_t q_row q_joined q_from q_to q_size q_lossOf q_lessBy q_value q_number nodes here, kx_0 q_row q_cell len, kx_a q_cell cyI 160 f, kx_a q_from cyI 319 ff, kx_a q_to cyI 319 ft, kx_a q_size cyI 319 fs, kx_a q_lossOf cyI 319 fo, kx_a q_lessBy cyI 319 fe, kx_a q_value cyI 1914 uv, kx_a q_number cyI 1914 un, kx_3 q_joined j_v j_n js jl je, kx_a j_v cyI 12 jv, kx_a j_n cyI 12 jn, kx_3 h0 a_v a_n vs lo le, kx_a a_v cyI 12 fv, kx_a a_n cyI 12 fn, (ho, .inl (cyL, 1, .inr (.inl ol)))] s.heap := hP
  have hl := lv_entry ([.ref m_, .int p0, .int p1, .int p2, .int p3, .ref ho]) (n := 7) (Nat.le_of_ble_eq_true rfl)
  rw [lg_entry_eq]
  generalize (lg_sl ([.ref m_, .int p0, .int p1, .int p2, .int p3, .ref ho]) ++ List.replicate (7 - (lg_sl ([.ref m_, .int p0, .int p1, .int p2, .int p3, .ref ho])).length) Slot.unset).toArray = ls at hl ⊢
  have hl : lv_has ls 7 [(0, .ref m_), (1, .int p0), (2, .int p1), (3, .int p2), (4, .int p3), (5, .ref ho)] := hl
  refine lv_aload hx hb dL_candidate_0 (lv_at hl 5 rfl) ?_
  refine lv_iconst (v := 0) hx hb dL_candidate_2 (by decide) ?_
  refine lv_aload_n hx hb dL_candidate_3 rfl (lv_at hl 0 rfl) ?_
  refine lv_iload_n hx hb dL_candidate_4 rfl (lv_at hl 1 rfl) ?_
  refine lv_iload_n hx hb dL_candidate_5 rfl (lv_at hl 2 rfl) ?_
  refine lv_iload_n hx hb dL_candidate_6 rfl (lv_at hl 3 rfl) ?_
  refine lv_iload hx hb dL_candidate_7 (lv_at hl 4 rfl) ?_
  have hPc := hP.sub (ws' := [kx_4 m_ q_row q_t t_ h0 k0 w_ z_ slots old, kx_2 q_t q_row q_joined q_from q_to q_size q_lossOf q_lessBy q_value q_number nodes here, kx_0 q_row q_cell len, kx_a q_cell cyI 160 f, kx_a q_from cyI 319 ff, kx_a q_to cyI 319 ft, kx_a q_size cyI 319 fs, kx_a q_lossOf cyI 319 fo, kx_a q_lessBy cyI 319 fe, kx_a q_value cyI 1914 uv, kx_a q_number cyI 1914 un, kx_3 q_joined j_v j_n js jl je, kx_a j_v cyI 12 jv, kx_a j_n cyI 12 jn, kx_3 h0 a_v a_n vs lo le, kx_a a_v cyI 12 fv, kx_a a_n cyI 12 fn]) [0, 1, 2, 3, 4, 5, 6, 7, 8, 9, 10, 11, 12, 13, 14, 15, 16] rfl
  have hKc := hK.sub (tys' := [(cyI, .int)]) [0] rfl
  have hDc := hD.sub (ws' := [kx_4 m_ q_row q_t t_ h0 k0 w_ z_ slots old, kx_2 q_t q_row q_joined q_from q_to q_size q_lossOf q_lessBy q_value q_number nodes here, kx_0 q_row q_cell len, kx_a q_cell cyI 160 f, kx_a q_from cyI 319 ff, kx_a q_to cyI 319 ft, kx_a q_size cyI 319 fs, kx_a q_lossOf cyI 319 fo, kx_a q_lessBy cyI 319 fe, kx_a q_value cyI 1914 uv, kx_a q_number cyI 1914 un, kx_3 q_joined j_v j_n js jl je, kx_a j_v cyI 12 jv, kx_a j_n cyI 12 jn, kx_3 h0 a_v a_n vs lo le, kx_a a_v cyI 12 fv, kx_a a_n cyI 12 fn]) [0, 1, 2, 3, 4, 5, 6, 7, 8, 9, 10, 11, 12, 13, 14, 15, 16] (by decide) rfl
  have hFc := va_free (wc := [kx_4 m_ q_row q_t t_ h0 k0 w_ z_ slots old, kx_2 q_t q_row q_joined q_from q_to q_size q_lossOf q_lessBy q_value q_number nodes here, kx_0 q_row q_cell len, kx_a q_cell cyI 160 f, kx_a q_from cyI 319 ff, kx_a q_to cyI 319 ft, kx_a q_size cyI 319 fs, kx_a q_lossOf cyI 319 fo, kx_a q_lessBy cyI 319 fe, kx_a q_value cyI 1914 uv, kx_a q_number cyI 1914 un, kx_3 q_joined j_v j_n js jl je, kx_a j_v cyI 12 jv, kx_a j_n cyI 12 jn, kx_3 h0 a_v a_n vs lo le, kx_a a_v cyI 12 fv, kx_a a_n cyI 12 fn]) hD hS hA [0, 1, 2, 3, 4, 5, 6, 7, 8, 9, 10, 11, 12, 13, 14, 15, 16] rfl
  refine vx_calli (vx_runV (As := [.int p0, .int p1, .int p2, .int p3]) (rest := [.int 0, .ref ho]) ⟨hx, hb, hml, hown, hts⟩ (c_X4_candidate l hl0 dC dI m_ q_row q_t t_ h0 k0 w_ z_ slots old q_joined q_from q_to q_size q_lossOf q_lessBy q_value q_number nodes here q_cell cyI len f ff ft fs fo uv un fe j_v j_n js jl je jv jn a_v a_n vs lo le fv fn p0 p1 p2 p3 s.heap.size a0 a1 s0 l0) (cwV 4 hts gL_candidate_X4_candidate rfl rfl rfl (by decide +kernel) ⟨Nat.le_of_ble_eq_true rfl, Nat.le_of_ble_eq_true rfl⟩) ⟨fun a U g mk q => by obtain ⟨q0, q1, qP, qK, qD, qT⟩ := q; exact ⟨q0, q1, qP, va_K.moved (u := U) (U := U.calling g mk a) (Vm.Alike.refl U.vm) qK, qD, qT.call g mk a⟩, kx_rc4 hKc hPc (q0 := 0) rfl, fun U hU hW => ⟨rfl, by rw [hU], by rw [hU]; exact hPc, va_K.moved hW.alike hKc, hDc.weaken (fun _ _ _ _ => trivial), hth.from hS hU hW hFc⟩⟩ rfl rfl hl.1 rfl (lv_room (Nat.le_of_ble_eq_true rfl)) dL_candidate_9 ⟨Nat.le_of_ble_eq_true rfl, Nat.le_of_ble_eq_true rfl⟩) hS (fun q _ h => hFc q h) hFc (fun q _ h => hFc q h) (fun E ce q9 u t H1 locs ht hvm w_1 hB hz1 hk1 hS hce hcv hcl => ?_) (fun r_1 u t H1 locs ht hvm w_1 hB hz1 hk1 hS => ?_)
  · obtain ⟨o_2, o_3, o_4, o_5, o_6, o_7, o_8, o_9, o_10, o_11, o_12, o_13, o_14, o_15, o_16, o_17, o_18, o_19, o_20, o_21⟩ := u
    dsimp only at w_1 hB
    obtain ⟨hE, hP1, hK1, hD1⟩ := hB
    subst hE
    rw [ht] at hP1
    have hK1 := va_K.moved hvm.symm hK1
    obtain ⟨hP, hD⟩ := va_join (wr := [(ho, .inl (cyL, 1, .inr (.inl ol)))]) (w1 := [kx_4 m_ q_row q_t t_ h0 k0 w_ z_ slots o_2, kx_2 q_t q_row q_joined q_from q_to q_size q_lossOf q_lessBy q_value q_number o_3 o_4, kx_0 q_row q_cell len, kx_a q_cell cyI 160 f, kx_a q_from cyI 319 o_5, kx_a q_to cyI 319 o_6, kx_a q_size cyI 319 o_7, kx_a q_lossOf cyI 319 o_8, kx_a q_lessBy cyI 319 o_9, kx_a q_value cyI 1914 o_10, kx_a q_number cyI 1914 o_11, kx_3 q_joined j_v j_n o_12 o_13 o_14, kx_a j_v cyI 12 o_15, kx_a j_n cyI 12 o_16, kx_3 h0 a_v a_n o_17 o_18 o_19, kx_a a_v cyI 12 o_20, kx_a a_n cyI 12 o_21]) hP hD [0, 1, 2, 3, 4, 5, 6, 7, 8, 9, 10, 11, 12, 13, 14, 15, 16] [17] rfl rfl (by decide) (by decide) hk1 hFc hP1 hD1
    clear hP1 hD1 hK1 hk1 hz1 hFc hDc hPc hKc
    generalize H1 = H at hP hS hce ⊢
    obtain ⟨hP, hD⟩ := kx_re (w2 := [(ho, .inl (cyL, 1, .inr (.inl ol))), kx_4 m_ q_row q_t t_ h0 k0 w_ z_ slots o_2, kx_2 q_t q_row q_joined q_from q_to q_size q_lossOf q_lessBy q_value q_number o_3 o_4, kx_0 q_row q_cell len, kx_a q_cell cyI 160 f, kx_a q_from cyI 319 o_5, kx_a q_to cyI 319 o_6, kx_a q_size cyI 319 o_7, kx_a q_lossOf cyI 319 o_8, kx_a q_lessBy cyI 319 o_9, kx_a q_value cyI 1914 o_10, kx_a q_number cyI 1914 o_11, kx_3 q_joined j_v j_n o_12 o_13 o_14, kx_a j_v cyI 12 o_15, kx_a j_n cyI 12 o_16, kx_3 h0 a_v a_n o_17 o_18 o_19, kx_a a_v cyI 12 o_20, kx_a a_n cyI 12 o_21]) hP hD rfl
    refine vx_catch hown [] ⟨0, 14, 17, 13⟩ [] htb (fun z hz => by cases hz) (by decide) (by decide) (hts (.classLink RL 13 EXN) (by decide +kernel)) (va_Nw.use rfl hth.1.1) hce hcv hcl ?_
    refine W.eq (g2 := F0 m 17 ls [.ref q9]) rfl ?_
    have w_1 : (0 : Int) ≤ 1 ∧ laidP o_2 o_5 o_6 o_3 len ∧ sixes o_7 := w_1
    refine W.widen (k := 1) (n := 6) (Nat.le_of_ble_eq_true rfl) (Nat.le_of_ble_eq_true rfl) ?_
    refine lv_astore (lv' := [(6, .ref q9), (0, .ref m_), (1, .int p0), (2, .int p1), (3, .int p2), (4, .int p3), (5, .ref ho)]) hx hb dL_candidate_17 hl (by decide) rfl (fun ls hl => ?_)
    refine lv_iconst (v := 1) hx hb dL_candidate_19 (by decide) ?_
    obtain ⟨hP9, hD9⟩ := kx_sub (w2 := [kx_4 m_ q_row q_t t_ h0 k0 w_ z_ slots o_2, kx_2 q_t q_row q_joined q_from q_to q_size q_lossOf q_lessBy q_value q_number o_3 o_4, kx_0 q_row q_cell len, kx_a q_cell cyI 160 f, kx_a q_from cyI 319 o_5, kx_a q_to cyI 319 o_6, kx_a q_size cyI 319 o_7, kx_a q_lossOf cyI 319 o_8, kx_a q_lessBy cyI 319 o_9, kx_a q_value cyI 1914 o_10, kx_a q_number cyI 1914 o_11, kx_3 q_joined j_v j_n o_12 o_13 o_14, kx_a j_v cyI 12 o_15, kx_a j_n cyI 12 o_16, kx_3 h0 a_v a_n o_17 o_18 o_19, kx_a a_v cyI 12 o_20, kx_a a_n cyI 12 o_21, (ho, .inl (cyL, 1, .inr (.inl ol)))]) hP hD [1, 2, 3, 4, 5, 6, 7, 8, 9, 10, 11, 12, 13, 14, 15, 16, 17, 0] (by decide) rfl
    have hK9 := hK
    exact W.iret (v := 1) hx hb hr (hlocks := hlocks) (fun t ht hW => ⟨⟨1, (o_2, o_3, o_4, o_5, o_6, o_7, o_8, o_9, o_10, o_11, o_12, o_13, o_14, o_15, o_16, o_17, o_18, o_19, o_20, o_21, ol, (0 : Int32)), rfl, ⟨Or.inr ⟨rfl, w_1.1⟩, w_1.2⟩, by rw [ht]; exact hP9, va_K.moved hW.alike hK9, hD9⟩, hS.F ht⟩) hS.2.2 dL_candidate_20
  · obtain ⟨o_22, o_23, o_24, o_25, o_26, o_27, o_28, o_29, o_30, o_31, o_32, o_33, o_34, o_35, o_36, o_37, o_38, o_39, o_40, o_41⟩ := u
    dsimp only at w_1 hB
    obtain ⟨hP1, hK1, hD1⟩ := hB
    rw [ht] at hP1
    have hK1 := va_K.moved hvm.symm hK1
    obtain ⟨hP, hD⟩ := va_join (wr := [(ho, .inl (cyL, 1, .inr (.inl ol)))]) (w1 := [kx_4 m_ q_row q_t t_ h0 k0 w_ z_ slots o_22, kx_2 q_t q_row q_joined q_from q_to q_size q_lossOf q_lessBy q_value q_number o_23 o_24, kx_0 q_row q_cell len, kx_a q_cell cyI 160 f, kx_a q_from cyI 319 o_25, kx_a q_to cyI 319 o_26, kx_a q_size cyI 319 o_27, kx_a q_lossOf cyI 319 o_28, kx_a q_lessBy cyI 319 o_29, kx_a q_value cyI 1914 o_30, kx_a q_number cyI 1914 o_31, kx_3 q_joined j_v j_n o_32 o_33 o_34, kx_a j_v cyI 12 o_35, kx_a j_n cyI 12 o_36, kx_3 h0 a_v a_n o_37 o_38 o_39, kx_a a_v cyI 12 o_40, kx_a a_n cyI 12 o_41]) hP hD [0, 1, 2, 3, 4, 5, 6, 7, 8, 9, 10, 11, 12, 13, 14, 15, 16] [17] rfl rfl (by decide) (by decide) hk1 hFc hP1 hD1
    clear hP1 hD1 hK1 hk1 hz1 hFc hDc hPc hKc
    generalize H1 = H at hP hS ⊢
    obtain ⟨hP, hD⟩ := kx_re (w2 := [(ho, .inl (cyL, 1, .inr (.inl ol))), kx_4 m_ q_row q_t t_ h0 k0 w_ z_ slots o_22, kx_2 q_t q_row q_joined q_from q_to q_size q_lossOf q_lessBy q_value q_number o_23 o_24, kx_0 q_row q_cell len, kx_a q_cell cyI 160 f, kx_a q_from cyI 319 o_25, kx_a q_to cyI 319 o_26, kx_a q_size cyI 319 o_27, kx_a q_lossOf cyI 319 o_28, kx_a q_lessBy cyI 319 o_29, kx_a q_value cyI 1914 o_30, kx_a q_number cyI 1914 o_31, kx_3 q_joined j_v j_n o_32 o_33 o_34, kx_a j_v cyI 12 o_35, kx_a j_n cyI 12 o_36, kx_3 h0 a_v a_n o_37 o_38 o_39, kx_a a_v cyI 12 o_40, kx_a a_n cyI 12 o_41]) hP hD rfl
    have w_1 : (0 : Int) ≤ 1 ∧ laidP o_22 o_25 o_26 o_23 len ∧ sixes o_27 := w_1
    refine W.widen (k := 1) (n := 6) (Nat.le_of_ble_eq_true rfl) (Nat.le_of_ble_eq_true rfl) ?_
    refine lv_i2l hx hb dL_candidate_12 rfl ?_
    refine va_last hx hb hK hP hD hS 0 1 rfl rfl (ki_inl (by decide)) dL_candidate_13 (fun H locs hP hD hS => ?_)
    obtain ⟨hP, hD⟩ := kx_re (w2 := [(ho, .inl (cyL, 1, .inr (.inl (vp_updL ol (0 : Int32).toNatClampNeg r_1.toInt64)))), kx_4 m_ q_row q_t t_ h0 k0 w_ z_ slots o_22, kx_2 q_t q_row q_joined q_from q_to q_size q_lossOf q_lessBy q_value q_number o_23 o_24, kx_0 q_row q_cell len, kx_a q_cell cyI 160 f, kx_a q_from cyI 319 o_25, kx_a q_to cyI 319 o_26, kx_a q_size cyI 319 o_27, kx_a q_lossOf cyI 319 o_28, kx_a q_lessBy cyI 319 o_29, kx_a q_value cyI 1914 o_30, kx_a q_number cyI 1914 o_31, kx_3 q_joined j_v j_n o_32 o_33 o_34, kx_a j_v cyI 12 o_35, kx_a j_n cyI 12 o_36, kx_3 h0 a_v a_n o_37 o_38 o_39, kx_a a_v cyI 12 o_40, kx_a a_n cyI 12 o_41]) hP hD rfl
    refine lv_goto (tgt := 21) hx hb dL_candidate_14 (by decide) ?_
    refine lv_iconst (v := 0) hx hb dL_candidate_21 (by decide) ?_
    obtain ⟨hP9, hD9⟩ := kx_sub (w2 := [kx_4 m_ q_row q_t t_ h0 k0 w_ z_ slots o_22, kx_2 q_t q_row q_joined q_from q_to q_size q_lossOf q_lessBy q_value q_number o_23 o_24, kx_0 q_row q_cell len, kx_a q_cell cyI 160 f, kx_a q_from cyI 319 o_25, kx_a q_to cyI 319 o_26, kx_a q_size cyI 319 o_27, kx_a q_lossOf cyI 319 o_28, kx_a q_lessBy cyI 319 o_29, kx_a q_value cyI 1914 o_30, kx_a q_number cyI 1914 o_31, kx_3 q_joined j_v j_n o_32 o_33 o_34, kx_a j_v cyI 12 o_35, kx_a j_n cyI 12 o_36, kx_3 h0 a_v a_n o_37 o_38 o_39, kx_a a_v cyI 12 o_40, kx_a a_n cyI 12 o_41, (ho, .inl (cyL, 1, .inr (.inl (vp_updL ol (0 : Int32).toNatClampNeg r_1.toInt64))))]) hP hD [1, 2, 3, 4, 5, 6, 7, 8, 9, 10, 11, 12, 13, 14, 15, 16, 17, 0] (by decide) rfl
    have hK9 := hK
    exact W.iret (v := 0) hx hb hr (hlocks := hlocks) (fun t ht hW => ⟨⟨0, (o_22, o_23, o_24, o_25, o_26, o_27, o_28, o_29, o_30, o_31, o_32, o_33, o_34, o_35, o_36, o_37, o_38, o_39, o_40, o_41, (vp_updL ol (0 : Int32).toNatClampNeg r_1.toInt64), r_1), rfl, ⟨Or.inl ⟨rfl, w_1.1, rfl⟩, w_1.2⟩, by rw [ht]; exact hP9, va_K.moved hW.alike hK9, hD9⟩, hS.F ht⟩) hS.2.2 dL_candidate_22

set_option maxHeartbeats 4000000 in
set_option maxRecDepth 100000 in
theorem c_L_heavyAt (l : Launch) (hl0 : l.stackTraces = false) (dC : Nat → ClassId) (dI : Nat → Nat → Nat) (m_ : Nat) (q_row : Nat) (q_t : Nat) (t_ : Nat) (h0 : Nat) (k0 : Nat) (w_ : Nat) (z_ : Nat) (slots : Int32) (old : Int32) (q_joined : Nat) (q_from : Nat) (q_to : Nat) (q_size : Nat) (q_lossOf : Nat) (q_lessBy : Nat) (q_value : Nat) (q_number : Nat) (nodes : Int32) (here : Int32) (q_cell : Nat) (cyI : ClassId) (len : Int32) (f : Nat → Int32) (ff : Nat → Int32) (ft : Nat → Int32) (fs : Nat → Int32) (fo : Nat → Int32) (uv : Nat → Int32) (un : Nat → Int32) (fe : Nat → Int32) (j_v : Nat) (j_n : Nat) (js : Int32) (jl : Int32) (je : Int32) (jv : Nat → Int32) (jn : Nat → Int32) (a_v : Nat) (a_n : Nat) (vs : Int32) (lo : Int32) (le : Int32) (fv : Nat → Int32) (fn : Nat → Int32) (p0 : Int32) (p1 : Int32) (p2 : Int32) (p3 : Int32) (p4 : Int32) (p5 : Int32) (cyL : ClassId) (ho : Nat) (ol : Nat → Int64) (sz : Nat) (a0 : 0 ≤ len.toInt) (a1 : len.toInt ≤ 160) (s0 : sixes fs) (l0 : laidP old ff ft nodes len) : Met l yL_heavyAt wsL_heavyAt ({ frames := 9, cells := 1, slots := 6, locals := 405 }) (va_Pc [.ref m_, .int p0, .int p1, .int p2, .int p3, .int p4, .int p5, .ref ho] (fun U => U.heap.size = sz ∧ va_P (dC, dI) vwCl [kx_4 m_ q_row q_t t_ h0 k0 w_ z_ slots old, kx_2 q_t q_row q_joined q_from q_to q_size q_lossOf q_lessBy q_value q_number nodes here, kx_0 q_row q_cell len, kx_a q_cell cyI 160 f, kx_a q_from cyI 319 ff, kx_a q_to cyI 319 ft, kx_a q_size cyI 319 fs, kx_a q_lossOf cyI 319 fo, kx_a q_lessBy cyI 319 fe, kx_a q_value cyI 1914 uv, kx_a q_number cyI 1914 un, kx_3 q_joined j_v j_n js jl je, kx_a j_v cyI 12 jv, kx_a j_n cyI 12 jn, kx_3 h0 a_v a_n vs lo le, kx_a a_v cyI 12 fv, kx_a a_n cyI 12 fn, (ho, .inl (cyL, 1, .inr (.inl ol)))] U.heap ∧ va_K (dC, dI) vwCl [(cyI, .int), (cyL, .long)] U ∧ va_D (fun _ => True) [kx_4 m_ q_row q_t t_ h0 k0 w_ z_ slots old, kx_2 q_t q_row q_joined q_from q_to q_size q_lossOf q_lessBy q_value q_number nodes here, kx_0 q_row q_cell len, kx_a q_cell cyI 160 f, kx_a q_from cyI 319 ff, kx_a q_to cyI 319 ft, kx_a q_size cyI 319 fs, kx_a q_lossOf cyI 319 fo, kx_a q_lessBy cyI 319 fe, kx_a q_value cyI 1914 uv, kx_a q_number cyI 1914 un, kx_3 q_joined j_v j_n js jl je, kx_a j_v cyI 12 jv, kx_a j_n cyI 12 jn, kx_3 h0 a_v a_n vs lo le, kx_a a_v cyI 12 fv, kx_a a_n cyI 12 fn, (ho, .inl (cyL, 1, .inr (.inl ol)))] ∧ va_Nw (.methodLinkNest RX3 42 yX4_isHeavy RX4) U ∧ ki_ThA (va_A [kx_4 m_ q_row q_t t_ h0 k0 w_ z_ slots old, kx_2 q_t q_row q_joined q_from q_to q_size q_lossOf q_lessBy q_value q_number nodes here, kx_0 q_row q_cell len, kx_a q_cell cyI 160 f, kx_a q_from cyI 319 ff, kx_a q_to cyI 319 ft, kx_a q_size cyI 319 fs, kx_a q_lossOf cyI 319 fo, kx_a q_lessBy cyI 319 fe, kx_a q_value cyI 1914 uv, kx_a q_number cyI 1914 un, kx_3 q_joined j_v j_n js jl je, kx_a j_v cyI 12 jv, kx_a j_n cyI 12 jn, kx_3 h0 a_v a_n vs lo le, kx_a a_v cyI 12 fv, kx_a a_n cyI 12 fn, (ho, .inl (cyL, 1, .inr (.inl ol)))] sz) U)) (va_Qi (fun (r : Int32) (u : Int32 × Int32 × Int32 × (Nat → Int32) × (Nat → Int32) × (Nat → Int32) × (Nat → Int32) × (Nat → Int32) × (Nat → Int32) × (Nat → Int32) × Int32 × Int32 × Int32 × (Nat → Int32) × (Nat → Int32) × Int32 × Int32 × Int32 × (Nat → Int32) × (Nat → Int32) × (Nat → Int64) × Int32) => ((r = 0 ∧ ((0 : Int) ≤ 1) ∧ u.2.2.2.2.2.2.2.2.2.2.2.2.2.2.2.2.2.2.2.2.1 = vp_updL ol (0 : Int32).toNatClampNeg u.2.2.2.2.2.2.2.2.2.2.2.2.2.2.2.2.2.2.2.2.2.toInt64) ∨ (r = 1 ∧ ((0 : Int) ≤ 1))) ∧ laidP u.1 u.2.2.2.1 u.2.2.2.2.1 u.2.1 len ∧ sixes u.2.2.2.2.2.1) (fun (u : Int32 × Int32 × Int32 × (Nat → Int32) × (Nat → Int32) × (Nat → Int32) × (Nat → Int32) × (Nat → Int32) × (Nat → Int32) × (Nat → Int32) × Int32 × Int32 × Int32 × (Nat → Int32) × (Nat → Int32) × Int32 × Int32 × Int32 × (Nat → Int32) × (Nat → Int32) × (Nat → Int64) × Int32) (t : State) => va_P (dC, dI) vwCl [kx_4 m_ q_row q_t t_ h0 k0 w_ z_ slots u.1, kx_2 q_t q_row q_joined q_from q_to q_size q_lossOf q_lessBy q_value q_number u.2.1 u.2.2.1, kx_0 q_row q_cell len, kx_a q_cell cyI 160 f, kx_a q_from cyI 319 u.2.2.2.1, kx_a q_to cyI 319 u.2.2.2.2.1, kx_a q_size cyI 319 u.2.2.2.2.2.1, kx_a q_lossOf cyI 319 u.2.2.2.2.2.2.1, kx_a q_lessBy cyI 319 u.2.2.2.2.2.2.2.1, kx_a q_value cyI 1914 u.2.2.2.2.2.2.2.2.1, kx_a q_number cyI 1914 u.2.2.2.2.2.2.2.2.2.1, kx_3 q_joined j_v j_n u.2.2.2.2.2.2.2.2.2.2.1 u.2.2.2.2.2.2.2.2.2.2.2.1 u.2.2.2.2.2.2.2.2.2.2.2.2.1, kx_a j_v cyI 12 u.2.2.2.2.2.2.2.2.2.2.2.2.2.1, kx_a j_n cyI 12 u.2.2.2.2.2.2.2.2.2.2.2.2.2.2.1, kx_3 h0 a_v a_n u.2.2.2.2.2.2.2.2.2.2.2.2.2.2.2.1 u.2.2.2.2.2.2.2.2.2.2.2.2.2.2.2.2.1 u.2.2.2.2.2.2.2.2.2.2.2.2.2.2.2.2.2.1, kx_a a_v cyI 12 u.2.2.2.2.2.2.2.2.2.2.2.2.2.2.2.2.2.2.1, kx_a a_n cyI 12 u.2.2.2.2.2.2.2.2.2.2.2.2.2.2.2.2.2.2.2.1, (ho, .inl (cyL, 1, .inr (.inl u.2.2.2.2.2.2.2.2.2.2.2.2.2.2.2.2.2.2.2.2.1)))] t.heap ∧ va_K (dC, dI) vwCl [(cyI, .int), (cyL, .long)] t ∧ va_D (va_A [kx_4 m_ q_row q_t t_ h0 k0 w_ z_ slots old, kx_2 q_t q_row q_joined q_from q_to q_size q_lossOf q_lessBy q_value q_number nodes here, kx_0 q_row q_cell len, kx_a q_cell cyI 160 f, kx_a q_from cyI 319 ff, kx_a q_to cyI 319 ft, kx_a q_size cyI 319 fs, kx_a q_lossOf cyI 319 fo, kx_a q_lessBy cyI 319 fe, kx_a q_value cyI 1914 uv, kx_a q_number cyI 1914 un, kx_3 q_joined j_v j_n js jl je, kx_a j_v cyI 12 jv, kx_a j_n cyI 12 jn, kx_3 h0 a_v a_n vs lo le, kx_a a_v cyI 12 fv, kx_a a_n cyI 12 fn, (ho, .inl (cyL, 1, .inr (.inl ol)))] sz) [kx_4 m_ q_row q_t t_ h0 k0 w_ z_ slots u.1, kx_2 q_t q_row q_joined q_from q_to q_size q_lossOf q_lessBy q_value q_number u.2.1 u.2.2.1, kx_0 q_row q_cell len, kx_a q_cell cyI 160 f, kx_a q_from cyI 319 u.2.2.2.1, kx_a q_to cyI 319 u.2.2.2.2.1, kx_a q_size cyI 319 u.2.2.2.2.2.1, kx_a q_lossOf cyI 319 u.2.2.2.2.2.2.1, kx_a q_lessBy cyI 319 u.2.2.2.2.2.2.2.1, kx_a q_value cyI 1914 u.2.2.2.2.2.2.2.2.1, kx_a q_number cyI 1914 u.2.2.2.2.2.2.2.2.2.1, kx_3 q_joined j_v j_n u.2.2.2.2.2.2.2.2.2.2.1 u.2.2.2.2.2.2.2.2.2.2.2.1 u.2.2.2.2.2.2.2.2.2.2.2.2.1, kx_a j_v cyI 12 u.2.2.2.2.2.2.2.2.2.2.2.2.2.1, kx_a j_n cyI 12 u.2.2.2.2.2.2.2.2.2.2.2.2.2.2.1, kx_3 h0 a_v a_n u.2.2.2.2.2.2.2.2.2.2.2.2.2.2.2.1 u.2.2.2.2.2.2.2.2.2.2.2.2.2.2.2.2.1 u.2.2.2.2.2.2.2.2.2.2.2.2.2.2.2.2.2.1, kx_a a_v cyI 12 u.2.2.2.2.2.2.2.2.2.2.2.2.2.2.2.2.2.2.1, kx_a a_n cyI 12 u.2.2.2.2.2.2.2.2.2.2.2.2.2.2.2.2.2.2.2.1, (ho, .inl (cyL, 1, .inr (.inl u.2.2.2.2.2.2.2.2.2.2.2.2.2.2.2.2.2.2.2.2.1)))]) (va_A [kx_4 m_ q_row q_t t_ h0 k0 w_ z_ slots old, kx_2 q_t q_row q_joined q_from q_to q_size q_lossOf q_lessBy q_value q_number nodes here, kx_0 q_row q_cell len, kx_a q_cell cyI 160 f, kx_a q_from cyI 319 ff, kx_a q_to cyI 319 ft, kx_a q_size cyI 319 fs, kx_a q_lossOf cyI 319 fo, kx_a q_lessBy cyI 319 fe, kx_a q_value cyI 1914 uv, kx_a q_number cyI 1914 un, kx_3 q_joined j_v j_n js jl je, kx_a j_v cyI 12 jv, kx_a j_n cyI 12 jn, kx_3 h0 a_v a_n vs lo le, kx_a a_v cyI 12 fv, kx_a a_n cyI 12 fn, (ho, .inl (cyL, 1, .inr (.inl ol)))] sz)) 1 6 (va_A [kx_4 m_ q_row q_t t_ h0 k0 w_ z_ slots old, kx_2 q_t q_row q_joined q_from q_to q_size q_lossOf q_lessBy q_value q_number nodes here, kx_0 q_row q_cell len, kx_a q_cell cyI 160 f, kx_a q_from cyI 319 ff, kx_a q_to cyI 319 ft, kx_a q_size cyI 319 fs, kx_a q_lossOf cyI 319 fo, kx_a q_lessBy cyI 319 fe, kx_a q_value cyI 1914 uv, kx_a q_number cyI 1914 un, kx_3 q_joined j_v j_n js jl je, kx_a j_v cyI 12 jv, kx_a j_n cyI 12 jn, kx_3 h0 a_v a_n vs lo le, kx_a a_v cyI 12 fv, kx_a a_n cyI 12 fn, (ho, .inl (cyL, 1, .inr (.inl ol)))] sz) := by
  refine va_MetW (cc := cL_heavyAt) (maxL := 9) (ret := (some .int)) (hh := [(0, 18, 21, 13)]) (by decide) rfl ?_
  intro p e s m args below meth c s₁ B hml hv
  obtain ⟨rfl, hsz, hP, hK, hD0, hN0, hth⟩ := hv
  have hx := B.exec
  have hb := B.bytes
  have hr := B.returns
  have hts := atoms_spec (ws := wsL_heavyAt) B.pre
  have hown : s.vm.findClass RL = some m.cls := findClass_of_methodNamed B.named
  have hlocks := B.notSynchronized
  have htb : c.exceptionTable.toList = tableOf [(0, 18, 21, 13)] := vx_table (x := yL_heavyAt) B (hts (.codeWith yL_heavyAt cL_heavyAt 9 (some .int) [(0, 18, 21, 13)]) List.mem_cons_self)
  subst hsz
  have hD := hD0.self (sz := s.heap.size)
  generalize hAe : va_A [kx_4 m_ q_row q_t t_ h0 k0 w_ z_ slots old, kx_2 q_t q_row q_joined q_from q_to q_size q_lossOf q_lessBy q_value q_number nodes here, kx_0 q_row q_cell len, kx_a q_cell cyI 160 f, kx_a q_from cyI 319 ff, kx_a q_to cyI 319 ft, kx_a q_size cyI 319 fs, kx_a q_lossOf cyI 319 fo, kx_a q_lessBy cyI 319 fe, kx_a q_value cyI 1914 uv, kx_a q_number cyI 1914 un, kx_3 q_joined j_v j_n js jl je, kx_a j_v cyI 12 jv, kx_a j_n cyI 12 jn, kx_3 h0 a_v a_n vs lo le, kx_a a_v cyI 12 fv, kx_a a_n cyI 12 fn, (ho, .inl (cyL, 1, .inr (.inl ol)))] s.heap.size = A at hD hth ⊢
  have hA : ∀ q : Nat, s.heap.size ≤ q → A q := fun q h => by rw [← hAe]; exact Or.inr h
  have hS : va_S A s.heap s.heap [] := va_S.rf
  have hP : va_P (dC, dI) vwCl [kx_4 m_ q_row q_t t_ h0 k0 w_ z_ slots old, kx_2 q_t q_row q_joined q_from q_to q_size q_lossOf q_lessBy q_value q_number nodes here, kx_0 q_row q_cell len, kx_a q_cell cyI 160 f, kx_a q_from cyI 319 ff, kx_a q_to cyI 319 ft, kx_a q_size cyI 319 fs, kx_a q_lossOf cyI 319 fo, kx_a q_lessBy cyI 319 fe, kx_a q_value cyI 1914 uv, kx_a q_number cyI 1914 un, kx_3 q_joined j_v j_n js jl je, kx_a j_v cyI 12 jv, kx_a j_n cyI 12 jn, kx_3 h0 a_v a_n vs lo le, kx_a a_v cyI 12 fv, kx_a a_n cyI 12 fn, (ho, .inl (cyL, 1, .inr (.inl ol)))] s.heap := hP
  have hl := lv_entry ([.ref m_, .int p0, .int p1, .int p2, .int p3, .int p4, .int p5, .ref ho]) (n := 9) (Nat.le_of_ble_eq_true rfl)
  rw [lg_entry_eq]
  generalize (lg_sl ([.ref m_, .int p0, .int p1, .int p2, .int p3, .int p4, .int p5, .ref ho]) ++ List.replicate (9 - (lg_sl ([.ref m_, .int p0, .int p1, .int p2, .int p3, .int p4, .int p5, .ref ho])).length) Slot.unset).toArray = ls at hl ⊢
  have hl : lv_has ls 9 [(0, .ref m_), (1, .int p0), (2, .int p1), (3, .int p2), (4, .int p3), (5, .int p4), (6, .int p5), (7, .ref ho)] := hl
  refine lv_aload hx hb dL_heavyAt_0 (lv_at hl 7 rfl) ?_
  refine lv_iconst (v := 0) hx hb dL_heavyAt_2 (by decide) ?_
  refine lv_aload_n hx hb dL_heavyAt_3 rfl (lv_at hl 0 rfl) ?_
  refine lv_iload_n hx hb dL_heavyAt_4 rfl (lv_at hl 1 rfl) ?_
  refine lv_iload_n hx hb dL_heavyAt_5 rfl (lv_at hl 2 rfl) ?_
  refine lv_iload_n hx hb dL_heavyAt_6 rfl (lv_at hl 3 rfl) ?_
  refine lv_iload hx hb dL_heavyAt_7 (lv_at hl 4 rfl) ?_
  refine lv_iload hx hb dL_heavyAt_9 (lv_at hl 5 rfl) ?_
  refine lv_iload hx hb dL_heavyAt_11 (lv_at hl 6 rfl) ?_
  have hPc := hP.sub (ws' := [kx_4 m_ q_row q_t t_ h0 k0 w_ z_ slots old, kx_2 q_t q_row q_joined q_from q_to q_size q_lossOf q_lessBy q_value q_number nodes here, kx_0 q_row q_cell len, kx_a q_cell cyI 160 f, kx_a q_from cyI 319 ff, kx_a q_to cyI 319 ft, kx_a q_size cyI 319 fs, kx_a q_lossOf cyI 319 fo, kx_a q_lessBy cyI 319 fe, kx_a q_value cyI 1914 uv, kx_a q_number cyI 1914 un, kx_3 q_joined j_v j_n js jl je, kx_a j_v cyI 12 jv, kx_a j_n cyI 12 jn, kx_3 h0 a_v a_n vs lo le, kx_a a_v cyI 12 fv, kx_a a_n cyI 12 fn]) [0, 1, 2, 3, 4, 5, 6, 7, 8, 9, 10, 11, 12, 13, 14, 15, 16] rfl
  have hKc := hK.sub (tys' := [(cyI, .int)]) [0] rfl
  have hDc := hD.sub (ws' := [kx_4 m_ q_row q_t t_ h0 k0 w_ z_ slots old, kx_2 q_t q_row q_joined q_from q_to q_size q_lossOf q_lessBy q_value q_number nodes here, kx_0 q_row q_cell len, kx_a q_cell cyI 160 f, kx_a q_from cyI 319 ff, kx_a q_to cyI 319 ft, kx_a q_size cyI 319 fs, kx_a q_lossOf cyI 319 fo, kx_a q_lessBy cyI 319 fe, kx_a q_value cyI 1914 uv, kx_a q_number cyI 1914 un, kx_3 q_joined j_v j_n js jl je, kx_a j_v cyI 12 jv, kx_a j_n cyI 12 jn, kx_3 h0 a_v a_n vs lo le, kx_a a_v cyI 12 fv, kx_a a_n cyI 12 fn]) [0, 1, 2, 3, 4, 5, 6, 7, 8, 9, 10, 11, 12, 13, 14, 15, 16] (by decide) rfl
  have hFc := va_free (wc := [kx_4 m_ q_row q_t t_ h0 k0 w_ z_ slots old, kx_2 q_t q_row q_joined q_from q_to q_size q_lossOf q_lessBy q_value q_number nodes here, kx_0 q_row q_cell len, kx_a q_cell cyI 160 f, kx_a q_from cyI 319 ff, kx_a q_to cyI 319 ft, kx_a q_size cyI 319 fs, kx_a q_lossOf cyI 319 fo, kx_a q_lessBy cyI 319 fe, kx_a q_value cyI 1914 uv, kx_a q_number cyI 1914 un, kx_3 q_joined j_v j_n js jl je, kx_a j_v cyI 12 jv, kx_a j_n cyI 12 jn, kx_3 h0 a_v a_n vs lo le, kx_a a_v cyI 12 fv, kx_a a_n cyI 12 fn]) hD hS hA [0, 1, 2, 3, 4, 5, 6, 7, 8, 9, 10, 11, 12, 13, 14, 15, 16] rfl
  refine vx_calli (vx_runV (As := [.int p0, .int p1, .int p2, .int p3, .int p4, .int p5]) (rest := [.int 0, .ref ho]) ⟨hx, hb, hml, hown, hts⟩ (c_X4_heavyAt l hl0 dC dI m_ q_row q_t t_ h0 k0 w_ z_ slots old q_joined q_from q_to q_size q_lossOf q_lessBy q_value q_number nodes here q_cell cyI len f ff ft fs fo uv un fe j_v j_n js jl je jv jn a_v a_n vs lo le fv fn p0 p1 p2 p3 p4 p5 s.heap.size a0 a1 s0 l0) (cwV 6 hts gL_heavyAt_X4_heavyAt rfl rfl rfl (by decide +kernel) ⟨Nat.le_of_ble_eq_true rfl, Nat.le_of_ble_eq_true rfl⟩) ⟨fun a U g mk q => by obtain ⟨q0, q1, qP, qK, qD, qn0, qT⟩ := q; exact ⟨q0, q1, qP, va_K.moved (u := U) (U := U.calling g mk a) (Vm.Alike.refl U.vm) qK, qD, va_Nw.same (u := U) (U := U.calling g mk a) rfl rfl qn0, qT.call g mk a⟩, kx_rc4 hKc hPc (q0 := 0) rfl, fun U hU hW => ⟨rfl, by rw [hU], by rw [hU]; exact hPc, va_K.moved hW.alike hKc, hDc.weaken (fun _ _ _ _ => trivial), va_Nw.warmM hW hN0, hth.from hS hU hW hFc⟩⟩ rfl rfl hl.1 rfl (lv_room (Nat.le_of_ble_eq_true rfl)) dL_heavyAt_13 ⟨Nat.le_of_ble_eq_true rfl, Nat.le_of_ble_eq_true rfl⟩) hS (fun q _ h => hFc q h) hFc (fun q _ h => hFc q h) (fun E ce q9 u t H1 locs ht hvm w_1 hB hz1 hk1 hS hce hcv hcl => ?_) (fun r_1 u t H1 locs ht hvm w_1 hB hz1 hk1 hS => ?_)
  · obtain ⟨o_2, o_3, o_4, o_5, o_6, o_7, o_8, o_9, o_10, o_11, o_12, o_13, o_14, o_15, o_16, o_17, o_18, o_19, o_20, o_21⟩ := u
    dsimp only at w_1 hB
    obtain ⟨hE, hP1, hK1, hD1⟩ := hB
    subst hE
    rw [ht] at hP1
    have hK1 := va_K.moved hvm.symm hK1
    obtain ⟨hP, hD⟩ := va_join (wr := [(ho, .inl (cyL, 1, .inr (.inl ol)))]) (w1 := [kx_4 m_ q_row q_t t_ h0 k0 w_ z_ slots o_2, kx_2 q_t q_row q_joined q_from q_to q_size q_lossOf q_lessBy q_value q_number o_3 o_4, kx_0 q_row q_cell len, kx_a q_cell cyI 160 f, kx_a q_from cyI 319 o_5, kx_a q_to cyI 319 o_6, kx_a q_size cyI 319 o_7, kx_a q_lossOf cyI 319 o_8, kx_a q_lessBy cyI 319 o_9, kx_a q_value cyI 1914 o_10, kx_a q_number cyI 1914 o_11, kx_3 q_joined j_v j_n o_12 o_13 o_14, kx_a j_v cyI 12 o_15, kx_a j_n cyI 12 o_16, kx_3 h0 a_v a_n o_17 o_18 o_19, kx_a a_v cyI 12 o_20, kx_a a_n cyI 12 o_21]) hP hD [0, 1, 2, 3, 4, 5, 6, 7, 8, 9, 10, 11, 12, 13, 14, 15, 16] [17] rfl rfl (by decide) (by decide) hk1 hFc hP1 hD1
    clear hP1 hD1 hK1 hk1 hz1 hFc hDc hPc hKc
    generalize H1 = H at hP hS hce ⊢
    obtain ⟨hP, hD⟩ := kx_re (w2 := [(ho, .inl (cyL, 1, .inr (.inl ol))), kx_4 m_ q_row q_t t_ h0 k0 w_ z_ slots o_2, kx_2 q_t q_row q_joined q_from q_to q_size q_lossOf q_lessBy q_value q_number o_3 o_4, kx_0 q_row q_cell len, kx_a q_cell cyI 160 f, kx_a q_from cyI 319 o_5, kx_a q_to cyI 319 o_6, kx_a q_size cyI 319 o_7, kx_a q_lossOf cyI 319 o_8, kx_a q_lessBy cyI 319 o_9, kx_a q_value cyI 1914 o_10, kx_a q_number cyI 1914 o_11, kx_3 q_joined j_v j_n o_12 o_13 o_14, kx_a j_v cyI 12 o_15, kx_a j_n cyI 12 o_16, kx_3 h0 a_v a_n o_17 o_18 o_19, kx_a a_v cyI 12 o_20, kx_a a_n cyI 12 o_21]) hP hD rfl
    refine vx_catch hown [] ⟨0, 18, 21, 13⟩ [] htb (fun z hz => by cases hz) (by decide) (by decide) (hts (.classLink RL 13 EXN) (by decide +kernel)) (va_Nw.use rfl hth.1.1) hce hcv hcl ?_
    refine W.eq (g2 := F0 m 21 ls [.ref q9]) rfl ?_
    have w_1 : (0 : Int) ≤ 1 ∧ laidP o_2 o_5 o_6 o_3 len ∧ sixes o_7 := w_1
    refine W.widen (k := 1) (n := 6) (Nat.le_of_ble_eq_true rfl) (Nat.le_of_ble_eq_true rfl) ?_
    refine lv_astore (lv' := [(8, .ref q9), (0, .ref m_), (1, .int p0), (2, .int p1), (3, .int p2), (4, .int p3), (5, .int p4), (6, .int p5), (7, .ref ho)]) hx hb dL_heavyAt_21 hl (by decide) rfl (fun ls hl => ?_)
    refine lv_iconst (v := 1) hx hb dL_heavyAt_23 (by decide) ?_
    obtain ⟨hP9, hD9⟩ := kx_sub (w2 := [kx_4 m_ q_row q_t t_ h0 k0 w_ z_ slots o_2, kx_2 q_t q_row q_joined q_from q_to q_size q_lossOf q_lessBy q_value q_number o_3 o_4, kx_0 q_row q_cell len, kx_a q_cell cyI 160 f, kx_a q_from cyI 319 o_5, kx_a q_to cyI 319 o_6, kx_a q_size cyI 319 o_7, kx_a q_lossOf cyI 319 o_8, kx_a q_lessBy cyI 319 o_9, kx_a q_value cyI 1914 o_10, kx_a q_number cyI 1914 o_11, kx_3 q_joined j_v j_n o_12 o_13 o_14, kx_a j_v cyI 12 o_15, kx_a j_n cyI 12 o_16, kx_3 h0 a_v a_n o_17 o_18 o_19, kx_a a_v cyI 12 o_20, kx_a a_n cyI 12 o_21, (ho, .inl (cyL, 1, .inr (.inl ol)))]) hP hD [1, 2, 3, 4, 5, 6, 7, 8, 9, 10, 11, 12, 13, 14, 15, 16, 17, 0] (by decide) rfl
    have hK9 := hK
    exact W.iret (v := 1) hx hb hr (hlocks := hlocks) (fun t ht hW => ⟨⟨1, (o_2, o_3, o_4, o_5, o_6, o_7, o_8, o_9, o_10, o_11, o_12, o_13, o_14, o_15, o_16, o_17, o_18, o_19, o_20, o_21, ol, (0 : Int32)), rfl, ⟨Or.inr ⟨rfl, w_1.1⟩, w_1.2⟩, by rw [ht]; exact hP9, va_K.moved hW.alike hK9, hD9⟩, hS.F ht⟩) hS.2.2 dL_heavyAt_24
  · obtain ⟨o_22, o_23, o_24, o_25, o_26, o_27, o_28, o_29, o_30, o_31, o_32, o_33, o_34, o_35, o_36, o_37, o_38, o_39, o_40, o_41⟩ := u
    dsimp only at w_1 hB
    obtain ⟨hP1, hK1, hD1⟩ := hB
    rw [ht] at hP1
    have hK1 := va_K.moved hvm.symm hK1
    obtain ⟨hP, hD⟩ := va_join (wr := [(ho, .inl (cyL, 1, .inr (.inl ol)))]) (w1 := [kx_4 m_ q_row q_t t_ h0 k0 w_ z_ slots o_22, kx_2 q_t q_row q_joined q_from q_to q_size q_lossOf q_lessBy q_value q_number o_23 o_24, kx_0 q_row q_cell len, kx_a q_cell cyI 160 f, kx_a q_from cyI 319 o_25, kx_a q_to cyI 319 o_26, kx_a q_size cyI 319 o_27, kx_a q_lossOf cyI 319 o_28, kx_a q_lessBy cyI 319 o_29, kx_a q_value cyI 1914 o_30, kx_a q_number cyI 1914 o_31, kx_3 q_joined j_v j_n o_32 o_33 o_34, kx_a j_v cyI 12 o_35, kx_a j_n cyI 12 o_36, kx_3 h0 a_v a_n o_37 o_38 o_39, kx_a a_v cyI 12 o_40, kx_a a_n cyI 12 o_41]) hP hD [0, 1, 2, 3, 4, 5, 6, 7, 8, 9, 10, 11, 12, 13, 14, 15, 16] [17] rfl rfl (by decide) (by decide) hk1 hFc hP1 hD1
    clear hP1 hD1 hK1 hk1 hz1 hFc hDc hPc hKc
    generalize H1 = H at hP hS ⊢
    obtain ⟨hP, hD⟩ := kx_re (w2 := [(ho, .inl (cyL, 1, .inr (.inl ol))), kx_4 m_ q_row q_t t_ h0 k0 w_ z_ slots o_22, kx_2 q_t q_row q_joined q_from q_to q_size q_lossOf q_lessBy q_value q_number o_23 o_24, kx_0 q_row q_cell len, kx_a q_cell cyI 160 f, kx_a q_from cyI 319 o_25, kx_a q_to cyI 319 o_26, kx_a q_size cyI 319 o_27, kx_a q_lossOf cyI 319 o_28, kx_a q_lessBy cyI 319 o_29, kx_a q_value cyI 1914 o_30, kx_a q_number cyI 1914 o_31, kx_3 q_joined j_v j_n o_32 o_33 o_34, kx_a j_v cyI 12 o_35, kx_a j_n cyI 12 o_36, kx_3 h0 a_v a_n o_37 o_38 o_39, kx_a a_v cyI 12 o_40, kx_a a_n cyI 12 o_41]) hP hD rfl
    have w_1 : (0 : Int) ≤ 1 ∧ laidP o_22 o_25 o_26 o_23 len ∧ sixes o_27 := w_1
    refine W.widen (k := 1) (n := 6) (Nat.le_of_ble_eq_true rfl) (Nat.le_of_ble_eq_true rfl) ?_
    refine lv_i2l hx hb dL_heavyAt_16 rfl ?_
    refine va_last hx hb hK hP hD hS 0 1 rfl rfl (ki_inl (by decide)) dL_heavyAt_17 (fun H locs hP hD hS => ?_)
    obtain ⟨hP, hD⟩ := kx_re (w2 := [(ho, .inl (cyL, 1, .inr (.inl (vp_updL ol (0 : Int32).toNatClampNeg r_1.toInt64)))), kx_4 m_ q_row q_t t_ h0 k0 w_ z_ slots o_22, kx_2 q_t q_row q_joined q_from q_to q_size q_lossOf q_lessBy q_value q_number o_23 o_24, kx_0 q_row q_cell len, kx_a q_cell cyI 160 f, kx_a q_from cyI 319 o_25, kx_a q_to cyI 319 o_26, kx_a q_size cyI 319 o_27, kx_a q_lossOf cyI 319 o_28, kx_a q_lessBy cyI 319 o_29, kx_a q_value cyI 1914 o_30, kx_a q_number cyI 1914 o_31, kx_3 q_joined j_v j_n o_32 o_33 o_34, kx_a j_v cyI 12 o_35, kx_a j_n cyI 12 o_36, kx_3 h0 a_v a_n o_37 o_38 o_39, kx_a a_v cyI 12 o_40, kx_a a_n cyI 12 o_41]) hP hD rfl
    refine lv_goto (tgt := 25) hx hb dL_heavyAt_18 (by decide) ?_
    refine lv_iconst (v := 0) hx hb dL_heavyAt_25 (by decide) ?_
    obtain ⟨hP9, hD9⟩ := kx_sub (w2 := [kx_4 m_ q_row q_t t_ h0 k0 w_ z_ slots o_22, kx_2 q_t q_row q_joined q_from q_to q_size q_lossOf q_lessBy q_value q_number o_23 o_24, kx_0 q_row q_cell len, kx_a q_cell cyI 160 f, kx_a q_from cyI 319 o_25, kx_a q_to cyI 319 o_26, kx_a q_size cyI 319 o_27, kx_a q_lossOf cyI 319 o_28, kx_a q_lessBy cyI 319 o_29, kx_a q_value cyI 1914 o_30, kx_a q_number cyI 1914 o_31, kx_3 q_joined j_v j_n o_32 o_33 o_34, kx_a j_v cyI 12 o_35, kx_a j_n cyI 12 o_36, kx_3 h0 a_v a_n o_37 o_38 o_39, kx_a a_v cyI 12 o_40, kx_a a_n cyI 12 o_41, (ho, .inl (cyL, 1, .inr (.inl (vp_updL ol (0 : Int32).toNatClampNeg r_1.toInt64))))]) hP hD [1, 2, 3, 4, 5, 6, 7, 8, 9, 10, 11, 12, 13, 14, 15, 16, 17, 0] (by decide) rfl
    have hK9 := hK
    exact W.iret (v := 0) hx hb hr (hlocks := hlocks) (fun t ht hW => ⟨⟨0, (o_22, o_23, o_24, o_25, o_26, o_27, o_28, o_29, o_30, o_31, o_32, o_33, o_34, o_35, o_36, o_37, o_38, o_39, o_40, o_41, (vp_updL ol (0 : Int32).toNatClampNeg r_1.toInt64), r_1), rfl, ⟨Or.inl ⟨rfl, w_1.1, rfl⟩, w_1.2⟩, by rw [ht]; exact hP9, va_K.moved hW.alike hK9, hD9⟩, hS.F ht⟩) hS.2.2 dL_heavyAt_26



/-! counting, first ones, majorities -/
theorem cnt_two {f : Nat → Int32} {v w : Int32} (h : ¬ v = w) (l : Nat) : ∀ k : Nat, cnt f v l k + cnt f w l k ≤ k
  | 0 => Nat.le_refl 0
  | k + 1 => by
    have ih := cnt_two (f := f) h l k
    simp only [cnt]
    by_cases h1 : f (l + k) = v
    · rw [if_pos h1, if_neg (fun e => h (h1.symm.trans e))]
      omega
    · rw [if_neg h1]
      split <;> omega
theorem cnt_hit1 {f : Nat → Int32} {v : Int32} {l k k2 : Nat} (e : f (l + k) = v) (h : k2 = k + 1) : cnt f v l k2 = cnt f v l k + 1 := by
  subst h
  simp only [cnt]
  rw [if_pos e]
theorem cnt_miss1 {f : Nat → Int32} {v : Int32} {l k k2 : Nat} (e : ¬ f (l + k) = v) (h : k2 = k + 1) : cnt f v l k2 = cnt f v l k := by
  subst h
  simp only [cnt]
  rw [if_neg e]
  omega
theorem mj_maj_uni {f : Nat → Int32} {l r : Nat} {v w : Int32} (h : mj_maj f l r v) (h2 : mj_maj f l r w) : v = w := by
  by_cases e : v = w
  · exact e
  · exfalso
    rcases h with ⟨k, a1, a2, a3, a4⟩ | ⟨a1, a2⟩ <;> rcases h2 with ⟨j, b1, b2, b3, b4⟩ | ⟨b1, b2⟩
    · have := cnt_two (f := f) e l (r - l)
      omega
    · have := b2 k a1 a2
      rw [a3] at this
      omega
    · have := a2 j b1 b2
      rw [b3] at this
      omega
    · exact e (a1.trans b1.symm)
def mj_first (P : Nat → Prop) (lo hi : Nat) (none x : Int) : Prop := (∃ m : Nat, lo ≤ m ∧ m < hi ∧ P m ∧ x = (m : Int) ∧ ∀ k : Nat, lo ≤ k → k < m → ¬ P k) ∨ (x = none ∧ ∀ k : Nat, lo ≤ k → k < hi → ¬ P k)
def mj_cutP (f : Nat → Int32) (l r m : Nat) : Prop := ∃ a b : Int32, mj_maj f l m a ∧ mj_maj f m r b ∧ ¬ a = -40000 ∧ ¬ b = -40000 ∧ ¬ a = b
theorem mj_cut_no {f : Nat → Int32} {l r m : Nat} {a b : Int32} (ha : mj_maj f l m a) (hb : mj_maj f m r b) (h : a = -40000 ∨ b = -40000 ∨ a = b) : ¬ mj_cutP f l r m := by
  rintro ⟨x, y, h1, h2, h3, h4, h5⟩
  have e1 := mj_maj_uni h1 ha
  have e2 := mj_maj_uni h2 hb
  subst e1; subst e2
  rcases h with h | h | h
  · exact h3 h
  · exact h4 h
  · exact h5 h
/-- each place's first like one -/
def mj_kd (f fk : Nat → Int32) (n : Nat) : Prop := ∀ k : Nat, k < n → 0 ≤ (fk k).toInt ∧ (fk k).toInt ≤ (k : Int) ∧ f (fk k).toNatClampNeg = f k ∧ ∀ j : Nat, j < (fk k).toNatClampNeg → ¬ f j = f k
theorem mj_kd_0 (f fk : Nat → Int32) {n : Nat} (h : n = 0) : mj_kd f fk n := fun k hk => absurd hk (by omega)
theorem mj_kd_put {f fk : Nat → Int32} {n n2 : Nat} {x : Int32} (h : mj_kd f fk n) (e : n2 = n + 1) (h0 : 0 ≤ x.toInt) (h1 : x.toInt ≤ (n : Int)) (h2 : f x.toNatClampNeg = f n) (h3 : ∀ j : Nat, j < x.toNatClampNeg → ¬ f j = f n) : mj_kd f (upd fk n x) n2 := by
  subst e
  intro k hk
  by_cases hkn : k = n
  · subst hkn
    rw [upd_at]
    exact ⟨h0, h1, h2, h3⟩
  · rw [upd_ne hkn]
    exact h k (by omega)
theorem mj_kd_ok {f fk : Nat → Int32} {n : Nat} {m : Int} (h : mj_kd f fk n) (e : (n : Int) = m) : kindOk fk m := fun k hk => ⟨(h k (by omega)).1, (h k (by omega)).2.1⟩


set_option maxHeartbeats 4000000 in
set_option maxRecDepth 100000 in
theorem c_X5_majority_x (l : Launch) (dC : Nat → ClassId) (dI : Nat → Nat → Nat) (h0 : Nat) (g_row : Nat) (g_many : Nat) (g_loss : Nat) (g_less : Nat) (g_voteValue : Nat) (g_voteNumber : Nat) (g_allValue : Nat) (g_allNumber : Nat) (g_nodeL : Nat) (g_nodeR : Nat) (g_part : Nat) (g_wasMany : Nat) (g_wasLoss : Nat) (g_wasValue : Nat) (g_wasNumber : Nat) (g_path : Nat) (g_heavyValue : Nat) (g_heavyTimes : Nat) (g_fewest : Nat) (g_which : Nat) (g_met : Nat) (m_n : Int32) (m_slots : Int32) (m_thrown : Int32) (m_allMany : Int32) (m_nodes : Int32) (m_partMany : Int32) (m_pathMany : Int32) (m_heavyMany : Int32) (m_mostMet : Int32) (cyI : ClassId) (f : Nat → Int32) (p0 : Int32) (p1 : Int32) (sz : Nat) (a0 : 0 ≤ m_n.toInt) (a1 : m_n.toInt ≤ 160) : kx_MQ l (dC, dI) yX5_majority wsX5_majority ({ frames := 2, cells := 0, slots := 0, locals := 90 }) [.ref h0, .int p0, .int p1] [kx_5 h0 g_row m_n m_slots m_thrown g_many g_loss g_less g_voteValue g_voteNumber g_allValue g_allNumber m_allMany g_nodeL g_nodeR m_nodes g_part m_partMany g_wasMany g_wasLoss g_wasValue g_wasNumber g_path m_pathMany g_heavyValue g_heavyTimes m_heavyMany g_fewest g_which g_met m_mostMet, kx_a g_row cyI 160 f] [(cyI, .int)] sz (fun A => va_Qi (fun (r : Int32) (_ : Unit) => ((0 ≤ p0.toInt ∧ p0.toInt < p1.toInt ∧ p1.toInt ≤ m_n.toInt) ∧ mj_maj f p0.toNatClampNeg p1.toNatClampNeg r) ∨ ((p0.toInt < 0 ∨ p1.toInt ≤ p0.toInt ∨ m_n.toInt < p1.toInt) ∧ r = -40000)) (fun (_ : Unit) (t : State) => va_P (dC, dI) vwCl [kx_5 h0 g_row m_n m_slots 0 g_many g_loss g_less g_voteValue g_voteNumber g_allValue g_allNumber m_allMany g_nodeL g_nodeR m_nodes g_part m_partMany g_wasMany g_wasLoss g_wasValue g_wasNumber g_path m_pathMany g_heavyValue g_heavyTimes m_heavyMany g_fewest g_which g_met m_mostMet, kx_a g_row cyI 160 f] t.heap ∧ va_K (dC, dI) vwCl [(cyI, .int)] t ∧ va_D A [kx_5 h0 g_row m_n m_slots 0 g_many g_loss g_less g_voteValue g_voteNumber g_allValue g_allNumber m_allMany g_nodeL g_nodeR m_nodes g_part m_partMany g_wasMany g_wasLoss g_wasValue g_wasNumber g_path m_pathMany g_heavyValue g_heavyTimes m_heavyMany g_fewest g_which g_met m_mostMet, kx_a g_row cyI 160 f]) A) := by
  refine kx_stQ (ws := wsX5_majority) (cc := cX5_majority) (maxL := 3) (ret := (some .int)) (by decide) rfl (Nat.le_of_ble_eq_true rfl) ?_
  intro p e s m below meth c A ls hx hb hr hlocks hts hown hml hA hS hP hK hD hl
  have hown : s.vm.findClass RX5 = some m.cls := hown
  have hl : lv_has ls 3 [(0, .ref h0), (1, .int p0), (2, .int p1)] := hl
  have hf_77 := hts (.fieldLink RX5 77 "MajorityIndexModel" "thrown" "I") (List.mem_of_getElem? (i := 1) rfl)
  have hi_5 : ∀ w ∈ u_ws RX5 TX5 30, w ∈ wsX5_majority := fun w h => List.mem_cons_of_mem _ (List.mem_append_right _ h)
  have hk_148 := hts (.constant RX5 148 (-40000)) (List.mem_of_getElem? (i := 2) rfl)
  refine lv_aload_n hx hb dX5_majority_0 rfl (lv_at hl 0 rfl) ?_
  refine lv_iconst (v := 0) hx hb dX5_majority_1 (by decide) ?_
  refine va_put (D := (dC, dI)) (ci := 5) (v := .int 0) (ty := .int) (C := RX5) (T := TX5) (N := 30) hx hb hts hi_5 tyX5 tyX5_ok nmX5 hown hK hP hD hS 0 rfl rfl 3 (by decide) hf_77 (fun _ h9 => h9) rfl (by decide +kernel) rfl rfl (Nat.le_of_ble_eq_true rfl) dX5_majority_2 (fun H locs hP hD hS => ?_)
  obtain ⟨hP, hD⟩ := kx_re (w2 := [kx_5 h0 g_row m_n m_slots 0 g_many g_loss g_less g_voteValue g_voteNumber g_allValue g_allNumber m_allMany g_nodeL g_nodeR m_nodes g_part m_partMany g_wasMany g_wasLoss g_wasValue g_wasNumber g_path m_pathMany g_heavyValue g_heavyTimes m_heavyMany g_fewest g_which g_met m_mostMet, kx_a g_row cyI 160 f]) hP hD rfl
  refine lv_aload_n hx hb dX5_majority_5 rfl (lv_at hl 0 rfl) ?_
  refine lv_iload_n hx hb dX5_majority_6 rfl (lv_at hl 1 rfl) ?_
  refine lv_iload_n hx hb dX5_majority_7 rfl (lv_at hl 2 rfl) ?_
  have hPc := hP.sub (ws' := [kx_5 h0 g_row m_n m_slots 0 g_many g_loss g_less g_voteValue g_voteNumber g_allValue g_allNumber m_allMany g_nodeL g_nodeR m_nodes g_part m_partMany g_wasMany g_wasLoss g_wasValue g_wasNumber g_path m_pathMany g_heavyValue g_heavyTimes m_heavyMany g_fewest g_which g_met m_mostMet]) [0] rfl
  have hKc := hK.sub (tys' := []) [] rfl
  refine vp_callSi (W.runV (As := [.int p0, .int p1]) (rest := []) ⟨hx, hb, hml, hown, hts⟩ (c_X5_isRange l dC dI h0 g_row g_many g_loss g_less g_voteValue g_voteNumber g_allValue g_allNumber g_nodeL g_nodeR g_part g_wasMany g_wasLoss g_wasValue g_wasNumber g_path g_heavyValue g_heavyTimes g_fewest g_which g_met m_n m_slots 0 m_allMany m_nodes m_partMany m_pathMany m_heavyMany m_mostMet p0 p1) (cwV 2 hts gX5_majority_X5_isRange rfl rfl rfl (by decide +kernel) ⟨Nat.le_of_ble_eq_true rfl, Nat.le_of_ble_eq_true rfl⟩) ⟨fun a U g mk q => by obtain ⟨q0, qP, qK⟩ := q; exact ⟨q0, qP, va_K.moved (u := U) (U := U.calling g mk a) (Vm.Alike.refl U.vm) qK⟩, kx_rc5 hKc hPc (q0 := 0) rfl, fun U hU hW => ⟨rfl, by rw [hU]; exact hPc, va_K.moved hW.alike hKc⟩⟩ rfl rfl hl.1 rfl (lv_room (Nat.le_of_ble_eq_true rfl)) dX5_majority_8 ⟨Nat.le_of_ble_eq_true rfl, Nat.le_of_ble_eq_true rfl⟩) (fun r_1 w_1 => ?_)
  rcases w_1 with ⟨rfl, w_1⟩ | ⟨rfl, w_1⟩
  · have w_1 : (0 ≤ p0.toInt ∧ p0.toInt < p1.toInt ∧ p1.toInt ≤ m_n.toInt) := w_1
    refine lv_if_eq (tgt := 23) hx hb dX5_majority_11 (by decide) (fun c_2 => ?_) (fun c_2 => ?_)
    · exact absurd c_2 (by decide)
    · refine lv_aload_n hx hb dX5_majority_14 rfl (lv_at hl 0 rfl) ?_
      refine lv_iload_n hx hb dX5_majority_15 rfl (lv_at hl 1 rfl) ?_
      refine lv_iload_n hx hb dX5_majority_16 rfl (lv_at hl 2 rfl) ?_
      have hPc := hP
      have hKc := hK
      refine vp_callSi (W.runV (As := [.int p0, .int p1]) (rest := []) ⟨hx, hb, hml, hown, hts⟩ (c_X5_majorityOf_x l dC dI h0 g_row g_many g_loss g_less g_voteValue g_voteNumber g_allValue g_allNumber g_nodeL g_nodeR g_part g_wasMany g_wasLoss g_wasValue g_wasNumber g_path g_heavyValue g_heavyTimes g_fewest g_which g_met m_n m_slots 0 m_allMany m_nodes m_partMany m_pathMany m_heavyMany m_mostMet cyI f p0 p1 (om_10 w_1.1) (om_167 a1 w_1.2.2) (om_11 w_1.2.1)) (cwV 2 hts gX5_majority_X5_majorityOf rfl rfl rfl (by decide +kernel) ⟨Nat.le_of_ble_eq_true rfl, Nat.le_of_ble_eq_true rfl⟩) ⟨fun a U g mk q => by obtain ⟨q0, qP, qK⟩ := q; exact ⟨q0, qP, va_K.moved (u := U) (U := U.calling g mk a) (Vm.Alike.refl U.vm) qK⟩, kx_rc5 hKc hPc (q0 := 0) rfl, fun U hU hW => ⟨rfl, by rw [hU]; exact hPc, va_K.moved hW.alike hKc⟩⟩ rfl rfl hl.1 rfl (lv_room (Nat.le_of_ble_eq_true rfl)) dX5_majority_17 ⟨Nat.le_of_ble_eq_true rfl, Nat.le_of_ble_eq_true rfl⟩) (fun r_3 w_3 => ?_)
      have w_3 : mj_maj f p0.toNatClampNeg p1.toNatClampNeg r_3 := w_3
      refine lv_goto (tgt := 25) hx hb dX5_majority_20 (by decide) ?_
      have hP9 := hP
      have hD9 := hD
      have hK9 := hK
      exact W.iret (v := r_3) hx hb hr (hlocks := hlocks) (fun t ht hW => ⟨⟨r_3, (), rfl, (Or.inl ⟨(by (try dsimp only); omega), w_3⟩), by rw [ht]; exact hP9, va_K.moved hW.alike hK9, hD9⟩, hS.F ht⟩) hS.2.2 dX5_majority_25
  · have w_1 : (p0.toInt < 0 ∨ p1.toInt ≤ p0.toInt ∨ m_n.toInt < p1.toInt) := w_1
    refine lv_if_eq (tgt := 23) hx hb dX5_majority_11 (by decide) (fun c_4 => ?_) (fun c_4 => ?_)
    · refine lv_ldc (v := (-40000)) hx hb hown hk_148 dX5_majority_23 ?_
      have hP9 := hP
      have hD9 := hD
      have hK9 := hK
      exact W.iret (v := (-40000)) hx hb hr (hlocks := hlocks) (fun t ht hW => ⟨⟨(-40000), (), rfl, (Or.inr ⟨(by (try dsimp only); omega), rfl⟩), by rw [ht]; exact hP9, va_K.moved hW.alike hK9, hD9⟩, hS.F ht⟩) hS.2.2 dX5_majority_25
    · exact absurd c_4 (by decide)

set_option maxHeartbeats 4000000 in
set_option maxRecDepth 100000 in
theorem c_X5_cut_x (l : Launch) (dC : Nat → ClassId) (dI : Nat → Nat → Nat) (h0 : Nat) (g_row : Nat) (g_many : Nat) (g_loss : Nat) (g_less : Nat) (g_voteValue : Nat) (g_voteNumber : Nat) (g_allValue : Nat) (g_allNumber : Nat) (g_nodeL : Nat) (g_nodeR : Nat) (g_part : Nat) (g_wasMany : Nat) (g_wasLoss : Nat) (g_wasValue : Nat) (g_wasNumber : Nat) (g_path : Nat) (g_heavyValue : Nat) (g_heavyTimes : Nat) (g_fewest : Nat) (g_which : Nat) (g_met : Nat) (m_n : Int32) (m_slots : Int32) (m_thrown : Int32) (m_allMany : Int32) (m_nodes : Int32) (m_partMany : Int32) (m_pathMany : Int32) (m_heavyMany : Int32) (m_mostMet : Int32) (cyI : ClassId) (f : Nat → Int32) (p0 : Int32) (p1 : Int32) (sz : Nat) (a0 : 0 ≤ m_n.toInt) (a1 : m_n.toInt ≤ 160) : kx_MQ l (dC, dI) yX5_cut wsX5_cut ({ frames := 2, cells := 0, slots := 0, locals := 90 }) [.ref h0, .int p0, .int p1] [kx_5 h0 g_row m_n m_slots m_thrown g_many g_loss g_less g_voteValue g_voteNumber g_allValue g_allNumber m_allMany g_nodeL g_nodeR m_nodes g_part m_partMany g_wasMany g_wasLoss g_wasValue g_wasNumber g_path m_pathMany g_heavyValue g_heavyTimes m_heavyMany g_fewest g_which g_met m_mostMet, kx_a g_row cyI 160 f] [(cyI, .int)] sz (fun A => va_Qi (fun (r : Int32) (_ : Unit) => ((0 ≤ p0.toInt ∧ p0.toInt < p1.toInt ∧ p1.toInt ≤ m_n.toInt) ∧ mj_first (mj_cutP f p0.toNatClampNeg p1.toNatClampNeg) (p0.toNatClampNeg + 1) p1.toNatClampNeg (-1) r.toInt) ∨ ((p0.toInt < 0 ∨ p1.toInt ≤ p0.toInt ∨ m_n.toInt < p1.toInt) ∧ r = -1)) (fun (_ : Unit) (t : State) => va_P (dC, dI) vwCl [kx_5 h0 g_row m_n m_slots 0 g_many g_loss g_less g_voteValue g_voteNumber g_allValue g_allNumber m_allMany g_nodeL g_nodeR m_nodes g_part m_partMany g_wasMany g_wasLoss g_wasValue g_wasNumber g_path m_pathMany g_heavyValue g_heavyTimes m_heavyMany g_fewest g_which g_met m_mostMet, kx_a g_row cyI 160 f] t.heap ∧ va_K (dC, dI) vwCl [(cyI, .int)] t ∧ va_D A [kx_5 h0 g_row m_n m_slots 0 g_many g_loss g_less g_voteValue g_voteNumber g_allValue g_allNumber m_allMany g_nodeL g_nodeR m_nodes g_part m_partMany g_wasMany g_wasLoss g_wasValue g_wasNumber g_path m_pathMany g_heavyValue g_heavyTimes m_heavyMany g_fewest g_which g_met m_mostMet, kx_a g_row cyI 160 f]) A) := by
  refine kx_stQ (ws := wsX5_cut) (cc := cX5_cut) (maxL := 6) (ret := (some .int)) (by decide) rfl (Nat.le_of_ble_eq_true rfl) ?_
  intro p e s m below meth c A ls hx hb hr hlocks hts hown hml hA hS hP hK hD hl
  have hown : s.vm.findClass RX5 = some m.cls := hown
  have hl : lv_has ls 6 [(0, .ref h0), (1, .int p0), (2, .int p1)] := hl
  have hf_77 := hts (.fieldLink RX5 77 "MajorityIndexModel" "thrown" "I") (List.mem_of_getElem? (i := 1) rfl)
  have hi_5 : ∀ w ∈ u_ws RX5 TX5 30, w ∈ wsX5_cut := fun w h => List.mem_cons_of_mem _ (List.mem_append_right _ h)
  have hk_148 := hts (.constant RX5 148 (-40000)) (List.mem_of_getElem? (i := 2) rfl)
  refine lv_aload_n hx hb dX5_cut_0 rfl (lv_at hl 0 rfl) ?_
  refine lv_iconst (v := 0) hx hb dX5_cut_1 (by decide) ?_
  refine va_put (D := (dC, dI)) (ci := 5) (v := .int 0) (ty := .int) (C := RX5) (T := TX5) (N := 30) hx hb hts hi_5 tyX5 tyX5_ok nmX5 hown hK hP hD hS 0 rfl rfl 3 (by decide) hf_77 (fun _ h9 => h9) rfl (by decide +kernel) rfl rfl (Nat.le_of_ble_eq_true rfl) dX5_cut_2 (fun H locs hP hD hS => ?_)
  obtain ⟨hP, hD⟩ := kx_re (w2 := [kx_5 h0 g_row m_n m_slots 0 g_many g_loss g_less g_voteValue g_voteNumber g_allValue g_allNumber m_allMany g_nodeL g_nodeR m_nodes g_part m_partMany g_wasMany g_wasLoss g_wasValue g_wasNumber g_path m_pathMany g_heavyValue g_heavyTimes m_heavyMany g_fewest g_which g_met m_mostMet, kx_a g_row cyI 160 f]) hP hD rfl
  refine lv_aload_n hx hb dX5_cut_5 rfl (lv_at hl 0 rfl) ?_
  refine lv_iload_n hx hb dX5_cut_6 rfl (lv_at hl 1 rfl) ?_
  refine lv_iload_n hx hb dX5_cut_7 rfl (lv_at hl 2 rfl) ?_
  have hPc := hP.sub (ws' := [kx_5 h0 g_row m_n m_slots 0 g_many g_loss g_less g_voteValue g_voteNumber g_allValue g_allNumber m_allMany g_nodeL g_nodeR m_nodes g_part m_partMany g_wasMany g_wasLoss g_wasValue g_wasNumber g_path m_pathMany g_heavyValue g_heavyTimes m_heavyMany g_fewest g_which g_met m_mostMet]) [0] rfl
  have hKc := hK.sub (tys' := []) [] rfl
  refine vp_callSi (W.runV (As := [.int p0, .int p1]) (rest := []) ⟨hx, hb, hml, hown, hts⟩ (c_X5_isRange l dC dI h0 g_row g_many g_loss g_less g_voteValue g_voteNumber g_allValue g_allNumber g_nodeL g_nodeR g_part g_wasMany g_wasLoss g_wasValue g_wasNumber g_path g_heavyValue g_heavyTimes g_fewest g_which g_met m_n m_slots 0 m_allMany m_nodes m_partMany m_pathMany m_heavyMany m_mostMet p0 p1) (cwV 2 hts gX5_cut_X5_isRange rfl rfl rfl (by decide +kernel) ⟨Nat.le_of_ble_eq_true rfl, Nat.le_of_ble_eq_true rfl⟩) ⟨fun a U g mk q => by obtain ⟨q0, qP, qK⟩ := q; exact ⟨q0, qP, va_K.moved (u := U) (U := U.calling g mk a) (Vm.Alike.refl U.vm) qK⟩, kx_rc5 hKc hPc (q0 := 0) rfl, fun U hU hW => ⟨rfl, by rw [hU]; exact hPc, va_K.moved hW.alike hKc⟩⟩ rfl rfl hl.1 rfl (lv_room (Nat.le_of_ble_eq_true rfl)) dX5_cut_8 ⟨Nat.le_of_ble_eq_true rfl, Nat.le_of_ble_eq_true rfl⟩) (fun r_1 w_1 => ?_)
  rcases w_1 with ⟨rfl, w_1⟩ | ⟨rfl, w_1⟩
  · have w_1 : (0 ≤ p0.toInt ∧ p0.toInt < p1.toInt ∧ p1.toInt ≤ m_n.toInt) := w_1
    refine lv_if_ne (tgt := 16) hx hb dX5_cut_11 (by decide) (fun c_2 => ?_) (fun c_2 => ?_)
    · have n_p0 := ki_nat p0 rfl (om_10 w_1.1)
      have n_p1 := ki_nat p1 rfl (om_21 w_1.1 w_1.2.1)
      refine lv_iload_n hx hb dX5_cut_16 rfl (lv_at hl 1 rfl) ?_
      refine lv_iconst (v := 1) hx hb dX5_cut_17 (by decide) ?_
      refine lv_iadd hx hb dX5_cut_18 ?_
      refine lv_topi (fun y_3 ey_3 => ?_)
      have i_3 : y_3.toInt = p0.toInt + 1 := ki_add ey_3 rfl rfl (om_13 w_1.1) (om_170 a1 w_1.2.1 w_1.2.2)
      refine lv_istore_n (lv' := [(3, .int y_3), (0, .ref h0), (1, .int p0), (2, .int p1)]) hx hb dX5_cut_19 rfl hl (by decide) rfl (fun ls hl => ?_)
      have n_s := ki_nat y_3 rfl (om_34 w_1.1 i_3)
      have LP1 : ∀ (n : Nat) (i : Int32), (p0.toInt + 1 ≤ i.toInt) → (∀ k : Nat, p0.toNatClampNeg + 1 ≤ k → k < i.toNatClampNeg → ¬ mj_cutP f p0.toNatClampNeg p1.toNatClampNeg k) → (i.toInt ≤ p1.toInt) → (p1.toInt - i.toInt).toNat < n → ∀ (H : Heap) (locs : List Loc), va_P (dC, dI) vwCl [kx_5 h0 g_row m_n m_slots 0 g_many g_loss g_less g_voteValue g_voteNumber g_allValue g_allNumber m_allMany g_nodeL g_nodeR m_nodes g_part m_partMany g_wasMany g_wasLoss g_wasValue g_wasNumber g_path m_pathMany g_heavyValue g_heavyTimes m_heavyMany g_fewest g_which g_met m_mostMet, kx_a g_row cyI 160 f] H → va_D A [kx_5 h0 g_row m_n m_slots 0 g_many g_loss g_less g_voteValue g_voteNumber g_allValue g_allNumber m_allMany g_nodeL g_nodeR m_nodes g_part m_partMany g_wasMany g_wasLoss g_wasValue g_wasNumber g_path m_pathMany g_heavyValue g_heavyTimes m_heavyMany g_fewest g_which g_met m_mostMet, kx_a g_row cyI 160 f] → va_S A s.heap H locs → ∀ (ls : Array Slot), lv_has ls 6 [(3, .int i), (0, .ref h0), (1, .int p0), (2, .int p1)] → W p l e (headSpec wsX5_cut ({ frames := 2, cells := 0, slots := 0, locals := 90 })).room s m ([.ref h0, .int p0, .int p1] : List Value).toArray below meth c H locs 0 0 (MQ below (va_Qi (fun (r : Int32) (_ : Unit) => ((0 ≤ p0.toInt ∧ p0.toInt < p1.toInt ∧ p1.toInt ≤ m_n.toInt) ∧ mj_first (mj_cutP f p0.toNatClampNeg p1.toNatClampNeg) (p0.toNatClampNeg + 1) p1.toNatClampNeg (-1) r.toInt) ∨ ((p0.toInt < 0 ∨ p1.toInt ≤ p0.toInt ∨ m_n.toInt < p1.toInt) ∧ r = -1)) (fun (_ : Unit) (t : State) => va_P (dC, dI) vwCl [kx_5 h0 g_row m_n m_slots 0 g_many g_loss g_less g_voteValue g_voteNumber g_allValue g_allNumber m_allMany g_nodeL g_nodeR m_nodes g_part m_partMany g_wasMany g_wasLoss g_wasValue g_wasNumber g_path m_pathMany g_heavyValue g_heavyTimes m_heavyMany g_fewest g_which g_met m_mostMet, kx_a g_row cyI 160 f] t.heap ∧ va_K (dC, dI) vwCl [(cyI, .int)] t ∧ va_D A [kx_5 h0 g_row m_n m_slots 0 g_many g_loss g_less g_voteValue g_voteNumber g_allValue g_allNumber m_allMany g_nodeL g_nodeR m_nodes g_part m_partMany g_wasMany g_wasLoss g_wasValue g_wasNumber g_path m_pathMany g_heavyValue g_heavyTimes m_heavyMany g_fewest g_which g_met m_mostMet, kx_a g_row cyI 160 f]) A) ([.ref h0, .int p0, .int p1] : List Value).toArray s 0 0 A) (F0 m 20 ls []) := by
        intro n
        induction n with
        | zero => intro i LP1_h0 LP1_h1 LP1_h2 hn; exact absurd hn (Nat.not_lt_zero _)
        | succ n ih1 =>
          intro i LP1_h0 LP1_h1 LP1_h2 hn1 H locs hP hD hS ls hl
          have n_i := ki_nat i rfl (om_486 w_1.1 LP1_h0)
          refine lv_iload_n hx hb dX5_cut_20 rfl (lv_at hl 0 rfl) ?_
          refine lv_iload_n hx hb dX5_cut_21 rfl (lv_at hl 3 rfl) ?_
          refine lv_icmp_ge (tgt := 70) hx hb dX5_cut_22 (by decide) (fun c_4 => ?_) (fun c_4 => ?_)
          · have i_4 : p1.toInt ≤ i.toInt := kc_le c_4
            refine lv_iconst (v := (-1)) hx hb dX5_cut_70 (by decide) ?_
            have hP9 := hP
            have hD9 := hD
            have hK9 := hK
            exact W.iret (v := (-1)) hx hb hr (hlocks := hlocks) (fun t ht hW => ⟨⟨(-1), (), rfl, (Or.inl ⟨(by (try dsimp only); omega), Or.inr ⟨rfl, fun k h1 hk => LP1_h1 k h1 (by (try dsimp only); omega)⟩⟩), by rw [ht]; exact hP9, va_K.moved hW.alike hK9, hD9⟩, hS.F ht⟩) hS.2.2 dX5_cut_71
          · have i_4 : i.toInt < p1.toInt := kc_nle c_4
            refine lv_aload_n hx hb dX5_cut_25 rfl (lv_at hl 1 rfl) ?_
            refine lv_iload_n hx hb dX5_cut_26 rfl (lv_at hl 2 rfl) ?_
            refine lv_iload_n hx hb dX5_cut_27 rfl (lv_at hl 0 rfl) ?_
            have hPc := hP
            have hKc := hK
            refine vp_callSi (W.runV (As := [.int p0, .int i]) (rest := []) ⟨hx, hb, hml, hown, hts⟩ (c_X5_majorityOf_x l dC dI h0 g_row g_many g_loss g_less g_voteValue g_voteNumber g_allValue g_allNumber g_nodeL g_nodeR g_part g_wasMany g_wasLoss g_wasValue g_wasNumber g_path g_heavyValue g_heavyTimes g_fewest g_which g_met m_n m_slots 0 m_allMany m_nodes m_partMany m_pathMany m_heavyMany m_mostMet cyI f p0 i (om_10 w_1.1) (om_171 a1 w_1.2.2 i_4) (om_487 LP1_h0)) (cwV 2 hts gX5_cut_X5_majorityOf rfl rfl rfl (by decide +kernel) ⟨Nat.le_of_ble_eq_true rfl, Nat.le_of_ble_eq_true rfl⟩) ⟨fun a U g mk q => by obtain ⟨q0, qP, qK⟩ := q; exact ⟨q0, qP, va_K.moved (u := U) (U := U.calling g mk a) (Vm.Alike.refl U.vm) qK⟩, kx_rc5 hKc hPc (q0 := 0) rfl, fun U hU hW => ⟨rfl, by rw [hU]; exact hPc, va_K.moved hW.alike hKc⟩⟩ rfl rfl hl.1 rfl (lv_room (Nat.le_of_ble_eq_true rfl)) dX5_cut_28 ⟨Nat.le_of_ble_eq_true rfl, Nat.le_of_ble_eq_true rfl⟩) (fun r_5 w_5 => ?_)
            have w_5 : mj_maj f p0.toNatClampNeg i.toNatClampNeg r_5 := w_5
            refine lv_istore (lv' := [(4, .int r_5), (3, .int i), (0, .ref h0), (1, .int p0), (2, .int p1)]) hx hb dX5_cut_31 hl (by decide) rfl (fun ls hl => ?_)
            refine lv_aload_n hx hb dX5_cut_33 rfl (lv_at hl 2 rfl) ?_
            refine lv_iload_n hx hb dX5_cut_34 rfl (lv_at hl 1 rfl) ?_
            refine lv_iload_n hx hb dX5_cut_35 rfl (lv_at hl 4 rfl) ?_
            have hPc := hP
            have hKc := hK
            refine vp_callSi (W.runV (As := [.int i, .int p1]) (rest := []) ⟨hx, hb, hml, hown, hts⟩ (c_X5_majorityOf_x l dC dI h0 g_row g_many g_loss g_less g_voteValue g_voteNumber g_allValue g_allNumber g_nodeL g_nodeR g_part g_wasMany g_wasLoss g_wasValue g_wasNumber g_path g_heavyValue g_heavyTimes g_fewest g_which g_met m_n m_slots 0 m_allMany m_nodes m_partMany m_pathMany m_heavyMany m_mostMet cyI f i p1 (om_486 w_1.1 LP1_h0) (om_167 a1 w_1.2.2) i_4) (cwV 2 hts gX5_cut_X5_majorityOf rfl rfl rfl (by decide +kernel) ⟨Nat.le_of_ble_eq_true rfl, Nat.le_of_ble_eq_true rfl⟩) ⟨fun a U g mk q => by obtain ⟨q0, qP, qK⟩ := q; exact ⟨q0, qP, va_K.moved (u := U) (U := U.calling g mk a) (Vm.Alike.refl U.vm) qK⟩, kx_rc5 hKc hPc (q0 := 0) rfl, fun U hU hW => ⟨rfl, by rw [hU]; exact hPc, va_K.moved hW.alike hKc⟩⟩ rfl rfl hl.1 rfl (lv_room (Nat.le_of_ble_eq_true rfl)) dX5_cut_36 ⟨Nat.le_of_ble_eq_true rfl, Nat.le_of_ble_eq_true rfl⟩) (fun r_6 w_6 => ?_)
            have w_6 : mj_maj f i.toNatClampNeg p1.toNatClampNeg r_6 := w_6
            refine lv_istore (lv' := [(5, .int r_6), (4, .int r_5), (3, .int i), (0, .ref h0), (1, .int p0), (2, .int p1)]) hx hb dX5_cut_39 hl (by decide) rfl (fun ls hl => ?_)
            refine lv_iload hx hb dX5_cut_41 (lv_at hl 1 rfl) ?_
            refine lv_ldc (v := (-40000)) hx hb hown hk_148 dX5_cut_43 ?_
            refine lv_icmp_eq (tgt := 64) hx hb dX5_cut_45 (by decide) (fun c_7 => ?_) (fun c_7 => ?_)
            · have i_7 : r_5.toInt = (-40000) := kc_eq c_7
              obtain ⟨x_8, ex_8⟩ : ∃ y : Int32, y = i + 1 := ⟨_, rfl⟩
              have i_8 : x_8.toInt = i.toInt + 1 := ki_add ex_8 rfl rfl (om_488 w_1.1 LP1_h0) (om_172 a1 w_1.2.2 i_4)
              refine lv_iinc (v := x_8) (lv' := [(3, .int x_8), (5, .int r_6), (4, .int r_5), (0, .ref h0), (1, .int p0), (2, .int p1)]) hx hb dX5_cut_64 hl (k := 2) rfl (by rw [ex_8]; rfl) (by decide) rfl (fun ls hl => ?_)
              refine lv_goto (tgt := 20) hx hb dX5_cut_67 (by decide) ?_
              have n_9 := ki_nat x_8 rfl (om_490 w_1.1 LP1_h0 i_8)
              exact ih1 x_8 (om_489 LP1_h0 i_8) (fun k h1 hk => if h9 : k < i.toNatClampNeg then LP1_h1 k h1 h9 else (by rw [show k = i.toNatClampNeg by omega]; exact mj_cut_no w_5 w_6 (Or.inl c_7))) (om_54 i_4 i_8) (om_mu hn1 (om_5 i_8) (om_6 i_4)) _ _ hP hD hS ls (lv_sub hl [0, 3, 4, 5] rfl)
            · have i_7 : ¬ r_5.toInt = (-40000) := kc_ne c_7
              refine lv_iload hx hb dX5_cut_48 (lv_at hl 0 rfl) ?_
              refine lv_ldc (v := (-40000)) hx hb hown hk_148 dX5_cut_50 ?_
              refine lv_icmp_eq (tgt := 64) hx hb dX5_cut_52 (by decide) (fun c_10 => ?_) (fun c_10 => ?_)
              · have i_10 : r_6.toInt = (-40000) := kc_eq c_10
                obtain ⟨x_11, ex_11⟩ : ∃ y : Int32, y = i + 1 := ⟨_, rfl⟩
                have i_11 : x_11.toInt = i.toInt + 1 := ki_add ex_11 rfl rfl (om_488 w_1.1 LP1_h0) (om_172 a1 w_1.2.2 i_4)
                refine lv_iinc (v := x_11) (lv' := [(3, .int x_11), (5, .int r_6), (4, .int r_5), (0, .ref h0), (1, .int p0), (2, .int p1)]) hx hb dX5_cut_64 hl (k := 2) rfl (by rw [ex_11]; rfl) (by decide) rfl (fun ls hl => ?_)
                refine lv_goto (tgt := 20) hx hb dX5_cut_67 (by decide) ?_
                have n_12 := ki_nat x_11 rfl (om_490 w_1.1 LP1_h0 i_11)
                exact ih1 x_11 (om_489 LP1_h0 i_11) (fun k h1 hk => if h9 : k < i.toNatClampNeg then LP1_h1 k h1 h9 else (by rw [show k = i.toNatClampNeg by omega]; exact mj_cut_no w_5 w_6 (Or.inr (Or.inl c_10)))) (om_54 i_4 i_11) (om_mu hn1 (om_5 i_11) (om_6 i_4)) _ _ hP hD hS ls (lv_sub hl [0, 3, 4, 5] rfl)
              · have i_10 : ¬ r_6.toInt = (-40000) := kc_ne c_10
                refine lv_iload hx hb dX5_cut_55 (lv_at hl 1 rfl) ?_
                refine lv_iload hx hb dX5_cut_57 (lv_at hl 0 rfl) ?_
                refine lv_icmp_eq (tgt := 64) hx hb dX5_cut_59 (by decide) (fun c_13 => ?_) (fun c_13 => ?_)
                · have i_13 : r_5.toInt = r_6.toInt := kc_eq c_13
                  obtain ⟨x_14, ex_14⟩ : ∃ y : Int32, y = i + 1 := ⟨_, rfl⟩
                  have i_14 : x_14.toInt = i.toInt + 1 := ki_add ex_14 rfl rfl (om_488 w_1.1 LP1_h0) (om_172 a1 w_1.2.2 i_4)
                  refine lv_iinc (v := x_14) (lv' := [(3, .int x_14), (5, .int r_6), (4, .int r_5), (0, .ref h0), (1, .int p0), (2, .int p1)]) hx hb dX5_cut_64 hl (k := 2) rfl (by rw [ex_14]; rfl) (by decide) rfl (fun ls hl => ?_)
                  refine lv_goto (tgt := 20) hx hb dX5_cut_67 (by decide) ?_
                  have n_15 := ki_nat x_14 rfl (om_490 w_1.1 LP1_h0 i_14)
                  exact ih1 x_14 (om_489 LP1_h0 i_14) (fun k h1 hk => if h9 : k < i.toNatClampNeg then LP1_h1 k h1 h9 else (by rw [show k = i.toNatClampNeg by omega]; exact mj_cut_no w_5 w_6 (Or.inr (Or.inr c_13)))) (om_54 i_4 i_14) (om_mu hn1 (om_5 i_14) (om_6 i_4)) _ _ hP hD hS ls (lv_sub hl [0, 3, 4, 5] rfl)
                · have i_13 : ¬ r_5.toInt = r_6.toInt := kc_ne c_13
                  refine lv_iload_n hx hb dX5_cut_62 rfl (lv_at hl 2 rfl) ?_
                  have hP9 := hP
                  have hD9 := hD
                  have hK9 := hK
                  exact W.iret (v := i) hx hb hr (hlocks := hlocks) (fun t ht hW => ⟨⟨i, (), rfl, (Or.inl ⟨(by (try dsimp only); omega), Or.inl ⟨i.toNatClampNeg, (by (try dsimp only); omega), (by (try dsimp only); omega), ⟨_, _, w_5, w_6, c_7, c_10, c_13⟩, (by (try dsimp only); omega), fun k h1 hk => LP1_h1 k h1 hk⟩⟩), by rw [ht]; exact hP9, va_K.moved hW.alike hK9, hD9⟩, hS.F ht⟩) hS.2.2 dX5_cut_63
      exact LP1 ((p1.toInt - y_3.toInt : Int).toNat + 1) y_3 (om_491 i_3) (fun k h1 hk => absurd hk (by omega)) (om_54 w_1.2.1 i_3) (Nat.lt_succ_self _) _ _ hP hD hS ls (lv_sub hl [0, 1, 2, 3] rfl)
    · exact absurd c_2 (by decide)
  · have w_1 : (p0.toInt < 0 ∨ p1.toInt ≤ p0.toInt ∨ m_n.toInt < p1.toInt) := w_1
    refine lv_if_ne (tgt := 16) hx hb dX5_cut_11 (by decide) (fun c_16 => ?_) (fun c_16 => ?_)
    · exact absurd c_16 (by decide)
    · refine lv_iconst (v := (-1)) hx hb dX5_cut_14 (by decide) ?_
      have hP9 := hP
      have hD9 := hD
      have hK9 := hK
      exact W.iret (v := (-1)) hx hb hr (hlocks := hlocks) (fun t ht hW => ⟨⟨(-1), (), rfl, (Or.inr ⟨(by (try dsimp only); omega), rfl⟩), by rw [ht]; exact hP9, va_K.moved hW.alike hK9, hD9⟩, hS.F ht⟩) hS.2.2 dX5_cut_15

set_option maxHeartbeats 4000000 in
set_option maxRecDepth 100000 in
theorem c_X5_would_x (l : Launch) (dC : Nat → ClassId) (dI : Nat → Nat → Nat) (h0 : Nat) (g_row : Nat) (g_many : Nat) (g_loss : Nat) (g_less : Nat) (g_voteValue : Nat) (g_voteNumber : Nat) (g_allValue : Nat) (g_allNumber : Nat) (g_nodeL : Nat) (g_nodeR : Nat) (g_part : Nat) (g_wasMany : Nat) (g_wasLoss : Nat) (g_wasValue : Nat) (g_wasNumber : Nat) (g_path : Nat) (g_heavyValue : Nat) (g_heavyTimes : Nat) (g_fewest : Nat) (g_which : Nat) (g_met : Nat) (m_n : Int32) (m_slots : Int32) (m_thrown : Int32) (m_allMany : Int32) (m_nodes : Int32) (m_partMany : Int32) (m_pathMany : Int32) (m_heavyMany : Int32) (m_mostMet : Int32) (cyI : ClassId) (f : Nat → Int32) (p0 : Int32) (p1 : Int32) (p2 : Int32) (p3 : Int32) (sz : Nat) (a0 : 0 ≤ m_n.toInt) (a1 : m_n.toInt ≤ 160) : kx_MQ l (dC, dI) yX5_would wsX5_would ({ frames := 2, cells := 0, slots := 0, locals := 90 }) [.ref h0, .int p0, .int p1, .int p2, .int p3] [kx_5 h0 g_row m_n m_slots m_thrown g_many g_loss g_less g_voteValue g_voteNumber g_allValue g_allNumber m_allMany g_nodeL g_nodeR m_nodes g_part m_partMany g_wasMany g_wasLoss g_wasValue g_wasNumber g_path m_pathMany g_heavyValue g_heavyTimes m_heavyMany g_fewest g_which g_met m_mostMet, kx_a g_row cyI 160 f] [(cyI, .int)] sz (fun A => va_Qi (fun (r : Int32) (u : (Nat → Int32)) => (((0 ≤ p0.toInt ∧ p0.toInt < m_n.toInt ∧ -32768 ≤ p1.toInt ∧ p1.toInt ≤ 32767 ∧ 0 ≤ p2.toInt ∧ p2.toInt < p3.toInt ∧ p3.toInt ≤ m_n.toInt) ∧ mj_maj (upd f p0.toNatClampNeg p1) p2.toNatClampNeg p3.toNatClampNeg r) ∨ ((p0.toInt < 0 ∨ m_n.toInt ≤ p0.toInt ∨ p1.toInt < -32768 ∨ 32767 < p1.toInt ∨ p2.toInt < 0 ∨ p3.toInt ≤ p2.toInt ∨ m_n.toInt < p3.toInt) ∧ r = -40000)) ∧ u = f) (fun (u : (Nat → Int32)) (t : State) => va_P (dC, dI) vwCl [kx_5 h0 g_row m_n m_slots 0 g_many g_loss g_less g_voteValue g_voteNumber g_allValue g_allNumber m_allMany g_nodeL g_nodeR m_nodes g_part m_partMany g_wasMany g_wasLoss g_wasValue g_wasNumber g_path m_pathMany g_heavyValue g_heavyTimes m_heavyMany g_fewest g_which g_met m_mostMet, kx_a g_row cyI 160 u] t.heap ∧ va_K (dC, dI) vwCl [(cyI, .int)] t ∧ va_D A [kx_5 h0 g_row m_n m_slots 0 g_many g_loss g_less g_voteValue g_voteNumber g_allValue g_allNumber m_allMany g_nodeL g_nodeR m_nodes g_part m_partMany g_wasMany g_wasLoss g_wasValue g_wasNumber g_path m_pathMany g_heavyValue g_heavyTimes m_heavyMany g_fewest g_which g_met m_mostMet, kx_a g_row cyI 160 u]) A) := by
  refine kx_stQ (ws := wsX5_would) (cc := cX5_would) (maxL := 7) (ret := (some .int)) (by decide) rfl (Nat.le_of_ble_eq_true rfl) ?_
  intro p e s m below meth c A ls hx hb hr hlocks hts hown hml hA hS hP hK hD hl
  have hown : s.vm.findClass RX5 = some m.cls := hown
  have hl : lv_has ls 7 [(0, .ref h0), (1, .int p0), (2, .int p1), (3, .int p2), (4, .int p3)] := hl
  have hf_77 := hts (.fieldLink RX5 77 "MajorityIndexModel" "thrown" "I") (List.mem_of_getElem? (i := 1) rfl)
  have hi_5 : ∀ w ∈ u_ws RX5 TX5 30, w ∈ wsX5_would := fun w h => List.mem_cons_of_mem _ (List.mem_append_right _ h)
  have hf_7 := hts (.fieldLink RX5 7 "MajorityIndexModel" "row" "[I") (List.mem_of_getElem? (i := 3) rfl)
  have hk_148 := hts (.constant RX5 148 (-40000)) (List.mem_of_getElem? (i := 2) rfl)
  refine lv_aload_n hx hb dX5_would_0 rfl (lv_at hl 0 rfl) ?_
  refine lv_iconst (v := 0) hx hb dX5_would_1 (by decide) ?_
  refine va_put (D := (dC, dI)) (ci := 5) (v := .int 0) (ty := .int) (C := RX5) (T := TX5) (N := 30) hx hb hts hi_5 tyX5 tyX5_ok nmX5 hown hK hP hD hS 0 rfl rfl 3 (by decide) hf_77 (fun _ h9 => h9) rfl (by decide +kernel) rfl rfl (Nat.le_of_ble_eq_true rfl) dX5_would_2 (fun H locs hP hD hS => ?_)
  obtain ⟨hP, hD⟩ := kx_re (w2 := [kx_5 h0 g_row m_n m_slots 0 g_many g_loss g_less g_voteValue g_voteNumber g_allValue g_allNumber m_allMany g_nodeL g_nodeR m_nodes g_part m_partMany g_wasMany g_wasLoss g_wasValue g_wasNumber g_path m_pathMany g_heavyValue g_heavyTimes m_heavyMany g_fewest g_which g_met m_mostMet, kx_a g_row cyI 160 f]) hP hD rfl
  refine lv_aload_n hx hb dX5_would_5 rfl (lv_at hl 0 rfl) ?_
  refine lv_iload_n hx hb dX5_would_6 rfl (lv_at hl 1 rfl) ?_
  have hPc := hP.sub (ws' := [kx_5 h0 g_row m_n m_slots 0 g_many g_loss g_less g_voteValue g_voteNumber g_allValue g_allNumber m_allMany g_nodeL g_nodeR m_nodes g_part m_partMany g_wasMany g_wasLoss g_wasValue g_wasNumber g_path m_pathMany g_heavyValue g_heavyTimes m_heavyMany g_fewest g_which g_met m_mostMet]) [0] rfl
  have hKc := hK.sub (tys' := []) [] rfl
  refine vp_callSi (W.runV (As := [.int p0]) (rest := []) ⟨hx, hb, hml, hown, hts⟩ (c_X5_isPlace l dC dI h0 g_row g_many g_loss g_less g_voteValue g_voteNumber g_allValue g_allNumber g_nodeL g_nodeR g_part g_wasMany g_wasLoss g_wasValue g_wasNumber g_path g_heavyValue g_heavyTimes g_fewest g_which g_met m_n m_slots 0 m_allMany m_nodes m_partMany m_pathMany m_heavyMany m_mostMet p0 a0 a1) (cwV 1 hts gX5_would_X5_isPlace rfl rfl rfl (by decide +kernel) ⟨Nat.le_of_ble_eq_true rfl, Nat.le_of_ble_eq_true rfl⟩) ⟨fun a U g mk q => by obtain ⟨q0, qP, qK⟩ := q; exact ⟨q0, qP, va_K.moved (u := U) (U := U.calling g mk a) (Vm.Alike.refl U.vm) qK⟩, kx_rc5 hKc hPc (q0 := 0) rfl, fun U hU hW => ⟨rfl, by rw [hU]; exact hPc, va_K.moved hW.alike hKc⟩⟩ rfl rfl hl.1 rfl (lv_room (Nat.le_of_ble_eq_true rfl)) dX5_would_7 ⟨Nat.le_of_ble_eq_true rfl, Nat.le_of_ble_eq_true rfl⟩) (fun r_1 w_1 => ?_)
  rcases w_1 with ⟨rfl, w_1⟩ | ⟨rfl, w_1⟩
  · have w_1 : (0 ≤ p0.toInt ∧ p0.toInt < m_n.toInt) := w_1
    refine lv_if_eq (tgt := 30) hx hb dX5_would_10 (by decide) (fun c_2 => ?_) (fun c_2 => ?_)
    · exact absurd c_2 (by decide)
    · refine lv_iload_n hx hb dX5_would_13 rfl (lv_at hl 2 rfl) ?_
      have hPc := hP.sub (ws' := []) [] rfl
      have hKc := hK.sub (tys' := []) [] rfl
      refine vp_callSi (W.runS (As := [.int p1]) (rest := []) ⟨hx, hb, hml, hown, hts⟩ (c_X5_isValue l dC dI p1) (va_cwS 1 hts gX5_would_X5_isValue rfl rfl rfl (by decide +kernel) ⟨Nat.le_of_ble_eq_true rfl, Nat.le_of_ble_eq_true rfl⟩) ⟨fun a U g mk q => by obtain ⟨q0, qP, qK⟩ := q; exact ⟨q0, qP, va_K.moved (u := U) (U := U.calling g mk a) (Vm.Alike.refl U.vm) qK⟩, fun U hU hW => ⟨rfl, by rw [hU]; exact hPc, va_K.moved hW.alike hKc⟩⟩ rfl rfl hl.1 rfl (lv_room (Nat.le_of_ble_eq_true rfl)) dX5_would_14 ⟨Nat.le_of_ble_eq_true rfl, Nat.le_of_ble_eq_true rfl⟩) (fun r_3 w_3 => ?_)
      rcases w_3 with ⟨rfl, w_3⟩ | ⟨rfl, w_3⟩
      · have w_3 : (-32768 ≤ p1.toInt ∧ p1.toInt ≤ 32767) := w_3
        refine lv_if_eq (tgt := 30) hx hb dX5_would_17 (by decide) (fun c_4 => ?_) (fun c_4 => ?_)
        · exact absurd c_4 (by decide)
        · refine lv_aload_n hx hb dX5_would_20 rfl (lv_at hl 0 rfl) ?_
          refine lv_iload_n hx hb dX5_would_21 rfl (lv_at hl 3 rfl) ?_
          refine lv_iload hx hb dX5_would_22 (lv_at hl 4 rfl) ?_
          have hPc := hP.sub (ws' := [kx_5 h0 g_row m_n m_slots 0 g_many g_loss g_less g_voteValue g_voteNumber g_allValue g_allNumber m_allMany g_nodeL g_nodeR m_nodes g_part m_partMany g_wasMany g_wasLoss g_wasValue g_wasNumber g_path m_pathMany g_heavyValue g_heavyTimes m_heavyMany g_fewest g_which g_met m_mostMet]) [0] rfl
          have hKc := hK.sub (tys' := []) [] rfl
          refine vp_callSi (W.runV (As := [.int p2, .int p3]) (rest := []) ⟨hx, hb, hml, hown, hts⟩ (c_X5_isRange l dC dI h0 g_row g_many g_loss g_less g_voteValue g_voteNumber g_allValue g_allNumber g_nodeL g_nodeR g_part g_wasMany g_wasLoss g_wasValue g_wasNumber g_path g_heavyValue g_heavyTimes g_fewest g_which g_met m_n m_slots 0 m_allMany m_nodes m_partMany m_pathMany m_heavyMany m_mostMet p2 p3) (cwV 2 hts gX5_would_X5_isRange rfl rfl rfl (by decide +kernel) ⟨Nat.le_of_ble_eq_true rfl, Nat.le_of_ble_eq_true rfl⟩) ⟨fun a U g mk q => by obtain ⟨q0, qP, qK⟩ := q; exact ⟨q0, qP, va_K.moved (u := U) (U := U.calling g mk a) (Vm.Alike.refl U.vm) qK⟩, kx_rc5 hKc hPc (q0 := 0) rfl, fun U hU hW => ⟨rfl, by rw [hU]; exact hPc, va_K.moved hW.alike hKc⟩⟩ rfl rfl hl.1 rfl (lv_room (Nat.le_of_ble_eq_true rfl)) dX5_would_24 ⟨Nat.le_of_ble_eq_true rfl, Nat.le_of_ble_eq_true rfl⟩) (fun r_5 w_5 => ?_)
          rcases w_5 with ⟨rfl, w_5⟩ | ⟨rfl, w_5⟩
          · have w_5 : (0 ≤ p2.toInt ∧ p2.toInt < p3.toInt ∧ p3.toInt ≤ m_n.toInt) := w_5
            refine lv_if_ne (tgt := 33) hx hb dX5_would_27 (by decide) (fun c_6 => ?_) (fun c_6 => ?_)
            · refine lv_aload_n hx hb dX5_would_33 rfl (lv_at hl 0 rfl) ?_
              refine va_get (D := (dC, dI)) (ci := 5) (v := .ref g_row) (C := RX5) (T := TX5) (N := 30) hx hb hts hi_5 hown hK hP 0 rfl rfl 0 (by decide) hf_7 (fun _ h9 => h9) rfl dX5_would_34 ?_
              refine lv_iload_n hx hb dX5_would_37 rfl (lv_at hl 1 rfl) ?_
              refine va_iald hx hb hK hP 1 0 rfl rfl (ki_in (om_10 w_1.1) (om_1 a1 w_1.2)) dX5_would_38 ?_
              refine lv_topi (fun y_7 ey_7 => ?_)
              have j_7 : y_7.toInt = (f p0.toNatClampNeg).toInt := congrArg Int32.toInt ey_7
              refine lv_istore (lv' := [(5, .int y_7), (0, .ref h0), (1, .int p0), (2, .int p1), (3, .int p2), (4, .int p3)]) hx hb dX5_would_39 hl (by decide) rfl (fun ls hl => ?_)
              refine lv_aload_n hx hb dX5_would_41 rfl (lv_at hl 1 rfl) ?_
              refine va_get (D := (dC, dI)) (ci := 5) (v := .ref g_row) (C := RX5) (T := TX5) (N := 30) hx hb hts hi_5 hown hK hP 0 rfl rfl 0 (by decide) hf_7 (fun _ h9 => h9) rfl dX5_would_42 ?_
              refine lv_iload_n hx hb dX5_would_45 rfl (lv_at hl 2 rfl) ?_
              refine lv_iload_n hx hb dX5_would_46 rfl (lv_at hl 3 rfl) ?_
              refine va_iast hx hb hK hP hD hS 1 0 rfl rfl (ki_in (om_10 w_1.1) (om_1 a1 w_1.2)) dX5_would_47 (fun H locs hP hD hS => ?_)
              obtain ⟨hP, hD⟩ := kx_re (w2 := [kx_5 h0 g_row m_n m_slots 0 g_many g_loss g_less g_voteValue g_voteNumber g_allValue g_allNumber m_allMany g_nodeL g_nodeR m_nodes g_part m_partMany g_wasMany g_wasLoss g_wasValue g_wasNumber g_path m_pathMany g_heavyValue g_heavyTimes m_heavyMany g_fewest g_which g_met m_mostMet, kx_a g_row cyI 160 (upd f p0.toNatClampNeg p1)]) hP hD rfl
              refine lv_aload_n hx hb dX5_would_48 rfl (lv_at hl 1 rfl) ?_
              refine lv_iload_n hx hb dX5_would_49 rfl (lv_at hl 4 rfl) ?_
              refine lv_iload hx hb dX5_would_50 (lv_at hl 5 rfl) ?_
              have hPc := hP
              have hKc := hK
              refine vp_callSi (W.runV (As := [.int p2, .int p3]) (rest := []) ⟨hx, hb, hml, hown, hts⟩ (c_X5_majorityOf_x l dC dI h0 g_row g_many g_loss g_less g_voteValue g_voteNumber g_allValue g_allNumber g_nodeL g_nodeR g_part g_wasMany g_wasLoss g_wasValue g_wasNumber g_path g_heavyValue g_heavyTimes g_fewest g_which g_met m_n m_slots 0 m_allMany m_nodes m_partMany m_pathMany m_heavyMany m_mostMet cyI (upd f p0.toNatClampNeg p1) p2 p3 (om_10 w_5.1) (om_167 a1 w_5.2.2) (om_11 w_5.2.1)) (cwV 2 hts gX5_would_X5_majorityOf rfl rfl rfl (by decide +kernel) ⟨Nat.le_of_ble_eq_true rfl, Nat.le_of_ble_eq_true rfl⟩) ⟨fun a U g mk q => by obtain ⟨q0, qP, qK⟩ := q; exact ⟨q0, qP, va_K.moved (u := U) (U := U.calling g mk a) (Vm.Alike.refl U.vm) qK⟩, kx_rc5 hKc hPc (q0 := 0) rfl, fun U hU hW => ⟨rfl, by rw [hU]; exact hPc, va_K.moved hW.alike hKc⟩⟩ rfl rfl hl.1 rfl (lv_room (Nat.le_of_ble_eq_true rfl)) dX5_would_52 ⟨Nat.le_of_ble_eq_true rfl, Nat.le_of_ble_eq_true rfl⟩) (fun r_8 w_8 => ?_)
              have w_8 : mj_maj (upd f p0.toNatClampNeg p1) p2.toNatClampNeg p3.toNatClampNeg r_8 := w_8
              refine lv_istore (lv' := [(6, .int r_8), (5, .int y_7), (0, .ref h0), (1, .int p0), (2, .int p1), (3, .int p2), (4, .int p3)]) hx hb dX5_would_55 hl (by decide) rfl (fun ls hl => ?_)
              refine lv_aload_n hx hb dX5_would_57 rfl (lv_at hl 2 rfl) ?_
              refine va_get (D := (dC, dI)) (ci := 5) (v := .ref g_row) (C := RX5) (T := TX5) (N := 30) hx hb hts hi_5 hown hK hP 0 rfl rfl 0 (by decide) hf_7 (fun _ h9 => h9) rfl dX5_would_58 ?_
              refine lv_iload_n hx hb dX5_would_61 rfl (lv_at hl 3 rfl) ?_
              refine lv_iload hx hb dX5_would_62 (lv_at hl 1 rfl) ?_
              refine va_iast hx hb hK hP hD hS 1 0 rfl rfl (ki_in (om_10 w_1.1) (om_1 a1 w_1.2)) dX5_would_64 (fun H locs hP hD hS => ?_)
              obtain ⟨hP, hD⟩ := kx_re (w2 := [kx_5 h0 g_row m_n m_slots 0 g_many g_loss g_less g_voteValue g_voteNumber g_allValue g_allNumber m_allMany g_nodeL g_nodeR m_nodes g_part m_partMany g_wasMany g_wasLoss g_wasValue g_wasNumber g_path m_pathMany g_heavyValue g_heavyTimes m_heavyMany g_fewest g_which g_met m_mostMet, kx_a g_row cyI 160 (upd (upd f p0.toNatClampNeg p1) p0.toNatClampNeg y_7)]) hP hD rfl
              refine lv_iload hx hb dX5_would_65 (lv_at hl 0 rfl) ?_
              have hP9 := hP
              have hD9 := hD
              have hK9 := hK
              exact W.iret (v := r_8) hx hb hr (hlocks := hlocks) (fun t ht hW => ⟨⟨r_8, ((upd (upd f p0.toNatClampNeg p1) p0.toNatClampNeg y_7)), rfl, ⟨Or.inl ⟨(by (try dsimp only); omega), w_8⟩, (by (try dsimp only); rw [ey_7]; exact upd_back _ _ _)⟩, by rw [ht]; exact hP9, va_K.moved hW.alike hK9, hD9⟩, hS.F ht⟩) hS.2.2 dX5_would_67
            · exact absurd c_6 (by decide)
          · have w_5 : (p2.toInt < 0 ∨ p3.toInt ≤ p2.toInt ∨ m_n.toInt < p3.toInt) := w_5
            refine lv_if_ne (tgt := 33) hx hb dX5_would_27 (by decide) (fun c_9 => ?_) (fun c_9 => ?_)
            · exact absurd c_9 (by decide)
            · refine lv_ldc (v := (-40000)) hx hb hown hk_148 dX5_would_30 ?_
              have hP9 := hP
              have hD9 := hD
              have hK9 := hK
              exact W.iret (v := (-40000)) hx hb hr (hlocks := hlocks) (fun t ht hW => ⟨⟨(-40000), (f), rfl, ⟨Or.inr ⟨(by (try dsimp only); omega), rfl⟩, rfl⟩, by rw [ht]; exact hP9, va_K.moved hW.alike hK9, hD9⟩, hS.F ht⟩) hS.2.2 dX5_would_32
      · have w_3 : (p1.toInt < -32768 ∨ 32767 < p1.toInt) := w_3
        refine lv_if_eq (tgt := 30) hx hb dX5_would_17 (by decide) (fun c_10 => ?_) (fun c_10 => ?_)
        · refine lv_ldc (v := (-40000)) hx hb hown hk_148 dX5_would_30 ?_
          have hP9 := hP
          have hD9 := hD
          have hK9 := hK
          exact W.iret (v := (-40000)) hx hb hr (hlocks := hlocks) (fun t ht hW => ⟨⟨(-40000), (f), rfl, ⟨Or.inr ⟨(by (try dsimp only); omega), rfl⟩, rfl⟩, by rw [ht]; exact hP9, va_K.moved hW.alike hK9, hD9⟩, hS.F ht⟩) hS.2.2 dX5_would_32
        · exact absurd c_10 (by decide)
  · have w_1 : (p0.toInt < 0 ∨ m_n.toInt ≤ p0.toInt) := w_1
    refine lv_if_eq (tgt := 30) hx hb dX5_would_10 (by decide) (fun c_11 => ?_) (fun c_11 => ?_)
    · refine lv_ldc (v := (-40000)) hx hb hown hk_148 dX5_would_30 ?_
      have hP9 := hP
      have hD9 := hD
      have hK9 := hK
      exact W.iret (v := (-40000)) hx hb hr (hlocks := hlocks) (fun t ht hW => ⟨⟨(-40000), (f), rfl, ⟨Or.inr ⟨(by (try dsimp only); omega), rfl⟩, rfl⟩, by rw [ht]; exact hP9, va_K.moved hW.alike hK9, hD9⟩, hS.F ht⟩) hS.2.2 dX5_would_32
    · exact absurd c_11 (by decide)



set_option maxHeartbeats 4000000 in
set_option maxRecDepth 100000 in
theorem c_X0_firstLike_x (l : Launch) (dC : Nat → ClassId) (dI : Nat → Nat → Nat) (h0 : Nat) (h1 : Nat) (cyI : ClassId) (len : Int32) (f : Nat → Int32) (p0 : Int32) (b0 : 0 ≤ p0.toInt) (b1 : p0.toInt < 160) : Met l yX0_firstLike wsX0_firstLike ({ frames := 0, cells := 0, slots := 0, locals := 0 }) (va_Pc [.ref h0, .int p0] (fun U => va_P (dC, dI) vwCl [kx_0 h0 h1 len, kx_a h1 cyI 160 f] U.heap ∧ va_K (dC, dI) vwCl [(cyI, .int)] U)) (vp_Si (fun r : Int32 => 0 ≤ r.toInt ∧ r.toInt ≤ p0.toInt ∧ f r.toNatClampNeg = f p0.toNatClampNeg ∧ ∀ j : Nat, j < r.toNatClampNeg → ¬ f j = f p0.toNatClampNeg)) 0 0 (fun _ => False) := by
  refine kx_stS (ws := wsX0_firstLike) (cc := cX0_firstLike) (maxL := 3) (ret := (some .int)) (by decide) rfl (Nat.le_of_ble_eq_true rfl) ?_
  intro p e s m below meth c ls hx hb hr hlocks hts hown hml hP hK hl
  have hown : s.vm.findClass RX0 = some m.cls := hown
  have hl : lv_has ls 3 [(0, .ref h0), (1, .int p0)] := hl
  have hf_9 := hts (.fieldLink RX0 9 "MajorityIndex$Row" "cell" "[I") (List.mem_of_getElem? (i := 1) rfl)
  have hi_0 : ∀ w ∈ u_ws RX0 TX0 2, w ∈ wsX0_firstLike := fun w h => List.mem_cons_of_mem _ (List.mem_append_right _ h)
  refine lv_iconst (v := 0) hx hb dX0_firstLike_0 (by decide) ?_
  refine lv_istore_n (lv' := [(2, .int 0), (0, .ref h0), (1, .int p0)]) hx hb dX0_firstLike_1 rfl hl (by decide) rfl (fun ls hl => ?_)
  have LP1 : ∀ (n : Nat) (i : Int32), (0 ≤ i.toInt) → (∀ j : Nat, j < i.toNatClampNeg → ¬ f j = f p0.toNatClampNeg) → (i.toInt ≤ p0.toInt) → (p0.toInt - i.toInt).toNat < n → ∀ (ls : Array Slot), lv_has ls 3 [(2, .int i), (0, .ref h0), (1, .int p0)] → W p l e (headSpec wsX0_firstLike ({ frames := 0, cells := 0, slots := 0, locals := 0 })).room s m ([.ref h0, .int p0] : List Value).toArray below meth c s.heap [] 0 0 (MQ below (vp_Si (fun r : Int32 => 0 ≤ r.toInt ∧ r.toInt ≤ p0.toInt ∧ f r.toNatClampNeg = f p0.toNatClampNeg ∧ ∀ j : Nat, j < r.toNatClampNeg → ¬ f j = f p0.toNatClampNeg)) ([.ref h0, .int p0] : List Value).toArray s 0 0 (fun _ => False)) (F0 m 2 ls []) := by
    intro n
    induction n with
    | zero => intro i LP1_h0 LP1_h1 LP1_h2 hn; exact absurd hn (Nat.not_lt_zero _)
    | succ n ih1 =>
      intro i LP1_h0 LP1_h1 LP1_h2 hn1 ls hl
      have n_i := ki_nat i rfl (om_10 LP1_h0)
      have n_p0 := ki_nat p0 rfl (om_10 b0)
      refine lv_iload_n hx hb dX0_firstLike_2 rfl (lv_at hl 0 rfl) ?_
      refine lv_iload_n hx hb dX0_firstLike_3 rfl (lv_at hl 2 rfl) ?_
      refine lv_icmp_ge (tgt := 30) hx hb dX0_firstLike_4 (by decide) (fun c_1 => ?_) (fun c_1 => ?_)
      · have i_1 : p0.toInt ≤ i.toInt := kc_le c_1
        refine lv_iload_n hx hb dX0_firstLike_30 rfl (lv_at hl 2 rfl) ?_
        exact W.iret (v := p0) hx hb hr (hlocks := hlocks) (fun t ht hW => ⟨p0, rfl, ⟨(by (try dsimp only); omega), (by (try dsimp only); omega), rfl, fun j hj => LP1_h1 j (by (try dsimp only); omega)⟩, ht⟩) (fun q hq => by cases hq) dX0_firstLike_31
      · have i_1 : i.toInt < p0.toInt := kc_nle c_1
        refine lv_aload_n hx hb dX0_firstLike_7 rfl (lv_at hl 1 rfl) ?_
        refine va_get (D := (dC, dI)) (ci := 0) (v := .ref h1) (C := RX0) (T := TX0) (N := 2) hx hb hts hi_0 hown hK hP 0 rfl rfl 0 (by decide) hf_9 (fun _ h9 => h9) rfl dX0_firstLike_8 ?_
        refine lv_iload_n hx hb dX0_firstLike_11 rfl (lv_at hl 0 rfl) ?_
        refine va_iald hx hb hK hP 1 0 rfl rfl (ki_in (om_10 LP1_h0) (om_22 b1 LP1_h2)) dX0_firstLike_12 ?_
        refine lv_topi (fun y_2 ey_2 => ?_)
        have j_2 : y_2.toInt = (f i.toNatClampNeg).toInt := congrArg Int32.toInt ey_2
        refine lv_aload_n hx hb dX0_firstLike_13 rfl (lv_at hl 1 rfl) ?_
        refine va_get (D := (dC, dI)) (ci := 0) (v := .ref h1) (C := RX0) (T := TX0) (N := 2) hx hb hts hi_0 hown hK hP 0 rfl rfl 0 (by decide) hf_9 (fun _ h9 => h9) rfl dX0_firstLike_14 ?_
        refine lv_iload_n hx hb dX0_firstLike_17 rfl (lv_at hl 2 rfl) ?_
        refine va_iald hx hb hK hP 1 0 rfl rfl (ki_in (om_10 b0) (om_12 b1)) dX0_firstLike_18 ?_
        refine lv_topi (fun y_3 ey_3 => ?_)
        have j_3 : y_3.toInt = (f p0.toNatClampNeg).toInt := congrArg Int32.toInt ey_3
        refine lv_icmp_ne (tgt := 24) hx hb dX0_firstLike_19 (by decide) (fun c_4 => ?_) (fun c_4 => ?_)
        · have i_4 : ¬ y_2.toInt = y_3.toInt := kc_ne c_4
          obtain ⟨x_5, ex_5⟩ : ∃ y : Int32, y = i + 1 := ⟨_, rfl⟩
          have i_5 : x_5.toInt = i.toInt + 1 := ki_add ex_5 rfl rfl (om_13 LP1_h0) (om_492 b1 LP1_h2)
          refine lv_iinc (v := x_5) (lv' := [(2, .int x_5), (0, .ref h0), (1, .int p0)]) hx hb dX0_firstLike_24 hl (k := 0) rfl (by rw [ex_5]; rfl) (by decide) rfl (fun ls hl => ?_)
          refine lv_goto (tgt := 2) hx hb dX0_firstLike_27 (by decide) ?_
          have n_6 := ki_nat x_5 rfl (om_34 LP1_h0 i_5)
          exact ih1 x_5 (om_34 LP1_h0 i_5) (fun j hj => if h9 : j < i.toNatClampNeg then LP1_h1 j h9 else (by rw [show j = i.toNatClampNeg by omega, ← ey_2, ← ey_3]; exact c_4)) (om_54 i_1 i_5) (om_mu hn1 (om_5 i_5) (om_6 i_1)) ls (lv_sub hl [0, 1, 2] rfl)
        · have i_4 : y_2.toInt = y_3.toInt := kc_eq c_4
          refine lv_iload_n hx hb dX0_firstLike_22 rfl (lv_at hl 0 rfl) ?_
          exact W.iret (v := i) hx hb hr (hlocks := hlocks) (fun t ht hW => ⟨i, rfl, ⟨(by (try dsimp only); omega), (by (try dsimp only); omega), (by (try dsimp only); rw [← ey_2, ← ey_3]; exact c_4), fun j hj => LP1_h1 j hj⟩, ht⟩) (fun q hq => by cases hq) dX0_firstLike_23
  have k_7 : (0 : Int32).toInt = 0 := rfl
  exact LP1 ((p0.toInt - 0 : Int).toNat + 1) 0 om_35 (fun j hj => absurd hj (Nat.not_lt_zero j)) (om_10 b0) (Nat.lt_succ_self _) ls (lv_sub hl [0, 1, 2] rfl)

set_option maxHeartbeats 4000000 in
set_option maxRecDepth 100000 in
theorem c_X1_learn_x (l : Launch) (dC : Nat → ClassId) (dI : Nat → Nat → Nat) (t_ : Nat) (t_k : Nat) (t_o : Nat) (cyI : ClassId) (tk : Int32) (mo : Int32) (fk : Nat → Int32) (q_row : Nat) (q_cell : Nat) (len : Int32) (f : Nat → Int32) (sz : Nat) (a0 : 0 ≤ len.toInt) (a1 : len.toInt ≤ 160) : kx_MQ l (dC, dI) yX1_learn wsX1_learn ({ frames := 1, cells := 0, slots := 0, locals := 45 }) [.ref t_, .ref q_row] [kx_1 t_ t_k t_o tk mo, kx_a t_k cyI 160 fk, kx_0 q_row q_cell len, kx_a q_cell cyI 160 f] [(cyI, .int)] sz (fun A => va_Qv (fun u : (Nat → Int32) => kindOk u len.toInt ∧ mj_kd f u len.toNatClampNeg) (fun (u : (Nat → Int32)) (t : State) => va_P (dC, dI) vwCl [kx_1 t_ t_k t_o tk mo, kx_a t_k cyI 160 u, kx_0 q_row q_cell len, kx_a q_cell cyI 160 f] t.heap ∧ va_K (dC, dI) vwCl [(cyI, .int)] t ∧ va_D A [kx_1 t_ t_k t_o tk mo, kx_a t_k cyI 160 u, kx_0 q_row q_cell len, kx_a q_cell cyI 160 f]) A) := by
  refine kx_stQ (ws := wsX1_learn) (cc := cX1_learn) (maxL := 3) (ret := none) (by decide) rfl (Nat.le_of_ble_eq_true rfl) ?_
  intro p e s m below meth c A ls hx hb hr hlocks hts hown hml hA hS hP hK hD hl
  have hown : s.vm.findClass RX1 = some m.cls := hown
  have hl : lv_has ls 3 [(0, .ref t_), (1, .ref q_row)] := hl
  have hf_18 := hts (.fieldLink RX1 18 "MajorityIndex$Row" "length" "I") (List.mem_of_getElem? (i := 1) rfl)
  have hi_0 : ∀ w ∈ u_ws RX0 TX0 2, w ∈ wsX1_learn := fun w h => List.mem_cons_of_mem _ (List.mem_append_left _ (List.mem_append_right _ h))
  have hf_9 := hts (.fieldLink RX1 9 "MajorityIndex$Tally" "kind" "[I") (List.mem_of_getElem? (i := 2) rfl)
  have hi_1 : ∀ w ∈ u_ws RX1 TX1 4, w ∈ wsX1_learn := fun w h => List.mem_cons_of_mem _ (List.mem_append_right _ h)
  have n_l := ki_nat len rfl (om_10 a0)
  refine lv_iconst (v := 0) hx hb dX1_learn_0 (by decide) ?_
  refine lv_istore_n (lv' := [(2, .int 0), (0, .ref t_), (1, .ref q_row)]) hx hb dX1_learn_1 rfl hl (by decide) rfl (fun ls hl => ?_)
  have LP1 : ∀ (n : Nat) (i : Int32) (gk : Nat → Int32), (0 ≤ i.toInt) → (mj_kd f gk i.toNatClampNeg) → (i.toInt ≤ len.toInt) → (len.toInt - i.toInt).toNat < n → ∀ (H : Heap) (locs : List Loc), va_P (dC, dI) vwCl [kx_1 t_ t_k t_o tk mo, kx_a t_k cyI 160 gk, kx_0 q_row q_cell len, kx_a q_cell cyI 160 f] H → va_D A [kx_1 t_ t_k t_o tk mo, kx_a t_k cyI 160 gk, kx_0 q_row q_cell len, kx_a q_cell cyI 160 f] → va_S A s.heap H locs → ∀ (ls : Array Slot), lv_has ls 3 [(2, .int i), (0, .ref t_), (1, .ref q_row)] → W p l e (headSpec wsX1_learn ({ frames := 1, cells := 0, slots := 0, locals := 45 })).room s m ([.ref t_, .ref q_row] : List Value).toArray below meth c H locs 0 0 (MQ below (va_Qv (fun u : (Nat → Int32) => kindOk u len.toInt ∧ mj_kd f u len.toNatClampNeg) (fun (u : (Nat → Int32)) (t : State) => va_P (dC, dI) vwCl [kx_1 t_ t_k t_o tk mo, kx_a t_k cyI 160 u, kx_0 q_row q_cell len, kx_a q_cell cyI 160 f] t.heap ∧ va_K (dC, dI) vwCl [(cyI, .int)] t ∧ va_D A [kx_1 t_ t_k t_o tk mo, kx_a t_k cyI 160 u, kx_0 q_row q_cell len, kx_a q_cell cyI 160 f]) A) ([.ref t_, .ref q_row] : List Value).toArray s 0 0 A) (F0 m 2 ls []) := by
    intro n
    induction n with
    | zero => intro i gk LP1_h0 LP1_h1 LP1_h2 hn; exact absurd hn (Nat.not_lt_zero _)
    | succ n ih1 =>
      intro i gk LP1_h0 LP1_h1 LP1_h2 hn1 H locs hP hD hS ls hl
      have n_i := ki_nat i rfl (om_10 LP1_h0)
      refine lv_iload_n hx hb dX1_learn_2 rfl (lv_at hl 0 rfl) ?_
      refine lv_aload_n hx hb dX1_learn_3 rfl (lv_at hl 2 rfl) ?_
      refine va_get (D := (dC, dI)) (ci := 0) (v := .int len) (C := RX0) (T := TX0) (N := 2) hx hb hts hi_0 hown hK hP 2 rfl rfl 1 (by decide) hf_18 (fun _ h9 => h9) rfl dX1_learn_4 ?_
      refine lv_icmp_ge (tgt := 27) hx hb dX1_learn_7 (by decide) (fun c_1 => ?_) (fun c_1 => ?_)
      · have i_1 : len.toInt ≤ i.toInt := kc_le c_1
        have hP9 := hP
        have hD9 := hD
        have hK9 := hK
        exact W.vret hx hb hr (hlocks := hlocks) (fun t ht hW => ⟨⟨(gk), rfl, ⟨mj_kd_ok LP1_h1 (by omega), (by (try dsimp only); rw [show len.toNatClampNeg = i.toNatClampNeg by omega]; exact LP1_h1)⟩, by rw [ht]; exact hP9, va_K.moved hW.alike hK9, hD9⟩, hS.F ht⟩) hS.2.2 dX1_learn_27
      · have i_1 : i.toInt < len.toInt := kc_nle c_1
        refine lv_aload_n hx hb dX1_learn_10 rfl (lv_at hl 1 rfl) ?_
        refine va_get (D := (dC, dI)) (ci := 1) (v := .ref t_k) (C := RX1) (T := TX1) (N := 4) hx hb hts hi_1 hown hK hP 0 rfl rfl 0 (by decide) hf_9 (fun _ h9 => h9) rfl dX1_learn_11 ?_
        refine lv_iload_n hx hb dX1_learn_14 rfl (lv_at hl 0 rfl) ?_
        refine lv_aload_n hx hb dX1_learn_15 rfl (lv_at hl 2 rfl) ?_
        refine lv_iload_n hx hb dX1_learn_16 rfl (lv_at hl 0 rfl) ?_
        have hPc := hP.sub (ws' := [kx_0 q_row q_cell len, kx_a q_cell cyI 160 f]) [2, 3] rfl
        have hKc := hK
        refine vp_callSi (W.runV (As := [.int i]) (rest := [.int i, .ref t_k]) ⟨hx, hb, hml, hown, hts⟩ (c_X0_firstLike_x l dC dI q_row q_cell cyI len f i LP1_h0 (om_143 a1 i_1)) (cwV 1 hts gX1_learn_X0_firstLike rfl rfl rfl (by decide +kernel) ⟨Nat.le_of_ble_eq_true rfl, Nat.le_of_ble_eq_true rfl⟩) ⟨fun a U g mk q => by obtain ⟨q0, qP, qK⟩ := q; exact ⟨q0, qP, va_K.moved (u := U) (U := U.calling g mk a) (Vm.Alike.refl U.vm) qK⟩, kx_rc0 hKc hPc (q0 := 0) rfl, fun U hU hW => ⟨rfl, by rw [hU]; exact hPc, va_K.moved hW.alike hKc⟩⟩ rfl rfl hl.1 rfl (lv_room (Nat.le_of_ble_eq_true rfl)) dX1_learn_17 ⟨Nat.le_of_ble_eq_true rfl, Nat.le_of_ble_eq_true rfl⟩) (fun r_2 w_2 => ?_)
        have w_2 : 0 ≤ r_2.toInt ∧ r_2.toInt ≤ i.toInt ∧ f r_2.toNatClampNeg = f i.toNatClampNeg ∧ ∀ j : Nat, j < r_2.toNatClampNeg → ¬ f j = f i.toNatClampNeg := w_2
        refine va_iast hx hb hK hP hD hS 1 0 rfl rfl (ki_in (om_10 LP1_h0) (om_1 a1 i_1)) dX1_learn_20 (fun H locs hP hD hS => ?_)
        obtain ⟨hP, hD⟩ := kx_re (w2 := [kx_1 t_ t_k t_o tk mo, kx_a t_k cyI 160 (upd gk i.toNatClampNeg r_2), kx_0 q_row q_cell len, kx_a q_cell cyI 160 f]) hP hD rfl
        obtain ⟨x_3, ex_3⟩ : ∃ y : Int32, y = i + 1 := ⟨_, rfl⟩
        have i_3 : x_3.toInt = i.toInt + 1 := ki_add ex_3 rfl rfl (om_13 LP1_h0) (om_238 a1 LP1_h2)
        refine lv_iinc (v := x_3) (lv' := [(2, .int x_3), (0, .ref t_), (1, .ref q_row)]) hx hb dX1_learn_21 hl (k := 0) rfl (by rw [ex_3]; rfl) (by decide) rfl (fun ls hl => ?_)
        refine lv_goto (tgt := 2) hx hb dX1_learn_24 (by decide) ?_
        have n_4 := ki_nat x_3 rfl (om_34 LP1_h0 i_3)
        exact ih1 x_3 (upd gk i.toNatClampNeg r_2) (om_34 LP1_h0 i_3) (mj_kd_put LP1_h1 (by omega) (by omega) (by omega) w_2.2.2.1 w_2.2.2.2) (om_54 i_1 i_3) (om_mu hn1 (om_5 i_3) (om_6 i_1)) _ _ hP hD hS ls (lv_sub hl [0, 1, 2] rfl)
  have k_5 : (0 : Int32).toInt = 0 := rfl
  exact LP1 ((len.toInt - 0 : Int).toNat + 1) 0 fk om_35 (mj_kd_0 _ _ rfl) (om_10 a0) (Nat.lt_succ_self _) _ _ hP hD hS ls (lv_sub hl [0, 1, 2] rfl)



/-! how often each value is among the places taken -/
def mj_ka (f : Nat → Int32) (κ : Nat → Nat) (n : Nat) : Prop := ∀ i j : Nat, i < n → j < n → (κ i = κ j ↔ f i = f j)
def mj_tl (f : Nat → Int32) (κ : Nat → Nat) (fq : Nat → Int32) (n l m : Nat) (most : Int) : Prop := (∀ k : Nat, k < n → (fq (κ k)).toInt = (cnt f (f k) l m : Int)) ∧ (∀ k : Nat, k < n → (cnt f (f k) l m : Int) ≤ most) ∧ (most = 0 ∨ ∃ k : Nat, l ≤ k ∧ k < l + m ∧ (cnt f (f k) l m : Int) = most)
theorem mj_ka_kd {f fk : Nat → Int32} {n : Nat} (h : mj_kd f fk n) : mj_ka f (fun k => (fk k).toNatClampNeg) n := by
  intro i j hi hj
  obtain ⟨a0, a1, a2, a3⟩ := h i hi
  obtain ⟨b0, b1, b2, b3⟩ := h j hj
  dsimp only
  constructor
  · intro e
    rw [← a2, ← b2, e]
  · intro e
    rcases Nat.lt_trichotomy (fk i).toNatClampNeg (fk j).toNatClampNeg with h9 | h9 | h9
    · exact absurd (a2.trans e) (b3 _ h9)
    · exact h9
    · exact absurd (b2.trans e.symm) (a3 _ h9)
theorem mj_tl_0 (f : Nat → Int32) (κ : Nat → Nat) {fq : Nat → Int32} (n l : Nat) {m : Nat} (hm : m = 0) (hz : ∀ k : Nat, k < n → fq (κ k) = 0) : mj_tl f κ fq n l m 0 := by
  subst hm
  refine ⟨fun k hk => ?_, fun k _ => Int.le_refl 0, Or.inl rfl⟩
  rw [hz k hk]
  rfl
theorem mj_tl_take {f : Nat → Int32} {κ : Nat → Nat} {fq : Nat → Int32} {n l m m2 p : Nat} {most most2 : Int} {x : Int32} (hk : mj_ka f κ n) (h : mj_tl f κ fq n l m most) (hp : p = l + m) (hpn : p < n) (hm : m2 = m + 1) (ex : x.toInt = (fq (κ p)).toInt + 1) (hmost : (most < x.toInt ∧ most2 = x.toInt) ∨ (x.toInt ≤ most ∧ most2 = most)) : mj_tl f κ (upd fq (κ p) x) n l m2 most2 := by
  obtain ⟨h1, h2, h3⟩ := h
  subst hp
  have hx : x.toInt = (cnt f (f (l + m)) l m : Int) + 1 := by rw [ex, h1 _ hpn]
  have yes : ∀ k : Nat, f k = f (l + m) → cnt f (f k) l m2 = cnt f (f k) l m + 1 := fun k e => cnt_hit1 e.symm hm
  have no : ∀ k : Nat, ¬ f k = f (l + m) → cnt f (f k) l m2 = cnt f (f k) l m := fun k e => cnt_miss1 (fun q => e q.symm) hm
  refine ⟨fun k hkn => ?_, fun k hkn => ?_, ?_⟩
  · by_cases e : f k = f (l + m)
    · rw [(hk k (l + m) hkn hpn).mpr e, upd_at, yes k e, hx, e]
      omega
    · rw [upd_ne (fun q => e ((hk k (l + m) hkn hpn).mp q)), no k e]
      exact h1 k hkn
  · have a := h2 k hkn
    by_cases e : f k = f (l + m)
    · rw [yes k e, e]
      rw [e] at a
      omega
    · rw [no k e]
      omega
  · rcases hmost with ⟨a, b⟩ | ⟨a, b⟩
    · refine Or.inr ⟨l + m, by omega, by omega, ?_⟩
      rw [yes _ rfl, b, hx]
      omega
    · rcases h3 with h3 | ⟨k, k1, k2, k3⟩
      · omega
      · refine Or.inr ⟨k, k1, by omega, ?_⟩
        have ne : ¬ f k = f (l + m) := fun e => by
          rw [e] at k3
          omega
        rw [no k ne, b]
        exact k3
def mj_hm (f : Nat → Int32) (l m : Nat) : Prop := ∃ k : Nat, l ≤ k ∧ k < l + m ∧ m < 2 * cnt f (f k) l m
theorem mj_tl_hm {f : Nat → Int32} {κ : Nat → Nat} {fq : Nat → Int32} {n l m : Nat} {most : Int} (h : mj_tl f κ fq n l m most) (hn : l + m ≤ n) : (m : Int) < 2 * most ↔ mj_hm f l m := by
  obtain ⟨h1, h2, h3⟩ := h
  constructor
  · intro hm
    rcases h3 with h3 | ⟨k, k1, k2, k3⟩
    · omega
    · exact ⟨k, k1, k2, by omega⟩
  · rintro ⟨k, k1, k2, k3⟩
    have := h2 k (by omega)
    omega
theorem mj_maj_hm {f : Nat → Int32} {l r : Nat} {v : Int32} (h : mj_maj f l r v) (hs : shorts f) (hr : r ≤ 160) (hl : l ≤ r) : (¬ v = -40000) ↔ mj_hm f l (r - l) := by
  rcases h with ⟨k, k1, k2, k3, k4⟩ | ⟨e, h⟩
  · constructor
    · intro _
      exact ⟨k, k1, by omega, by rw [k3]; omega⟩
    · intro _ e
      have := hs k (by omega)
      rw [k3, e] at this
      have k0 : (-40000 : Int32).toInt = -40000 := rfl
      omega
  · constructor
    · intro hne
      exact absurd e hne
    · rintro ⟨k, k1, k2, k3⟩
      have := h k k1 (by omega)
      omega
def mj_lst (P : Nat → Prop) (lo hi : Nat) (x : Int) : Prop := (∃ m : Nat, lo < m ∧ m ≤ hi ∧ P m ∧ x = (m : Int) ∧ ∀ k : Nat, m < k → k ≤ hi → ¬ P k) ∨ (x = -1 ∧ ∀ k : Nat, lo < k → k ≤ hi → ¬ P k)
theorem mj_lst_uni {P : Nat → Prop} {lo hi : Nat} {x y : Int} (h : mj_lst P lo hi x) (h2 : mj_lst P lo hi y) : x = y := by
  rcases h with ⟨m, a1, a2, a3, a4, a5⟩ | ⟨a1, a2⟩ <;> rcases h2 with ⟨n, b1, b2, b3, b4, b5⟩ | ⟨b1, b2⟩
  · rcases Nat.lt_trichotomy m n with h | h | h
    · exact absurd b3 (a5 n h b2)
    · omega
    · exact absurd a3 (b5 m h a2)
  · exact absurd a3 (b2 m a1 a2)
  · exact absurd b3 (a2 n b1 b2)
  · omega
theorem mj_lst_yes {P : Nat → Prop} {lo hi hi2 : Nat} {x : Int} (e : hi2 = hi + 1) (hlo : lo ≤ hi) (hp : P hi2) (hx : x = (hi2 : Int)) : mj_lst P lo hi2 x := Or.inl ⟨hi2, by omega, Nat.le_refl _, hp, hx, fun k h1 h2 => by omega⟩
theorem mj_lst_no {P : Nat → Prop} {lo hi hi2 : Nat} {x : Int} (h : mj_lst P lo hi x) (e : hi2 = hi + 1) (hp : ¬ P hi2) : mj_lst P lo hi2 x := by
  subst e
  have ext : ∀ k : Nat, k ≤ hi + 1 → (k ≤ hi → ¬ P k) → ¬ P k := fun k h1 h2 => by
    rcases Nat.lt_or_eq_of_le h1 with h9 | h9
    · exact h2 (by omega)
    · rw [h9]; exact hp
  rcases h with ⟨m, a1, a2, a3, a4, a5⟩ | ⟨a1, a2⟩
  · exact Or.inl ⟨m, a1, by omega, a3, a4, fun k h1 h2 => ext k h2 (fun h => a5 k h1 h)⟩
  · exact Or.inr ⟨a1, fun k h1 h2 => ext k h2 (fun h => a2 k h1 h)⟩


set_option maxHeartbeats 4000000 in
set_option maxRecDepth 100000 in
theorem c_X1_take_x (l : Launch) (dC : Nat → ClassId) (dI : Nat → Nat → Nat) (t_ : Nat) (t_k : Nat) (t_o : Nat) (cyI : ClassId) (tk : Int32) (mo : Int32) (fk : Nat → Int32) (fq : Nat → Int32) (f : Nat → Int32) (n9 : Nat) (l9 : Nat) (m9 : Nat) (p0 : Int32) (sz : Nat) (k0 : mj_kd f fk n9) (tl : mj_tl f (fun k => (fk k).toNatClampNeg) fq n9 l9 m9 mo.toInt) (b0 : 0 ≤ p0.toInt) (b1 : p0.toNatClampNeg = l9 + m9) (b2 : p0.toNatClampNeg < n9) (b3 : n9 ≤ 160) (t0 : tk.toInt = ((m9 : Nat) : Int)) (o0 : 0 ≤ mo.toInt) (o1 : mo.toInt ≤ ((m9 : Nat) : Int)) : kx_MQ l (dC, dI) yX1_take wsX1_take ({ frames := 0, cells := 0, slots := 0, locals := 0 }) [.ref t_, .int p0] [kx_1 t_ t_k t_o tk mo, kx_a t_k cyI 160 fk, kx_a t_o cyI 160 fq] [(cyI, .int)] sz (fun A => va_Qv (fun u : Int32 × Int32 × (Nat → Int32) => mj_tl f (fun k => (fk k).toNatClampNeg) u.2.2 n9 l9 (m9 + 1) u.2.1.toInt ∧ u.1.toInt = tk.toInt + 1 ∧ 0 ≤ u.2.1.toInt ∧ u.2.1.toInt ≤ ((m9 : Nat) : Int) + 1) (fun (u : Int32 × Int32 × (Nat → Int32)) (t : State) => va_P (dC, dI) vwCl [kx_1 t_ t_k t_o u.1 u.2.1, kx_a t_k cyI 160 fk, kx_a t_o cyI 160 u.2.2] t.heap ∧ va_K (dC, dI) vwCl [(cyI, .int)] t ∧ va_D A [kx_1 t_ t_k t_o u.1 u.2.1, kx_a t_k cyI 160 fk, kx_a t_o cyI 160 u.2.2]) A) := by
  refine kx_stQ (ws := wsX1_take) (cc := cX1_take) (maxL := 3) (ret := none) (by decide) rfl (Nat.le_of_ble_eq_true rfl) ?_
  intro p e s m below meth c A ls hx hb hr hlocks hts hown hml hA hS hP hK hD hl
  have hown : s.vm.findClass RX1 = some m.cls := hown
  have hl : lv_has ls 3 [(0, .ref t_), (1, .int p0)] := hl
  have hf_15 := hts (.fieldLink RX1 15 "MajorityIndex$Tally" "often" "[I") (List.mem_of_getElem? (i := 1) rfl)
  have hi_1 : ∀ w ∈ u_ws RX1 TX1 4, w ∈ wsX1_take := fun w h => List.mem_cons_of_mem _ (List.mem_append_right _ h)
  have hf_9 := hts (.fieldLink RX1 9 "MajorityIndex$Tally" "kind" "[I") (List.mem_of_getElem? (i := 2) rfl)
  have hf_34 := hts (.fieldLink RX1 34 "MajorityIndex$Tally" "taken" "I") (List.mem_of_getElem? (i := 3) rfl)
  have hf_37 := hts (.fieldLink RX1 37 "MajorityIndex$Tally" "most" "I") (List.mem_of_getElem? (i := 4) rfl)
  have n_p0 := ki_nat p0 rfl (om_10 b0)
  refine lv_aload_n hx hb dX1_take_0 rfl (lv_at hl 0 rfl) ?_
  refine va_get (D := (dC, dI)) (ci := 1) (v := .ref t_o) (C := RX1) (T := TX1) (N := 4) hx hb hts hi_1 hown hK hP 0 rfl rfl 1 (by decide) hf_15 (fun _ h9 => h9) rfl dX1_take_1 ?_
  refine lv_aload_n hx hb dX1_take_4 rfl (lv_at hl 0 rfl) ?_
  refine va_get (D := (dC, dI)) (ci := 1) (v := .ref t_k) (C := RX1) (T := TX1) (N := 4) hx hb hts hi_1 hown hK hP 0 rfl rfl 0 (by decide) hf_9 (fun _ h9 => h9) rfl dX1_take_5 ?_
  refine lv_iload_n hx hb dX1_take_8 rfl (lv_at hl 1 rfl) ?_
  refine va_iald hx hb hK hP 1 0 rfl rfl (ki_in (om_10 b0) (by omega)) dX1_take_9 ?_
  refine lv_topi (fun y_1 ey_1 => ?_)
  have j_1 : y_1.toInt = (fk p0.toNatClampNeg).toInt := congrArg Int32.toInt ey_1
  have q_kd := k0 p0.toNatClampNeg b2
  have q_9 : y_1 = fk p0.toNatClampNeg := ey_1
  have i_9 : 0 ≤ y_1.toInt ∧ y_1.toInt ≤ p0.toInt := by rw [q_9]; omega
  refine va_iald hx hb hK hP 2 0 rfl rfl (ki_in (by omega) (by omega)) dX1_take_10 ?_
  refine lv_topi (fun y_2 ey_2 => ?_)
  have j_2 : y_2.toInt = (fq y_1.toNatClampNeg).toInt := congrArg Int32.toInt ey_2
  have q_10 : y_2.toInt = (cnt f (f p0.toNatClampNeg) l9 m9 : Int) := by rw [ey_2, q_9]; exact tl.1 _ b2
  have q_le := cnt_le f (f p0.toNatClampNeg) l9 m9
  refine lv_iconst (v := 1) hx hb dX1_take_11 (by decide) ?_
  refine lv_iadd hx hb dX1_take_12 ?_
  refine lv_topi (fun y_3 ey_3 => ?_)
  have i_3 : y_3.toInt = y_2.toInt + 1 := ki_add ey_3 rfl rfl (by omega) (by omega)
  refine lv_istore_n (lv' := [(2, .int y_3), (0, .ref t_), (1, .int p0)]) hx hb dX1_take_13 rfl hl (by decide) rfl (fun ls hl => ?_)
  refine lv_aload_n hx hb dX1_take_14 rfl (lv_at hl 1 rfl) ?_
  refine va_get (D := (dC, dI)) (ci := 1) (v := .ref t_o) (C := RX1) (T := TX1) (N := 4) hx hb hts hi_1 hown hK hP 0 rfl rfl 1 (by decide) hf_15 (fun _ h9 => h9) rfl dX1_take_15 ?_
  refine lv_aload_n hx hb dX1_take_18 rfl (lv_at hl 1 rfl) ?_
  refine va_get (D := (dC, dI)) (ci := 1) (v := .ref t_k) (C := RX1) (T := TX1) (N := 4) hx hb hts hi_1 hown hK hP 0 rfl rfl 0 (by decide) hf_9 (fun _ h9 => h9) rfl dX1_take_19 ?_
  refine lv_iload_n hx hb dX1_take_22 rfl (lv_at hl 2 rfl) ?_
  refine va_iald hx hb hK hP 1 0 rfl rfl (ki_in (om_10 b0) (by omega)) dX1_take_23 ?_
  refine lv_topi (fun y_4 ey_4 => ?_)
  have j_4 : y_4.toInt = (fk p0.toNatClampNeg).toInt := congrArg Int32.toInt ey_4
  have i_23 : 0 ≤ y_4.toInt ∧ y_4.toInt ≤ p0.toInt := by rw [ey_4]; omega
  refine lv_iload_n hx hb dX1_take_24 rfl (lv_at hl 0 rfl) ?_
  refine va_iast hx hb hK hP hD hS 2 0 rfl rfl (ki_in (by omega) (by omega)) dX1_take_25 (fun H locs hP hD hS => ?_)
  obtain ⟨hP, hD⟩ := kx_re (w2 := [kx_1 t_ t_k t_o tk mo, kx_a t_k cyI 160 fk, kx_a t_o cyI 160 (upd fq y_4.toNatClampNeg y_3)]) hP hD rfl
  refine lv_aload_n hx hb dX1_take_26 rfl (lv_at hl 1 rfl) ?_
  refine lv_dup hx hb dX1_take_27 rfl ?_
  refine va_get (D := (dC, dI)) (ci := 1) (v := .int tk) (C := RX1) (T := TX1) (N := 4) hx hb hts hi_1 hown hK hP 0 rfl rfl 2 (by decide) hf_34 (fun _ h9 => h9) rfl dX1_take_28 ?_
  refine lv_iconst (v := 1) hx hb dX1_take_31 (by decide) ?_
  refine lv_iadd hx hb dX1_take_32 ?_
  refine lv_topi (fun y_5 ey_5 => ?_)
  have i_5 : y_5.toInt = tk.toInt + 1 := ki_add ey_5 rfl rfl (om_496 t0 o0 o1) (by omega)
  refine va_put (D := (dC, dI)) (ci := 1) (v := .int y_5) (ty := .int) (C := RX1) (T := TX1) (N := 4) hx hb hts hi_1 tyX1 tyX1_ok nmX1 hown hK hP hD hS 0 rfl rfl 2 (by decide) hf_34 (fun _ h9 => h9) rfl (by decide +kernel) rfl rfl (Nat.le_of_ble_eq_true rfl) dX1_take_33 (fun H locs hP hD hS => ?_)
  obtain ⟨hP, hD⟩ := kx_re (w2 := [kx_1 t_ t_k t_o y_5 mo, kx_a t_k cyI 160 fk, kx_a t_o cyI 160 (upd fq y_4.toNatClampNeg y_3)]) hP hD rfl
  refine lv_iload_n hx hb dX1_take_36 rfl (lv_at hl 0 rfl) ?_
  refine lv_aload_n hx hb dX1_take_37 rfl (lv_at hl 1 rfl) ?_
  refine va_get (D := (dC, dI)) (ci := 1) (v := .int mo) (C := RX1) (T := TX1) (N := 4) hx hb hts hi_1 hown hK hP 0 rfl rfl 3 (by decide) hf_37 (fun _ h9 => h9) rfl dX1_take_38 ?_
  refine lv_icmp_le (tgt := 49) hx hb dX1_take_41 (by decide) (fun c_6 => ?_) (fun c_6 => ?_)
  · have i_6 : y_3.toInt ≤ mo.toInt := kc_le c_6
    have hP9 := hP
    have hD9 := hD
    have hK9 := hK
    have t_e : (fq ((fun k => (fk k).toNatClampNeg) p0.toNatClampNeg)).toInt = (cnt f (f p0.toNatClampNeg) l9 m9 : Int) := tl.1 _ b2
    have t_b : (fq ((fun k => (fk k).toNatClampNeg) p0.toNatClampNeg)).toInt = (fq (fk p0.toNatClampNeg).toNatClampNeg).toInt := rfl
    have t_n : mj_tl f (fun k => (fk k).toNatClampNeg) (upd fq ((fun k => (fk k).toNatClampNeg) p0.toNatClampNeg) y_3) n9 l9 (m9 + 1) mo.toInt := mj_tl_take (mj_ka_kd k0) tl b1 b2 rfl (by omega) (Or.inr ⟨(by omega), rfl⟩)
    exact W.vret hx hb hr (hlocks := hlocks) (fun t ht hW => ⟨⟨(y_5, mo, (upd fq y_4.toNatClampNeg y_3)), rfl, ⟨(by (try dsimp only); rw [ey_4]; exact t_n), (by (try dsimp only); omega), (by (try dsimp only); omega), (by (try dsimp only); omega)⟩, by rw [ht]; exact hP9, va_K.moved hW.alike hK9, hD9⟩, hS.F ht⟩) hS.2.2 dX1_take_49
  · have i_6 : mo.toInt < y_3.toInt := kc_nle c_6
    refine lv_aload_n hx hb dX1_take_44 rfl (lv_at hl 1 rfl) ?_
    refine lv_iload_n hx hb dX1_take_45 rfl (lv_at hl 0 rfl) ?_
    refine va_put (D := (dC, dI)) (ci := 1) (v := .int y_3) (ty := .int) (C := RX1) (T := TX1) (N := 4) hx hb hts hi_1 tyX1 tyX1_ok nmX1 hown hK hP hD hS 0 rfl rfl 3 (by decide) hf_37 (fun _ h9 => h9) rfl (by decide +kernel) rfl rfl (Nat.le_of_ble_eq_true rfl) dX1_take_46 (fun H locs hP hD hS => ?_)
    obtain ⟨hP, hD⟩ := kx_re (w2 := [kx_1 t_ t_k t_o y_5 y_3, kx_a t_k cyI 160 fk, kx_a t_o cyI 160 (upd fq y_4.toNatClampNeg y_3)]) hP hD rfl
    have hP9 := hP
    have hD9 := hD
    have hK9 := hK
    have t_e : (fq ((fun k => (fk k).toNatClampNeg) p0.toNatClampNeg)).toInt = (cnt f (f p0.toNatClampNeg) l9 m9 : Int) := tl.1 _ b2
    have t_b : (fq ((fun k => (fk k).toNatClampNeg) p0.toNatClampNeg)).toInt = (fq (fk p0.toNatClampNeg).toNatClampNeg).toInt := rfl
    have t_n : mj_tl f (fun k => (fk k).toNatClampNeg) (upd fq ((fun k => (fk k).toNatClampNeg) p0.toNatClampNeg) y_3) n9 l9 (m9 + 1) y_3.toInt := mj_tl_take (mj_ka_kd k0) tl b1 b2 rfl (by omega) (Or.inl ⟨(by omega), rfl⟩)
    exact W.vret hx hb hr (hlocks := hlocks) (fun t ht hW => ⟨⟨(y_5, y_3, (upd fq y_4.toNatClampNeg y_3)), rfl, ⟨(by (try dsimp only); rw [ey_4]; exact t_n), (by (try dsimp only); omega), (by (try dsimp only); omega), (by (try dsimp only); omega)⟩, by rw [ht]; exact hP9, va_K.moved hW.alike hK9, hD9⟩, hS.F ht⟩) hS.2.2 dX1_take_49

set_option maxHeartbeats 4000000 in
set_option maxRecDepth 100000 in
theorem c_X1_hasMajority_x (l : Launch) (dC : Nat → ClassId) (dI : Nat → Nat → Nat) (t_ : Nat) (t_k : Nat) (t_o : Nat) (tk : Int32) (mo : Int32) (o0 : 0 ≤ mo.toInt) (o1 : mo.toInt ≤ 160) : Met l yX1_hasMajority wsX1_hasMajority ({ frames := 0, cells := 0, slots := 0, locals := 0 }) (va_Pc [.ref t_] (fun U => va_P (dC, dI) vwCl [kx_1 t_ t_k t_o tk mo] U.heap ∧ va_K (dC, dI) vwCl [] U)) (vp_Si (fun r : Int32 => (r = 1 ∧ tk.toInt < 2 * mo.toInt) ∨ (r = 0 ∧ 2 * mo.toInt ≤ tk.toInt))) 0 0 (fun _ => False) := by
  refine kx_stS (ws := wsX1_hasMajority) (cc := cX1_hasMajority) (maxL := 1) (ret := (some .boolean)) (by decide) rfl (Nat.le_of_ble_eq_true rfl) ?_
  intro p e s m below meth c ls hx hb hr hlocks hts hown hml hP hK hl
  have hown : s.vm.findClass RX1 = some m.cls := hown
  have hl : lv_has ls 1 [(0, .ref t_)] := hl
  have hf_37 := hts (.fieldLink RX1 37 "MajorityIndex$Tally" "most" "I") (List.mem_of_getElem? (i := 1) rfl)
  have hi_1 : ∀ w ∈ u_ws RX1 TX1 4, w ∈ wsX1_hasMajority := fun w h => List.mem_cons_of_mem _ (List.mem_append_right _ h)
  have hf_34 := hts (.fieldLink RX1 34 "MajorityIndex$Tally" "taken" "I") (List.mem_of_getElem? (i := 2) rfl)
  refine lv_iconst (v := 2) hx hb dX1_hasMajority_0 (by decide) ?_
  refine lv_aload_n hx hb dX1_hasMajority_1 rfl (lv_at hl 0 rfl) ?_
  refine va_get (D := (dC, dI)) (ci := 1) (v := .int mo) (C := RX1) (T := TX1) (N := 4) hx hb hts hi_1 hown hK hP 0 rfl rfl 3 (by decide) hf_37 (fun _ h9 => h9) rfl dX1_hasMajority_2 ?_
  refine lv_imul hx hb dX1_hasMajority_5 ?_
  refine lv_topi (fun y_1 ey_1 => ?_)
  have i_1 : y_1.toInt = 2 * mo.toInt := ki_mul ey_1 rfl rfl (om_75 o0) (om_76 o1)
  refine lv_aload_n hx hb dX1_hasMajority_6 rfl (lv_at hl 0 rfl) ?_
  refine va_get (D := (dC, dI)) (ci := 1) (v := .int tk) (C := RX1) (T := TX1) (N := 4) hx hb hts hi_1 hown hK hP 0 rfl rfl 2 (by decide) hf_34 (fun _ h9 => h9) rfl dX1_hasMajority_7 ?_
  refine lv_icmp_le (tgt := 17) hx hb dX1_hasMajority_10 (by decide) (fun c_2 => ?_) (fun c_2 => ?_)
  · have i_2 : y_1.toInt ≤ tk.toInt := kc_le c_2
    refine lv_iconst (v := 0) hx hb dX1_hasMajority_17 (by decide) ?_
    exact W.zret (v := 0) hx hb hr (by decide) (hlocks := hlocks) (fun t ht hW => ⟨0, rfl, Or.inr (⟨rfl, (om_497 i_1 i_2)⟩), ht⟩) (fun q hq => by cases hq) dX1_hasMajority_18
  · have i_2 : tk.toInt < y_1.toInt := kc_nle c_2
    refine lv_iconst (v := 1) hx hb dX1_hasMajority_13 (by decide) ?_
    refine lv_goto (tgt := 18) hx hb dX1_hasMajority_14 (by decide) ?_
    exact W.zret (v := 1) hx hb hr (by decide) (hlocks := hlocks) (fun t ht hW => ⟨1, rfl, Or.inl ⟨rfl, (om_498 i_1 i_2)⟩, ht⟩) (fun q hq => by cases hq) dX1_hasMajority_18

set_option maxHeartbeats 4000000 in
set_option maxRecDepth 100000 in
theorem c_X4_reach_x (l : Launch) (dC : Nat → ClassId) (dI : Nat → Nat → Nat) (m_ : Nat) (q_row : Nat) (q_t : Nat) (t_ : Nat) (h0 : Nat) (k0 : Nat) (w_ : Nat) (z_ : Nat) (slots : Int32) (old : Int32) (q_cell : Nat) (cyI : ClassId) (len : Int32) (f : Nat → Int32) (t_k : Nat) (t_o : Nat) (tk : Int32) (mo : Int32) (fk : Nat → Int32) (fq : Nat → Int32) (p0 : Int32) (sz : Nat) (a0 : 0 ≤ len.toInt) (a1 : len.toInt ≤ 160) : kx_MQ l (dC, dI) yX4_reach wsX4_reach ({ frames := 2, cells := 0, slots := 0, locals := 90 }) [.ref m_, .int p0] [kx_4 m_ q_row q_t t_ h0 k0 w_ z_ slots old, kx_0 q_row q_cell len, kx_a q_cell cyI 160 f, kx_1 t_ t_k t_o tk mo, kx_a t_k cyI 160 fk, kx_a t_o cyI 160 fq] [(cyI, .int)] sz (fun A => va_Qi (fun (r : Int32) (u : Int32 × Int32 × (Nat → Int32) × (Nat → Int32)) => ((0 ≤ p0.toInt ∧ p0.toInt < len.toInt) ∧ mj_lst (fun m => mj_hm f p0.toNatClampNeg (m - p0.toNatClampNeg)) p0.toNatClampNeg len.toNatClampNeg r.toInt) ∨ ((p0.toInt < 0 ∨ len.toInt ≤ p0.toInt) ∧ r = -1)) (fun (u : Int32 × Int32 × (Nat → Int32) × (Nat → Int32)) (t : State) => va_P (dC, dI) vwCl [kx_4 m_ q_row q_t t_ h0 k0 w_ z_ slots old, kx_0 q_row q_cell len, kx_a q_cell cyI 160 f, kx_1 t_ t_k t_o u.1 u.2.1, kx_a t_k cyI 160 u.2.2.1, kx_a t_o cyI 160 u.2.2.2] t.heap ∧ va_K (dC, dI) vwCl [(cyI, .int)] t ∧ va_D A [kx_4 m_ q_row q_t t_ h0 k0 w_ z_ slots old, kx_0 q_row q_cell len, kx_a q_cell cyI 160 f, kx_1 t_ t_k t_o u.1 u.2.1, kx_a t_k cyI 160 u.2.2.1, kx_a t_o cyI 160 u.2.2.2]) A) := by
  refine kx_stQ (ws := wsX4_reach) (cc := cX4_reach) (maxL := 4) (ret := (some .int)) (by decide) rfl (Nat.le_of_ble_eq_true rfl) ?_
  intro p e s m below meth c A ls hx hb hr hlocks hts hown hml hA hS hP hK hD hl
  have hown : s.vm.findClass RX4 = some m.cls := hown
  have hl : lv_has ls 4 [(0, .ref m_), (1, .int p0)] := hl
  have hf_12 := hts (.fieldLink RX4 12 "MajorityIndex" "row" "LMajorityIndex$Row;") (List.mem_of_getElem? (i := 1) rfl)
  have hi_4 : ∀ w ∈ u_ws RX4 TX4 9, w ∈ wsX4_reach := fun w h => List.mem_cons_of_mem _ (List.mem_append_left _ (List.mem_append_left _ (List.mem_append_right _ h)))
  have hf_28 := hts (.fieldLink RX4 28 "MajorityIndex" "tally" "LMajorityIndex$Tally;") (List.mem_of_getElem? (i := 2) rfl)
  have hf_57 := hts (.fieldLink RX4 57 "MajorityIndex$Row" "length" "I") (List.mem_of_getElem? (i := 3) rfl)
  have hi_0 : ∀ w ∈ u_ws RX0 TX0 2, w ∈ wsX4_reach := fun w h => List.mem_cons_of_mem _ (List.mem_append_left _ (List.mem_append_right _ h))
  refine lv_aload_n hx hb dX4_reach_0 rfl (lv_at hl 0 rfl) ?_
  refine va_get (D := (dC, dI)) (ci := 4) (v := .ref q_row) (C := RX4) (T := TX4) (N := 9) hx hb hts hi_4 hown hK hP 0 rfl rfl 0 (by decide) hf_12 (fun _ h9 => h9) rfl dX4_reach_1 ?_
  refine lv_iload_n hx hb dX4_reach_4 rfl (lv_at hl 1 rfl) ?_
  have hPc := hP.sub (ws' := [kx_0 q_row q_cell len]) [1] rfl
  have hKc := hK.sub (tys' := []) [] rfl
  refine vp_callSi (W.runV (As := [.int p0]) (rest := []) ⟨hx, hb, hml, hown, hts⟩ (c_X0_hasPlace l dC dI q_row q_cell len p0) (cwV 1 hts gX4_reach_X0_hasPlace rfl rfl rfl (by decide +kernel) ⟨Nat.le_of_ble_eq_true rfl, Nat.le_of_ble_eq_true rfl⟩) ⟨fun a U g mk q => by obtain ⟨q0, qP, qK⟩ := q; exact ⟨q0, qP, va_K.moved (u := U) (U := U.calling g mk a) (Vm.Alike.refl U.vm) qK⟩, kx_rc0 hKc hPc (q0 := 0) rfl, fun U hU hW => ⟨rfl, by rw [hU]; exact hPc, va_K.moved hW.alike hKc⟩⟩ rfl rfl hl.1 rfl (lv_room (Nat.le_of_ble_eq_true rfl)) dX4_reach_5 ⟨Nat.le_of_ble_eq_true rfl, Nat.le_of_ble_eq_true rfl⟩) (fun r_1 w_1 => ?_)
  rcases w_1 with ⟨rfl, w_1⟩ | ⟨rfl, w_1⟩
  · have w_1 : (0 ≤ p0.toInt ∧ p0.toInt < len.toInt) := w_1
    refine lv_if_ne (tgt := 13) hx hb dX4_reach_8 (by decide) (fun c_2 => ?_) (fun c_2 => ?_)
    · have n_p0 := ki_nat p0 rfl (om_10 w_1.1)
      have n_l := ki_nat len rfl (om_10 a0)
      refine lv_aload_n hx hb dX4_reach_13 rfl (lv_at hl 0 rfl) ?_
      refine va_get (D := (dC, dI)) (ci := 4) (v := .ref t_) (C := RX4) (T := TX4) (N := 9) hx hb hts hi_4 hown hK hP 0 rfl rfl 2 (by decide) hf_28 (fun _ h9 => h9) rfl dX4_reach_14 ?_
      refine lv_aload_n hx hb dX4_reach_17 rfl (lv_at hl 0 rfl) ?_
      refine va_get (D := (dC, dI)) (ci := 4) (v := .ref q_row) (C := RX4) (T := TX4) (N := 9) hx hb hts hi_4 hown hK hP 0 rfl rfl 0 (by decide) hf_12 (fun _ h9 => h9) rfl dX4_reach_18 ?_
      obtain ⟨hPc, hDc, hFc, hCc⟩ := kx_pre (wc := [kx_1 t_ t_k t_o tk mo, kx_a t_k cyI 160 fk, kx_0 q_row q_cell len, kx_a q_cell cyI 160 f]) hP hD hS hA [3, 4, 1, 2] (by decide) rfl
      have hKc := hK
      refine va_callv (va_runV (As := [.ref q_row]) (rest := []) ⟨hx, hb, hml, hown, hts⟩ (kx_un (c_X1_learn_x l dC dI t_ t_k t_o cyI tk mo fk q_row q_cell len f s.heap.size a0 a1)) (cwV 1 hts gX4_reach_X1_learn rfl rfl rfl (by decide +kernel) ⟨Nat.le_of_ble_eq_true rfl, Nat.le_of_ble_eq_true rfl⟩) ⟨fun a U g mk q => by obtain ⟨q0, q1, qP, qK, qD⟩ := q; exact ⟨q0, q1, qP, va_K.moved (u := U) (U := U.calling g mk a) (Vm.Alike.refl U.vm) qK, qD⟩, kx_rc1 hKc hPc (q0 := 0) rfl, fun U hU hW => ⟨rfl, by rw [hU], by rw [hU]; exact hPc, va_K.moved hW.alike hKc, hDc.weaken (fun _ _ _ _ => trivial)⟩⟩ rfl rfl hl.1 rfl (lv_room (Nat.le_of_ble_eq_true rfl)) dX4_reach_21 ⟨Nat.le_of_ble_eq_true rfl, Nat.le_of_ble_eq_true rfl⟩) hS (fun q _ h => hFc q h) hFc (fun u t H1 locs ht hvm w_3 hB hz1 hk1 hS => ?_)
      obtain ⟨o_4, rfl⟩ : ∃ z, z = u := ⟨_, rfl⟩
      obtain ⟨hP1, hK1, hD1⟩ := hB
      rw [ht] at hP1
      have hK1 := va_K.moved hvm.symm hK1
      obtain ⟨hP, hD⟩ := kx_join (w2 := [kx_4 m_ q_row q_t t_ h0 k0 w_ z_ slots old, kx_a t_o cyI 160 fq, kx_1 t_ t_k t_o tk mo, kx_a t_k cyI 160 o_4, kx_0 q_row q_cell len, kx_a q_cell cyI 160 f]) hP hD hP1 hD1 hk1 hFc [3, 4, 1, 2] [0, 5] hCc rfl (by decide) (by decide)
      clear hP1 hD1 hK1 hk1 hz1 hFc hDc hPc hKc hCc
      generalize H1 = H at hP hS ⊢
      have w_3 : kindOk o_4 len.toInt ∧ mj_kd f o_4 len.toNatClampNeg := w_3
      refine lv_aload_n hx hb dX4_reach_24 rfl (lv_at hl 0 rfl) ?_
      refine va_get (D := (dC, dI)) (ci := 4) (v := .ref t_) (C := RX4) (T := TX4) (N := 9) hx hb hts hi_4 hown hK hP 0 rfl rfl 2 (by decide) hf_28 (fun _ h9 => h9) rfl dX4_reach_25 ?_
      obtain ⟨hPc, hDc, hFc, hCc⟩ := kx_pre (wc := [kx_1 t_ t_k t_o tk mo, kx_a t_o cyI 160 fq]) hP hD hS hA [2, 1] (by decide) rfl
      have hKc := hK
      refine va_callv (va_runV (As := []) (rest := []) ⟨hx, hb, hml, hown, hts⟩ (kx_un (c_X1_clear l dC dI t_ t_k t_o cyI tk mo fq H.size)) (cwV 0 hts gX4_reach_X1_clear rfl rfl rfl (by decide +kernel) ⟨Nat.le_of_ble_eq_true rfl, Nat.le_of_ble_eq_true rfl⟩) ⟨fun a U g mk q => by obtain ⟨q0, q1, qP, qK, qD⟩ := q; exact ⟨q0, q1, qP, va_K.moved (u := U) (U := U.calling g mk a) (Vm.Alike.refl U.vm) qK, qD⟩, kx_rc1 hKc hPc (q0 := 0) rfl, fun U hU hW => ⟨rfl, by rw [hU], by rw [hU]; exact hPc, va_K.moved hW.alike hKc, hDc.weaken (fun _ _ _ _ => trivial)⟩⟩ rfl rfl hl.1 rfl (lv_room (Nat.le_of_ble_eq_true rfl)) dX4_reach_28 ⟨Nat.le_of_ble_eq_true rfl, Nat.le_of_ble_eq_true rfl⟩) hS (fun q _ h => hFc q h) hFc (fun u t H1 locs ht hvm w_5 hB hz1 hk1 hS => ?_)
      obtain ⟨o_6, rfl⟩ : ∃ z, z = u := ⟨_, rfl⟩
      obtain ⟨hP1, hK1, hD1⟩ := hB
      rw [ht] at hP1
      have hK1 := va_K.moved hvm.symm hK1
      obtain ⟨hP, hD⟩ := kx_join (w2 := [kx_4 m_ q_row q_t t_ h0 k0 w_ z_ slots old, kx_a t_k cyI 160 o_4, kx_0 q_row q_cell len, kx_a q_cell cyI 160 f, kx_1 t_ t_k t_o 0 0, kx_a t_o cyI 160 o_6]) hP hD hP1 hD1 hk1 hFc [2, 1] [0, 3, 4, 5] hCc rfl (by decide) (by decide)
      clear hP1 hD1 hK1 hk1 hz1 hFc hDc hPc hKc hCc
      generalize H1 = H at hP hS ⊢
      have w_5 : ∀ k : Nat, k < 160 → o_6 k = 0 := w_5
      refine lv_iconst (v := (-1)) hx hb dX4_reach_31 (by decide) ?_
      refine lv_istore_n (lv' := [(2, .int (-1)), (0, .ref m_), (1, .int p0)]) hx hb dX4_reach_32 rfl hl (by decide) rfl (fun ls hl => ?_)
      refine lv_iload_n hx hb dX4_reach_33 rfl (lv_at hl 2 rfl) ?_
      refine lv_istore_n (lv' := [(3, .int p0), (2, .int (-1)), (0, .ref m_), (1, .int p0)]) hx hb dX4_reach_34 rfl hl (by decide) rfl (fun ls hl => ?_)
      have LP1 : ∀ (n : Nat) (i : Int32) (far : Int32) (a_t : Int32) (a_m : Int32) (a_q : Nat → Int32), (p0.toInt ≤ i.toInt) → (i.toInt ≤ len.toInt) → (mj_tl f (fun k => (o_4 k).toNatClampNeg) a_q len.toNatClampNeg p0.toNatClampNeg (i.toNatClampNeg - p0.toNatClampNeg) a_m.toInt) → (a_t.toInt = i.toInt - p0.toInt) → (mj_lst (fun m => mj_hm f p0.toNatClampNeg (m - p0.toNatClampNeg)) p0.toNatClampNeg i.toNatClampNeg far.toInt) → (0 ≤ a_m.toInt) → (a_m.toInt ≤ i.toInt - p0.toInt) → (len.toInt - i.toInt).toNat < n → ∀ (H : Heap) (locs : List Loc), va_P (dC, dI) vwCl [kx_4 m_ q_row q_t t_ h0 k0 w_ z_ slots old, kx_a t_k cyI 160 o_4, kx_0 q_row q_cell len, kx_a q_cell cyI 160 f, kx_1 t_ t_k t_o a_t a_m, kx_a t_o cyI 160 a_q] H → va_D A [kx_4 m_ q_row q_t t_ h0 k0 w_ z_ slots old, kx_a t_k cyI 160 o_4, kx_0 q_row q_cell len, kx_a q_cell cyI 160 f, kx_1 t_ t_k t_o a_t a_m, kx_a t_o cyI 160 a_q] → va_S A s.heap H locs → ∀ (ls : Array Slot), lv_has ls 4 [(3, .int i), (2, .int far), (0, .ref m_), (1, .int p0)] → W p l e (headSpec wsX4_reach ({ frames := 2, cells := 0, slots := 0, locals := 90 })).room s m ([.ref m_, .int p0] : List Value).toArray below meth c H locs 0 0 (MQ below (va_Qi (fun (r : Int32) (u : Int32 × Int32 × (Nat → Int32) × (Nat → Int32)) => ((0 ≤ p0.toInt ∧ p0.toInt < len.toInt) ∧ mj_lst (fun m => mj_hm f p0.toNatClampNeg (m - p0.toNatClampNeg)) p0.toNatClampNeg len.toNatClampNeg r.toInt) ∨ ((p0.toInt < 0 ∨ len.toInt ≤ p0.toInt) ∧ r = -1)) (fun (u : Int32 × Int32 × (Nat → Int32) × (Nat → Int32)) (t : State) => va_P (dC, dI) vwCl [kx_4 m_ q_row q_t t_ h0 k0 w_ z_ slots old, kx_0 q_row q_cell len, kx_a q_cell cyI 160 f, kx_1 t_ t_k t_o u.1 u.2.1, kx_a t_k cyI 160 u.2.2.1, kx_a t_o cyI 160 u.2.2.2] t.heap ∧ va_K (dC, dI) vwCl [(cyI, .int)] t ∧ va_D A [kx_4 m_ q_row q_t t_ h0 k0 w_ z_ slots old, kx_0 q_row q_cell len, kx_a q_cell cyI 160 f, kx_1 t_ t_k t_o u.1 u.2.1, kx_a t_k cyI 160 u.2.2.1, kx_a t_o cyI 160 u.2.2.2]) A) ([.ref m_, .int p0] : List Value).toArray s 0 0 A) (F0 m 35 ls []) := by
        intro n
        induction n with
        | zero => intro i far a_t a_m a_q LP1_h0 LP1_h1 LP1_h2 LP1_h3 LP1_h4 LP1_h5 LP1_h6 hn; exact absurd hn (Nat.not_lt_zero _)
        | succ n ih1 =>
          intro i far a_t a_m a_q LP1_h0 LP1_h1 LP1_h2 LP1_h3 LP1_h4 LP1_h5 LP1_h6 hn1 H locs hP hD hS ls hl
          have n_i := ki_nat i rfl (om_0 w_1.1 LP1_h0)
          refine lv_iload_n hx hb dX4_reach_35 rfl (lv_at hl 0 rfl) ?_
          refine lv_aload_n hx hb dX4_reach_36 rfl (lv_at hl 2 rfl) ?_
          refine va_get (D := (dC, dI)) (ci := 4) (v := .ref q_row) (C := RX4) (T := TX4) (N := 9) hx hb hts hi_4 hown hK hP 0 rfl rfl 0 (by decide) hf_12 (fun _ h9 => h9) rfl dX4_reach_37 ?_
          refine va_get (D := (dC, dI)) (ci := 0) (v := .int len) (C := RX0) (T := TX0) (N := 2) hx hb hts hi_0 hown hK hP 2 rfl rfl 1 (by decide) hf_57 (fun _ h9 => h9) rfl dX4_reach_40 ?_
          refine lv_icmp_ge (tgt := 74) hx hb dX4_reach_43 (by decide) (fun c_7 => ?_) (fun c_7 => ?_)
          · have i_7 : len.toInt ≤ i.toInt := kc_le c_7
            refine lv_iload_n hx hb dX4_reach_74 rfl (lv_at hl 1 rfl) ?_
            obtain ⟨hP9, hD9⟩ := kx_sub (w2 := [kx_4 m_ q_row q_t t_ h0 k0 w_ z_ slots old, kx_0 q_row q_cell len, kx_a q_cell cyI 160 f, kx_1 t_ t_k t_o a_t a_m, kx_a t_k cyI 160 o_4, kx_a t_o cyI 160 a_q]) hP hD [0, 2, 3, 4, 1, 5] (by decide) rfl
            have hK9 := hK
            have q_i : i.toNatClampNeg = len.toNatClampNeg := by omega
            have h_l := LP1_h4
            rw [q_i] at h_l
            exact W.iret (v := far) hx hb hr (hlocks := hlocks) (fun t ht hW => ⟨⟨far, (a_t, a_m, o_4, a_q), rfl, (Or.inl ⟨(by (try dsimp only); omega), h_l⟩), by rw [ht]; exact hP9, va_K.moved hW.alike hK9, hD9⟩, hS.F ht⟩) hS.2.2 dX4_reach_75
          · have i_7 : i.toInt < len.toInt := kc_nle c_7
            refine lv_aload_n hx hb dX4_reach_46 rfl (lv_at hl 2 rfl) ?_
            refine va_get (D := (dC, dI)) (ci := 4) (v := .ref t_) (C := RX4) (T := TX4) (N := 9) hx hb hts hi_4 hown hK hP 0 rfl rfl 2 (by decide) hf_28 (fun _ h9 => h9) rfl dX4_reach_47 ?_
            refine lv_iload_n hx hb dX4_reach_50 rfl (lv_at hl 0 rfl) ?_
            obtain ⟨hPc, hDc, hFc, hCc⟩ := kx_pre (wc := [kx_1 t_ t_k t_o a_t a_m, kx_a t_k cyI 160 o_4, kx_a t_o cyI 160 a_q]) hP hD hS hA [4, 1, 5] (by decide) rfl
            have hKc := hK
            refine va_callv (va_runV (As := [.int i]) (rest := []) ⟨hx, hb, hml, hown, hts⟩ (kx_un (c_X1_take_x l dC dI t_ t_k t_o cyI a_t a_m o_4 a_q f len.toNatClampNeg p0.toNatClampNeg (i.toNatClampNeg - p0.toNatClampNeg) i H.size w_3.2 LP1_h2 (by omega) (by omega) (by omega) (by omega) (by omega) (by omega) (by omega))) (cwV 1 hts gX4_reach_X1_take rfl rfl rfl (by decide +kernel) ⟨Nat.le_of_ble_eq_true rfl, Nat.le_of_ble_eq_true rfl⟩) ⟨fun a U g mk q => by obtain ⟨q0, q1, qP, qK, qD⟩ := q; exact ⟨q0, q1, qP, va_K.moved (u := U) (U := U.calling g mk a) (Vm.Alike.refl U.vm) qK, qD⟩, kx_rc1 hKc hPc (q0 := 0) rfl, fun U hU hW => ⟨rfl, by rw [hU], by rw [hU]; exact hPc, va_K.moved hW.alike hKc, hDc.weaken (fun _ _ _ _ => trivial)⟩⟩ rfl rfl hl.1 rfl (lv_room (Nat.le_of_ble_eq_true rfl)) dX4_reach_51 ⟨Nat.le_of_ble_eq_true rfl, Nat.le_of_ble_eq_true rfl⟩) hS (fun q _ h => hFc q h) hFc (fun u t H1 locs ht hvm w_8 hB hz1 hk1 hS => ?_)
            obtain ⟨o_9, o_10, o_11⟩ := u
            dsimp only at w_8 hB
            obtain ⟨hP1, hK1, hD1⟩ := hB
            rw [ht] at hP1
            have hK1 := va_K.moved hvm.symm hK1
            obtain ⟨hP, hD⟩ := kx_join (w2 := [kx_4 m_ q_row q_t t_ h0 k0 w_ z_ slots old, kx_0 q_row q_cell len, kx_a q_cell cyI 160 f, kx_1 t_ t_k t_o o_9 o_10, kx_a t_k cyI 160 o_4, kx_a t_o cyI 160 o_11]) hP hD hP1 hD1 hk1 hFc [4, 1, 5] [0, 2, 3] hCc rfl (by decide) (by decide)
            clear hP1 hD1 hK1 hk1 hz1 hFc hDc hPc hKc hCc
            generalize H1 = H at hP hS ⊢
            have w_8 : mj_tl f (fun k => (o_4 k).toNatClampNeg) o_11 len.toNatClampNeg p0.toNatClampNeg ((i.toNatClampNeg - p0.toNatClampNeg) + 1) o_10.toInt ∧ o_9.toInt = a_t.toInt + 1 ∧ 0 ≤ o_10.toInt ∧ o_10.toInt ≤ (((i.toNatClampNeg - p0.toNatClampNeg) : Nat) : Int) + 1 := w_8
            refine lv_aload_n hx hb dX4_reach_54 rfl (lv_at hl 2 rfl) ?_
            refine va_get (D := (dC, dI)) (ci := 4) (v := .ref t_) (C := RX4) (T := TX4) (N := 9) hx hb hts hi_4 hown hK hP 0 rfl rfl 2 (by decide) hf_28 (fun _ h9 => h9) rfl dX4_reach_55 ?_
            have hPc := hP.sub (ws' := [kx_1 t_ t_k t_o o_9 o_10]) [3] rfl
            have hKc := hK.sub (tys' := []) [] rfl
            refine vp_callSi (W.runV (As := []) (rest := []) ⟨hx, hb, hml, hown, hts⟩ (c_X1_hasMajority_x l dC dI t_ t_k t_o o_9 o_10 w_8.2.2.1 (by omega)) (cwV 0 hts gX4_reach_X1_hasMajority rfl rfl rfl (by decide +kernel) ⟨Nat.le_of_ble_eq_true rfl, Nat.le_of_ble_eq_true rfl⟩) ⟨fun a U g mk q => by obtain ⟨q0, qP, qK⟩ := q; exact ⟨q0, qP, va_K.moved (u := U) (U := U.calling g mk a) (Vm.Alike.refl U.vm) qK⟩, kx_rc1 hKc hPc (q0 := 0) rfl, fun U hU hW => ⟨rfl, by rw [hU]; exact hPc, va_K.moved hW.alike hKc⟩⟩ rfl rfl hl.1 rfl (lv_room (Nat.le_of_ble_eq_true rfl)) dX4_reach_58 ⟨Nat.le_of_ble_eq_true rfl, Nat.le_of_ble_eq_true rfl⟩) (fun r_12 w_12 => ?_)
            rcases w_12 with ⟨rfl, w_12⟩ | ⟨rfl, w_12⟩
            · have w_12 : o_9.toInt < 2 * o_10.toInt := w_12
              refine lv_if_eq (tgt := 68) hx hb dX4_reach_61 (by decide) (fun c_13 => ?_) (fun c_13 => ?_)
              · exact absurd c_13 (by decide)
              · refine lv_iload_n hx hb dX4_reach_64 rfl (lv_at hl 0 rfl) ?_
                refine lv_iconst (v := 1) hx hb dX4_reach_65 (by decide) ?_
                refine lv_iadd hx hb dX4_reach_66 ?_
                refine lv_topi (fun y_14 ey_14 => ?_)
                have i_14 : y_14.toInt = i.toInt + 1 := ki_add ey_14 rfl rfl (om_2 w_1.1 LP1_h0) (om_238 a1 LP1_h1)
                refine lv_istore_n (lv' := [(2, .int y_14), (3, .int i), (0, .ref m_), (1, .int p0)]) hx hb dX4_reach_67 rfl hl (by decide) rfl (fun ls hl => ?_)
                obtain ⟨x_15, ex_15⟩ : ∃ y : Int32, y = i + 1 := ⟨_, rfl⟩
                have i_15 : x_15.toInt = i.toInt + 1 := ki_add ex_15 rfl rfl (om_2 w_1.1 LP1_h0) (om_238 a1 LP1_h1)
                refine lv_iinc (v := x_15) (lv' := [(3, .int x_15), (2, .int y_14), (0, .ref m_), (1, .int p0)]) hx hb dX4_reach_68 hl (k := 1) rfl (by rw [ex_15]; rfl) (by decide) rfl (fun ls hl => ?_)
                refine lv_goto (tgt := 35) hx hb dX4_reach_71 (by decide) ?_
                have hP : va_P (dC, dI) vwCl [kx_4 m_ q_row q_t t_ h0 k0 w_ z_ slots old, kx_a t_k cyI 160 o_4, kx_0 q_row q_cell len, kx_a q_cell cyI 160 f, kx_1 t_ t_k t_o o_9 o_10, kx_a t_o cyI 160 o_11] _ := hP.sub [0, 4, 1, 2, 3, 5] rfl
                have hD : va_D A [kx_4 m_ q_row q_t t_ h0 k0 w_ z_ slots old, kx_a t_k cyI 160 o_4, kx_0 q_row q_cell len, kx_a q_cell cyI 160 f, kx_1 t_ t_k t_o o_9 o_10, kx_a t_o cyI 160 o_11] := hD.sub [0, 4, 1, 2, 3, 5] (by decide) rfl
                have n_16 := ki_nat x_15 rfl (om_89 w_1.1 LP1_h0 i_15)
                have hmi := mj_tl_hm w_8.1 (by omega)
                exact ih1 x_15 y_14 o_9 o_10 o_11 (om_4 LP1_h0 i_15) (om_54 i_7 i_15) (by rw [show x_15.toNatClampNeg - p0.toNatClampNeg = i.toNatClampNeg - p0.toNatClampNeg + 1 by omega]; exact w_8.1) (om_499 LP1_h3 w_8.2.1 i_15) (mj_lst_yes (hi := i.toNatClampNeg) (by omega) (by omega) (by (try dsimp only); rw [show x_15.toNatClampNeg - p0.toNatClampNeg = i.toNatClampNeg - p0.toNatClampNeg + 1 by omega]; exact hmi.mp (by omega)) (by omega)) (om_10 w_8.2.2.1) (by omega) (om_mu hn1 (om_5 i_15) (om_6 i_7)) _ _ hP hD hS ls (lv_sub hl [0, 1, 2, 3] rfl)
            · have w_12 : 2 * o_10.toInt ≤ o_9.toInt := w_12
              refine lv_if_eq (tgt := 68) hx hb dX4_reach_61 (by decide) (fun c_17 => ?_) (fun c_17 => ?_)
              · obtain ⟨x_18, ex_18⟩ : ∃ y : Int32, y = i + 1 := ⟨_, rfl⟩
                have i_18 : x_18.toInt = i.toInt + 1 := ki_add ex_18 rfl rfl (om_2 w_1.1 LP1_h0) (om_238 a1 LP1_h1)
                refine lv_iinc (v := x_18) (lv' := [(3, .int x_18), (2, .int far), (0, .ref m_), (1, .int p0)]) hx hb dX4_reach_68 hl (k := 0) rfl (by rw [ex_18]; rfl) (by decide) rfl (fun ls hl => ?_)
                refine lv_goto (tgt := 35) hx hb dX4_reach_71 (by decide) ?_
                have hP : va_P (dC, dI) vwCl [kx_4 m_ q_row q_t t_ h0 k0 w_ z_ slots old, kx_a t_k cyI 160 o_4, kx_0 q_row q_cell len, kx_a q_cell cyI 160 f, kx_1 t_ t_k t_o o_9 o_10, kx_a t_o cyI 160 o_11] _ := hP.sub [0, 4, 1, 2, 3, 5] rfl
                have hD : va_D A [kx_4 m_ q_row q_t t_ h0 k0 w_ z_ slots old, kx_a t_k cyI 160 o_4, kx_0 q_row q_cell len, kx_a q_cell cyI 160 f, kx_1 t_ t_k t_o o_9 o_10, kx_a t_o cyI 160 o_11] := hD.sub [0, 4, 1, 2, 3, 5] (by decide) rfl
                have n_19 := ki_nat x_18 rfl (om_89 w_1.1 LP1_h0 i_18)
                have hmi := mj_tl_hm w_8.1 (by omega)
                exact ih1 x_18 far o_9 o_10 o_11 (om_4 LP1_h0 i_18) (om_54 i_7 i_18) (by rw [show x_18.toNatClampNeg - p0.toNatClampNeg = i.toNatClampNeg - p0.toNatClampNeg + 1 by omega]; exact w_8.1) (om_499 LP1_h3 w_8.2.1 i_18) (mj_lst_no LP1_h4 (by omega) (by (try dsimp only); rw [show x_18.toNatClampNeg - p0.toNatClampNeg = i.toNatClampNeg - p0.toNatClampNeg + 1 by omega]; exact fun h => by have := hmi.mpr h; omega)) (om_10 w_8.2.2.1) (om_500 LP1_h0 LP1_h3 w_8.2.1 w_12 i_18) (om_mu hn1 (om_5 i_18) (om_6 i_7)) _ _ hP hD hS ls (lv_sub hl [0, 1, 2, 3] rfl)
              · exact absurd c_17 (by decide)
      have k_20 : ((-1) : Int32).toInt = -1 := rfl
      have k_21 : (0 : Int32).toInt = 0 := rfl
      have k_22 : (0 : Int32).toInt = 0 := rfl
      exact LP1 ((len.toInt - p0.toInt : Int).toNat + 1) p0 (-1) 0 0 o_6 om_7 (om_414 w_1.2) (mj_tl_0 _ _ _ _ (by omega) (fun k hk => w_5 _ (by have := w_3.2 k hk; have := ki_nat _ rfl this.1; omega))) om_501 (Or.inr ⟨rfl, fun k h1 h2 => by omega⟩) om_35 om_413 (Nat.lt_succ_self _) _ _ hP hD hS ls (lv_sub hl [0, 1, 2, 3] rfl)
    · exact absurd c_2 (by decide)
  · have w_1 : (p0.toInt < 0 ∨ len.toInt ≤ p0.toInt) := w_1
    refine lv_if_ne (tgt := 13) hx hb dX4_reach_8 (by decide) (fun c_23 => ?_) (fun c_23 => ?_)
    · exact absurd c_23 (by decide)
    · refine lv_iconst (v := (-1)) hx hb dX4_reach_11 (by decide) ?_
      have hP9 := hP
      have hD9 := hD
      have hK9 := hK
      exact W.iret (v := (-1)) hx hb hr (hlocks := hlocks) (fun t ht hW => ⟨⟨(-1), (tk, mo, fk, fq), rfl, (Or.inr ⟨(by (try dsimp only); omega), rfl⟩), by rw [ht]; exact hP9, va_K.moved hW.alike hK9, hD9⟩, hS.F ht⟩) hS.2.2 dX4_reach_12

set_option maxHeartbeats 4000000 in
set_option maxRecDepth 100000 in
theorem c_X5_reach_x (l : Launch) (dC : Nat → ClassId) (dI : Nat → Nat → Nat) (h0 : Nat) (g_row : Nat) (g_many : Nat) (g_loss : Nat) (g_less : Nat) (g_voteValue : Nat) (g_voteNumber : Nat) (g_allValue : Nat) (g_allNumber : Nat) (g_nodeL : Nat) (g_nodeR : Nat) (g_part : Nat) (g_wasMany : Nat) (g_wasLoss : Nat) (g_wasValue : Nat) (g_wasNumber : Nat) (g_path : Nat) (g_heavyValue : Nat) (g_heavyTimes : Nat) (g_fewest : Nat) (g_which : Nat) (g_met : Nat) (m_n : Int32) (m_slots : Int32) (m_thrown : Int32) (m_allMany : Int32) (m_nodes : Int32) (m_partMany : Int32) (m_pathMany : Int32) (m_heavyMany : Int32) (m_mostMet : Int32) (cyI : ClassId) (f : Nat → Int32) (p0 : Int32) (sz : Nat) (a0 : 0 ≤ m_n.toInt) (a1 : m_n.toInt ≤ 160) (s1 : shorts f) : kx_MQ l (dC, dI) yX5_reach wsX5_reach ({ frames := 2, cells := 0, slots := 0, locals := 90 }) [.ref h0, .int p0] [kx_5 h0 g_row m_n m_slots m_thrown g_many g_loss g_less g_voteValue g_voteNumber g_allValue g_allNumber m_allMany g_nodeL g_nodeR m_nodes g_part m_partMany g_wasMany g_wasLoss g_wasValue g_wasNumber g_path m_pathMany g_heavyValue g_heavyTimes m_heavyMany g_fewest g_which g_met m_mostMet, kx_a g_row cyI 160 f] [(cyI, .int)] sz (fun A => va_Qi (fun (r : Int32) (_ : Unit) => ((0 ≤ p0.toInt ∧ p0.toInt < m_n.toInt) ∧ mj_lst (fun m => mj_hm f p0.toNatClampNeg (m - p0.toNatClampNeg)) p0.toNatClampNeg m_n.toNatClampNeg r.toInt) ∨ ((p0.toInt < 0 ∨ m_n.toInt ≤ p0.toInt) ∧ r = -1)) (fun (_ : Unit) (t : State) => va_P (dC, dI) vwCl [kx_5 h0 g_row m_n m_slots 0 g_many g_loss g_less g_voteValue g_voteNumber g_allValue g_allNumber m_allMany g_nodeL g_nodeR m_nodes g_part m_partMany g_wasMany g_wasLoss g_wasValue g_wasNumber g_path m_pathMany g_heavyValue g_heavyTimes m_heavyMany g_fewest g_which g_met m_mostMet, kx_a g_row cyI 160 f] t.heap ∧ va_K (dC, dI) vwCl [(cyI, .int)] t ∧ va_D A [kx_5 h0 g_row m_n m_slots 0 g_many g_loss g_less g_voteValue g_voteNumber g_allValue g_allNumber m_allMany g_nodeL g_nodeR m_nodes g_part m_partMany g_wasMany g_wasLoss g_wasValue g_wasNumber g_path m_pathMany g_heavyValue g_heavyTimes m_heavyMany g_fewest g_which g_met m_mostMet, kx_a g_row cyI 160 f]) A) := by
  refine kx_stQ (ws := wsX5_reach) (cc := cX5_reach) (maxL := 3) (ret := (some .int)) (by decide) rfl (Nat.le_of_ble_eq_true rfl) ?_
  intro p e s m below meth c A ls hx hb hr hlocks hts hown hml hA hS hP hK hD hl
  have hown : s.vm.findClass RX5 = some m.cls := hown
  have hl : lv_has ls 3 [(0, .ref h0), (1, .int p0)] := hl
  have hf_77 := hts (.fieldLink RX5 77 "MajorityIndexModel" "thrown" "I") (List.mem_of_getElem? (i := 1) rfl)
  have hi_5 : ∀ w ∈ u_ws RX5 TX5 30, w ∈ wsX5_reach := fun w h => List.mem_cons_of_mem _ (List.mem_append_right _ h)
  have hf_84 := hts (.fieldLink RX5 84 "MajorityIndexModel" "n" "I") (List.mem_of_getElem? (i := 2) rfl)
  have hk_148 := hts (.constant RX5 148 (-40000)) (List.mem_of_getElem? (i := 3) rfl)
  refine lv_aload_n hx hb dX5_reach_0 rfl (lv_at hl 0 rfl) ?_
  refine lv_iconst (v := 0) hx hb dX5_reach_1 (by decide) ?_
  refine va_put (D := (dC, dI)) (ci := 5) (v := .int 0) (ty := .int) (C := RX5) (T := TX5) (N := 30) hx hb hts hi_5 tyX5 tyX5_ok nmX5 hown hK hP hD hS 0 rfl rfl 3 (by decide) hf_77 (fun _ h9 => h9) rfl (by decide +kernel) rfl rfl (Nat.le_of_ble_eq_true rfl) dX5_reach_2 (fun H locs hP hD hS => ?_)
  obtain ⟨hP, hD⟩ := kx_re (w2 := [kx_5 h0 g_row m_n m_slots 0 g_many g_loss g_less g_voteValue g_voteNumber g_allValue g_allNumber m_allMany g_nodeL g_nodeR m_nodes g_part m_partMany g_wasMany g_wasLoss g_wasValue g_wasNumber g_path m_pathMany g_heavyValue g_heavyTimes m_heavyMany g_fewest g_which g_met m_mostMet, kx_a g_row cyI 160 f]) hP hD rfl
  refine lv_aload_n hx hb dX5_reach_5 rfl (lv_at hl 0 rfl) ?_
  refine lv_iload_n hx hb dX5_reach_6 rfl (lv_at hl 1 rfl) ?_
  have hPc := hP.sub (ws' := [kx_5 h0 g_row m_n m_slots 0 g_many g_loss g_less g_voteValue g_voteNumber g_allValue g_allNumber m_allMany g_nodeL g_nodeR m_nodes g_part m_partMany g_wasMany g_wasLoss g_wasValue g_wasNumber g_path m_pathMany g_heavyValue g_heavyTimes m_heavyMany g_fewest g_which g_met m_mostMet]) [0] rfl
  have hKc := hK.sub (tys' := []) [] rfl
  refine vp_callSi (W.runV (As := [.int p0]) (rest := []) ⟨hx, hb, hml, hown, hts⟩ (c_X5_isPlace l dC dI h0 g_row g_many g_loss g_less g_voteValue g_voteNumber g_allValue g_allNumber g_nodeL g_nodeR g_part g_wasMany g_wasLoss g_wasValue g_wasNumber g_path g_heavyValue g_heavyTimes g_fewest g_which g_met m_n m_slots 0 m_allMany m_nodes m_partMany m_pathMany m_heavyMany m_mostMet p0 a0 a1) (cwV 1 hts gX5_reach_X5_isPlace rfl rfl rfl (by decide +kernel) ⟨Nat.le_of_ble_eq_true rfl, Nat.le_of_ble_eq_true rfl⟩) ⟨fun a U g mk q => by obtain ⟨q0, qP, qK⟩ := q; exact ⟨q0, qP, va_K.moved (u := U) (U := U.calling g mk a) (Vm.Alike.refl U.vm) qK⟩, kx_rc5 hKc hPc (q0 := 0) rfl, fun U hU hW => ⟨rfl, by rw [hU]; exact hPc, va_K.moved hW.alike hKc⟩⟩ rfl rfl hl.1 rfl (lv_room (Nat.le_of_ble_eq_true rfl)) dX5_reach_7 ⟨Nat.le_of_ble_eq_true rfl, Nat.le_of_ble_eq_true rfl⟩) (fun r_1 w_1 => ?_)
  rcases w_1 with ⟨rfl, w_1⟩ | ⟨rfl, w_1⟩
  · have w_1 : (0 ≤ p0.toInt ∧ p0.toInt < m_n.toInt) := w_1
    refine lv_if_ne (tgt := 15) hx hb dX5_reach_10 (by decide) (fun c_2 => ?_) (fun c_2 => ?_)
    · have n_p0 := ki_nat p0 rfl (om_10 w_1.1)
      have n_l := ki_nat m_n rfl (om_10 a0)
      refine lv_aload_n hx hb dX5_reach_15 rfl (lv_at hl 0 rfl) ?_
      refine va_get (D := (dC, dI)) (ci := 5) (v := .int m_n) (C := RX5) (T := TX5) (N := 30) hx hb hts hi_5 hown hK hP 0 rfl rfl 1 (by decide) hf_84 (fun _ h9 => h9) rfl dX5_reach_16 ?_
      refine lv_istore_n (lv' := [(2, .int m_n), (0, .ref h0), (1, .int p0)]) hx hb dX5_reach_19 rfl hl (by decide) rfl (fun ls hl => ?_)
      have LP1 : ∀ (n : Nat) (rr : Int32), (p0.toInt < rr.toInt) → (rr.toInt ≤ m_n.toInt) → (∀ k : Nat, rr.toNatClampNeg < k → k ≤ m_n.toNatClampNeg → ¬ mj_hm f p0.toNatClampNeg (k - p0.toNatClampNeg)) → (rr.toInt).toNat < n → ∀ (H : Heap) (locs : List Loc), va_P (dC, dI) vwCl [kx_5 h0 g_row m_n m_slots 0 g_many g_loss g_less g_voteValue g_voteNumber g_allValue g_allNumber m_allMany g_nodeL g_nodeR m_nodes g_part m_partMany g_wasMany g_wasLoss g_wasValue g_wasNumber g_path m_pathMany g_heavyValue g_heavyTimes m_heavyMany g_fewest g_which g_met m_mostMet, kx_a g_row cyI 160 f] H → va_D A [kx_5 h0 g_row m_n m_slots 0 g_many g_loss g_less g_voteValue g_voteNumber g_allValue g_allNumber m_allMany g_nodeL g_nodeR m_nodes g_part m_partMany g_wasMany g_wasLoss g_wasValue g_wasNumber g_path m_pathMany g_heavyValue g_heavyTimes m_heavyMany g_fewest g_which g_met m_mostMet, kx_a g_row cyI 160 f] → va_S A s.heap H locs → ∀ (ls : Array Slot), lv_has ls 3 [(2, .int rr), (0, .ref h0), (1, .int p0)] → W p l e (headSpec wsX5_reach ({ frames := 2, cells := 0, slots := 0, locals := 90 })).room s m ([.ref h0, .int p0] : List Value).toArray below meth c H locs 0 0 (MQ below (va_Qi (fun (r : Int32) (_ : Unit) => ((0 ≤ p0.toInt ∧ p0.toInt < m_n.toInt) ∧ mj_lst (fun m => mj_hm f p0.toNatClampNeg (m - p0.toNatClampNeg)) p0.toNatClampNeg m_n.toNatClampNeg r.toInt) ∨ ((p0.toInt < 0 ∨ m_n.toInt ≤ p0.toInt) ∧ r = -1)) (fun (_ : Unit) (t : State) => va_P (dC, dI) vwCl [kx_5 h0 g_row m_n m_slots 0 g_many g_loss g_less g_voteValue g_voteNumber g_allValue g_allNumber m_allMany g_nodeL g_nodeR m_nodes g_part m_partMany g_wasMany g_wasLoss g_wasValue g_wasNumber g_path m_pathMany g_heavyValue g_heavyTimes m_heavyMany g_fewest g_which g_met m_mostMet, kx_a g_row cyI 160 f] t.heap ∧ va_K (dC, dI) vwCl [(cyI, .int)] t ∧ va_D A [kx_5 h0 g_row m_n m_slots 0 g_many g_loss g_less g_voteValue g_voteNumber g_allValue g_allNumber m_allMany g_nodeL g_nodeR m_nodes g_part m_partMany g_wasMany g_wasLoss g_wasValue g_wasNumber g_path m_pathMany g_heavyValue g_heavyTimes m_heavyMany g_fewest g_which g_met m_mostMet, kx_a g_row cyI 160 f]) A) ([.ref h0, .int p0] : List Value).toArray s 0 0 A) (F0 m 20 ls []) := by
        intro n
        induction n with
        | zero => intro rr LP1_h0 LP1_h1 LP1_h2 hn; exact absurd hn (Nat.not_lt_zero _)
        | succ n ih1 =>
          intro rr LP1_h0 LP1_h1 LP1_h2 hn1 H locs hP hD hS ls hl
          have n_rr := ki_nat rr rfl (om_21 w_1.1 LP1_h0)
          refine lv_aload_n hx hb dX5_reach_20 rfl (lv_at hl 1 rfl) ?_
          refine lv_iload_n hx hb dX5_reach_21 rfl (lv_at hl 2 rfl) ?_
          refine lv_iload_n hx hb dX5_reach_22 rfl (lv_at hl 0 rfl) ?_
          have hPc := hP
          have hKc := hK
          refine vp_callSi (W.runV (As := [.int p0, .int rr]) (rest := []) ⟨hx, hb, hml, hown, hts⟩ (c_X5_majorityOf_x l dC dI h0 g_row g_many g_loss g_less g_voteValue g_voteNumber g_allValue g_allNumber g_nodeL g_nodeR g_part g_wasMany g_wasLoss g_wasValue g_wasNumber g_path g_heavyValue g_heavyTimes g_fewest g_which g_met m_n m_slots 0 m_allMany m_nodes m_partMany m_pathMany m_heavyMany m_mostMet cyI f p0 rr (om_10 w_1.1) (om_167 a1 LP1_h1) LP1_h0) (cwV 2 hts gX5_reach_X5_majorityOf rfl rfl rfl (by decide +kernel) ⟨Nat.le_of_ble_eq_true rfl, Nat.le_of_ble_eq_true rfl⟩) ⟨fun a U g mk q => by obtain ⟨q0, qP, qK⟩ := q; exact ⟨q0, qP, va_K.moved (u := U) (U := U.calling g mk a) (Vm.Alike.refl U.vm) qK⟩, kx_rc5 hKc hPc (q0 := 0) rfl, fun U hU hW => ⟨rfl, by rw [hU]; exact hPc, va_K.moved hW.alike hKc⟩⟩ rfl rfl hl.1 rfl (lv_room (Nat.le_of_ble_eq_true rfl)) dX5_reach_23 ⟨Nat.le_of_ble_eq_true rfl, Nat.le_of_ble_eq_true rfl⟩) (fun r_3 w_3 => ?_)
          have w_3 : mj_maj f p0.toNatClampNeg rr.toNatClampNeg r_3 := w_3
          refine lv_ldc (v := (-40000)) hx hb hown hk_148 dX5_reach_26 ?_
          refine lv_icmp_ne (tgt := 37) hx hb dX5_reach_28 (by decide) (fun c_4 => ?_) (fun c_4 => ?_)
          · have i_4 : ¬ r_3.toInt = (-40000) := kc_ne c_4
            refine lv_iload_n hx hb dX5_reach_37 rfl (lv_at hl 0 rfl) ?_
            have hP9 := hP
            have hD9 := hD
            have hK9 := hK
            have hmi := mj_maj_hm w_3 s1 (by omega) (by omega)
            exact W.iret (v := rr) hx hb hr (hlocks := hlocks) (fun t ht hW => ⟨⟨rr, (), rfl, (Or.inl ⟨(by (try dsimp only); omega), Or.inl ⟨rr.toNatClampNeg, (by omega), (by omega), hmi.mp c_4, (by (try dsimp only); omega), LP1_h2⟩⟩), by rw [ht]; exact hP9, va_K.moved hW.alike hK9, hD9⟩, hS.F ht⟩) hS.2.2 dX5_reach_38
          · have i_4 : r_3.toInt = (-40000) := kc_eq c_4
            have hne := mj_maj_one w_3 s1 (by omega) c_4
            obtain ⟨x_5, ex_5⟩ : ∃ y : Int32, y = rr + (-1) := ⟨_, rfl⟩
            have i_5 : x_5.toInt = rr.toInt + (-1) := ki_add ex_5 rfl rfl (om_23 w_1.1 LP1_h0) (om_233 a1 LP1_h1)
            refine lv_iinc (v := x_5) (lv' := [(2, .int x_5), (0, .ref h0), (1, .int p0)]) hx hb dX5_reach_31 hl (k := 0) rfl (by rw [ex_5]; rfl) (by decide) rfl (fun ls hl => ?_)
            refine lv_goto (tgt := 20) hx hb dX5_reach_34 (by decide) ?_
            have n_6 := ki_nat x_5 rfl (om_502 w_1.1 LP1_h0 i_5)
            have hmi := mj_maj_hm w_3 s1 (by omega) (by omega)
            exact ih1 x_5 (by omega) (om_26 LP1_h1 i_5) (fun k h1 h2 => if h9 : rr.toNatClampNeg < k then LP1_h2 k h9 h2 else (by rw [show k = rr.toNatClampNeg by omega]; exact fun h => hmi.mpr h c_4)) (om_mu hn1 (om_27 i_5) (om_28 w_1.1 LP1_h0)) _ _ hP hD hS ls (lv_sub hl [0, 1, 2] rfl)
      exact LP1 ((m_n.toInt : Int).toNat + 1) m_n (om_11 w_1.2) om_7 (fun k h1 h2 => absurd h1 (by omega)) (Nat.lt_succ_self _) _ _ hP hD hS ls (lv_sub hl [0, 1, 2] rfl)
    · exact absurd c_2 (by decide)
  · have w_1 : (p0.toInt < 0 ∨ m_n.toInt ≤ p0.toInt) := w_1
    refine lv_if_ne (tgt := 15) hx hb dX5_reach_10 (by decide) (fun c_7 => ?_) (fun c_7 => ?_)
    · exact absurd c_7 (by decide)
    · refine lv_iconst (v := (-1)) hx hb dX5_reach_13 (by decide) ?_
      have hP9 := hP
      have hD9 := hD
      have hK9 := hK
      exact W.iret (v := (-1)) hx hb hr (hlocks := hlocks) (fun t ht hW => ⟨⟨(-1), (), rfl, (Or.inr ⟨(by (try dsimp only); omega), rfl⟩), by rw [ht]; exact hP9, va_K.moved hW.alike hK9, hD9⟩, hS.F ht⟩) hS.2.2 dX5_reach_14



abbrev cL_law : ByteArray := code


def dt_cL_law_0 : List (Nat × Nat × Nat × Nat) := [(0, 187, 2, 8), (3, 89, 0, 0), (4, 183, 2, 26), (7, 76, 0, 0), (8, 187, 2, 27), (11, 89, 0, 0), (12, 183, 2, 29), (15, 77, 0, 0), (16, 4, 0, 0)]
theorem da_cL_law_0 : fw dt_cL_law_0 0 cL_law.data.toList = true := by decide +kernel
theorem dL_law_0 : decode cL_law 0 = .ok (.new 8, 3) := fo_187 (fw_get da_cL_law_0 0 rfl)
theorem dL_law_3 : decode cL_law 3 = .ok (.dup, 1) := fo_89 (fw_get da_cL_law_0 1 rfl)
theorem dL_law_4 : decode cL_law 4 = .ok (.invokespecial 26, 3) := fo_183 (fw_get da_cL_law_0 2 rfl)
theorem dL_law_7 : decode cL_law 7 = .ok (.astore_n 1, 1) := fo_76 (fw_get da_cL_law_0 3 rfl)
theorem dL_law_8 : decode cL_law 8 = .ok (.new 27, 3) := fo_187 (fw_get da_cL_law_0 4 rfl)
theorem dL_law_11 : decode cL_law 11 = .ok (.dup, 1) := fo_89 (fw_get da_cL_law_0 5 rfl)
theorem dL_law_12 : decode cL_law 12 = .ok (.invokespecial 29, 3) := fo_183 (fw_get da_cL_law_0 6 rfl)
theorem dL_law_15 : decode cL_law 15 = .ok (.astore_n 2, 1) := fo_77 (fw_get da_cL_law_0 7 rfl)
theorem dL_law_16 : decode cL_law 16 = .ok (.iconst 1, 1) := fo_4 (fw_get da_cL_law_0 8 rfl)
theorem dL_law_17 : decode cL_law 17 = .ok (.newarray .long, 2) := by decide +kernel
def dt_cL_law_1 : List (Nat × Nat × Nat × Nat) := [(19, 78, 0, 0), (20, 3, 0, 0), (21, 54, 1, 4), (23, 21, 1, 4), (25, 42, 0, 0), (26, 190, 0, 0), (27, 16, 1, 8), (29, 100, 0, 0), (30, 163, 2, 2264), (33, 42, 0, 0), (34, 21, 1, 4), (36, 46, 0, 0), (37, 16, 1, 63), (39, 126, 0, 0)]
theorem da_cL_law_1 : fw dt_cL_law_1 0 cL_law.data.toList = true := by decide +kernel
theorem dL_law_19 : decode cL_law 19 = .ok (.astore_n 3, 1) := fo_78 (fw_get da_cL_law_1 0 rfl)
theorem dL_law_20 : decode cL_law 20 = .ok (.iconst 0, 1) := fo_3 (fw_get da_cL_law_1 1 rfl)
theorem dL_law_21 : decode cL_law 21 = .ok (.istore 4, 2) := fo_54 (fw_get da_cL_law_1 2 rfl)
theorem dL_law_23 : decode cL_law 23 = .ok (.iload 4, 2) := fo_21 (fw_get da_cL_law_1 3 rfl)
theorem dL_law_25 : decode cL_law 25 = .ok (.aload_n 0, 1) := fo_42 (fw_get da_cL_law_1 4 rfl)
theorem dL_law_26 : decode cL_law 26 = .ok (.arraylength, 1) := fo_190 (fw_get da_cL_law_1 5 rfl)
theorem dL_law_27 : decode cL_law 27 = .ok (.bipush 8, 2) := fo_16 (fw_get da_cL_law_1 6 rfl) (by decide +kernel)
theorem dL_law_29 : decode cL_law 29 = .ok (.isub, 1) := fo_100 (fw_get da_cL_law_1 7 rfl)
theorem dL_law_30 : decode cL_law 30 = .ok (.if_icmp .gt 2264, 3) := fo_163 (fw_get da_cL_law_1 8 rfl) (by decide +kernel)
theorem dL_law_33 : decode cL_law 33 = .ok (.aload_n 0, 1) := fo_42 (fw_get da_cL_law_1 9 rfl)
theorem dL_law_34 : decode cL_law 34 = .ok (.iload 4, 2) := fo_21 (fw_get da_cL_law_1 10 rfl)
theorem dL_law_36 : decode cL_law 36 = .ok (.iaload, 1) := fo_46 (fw_get da_cL_law_1 11 rfl)
theorem dL_law_37 : decode cL_law 37 = .ok (.bipush 63, 2) := fo_16 (fw_get da_cL_law_1 12 rfl) (by decide +kernel)
theorem dL_law_39 : decode cL_law 39 = .ok (.iand, 1) := fo_126 (fw_get da_cL_law_1 13 rfl)
theorem dL_law_40 : decode cL_law 40 = .ok (.tableswitch 2248 0 43 #[192, 229, 254, 279, 316, 365, 402, 439, 476, 501, 529, 578, 615, 628, 665, 729, 766, 803, 852, 877, 914, 975, 1024, 1088, 1137, 1174, 1235, 1325, 1386, 1447, 1484, 1533, 1620, 1721, 1782, 1807, 1844, 1881, 1894, 1955, 2028, 2101, 2162, 2223], 192) := by decide +kernel
def dt_cL_law_2 : List (Nat × Nat × Nat × Nat) := [(232, 43, 0, 0), (233, 42, 0, 0), (234, 21, 1, 4), (236, 4, 0, 0), (237, 96, 0, 0), (238, 46, 0, 0), (239, 42, 0, 0), (240, 21, 1, 4), (242, 5, 0, 0), (243, 96, 0, 0), (244, 46, 0, 0), (245, 182, 2, 30), (248, 87, 0, 0), (249, 44, 0, 0), (250, 42, 0, 0), (251, 21, 1, 4), (253, 4, 0, 0), (254, 96, 0, 0), (255, 46, 0, 0), (256, 42, 0, 0)]
theorem da_cL_law_2 : fw dt_cL_law_2 0 cL_law.data.toList = true := by decide +kernel
theorem dL_law_232 : decode cL_law 232 = .ok (.aload_n 1, 1) := fo_43 (fw_get da_cL_law_2 0 rfl)
theorem dL_law_233 : decode cL_law 233 = .ok (.aload_n 0, 1) := fo_42 (fw_get da_cL_law_2 1 rfl)
theorem dL_law_234 : decode cL_law 234 = .ok (.iload 4, 2) := fo_21 (fw_get da_cL_law_2 2 rfl)
theorem dL_law_236 : decode cL_law 236 = .ok (.iconst 1, 1) := fo_4 (fw_get da_cL_law_2 3 rfl)
theorem dL_law_237 : decode cL_law 237 = .ok (.iadd, 1) := fo_96 (fw_get da_cL_law_2 4 rfl)
theorem dL_law_238 : decode cL_law 238 = .ok (.iaload, 1) := fo_46 (fw_get da_cL_law_2 5 rfl)
theorem dL_law_239 : decode cL_law 239 = .ok (.aload_n 0, 1) := fo_42 (fw_get da_cL_law_2 6 rfl)
theorem dL_law_240 : decode cL_law 240 = .ok (.iload 4, 2) := fo_21 (fw_get da_cL_law_2 7 rfl)
theorem dL_law_242 : decode cL_law 242 = .ok (.iconst 2, 1) := fo_5 (fw_get da_cL_law_2 8 rfl)
theorem dL_law_243 : decode cL_law 243 = .ok (.iadd, 1) := fo_96 (fw_get da_cL_law_2 9 rfl)
theorem dL_law_244 : decode cL_law 244 = .ok (.iaload, 1) := fo_46 (fw_get da_cL_law_2 10 rfl)
theorem dL_law_245 : decode cL_law 245 = .ok (.invokevirtual 30, 3) := fo_182 (fw_get da_cL_law_2 11 rfl)
theorem dL_law_248 : decode cL_law 248 = .ok (.pop, 1) := fo_87 (fw_get da_cL_law_2 12 rfl)
theorem dL_law_249 : decode cL_law 249 = .ok (.aload_n 2, 1) := fo_44 (fw_get da_cL_law_2 13 rfl)
theorem dL_law_250 : decode cL_law 250 = .ok (.aload_n 0, 1) := fo_42 (fw_get da_cL_law_2 14 rfl)
theorem dL_law_251 : decode cL_law 251 = .ok (.iload 4, 2) := fo_21 (fw_get da_cL_law_2 15 rfl)
theorem dL_law_253 : decode cL_law 253 = .ok (.iconst 1, 1) := fo_4 (fw_get da_cL_law_2 16 rfl)
theorem dL_law_254 : decode cL_law 254 = .ok (.iadd, 1) := fo_96 (fw_get da_cL_law_2 17 rfl)
theorem dL_law_255 : decode cL_law 255 = .ok (.iaload, 1) := fo_46 (fw_get da_cL_law_2 18 rfl)
theorem dL_law_256 : decode cL_law 256 = .ok (.aload_n 0, 1) := fo_42 (fw_get da_cL_law_2 19 rfl)
def dt_cL_law_3 : List (Nat × Nat × Nat × Nat) := [(257, 21, 1, 4), (259, 5, 0, 0), (260, 96, 0, 0), (261, 46, 0, 0), (262, 182, 2, 34), (265, 87, 0, 0), (266, 167, 2, 2022), (269, 43, 0, 0), (270, 42, 0, 0), (271, 21, 1, 4), (273, 4, 0, 0), (274, 96, 0, 0), (275, 46, 0, 0), (276, 182, 2, 35), (279, 87, 0, 0), (280, 44, 0, 0), (281, 42, 0, 0), (282, 21, 1, 4), (284, 4, 0, 0), (285, 96, 0, 0)]
theorem da_cL_law_3 : fw dt_cL_law_3 0 cL_law.data.toList = true := by decide +kernel
theorem dL_law_257 : decode cL_law 257 = .ok (.iload 4, 2) := fo_21 (fw_get da_cL_law_3 0 rfl)
theorem dL_law_259 : decode cL_law 259 = .ok (.iconst 2, 1) := fo_5 (fw_get da_cL_law_3 1 rfl)
theorem dL_law_260 : decode cL_law 260 = .ok (.iadd, 1) := fo_96 (fw_get da_cL_law_3 2 rfl)
theorem dL_law_261 : decode cL_law 261 = .ok (.iaload, 1) := fo_46 (fw_get da_cL_law_3 3 rfl)
theorem dL_law_262 : decode cL_law 262 = .ok (.invokevirtual 34, 3) := fo_182 (fw_get da_cL_law_3 4 rfl)
theorem dL_law_265 : decode cL_law 265 = .ok (.pop, 1) := fo_87 (fw_get da_cL_law_3 5 rfl)
theorem dL_law_266 : decode cL_law 266 = .ok (.goto 2022, 3) := fo_167 (fw_get da_cL_law_3 6 rfl) (by decide +kernel)
theorem dL_law_269 : decode cL_law 269 = .ok (.aload_n 1, 1) := fo_43 (fw_get da_cL_law_3 7 rfl)
theorem dL_law_270 : decode cL_law 270 = .ok (.aload_n 0, 1) := fo_42 (fw_get da_cL_law_3 8 rfl)
theorem dL_law_271 : decode cL_law 271 = .ok (.iload 4, 2) := fo_21 (fw_get da_cL_law_3 9 rfl)
theorem dL_law_273 : decode cL_law 273 = .ok (.iconst 1, 1) := fo_4 (fw_get da_cL_law_3 10 rfl)
theorem dL_law_274 : decode cL_law 274 = .ok (.iadd, 1) := fo_96 (fw_get da_cL_law_3 11 rfl)
theorem dL_law_275 : decode cL_law 275 = .ok (.iaload, 1) := fo_46 (fw_get da_cL_law_3 12 rfl)
theorem dL_law_276 : decode cL_law 276 = .ok (.invokevirtual 35, 3) := fo_182 (fw_get da_cL_law_3 13 rfl)
theorem dL_law_279 : decode cL_law 279 = .ok (.pop, 1) := fo_87 (fw_get da_cL_law_3 14 rfl)
theorem dL_law_280 : decode cL_law 280 = .ok (.aload_n 2, 1) := fo_44 (fw_get da_cL_law_3 15 rfl)
theorem dL_law_281 : decode cL_law 281 = .ok (.aload_n 0, 1) := fo_42 (fw_get da_cL_law_3 16 rfl)
theorem dL_law_282 : decode cL_law 282 = .ok (.iload 4, 2) := fo_21 (fw_get da_cL_law_3 17 rfl)
theorem dL_law_284 : decode cL_law 284 = .ok (.iconst 1, 1) := fo_4 (fw_get da_cL_law_3 18 rfl)
theorem dL_law_285 : decode cL_law 285 = .ok (.iadd, 1) := fo_96 (fw_get da_cL_law_3 19 rfl)
def dt_cL_law_4 : List (Nat × Nat × Nat × Nat) := [(286, 46, 0, 0), (287, 182, 2, 38), (290, 87, 0, 0), (291, 167, 2, 1997), (294, 43, 0, 0), (295, 42, 0, 0), (296, 21, 1, 4), (298, 4, 0, 0), (299, 96, 0, 0), (300, 46, 0, 0), (301, 182, 2, 39), (304, 87, 0, 0), (305, 44, 0, 0), (306, 42, 0, 0), (307, 21, 1, 4), (309, 4, 0, 0), (310, 96, 0, 0), (311, 46, 0, 0), (312, 182, 2, 42), (315, 87, 0, 0)]
theorem da_cL_law_4 : fw dt_cL_law_4 0 cL_law.data.toList = true := by decide +kernel
theorem dL_law_286 : decode cL_law 286 = .ok (.iaload, 1) := fo_46 (fw_get da_cL_law_4 0 rfl)
theorem dL_law_287 : decode cL_law 287 = .ok (.invokevirtual 38, 3) := fo_182 (fw_get da_cL_law_4 1 rfl)
theorem dL_law_290 : decode cL_law 290 = .ok (.pop, 1) := fo_87 (fw_get da_cL_law_4 2 rfl)
theorem dL_law_291 : decode cL_law 291 = .ok (.goto 1997, 3) := fo_167 (fw_get da_cL_law_4 3 rfl) (by decide +kernel)
theorem dL_law_294 : decode cL_law 294 = .ok (.aload_n 1, 1) := fo_43 (fw_get da_cL_law_4 4 rfl)
theorem dL_law_295 : decode cL_law 295 = .ok (.aload_n 0, 1) := fo_42 (fw_get da_cL_law_4 5 rfl)
theorem dL_law_296 : decode cL_law 296 = .ok (.iload 4, 2) := fo_21 (fw_get da_cL_law_4 6 rfl)
theorem dL_law_298 : decode cL_law 298 = .ok (.iconst 1, 1) := fo_4 (fw_get da_cL_law_4 7 rfl)
theorem dL_law_299 : decode cL_law 299 = .ok (.iadd, 1) := fo_96 (fw_get da_cL_law_4 8 rfl)
theorem dL_law_300 : decode cL_law 300 = .ok (.iaload, 1) := fo_46 (fw_get da_cL_law_4 9 rfl)
theorem dL_law_301 : decode cL_law 301 = .ok (.invokevirtual 39, 3) := fo_182 (fw_get da_cL_law_4 10 rfl)
theorem dL_law_304 : decode cL_law 304 = .ok (.pop, 1) := fo_87 (fw_get da_cL_law_4 11 rfl)
theorem dL_law_305 : decode cL_law 305 = .ok (.aload_n 2, 1) := fo_44 (fw_get da_cL_law_4 12 rfl)
theorem dL_law_306 : decode cL_law 306 = .ok (.aload_n 0, 1) := fo_42 (fw_get da_cL_law_4 13 rfl)
theorem dL_law_307 : decode cL_law 307 = .ok (.iload 4, 2) := fo_21 (fw_get da_cL_law_4 14 rfl)
theorem dL_law_309 : decode cL_law 309 = .ok (.iconst 1, 1) := fo_4 (fw_get da_cL_law_4 15 rfl)
theorem dL_law_310 : decode cL_law 310 = .ok (.iadd, 1) := fo_96 (fw_get da_cL_law_4 16 rfl)
theorem dL_law_311 : decode cL_law 311 = .ok (.iaload, 1) := fo_46 (fw_get da_cL_law_4 17 rfl)
theorem dL_law_312 : decode cL_law 312 = .ok (.invokevirtual 42, 3) := fo_182 (fw_get da_cL_law_4 18 rfl)
theorem dL_law_315 : decode cL_law 315 = .ok (.pop, 1) := fo_87 (fw_get da_cL_law_4 19 rfl)
def dt_cL_law_5 : List (Nat × Nat × Nat × Nat) := [(316, 167, 2, 1972), (319, 43, 0, 0), (320, 42, 0, 0), (321, 21, 1, 4), (323, 4, 0, 0), (324, 96, 0, 0), (325, 46, 0, 0), (326, 42, 0, 0), (327, 21, 1, 4), (329, 5, 0, 0), (330, 96, 0, 0), (331, 46, 0, 0), (332, 182, 2, 43), (335, 87, 0, 0), (336, 44, 0, 0), (337, 42, 0, 0), (338, 21, 1, 4), (340, 4, 0, 0), (341, 96, 0, 0), (342, 46, 0, 0)]
theorem da_cL_law_5 : fw dt_cL_law_5 0 cL_law.data.toList = true := by decide +kernel
theorem dL_law_316 : decode cL_law 316 = .ok (.goto 1972, 3) := fo_167 (fw_get da_cL_law_5 0 rfl) (by decide +kernel)
theorem dL_law_319 : decode cL_law 319 = .ok (.aload_n 1, 1) := fo_43 (fw_get da_cL_law_5 1 rfl)
theorem dL_law_320 : decode cL_law 320 = .ok (.aload_n 0, 1) := fo_42 (fw_get da_cL_law_5 2 rfl)
theorem dL_law_321 : decode cL_law 321 = .ok (.iload 4, 2) := fo_21 (fw_get da_cL_law_5 3 rfl)
theorem dL_law_323 : decode cL_law 323 = .ok (.iconst 1, 1) := fo_4 (fw_get da_cL_law_5 4 rfl)
theorem dL_law_324 : decode cL_law 324 = .ok (.iadd, 1) := fo_96 (fw_get da_cL_law_5 5 rfl)
theorem dL_law_325 : decode cL_law 325 = .ok (.iaload, 1) := fo_46 (fw_get da_cL_law_5 6 rfl)
theorem dL_law_326 : decode cL_law 326 = .ok (.aload_n 0, 1) := fo_42 (fw_get da_cL_law_5 7 rfl)
theorem dL_law_327 : decode cL_law 327 = .ok (.iload 4, 2) := fo_21 (fw_get da_cL_law_5 8 rfl)
theorem dL_law_329 : decode cL_law 329 = .ok (.iconst 2, 1) := fo_5 (fw_get da_cL_law_5 9 rfl)
theorem dL_law_330 : decode cL_law 330 = .ok (.iadd, 1) := fo_96 (fw_get da_cL_law_5 10 rfl)
theorem dL_law_331 : decode cL_law 331 = .ok (.iaload, 1) := fo_46 (fw_get da_cL_law_5 11 rfl)
theorem dL_law_332 : decode cL_law 332 = .ok (.invokevirtual 43, 3) := fo_182 (fw_get da_cL_law_5 12 rfl)
theorem dL_law_335 : decode cL_law 335 = .ok (.pop, 1) := fo_87 (fw_get da_cL_law_5 13 rfl)
theorem dL_law_336 : decode cL_law 336 = .ok (.aload_n 2, 1) := fo_44 (fw_get da_cL_law_5 14 rfl)
theorem dL_law_337 : decode cL_law 337 = .ok (.aload_n 0, 1) := fo_42 (fw_get da_cL_law_5 15 rfl)
theorem dL_law_338 : decode cL_law 338 = .ok (.iload 4, 2) := fo_21 (fw_get da_cL_law_5 16 rfl)
theorem dL_law_340 : decode cL_law 340 = .ok (.iconst 1, 1) := fo_4 (fw_get da_cL_law_5 17 rfl)
theorem dL_law_341 : decode cL_law 341 = .ok (.iadd, 1) := fo_96 (fw_get da_cL_law_5 18 rfl)
theorem dL_law_342 : decode cL_law 342 = .ok (.iaload, 1) := fo_46 (fw_get da_cL_law_5 19 rfl)
def dt_cL_law_6 : List (Nat × Nat × Nat × Nat) := [(343, 42, 0, 0), (344, 21, 1, 4), (346, 5, 0, 0), (347, 96, 0, 0), (348, 46, 0, 0), (349, 182, 2, 46), (352, 87, 0, 0), (353, 167, 2, 1935), (356, 43, 0, 0), (357, 42, 0, 0), (358, 21, 1, 4), (360, 4, 0, 0), (361, 96, 0, 0), (362, 46, 0, 0), (363, 42, 0, 0), (364, 21, 1, 4), (366, 5, 0, 0), (367, 96, 0, 0), (368, 46, 0, 0), (369, 42, 0, 0)]
theorem da_cL_law_6 : fw dt_cL_law_6 0 cL_law.data.toList = true := by decide +kernel
theorem dL_law_343 : decode cL_law 343 = .ok (.aload_n 0, 1) := fo_42 (fw_get da_cL_law_6 0 rfl)
theorem dL_law_344 : decode cL_law 344 = .ok (.iload 4, 2) := fo_21 (fw_get da_cL_law_6 1 rfl)
theorem dL_law_346 : decode cL_law 346 = .ok (.iconst 2, 1) := fo_5 (fw_get da_cL_law_6 2 rfl)
theorem dL_law_347 : decode cL_law 347 = .ok (.iadd, 1) := fo_96 (fw_get da_cL_law_6 3 rfl)
theorem dL_law_348 : decode cL_law 348 = .ok (.iaload, 1) := fo_46 (fw_get da_cL_law_6 4 rfl)
theorem dL_law_349 : decode cL_law 349 = .ok (.invokevirtual 46, 3) := fo_182 (fw_get da_cL_law_6 5 rfl)
theorem dL_law_352 : decode cL_law 352 = .ok (.pop, 1) := fo_87 (fw_get da_cL_law_6 6 rfl)
theorem dL_law_353 : decode cL_law 353 = .ok (.goto 1935, 3) := fo_167 (fw_get da_cL_law_6 7 rfl) (by decide +kernel)
theorem dL_law_356 : decode cL_law 356 = .ok (.aload_n 1, 1) := fo_43 (fw_get da_cL_law_6 8 rfl)
theorem dL_law_357 : decode cL_law 357 = .ok (.aload_n 0, 1) := fo_42 (fw_get da_cL_law_6 9 rfl)
theorem dL_law_358 : decode cL_law 358 = .ok (.iload 4, 2) := fo_21 (fw_get da_cL_law_6 10 rfl)
theorem dL_law_360 : decode cL_law 360 = .ok (.iconst 1, 1) := fo_4 (fw_get da_cL_law_6 11 rfl)
theorem dL_law_361 : decode cL_law 361 = .ok (.iadd, 1) := fo_96 (fw_get da_cL_law_6 12 rfl)
theorem dL_law_362 : decode cL_law 362 = .ok (.iaload, 1) := fo_46 (fw_get da_cL_law_6 13 rfl)
theorem dL_law_363 : decode cL_law 363 = .ok (.aload_n 0, 1) := fo_42 (fw_get da_cL_law_6 14 rfl)
theorem dL_law_364 : decode cL_law 364 = .ok (.iload 4, 2) := fo_21 (fw_get da_cL_law_6 15 rfl)
theorem dL_law_366 : decode cL_law 366 = .ok (.iconst 2, 1) := fo_5 (fw_get da_cL_law_6 16 rfl)
theorem dL_law_367 : decode cL_law 367 = .ok (.iadd, 1) := fo_96 (fw_get da_cL_law_6 17 rfl)
theorem dL_law_368 : decode cL_law 368 = .ok (.iaload, 1) := fo_46 (fw_get da_cL_law_6 18 rfl)
theorem dL_law_369 : decode cL_law 369 = .ok (.aload_n 0, 1) := fo_42 (fw_get da_cL_law_6 19 rfl)
def dt_cL_law_7 : List (Nat × Nat × Nat × Nat) := [(370, 21, 1, 4), (372, 6, 0, 0), (373, 96, 0, 0), (374, 46, 0, 0), (375, 182, 2, 47), (378, 87, 0, 0), (379, 44, 0, 0), (380, 42, 0, 0), (381, 21, 1, 4), (383, 4, 0, 0), (384, 96, 0, 0), (385, 46, 0, 0), (386, 42, 0, 0), (387, 21, 1, 4), (389, 5, 0, 0), (390, 96, 0, 0), (391, 46, 0, 0), (392, 42, 0, 0), (393, 21, 1, 4), (395, 6, 0, 0)]
theorem da_cL_law_7 : fw dt_cL_law_7 0 cL_law.data.toList = true := by decide +kernel
theorem dL_law_370 : decode cL_law 370 = .ok (.iload 4, 2) := fo_21 (fw_get da_cL_law_7 0 rfl)
theorem dL_law_372 : decode cL_law 372 = .ok (.iconst 3, 1) := fo_6 (fw_get da_cL_law_7 1 rfl)
theorem dL_law_373 : decode cL_law 373 = .ok (.iadd, 1) := fo_96 (fw_get da_cL_law_7 2 rfl)
theorem dL_law_374 : decode cL_law 374 = .ok (.iaload, 1) := fo_46 (fw_get da_cL_law_7 3 rfl)
theorem dL_law_375 : decode cL_law 375 = .ok (.invokevirtual 47, 3) := fo_182 (fw_get da_cL_law_7 4 rfl)
theorem dL_law_378 : decode cL_law 378 = .ok (.pop, 1) := fo_87 (fw_get da_cL_law_7 5 rfl)
theorem dL_law_379 : decode cL_law 379 = .ok (.aload_n 2, 1) := fo_44 (fw_get da_cL_law_7 6 rfl)
theorem dL_law_380 : decode cL_law 380 = .ok (.aload_n 0, 1) := fo_42 (fw_get da_cL_law_7 7 rfl)
theorem dL_law_381 : decode cL_law 381 = .ok (.iload 4, 2) := fo_21 (fw_get da_cL_law_7 8 rfl)
theorem dL_law_383 : decode cL_law 383 = .ok (.iconst 1, 1) := fo_4 (fw_get da_cL_law_7 9 rfl)
theorem dL_law_384 : decode cL_law 384 = .ok (.iadd, 1) := fo_96 (fw_get da_cL_law_7 10 rfl)
theorem dL_law_385 : decode cL_law 385 = .ok (.iaload, 1) := fo_46 (fw_get da_cL_law_7 11 rfl)
theorem dL_law_386 : decode cL_law 386 = .ok (.aload_n 0, 1) := fo_42 (fw_get da_cL_law_7 12 rfl)
theorem dL_law_387 : decode cL_law 387 = .ok (.iload 4, 2) := fo_21 (fw_get da_cL_law_7 13 rfl)
theorem dL_law_389 : decode cL_law 389 = .ok (.iconst 2, 1) := fo_5 (fw_get da_cL_law_7 14 rfl)
theorem dL_law_390 : decode cL_law 390 = .ok (.iadd, 1) := fo_96 (fw_get da_cL_law_7 15 rfl)
theorem dL_law_391 : decode cL_law 391 = .ok (.iaload, 1) := fo_46 (fw_get da_cL_law_7 16 rfl)
theorem dL_law_392 : decode cL_law 392 = .ok (.aload_n 0, 1) := fo_42 (fw_get da_cL_law_7 17 rfl)
theorem dL_law_393 : decode cL_law 393 = .ok (.iload 4, 2) := fo_21 (fw_get da_cL_law_7 18 rfl)
theorem dL_law_395 : decode cL_law 395 = .ok (.iconst 3, 1) := fo_6 (fw_get da_cL_law_7 19 rfl)
def dt_cL_law_8 : List (Nat × Nat × Nat × Nat) := [(396, 96, 0, 0), (397, 46, 0, 0), (398, 182, 2, 51), (401, 87, 0, 0), (402, 167, 2, 1886)]
theorem da_cL_law_8 : fw dt_cL_law_8 0 cL_law.data.toList = true := by decide +kernel
theorem dL_law_396 : decode cL_law 396 = .ok (.iadd, 1) := fo_96 (fw_get da_cL_law_8 0 rfl)
theorem dL_law_397 : decode cL_law 397 = .ok (.iaload, 1) := fo_46 (fw_get da_cL_law_8 1 rfl)
theorem dL_law_398 : decode cL_law 398 = .ok (.invokevirtual 51, 3) := fo_182 (fw_get da_cL_law_8 2 rfl)
theorem dL_law_401 : decode cL_law 401 = .ok (.pop, 1) := fo_87 (fw_get da_cL_law_8 3 rfl)
theorem dL_law_402 : decode cL_law 402 = .ok (.goto 1886, 3) := fo_167 (fw_get da_cL_law_8 4 rfl) (by decide +kernel)


def dt_cL_law_9 : List (Nat × Nat × Nat × Nat) := [(405, 43, 0, 0), (406, 42, 0, 0), (407, 21, 1, 4), (409, 4, 0, 0), (410, 96, 0, 0), (411, 46, 0, 0), (412, 42, 0, 0), (413, 21, 1, 4), (415, 5, 0, 0), (416, 96, 0, 0), (417, 46, 0, 0), (418, 182, 2, 52), (421, 87, 0, 0), (422, 44, 0, 0), (423, 42, 0, 0), (424, 21, 1, 4), (426, 4, 0, 0), (427, 96, 0, 0), (428, 46, 0, 0), (429, 42, 0, 0)]
theorem da_cL_law_9 : fw dt_cL_law_9 0 cL_law.data.toList = true := by decide +kernel
theorem dL_law_405 : decode cL_law 405 = .ok (.aload_n 1, 1) := fo_43 (fw_get da_cL_law_9 0 rfl)
theorem dL_law_406 : decode cL_law 406 = .ok (.aload_n 0, 1) := fo_42 (fw_get da_cL_law_9 1 rfl)
theorem dL_law_407 : decode cL_law 407 = .ok (.iload 4, 2) := fo_21 (fw_get da_cL_law_9 2 rfl)
theorem dL_law_409 : decode cL_law 409 = .ok (.iconst 1, 1) := fo_4 (fw_get da_cL_law_9 3 rfl)
theorem dL_law_410 : decode cL_law 410 = .ok (.iadd, 1) := fo_96 (fw_get da_cL_law_9 4 rfl)
theorem dL_law_411 : decode cL_law 411 = .ok (.iaload, 1) := fo_46 (fw_get da_cL_law_9 5 rfl)
theorem dL_law_412 : decode cL_law 412 = .ok (.aload_n 0, 1) := fo_42 (fw_get da_cL_law_9 6 rfl)
theorem dL_law_413 : decode cL_law 413 = .ok (.iload 4, 2) := fo_21 (fw_get da_cL_law_9 7 rfl)
theorem dL_law_415 : decode cL_law 415 = .ok (.iconst 2, 1) := fo_5 (fw_get da_cL_law_9 8 rfl)
theorem dL_law_416 : decode cL_law 416 = .ok (.iadd, 1) := fo_96 (fw_get da_cL_law_9 9 rfl)
theorem dL_law_417 : decode cL_law 417 = .ok (.iaload, 1) := fo_46 (fw_get da_cL_law_9 10 rfl)
theorem dL_law_418 : decode cL_law 418 = .ok (.invokevirtual 52, 3) := fo_182 (fw_get da_cL_law_9 11 rfl)
theorem dL_law_421 : decode cL_law 421 = .ok (.pop, 1) := fo_87 (fw_get da_cL_law_9 12 rfl)
theorem dL_law_422 : decode cL_law 422 = .ok (.aload_n 2, 1) := fo_44 (fw_get da_cL_law_9 13 rfl)
theorem dL_law_423 : decode cL_law 423 = .ok (.aload_n 0, 1) := fo_42 (fw_get da_cL_law_9 14 rfl)
theorem dL_law_424 : decode cL_law 424 = .ok (.iload 4, 2) := fo_21 (fw_get da_cL_law_9 15 rfl)
theorem dL_law_426 : decode cL_law 426 = .ok (.iconst 1, 1) := fo_4 (fw_get da_cL_law_9 16 rfl)
theorem dL_law_427 : decode cL_law 427 = .ok (.iadd, 1) := fo_96 (fw_get da_cL_law_9 17 rfl)
theorem dL_law_428 : decode cL_law 428 = .ok (.iaload, 1) := fo_46 (fw_get da_cL_law_9 18 rfl)
theorem dL_law_429 : decode cL_law 429 = .ok (.aload_n 0, 1) := fo_42 (fw_get da_cL_law_9 19 rfl)
def dt_cL_law_10 : List (Nat × Nat × Nat × Nat) := [(430, 21, 1, 4), (432, 5, 0, 0), (433, 96, 0, 0), (434, 46, 0, 0), (435, 182, 2, 55), (438, 87, 0, 0), (439, 167, 2, 1849), (442, 43, 0, 0), (443, 42, 0, 0), (444, 21, 1, 4), (446, 4, 0, 0), (447, 96, 0, 0), (448, 46, 0, 0), (449, 42, 0, 0), (450, 21, 1, 4), (452, 5, 0, 0), (453, 96, 0, 0), (454, 46, 0, 0), (455, 182, 2, 56), (458, 87, 0, 0)]
theorem da_cL_law_10 : fw dt_cL_law_10 0 cL_law.data.toList = true := by decide +kernel
theorem dL_law_430 : decode cL_law 430 = .ok (.iload 4, 2) := fo_21 (fw_get da_cL_law_10 0 rfl)
theorem dL_law_432 : decode cL_law 432 = .ok (.iconst 2, 1) := fo_5 (fw_get da_cL_law_10 1 rfl)
theorem dL_law_433 : decode cL_law 433 = .ok (.iadd, 1) := fo_96 (fw_get da_cL_law_10 2 rfl)
theorem dL_law_434 : decode cL_law 434 = .ok (.iaload, 1) := fo_46 (fw_get da_cL_law_10 3 rfl)
theorem dL_law_435 : decode cL_law 435 = .ok (.invokevirtual 55, 3) := fo_182 (fw_get da_cL_law_10 4 rfl)
theorem dL_law_438 : decode cL_law 438 = .ok (.pop, 1) := fo_87 (fw_get da_cL_law_10 5 rfl)
theorem dL_law_439 : decode cL_law 439 = .ok (.goto 1849, 3) := fo_167 (fw_get da_cL_law_10 6 rfl) (by decide +kernel)
theorem dL_law_442 : decode cL_law 442 = .ok (.aload_n 1, 1) := fo_43 (fw_get da_cL_law_10 7 rfl)
theorem dL_law_443 : decode cL_law 443 = .ok (.aload_n 0, 1) := fo_42 (fw_get da_cL_law_10 8 rfl)
theorem dL_law_444 : decode cL_law 444 = .ok (.iload 4, 2) := fo_21 (fw_get da_cL_law_10 9 rfl)
theorem dL_law_446 : decode cL_law 446 = .ok (.iconst 1, 1) := fo_4 (fw_get da_cL_law_10 10 rfl)
theorem dL_law_447 : decode cL_law 447 = .ok (.iadd, 1) := fo_96 (fw_get da_cL_law_10 11 rfl)
theorem dL_law_448 : decode cL_law 448 = .ok (.iaload, 1) := fo_46 (fw_get da_cL_law_10 12 rfl)
theorem dL_law_449 : decode cL_law 449 = .ok (.aload_n 0, 1) := fo_42 (fw_get da_cL_law_10 13 rfl)
theorem dL_law_450 : decode cL_law 450 = .ok (.iload 4, 2) := fo_21 (fw_get da_cL_law_10 14 rfl)
theorem dL_law_452 : decode cL_law 452 = .ok (.iconst 2, 1) := fo_5 (fw_get da_cL_law_10 15 rfl)
theorem dL_law_453 : decode cL_law 453 = .ok (.iadd, 1) := fo_96 (fw_get da_cL_law_10 16 rfl)
theorem dL_law_454 : decode cL_law 454 = .ok (.iaload, 1) := fo_46 (fw_get da_cL_law_10 17 rfl)
theorem dL_law_455 : decode cL_law 455 = .ok (.invokevirtual 56, 3) := fo_182 (fw_get da_cL_law_10 18 rfl)
theorem dL_law_458 : decode cL_law 458 = .ok (.pop, 1) := fo_87 (fw_get da_cL_law_10 19 rfl)
def dt_cL_law_11 : List (Nat × Nat × Nat × Nat) := [(459, 44, 0, 0), (460, 42, 0, 0), (461, 21, 1, 4), (463, 4, 0, 0), (464, 96, 0, 0), (465, 46, 0, 0), (466, 42, 0, 0), (467, 21, 1, 4), (469, 5, 0, 0), (470, 96, 0, 0), (471, 46, 0, 0), (472, 182, 2, 59), (475, 87, 0, 0), (476, 167, 2, 1812), (479, 43, 0, 0), (480, 42, 0, 0), (481, 21, 1, 4), (483, 4, 0, 0), (484, 96, 0, 0), (485, 46, 0, 0)]
theorem da_cL_law_11 : fw dt_cL_law_11 0 cL_law.data.toList = true := by decide +kernel
theorem dL_law_459 : decode cL_law 459 = .ok (.aload_n 2, 1) := fo_44 (fw_get da_cL_law_11 0 rfl)
theorem dL_law_460 : decode cL_law 460 = .ok (.aload_n 0, 1) := fo_42 (fw_get da_cL_law_11 1 rfl)
theorem dL_law_461 : decode cL_law 461 = .ok (.iload 4, 2) := fo_21 (fw_get da_cL_law_11 2 rfl)
theorem dL_law_463 : decode cL_law 463 = .ok (.iconst 1, 1) := fo_4 (fw_get da_cL_law_11 3 rfl)
theorem dL_law_464 : decode cL_law 464 = .ok (.iadd, 1) := fo_96 (fw_get da_cL_law_11 4 rfl)
theorem dL_law_465 : decode cL_law 465 = .ok (.iaload, 1) := fo_46 (fw_get da_cL_law_11 5 rfl)
theorem dL_law_466 : decode cL_law 466 = .ok (.aload_n 0, 1) := fo_42 (fw_get da_cL_law_11 6 rfl)
theorem dL_law_467 : decode cL_law 467 = .ok (.iload 4, 2) := fo_21 (fw_get da_cL_law_11 7 rfl)
theorem dL_law_469 : decode cL_law 469 = .ok (.iconst 2, 1) := fo_5 (fw_get da_cL_law_11 8 rfl)
theorem dL_law_470 : decode cL_law 470 = .ok (.iadd, 1) := fo_96 (fw_get da_cL_law_11 9 rfl)
theorem dL_law_471 : decode cL_law 471 = .ok (.iaload, 1) := fo_46 (fw_get da_cL_law_11 10 rfl)
theorem dL_law_472 : decode cL_law 472 = .ok (.invokevirtual 59, 3) := fo_182 (fw_get da_cL_law_11 11 rfl)
theorem dL_law_475 : decode cL_law 475 = .ok (.pop, 1) := fo_87 (fw_get da_cL_law_11 12 rfl)
theorem dL_law_476 : decode cL_law 476 = .ok (.goto 1812, 3) := fo_167 (fw_get da_cL_law_11 13 rfl) (by decide +kernel)
theorem dL_law_479 : decode cL_law 479 = .ok (.aload_n 1, 1) := fo_43 (fw_get da_cL_law_11 14 rfl)
theorem dL_law_480 : decode cL_law 480 = .ok (.aload_n 0, 1) := fo_42 (fw_get da_cL_law_11 15 rfl)
theorem dL_law_481 : decode cL_law 481 = .ok (.iload 4, 2) := fo_21 (fw_get da_cL_law_11 16 rfl)
theorem dL_law_483 : decode cL_law 483 = .ok (.iconst 1, 1) := fo_4 (fw_get da_cL_law_11 17 rfl)
theorem dL_law_484 : decode cL_law 484 = .ok (.iadd, 1) := fo_96 (fw_get da_cL_law_11 18 rfl)
theorem dL_law_485 : decode cL_law 485 = .ok (.iaload, 1) := fo_46 (fw_get da_cL_law_11 19 rfl)
def dt_cL_law_12 : List (Nat × Nat × Nat × Nat) := [(486, 42, 0, 0), (487, 21, 1, 4), (489, 5, 0, 0), (490, 96, 0, 0), (491, 46, 0, 0), (492, 182, 2, 60), (495, 87, 0, 0), (496, 44, 0, 0), (497, 42, 0, 0), (498, 21, 1, 4), (500, 4, 0, 0), (501, 96, 0, 0), (502, 46, 0, 0), (503, 42, 0, 0), (504, 21, 1, 4), (506, 5, 0, 0), (507, 96, 0, 0), (508, 46, 0, 0), (509, 182, 2, 63), (512, 87, 0, 0)]
theorem da_cL_law_12 : fw dt_cL_law_12 0 cL_law.data.toList = true := by decide +kernel
theorem dL_law_486 : decode cL_law 486 = .ok (.aload_n 0, 1) := fo_42 (fw_get da_cL_law_12 0 rfl)
theorem dL_law_487 : decode cL_law 487 = .ok (.iload 4, 2) := fo_21 (fw_get da_cL_law_12 1 rfl)
theorem dL_law_489 : decode cL_law 489 = .ok (.iconst 2, 1) := fo_5 (fw_get da_cL_law_12 2 rfl)
theorem dL_law_490 : decode cL_law 490 = .ok (.iadd, 1) := fo_96 (fw_get da_cL_law_12 3 rfl)
theorem dL_law_491 : decode cL_law 491 = .ok (.iaload, 1) := fo_46 (fw_get da_cL_law_12 4 rfl)
theorem dL_law_492 : decode cL_law 492 = .ok (.invokevirtual 60, 3) := fo_182 (fw_get da_cL_law_12 5 rfl)
theorem dL_law_495 : decode cL_law 495 = .ok (.pop, 1) := fo_87 (fw_get da_cL_law_12 6 rfl)
theorem dL_law_496 : decode cL_law 496 = .ok (.aload_n 2, 1) := fo_44 (fw_get da_cL_law_12 7 rfl)
theorem dL_law_497 : decode cL_law 497 = .ok (.aload_n 0, 1) := fo_42 (fw_get da_cL_law_12 8 rfl)
theorem dL_law_498 : decode cL_law 498 = .ok (.iload 4, 2) := fo_21 (fw_get da_cL_law_12 9 rfl)
theorem dL_law_500 : decode cL_law 500 = .ok (.iconst 1, 1) := fo_4 (fw_get da_cL_law_12 10 rfl)
theorem dL_law_501 : decode cL_law 501 = .ok (.iadd, 1) := fo_96 (fw_get da_cL_law_12 11 rfl)
theorem dL_law_502 : decode cL_law 502 = .ok (.iaload, 1) := fo_46 (fw_get da_cL_law_12 12 rfl)
theorem dL_law_503 : decode cL_law 503 = .ok (.aload_n 0, 1) := fo_42 (fw_get da_cL_law_12 13 rfl)
theorem dL_law_504 : decode cL_law 504 = .ok (.iload 4, 2) := fo_21 (fw_get da_cL_law_12 14 rfl)
theorem dL_law_506 : decode cL_law 506 = .ok (.iconst 2, 1) := fo_5 (fw_get da_cL_law_12 15 rfl)
theorem dL_law_507 : decode cL_law 507 = .ok (.iadd, 1) := fo_96 (fw_get da_cL_law_12 16 rfl)
theorem dL_law_508 : decode cL_law 508 = .ok (.iaload, 1) := fo_46 (fw_get da_cL_law_12 17 rfl)
theorem dL_law_509 : decode cL_law 509 = .ok (.invokevirtual 63, 3) := fo_182 (fw_get da_cL_law_12 18 rfl)
theorem dL_law_512 : decode cL_law 512 = .ok (.pop, 1) := fo_87 (fw_get da_cL_law_12 19 rfl)
def dt_cL_law_13 : List (Nat × Nat × Nat × Nat) := [(513, 167, 2, 1775), (516, 43, 0, 0), (517, 42, 0, 0), (518, 21, 1, 4), (520, 4, 0, 0), (521, 96, 0, 0), (522, 46, 0, 0), (523, 182, 2, 64), (526, 87, 0, 0), (527, 44, 0, 0), (528, 42, 0, 0), (529, 21, 1, 4), (531, 4, 0, 0), (532, 96, 0, 0), (533, 46, 0, 0), (534, 182, 2, 67), (537, 87, 0, 0), (538, 167, 2, 1750), (541, 43, 0, 0), (542, 42, 0, 0)]
theorem da_cL_law_13 : fw dt_cL_law_13 0 cL_law.data.toList = true := by decide +kernel
theorem dL_law_513 : decode cL_law 513 = .ok (.goto 1775, 3) := fo_167 (fw_get da_cL_law_13 0 rfl) (by decide +kernel)
theorem dL_law_516 : decode cL_law 516 = .ok (.aload_n 1, 1) := fo_43 (fw_get da_cL_law_13 1 rfl)
theorem dL_law_517 : decode cL_law 517 = .ok (.aload_n 0, 1) := fo_42 (fw_get da_cL_law_13 2 rfl)
theorem dL_law_518 : decode cL_law 518 = .ok (.iload 4, 2) := fo_21 (fw_get da_cL_law_13 3 rfl)
theorem dL_law_520 : decode cL_law 520 = .ok (.iconst 1, 1) := fo_4 (fw_get da_cL_law_13 4 rfl)
theorem dL_law_521 : decode cL_law 521 = .ok (.iadd, 1) := fo_96 (fw_get da_cL_law_13 5 rfl)
theorem dL_law_522 : decode cL_law 522 = .ok (.iaload, 1) := fo_46 (fw_get da_cL_law_13 6 rfl)
theorem dL_law_523 : decode cL_law 523 = .ok (.invokevirtual 64, 3) := fo_182 (fw_get da_cL_law_13 7 rfl)
theorem dL_law_526 : decode cL_law 526 = .ok (.pop, 1) := fo_87 (fw_get da_cL_law_13 8 rfl)
theorem dL_law_527 : decode cL_law 527 = .ok (.aload_n 2, 1) := fo_44 (fw_get da_cL_law_13 9 rfl)
theorem dL_law_528 : decode cL_law 528 = .ok (.aload_n 0, 1) := fo_42 (fw_get da_cL_law_13 10 rfl)
theorem dL_law_529 : decode cL_law 529 = .ok (.iload 4, 2) := fo_21 (fw_get da_cL_law_13 11 rfl)
theorem dL_law_531 : decode cL_law 531 = .ok (.iconst 1, 1) := fo_4 (fw_get da_cL_law_13 12 rfl)
theorem dL_law_532 : decode cL_law 532 = .ok (.iadd, 1) := fo_96 (fw_get da_cL_law_13 13 rfl)
theorem dL_law_533 : decode cL_law 533 = .ok (.iaload, 1) := fo_46 (fw_get da_cL_law_13 14 rfl)
theorem dL_law_534 : decode cL_law 534 = .ok (.invokevirtual 67, 3) := fo_182 (fw_get da_cL_law_13 15 rfl)
theorem dL_law_537 : decode cL_law 537 = .ok (.pop, 1) := fo_87 (fw_get da_cL_law_13 16 rfl)
theorem dL_law_538 : decode cL_law 538 = .ok (.goto 1750, 3) := fo_167 (fw_get da_cL_law_13 17 rfl) (by decide +kernel)
theorem dL_law_541 : decode cL_law 541 = .ok (.aload_n 1, 1) := fo_43 (fw_get da_cL_law_13 18 rfl)
theorem dL_law_542 : decode cL_law 542 = .ok (.aload_n 0, 1) := fo_42 (fw_get da_cL_law_13 19 rfl)
def dt_cL_law_14 : List (Nat × Nat × Nat × Nat) := [(543, 21, 1, 4), (545, 4, 0, 0), (546, 96, 0, 0), (547, 46, 0, 0), (548, 45, 0, 0), (549, 184, 2, 68), (552, 54, 1, 5), (554, 44, 0, 0), (555, 42, 0, 0), (556, 21, 1, 4), (558, 4, 0, 0), (559, 96, 0, 0), (560, 46, 0, 0), (561, 182, 2, 73), (564, 54, 1, 6), (566, 167, 2, 1722), (569, 43, 0, 0), (570, 42, 0, 0), (571, 21, 1, 4), (573, 4, 0, 0)]
theorem da_cL_law_14 : fw dt_cL_law_14 0 cL_law.data.toList = true := by decide +kernel
theorem dL_law_543 : decode cL_law 543 = .ok (.iload 4, 2) := fo_21 (fw_get da_cL_law_14 0 rfl)
theorem dL_law_545 : decode cL_law 545 = .ok (.iconst 1, 1) := fo_4 (fw_get da_cL_law_14 1 rfl)
theorem dL_law_546 : decode cL_law 546 = .ok (.iadd, 1) := fo_96 (fw_get da_cL_law_14 2 rfl)
theorem dL_law_547 : decode cL_law 547 = .ok (.iaload, 1) := fo_46 (fw_get da_cL_law_14 3 rfl)
theorem dL_law_548 : decode cL_law 548 = .ok (.aload_n 3, 1) := fo_45 (fw_get da_cL_law_14 4 rfl)
theorem dL_law_549 : decode cL_law 549 = .ok (.invokestatic 68, 3) := fo_184 (fw_get da_cL_law_14 5 rfl)
theorem dL_law_552 : decode cL_law 552 = .ok (.istore 5, 2) := fo_54 (fw_get da_cL_law_14 6 rfl)
theorem dL_law_554 : decode cL_law 554 = .ok (.aload_n 2, 1) := fo_44 (fw_get da_cL_law_14 7 rfl)
theorem dL_law_555 : decode cL_law 555 = .ok (.aload_n 0, 1) := fo_42 (fw_get da_cL_law_14 8 rfl)
theorem dL_law_556 : decode cL_law 556 = .ok (.iload 4, 2) := fo_21 (fw_get da_cL_law_14 9 rfl)
theorem dL_law_558 : decode cL_law 558 = .ok (.iconst 1, 1) := fo_4 (fw_get da_cL_law_14 10 rfl)
theorem dL_law_559 : decode cL_law 559 = .ok (.iadd, 1) := fo_96 (fw_get da_cL_law_14 11 rfl)
theorem dL_law_560 : decode cL_law 560 = .ok (.iaload, 1) := fo_46 (fw_get da_cL_law_14 12 rfl)
theorem dL_law_561 : decode cL_law 561 = .ok (.invokevirtual 73, 3) := fo_182 (fw_get da_cL_law_14 13 rfl)
theorem dL_law_564 : decode cL_law 564 = .ok (.istore 6, 2) := fo_54 (fw_get da_cL_law_14 14 rfl)
theorem dL_law_566 : decode cL_law 566 = .ok (.goto 1722, 3) := fo_167 (fw_get da_cL_law_14 15 rfl) (by decide +kernel)
theorem dL_law_569 : decode cL_law 569 = .ok (.aload_n 1, 1) := fo_43 (fw_get da_cL_law_14 16 rfl)
theorem dL_law_570 : decode cL_law 570 = .ok (.aload_n 0, 1) := fo_42 (fw_get da_cL_law_14 17 rfl)
theorem dL_law_571 : decode cL_law 571 = .ok (.iload 4, 2) := fo_21 (fw_get da_cL_law_14 18 rfl)
theorem dL_law_573 : decode cL_law 573 = .ok (.iconst 1, 1) := fo_4 (fw_get da_cL_law_14 19 rfl)
def dt_cL_law_15 : List (Nat × Nat × Nat × Nat) := [(574, 96, 0, 0), (575, 46, 0, 0), (576, 42, 0, 0), (577, 21, 1, 4), (579, 5, 0, 0), (580, 96, 0, 0), (581, 46, 0, 0), (582, 42, 0, 0), (583, 21, 1, 4), (585, 6, 0, 0), (586, 96, 0, 0), (587, 46, 0, 0), (588, 182, 2, 74), (591, 87, 0, 0), (592, 44, 0, 0), (593, 42, 0, 0), (594, 21, 1, 4), (596, 4, 0, 0), (597, 96, 0, 0), (598, 46, 0, 0)]
theorem da_cL_law_15 : fw dt_cL_law_15 0 cL_law.data.toList = true := by decide +kernel
theorem dL_law_574 : decode cL_law 574 = .ok (.iadd, 1) := fo_96 (fw_get da_cL_law_15 0 rfl)
theorem dL_law_575 : decode cL_law 575 = .ok (.iaload, 1) := fo_46 (fw_get da_cL_law_15 1 rfl)
theorem dL_law_576 : decode cL_law 576 = .ok (.aload_n 0, 1) := fo_42 (fw_get da_cL_law_15 2 rfl)
theorem dL_law_577 : decode cL_law 577 = .ok (.iload 4, 2) := fo_21 (fw_get da_cL_law_15 3 rfl)
theorem dL_law_579 : decode cL_law 579 = .ok (.iconst 2, 1) := fo_5 (fw_get da_cL_law_15 4 rfl)
theorem dL_law_580 : decode cL_law 580 = .ok (.iadd, 1) := fo_96 (fw_get da_cL_law_15 5 rfl)
theorem dL_law_581 : decode cL_law 581 = .ok (.iaload, 1) := fo_46 (fw_get da_cL_law_15 6 rfl)
theorem dL_law_582 : decode cL_law 582 = .ok (.aload_n 0, 1) := fo_42 (fw_get da_cL_law_15 7 rfl)
theorem dL_law_583 : decode cL_law 583 = .ok (.iload 4, 2) := fo_21 (fw_get da_cL_law_15 8 rfl)
theorem dL_law_585 : decode cL_law 585 = .ok (.iconst 3, 1) := fo_6 (fw_get da_cL_law_15 9 rfl)
theorem dL_law_586 : decode cL_law 586 = .ok (.iadd, 1) := fo_96 (fw_get da_cL_law_15 10 rfl)
theorem dL_law_587 : decode cL_law 587 = .ok (.iaload, 1) := fo_46 (fw_get da_cL_law_15 11 rfl)
theorem dL_law_588 : decode cL_law 588 = .ok (.invokevirtual 74, 3) := fo_182 (fw_get da_cL_law_15 12 rfl)
theorem dL_law_591 : decode cL_law 591 = .ok (.pop, 1) := fo_87 (fw_get da_cL_law_15 13 rfl)
theorem dL_law_592 : decode cL_law 592 = .ok (.aload_n 2, 1) := fo_44 (fw_get da_cL_law_15 14 rfl)
theorem dL_law_593 : decode cL_law 593 = .ok (.aload_n 0, 1) := fo_42 (fw_get da_cL_law_15 15 rfl)
theorem dL_law_594 : decode cL_law 594 = .ok (.iload 4, 2) := fo_21 (fw_get da_cL_law_15 16 rfl)
theorem dL_law_596 : decode cL_law 596 = .ok (.iconst 1, 1) := fo_4 (fw_get da_cL_law_15 17 rfl)
theorem dL_law_597 : decode cL_law 597 = .ok (.iadd, 1) := fo_96 (fw_get da_cL_law_15 18 rfl)
theorem dL_law_598 : decode cL_law 598 = .ok (.iaload, 1) := fo_46 (fw_get da_cL_law_15 19 rfl)
def dt_cL_law_16 : List (Nat × Nat × Nat × Nat) := [(599, 42, 0, 0), (600, 21, 1, 4), (602, 5, 0, 0), (603, 96, 0, 0), (604, 46, 0, 0), (605, 42, 0, 0), (606, 21, 1, 4), (608, 6, 0, 0), (609, 96, 0, 0), (610, 46, 0, 0)]
theorem da_cL_law_16 : fw dt_cL_law_16 0 cL_law.data.toList = true := by decide +kernel
theorem dL_law_599 : decode cL_law 599 = .ok (.aload_n 0, 1) := fo_42 (fw_get da_cL_law_16 0 rfl)
theorem dL_law_600 : decode cL_law 600 = .ok (.iload 4, 2) := fo_21 (fw_get da_cL_law_16 1 rfl)
theorem dL_law_602 : decode cL_law 602 = .ok (.iconst 2, 1) := fo_5 (fw_get da_cL_law_16 2 rfl)
theorem dL_law_603 : decode cL_law 603 = .ok (.iadd, 1) := fo_96 (fw_get da_cL_law_16 3 rfl)
theorem dL_law_604 : decode cL_law 604 = .ok (.iaload, 1) := fo_46 (fw_get da_cL_law_16 4 rfl)
theorem dL_law_605 : decode cL_law 605 = .ok (.aload_n 0, 1) := fo_42 (fw_get da_cL_law_16 5 rfl)
theorem dL_law_606 : decode cL_law 606 = .ok (.iload 4, 2) := fo_21 (fw_get da_cL_law_16 6 rfl)
theorem dL_law_608 : decode cL_law 608 = .ok (.iconst 3, 1) := fo_6 (fw_get da_cL_law_16 7 rfl)
theorem dL_law_609 : decode cL_law 609 = .ok (.iadd, 1) := fo_96 (fw_get da_cL_law_16 8 rfl)
theorem dL_law_610 : decode cL_law 610 = .ok (.iaload, 1) := fo_46 (fw_get da_cL_law_16 9 rfl)


def dt_cL_law_17 : List (Nat × Nat × Nat × Nat) := [(611, 182, 2, 77), (614, 87, 0, 0), (615, 167, 2, 1673), (618, 43, 0, 0), (619, 42, 0, 0), (620, 21, 1, 4), (622, 4, 0, 0), (623, 96, 0, 0), (624, 46, 0, 0), (625, 42, 0, 0), (626, 21, 1, 4), (628, 5, 0, 0), (629, 96, 0, 0), (630, 46, 0, 0), (631, 182, 2, 78), (634, 87, 0, 0), (635, 44, 0, 0), (636, 42, 0, 0), (637, 21, 1, 4), (639, 4, 0, 0)]
theorem da_cL_law_17 : fw dt_cL_law_17 0 cL_law.data.toList = true := by decide +kernel
theorem dL_law_611 : decode cL_law 611 = .ok (.invokevirtual 77, 3) := fo_182 (fw_get da_cL_law_17 0 rfl)
theorem dL_law_614 : decode cL_law 614 = .ok (.pop, 1) := fo_87 (fw_get da_cL_law_17 1 rfl)
theorem dL_law_615 : decode cL_law 615 = .ok (.goto 1673, 3) := fo_167 (fw_get da_cL_law_17 2 rfl) (by decide +kernel)
theorem dL_law_618 : decode cL_law 618 = .ok (.aload_n 1, 1) := fo_43 (fw_get da_cL_law_17 3 rfl)
theorem dL_law_619 : decode cL_law 619 = .ok (.aload_n 0, 1) := fo_42 (fw_get da_cL_law_17 4 rfl)
theorem dL_law_620 : decode cL_law 620 = .ok (.iload 4, 2) := fo_21 (fw_get da_cL_law_17 5 rfl)
theorem dL_law_622 : decode cL_law 622 = .ok (.iconst 1, 1) := fo_4 (fw_get da_cL_law_17 6 rfl)
theorem dL_law_623 : decode cL_law 623 = .ok (.iadd, 1) := fo_96 (fw_get da_cL_law_17 7 rfl)
theorem dL_law_624 : decode cL_law 624 = .ok (.iaload, 1) := fo_46 (fw_get da_cL_law_17 8 rfl)
theorem dL_law_625 : decode cL_law 625 = .ok (.aload_n 0, 1) := fo_42 (fw_get da_cL_law_17 9 rfl)
theorem dL_law_626 : decode cL_law 626 = .ok (.iload 4, 2) := fo_21 (fw_get da_cL_law_17 10 rfl)
theorem dL_law_628 : decode cL_law 628 = .ok (.iconst 2, 1) := fo_5 (fw_get da_cL_law_17 11 rfl)
theorem dL_law_629 : decode cL_law 629 = .ok (.iadd, 1) := fo_96 (fw_get da_cL_law_17 12 rfl)
theorem dL_law_630 : decode cL_law 630 = .ok (.iaload, 1) := fo_46 (fw_get da_cL_law_17 13 rfl)
theorem dL_law_631 : decode cL_law 631 = .ok (.invokevirtual 78, 3) := fo_182 (fw_get da_cL_law_17 14 rfl)
theorem dL_law_634 : decode cL_law 634 = .ok (.pop, 1) := fo_87 (fw_get da_cL_law_17 15 rfl)
theorem dL_law_635 : decode cL_law 635 = .ok (.aload_n 2, 1) := fo_44 (fw_get da_cL_law_17 16 rfl)
theorem dL_law_636 : decode cL_law 636 = .ok (.aload_n 0, 1) := fo_42 (fw_get da_cL_law_17 17 rfl)
theorem dL_law_637 : decode cL_law 637 = .ok (.iload 4, 2) := fo_21 (fw_get da_cL_law_17 18 rfl)
theorem dL_law_639 : decode cL_law 639 = .ok (.iconst 1, 1) := fo_4 (fw_get da_cL_law_17 19 rfl)
def dt_cL_law_18 : List (Nat × Nat × Nat × Nat) := [(640, 96, 0, 0), (641, 46, 0, 0), (642, 42, 0, 0), (643, 21, 1, 4), (645, 5, 0, 0), (646, 96, 0, 0), (647, 46, 0, 0), (648, 182, 2, 81), (651, 87, 0, 0), (652, 167, 2, 1636), (655, 43, 0, 0), (656, 182, 2, 82), (659, 87, 0, 0), (660, 44, 0, 0), (661, 182, 2, 86), (664, 87, 0, 0), (665, 167, 2, 1623), (668, 43, 0, 0), (669, 42, 0, 0), (670, 21, 1, 4)]
theorem da_cL_law_18 : fw dt_cL_law_18 0 cL_law.data.toList = true := by decide +kernel
theorem dL_law_640 : decode cL_law 640 = .ok (.iadd, 1) := fo_96 (fw_get da_cL_law_18 0 rfl)
theorem dL_law_641 : decode cL_law 641 = .ok (.iaload, 1) := fo_46 (fw_get da_cL_law_18 1 rfl)
theorem dL_law_642 : decode cL_law 642 = .ok (.aload_n 0, 1) := fo_42 (fw_get da_cL_law_18 2 rfl)
theorem dL_law_643 : decode cL_law 643 = .ok (.iload 4, 2) := fo_21 (fw_get da_cL_law_18 3 rfl)
theorem dL_law_645 : decode cL_law 645 = .ok (.iconst 2, 1) := fo_5 (fw_get da_cL_law_18 4 rfl)
theorem dL_law_646 : decode cL_law 646 = .ok (.iadd, 1) := fo_96 (fw_get da_cL_law_18 5 rfl)
theorem dL_law_647 : decode cL_law 647 = .ok (.iaload, 1) := fo_46 (fw_get da_cL_law_18 6 rfl)
theorem dL_law_648 : decode cL_law 648 = .ok (.invokevirtual 81, 3) := fo_182 (fw_get da_cL_law_18 7 rfl)
theorem dL_law_651 : decode cL_law 651 = .ok (.pop, 1) := fo_87 (fw_get da_cL_law_18 8 rfl)
theorem dL_law_652 : decode cL_law 652 = .ok (.goto 1636, 3) := fo_167 (fw_get da_cL_law_18 9 rfl) (by decide +kernel)
theorem dL_law_655 : decode cL_law 655 = .ok (.aload_n 1, 1) := fo_43 (fw_get da_cL_law_18 10 rfl)
theorem dL_law_656 : decode cL_law 656 = .ok (.invokevirtual 82, 3) := fo_182 (fw_get da_cL_law_18 11 rfl)
theorem dL_law_659 : decode cL_law 659 = .ok (.pop, 1) := fo_87 (fw_get da_cL_law_18 12 rfl)
theorem dL_law_660 : decode cL_law 660 = .ok (.aload_n 2, 1) := fo_44 (fw_get da_cL_law_18 13 rfl)
theorem dL_law_661 : decode cL_law 661 = .ok (.invokevirtual 86, 3) := fo_182 (fw_get da_cL_law_18 14 rfl)
theorem dL_law_664 : decode cL_law 664 = .ok (.pop, 1) := fo_87 (fw_get da_cL_law_18 15 rfl)
theorem dL_law_665 : decode cL_law 665 = .ok (.goto 1623, 3) := fo_167 (fw_get da_cL_law_18 16 rfl) (by decide +kernel)
theorem dL_law_668 : decode cL_law 668 = .ok (.aload_n 1, 1) := fo_43 (fw_get da_cL_law_18 17 rfl)
theorem dL_law_669 : decode cL_law 669 = .ok (.aload_n 0, 1) := fo_42 (fw_get da_cL_law_18 18 rfl)
theorem dL_law_670 : decode cL_law 670 = .ok (.iload 4, 2) := fo_21 (fw_get da_cL_law_18 19 rfl)
def dt_cL_law_19 : List (Nat × Nat × Nat × Nat) := [(672, 4, 0, 0), (673, 96, 0, 0), (674, 46, 0, 0), (675, 42, 0, 0), (676, 21, 1, 4), (678, 5, 0, 0), (679, 96, 0, 0), (680, 46, 0, 0), (681, 182, 2, 87), (684, 87, 0, 0), (685, 44, 0, 0), (686, 42, 0, 0), (687, 21, 1, 4), (689, 4, 0, 0), (690, 96, 0, 0), (691, 46, 0, 0), (692, 42, 0, 0), (693, 21, 1, 4), (695, 5, 0, 0), (696, 96, 0, 0)]
theorem da_cL_law_19 : fw dt_cL_law_19 0 cL_law.data.toList = true := by decide +kernel
theorem dL_law_672 : decode cL_law 672 = .ok (.iconst 1, 1) := fo_4 (fw_get da_cL_law_19 0 rfl)
theorem dL_law_673 : decode cL_law 673 = .ok (.iadd, 1) := fo_96 (fw_get da_cL_law_19 1 rfl)
theorem dL_law_674 : decode cL_law 674 = .ok (.iaload, 1) := fo_46 (fw_get da_cL_law_19 2 rfl)
theorem dL_law_675 : decode cL_law 675 = .ok (.aload_n 0, 1) := fo_42 (fw_get da_cL_law_19 3 rfl)
theorem dL_law_676 : decode cL_law 676 = .ok (.iload 4, 2) := fo_21 (fw_get da_cL_law_19 4 rfl)
theorem dL_law_678 : decode cL_law 678 = .ok (.iconst 2, 1) := fo_5 (fw_get da_cL_law_19 5 rfl)
theorem dL_law_679 : decode cL_law 679 = .ok (.iadd, 1) := fo_96 (fw_get da_cL_law_19 6 rfl)
theorem dL_law_680 : decode cL_law 680 = .ok (.iaload, 1) := fo_46 (fw_get da_cL_law_19 7 rfl)
theorem dL_law_681 : decode cL_law 681 = .ok (.invokevirtual 87, 3) := fo_182 (fw_get da_cL_law_19 8 rfl)
theorem dL_law_684 : decode cL_law 684 = .ok (.pop, 1) := fo_87 (fw_get da_cL_law_19 9 rfl)
theorem dL_law_685 : decode cL_law 685 = .ok (.aload_n 2, 1) := fo_44 (fw_get da_cL_law_19 10 rfl)
theorem dL_law_686 : decode cL_law 686 = .ok (.aload_n 0, 1) := fo_42 (fw_get da_cL_law_19 11 rfl)
theorem dL_law_687 : decode cL_law 687 = .ok (.iload 4, 2) := fo_21 (fw_get da_cL_law_19 12 rfl)
theorem dL_law_689 : decode cL_law 689 = .ok (.iconst 1, 1) := fo_4 (fw_get da_cL_law_19 13 rfl)
theorem dL_law_690 : decode cL_law 690 = .ok (.iadd, 1) := fo_96 (fw_get da_cL_law_19 14 rfl)
theorem dL_law_691 : decode cL_law 691 = .ok (.iaload, 1) := fo_46 (fw_get da_cL_law_19 15 rfl)
theorem dL_law_692 : decode cL_law 692 = .ok (.aload_n 0, 1) := fo_42 (fw_get da_cL_law_19 16 rfl)
theorem dL_law_693 : decode cL_law 693 = .ok (.iload 4, 2) := fo_21 (fw_get da_cL_law_19 17 rfl)
theorem dL_law_695 : decode cL_law 695 = .ok (.iconst 2, 1) := fo_5 (fw_get da_cL_law_19 18 rfl)
theorem dL_law_696 : decode cL_law 696 = .ok (.iadd, 1) := fo_96 (fw_get da_cL_law_19 19 rfl)
def dt_cL_law_20 : List (Nat × Nat × Nat × Nat) := [(697, 46, 0, 0), (698, 182, 2, 90), (701, 87, 0, 0), (702, 167, 2, 1586), (705, 43, 0, 0), (706, 42, 0, 0), (707, 21, 1, 4), (709, 4, 0, 0), (710, 96, 0, 0), (711, 46, 0, 0), (712, 42, 0, 0), (713, 21, 1, 4), (715, 5, 0, 0), (716, 96, 0, 0), (717, 46, 0, 0), (718, 42, 0, 0), (719, 21, 1, 4), (721, 6, 0, 0), (722, 96, 0, 0), (723, 46, 0, 0)]
theorem da_cL_law_20 : fw dt_cL_law_20 0 cL_law.data.toList = true := by decide +kernel
theorem dL_law_697 : decode cL_law 697 = .ok (.iaload, 1) := fo_46 (fw_get da_cL_law_20 0 rfl)
theorem dL_law_698 : decode cL_law 698 = .ok (.invokevirtual 90, 3) := fo_182 (fw_get da_cL_law_20 1 rfl)
theorem dL_law_701 : decode cL_law 701 = .ok (.pop, 1) := fo_87 (fw_get da_cL_law_20 2 rfl)
theorem dL_law_702 : decode cL_law 702 = .ok (.goto 1586, 3) := fo_167 (fw_get da_cL_law_20 3 rfl) (by decide +kernel)
theorem dL_law_705 : decode cL_law 705 = .ok (.aload_n 1, 1) := fo_43 (fw_get da_cL_law_20 4 rfl)
theorem dL_law_706 : decode cL_law 706 = .ok (.aload_n 0, 1) := fo_42 (fw_get da_cL_law_20 5 rfl)
theorem dL_law_707 : decode cL_law 707 = .ok (.iload 4, 2) := fo_21 (fw_get da_cL_law_20 6 rfl)
theorem dL_law_709 : decode cL_law 709 = .ok (.iconst 1, 1) := fo_4 (fw_get da_cL_law_20 7 rfl)
theorem dL_law_710 : decode cL_law 710 = .ok (.iadd, 1) := fo_96 (fw_get da_cL_law_20 8 rfl)
theorem dL_law_711 : decode cL_law 711 = .ok (.iaload, 1) := fo_46 (fw_get da_cL_law_20 9 rfl)
theorem dL_law_712 : decode cL_law 712 = .ok (.aload_n 0, 1) := fo_42 (fw_get da_cL_law_20 10 rfl)
theorem dL_law_713 : decode cL_law 713 = .ok (.iload 4, 2) := fo_21 (fw_get da_cL_law_20 11 rfl)
theorem dL_law_715 : decode cL_law 715 = .ok (.iconst 2, 1) := fo_5 (fw_get da_cL_law_20 12 rfl)
theorem dL_law_716 : decode cL_law 716 = .ok (.iadd, 1) := fo_96 (fw_get da_cL_law_20 13 rfl)
theorem dL_law_717 : decode cL_law 717 = .ok (.iaload, 1) := fo_46 (fw_get da_cL_law_20 14 rfl)
theorem dL_law_718 : decode cL_law 718 = .ok (.aload_n 0, 1) := fo_42 (fw_get da_cL_law_20 15 rfl)
theorem dL_law_719 : decode cL_law 719 = .ok (.iload 4, 2) := fo_21 (fw_get da_cL_law_20 16 rfl)
theorem dL_law_721 : decode cL_law 721 = .ok (.iconst 3, 1) := fo_6 (fw_get da_cL_law_20 17 rfl)
theorem dL_law_722 : decode cL_law 722 = .ok (.iadd, 1) := fo_96 (fw_get da_cL_law_20 18 rfl)
theorem dL_law_723 : decode cL_law 723 = .ok (.iaload, 1) := fo_46 (fw_get da_cL_law_20 19 rfl)
def dt_cL_law_21 : List (Nat × Nat × Nat × Nat) := [(724, 42, 0, 0), (725, 21, 1, 4), (727, 7, 0, 0), (728, 96, 0, 0), (729, 46, 0, 0), (730, 45, 0, 0), (731, 184, 2, 91), (734, 54, 1, 5), (736, 44, 0, 0), (737, 42, 0, 0), (738, 21, 1, 4), (740, 4, 0, 0), (741, 96, 0, 0), (742, 46, 0, 0), (743, 42, 0, 0), (744, 21, 1, 4), (746, 5, 0, 0), (747, 96, 0, 0), (748, 46, 0, 0), (749, 42, 0, 0)]
theorem da_cL_law_21 : fw dt_cL_law_21 0 cL_law.data.toList = true := by decide +kernel
theorem dL_law_724 : decode cL_law 724 = .ok (.aload_n 0, 1) := fo_42 (fw_get da_cL_law_21 0 rfl)
theorem dL_law_725 : decode cL_law 725 = .ok (.iload 4, 2) := fo_21 (fw_get da_cL_law_21 1 rfl)
theorem dL_law_727 : decode cL_law 727 = .ok (.iconst 4, 1) := fo_7 (fw_get da_cL_law_21 2 rfl)
theorem dL_law_728 : decode cL_law 728 = .ok (.iadd, 1) := fo_96 (fw_get da_cL_law_21 3 rfl)
theorem dL_law_729 : decode cL_law 729 = .ok (.iaload, 1) := fo_46 (fw_get da_cL_law_21 4 rfl)
theorem dL_law_730 : decode cL_law 730 = .ok (.aload_n 3, 1) := fo_45 (fw_get da_cL_law_21 5 rfl)
theorem dL_law_731 : decode cL_law 731 = .ok (.invokestatic 91, 3) := fo_184 (fw_get da_cL_law_21 6 rfl)
theorem dL_law_734 : decode cL_law 734 = .ok (.istore 5, 2) := fo_54 (fw_get da_cL_law_21 7 rfl)
theorem dL_law_736 : decode cL_law 736 = .ok (.aload_n 2, 1) := fo_44 (fw_get da_cL_law_21 8 rfl)
theorem dL_law_737 : decode cL_law 737 = .ok (.aload_n 0, 1) := fo_42 (fw_get da_cL_law_21 9 rfl)
theorem dL_law_738 : decode cL_law 738 = .ok (.iload 4, 2) := fo_21 (fw_get da_cL_law_21 10 rfl)
theorem dL_law_740 : decode cL_law 740 = .ok (.iconst 1, 1) := fo_4 (fw_get da_cL_law_21 11 rfl)
theorem dL_law_741 : decode cL_law 741 = .ok (.iadd, 1) := fo_96 (fw_get da_cL_law_21 12 rfl)
theorem dL_law_742 : decode cL_law 742 = .ok (.iaload, 1) := fo_46 (fw_get da_cL_law_21 13 rfl)
theorem dL_law_743 : decode cL_law 743 = .ok (.aload_n 0, 1) := fo_42 (fw_get da_cL_law_21 14 rfl)
theorem dL_law_744 : decode cL_law 744 = .ok (.iload 4, 2) := fo_21 (fw_get da_cL_law_21 15 rfl)
theorem dL_law_746 : decode cL_law 746 = .ok (.iconst 2, 1) := fo_5 (fw_get da_cL_law_21 16 rfl)
theorem dL_law_747 : decode cL_law 747 = .ok (.iadd, 1) := fo_96 (fw_get da_cL_law_21 17 rfl)
theorem dL_law_748 : decode cL_law 748 = .ok (.iaload, 1) := fo_46 (fw_get da_cL_law_21 18 rfl)
theorem dL_law_749 : decode cL_law 749 = .ok (.aload_n 0, 1) := fo_42 (fw_get da_cL_law_21 19 rfl)
def dt_cL_law_22 : List (Nat × Nat × Nat × Nat) := [(750, 21, 1, 4), (752, 6, 0, 0), (753, 96, 0, 0), (754, 46, 0, 0), (755, 42, 0, 0), (756, 21, 1, 4), (758, 7, 0, 0), (759, 96, 0, 0), (760, 46, 0, 0), (761, 182, 2, 94), (764, 54, 1, 6), (766, 167, 2, 1522), (769, 43, 0, 0), (770, 42, 0, 0), (771, 21, 1, 4), (773, 4, 0, 0), (774, 96, 0, 0), (775, 46, 0, 0), (776, 42, 0, 0), (777, 21, 1, 4)]
theorem da_cL_law_22 : fw dt_cL_law_22 0 cL_law.data.toList = true := by decide +kernel
theorem dL_law_750 : decode cL_law 750 = .ok (.iload 4, 2) := fo_21 (fw_get da_cL_law_22 0 rfl)
theorem dL_law_752 : decode cL_law 752 = .ok (.iconst 3, 1) := fo_6 (fw_get da_cL_law_22 1 rfl)
theorem dL_law_753 : decode cL_law 753 = .ok (.iadd, 1) := fo_96 (fw_get da_cL_law_22 2 rfl)
theorem dL_law_754 : decode cL_law 754 = .ok (.iaload, 1) := fo_46 (fw_get da_cL_law_22 3 rfl)
theorem dL_law_755 : decode cL_law 755 = .ok (.aload_n 0, 1) := fo_42 (fw_get da_cL_law_22 4 rfl)
theorem dL_law_756 : decode cL_law 756 = .ok (.iload 4, 2) := fo_21 (fw_get da_cL_law_22 5 rfl)
theorem dL_law_758 : decode cL_law 758 = .ok (.iconst 4, 1) := fo_7 (fw_get da_cL_law_22 6 rfl)
theorem dL_law_759 : decode cL_law 759 = .ok (.iadd, 1) := fo_96 (fw_get da_cL_law_22 7 rfl)
theorem dL_law_760 : decode cL_law 760 = .ok (.iaload, 1) := fo_46 (fw_get da_cL_law_22 8 rfl)
theorem dL_law_761 : decode cL_law 761 = .ok (.invokevirtual 94, 3) := fo_182 (fw_get da_cL_law_22 9 rfl)
theorem dL_law_764 : decode cL_law 764 = .ok (.istore 6, 2) := fo_54 (fw_get da_cL_law_22 10 rfl)
theorem dL_law_766 : decode cL_law 766 = .ok (.goto 1522, 3) := fo_167 (fw_get da_cL_law_22 11 rfl) (by decide +kernel)
theorem dL_law_769 : decode cL_law 769 = .ok (.aload_n 1, 1) := fo_43 (fw_get da_cL_law_22 12 rfl)
theorem dL_law_770 : decode cL_law 770 = .ok (.aload_n 0, 1) := fo_42 (fw_get da_cL_law_22 13 rfl)
theorem dL_law_771 : decode cL_law 771 = .ok (.iload 4, 2) := fo_21 (fw_get da_cL_law_22 14 rfl)
theorem dL_law_773 : decode cL_law 773 = .ok (.iconst 1, 1) := fo_4 (fw_get da_cL_law_22 15 rfl)
theorem dL_law_774 : decode cL_law 774 = .ok (.iadd, 1) := fo_96 (fw_get da_cL_law_22 16 rfl)
theorem dL_law_775 : decode cL_law 775 = .ok (.iaload, 1) := fo_46 (fw_get da_cL_law_22 17 rfl)
theorem dL_law_776 : decode cL_law 776 = .ok (.aload_n 0, 1) := fo_42 (fw_get da_cL_law_22 18 rfl)
theorem dL_law_777 : decode cL_law 777 = .ok (.iload 4, 2) := fo_21 (fw_get da_cL_law_22 19 rfl)
def dt_cL_law_23 : List (Nat × Nat × Nat × Nat) := [(779, 5, 0, 0), (780, 96, 0, 0), (781, 46, 0, 0), (782, 182, 2, 95), (785, 87, 0, 0), (786, 44, 0, 0), (787, 42, 0, 0), (788, 21, 1, 4), (790, 4, 0, 0), (791, 96, 0, 0), (792, 46, 0, 0), (793, 42, 0, 0), (794, 21, 1, 4), (796, 5, 0, 0), (797, 96, 0, 0), (798, 46, 0, 0), (799, 182, 2, 98), (802, 87, 0, 0), (803, 167, 2, 1485), (806, 43, 0, 0)]
theorem da_cL_law_23 : fw dt_cL_law_23 0 cL_law.data.toList = true := by decide +kernel
theorem dL_law_779 : decode cL_law 779 = .ok (.iconst 2, 1) := fo_5 (fw_get da_cL_law_23 0 rfl)
theorem dL_law_780 : decode cL_law 780 = .ok (.iadd, 1) := fo_96 (fw_get da_cL_law_23 1 rfl)
theorem dL_law_781 : decode cL_law 781 = .ok (.iaload, 1) := fo_46 (fw_get da_cL_law_23 2 rfl)
theorem dL_law_782 : decode cL_law 782 = .ok (.invokevirtual 95, 3) := fo_182 (fw_get da_cL_law_23 3 rfl)
theorem dL_law_785 : decode cL_law 785 = .ok (.pop, 1) := fo_87 (fw_get da_cL_law_23 4 rfl)
theorem dL_law_786 : decode cL_law 786 = .ok (.aload_n 2, 1) := fo_44 (fw_get da_cL_law_23 5 rfl)
theorem dL_law_787 : decode cL_law 787 = .ok (.aload_n 0, 1) := fo_42 (fw_get da_cL_law_23 6 rfl)
theorem dL_law_788 : decode cL_law 788 = .ok (.iload 4, 2) := fo_21 (fw_get da_cL_law_23 7 rfl)
theorem dL_law_790 : decode cL_law 790 = .ok (.iconst 1, 1) := fo_4 (fw_get da_cL_law_23 8 rfl)
theorem dL_law_791 : decode cL_law 791 = .ok (.iadd, 1) := fo_96 (fw_get da_cL_law_23 9 rfl)
theorem dL_law_792 : decode cL_law 792 = .ok (.iaload, 1) := fo_46 (fw_get da_cL_law_23 10 rfl)
theorem dL_law_793 : decode cL_law 793 = .ok (.aload_n 0, 1) := fo_42 (fw_get da_cL_law_23 11 rfl)
theorem dL_law_794 : decode cL_law 794 = .ok (.iload 4, 2) := fo_21 (fw_get da_cL_law_23 12 rfl)
theorem dL_law_796 : decode cL_law 796 = .ok (.iconst 2, 1) := fo_5 (fw_get da_cL_law_23 13 rfl)
theorem dL_law_797 : decode cL_law 797 = .ok (.iadd, 1) := fo_96 (fw_get da_cL_law_23 14 rfl)
theorem dL_law_798 : decode cL_law 798 = .ok (.iaload, 1) := fo_46 (fw_get da_cL_law_23 15 rfl)
theorem dL_law_799 : decode cL_law 799 = .ok (.invokevirtual 98, 3) := fo_182 (fw_get da_cL_law_23 16 rfl)
theorem dL_law_802 : decode cL_law 802 = .ok (.pop, 1) := fo_87 (fw_get da_cL_law_23 17 rfl)
theorem dL_law_803 : decode cL_law 803 = .ok (.goto 1485, 3) := fo_167 (fw_get da_cL_law_23 18 rfl) (by decide +kernel)
theorem dL_law_806 : decode cL_law 806 = .ok (.aload_n 1, 1) := fo_43 (fw_get da_cL_law_23 19 rfl)
def dt_cL_law_24 : List (Nat × Nat × Nat × Nat) := [(807, 42, 0, 0), (808, 21, 1, 4), (810, 4, 0, 0), (811, 96, 0, 0), (812, 46, 0, 0), (813, 42, 0, 0), (814, 21, 1, 4), (816, 5, 0, 0), (817, 96, 0, 0), (818, 46, 0, 0)]
theorem da_cL_law_24 : fw dt_cL_law_24 0 cL_law.data.toList = true := by decide +kernel
theorem dL_law_807 : decode cL_law 807 = .ok (.aload_n 0, 1) := fo_42 (fw_get da_cL_law_24 0 rfl)
theorem dL_law_808 : decode cL_law 808 = .ok (.iload 4, 2) := fo_21 (fw_get da_cL_law_24 1 rfl)
theorem dL_law_810 : decode cL_law 810 = .ok (.iconst 1, 1) := fo_4 (fw_get da_cL_law_24 2 rfl)
theorem dL_law_811 : decode cL_law 811 = .ok (.iadd, 1) := fo_96 (fw_get da_cL_law_24 3 rfl)
theorem dL_law_812 : decode cL_law 812 = .ok (.iaload, 1) := fo_46 (fw_get da_cL_law_24 4 rfl)
theorem dL_law_813 : decode cL_law 813 = .ok (.aload_n 0, 1) := fo_42 (fw_get da_cL_law_24 5 rfl)
theorem dL_law_814 : decode cL_law 814 = .ok (.iload 4, 2) := fo_21 (fw_get da_cL_law_24 6 rfl)
theorem dL_law_816 : decode cL_law 816 = .ok (.iconst 2, 1) := fo_5 (fw_get da_cL_law_24 7 rfl)
theorem dL_law_817 : decode cL_law 817 = .ok (.iadd, 1) := fo_96 (fw_get da_cL_law_24 8 rfl)
theorem dL_law_818 : decode cL_law 818 = .ok (.iaload, 1) := fo_46 (fw_get da_cL_law_24 9 rfl)


def dt_cL_law_25 : List (Nat × Nat × Nat × Nat) := [(819, 182, 2, 99), (822, 87, 0, 0), (823, 44, 0, 0), (824, 42, 0, 0), (825, 21, 1, 4), (827, 4, 0, 0), (828, 96, 0, 0), (829, 46, 0, 0), (830, 42, 0, 0), (831, 21, 1, 4), (833, 5, 0, 0), (834, 96, 0, 0), (835, 46, 0, 0), (836, 182, 2, 102), (839, 87, 0, 0), (840, 167, 2, 1448), (843, 43, 0, 0), (844, 42, 0, 0), (845, 21, 1, 4), (847, 4, 0, 0)]
theorem da_cL_law_25 : fw dt_cL_law_25 0 cL_law.data.toList = true := by decide +kernel
theorem dL_law_819 : decode cL_law 819 = .ok (.invokevirtual 99, 3) := fo_182 (fw_get da_cL_law_25 0 rfl)
theorem dL_law_822 : decode cL_law 822 = .ok (.pop, 1) := fo_87 (fw_get da_cL_law_25 1 rfl)
theorem dL_law_823 : decode cL_law 823 = .ok (.aload_n 2, 1) := fo_44 (fw_get da_cL_law_25 2 rfl)
theorem dL_law_824 : decode cL_law 824 = .ok (.aload_n 0, 1) := fo_42 (fw_get da_cL_law_25 3 rfl)
theorem dL_law_825 : decode cL_law 825 = .ok (.iload 4, 2) := fo_21 (fw_get da_cL_law_25 4 rfl)
theorem dL_law_827 : decode cL_law 827 = .ok (.iconst 1, 1) := fo_4 (fw_get da_cL_law_25 5 rfl)
theorem dL_law_828 : decode cL_law 828 = .ok (.iadd, 1) := fo_96 (fw_get da_cL_law_25 6 rfl)
theorem dL_law_829 : decode cL_law 829 = .ok (.iaload, 1) := fo_46 (fw_get da_cL_law_25 7 rfl)
theorem dL_law_830 : decode cL_law 830 = .ok (.aload_n 0, 1) := fo_42 (fw_get da_cL_law_25 8 rfl)
theorem dL_law_831 : decode cL_law 831 = .ok (.iload 4, 2) := fo_21 (fw_get da_cL_law_25 9 rfl)
theorem dL_law_833 : decode cL_law 833 = .ok (.iconst 2, 1) := fo_5 (fw_get da_cL_law_25 10 rfl)
theorem dL_law_834 : decode cL_law 834 = .ok (.iadd, 1) := fo_96 (fw_get da_cL_law_25 11 rfl)
theorem dL_law_835 : decode cL_law 835 = .ok (.iaload, 1) := fo_46 (fw_get da_cL_law_25 12 rfl)
theorem dL_law_836 : decode cL_law 836 = .ok (.invokevirtual 102, 3) := fo_182 (fw_get da_cL_law_25 13 rfl)
theorem dL_law_839 : decode cL_law 839 = .ok (.pop, 1) := fo_87 (fw_get da_cL_law_25 14 rfl)
theorem dL_law_840 : decode cL_law 840 = .ok (.goto 1448, 3) := fo_167 (fw_get da_cL_law_25 15 rfl) (by decide +kernel)
theorem dL_law_843 : decode cL_law 843 = .ok (.aload_n 1, 1) := fo_43 (fw_get da_cL_law_25 16 rfl)
theorem dL_law_844 : decode cL_law 844 = .ok (.aload_n 0, 1) := fo_42 (fw_get da_cL_law_25 17 rfl)
theorem dL_law_845 : decode cL_law 845 = .ok (.iload 4, 2) := fo_21 (fw_get da_cL_law_25 18 rfl)
theorem dL_law_847 : decode cL_law 847 = .ok (.iconst 1, 1) := fo_4 (fw_get da_cL_law_25 19 rfl)
def dt_cL_law_26 : List (Nat × Nat × Nat × Nat) := [(848, 96, 0, 0), (849, 46, 0, 0), (850, 42, 0, 0), (851, 21, 1, 4), (853, 5, 0, 0), (854, 96, 0, 0), (855, 46, 0, 0), (856, 42, 0, 0), (857, 21, 1, 4), (859, 6, 0, 0), (860, 96, 0, 0), (861, 46, 0, 0), (862, 182, 2, 103), (865, 87, 0, 0), (866, 44, 0, 0), (867, 42, 0, 0), (868, 21, 1, 4), (870, 4, 0, 0), (871, 96, 0, 0), (872, 46, 0, 0)]
theorem da_cL_law_26 : fw dt_cL_law_26 0 cL_law.data.toList = true := by decide +kernel
theorem dL_law_848 : decode cL_law 848 = .ok (.iadd, 1) := fo_96 (fw_get da_cL_law_26 0 rfl)
theorem dL_law_849 : decode cL_law 849 = .ok (.iaload, 1) := fo_46 (fw_get da_cL_law_26 1 rfl)
theorem dL_law_850 : decode cL_law 850 = .ok (.aload_n 0, 1) := fo_42 (fw_get da_cL_law_26 2 rfl)
theorem dL_law_851 : decode cL_law 851 = .ok (.iload 4, 2) := fo_21 (fw_get da_cL_law_26 3 rfl)
theorem dL_law_853 : decode cL_law 853 = .ok (.iconst 2, 1) := fo_5 (fw_get da_cL_law_26 4 rfl)
theorem dL_law_854 : decode cL_law 854 = .ok (.iadd, 1) := fo_96 (fw_get da_cL_law_26 5 rfl)
theorem dL_law_855 : decode cL_law 855 = .ok (.iaload, 1) := fo_46 (fw_get da_cL_law_26 6 rfl)
theorem dL_law_856 : decode cL_law 856 = .ok (.aload_n 0, 1) := fo_42 (fw_get da_cL_law_26 7 rfl)
theorem dL_law_857 : decode cL_law 857 = .ok (.iload 4, 2) := fo_21 (fw_get da_cL_law_26 8 rfl)
theorem dL_law_859 : decode cL_law 859 = .ok (.iconst 3, 1) := fo_6 (fw_get da_cL_law_26 9 rfl)
theorem dL_law_860 : decode cL_law 860 = .ok (.iadd, 1) := fo_96 (fw_get da_cL_law_26 10 rfl)
theorem dL_law_861 : decode cL_law 861 = .ok (.iaload, 1) := fo_46 (fw_get da_cL_law_26 11 rfl)
theorem dL_law_862 : decode cL_law 862 = .ok (.invokevirtual 103, 3) := fo_182 (fw_get da_cL_law_26 12 rfl)
theorem dL_law_865 : decode cL_law 865 = .ok (.pop, 1) := fo_87 (fw_get da_cL_law_26 13 rfl)
theorem dL_law_866 : decode cL_law 866 = .ok (.aload_n 2, 1) := fo_44 (fw_get da_cL_law_26 14 rfl)
theorem dL_law_867 : decode cL_law 867 = .ok (.aload_n 0, 1) := fo_42 (fw_get da_cL_law_26 15 rfl)
theorem dL_law_868 : decode cL_law 868 = .ok (.iload 4, 2) := fo_21 (fw_get da_cL_law_26 16 rfl)
theorem dL_law_870 : decode cL_law 870 = .ok (.iconst 1, 1) := fo_4 (fw_get da_cL_law_26 17 rfl)
theorem dL_law_871 : decode cL_law 871 = .ok (.iadd, 1) := fo_96 (fw_get da_cL_law_26 18 rfl)
theorem dL_law_872 : decode cL_law 872 = .ok (.iaload, 1) := fo_46 (fw_get da_cL_law_26 19 rfl)
def dt_cL_law_27 : List (Nat × Nat × Nat × Nat) := [(873, 42, 0, 0), (874, 21, 1, 4), (876, 5, 0, 0), (877, 96, 0, 0), (878, 46, 0, 0), (879, 42, 0, 0), (880, 21, 1, 4), (882, 6, 0, 0), (883, 96, 0, 0), (884, 46, 0, 0), (885, 182, 2, 106), (888, 87, 0, 0), (889, 167, 2, 1399), (892, 43, 0, 0), (893, 42, 0, 0), (894, 21, 1, 4), (896, 4, 0, 0), (897, 96, 0, 0), (898, 46, 0, 0), (899, 182, 2, 107)]
theorem da_cL_law_27 : fw dt_cL_law_27 0 cL_law.data.toList = true := by decide +kernel
theorem dL_law_873 : decode cL_law 873 = .ok (.aload_n 0, 1) := fo_42 (fw_get da_cL_law_27 0 rfl)
theorem dL_law_874 : decode cL_law 874 = .ok (.iload 4, 2) := fo_21 (fw_get da_cL_law_27 1 rfl)
theorem dL_law_876 : decode cL_law 876 = .ok (.iconst 2, 1) := fo_5 (fw_get da_cL_law_27 2 rfl)
theorem dL_law_877 : decode cL_law 877 = .ok (.iadd, 1) := fo_96 (fw_get da_cL_law_27 3 rfl)
theorem dL_law_878 : decode cL_law 878 = .ok (.iaload, 1) := fo_46 (fw_get da_cL_law_27 4 rfl)
theorem dL_law_879 : decode cL_law 879 = .ok (.aload_n 0, 1) := fo_42 (fw_get da_cL_law_27 5 rfl)
theorem dL_law_880 : decode cL_law 880 = .ok (.iload 4, 2) := fo_21 (fw_get da_cL_law_27 6 rfl)
theorem dL_law_882 : decode cL_law 882 = .ok (.iconst 3, 1) := fo_6 (fw_get da_cL_law_27 7 rfl)
theorem dL_law_883 : decode cL_law 883 = .ok (.iadd, 1) := fo_96 (fw_get da_cL_law_27 8 rfl)
theorem dL_law_884 : decode cL_law 884 = .ok (.iaload, 1) := fo_46 (fw_get da_cL_law_27 9 rfl)
theorem dL_law_885 : decode cL_law 885 = .ok (.invokevirtual 106, 3) := fo_182 (fw_get da_cL_law_27 10 rfl)
theorem dL_law_888 : decode cL_law 888 = .ok (.pop, 1) := fo_87 (fw_get da_cL_law_27 11 rfl)
theorem dL_law_889 : decode cL_law 889 = .ok (.goto 1399, 3) := fo_167 (fw_get da_cL_law_27 12 rfl) (by decide +kernel)
theorem dL_law_892 : decode cL_law 892 = .ok (.aload_n 1, 1) := fo_43 (fw_get da_cL_law_27 13 rfl)
theorem dL_law_893 : decode cL_law 893 = .ok (.aload_n 0, 1) := fo_42 (fw_get da_cL_law_27 14 rfl)
theorem dL_law_894 : decode cL_law 894 = .ok (.iload 4, 2) := fo_21 (fw_get da_cL_law_27 15 rfl)
theorem dL_law_896 : decode cL_law 896 = .ok (.iconst 1, 1) := fo_4 (fw_get da_cL_law_27 16 rfl)
theorem dL_law_897 : decode cL_law 897 = .ok (.iadd, 1) := fo_96 (fw_get da_cL_law_27 17 rfl)
theorem dL_law_898 : decode cL_law 898 = .ok (.iaload, 1) := fo_46 (fw_get da_cL_law_27 18 rfl)
theorem dL_law_899 : decode cL_law 899 = .ok (.invokevirtual 107, 3) := fo_182 (fw_get da_cL_law_27 19 rfl)
def dt_cL_law_28 : List (Nat × Nat × Nat × Nat) := [(902, 87, 0, 0), (903, 44, 0, 0), (904, 42, 0, 0), (905, 21, 1, 4), (907, 4, 0, 0), (908, 96, 0, 0), (909, 46, 0, 0), (910, 182, 2, 110), (913, 87, 0, 0), (914, 167, 2, 1374), (917, 43, 0, 0), (918, 42, 0, 0), (919, 21, 1, 4), (921, 4, 0, 0), (922, 96, 0, 0), (923, 46, 0, 0), (924, 42, 0, 0), (925, 21, 1, 4), (927, 5, 0, 0), (928, 96, 0, 0)]
theorem da_cL_law_28 : fw dt_cL_law_28 0 cL_law.data.toList = true := by decide +kernel
theorem dL_law_902 : decode cL_law 902 = .ok (.pop, 1) := fo_87 (fw_get da_cL_law_28 0 rfl)
theorem dL_law_903 : decode cL_law 903 = .ok (.aload_n 2, 1) := fo_44 (fw_get da_cL_law_28 1 rfl)
theorem dL_law_904 : decode cL_law 904 = .ok (.aload_n 0, 1) := fo_42 (fw_get da_cL_law_28 2 rfl)
theorem dL_law_905 : decode cL_law 905 = .ok (.iload 4, 2) := fo_21 (fw_get da_cL_law_28 3 rfl)
theorem dL_law_907 : decode cL_law 907 = .ok (.iconst 1, 1) := fo_4 (fw_get da_cL_law_28 4 rfl)
theorem dL_law_908 : decode cL_law 908 = .ok (.iadd, 1) := fo_96 (fw_get da_cL_law_28 5 rfl)
theorem dL_law_909 : decode cL_law 909 = .ok (.iaload, 1) := fo_46 (fw_get da_cL_law_28 6 rfl)
theorem dL_law_910 : decode cL_law 910 = .ok (.invokevirtual 110, 3) := fo_182 (fw_get da_cL_law_28 7 rfl)
theorem dL_law_913 : decode cL_law 913 = .ok (.pop, 1) := fo_87 (fw_get da_cL_law_28 8 rfl)
theorem dL_law_914 : decode cL_law 914 = .ok (.goto 1374, 3) := fo_167 (fw_get da_cL_law_28 9 rfl) (by decide +kernel)
theorem dL_law_917 : decode cL_law 917 = .ok (.aload_n 1, 1) := fo_43 (fw_get da_cL_law_28 10 rfl)
theorem dL_law_918 : decode cL_law 918 = .ok (.aload_n 0, 1) := fo_42 (fw_get da_cL_law_28 11 rfl)
theorem dL_law_919 : decode cL_law 919 = .ok (.iload 4, 2) := fo_21 (fw_get da_cL_law_28 12 rfl)
theorem dL_law_921 : decode cL_law 921 = .ok (.iconst 1, 1) := fo_4 (fw_get da_cL_law_28 13 rfl)
theorem dL_law_922 : decode cL_law 922 = .ok (.iadd, 1) := fo_96 (fw_get da_cL_law_28 14 rfl)
theorem dL_law_923 : decode cL_law 923 = .ok (.iaload, 1) := fo_46 (fw_get da_cL_law_28 15 rfl)
theorem dL_law_924 : decode cL_law 924 = .ok (.aload_n 0, 1) := fo_42 (fw_get da_cL_law_28 16 rfl)
theorem dL_law_925 : decode cL_law 925 = .ok (.iload 4, 2) := fo_21 (fw_get da_cL_law_28 17 rfl)
theorem dL_law_927 : decode cL_law 927 = .ok (.iconst 2, 1) := fo_5 (fw_get da_cL_law_28 18 rfl)
theorem dL_law_928 : decode cL_law 928 = .ok (.iadd, 1) := fo_96 (fw_get da_cL_law_28 19 rfl)
def dt_cL_law_29 : List (Nat × Nat × Nat × Nat) := [(929, 46, 0, 0), (930, 182, 2, 111), (933, 87, 0, 0), (934, 44, 0, 0), (935, 42, 0, 0), (936, 21, 1, 4), (938, 4, 0, 0), (939, 96, 0, 0), (940, 46, 0, 0), (941, 42, 0, 0), (942, 21, 1, 4), (944, 5, 0, 0), (945, 96, 0, 0), (946, 46, 0, 0), (947, 182, 2, 114), (950, 87, 0, 0), (951, 167, 2, 1337), (954, 43, 0, 0), (955, 42, 0, 0), (956, 21, 1, 4)]
theorem da_cL_law_29 : fw dt_cL_law_29 0 cL_law.data.toList = true := by decide +kernel
theorem dL_law_929 : decode cL_law 929 = .ok (.iaload, 1) := fo_46 (fw_get da_cL_law_29 0 rfl)
theorem dL_law_930 : decode cL_law 930 = .ok (.invokevirtual 111, 3) := fo_182 (fw_get da_cL_law_29 1 rfl)
theorem dL_law_933 : decode cL_law 933 = .ok (.pop, 1) := fo_87 (fw_get da_cL_law_29 2 rfl)
theorem dL_law_934 : decode cL_law 934 = .ok (.aload_n 2, 1) := fo_44 (fw_get da_cL_law_29 3 rfl)
theorem dL_law_935 : decode cL_law 935 = .ok (.aload_n 0, 1) := fo_42 (fw_get da_cL_law_29 4 rfl)
theorem dL_law_936 : decode cL_law 936 = .ok (.iload 4, 2) := fo_21 (fw_get da_cL_law_29 5 rfl)
theorem dL_law_938 : decode cL_law 938 = .ok (.iconst 1, 1) := fo_4 (fw_get da_cL_law_29 6 rfl)
theorem dL_law_939 : decode cL_law 939 = .ok (.iadd, 1) := fo_96 (fw_get da_cL_law_29 7 rfl)
theorem dL_law_940 : decode cL_law 940 = .ok (.iaload, 1) := fo_46 (fw_get da_cL_law_29 8 rfl)
theorem dL_law_941 : decode cL_law 941 = .ok (.aload_n 0, 1) := fo_42 (fw_get da_cL_law_29 9 rfl)
theorem dL_law_942 : decode cL_law 942 = .ok (.iload 4, 2) := fo_21 (fw_get da_cL_law_29 10 rfl)
theorem dL_law_944 : decode cL_law 944 = .ok (.iconst 2, 1) := fo_5 (fw_get da_cL_law_29 11 rfl)
theorem dL_law_945 : decode cL_law 945 = .ok (.iadd, 1) := fo_96 (fw_get da_cL_law_29 12 rfl)
theorem dL_law_946 : decode cL_law 946 = .ok (.iaload, 1) := fo_46 (fw_get da_cL_law_29 13 rfl)
theorem dL_law_947 : decode cL_law 947 = .ok (.invokevirtual 114, 3) := fo_182 (fw_get da_cL_law_29 14 rfl)
theorem dL_law_950 : decode cL_law 950 = .ok (.pop, 1) := fo_87 (fw_get da_cL_law_29 15 rfl)
theorem dL_law_951 : decode cL_law 951 = .ok (.goto 1337, 3) := fo_167 (fw_get da_cL_law_29 16 rfl) (by decide +kernel)
theorem dL_law_954 : decode cL_law 954 = .ok (.aload_n 1, 1) := fo_43 (fw_get da_cL_law_29 17 rfl)
theorem dL_law_955 : decode cL_law 955 = .ok (.aload_n 0, 1) := fo_42 (fw_get da_cL_law_29 18 rfl)
theorem dL_law_956 : decode cL_law 956 = .ok (.iload 4, 2) := fo_21 (fw_get da_cL_law_29 19 rfl)
def dt_cL_law_30 : List (Nat × Nat × Nat × Nat) := [(958, 4, 0, 0), (959, 96, 0, 0), (960, 46, 0, 0), (961, 42, 0, 0), (962, 21, 1, 4), (964, 5, 0, 0), (965, 96, 0, 0), (966, 46, 0, 0), (967, 42, 0, 0), (968, 21, 1, 4), (970, 6, 0, 0), (971, 96, 0, 0), (972, 46, 0, 0), (973, 42, 0, 0), (974, 21, 1, 4), (976, 7, 0, 0), (977, 96, 0, 0), (978, 46, 0, 0), (979, 182, 2, 115), (982, 87, 0, 0)]
theorem da_cL_law_30 : fw dt_cL_law_30 0 cL_law.data.toList = true := by decide +kernel
theorem dL_law_958 : decode cL_law 958 = .ok (.iconst 1, 1) := fo_4 (fw_get da_cL_law_30 0 rfl)
theorem dL_law_959 : decode cL_law 959 = .ok (.iadd, 1) := fo_96 (fw_get da_cL_law_30 1 rfl)
theorem dL_law_960 : decode cL_law 960 = .ok (.iaload, 1) := fo_46 (fw_get da_cL_law_30 2 rfl)
theorem dL_law_961 : decode cL_law 961 = .ok (.aload_n 0, 1) := fo_42 (fw_get da_cL_law_30 3 rfl)
theorem dL_law_962 : decode cL_law 962 = .ok (.iload 4, 2) := fo_21 (fw_get da_cL_law_30 4 rfl)
theorem dL_law_964 : decode cL_law 964 = .ok (.iconst 2, 1) := fo_5 (fw_get da_cL_law_30 5 rfl)
theorem dL_law_965 : decode cL_law 965 = .ok (.iadd, 1) := fo_96 (fw_get da_cL_law_30 6 rfl)
theorem dL_law_966 : decode cL_law 966 = .ok (.iaload, 1) := fo_46 (fw_get da_cL_law_30 7 rfl)
theorem dL_law_967 : decode cL_law 967 = .ok (.aload_n 0, 1) := fo_42 (fw_get da_cL_law_30 8 rfl)
theorem dL_law_968 : decode cL_law 968 = .ok (.iload 4, 2) := fo_21 (fw_get da_cL_law_30 9 rfl)
theorem dL_law_970 : decode cL_law 970 = .ok (.iconst 3, 1) := fo_6 (fw_get da_cL_law_30 10 rfl)
theorem dL_law_971 : decode cL_law 971 = .ok (.iadd, 1) := fo_96 (fw_get da_cL_law_30 11 rfl)
theorem dL_law_972 : decode cL_law 972 = .ok (.iaload, 1) := fo_46 (fw_get da_cL_law_30 12 rfl)
theorem dL_law_973 : decode cL_law 973 = .ok (.aload_n 0, 1) := fo_42 (fw_get da_cL_law_30 13 rfl)
theorem dL_law_974 : decode cL_law 974 = .ok (.iload 4, 2) := fo_21 (fw_get da_cL_law_30 14 rfl)
theorem dL_law_976 : decode cL_law 976 = .ok (.iconst 4, 1) := fo_7 (fw_get da_cL_law_30 15 rfl)
theorem dL_law_977 : decode cL_law 977 = .ok (.iadd, 1) := fo_96 (fw_get da_cL_law_30 16 rfl)
theorem dL_law_978 : decode cL_law 978 = .ok (.iaload, 1) := fo_46 (fw_get da_cL_law_30 17 rfl)
theorem dL_law_979 : decode cL_law 979 = .ok (.invokevirtual 115, 3) := fo_182 (fw_get da_cL_law_30 18 rfl)
theorem dL_law_982 : decode cL_law 982 = .ok (.pop, 1) := fo_87 (fw_get da_cL_law_30 19 rfl)
def dt_cL_law_31 : List (Nat × Nat × Nat × Nat) := [(983, 44, 0, 0), (984, 42, 0, 0), (985, 21, 1, 4), (987, 4, 0, 0), (988, 96, 0, 0), (989, 46, 0, 0), (990, 42, 0, 0), (991, 21, 1, 4), (993, 5, 0, 0), (994, 96, 0, 0), (995, 46, 0, 0), (996, 42, 0, 0), (997, 21, 1, 4), (999, 6, 0, 0), (1000, 96, 0, 0), (1001, 46, 0, 0), (1002, 42, 0, 0), (1003, 21, 1, 4), (1005, 7, 0, 0), (1006, 96, 0, 0)]
theorem da_cL_law_31 : fw dt_cL_law_31 0 cL_law.data.toList = true := by decide +kernel
theorem dL_law_983 : decode cL_law 983 = .ok (.aload_n 2, 1) := fo_44 (fw_get da_cL_law_31 0 rfl)
theorem dL_law_984 : decode cL_law 984 = .ok (.aload_n 0, 1) := fo_42 (fw_get da_cL_law_31 1 rfl)
theorem dL_law_985 : decode cL_law 985 = .ok (.iload 4, 2) := fo_21 (fw_get da_cL_law_31 2 rfl)
theorem dL_law_987 : decode cL_law 987 = .ok (.iconst 1, 1) := fo_4 (fw_get da_cL_law_31 3 rfl)
theorem dL_law_988 : decode cL_law 988 = .ok (.iadd, 1) := fo_96 (fw_get da_cL_law_31 4 rfl)
theorem dL_law_989 : decode cL_law 989 = .ok (.iaload, 1) := fo_46 (fw_get da_cL_law_31 5 rfl)
theorem dL_law_990 : decode cL_law 990 = .ok (.aload_n 0, 1) := fo_42 (fw_get da_cL_law_31 6 rfl)
theorem dL_law_991 : decode cL_law 991 = .ok (.iload 4, 2) := fo_21 (fw_get da_cL_law_31 7 rfl)
theorem dL_law_993 : decode cL_law 993 = .ok (.iconst 2, 1) := fo_5 (fw_get da_cL_law_31 8 rfl)
theorem dL_law_994 : decode cL_law 994 = .ok (.iadd, 1) := fo_96 (fw_get da_cL_law_31 9 rfl)
theorem dL_law_995 : decode cL_law 995 = .ok (.iaload, 1) := fo_46 (fw_get da_cL_law_31 10 rfl)
theorem dL_law_996 : decode cL_law 996 = .ok (.aload_n 0, 1) := fo_42 (fw_get da_cL_law_31 11 rfl)
theorem dL_law_997 : decode cL_law 997 = .ok (.iload 4, 2) := fo_21 (fw_get da_cL_law_31 12 rfl)
theorem dL_law_999 : decode cL_law 999 = .ok (.iconst 3, 1) := fo_6 (fw_get da_cL_law_31 13 rfl)
theorem dL_law_1000 : decode cL_law 1000 = .ok (.iadd, 1) := fo_96 (fw_get da_cL_law_31 14 rfl)
theorem dL_law_1001 : decode cL_law 1001 = .ok (.iaload, 1) := fo_46 (fw_get da_cL_law_31 15 rfl)
theorem dL_law_1002 : decode cL_law 1002 = .ok (.aload_n 0, 1) := fo_42 (fw_get da_cL_law_31 16 rfl)
theorem dL_law_1003 : decode cL_law 1003 = .ok (.iload 4, 2) := fo_21 (fw_get da_cL_law_31 17 rfl)
theorem dL_law_1005 : decode cL_law 1005 = .ok (.iconst 4, 1) := fo_7 (fw_get da_cL_law_31 18 rfl)
theorem dL_law_1006 : decode cL_law 1006 = .ok (.iadd, 1) := fo_96 (fw_get da_cL_law_31 19 rfl)
def dt_cL_law_32 : List (Nat × Nat × Nat × Nat) := [(1007, 46, 0, 0), (1008, 182, 2, 118), (1011, 87, 0, 0), (1012, 167, 2, 1276), (1015, 43, 0, 0), (1016, 42, 0, 0), (1017, 21, 1, 4), (1019, 4, 0, 0), (1020, 96, 0, 0), (1021, 46, 0, 0)]
theorem da_cL_law_32 : fw dt_cL_law_32 0 cL_law.data.toList = true := by decide +kernel
theorem dL_law_1007 : decode cL_law 1007 = .ok (.iaload, 1) := fo_46 (fw_get da_cL_law_32 0 rfl)
theorem dL_law_1008 : decode cL_law 1008 = .ok (.invokevirtual 118, 3) := fo_182 (fw_get da_cL_law_32 1 rfl)
theorem dL_law_1011 : decode cL_law 1011 = .ok (.pop, 1) := fo_87 (fw_get da_cL_law_32 2 rfl)
theorem dL_law_1012 : decode cL_law 1012 = .ok (.goto 1276, 3) := fo_167 (fw_get da_cL_law_32 3 rfl) (by decide +kernel)
theorem dL_law_1015 : decode cL_law 1015 = .ok (.aload_n 1, 1) := fo_43 (fw_get da_cL_law_32 4 rfl)
theorem dL_law_1016 : decode cL_law 1016 = .ok (.aload_n 0, 1) := fo_42 (fw_get da_cL_law_32 5 rfl)
theorem dL_law_1017 : decode cL_law 1017 = .ok (.iload 4, 2) := fo_21 (fw_get da_cL_law_32 6 rfl)
theorem dL_law_1019 : decode cL_law 1019 = .ok (.iconst 1, 1) := fo_4 (fw_get da_cL_law_32 7 rfl)
theorem dL_law_1020 : decode cL_law 1020 = .ok (.iadd, 1) := fo_96 (fw_get da_cL_law_32 8 rfl)
theorem dL_law_1021 : decode cL_law 1021 = .ok (.iaload, 1) := fo_46 (fw_get da_cL_law_32 9 rfl)


def dt_cL_law_33 : List (Nat × Nat × Nat × Nat) := [(1022, 42, 0, 0), (1023, 21, 1, 4), (1025, 5, 0, 0), (1026, 96, 0, 0), (1027, 46, 0, 0), (1028, 42, 0, 0), (1029, 21, 1, 4), (1031, 6, 0, 0), (1032, 96, 0, 0), (1033, 46, 0, 0), (1034, 182, 2, 119), (1037, 87, 0, 0), (1038, 44, 0, 0), (1039, 42, 0, 0), (1040, 21, 1, 4), (1042, 4, 0, 0), (1043, 96, 0, 0), (1044, 46, 0, 0), (1045, 42, 0, 0), (1046, 21, 1, 4)]
theorem da_cL_law_33 : fw dt_cL_law_33 0 cL_law.data.toList = true := by decide +kernel
theorem dL_law_1022 : decode cL_law 1022 = .ok (.aload_n 0, 1) := fo_42 (fw_get da_cL_law_33 0 rfl)
theorem dL_law_1023 : decode cL_law 1023 = .ok (.iload 4, 2) := fo_21 (fw_get da_cL_law_33 1 rfl)
theorem dL_law_1025 : decode cL_law 1025 = .ok (.iconst 2, 1) := fo_5 (fw_get da_cL_law_33 2 rfl)
theorem dL_law_1026 : decode cL_law 1026 = .ok (.iadd, 1) := fo_96 (fw_get da_cL_law_33 3 rfl)
theorem dL_law_1027 : decode cL_law 1027 = .ok (.iaload, 1) := fo_46 (fw_get da_cL_law_33 4 rfl)
theorem dL_law_1028 : decode cL_law 1028 = .ok (.aload_n 0, 1) := fo_42 (fw_get da_cL_law_33 5 rfl)
theorem dL_law_1029 : decode cL_law 1029 = .ok (.iload 4, 2) := fo_21 (fw_get da_cL_law_33 6 rfl)
theorem dL_law_1031 : decode cL_law 1031 = .ok (.iconst 3, 1) := fo_6 (fw_get da_cL_law_33 7 rfl)
theorem dL_law_1032 : decode cL_law 1032 = .ok (.iadd, 1) := fo_96 (fw_get da_cL_law_33 8 rfl)
theorem dL_law_1033 : decode cL_law 1033 = .ok (.iaload, 1) := fo_46 (fw_get da_cL_law_33 9 rfl)
theorem dL_law_1034 : decode cL_law 1034 = .ok (.invokevirtual 119, 3) := fo_182 (fw_get da_cL_law_33 10 rfl)
theorem dL_law_1037 : decode cL_law 1037 = .ok (.pop, 1) := fo_87 (fw_get da_cL_law_33 11 rfl)
theorem dL_law_1038 : decode cL_law 1038 = .ok (.aload_n 2, 1) := fo_44 (fw_get da_cL_law_33 12 rfl)
theorem dL_law_1039 : decode cL_law 1039 = .ok (.aload_n 0, 1) := fo_42 (fw_get da_cL_law_33 13 rfl)
theorem dL_law_1040 : decode cL_law 1040 = .ok (.iload 4, 2) := fo_21 (fw_get da_cL_law_33 14 rfl)
theorem dL_law_1042 : decode cL_law 1042 = .ok (.iconst 1, 1) := fo_4 (fw_get da_cL_law_33 15 rfl)
theorem dL_law_1043 : decode cL_law 1043 = .ok (.iadd, 1) := fo_96 (fw_get da_cL_law_33 16 rfl)
theorem dL_law_1044 : decode cL_law 1044 = .ok (.iaload, 1) := fo_46 (fw_get da_cL_law_33 17 rfl)
theorem dL_law_1045 : decode cL_law 1045 = .ok (.aload_n 0, 1) := fo_42 (fw_get da_cL_law_33 18 rfl)
theorem dL_law_1046 : decode cL_law 1046 = .ok (.iload 4, 2) := fo_21 (fw_get da_cL_law_33 19 rfl)
def dt_cL_law_34 : List (Nat × Nat × Nat × Nat) := [(1048, 5, 0, 0), (1049, 96, 0, 0), (1050, 46, 0, 0), (1051, 42, 0, 0), (1052, 21, 1, 4), (1054, 6, 0, 0), (1055, 96, 0, 0), (1056, 46, 0, 0), (1057, 182, 2, 122), (1060, 87, 0, 0), (1061, 167, 2, 1227), (1064, 43, 0, 0), (1065, 42, 0, 0), (1066, 21, 1, 4), (1068, 4, 0, 0), (1069, 96, 0, 0), (1070, 46, 0, 0), (1071, 42, 0, 0), (1072, 21, 1, 4), (1074, 5, 0, 0)]
theorem da_cL_law_34 : fw dt_cL_law_34 0 cL_law.data.toList = true := by decide +kernel
theorem dL_law_1048 : decode cL_law 1048 = .ok (.iconst 2, 1) := fo_5 (fw_get da_cL_law_34 0 rfl)
theorem dL_law_1049 : decode cL_law 1049 = .ok (.iadd, 1) := fo_96 (fw_get da_cL_law_34 1 rfl)
theorem dL_law_1050 : decode cL_law 1050 = .ok (.iaload, 1) := fo_46 (fw_get da_cL_law_34 2 rfl)
theorem dL_law_1051 : decode cL_law 1051 = .ok (.aload_n 0, 1) := fo_42 (fw_get da_cL_law_34 3 rfl)
theorem dL_law_1052 : decode cL_law 1052 = .ok (.iload 4, 2) := fo_21 (fw_get da_cL_law_34 4 rfl)
theorem dL_law_1054 : decode cL_law 1054 = .ok (.iconst 3, 1) := fo_6 (fw_get da_cL_law_34 5 rfl)
theorem dL_law_1055 : decode cL_law 1055 = .ok (.iadd, 1) := fo_96 (fw_get da_cL_law_34 6 rfl)
theorem dL_law_1056 : decode cL_law 1056 = .ok (.iaload, 1) := fo_46 (fw_get da_cL_law_34 7 rfl)
theorem dL_law_1057 : decode cL_law 1057 = .ok (.invokevirtual 122, 3) := fo_182 (fw_get da_cL_law_34 8 rfl)
theorem dL_law_1060 : decode cL_law 1060 = .ok (.pop, 1) := fo_87 (fw_get da_cL_law_34 9 rfl)
theorem dL_law_1061 : decode cL_law 1061 = .ok (.goto 1227, 3) := fo_167 (fw_get da_cL_law_34 10 rfl) (by decide +kernel)
theorem dL_law_1064 : decode cL_law 1064 = .ok (.aload_n 1, 1) := fo_43 (fw_get da_cL_law_34 11 rfl)
theorem dL_law_1065 : decode cL_law 1065 = .ok (.aload_n 0, 1) := fo_42 (fw_get da_cL_law_34 12 rfl)
theorem dL_law_1066 : decode cL_law 1066 = .ok (.iload 4, 2) := fo_21 (fw_get da_cL_law_34 13 rfl)
theorem dL_law_1068 : decode cL_law 1068 = .ok (.iconst 1, 1) := fo_4 (fw_get da_cL_law_34 14 rfl)
theorem dL_law_1069 : decode cL_law 1069 = .ok (.iadd, 1) := fo_96 (fw_get da_cL_law_34 15 rfl)
theorem dL_law_1070 : decode cL_law 1070 = .ok (.iaload, 1) := fo_46 (fw_get da_cL_law_34 16 rfl)
theorem dL_law_1071 : decode cL_law 1071 = .ok (.aload_n 0, 1) := fo_42 (fw_get da_cL_law_34 17 rfl)
theorem dL_law_1072 : decode cL_law 1072 = .ok (.iload 4, 2) := fo_21 (fw_get da_cL_law_34 18 rfl)
theorem dL_law_1074 : decode cL_law 1074 = .ok (.iconst 2, 1) := fo_5 (fw_get da_cL_law_34 19 rfl)
def dt_cL_law_35 : List (Nat × Nat × Nat × Nat) := [(1075, 96, 0, 0), (1076, 46, 0, 0), (1077, 42, 0, 0), (1078, 21, 1, 4), (1080, 6, 0, 0), (1081, 96, 0, 0), (1082, 46, 0, 0), (1083, 42, 0, 0), (1084, 21, 1, 4), (1086, 7, 0, 0), (1087, 96, 0, 0), (1088, 46, 0, 0), (1089, 45, 0, 0), (1090, 184, 2, 123), (1093, 54, 1, 5), (1095, 44, 0, 0), (1096, 42, 0, 0), (1097, 21, 1, 4), (1099, 4, 0, 0), (1100, 96, 0, 0)]
theorem da_cL_law_35 : fw dt_cL_law_35 0 cL_law.data.toList = true := by decide +kernel
theorem dL_law_1075 : decode cL_law 1075 = .ok (.iadd, 1) := fo_96 (fw_get da_cL_law_35 0 rfl)
theorem dL_law_1076 : decode cL_law 1076 = .ok (.iaload, 1) := fo_46 (fw_get da_cL_law_35 1 rfl)
theorem dL_law_1077 : decode cL_law 1077 = .ok (.aload_n 0, 1) := fo_42 (fw_get da_cL_law_35 2 rfl)
theorem dL_law_1078 : decode cL_law 1078 = .ok (.iload 4, 2) := fo_21 (fw_get da_cL_law_35 3 rfl)
theorem dL_law_1080 : decode cL_law 1080 = .ok (.iconst 3, 1) := fo_6 (fw_get da_cL_law_35 4 rfl)
theorem dL_law_1081 : decode cL_law 1081 = .ok (.iadd, 1) := fo_96 (fw_get da_cL_law_35 5 rfl)
theorem dL_law_1082 : decode cL_law 1082 = .ok (.iaload, 1) := fo_46 (fw_get da_cL_law_35 6 rfl)
theorem dL_law_1083 : decode cL_law 1083 = .ok (.aload_n 0, 1) := fo_42 (fw_get da_cL_law_35 7 rfl)
theorem dL_law_1084 : decode cL_law 1084 = .ok (.iload 4, 2) := fo_21 (fw_get da_cL_law_35 8 rfl)
theorem dL_law_1086 : decode cL_law 1086 = .ok (.iconst 4, 1) := fo_7 (fw_get da_cL_law_35 9 rfl)
theorem dL_law_1087 : decode cL_law 1087 = .ok (.iadd, 1) := fo_96 (fw_get da_cL_law_35 10 rfl)
theorem dL_law_1088 : decode cL_law 1088 = .ok (.iaload, 1) := fo_46 (fw_get da_cL_law_35 11 rfl)
theorem dL_law_1089 : decode cL_law 1089 = .ok (.aload_n 3, 1) := fo_45 (fw_get da_cL_law_35 12 rfl)
theorem dL_law_1090 : decode cL_law 1090 = .ok (.invokestatic 123, 3) := fo_184 (fw_get da_cL_law_35 13 rfl)
theorem dL_law_1093 : decode cL_law 1093 = .ok (.istore 5, 2) := fo_54 (fw_get da_cL_law_35 14 rfl)
theorem dL_law_1095 : decode cL_law 1095 = .ok (.aload_n 2, 1) := fo_44 (fw_get da_cL_law_35 15 rfl)
theorem dL_law_1096 : decode cL_law 1096 = .ok (.aload_n 0, 1) := fo_42 (fw_get da_cL_law_35 16 rfl)
theorem dL_law_1097 : decode cL_law 1097 = .ok (.iload 4, 2) := fo_21 (fw_get da_cL_law_35 17 rfl)
theorem dL_law_1099 : decode cL_law 1099 = .ok (.iconst 1, 1) := fo_4 (fw_get da_cL_law_35 18 rfl)
theorem dL_law_1100 : decode cL_law 1100 = .ok (.iadd, 1) := fo_96 (fw_get da_cL_law_35 19 rfl)
def dt_cL_law_36 : List (Nat × Nat × Nat × Nat) := [(1101, 46, 0, 0), (1102, 42, 0, 0), (1103, 21, 1, 4), (1105, 5, 0, 0), (1106, 96, 0, 0), (1107, 46, 0, 0), (1108, 42, 0, 0), (1109, 21, 1, 4), (1111, 6, 0, 0), (1112, 96, 0, 0), (1113, 46, 0, 0), (1114, 42, 0, 0), (1115, 21, 1, 4), (1117, 7, 0, 0), (1118, 96, 0, 0), (1119, 46, 0, 0), (1120, 182, 2, 125), (1123, 54, 1, 6), (1125, 167, 2, 1163), (1128, 43, 0, 0)]
theorem da_cL_law_36 : fw dt_cL_law_36 0 cL_law.data.toList = true := by decide +kernel
theorem dL_law_1101 : decode cL_law 1101 = .ok (.iaload, 1) := fo_46 (fw_get da_cL_law_36 0 rfl)
theorem dL_law_1102 : decode cL_law 1102 = .ok (.aload_n 0, 1) := fo_42 (fw_get da_cL_law_36 1 rfl)
theorem dL_law_1103 : decode cL_law 1103 = .ok (.iload 4, 2) := fo_21 (fw_get da_cL_law_36 2 rfl)
theorem dL_law_1105 : decode cL_law 1105 = .ok (.iconst 2, 1) := fo_5 (fw_get da_cL_law_36 3 rfl)
theorem dL_law_1106 : decode cL_law 1106 = .ok (.iadd, 1) := fo_96 (fw_get da_cL_law_36 4 rfl)
theorem dL_law_1107 : decode cL_law 1107 = .ok (.iaload, 1) := fo_46 (fw_get da_cL_law_36 5 rfl)
theorem dL_law_1108 : decode cL_law 1108 = .ok (.aload_n 0, 1) := fo_42 (fw_get da_cL_law_36 6 rfl)
theorem dL_law_1109 : decode cL_law 1109 = .ok (.iload 4, 2) := fo_21 (fw_get da_cL_law_36 7 rfl)
theorem dL_law_1111 : decode cL_law 1111 = .ok (.iconst 3, 1) := fo_6 (fw_get da_cL_law_36 8 rfl)
theorem dL_law_1112 : decode cL_law 1112 = .ok (.iadd, 1) := fo_96 (fw_get da_cL_law_36 9 rfl)
theorem dL_law_1113 : decode cL_law 1113 = .ok (.iaload, 1) := fo_46 (fw_get da_cL_law_36 10 rfl)
theorem dL_law_1114 : decode cL_law 1114 = .ok (.aload_n 0, 1) := fo_42 (fw_get da_cL_law_36 11 rfl)
theorem dL_law_1115 : decode cL_law 1115 = .ok (.iload 4, 2) := fo_21 (fw_get da_cL_law_36 12 rfl)
theorem dL_law_1117 : decode cL_law 1117 = .ok (.iconst 4, 1) := fo_7 (fw_get da_cL_law_36 13 rfl)
theorem dL_law_1118 : decode cL_law 1118 = .ok (.iadd, 1) := fo_96 (fw_get da_cL_law_36 14 rfl)
theorem dL_law_1119 : decode cL_law 1119 = .ok (.iaload, 1) := fo_46 (fw_get da_cL_law_36 15 rfl)
theorem dL_law_1120 : decode cL_law 1120 = .ok (.invokevirtual 125, 3) := fo_182 (fw_get da_cL_law_36 16 rfl)
theorem dL_law_1123 : decode cL_law 1123 = .ok (.istore 6, 2) := fo_54 (fw_get da_cL_law_36 17 rfl)
theorem dL_law_1125 : decode cL_law 1125 = .ok (.goto 1163, 3) := fo_167 (fw_get da_cL_law_36 18 rfl) (by decide +kernel)
theorem dL_law_1128 : decode cL_law 1128 = .ok (.aload_n 1, 1) := fo_43 (fw_get da_cL_law_36 19 rfl)
def dt_cL_law_37 : List (Nat × Nat × Nat × Nat) := [(1129, 42, 0, 0), (1130, 21, 1, 4), (1132, 4, 0, 0), (1133, 96, 0, 0), (1134, 46, 0, 0), (1135, 42, 0, 0), (1136, 21, 1, 4), (1138, 5, 0, 0), (1139, 96, 0, 0), (1140, 46, 0, 0), (1141, 42, 0, 0), (1142, 21, 1, 4), (1144, 6, 0, 0), (1145, 96, 0, 0), (1146, 46, 0, 0), (1147, 182, 2, 126), (1150, 87, 0, 0), (1151, 44, 0, 0), (1152, 42, 0, 0), (1153, 21, 1, 4)]
theorem da_cL_law_37 : fw dt_cL_law_37 0 cL_law.data.toList = true := by decide +kernel
theorem dL_law_1129 : decode cL_law 1129 = .ok (.aload_n 0, 1) := fo_42 (fw_get da_cL_law_37 0 rfl)
theorem dL_law_1130 : decode cL_law 1130 = .ok (.iload 4, 2) := fo_21 (fw_get da_cL_law_37 1 rfl)
theorem dL_law_1132 : decode cL_law 1132 = .ok (.iconst 1, 1) := fo_4 (fw_get da_cL_law_37 2 rfl)
theorem dL_law_1133 : decode cL_law 1133 = .ok (.iadd, 1) := fo_96 (fw_get da_cL_law_37 3 rfl)
theorem dL_law_1134 : decode cL_law 1134 = .ok (.iaload, 1) := fo_46 (fw_get da_cL_law_37 4 rfl)
theorem dL_law_1135 : decode cL_law 1135 = .ok (.aload_n 0, 1) := fo_42 (fw_get da_cL_law_37 5 rfl)
theorem dL_law_1136 : decode cL_law 1136 = .ok (.iload 4, 2) := fo_21 (fw_get da_cL_law_37 6 rfl)
theorem dL_law_1138 : decode cL_law 1138 = .ok (.iconst 2, 1) := fo_5 (fw_get da_cL_law_37 7 rfl)
theorem dL_law_1139 : decode cL_law 1139 = .ok (.iadd, 1) := fo_96 (fw_get da_cL_law_37 8 rfl)
theorem dL_law_1140 : decode cL_law 1140 = .ok (.iaload, 1) := fo_46 (fw_get da_cL_law_37 9 rfl)
theorem dL_law_1141 : decode cL_law 1141 = .ok (.aload_n 0, 1) := fo_42 (fw_get da_cL_law_37 10 rfl)
theorem dL_law_1142 : decode cL_law 1142 = .ok (.iload 4, 2) := fo_21 (fw_get da_cL_law_37 11 rfl)
theorem dL_law_1144 : decode cL_law 1144 = .ok (.iconst 3, 1) := fo_6 (fw_get da_cL_law_37 12 rfl)
theorem dL_law_1145 : decode cL_law 1145 = .ok (.iadd, 1) := fo_96 (fw_get da_cL_law_37 13 rfl)
theorem dL_law_1146 : decode cL_law 1146 = .ok (.iaload, 1) := fo_46 (fw_get da_cL_law_37 14 rfl)
theorem dL_law_1147 : decode cL_law 1147 = .ok (.invokevirtual 126, 3) := fo_182 (fw_get da_cL_law_37 15 rfl)
theorem dL_law_1150 : decode cL_law 1150 = .ok (.pop, 1) := fo_87 (fw_get da_cL_law_37 16 rfl)
theorem dL_law_1151 : decode cL_law 1151 = .ok (.aload_n 2, 1) := fo_44 (fw_get da_cL_law_37 17 rfl)
theorem dL_law_1152 : decode cL_law 1152 = .ok (.aload_n 0, 1) := fo_42 (fw_get da_cL_law_37 18 rfl)
theorem dL_law_1153 : decode cL_law 1153 = .ok (.iload 4, 2) := fo_21 (fw_get da_cL_law_37 19 rfl)
def dt_cL_law_38 : List (Nat × Nat × Nat × Nat) := [(1155, 4, 0, 0), (1156, 96, 0, 0), (1157, 46, 0, 0), (1158, 42, 0, 0), (1159, 21, 1, 4), (1161, 5, 0, 0), (1162, 96, 0, 0), (1163, 46, 0, 0), (1164, 42, 0, 0), (1165, 21, 1, 4), (1167, 6, 0, 0), (1168, 96, 0, 0), (1169, 46, 0, 0), (1170, 182, 2, 129), (1173, 87, 0, 0), (1174, 167, 2, 1114), (1177, 43, 0, 0), (1178, 42, 0, 0), (1179, 21, 1, 4), (1181, 4, 0, 0)]
theorem da_cL_law_38 : fw dt_cL_law_38 0 cL_law.data.toList = true := by decide +kernel
theorem dL_law_1155 : decode cL_law 1155 = .ok (.iconst 1, 1) := fo_4 (fw_get da_cL_law_38 0 rfl)
theorem dL_law_1156 : decode cL_law 1156 = .ok (.iadd, 1) := fo_96 (fw_get da_cL_law_38 1 rfl)
theorem dL_law_1157 : decode cL_law 1157 = .ok (.iaload, 1) := fo_46 (fw_get da_cL_law_38 2 rfl)
theorem dL_law_1158 : decode cL_law 1158 = .ok (.aload_n 0, 1) := fo_42 (fw_get da_cL_law_38 3 rfl)
theorem dL_law_1159 : decode cL_law 1159 = .ok (.iload 4, 2) := fo_21 (fw_get da_cL_law_38 4 rfl)
theorem dL_law_1161 : decode cL_law 1161 = .ok (.iconst 2, 1) := fo_5 (fw_get da_cL_law_38 5 rfl)
theorem dL_law_1162 : decode cL_law 1162 = .ok (.iadd, 1) := fo_96 (fw_get da_cL_law_38 6 rfl)
theorem dL_law_1163 : decode cL_law 1163 = .ok (.iaload, 1) := fo_46 (fw_get da_cL_law_38 7 rfl)
theorem dL_law_1164 : decode cL_law 1164 = .ok (.aload_n 0, 1) := fo_42 (fw_get da_cL_law_38 8 rfl)
theorem dL_law_1165 : decode cL_law 1165 = .ok (.iload 4, 2) := fo_21 (fw_get da_cL_law_38 9 rfl)
theorem dL_law_1167 : decode cL_law 1167 = .ok (.iconst 3, 1) := fo_6 (fw_get da_cL_law_38 10 rfl)
theorem dL_law_1168 : decode cL_law 1168 = .ok (.iadd, 1) := fo_96 (fw_get da_cL_law_38 11 rfl)
theorem dL_law_1169 : decode cL_law 1169 = .ok (.iaload, 1) := fo_46 (fw_get da_cL_law_38 12 rfl)
theorem dL_law_1170 : decode cL_law 1170 = .ok (.invokevirtual 129, 3) := fo_182 (fw_get da_cL_law_38 13 rfl)
theorem dL_law_1173 : decode cL_law 1173 = .ok (.pop, 1) := fo_87 (fw_get da_cL_law_38 14 rfl)
theorem dL_law_1174 : decode cL_law 1174 = .ok (.goto 1114, 3) := fo_167 (fw_get da_cL_law_38 15 rfl) (by decide +kernel)
theorem dL_law_1177 : decode cL_law 1177 = .ok (.aload_n 1, 1) := fo_43 (fw_get da_cL_law_38 16 rfl)
theorem dL_law_1178 : decode cL_law 1178 = .ok (.aload_n 0, 1) := fo_42 (fw_get da_cL_law_38 17 rfl)
theorem dL_law_1179 : decode cL_law 1179 = .ok (.iload 4, 2) := fo_21 (fw_get da_cL_law_38 18 rfl)
theorem dL_law_1181 : decode cL_law 1181 = .ok (.iconst 1, 1) := fo_4 (fw_get da_cL_law_38 19 rfl)
def dt_cL_law_39 : List (Nat × Nat × Nat × Nat) := [(1182, 96, 0, 0), (1183, 46, 0, 0), (1184, 42, 0, 0), (1185, 21, 1, 4), (1187, 5, 0, 0), (1188, 96, 0, 0), (1189, 46, 0, 0), (1190, 182, 2, 130), (1193, 87, 0, 0), (1194, 44, 0, 0), (1195, 42, 0, 0), (1196, 21, 1, 4), (1198, 4, 0, 0), (1199, 96, 0, 0), (1200, 46, 0, 0), (1201, 42, 0, 0), (1202, 21, 1, 4), (1204, 5, 0, 0), (1205, 96, 0, 0), (1206, 46, 0, 0)]
theorem da_cL_law_39 : fw dt_cL_law_39 0 cL_law.data.toList = true := by decide +kernel
theorem dL_law_1182 : decode cL_law 1182 = .ok (.iadd, 1) := fo_96 (fw_get da_cL_law_39 0 rfl)
theorem dL_law_1183 : decode cL_law 1183 = .ok (.iaload, 1) := fo_46 (fw_get da_cL_law_39 1 rfl)
theorem dL_law_1184 : decode cL_law 1184 = .ok (.aload_n 0, 1) := fo_42 (fw_get da_cL_law_39 2 rfl)
theorem dL_law_1185 : decode cL_law 1185 = .ok (.iload 4, 2) := fo_21 (fw_get da_cL_law_39 3 rfl)
theorem dL_law_1187 : decode cL_law 1187 = .ok (.iconst 2, 1) := fo_5 (fw_get da_cL_law_39 4 rfl)
theorem dL_law_1188 : decode cL_law 1188 = .ok (.iadd, 1) := fo_96 (fw_get da_cL_law_39 5 rfl)
theorem dL_law_1189 : decode cL_law 1189 = .ok (.iaload, 1) := fo_46 (fw_get da_cL_law_39 6 rfl)
theorem dL_law_1190 : decode cL_law 1190 = .ok (.invokevirtual 130, 3) := fo_182 (fw_get da_cL_law_39 7 rfl)
theorem dL_law_1193 : decode cL_law 1193 = .ok (.pop, 1) := fo_87 (fw_get da_cL_law_39 8 rfl)
theorem dL_law_1194 : decode cL_law 1194 = .ok (.aload_n 2, 1) := fo_44 (fw_get da_cL_law_39 9 rfl)
theorem dL_law_1195 : decode cL_law 1195 = .ok (.aload_n 0, 1) := fo_42 (fw_get da_cL_law_39 10 rfl)
theorem dL_law_1196 : decode cL_law 1196 = .ok (.iload 4, 2) := fo_21 (fw_get da_cL_law_39 11 rfl)
theorem dL_law_1198 : decode cL_law 1198 = .ok (.iconst 1, 1) := fo_4 (fw_get da_cL_law_39 12 rfl)
theorem dL_law_1199 : decode cL_law 1199 = .ok (.iadd, 1) := fo_96 (fw_get da_cL_law_39 13 rfl)
theorem dL_law_1200 : decode cL_law 1200 = .ok (.iaload, 1) := fo_46 (fw_get da_cL_law_39 14 rfl)
theorem dL_law_1201 : decode cL_law 1201 = .ok (.aload_n 0, 1) := fo_42 (fw_get da_cL_law_39 15 rfl)
theorem dL_law_1202 : decode cL_law 1202 = .ok (.iload 4, 2) := fo_21 (fw_get da_cL_law_39 16 rfl)
theorem dL_law_1204 : decode cL_law 1204 = .ok (.iconst 2, 1) := fo_5 (fw_get da_cL_law_39 17 rfl)
theorem dL_law_1205 : decode cL_law 1205 = .ok (.iadd, 1) := fo_96 (fw_get da_cL_law_39 18 rfl)
theorem dL_law_1206 : decode cL_law 1206 = .ok (.iaload, 1) := fo_46 (fw_get da_cL_law_39 19 rfl)
def dt_cL_law_40 : List (Nat × Nat × Nat × Nat) := [(1207, 182, 2, 133), (1210, 87, 0, 0), (1211, 167, 2, 1077), (1214, 43, 0, 0), (1215, 42, 0, 0), (1216, 21, 1, 4), (1218, 4, 0, 0), (1219, 96, 0, 0), (1220, 46, 0, 0), (1221, 42, 0, 0)]
theorem da_cL_law_40 : fw dt_cL_law_40 0 cL_law.data.toList = true := by decide +kernel
theorem dL_law_1207 : decode cL_law 1207 = .ok (.invokevirtual 133, 3) := fo_182 (fw_get da_cL_law_40 0 rfl)
theorem dL_law_1210 : decode cL_law 1210 = .ok (.pop, 1) := fo_87 (fw_get da_cL_law_40 1 rfl)
theorem dL_law_1211 : decode cL_law 1211 = .ok (.goto 1077, 3) := fo_167 (fw_get da_cL_law_40 2 rfl) (by decide +kernel)
theorem dL_law_1214 : decode cL_law 1214 = .ok (.aload_n 1, 1) := fo_43 (fw_get da_cL_law_40 3 rfl)
theorem dL_law_1215 : decode cL_law 1215 = .ok (.aload_n 0, 1) := fo_42 (fw_get da_cL_law_40 4 rfl)
theorem dL_law_1216 : decode cL_law 1216 = .ok (.iload 4, 2) := fo_21 (fw_get da_cL_law_40 5 rfl)
theorem dL_law_1218 : decode cL_law 1218 = .ok (.iconst 1, 1) := fo_4 (fw_get da_cL_law_40 6 rfl)
theorem dL_law_1219 : decode cL_law 1219 = .ok (.iadd, 1) := fo_96 (fw_get da_cL_law_40 7 rfl)
theorem dL_law_1220 : decode cL_law 1220 = .ok (.iaload, 1) := fo_46 (fw_get da_cL_law_40 8 rfl)
theorem dL_law_1221 : decode cL_law 1221 = .ok (.aload_n 0, 1) := fo_42 (fw_get da_cL_law_40 9 rfl)

