set_option maxHeartbeats 4000000 in
set_option maxRecDepth 100000 in
theorem c_X1_take_x (l : Launch) (dC : Nat → ClassId) (dI : Nat → Nat → Nat) (t_ : Nat) (t_k : Nat) (t_o : Nat) (cyI : ClassId) (tk : Int32) (mo : Int32) (fk : Nat → Int32) (fq : Nat → Int32) (f : Nat → Int32) (n9 : Nat) (l9 : Nat) (m9 : Nat) (p0 : Int32) (sz : Nat) (k0 : mj_kd f fk n9) (tl : mj_tl f (fun k => (fk k).toNatClampNeg) fq n9 l9 m9 mo.toInt) (b0 : 0 ≤ p0.toInt) (b1 : p0.toNatClampNeg = l9 + m9) (b2 : p0.toNatClampNeg < n9) (b3 : n9 ≤ 160) (t0 : tk.toInt = ((m9 : Nat) : Int)) (o0 : 0 ≤ mo.toInt) (o1 : mo.toInt ≤ ((m9 : Nat) : Int)) : Met l yX1_take wsX1_take ({ frames := 0, cells := 0, slots := 0, locals := 0 }) (va_Pc [.ref t_, .int p0] (fun U => U.heap.size = sz ∧ va_P (dC, dI) vwCl [kx_1 t_ t_k t_o tk mo, kx_a t_k cyI 160 fk, kx_a t_o cyI 160 fq] U.heap ∧ va_K (dC, dI) vwCl [(cyI, .int)] U ∧ va_D (fun _ => True) [kx_1 t_ t_k t_o tk mo, kx_a t_k cyI 160 fk, kx_a t_o cyI 160 fq])) (va_Qv (fun u : Int32 × Int32 × (Nat → Int32) => mj_tl f (fun k => (fk k).toNatClampNeg) u.2.2 n9 l9 (m9 + 1) u.2.1.toInt ∧ u.1.toInt = tk.toInt + 1 ∧ 0 ≤ u.2.1.toInt ∧ u.2.1.toInt ≤ ((m9 : Nat) : Int) + 1) (fun (u : Int32 × Int32 × (Nat → Int32)) (t : State) => va_P (dC, dI) vwCl [kx_1 t_ t_k t_o u.1 u.2.1, kx_a t_k cyI 160 fk, kx_a t_o cyI 160 u.2.2] t.heap ∧ va_K (dC, dI) vwCl [(cyI, .int)] t ∧ va_D (va_A [kx_1 t_ t_k t_o tk mo, kx_a t_k cyI 160 fk, kx_a t_o cyI 160 fq] sz) [kx_1 t_ t_k t_o u.1 u.2.1, kx_a t_k cyI 160 fk, kx_a t_o cyI 160 u.2.2]) (va_A [kx_1 t_ t_k t_o tk mo, kx_a t_k cyI 160 fk, kx_a t_o cyI 160 fq] sz)) 0 0 (va_A [kx_1 t_ t_k t_o tk mo, kx_a t_k cyI 160 fk, kx_a t_o cyI 160 fq] sz) := by
  refine Met.ofW (cc := cX1_take) (maxL := 3) (ret := none) (by decide) rfl ?_
  intro p e s m args below meth c s₁ B hml hv
  obtain ⟨rfl, hsz, hP, hK, hD0⟩ := hv
  have hx := B.exec
  have hb := B.bytes
  have hr := B.returns
  have hts := atoms_spec (ws := wsX1_take) B.pre
  have hown : s.vm.findClass RX1 = some m.cls := findClass_of_methodNamed B.named
  have hlocks := B.notSynchronized
  subst hsz
  have hD := hD0.self (sz := s.heap.size)
  generalize hAe : va_A [kx_1 t_ t_k t_o tk mo, kx_a t_k cyI 160 fk, kx_a t_o cyI 160 fq] s.heap.size = A at hD ⊢
  have hA : ∀ q : Nat, s.heap.size ≤ q → A q := fun q h => by rw [← hAe]; exact Or.inr h
  have hS : va_S A s.heap s.heap [] := va_S.rf
  have hP : va_P (dC, dI) vwCl [kx_1 t_ t_k t_o tk mo, kx_a t_k cyI 160 fk, kx_a t_o cyI 160 fq] s.heap := hP
  have hl := lv_entry ([.ref t_, .int p0]) (n := 3) (Nat.le_of_ble_eq_true rfl)
  rw [lg_entry_eq]
  generalize (lg_sl ([.ref t_, .int p0]) ++ List.replicate (3 - (lg_sl ([.ref t_, .int p0])).length) Slot.unset).toArray = ls at hl ⊢
  have hl : lv_has ls 3 [(0, .ref t_), (1, .int p0)] := hl
  have hf_15 := hts (.fieldLink RX1 15 "MajorityIndex$Tally" "often" "[I") (List.mem_of_getElem? (i := 1) rfl)
  have hi_1 : ∀ w ∈ u_ws RX1 TX1 4, w ∈ wsX1_take := fun w h => List.mem_cons_of_mem _ (List.mem_append_right _ h)
  have hf_9 := hts (.fieldLink RX1 9 "MajorityIndex$Tally" "kind" "[I") (List.mem_of_getElem? (i := 2) rfl)
  have hf_34 := hts (.fieldLink RX1 34 "MajorityIndex$Tally" "taken" "I") (List.mem_of_getElem? (i := 3) rfl)
  have hf_37 := hts (.fieldLink RX1 37 "MajorityIndex$Tally" "most" "I") (List.mem_of_getElem? (i := 4) rfl)
  have n_p0 := ki_nat p0 rfl (by omega)
  refine lv_aload_n hx hb dX1_take_0 rfl (lv_at hl 0 rfl) ?_
  refine va_get (D := (dC, dI)) (ci := 1) (v := .ref t_o) (C := RX1) (T := TX1) (N := 4) hx hb hts hi_1 hown hK hP 0 rfl rfl 1 (by decide) hf_15 (fun _ h9 => h9) rfl dX1_take_1 ?_
  refine lv_aload_n hx hb dX1_take_4 rfl (lv_at hl 0 rfl) ?_
  refine va_get (D := (dC, dI)) (ci := 1) (v := .ref t_k) (C := RX1) (T := TX1) (N := 4) hx hb hts hi_1 hown hK hP 0 rfl rfl 0 (by decide) hf_9 (fun _ h9 => h9) rfl dX1_take_5 ?_
  refine lv_iload_n hx hb dX1_take_8 rfl (lv_at hl 1 rfl) ?_
  refine va_iald hx hb hK hP 1 0 rfl rfl (ki_in (by omega) (by omega)) dX1_take_9 ?_
  refine lv_topi (fun y_1 ey_1 => ?_)
  have j_1 : y_1.toInt = (fk p0.toNatClampNeg).toInt := congrArg Int32.toInt ey_1
  have q_kd := k0 p0.toNatClampNeg b2
  have q_9 : y_1 = fk p0.toNatClampNeg := ey_1
  have i_9 : 0 ≤ y_1.toInt ∧ y_1.toInt ≤ p0.toInt := by rw [q_9]; omega
  refine va_iald hx hb hK hP 2 0 rfl rfl (ki_in (by omega) (by omega)) dX1_take_10 ?_
  refine lv_topi (fun y_2 ey_2 => ?_)
  have j_2 : y_2.toInt = (fq y_1.toNatClampNeg).toInt := congrArg Int32.toInt ey_2
  have q_10 : y_2.toInt = (cnt f (f p0.toNatClampNeg) l9 m9 : Int) := by rw [ey_2, q_9]; exact tl.1 _ b2
  have q_le := cnt_le f (f p0.toNatClampNeg) l9 m9
  refine lv_iconst (v := 1) hx hb dX1_take_11 (by decide) ?_
  refine lv_iadd hx hb dX1_take_12 ?_
  refine lv_topi (fun y_3 ey_3 => ?_)
  have i_3 : y_3.toInt = y_2.toInt + 1 := ki_add ey_3 rfl rfl (by omega) (by omega)
  refine lv_istore_n (lv' := [(2, .int y_3), (0, .ref t_), (1, .int p0)]) hx hb dX1_take_13 rfl hl (by decide) rfl (fun ls hl => ?_)
  refine lv_aload_n hx hb dX1_take_14 rfl (lv_at hl 1 rfl) ?_
  refine va_get (D := (dC, dI)) (ci := 1) (v := .ref t_o) (C := RX1) (T := TX1) (N := 4) hx hb hts hi_1 hown hK hP 0 rfl rfl 1 (by decide) hf_15 (fun _ h9 => h9) rfl dX1_take_15 ?_
  refine lv_aload_n hx hb dX1_take_18 rfl (lv_at hl 1 rfl) ?_
  refine va_get (D := (dC, dI)) (ci := 1) (v := .ref t_k) (C := RX1) (T := TX1) (N := 4) hx hb hts hi_1 hown hK hP 0 rfl rfl 0 (by decide) hf_9 (fun _ h9 => h9) rfl dX1_take_19 ?_
  refine lv_iload_n hx hb dX1_take_22 rfl (lv_at hl 2 rfl) ?_
  refine va_iald hx hb hK hP 1 0 rfl rfl (ki_in (by omega) (by omega)) dX1_take_23 ?_
  refine lv_topi (fun y_4 ey_4 => ?_)
  have j_4 : y_4.toInt = (fk p0.toNatClampNeg).toInt := congrArg Int32.toInt ey_4
  have i_23 : 0 ≤ y_4.toInt ∧ y_4.toInt ≤ p0.toInt := by rw [ey_4]; omega
  refine lv_iload_n hx hb dX1_take_24 rfl (lv_at hl 0 rfl) ?_
  refine va_iast hx hb hK hP hD hS 2 0 rfl rfl (ki_in (by omega) (by omega)) dX1_take_25 (fun H locs hP hD hS => ?_)
  have hP : va_P (dC, dI) vwCl [kx_1 t_ t_k t_o tk mo, kx_a t_k cyI 160 fk, kx_a t_o cyI 160 (upd fq y_4.toNatClampNeg y_3)] H := hP
  have hD : va_D A [kx_1 t_ t_k t_o tk mo, kx_a t_k cyI 160 fk, kx_a t_o cyI 160 (upd fq y_4.toNatClampNeg y_3)] := hD
  refine lv_aload_n hx hb dX1_take_26 rfl (lv_at hl 1 rfl) ?_
  refine lv_dup hx hb dX1_take_27 rfl ?_
  refine va_get (D := (dC, dI)) (ci := 1) (v := .int tk) (C := RX1) (T := TX1) (N := 4) hx hb hts hi_1 hown hK hP 0 rfl rfl 2 (by decide) hf_34 (fun _ h9 => h9) rfl dX1_take_28 ?_
  refine lv_iconst (v := 1) hx hb dX1_take_31 (by decide) ?_
  refine lv_iadd hx hb dX1_take_32 ?_
  refine lv_topi (fun y_5 ey_5 => ?_)
  have i_5 : y_5.toInt = tk.toInt + 1 := ki_add ey_5 rfl rfl (by omega) (by omega)
  refine va_put (D := (dC, dI)) (ci := 1) (v := .int y_5) (ty := .int) (C := RX1) (T := TX1) (N := 4) hx hb hts hi_1 tyX1 tyX1_ok nmX1 hown hK hP hD hS 0 rfl rfl 2 (by decide) hf_34 (fun _ h9 => h9) rfl (by decide +kernel) rfl rfl (Nat.le_of_ble_eq_true rfl) dX1_take_33 (fun H locs hP hD hS => ?_)
  have hP : va_P (dC, dI) vwCl [kx_1 t_ t_k t_o y_5 mo, kx_a t_k cyI 160 fk, kx_a t_o cyI 160 (upd fq y_4.toNatClampNeg y_3)] H := hP
  have hD : va_D A [kx_1 t_ t_k t_o y_5 mo, kx_a t_k cyI 160 fk, kx_a t_o cyI 160 (upd fq y_4.toNatClampNeg y_3)] := hD
  refine lv_iload_n hx hb dX1_take_36 rfl (lv_at hl 0 rfl) ?_
  refine lv_aload_n hx hb dX1_take_37 rfl (lv_at hl 1 rfl) ?_
  refine va_get (D := (dC, dI)) (ci := 1) (v := .int mo) (C := RX1) (T := TX1) (N := 4) hx hb hts hi_1 hown hK hP 0 rfl rfl 3 (by decide) hf_37 (fun _ h9 => h9) rfl dX1_take_38 ?_
  refine lv_icmp_le (tgt := 49) hx hb dX1_take_41 (by decide) (fun c_6 => ?_) (fun c_6 => ?_)
  · have i_6 : y_3.toInt ≤ mo.toInt := kc_le c_6
    have hP9 := hP
    have hD9 := hD
    have hK9 := hK
    have t_e : (fq ((fun k => (fk k).toNatClampNeg) p0.toNatClampNeg)).toInt = (cnt f (f p0.toNatClampNeg) l9 m9 : Int) := tl.1 _ b2
    have t_b : (fq ((fun k => (fk k).toNatClampNeg) p0.toNatClampNeg)).toInt = (fq (fk p0.toNatClampNeg).toNatClampNeg).toInt := rfl
    have t_n : mj_tl f (fun k => (fk k).toNatClampNeg) (upd fq ((fun k => (fk k).toNatClampNeg) p0.toNatClampNeg) y_3) n9 l9 (m9 + 1) mo.toInt := mj_tl_take (mj_ka_kd k0) tl b1 b2 rfl (by omega) (Or.inr ⟨(by omega), rfl⟩)
    exact W.vret hx hb hr (fun t ht hW => ⟨⟨(y_5, mo, (upd fq y_4.toNatClampNeg y_3)), rfl, ⟨(by (try dsimp only); rw [ey_4]; exact t_n), (by (try dsimp only); omega), (by (try dsimp only); omega), (by (try dsimp only); omega)⟩, by rw [ht]; exact hP9, va_K.moved hW.alike hK9, hD9⟩, hS.F ht⟩) hS.2.2 dX1_take_49
  · have i_6 : mo.toInt < y_3.toInt := kc_nle c_6
    refine lv_aload_n hx hb dX1_take_44 rfl (lv_at hl 1 rfl) ?_
    refine lv_iload_n hx hb dX1_take_45 rfl (lv_at hl 0 rfl) ?_
    refine va_put (D := (dC, dI)) (ci := 1) (v := .int y_3) (ty := .int) (C := RX1) (T := TX1) (N := 4) hx hb hts hi_1 tyX1 tyX1_ok nmX1 hown hK hP hD hS 0 rfl rfl 3 (by decide) hf_37 (fun _ h9 => h9) rfl (by decide +kernel) rfl rfl (Nat.le_of_ble_eq_true rfl) dX1_take_46 (fun H locs hP hD hS => ?_)
    have hP : va_P (dC, dI) vwCl [kx_1 t_ t_k t_o y_5 y_3, kx_a t_k cyI 160 fk, kx_a t_o cyI 160 (upd fq y_4.toNatClampNeg y_3)] H := hP
    have hD : va_D A [kx_1 t_ t_k t_o y_5 y_3, kx_a t_k cyI 160 fk, kx_a t_o cyI 160 (upd fq y_4.toNatClampNeg y_3)] := hD
    have hP9 := hP
    have hD9 := hD
    have hK9 := hK
    have t_e : (fq ((fun k => (fk k).toNatClampNeg) p0.toNatClampNeg)).toInt = (cnt f (f p0.toNatClampNeg) l9 m9 : Int) := tl.1 _ b2
    have t_b : (fq ((fun k => (fk k).toNatClampNeg) p0.toNatClampNeg)).toInt = (fq (fk p0.toNatClampNeg).toNatClampNeg).toInt := rfl
    have t_n : mj_tl f (fun k => (fk k).toNatClampNeg) (upd fq ((fun k => (fk k).toNatClampNeg) p0.toNatClampNeg) y_3) n9 l9 (m9 + 1) y_3.toInt := mj_tl_take (mj_ka_kd k0) tl b1 b2 rfl (by omega) (Or.inl ⟨(by omega), rfl⟩)
    exact W.vret hx hb hr (fun t ht hW => ⟨⟨(y_5, y_3, (upd fq y_4.toNatClampNeg y_3)), rfl, ⟨(by (try dsimp only); rw [ey_4]; exact t_n), (by (try dsimp only); omega), (by (try dsimp only); omega), (by (try dsimp only); omega)⟩, by rw [ht]; exact hP9, va_K.moved hW.alike hK9, hD9⟩, hS.F ht⟩) hS.2.2 dX1_take_49

set_option maxHeartbeats 4000000 in
set_option maxRecDepth 100000 in
theorem c_X1_hasMajority_x (l : Launch) (dC : Nat → ClassId) (dI : Nat → Nat → Nat) (t_ : Nat) (t_k : Nat) (t_o : Nat) (tk : Int32) (mo : Int32) (o0 : 0 ≤ mo.toInt) (o1 : mo.toInt ≤ 160) : Met l yX1_hasMajority wsX1_hasMajority ({ frames := 0, cells := 0, slots := 0, locals := 0 }) (va_Pc [.ref t_] (fun U => va_P (dC, dI) vwCl [kx_1 t_ t_k t_o tk mo] U.heap ∧ va_K (dC, dI) vwCl [] U)) (vp_Si (fun r : Int32 => (r = 1 ∧ tk.toInt < 2 * mo.toInt) ∨ (r = 0 ∧ 2 * mo.toInt ≤ tk.toInt))) 0 0 (fun _ => False) := by
  refine Met.ofW (cc := cX1_hasMajority) (maxL := 1) (ret := (some .boolean)) (by decide) rfl ?_
  intro p e s m args below meth c s₁ B hml hv
  obtain ⟨rfl, hP, hK⟩ := hv
  have hx := B.exec
  have hb := B.bytes
  have hr := B.returns
  have hts := atoms_spec (ws := wsX1_hasMajority) B.pre
  have hown : s.vm.findClass RX1 = some m.cls := findClass_of_methodNamed B.named
  have hlocks := B.notSynchronized
  have hP : va_P (dC, dI) vwCl [kx_1 t_ t_k t_o tk mo] s.heap := hP
  have hl := lv_entry ([.ref t_]) (n := 1) (Nat.le_of_ble_eq_true rfl)
  rw [lg_entry_eq]
  generalize (lg_sl ([.ref t_]) ++ List.replicate (1 - (lg_sl ([.ref t_])).length) Slot.unset).toArray = ls at hl ⊢
  have hl : lv_has ls 1 [(0, .ref t_)] := hl
  have hf_37 := hts (.fieldLink RX1 37 "MajorityIndex$Tally" "most" "I") (List.mem_of_getElem? (i := 1) rfl)
  have hi_1 : ∀ w ∈ u_ws RX1 TX1 4, w ∈ wsX1_hasMajority := fun w h => List.mem_cons_of_mem _ (List.mem_append_right _ h)
  have hf_34 := hts (.fieldLink RX1 34 "MajorityIndex$Tally" "taken" "I") (List.mem_of_getElem? (i := 2) rfl)
  refine lv_iconst (v := 2) hx hb dX1_hasMajority_0 (by decide) ?_
  refine lv_aload_n hx hb dX1_hasMajority_1 rfl (lv_at hl 0 rfl) ?_
  refine va_get (D := (dC, dI)) (ci := 1) (v := .int mo) (C := RX1) (T := TX1) (N := 4) hx hb hts hi_1 hown hK hP 0 rfl rfl 3 (by decide) hf_37 (fun _ h9 => h9) rfl dX1_hasMajority_2 ?_
  refine lv_imul hx hb dX1_hasMajority_5 ?_
  refine lv_topi (fun y_1 ey_1 => ?_)
  have i_1 : y_1.toInt = 2 * mo.toInt := ki_mul ey_1 rfl rfl (by omega) (by omega)
  refine lv_aload_n hx hb dX1_hasMajority_6 rfl (lv_at hl 0 rfl) ?_
  refine va_get (D := (dC, dI)) (ci := 1) (v := .int tk) (C := RX1) (T := TX1) (N := 4) hx hb hts hi_1 hown hK hP 0 rfl rfl 2 (by decide) hf_34 (fun _ h9 => h9) rfl dX1_hasMajority_7 ?_
  refine lv_icmp_le (tgt := 17) hx hb dX1_hasMajority_10 (by decide) (fun c_2 => ?_) (fun c_2 => ?_)
  · have i_2 : y_1.toInt ≤ tk.toInt := kc_le c_2
    refine lv_iconst (v := 0) hx hb dX1_hasMajority_17 (by decide) ?_
    exact W.zret (v := 0) hx hb hr (by decide) (fun t ht hW => ⟨0, rfl, Or.inr (⟨rfl, by omega⟩), ht⟩) (fun q hq => by cases hq) dX1_hasMajority_18
  · have i_2 : tk.toInt < y_1.toInt := kc_nle c_2
    refine lv_iconst (v := 1) hx hb dX1_hasMajority_13 (by decide) ?_
    refine lv_goto (tgt := 18) hx hb dX1_hasMajority_14 (by decide) ?_
    exact W.zret (v := 1) hx hb hr (by decide) (fun t ht hW => ⟨1, rfl, Or.inl ⟨rfl, by omega⟩, ht⟩) (fun q hq => by cases hq) dX1_hasMajority_18

set_option maxHeartbeats 4000000 in
set_option maxRecDepth 100000 in
theorem c_X4_reach_x (l : Launch) (dC : Nat → ClassId) (dI : Nat → Nat → Nat) (m_ : Nat) (q_row : Nat) (q_t : Nat) (t_ : Nat) (h0 : Nat) (k0 : Nat) (w_ : Nat) (z_ : Nat) (slots : Int32) (old : Int32) (q_cell : Nat) (cyI : ClassId) (len : Int32) (f : Nat → Int32) (t_k : Nat) (t_o : Nat) (tk : Int32) (mo : Int32) (fk : Nat → Int32) (fq : Nat → Int32) (p0 : Int32) (sz : Nat) (a0 : 0 ≤ len.toInt) (a1 : len.toInt ≤ 160) : Met l yX4_reach wsX4_reach ({ frames := 2, cells := 0, slots := 0, locals := 90 }) (va_Pc [.ref m_, .int p0] (fun U => U.heap.size = sz ∧ va_P (dC, dI) vwCl [kx_4 m_ q_row q_t t_ h0 k0 w_ z_ slots old, kx_0 q_row q_cell len, kx_a q_cell cyI 160 f, kx_1 t_ t_k t_o tk mo, kx_a t_k cyI 160 fk, kx_a t_o cyI 160 fq] U.heap ∧ va_K (dC, dI) vwCl [(cyI, .int)] U ∧ va_D (fun _ => True) [kx_4 m_ q_row q_t t_ h0 k0 w_ z_ slots old, kx_0 q_row q_cell len, kx_a q_cell cyI 160 f, kx_1 t_ t_k t_o tk mo, kx_a t_k cyI 160 fk, kx_a t_o cyI 160 fq])) (va_Qi (fun (r : Int32) (u : Int32 × Int32 × (Nat → Int32) × (Nat → Int32)) => ((0 ≤ p0.toInt ∧ p0.toInt < len.toInt) ∧ mj_lst (fun m => mj_hm f p0.toNatClampNeg (m - p0.toNatClampNeg)) p0.toNatClampNeg len.toNatClampNeg r.toInt) ∨ ((p0.toInt < 0 ∨ len.toInt ≤ p0.toInt) ∧ r = -1)) (fun (u : Int32 × Int32 × (Nat → Int32) × (Nat → Int32)) (t : State) => va_P (dC, dI) vwCl [kx_4 m_ q_row q_t t_ h0 k0 w_ z_ slots old, kx_0 q_row q_cell len, kx_a q_cell cyI 160 f, kx_1 t_ t_k t_o u.1 u.2.1, kx_a t_k cyI 160 u.2.2.1, kx_a t_o cyI 160 u.2.2.2] t.heap ∧ va_K (dC, dI) vwCl [(cyI, .int)] t ∧ va_D (va_A [kx_4 m_ q_row q_t t_ h0 k0 w_ z_ slots old, kx_0 q_row q_cell len, kx_a q_cell cyI 160 f, kx_1 t_ t_k t_o tk mo, kx_a t_k cyI 160 fk, kx_a t_o cyI 160 fq] sz) [kx_4 m_ q_row q_t t_ h0 k0 w_ z_ slots old, kx_0 q_row q_cell len, kx_a q_cell cyI 160 f, kx_1 t_ t_k t_o u.1 u.2.1, kx_a t_k cyI 160 u.2.2.1, kx_a t_o cyI 160 u.2.2.2]) (va_A [kx_4 m_ q_row q_t t_ h0 k0 w_ z_ slots old, kx_0 q_row q_cell len, kx_a q_cell cyI 160 f, kx_1 t_ t_k t_o tk mo, kx_a t_k cyI 160 fk, kx_a t_o cyI 160 fq] sz)) 0 0 (va_A [kx_4 m_ q_row q_t t_ h0 k0 w_ z_ slots old, kx_0 q_row q_cell len, kx_a q_cell cyI 160 f, kx_1 t_ t_k t_o tk mo, kx_a t_k cyI 160 fk, kx_a t_o cyI 160 fq] sz) := by
  refine Met.ofW (cc := cX4_reach) (maxL := 4) (ret := (some .int)) (by decide) rfl ?_
  intro p e s m args below meth c s₁ B hml hv
  obtain ⟨rfl, hsz, hP, hK, hD0⟩ := hv
  have hx := B.exec
  have hb := B.bytes
  have hr := B.returns
  have hts := atoms_spec (ws := wsX4_reach) B.pre
  have hown : s.vm.findClass RX4 = some m.cls := findClass_of_methodNamed B.named
  have hlocks := B.notSynchronized
  subst hsz
  have hD := hD0.self (sz := s.heap.size)
  generalize hAe : va_A [kx_4 m_ q_row q_t t_ h0 k0 w_ z_ slots old, kx_0 q_row q_cell len, kx_a q_cell cyI 160 f, kx_1 t_ t_k t_o tk mo, kx_a t_k cyI 160 fk, kx_a t_o cyI 160 fq] s.heap.size = A at hD ⊢
  have hA : ∀ q : Nat, s.heap.size ≤ q → A q := fun q h => by rw [← hAe]; exact Or.inr h
  have hS : va_S A s.heap s.heap [] := va_S.rf
  have hP : va_P (dC, dI) vwCl [kx_4 m_ q_row q_t t_ h0 k0 w_ z_ slots old, kx_0 q_row q_cell len, kx_a q_cell cyI 160 f, kx_1 t_ t_k t_o tk mo, kx_a t_k cyI 160 fk, kx_a t_o cyI 160 fq] s.heap := hP
  have hl := lv_entry ([.ref m_, .int p0]) (n := 4) (Nat.le_of_ble_eq_true rfl)
  rw [lg_entry_eq]
  generalize (lg_sl ([.ref m_, .int p0]) ++ List.replicate (4 - (lg_sl ([.ref m_, .int p0])).length) Slot.unset).toArray = ls at hl ⊢
  have hl : lv_has ls 4 [(0, .ref m_), (1, .int p0)] := hl
  have hf_12 := hts (.fieldLink RX4 12 "MajorityIndex" "row" "LMajorityIndex$Row;") (List.mem_of_getElem? (i := 1) rfl)
  have hi_4 : ∀ w ∈ u_ws RX4 TX4 9, w ∈ wsX4_reach := fun w h => List.mem_cons_of_mem _ (List.mem_append_left _ (List.mem_append_left _ (List.mem_append_right _ h)))
  have hf_28 := hts (.fieldLink RX4 28 "MajorityIndex" "tally" "LMajorityIndex$Tally;") (List.mem_of_getElem? (i := 2) rfl)
  have hf_57 := hts (.fieldLink RX4 57 "MajorityIndex$Row" "length" "I") (List.mem_of_getElem? (i := 3) rfl)
  have hi_0 : ∀ w ∈ u_ws RX0 TX0 2, w ∈ wsX4_reach := fun w h => List.mem_cons_of_mem _ (List.mem_append_left _ (List.mem_append_right _ h))
  refine lv_aload_n hx hb dX4_reach_0 rfl (lv_at hl 0 rfl) ?_
  refine va_get (D := (dC, dI)) (ci := 4) (v := .ref q_row) (C := RX4) (T := TX4) (N := 9) hx hb hts hi_4 hown hK hP 0 rfl rfl 0 (by decide) hf_12 (fun _ h9 => h9) rfl dX4_reach_1 ?_
  refine lv_iload_n hx hb dX4_reach_4 rfl (lv_at hl 1 rfl) ?_
  have hPc := hP.sub (ws' := [kx_0 q_row q_cell len]) [1] rfl
  have hKc := hK.sub (tys' := []) [] rfl
  refine vp_callSi (W.runV (As := [.int p0]) (rest := []) ⟨hx, hb, hml, hown, hts⟩ (c_X0_hasPlace l dC dI q_row q_cell len p0) (cwV 1 hts gX4_reach_X0_hasPlace rfl rfl rfl (by decide +kernel) ⟨Nat.le_of_ble_eq_true rfl, Nat.le_of_ble_eq_true rfl⟩) ⟨fun a U g mk q => by obtain ⟨q0, qP, qK⟩ := q; exact ⟨q0, qP, va_K.moved (u := U) (U := U.calling g mk a) (Vm.Alike.refl U.vm) qK⟩, va_recv hKc hPc (ci := 0) (q0 := 0) rfl rfl, fun U hU hW => ⟨rfl, by rw [hU]; exact hPc, va_K.moved hW.alike hKc⟩⟩ rfl rfl hl.1 rfl (lv_room (Nat.le_of_ble_eq_true rfl)) dX4_reach_5 ⟨Nat.le_of_ble_eq_true rfl, Nat.le_of_ble_eq_true rfl⟩) (fun r_1 w_1 => ?_)
  rcases w_1 with ⟨rfl, w_1⟩ | ⟨rfl, w_1⟩
  · have w_1 : (0 ≤ p0.toInt ∧ p0.toInt < len.toInt) := w_1
    refine lv_if_ne (tgt := 13) hx hb dX4_reach_8 (by decide) (fun c_2 => ?_) (fun c_2 => ?_)
    · have n_p0 := ki_nat p0 rfl (by omega)
      have n_l := ki_nat len rfl (by omega)
      refine lv_aload_n hx hb dX4_reach_13 rfl (lv_at hl 0 rfl) ?_
      refine va_get (D := (dC, dI)) (ci := 4) (v := .ref t_) (C := RX4) (T := TX4) (N := 9) hx hb hts hi_4 hown hK hP 0 rfl rfl 2 (by decide) hf_28 (fun _ h9 => h9) rfl dX4_reach_14 ?_
      refine lv_aload_n hx hb dX4_reach_17 rfl (lv_at hl 0 rfl) ?_
      refine va_get (D := (dC, dI)) (ci := 4) (v := .ref q_row) (C := RX4) (T := TX4) (N := 9) hx hb hts hi_4 hown hK hP 0 rfl rfl 0 (by decide) hf_12 (fun _ h9 => h9) rfl dX4_reach_18 ?_
      have hPc := hP.sub (ws' := [kx_1 t_ t_k t_o tk mo, kx_a t_k cyI 160 fk, kx_0 q_row q_cell len, kx_a q_cell cyI 160 f]) [3, 4, 1, 2] rfl
      have hKc := hK
      have hDc := hD.sub (ws' := [kx_1 t_ t_k t_o tk mo, kx_a t_k cyI 160 fk, kx_0 q_row q_cell len, kx_a q_cell cyI 160 f]) [3, 4, 1, 2] (by decide) rfl
      have hFc := va_free (wc := [kx_1 t_ t_k t_o tk mo, kx_a t_k cyI 160 fk, kx_0 q_row q_cell len, kx_a q_cell cyI 160 f]) hD hS hA [3, 4, 1, 2] rfl
      refine va_callv (va_runV (As := [.ref q_row]) (rest := []) ⟨hx, hb, hml, hown, hts⟩ (c_X1_learn_x l dC dI t_ t_k t_o cyI tk mo fk q_row q_cell len f s.heap.size a0 a1) (cwV 1 hts gX4_reach_X1_learn rfl rfl rfl (by decide +kernel) ⟨Nat.le_of_ble_eq_true rfl, Nat.le_of_ble_eq_true rfl⟩) ⟨fun a U g mk q => by obtain ⟨q0, q1, qP, qK, qD⟩ := q; exact ⟨q0, q1, qP, va_K.moved (u := U) (U := U.calling g mk a) (Vm.Alike.refl U.vm) qK, qD⟩, va_recv hKc hPc (ci := 1) (q0 := 0) rfl rfl, fun U hU hW => ⟨rfl, by rw [hU], by rw [hU]; exact hPc, va_K.moved hW.alike hKc, hDc.weaken (fun _ _ _ _ => trivial)⟩⟩ rfl rfl hl.1 rfl (lv_room (Nat.le_of_ble_eq_true rfl)) dX4_reach_21 ⟨Nat.le_of_ble_eq_true rfl, Nat.le_of_ble_eq_true rfl⟩) hS (fun q _ h => hFc q h) hFc (fun u t H1 locs ht hvm w_3 hB hz1 hk1 hS => ?_)
      obtain ⟨o_4, rfl⟩ : ∃ z, z = u := ⟨_, rfl⟩
      obtain ⟨hP1, hK1, hD1⟩ := hB
      rw [ht] at hP1
      have hK1 := va_K.moved hvm.symm hK1
      obtain ⟨hP, hD⟩ := va_join (wr := [kx_4 m_ q_row q_t t_ h0 k0 w_ z_ slots old, kx_a t_o cyI 160 fq]) (w1 := [kx_1 t_ t_k t_o tk mo, kx_a t_k cyI 160 o_4, kx_0 q_row q_cell len, kx_a q_cell cyI 160 f]) hP hD [3, 4, 1, 2] [0, 5] rfl rfl (by decide) (by decide) hk1 hFc hP1 hD1
      clear hP1 hD1 hK1 hk1 hz1 hFc hDc hPc hKc
      generalize H1 = H at hP hS ⊢
      have hP : va_P (dC, dI) vwCl [kx_4 m_ q_row q_t t_ h0 k0 w_ z_ slots old, kx_a t_o cyI 160 fq, kx_1 t_ t_k t_o tk mo, kx_a t_k cyI 160 o_4, kx_0 q_row q_cell len, kx_a q_cell cyI 160 f] H := hP
      have hD : va_D A [kx_4 m_ q_row q_t t_ h0 k0 w_ z_ slots old, kx_a t_o cyI 160 fq, kx_1 t_ t_k t_o tk mo, kx_a t_k cyI 160 o_4, kx_0 q_row q_cell len, kx_a q_cell cyI 160 f] := hD
      have w_3 : kindOk o_4 len.toInt ∧ mj_kd f o_4 len.toNatClampNeg := w_3
      refine lv_aload_n hx hb dX4_reach_24 rfl (lv_at hl 0 rfl) ?_
      refine va_get (D := (dC, dI)) (ci := 4) (v := .ref t_) (C := RX4) (T := TX4) (N := 9) hx hb hts hi_4 hown hK hP 0 rfl rfl 2 (by decide) hf_28 (fun _ h9 => h9) rfl dX4_reach_25 ?_
      have hPc := hP.sub (ws' := [kx_1 t_ t_k t_o tk mo, kx_a t_o cyI 160 fq]) [2, 1] rfl
      have hKc := hK
      have hDc := hD.sub (ws' := [kx_1 t_ t_k t_o tk mo, kx_a t_o cyI 160 fq]) [2, 1] (by decide) rfl
      have hFc := va_free (wc := [kx_1 t_ t_k t_o tk mo, kx_a t_o cyI 160 fq]) hD hS hA [2, 1] rfl
      refine va_callv (va_runV (As := []) (rest := []) ⟨hx, hb, hml, hown, hts⟩ (c_X1_clear l dC dI t_ t_k t_o cyI tk mo fq H.size) (cwV 0 hts gX4_reach_X1_clear rfl rfl rfl (by decide +kernel) ⟨Nat.le_of_ble_eq_true rfl, Nat.le_of_ble_eq_true rfl⟩) ⟨fun a U g mk q => by obtain ⟨q0, q1, qP, qK, qD⟩ := q; exact ⟨q0, q1, qP, va_K.moved (u := U) (U := U.calling g mk a) (Vm.Alike.refl U.vm) qK, qD⟩, va_recv hKc hPc (ci := 1) (q0 := 0) rfl rfl, fun U hU hW => ⟨rfl, by rw [hU], by rw [hU]; exact hPc, va_K.moved hW.alike hKc, hDc.weaken (fun _ _ _ _ => trivial)⟩⟩ rfl rfl hl.1 rfl (lv_room (Nat.le_of_ble_eq_true rfl)) dX4_reach_28 ⟨Nat.le_of_ble_eq_true rfl, Nat.le_of_ble_eq_true rfl⟩) hS (fun q _ h => hFc q h) hFc (fun u t H1 locs ht hvm w_5 hB hz1 hk1 hS => ?_)
      obtain ⟨o_6, rfl⟩ : ∃ z, z = u := ⟨_, rfl⟩
      obtain ⟨hP1, hK1, hD1⟩ := hB
      rw [ht] at hP1
      have hK1 := va_K.moved hvm.symm hK1
      obtain ⟨hP, hD⟩ := va_join (wr := [kx_4 m_ q_row q_t t_ h0 k0 w_ z_ slots old, kx_a t_k cyI 160 o_4, kx_0 q_row q_cell len, kx_a q_cell cyI 160 f]) (w1 := [kx_1 t_ t_k t_o 0 0, kx_a t_o cyI 160 o_6]) hP hD [2, 1] [0, 3, 4, 5] rfl rfl (by decide) (by decide) hk1 hFc hP1 hD1
      clear hP1 hD1 hK1 hk1 hz1 hFc hDc hPc hKc
      generalize H1 = H at hP hS ⊢
      have hP : va_P (dC, dI) vwCl [kx_4 m_ q_row q_t t_ h0 k0 w_ z_ slots old, kx_a t_k cyI 160 o_4, kx_0 q_row q_cell len, kx_a q_cell cyI 160 f, kx_1 t_ t_k t_o 0 0, kx_a t_o cyI 160 o_6] H := hP
      have hD : va_D A [kx_4 m_ q_row q_t t_ h0 k0 w_ z_ slots old, kx_a t_k cyI 160 o_4, kx_0 q_row q_cell len, kx_a q_cell cyI 160 f, kx_1 t_ t_k t_o 0 0, kx_a t_o cyI 160 o_6] := hD
      have w_5 : ∀ k : Nat, k < 160 → o_6 k = 0 := w_5
      refine lv_iconst (v := (-1)) hx hb dX4_reach_31 (by decide) ?_
      refine lv_istore_n (lv' := [(2, .int (-1)), (0, .ref m_), (1, .int p0)]) hx hb dX4_reach_32 rfl hl (by decide) rfl (fun ls hl => ?_)
      refine lv_iload_n hx hb dX4_reach_33 rfl (lv_at hl 2 rfl) ?_
      refine lv_istore_n (lv' := [(3, .int p0), (2, .int (-1)), (0, .ref m_), (1, .int p0)]) hx hb dX4_reach_34 rfl hl (by decide) rfl (fun ls hl => ?_)
      have LP1 : ∀ (n : Nat) (i : Int32) (far : Int32) (a_t : Int32) (a_m : Int32) (a_q : Nat → Int32), (p0.toInt ≤ i.toInt) → (i.toInt ≤ len.toInt) → (mj_tl f (fun k => (o_4 k).toNatClampNeg) a_q len.toNatClampNeg p0.toNatClampNeg (i.toNatClampNeg - p0.toNatClampNeg) a_m.toInt) → (a_t.toInt = i.toInt - p0.toInt) → (mj_lst (fun m => mj_hm f p0.toNatClampNeg (m - p0.toNatClampNeg)) p0.toNatClampNeg i.toNatClampNeg far.toInt) → (0 ≤ a_m.toInt) → (a_m.toInt ≤ i.toInt - p0.toInt) → (len.toInt - i.toInt).toNat < n → ∀ (H : Heap) (locs : List Loc), va_P (dC, dI) vwCl [kx_4 m_ q_row q_t t_ h0 k0 w_ z_ slots old, kx_a t_k cyI 160 o_4, kx_0 q_row q_cell len, kx_a q_cell cyI 160 f, kx_1 t_ t_k t_o a_t a_m, kx_a t_o cyI 160 a_q] H → va_D A [kx_4 m_ q_row q_t t_ h0 k0 w_ z_ slots old, kx_a t_k cyI 160 o_4, kx_0 q_row q_cell len, kx_a q_cell cyI 160 f, kx_1 t_ t_k t_o a_t a_m, kx_a t_o cyI 160 a_q] → va_S A s.heap H locs → ∀ (ls : Array Slot), lv_has ls 4 [(3, .int i), (2, .int far), (0, .ref m_), (1, .int p0)] → W p l e (headSpec wsX4_reach ({ frames := 2, cells := 0, slots := 0, locals := 90 })).room s m ([.ref m_, .int p0] : List Value).toArray below meth c H locs 0 0 (MQ below (va_Qi (fun (r : Int32) (u : Int32 × Int32 × (Nat → Int32) × (Nat → Int32)) => ((0 ≤ p0.toInt ∧ p0.toInt < len.toInt) ∧ mj_lst (fun m => mj_hm f p0.toNatClampNeg (m - p0.toNatClampNeg)) p0.toNatClampNeg len.toNatClampNeg r.toInt) ∨ ((p0.toInt < 0 ∨ len.toInt ≤ p0.toInt) ∧ r = -1)) (fun (u : Int32 × Int32 × (Nat → Int32) × (Nat → Int32)) (t : State) => va_P (dC, dI) vwCl [kx_4 m_ q_row q_t t_ h0 k0 w_ z_ slots old, kx_0 q_row q_cell len, kx_a q_cell cyI 160 f, kx_1 t_ t_k t_o u.1 u.2.1, kx_a t_k cyI 160 u.2.2.1, kx_a t_o cyI 160 u.2.2.2] t.heap ∧ va_K (dC, dI) vwCl [(cyI, .int)] t ∧ va_D A [kx_4 m_ q_row q_t t_ h0 k0 w_ z_ slots old, kx_0 q_row q_cell len, kx_a q_cell cyI 160 f, kx_1 t_ t_k t_o u.1 u.2.1, kx_a t_k cyI 160 u.2.2.1, kx_a t_o cyI 160 u.2.2.2]) A) ([.ref m_, .int p0] : List Value).toArray s 0 0 A) (F0 m 35 ls []) := by
        intro n
        induction n with
        | zero => intro i far a_t a_m a_q LP1_h0 LP1_h1 LP1_h2 LP1_h3 LP1_h4 LP1_h5 LP1_h6 hn; exact absurd hn (Nat.not_lt_zero _)
        | succ n ih1 =>
          intro i far a_t a_m a_q LP1_h0 LP1_h1 LP1_h2 LP1_h3 LP1_h4 LP1_h5 LP1_h6 hn1 H locs hP hD hS ls hl
          have n_i := ki_nat i rfl (by omega)
          refine lv_iload_n hx hb dX4_reach_35 rfl (lv_at hl 0 rfl) ?_
          refine lv_aload_n hx hb dX4_reach_36 rfl (lv_at hl 2 rfl) ?_
          refine va_get (D := (dC, dI)) (ci := 4) (v := .ref q_row) (C := RX4) (T := TX4) (N := 9) hx hb hts hi_4 hown hK hP 0 rfl rfl 0 (by decide) hf_12 (fun _ h9 => h9) rfl dX4_reach_37 ?_
          refine va_get (D := (dC, dI)) (ci := 0) (v := .int len) (C := RX0) (T := TX0) (N := 2) hx hb hts hi_0 hown hK hP 2 rfl rfl 1 (by decide) hf_57 (fun _ h9 => h9) rfl dX4_reach_40 ?_
          refine lv_icmp_ge (tgt := 74) hx hb dX4_reach_43 (by decide) (fun c_7 => ?_) (fun c_7 => ?_)
          · have i_7 : len.toInt ≤ i.toInt := kc_le c_7
            refine lv_iload_n hx hb dX4_reach_74 rfl (lv_at hl 1 rfl) ?_
            have hP9 := hP.sub (ws' := [kx_4 m_ q_row q_t t_ h0 k0 w_ z_ slots old, kx_0 q_row q_cell len, kx_a q_cell cyI 160 f, kx_1 t_ t_k t_o a_t a_m, kx_a t_k cyI 160 o_4, kx_a t_o cyI 160 a_q]) [0, 2, 3, 4, 1, 5] rfl
            have hD9 := hD.sub (ws' := [kx_4 m_ q_row q_t t_ h0 k0 w_ z_ slots old, kx_0 q_row q_cell len, kx_a q_cell cyI 160 f, kx_1 t_ t_k t_o a_t a_m, kx_a t_k cyI 160 o_4, kx_a t_o cyI 160 a_q]) [0, 2, 3, 4, 1, 5] (by decide) rfl
            have hK9 := hK
            have q_i : i.toNatClampNeg = len.toNatClampNeg := by omega
            have h_l := LP1_h4
            rw [q_i] at h_l
            exact W.iret (v := far) hx hb hr (fun t ht hW => ⟨⟨far, (a_t, a_m, o_4, a_q), rfl, (Or.inl ⟨(by (try dsimp only); omega), h_l⟩), by rw [ht]; exact hP9, va_K.moved hW.alike hK9, hD9⟩, hS.F ht⟩) hS.2.2 dX4_reach_75
          · have i_7 : i.toInt < len.toInt := kc_nle c_7
            refine lv_aload_n hx hb dX4_reach_46 rfl (lv_at hl 2 rfl) ?_
            refine va_get (D := (dC, dI)) (ci := 4) (v := .ref t_) (C := RX4) (T := TX4) (N := 9) hx hb hts hi_4 hown hK hP 0 rfl rfl 2 (by decide) hf_28 (fun _ h9 => h9) rfl dX4_reach_47 ?_
            refine lv_iload_n hx hb dX4_reach_50 rfl (lv_at hl 0 rfl) ?_
            have hPc := hP.sub (ws' := [kx_1 t_ t_k t_o a_t a_m, kx_a t_k cyI 160 o_4, kx_a t_o cyI 160 a_q]) [4, 1, 5] rfl
            have hKc := hK
            have hDc := hD.sub (ws' := [kx_1 t_ t_k t_o a_t a_m, kx_a t_k cyI 160 o_4, kx_a t_o cyI 160 a_q]) [4, 1, 5] (by decide) rfl
            have hFc := va_free (wc := [kx_1 t_ t_k t_o a_t a_m, kx_a t_k cyI 160 o_4, kx_a t_o cyI 160 a_q]) hD hS hA [4, 1, 5] rfl
            refine va_callv (va_runV (As := [.int i]) (rest := []) ⟨hx, hb, hml, hown, hts⟩ (c_X1_take_x l dC dI t_ t_k t_o cyI a_t a_m o_4 a_q f len.toNatClampNeg p0.toNatClampNeg (i.toNatClampNeg - p0.toNatClampNeg) i H.size w_3.2 LP1_h2 (by omega) (by omega) (by omega) (by omega) (by omega) (by omega) (by omega)) (cwV 1 hts gX4_reach_X1_take rfl rfl rfl (by decide +kernel) ⟨Nat.le_of_ble_eq_true rfl, Nat.le_of_ble_eq_true rfl⟩) ⟨fun a U g mk q => by obtain ⟨q0, q1, qP, qK, qD⟩ := q; exact ⟨q0, q1, qP, va_K.moved (u := U) (U := U.calling g mk a) (Vm.Alike.refl U.vm) qK, qD⟩, va_recv hKc hPc (ci := 1) (q0 := 0) rfl rfl, fun U hU hW => ⟨rfl, by rw [hU], by rw [hU]; exact hPc, va_K.moved hW.alike hKc, hDc.weaken (fun _ _ _ _ => trivial)⟩⟩ rfl rfl hl.1 rfl (lv_room (Nat.le_of_ble_eq_true rfl)) dX4_reach_51 ⟨Nat.le_of_ble_eq_true rfl, Nat.le_of_ble_eq_true rfl⟩) hS (fun q _ h => hFc q h) hFc (fun u t H1 locs ht hvm w_8 hB hz1 hk1 hS => ?_)
            obtain ⟨o_9, o_10, o_11⟩ := u
            dsimp only at w_8 hB
            obtain ⟨hP1, hK1, hD1⟩ := hB
            rw [ht] at hP1
            have hK1 := va_K.moved hvm.symm hK1
            obtain ⟨hP, hD⟩ := va_join (wr := [kx_4 m_ q_row q_t t_ h0 k0 w_ z_ slots old, kx_0 q_row q_cell len, kx_a q_cell cyI 160 f]) (w1 := [kx_1 t_ t_k t_o o_9 o_10, kx_a t_k cyI 160 o_4, kx_a t_o cyI 160 o_11]) hP hD [4, 1, 5] [0, 2, 3] rfl rfl (by decide) (by decide) hk1 hFc hP1 hD1
            clear hP1 hD1 hK1 hk1 hz1 hFc hDc hPc hKc
            generalize H1 = H at hP hS ⊢
            have hP : va_P (dC, dI) vwCl [kx_4 m_ q_row q_t t_ h0 k0 w_ z_ slots old, kx_0 q_row q_cell len, kx_a q_cell cyI 160 f, kx_1 t_ t_k t_o o_9 o_10, kx_a t_k cyI 160 o_4, kx_a t_o cyI 160 o_11] H := hP
            have hD : va_D A [kx_4 m_ q_row q_t t_ h0 k0 w_ z_ slots old, kx_0 q_row q_cell len, kx_a q_cell cyI 160 f, kx_1 t_ t_k t_o o_9 o_10, kx_a t_k cyI 160 o_4, kx_a t_o cyI 160 o_11] := hD
            have w_8 : mj_tl f (fun k => (o_4 k).toNatClampNeg) o_11 len.toNatClampNeg p0.toNatClampNeg ((i.toNatClampNeg - p0.toNatClampNeg) + 1) o_10.toInt ∧ o_9.toInt = a_t.toInt + 1 ∧ 0 ≤ o_10.toInt ∧ o_10.toInt ≤ (((i.toNatClampNeg - p0.toNatClampNeg) : Nat) : Int) + 1 := w_8
            refine lv_aload_n hx hb dX4_reach_54 rfl (lv_at hl 2 rfl) ?_
            refine va_get (D := (dC, dI)) (ci := 4) (v := .ref t_) (C := RX4) (T := TX4) (N := 9) hx hb hts hi_4 hown hK hP 0 rfl rfl 2 (by decide) hf_28 (fun _ h9 => h9) rfl dX4_reach_55 ?_
            have hPc := hP.sub (ws' := [kx_1 t_ t_k t_o o_9 o_10]) [3] rfl
            have hKc := hK.sub (tys' := []) [] rfl
            refine vp_callSi (W.runV (As := []) (rest := []) ⟨hx, hb, hml, hown, hts⟩ (c_X1_hasMajority_x l dC dI t_ t_k t_o o_9 o_10 w_8.2.2.1 (by omega)) (cwV 0 hts gX4_reach_X1_hasMajority rfl rfl rfl (by decide +kernel) ⟨Nat.le_of_ble_eq_true rfl, Nat.le_of_ble_eq_true rfl⟩) ⟨fun a U g mk q => by obtain ⟨q0, qP, qK⟩ := q; exact ⟨q0, qP, va_K.moved (u := U) (U := U.calling g mk a) (Vm.Alike.refl U.vm) qK⟩, va_recv hKc hPc (ci := 1) (q0 := 0) rfl rfl, fun U hU hW => ⟨rfl, by rw [hU]; exact hPc, va_K.moved hW.alike hKc⟩⟩ rfl rfl hl.1 rfl (lv_room (Nat.le_of_ble_eq_true rfl)) dX4_reach_58 ⟨Nat.le_of_ble_eq_true rfl, Nat.le_of_ble_eq_true rfl⟩) (fun r_12 w_12 => ?_)
            rcases w_12 with ⟨rfl, w_12⟩ | ⟨rfl, w_12⟩
            · have w_12 : o_9.toInt < 2 * o_10.toInt := w_12
              refine lv_if_eq (tgt := 68) hx hb dX4_reach_61 (by decide) (fun c_13 => ?_) (fun c_13 => ?_)
              · exact absurd c_13 (by decide)
              · refine lv_iload_n hx hb dX4_reach_64 rfl (lv_at hl 0 rfl) ?_
                refine lv_iconst (v := 1) hx hb dX4_reach_65 (by decide) ?_
                refine lv_iadd hx hb dX4_reach_66 ?_
                refine lv_topi (fun y_14 ey_14 => ?_)
                have i_14 : y_14.toInt = i.toInt + 1 := ki_add ey_14 rfl rfl (by omega) (by omega)
                refine lv_istore_n (lv' := [(2, .int y_14), (3, .int i), (0, .ref m_), (1, .int p0)]) hx hb dX4_reach_67 rfl hl (by decide) rfl (fun ls hl => ?_)
                obtain ⟨x_15, ex_15⟩ : ∃ y : Int32, y = i + 1 := ⟨_, rfl⟩
                have i_15 : x_15.toInt = i.toInt + 1 := ki_add ex_15 rfl rfl (by omega) (by omega)
                refine lv_iinc (v := x_15) (lv' := [(3, .int x_15), (2, .int y_14), (0, .ref m_), (1, .int p0)]) hx hb dX4_reach_68 hl (k := 1) rfl (by rw [ex_15]; rfl) (by decide) rfl (fun ls hl => ?_)
                refine lv_goto (tgt := 35) hx hb dX4_reach_71 (by decide) ?_
                have hP : va_P (dC, dI) vwCl [kx_4 m_ q_row q_t t_ h0 k0 w_ z_ slots old, kx_a t_k cyI 160 o_4, kx_0 q_row q_cell len, kx_a q_cell cyI 160 f, kx_1 t_ t_k t_o o_9 o_10, kx_a t_o cyI 160 o_11] _ := hP.sub [0, 4, 1, 2, 3, 5] rfl
                have hD : va_D A [kx_4 m_ q_row q_t t_ h0 k0 w_ z_ slots old, kx_a t_k cyI 160 o_4, kx_0 q_row q_cell len, kx_a q_cell cyI 160 f, kx_1 t_ t_k t_o o_9 o_10, kx_a t_o cyI 160 o_11] := hD.sub [0, 4, 1, 2, 3, 5] (by decide) rfl
                have n_16 := ki_nat x_15 rfl (by omega)
                have hmi := mj_tl_hm w_8.1 (by omega)
                exact ih1 x_15 y_14 o_9 o_10 o_11 (by omega) (by omega) (by rw [show x_15.toNatClampNeg - p0.toNatClampNeg = i.toNatClampNeg - p0.toNatClampNeg + 1 by omega]; exact w_8.1) (by omega) (mj_lst_yes (hi := i.toNatClampNeg) (by omega) (by omega) (by (try dsimp only); rw [show x_15.toNatClampNeg - p0.toNatClampNeg = i.toNatClampNeg - p0.toNatClampNeg + 1 by omega]; exact hmi.mp (by omega)) (by omega)) (by omega) (by omega) (by omega) _ _ hP hD hS ls (lv_sub hl [0, 1, 2, 3] rfl)
            · have w_12 : 2 * o_10.toInt ≤ o_9.toInt := w_12
              refine lv_if_eq (tgt := 68) hx hb dX4_reach_61 (by decide) (fun c_17 => ?_) (fun c_17 => ?_)
              · obtain ⟨x_18, ex_18⟩ : ∃ y : Int32, y = i + 1 := ⟨_, rfl⟩
                have i_18 : x_18.toInt = i.toInt + 1 := ki_add ex_18 rfl rfl (by omega) (by omega)
                refine lv_iinc (v := x_18) (lv' := [(3, .int x_18), (2, .int far), (0, .ref m_), (1, .int p0)]) hx hb dX4_reach_68 hl (k := 0) rfl (by rw [ex_18]; rfl) (by decide) rfl (fun ls hl => ?_)
                refine lv_goto (tgt := 35) hx hb dX4_reach_71 (by decide) ?_
                have hP : va_P (dC, dI) vwCl [kx_4 m_ q_row q_t t_ h0 k0 w_ z_ slots old, kx_a t_k cyI 160 o_4, kx_0 q_row q_cell len, kx_a q_cell cyI 160 f, kx_1 t_ t_k t_o o_9 o_10, kx_a t_o cyI 160 o_11] _ := hP.sub [0, 4, 1, 2, 3, 5] rfl
                have hD : va_D A [kx_4 m_ q_row q_t t_ h0 k0 w_ z_ slots old, kx_a t_k cyI 160 o_4, kx_0 q_row q_cell len, kx_a q_cell cyI 160 f, kx_1 t_ t_k t_o o_9 o_10, kx_a t_o cyI 160 o_11] := hD.sub [0, 4, 1, 2, 3, 5] (by decide) rfl
                have n_19 := ki_nat x_18 rfl (by omega)
                have hmi := mj_tl_hm w_8.1 (by omega)
                exact ih1 x_18 far o_9 o_10 o_11 (by omega) (by omega) (by rw [show x_18.toNatClampNeg - p0.toNatClampNeg = i.toNatClampNeg - p0.toNatClampNeg + 1 by omega]; exact w_8.1) (by omega) (mj_lst_no LP1_h4 (by omega) (by (try dsimp only); rw [show x_18.toNatClampNeg - p0.toNatClampNeg = i.toNatClampNeg - p0.toNatClampNeg + 1 by omega]; exact fun h => by have := hmi.mpr h; omega)) (by omega) (by omega) (by omega) _ _ hP hD hS ls (lv_sub hl [0, 1, 2, 3] rfl)
              · exact absurd c_17 (by decide)
      have k_20 : ((-1) : Int32).toInt = -1 := rfl
      have k_21 : (0 : Int32).toInt = 0 := rfl
      have k_22 : (0 : Int32).toInt = 0 := rfl
      exact LP1 ((len.toInt - p0.toInt : Int).toNat + 1) p0 (-1) 0 0 o_6 (by omega) (by omega) (mj_tl_0 _ _ _ _ (by omega) (fun k hk => w_5 _ (by have := w_3.2 k hk; have := ki_nat _ rfl this.1; omega))) (by omega) (Or.inr ⟨rfl, fun k h1 h2 => by omega⟩) (by omega) (by omega) (Nat.lt_succ_self _) _ _ hP hD hS ls (lv_sub hl [0, 1, 2, 3] rfl)
    · exact absurd c_2 (by decide)
  · have w_1 : (p0.toInt < 0 ∨ len.toInt ≤ p0.toInt) := w_1
    refine lv_if_ne (tgt := 13) hx hb dX4_reach_8 (by decide) (fun c_23 => ?_) (fun c_23 => ?_)
    · exact absurd c_23 (by decide)
    · refine lv_iconst (v := (-1)) hx hb dX4_reach_11 (by decide) ?_
      have hP9 := hP
      have hD9 := hD
      have hK9 := hK
      exact W.iret (v := (-1)) hx hb hr (fun t ht hW => ⟨⟨(-1), (tk, mo, fk, fq), rfl, (Or.inr ⟨(by (try dsimp only); omega), rfl⟩), by rw [ht]; exact hP9, va_K.moved hW.alike hK9, hD9⟩, hS.F ht⟩) hS.2.2 dX4_reach_12

set_option maxHeartbeats 4000000 in
set_option maxRecDepth 100000 in
theorem c_X5_reach_x (l : Launch) (dC : Nat → ClassId) (dI : Nat → Nat → Nat) (h0 : Nat) (g_row : Nat) (g_many : Nat) (g_loss : Nat) (g_less : Nat) (g_voteValue : Nat) (g_voteNumber : Nat) (g_allValue : Nat) (g_allNumber : Nat) (g_nodeL : Nat) (g_nodeR : Nat) (g_part : Nat) (g_wasMany : Nat) (g_wasLoss : Nat) (g_wasValue : Nat) (g_wasNumber : Nat) (g_path : Nat) (g_heavyValue : Nat) (g_heavyTimes : Nat) (g_fewest : Nat) (g_which : Nat) (g_met : Nat) (m_n : Int32) (m_slots : Int32) (m_thrown : Int32) (m_allMany : Int32) (m_nodes : Int32) (m_partMany : Int32) (m_pathMany : Int32) (m_heavyMany : Int32) (m_mostMet : Int32) (cyI : ClassId) (f : Nat → Int32) (p0 : Int32) (sz : Nat) (a0 : 0 ≤ m_n.toInt) (a1 : m_n.toInt ≤ 160) (s1 : shorts f) : Met l yX5_reach wsX5_reach ({ frames := 2, cells := 0, slots := 0, locals := 90 }) (va_Pc [.ref h0, .int p0] (fun U => U.heap.size = sz ∧ va_P (dC, dI) vwCl [kx_5 h0 g_row m_n m_slots m_thrown g_many g_loss g_less g_voteValue g_voteNumber g_allValue g_allNumber m_allMany g_nodeL g_nodeR m_nodes g_part m_partMany g_wasMany g_wasLoss g_wasValue g_wasNumber g_path m_pathMany g_heavyValue g_heavyTimes m_heavyMany g_fewest g_which g_met m_mostMet, kx_a g_row cyI 160 f] U.heap ∧ va_K (dC, dI) vwCl [(cyI, .int)] U ∧ va_D (fun _ => True) [kx_5 h0 g_row m_n m_slots m_thrown g_many g_loss g_less g_voteValue g_voteNumber g_allValue g_allNumber m_allMany g_nodeL g_nodeR m_nodes g_part m_partMany g_wasMany g_wasLoss g_wasValue g_wasNumber g_path m_pathMany g_heavyValue g_heavyTimes m_heavyMany g_fewest g_which g_met m_mostMet, kx_a g_row cyI 160 f])) (va_Qi (fun (r : Int32) (_ : Unit) => ((0 ≤ p0.toInt ∧ p0.toInt < m_n.toInt) ∧ mj_lst (fun m => mj_hm f p0.toNatClampNeg (m - p0.toNatClampNeg)) p0.toNatClampNeg m_n.toNatClampNeg r.toInt) ∨ ((p0.toInt < 0 ∨ m_n.toInt ≤ p0.toInt) ∧ r = -1)) (fun (_ : Unit) (t : State) => va_P (dC, dI) vwCl [kx_5 h0 g_row m_n m_slots 0 g_many g_loss g_less g_voteValue g_voteNumber g_allValue g_allNumber m_allMany g_nodeL g_nodeR m_nodes g_part m_partMany g_wasMany g_wasLoss g_wasValue g_wasNumber g_path m_pathMany g_heavyValue g_heavyTimes m_heavyMany g_fewest g_which g_met m_mostMet, kx_a g_row cyI 160 f] t.heap ∧ va_K (dC, dI) vwCl [(cyI, .int)] t ∧ va_D (va_A [kx_5 h0 g_row m_n m_slots m_thrown g_many g_loss g_less g_voteValue g_voteNumber g_allValue g_allNumber m_allMany g_nodeL g_nodeR m_nodes g_part m_partMany g_wasMany g_wasLoss g_wasValue g_wasNumber g_path m_pathMany g_heavyValue g_heavyTimes m_heavyMany g_fewest g_which g_met m_mostMet, kx_a g_row cyI 160 f] sz) [kx_5 h0 g_row m_n m_slots 0 g_many g_loss g_less g_voteValue g_voteNumber g_allValue g_allNumber m_allMany g_nodeL g_nodeR m_nodes g_part m_partMany g_wasMany g_wasLoss g_wasValue g_wasNumber g_path m_pathMany g_heavyValue g_heavyTimes m_heavyMany g_fewest g_which g_met m_mostMet, kx_a g_row cyI 160 f]) (va_A [kx_5 h0 g_row m_n m_slots m_thrown g_many g_loss g_less g_voteValue g_voteNumber g_allValue g_allNumber m_allMany g_nodeL g_nodeR m_nodes g_part m_partMany g_wasMany g_wasLoss g_wasValue g_wasNumber g_path m_pathMany g_heavyValue g_heavyTimes m_heavyMany g_fewest g_which g_met m_mostMet, kx_a g_row cyI 160 f] sz)) 0 0 (va_A [kx_5 h0 g_row m_n m_slots m_thrown g_many g_loss g_less g_voteValue g_voteNumber g_allValue g_allNumber m_allMany g_nodeL g_nodeR m_nodes g_part m_partMany g_wasMany g_wasLoss g_wasValue g_wasNumber g_path m_pathMany g_heavyValue g_heavyTimes m_heavyMany g_fewest g_which g_met m_mostMet, kx_a g_row cyI 160 f] sz) := by
  refine Met.ofW (cc := cX5_reach) (maxL := 3) (ret := (some .int)) (by decide) rfl ?_
  intro p e s m args below meth c s₁ B hml hv
  obtain ⟨rfl, hsz, hP, hK, hD0⟩ := hv
  have hx := B.exec
  have hb := B.bytes
  have hr := B.returns
  have hts := atoms_spec (ws := wsX5_reach) B.pre
  have hown : s.vm.findClass RX5 = some m.cls := findClass_of_methodNamed B.named
  have hlocks := B.notSynchronized
  subst hsz
  have hD := hD0.self (sz := s.heap.size)
  generalize hAe : va_A [kx_5 h0 g_row m_n m_slots m_thrown g_many g_loss g_less g_voteValue g_voteNumber g_allValue g_allNumber m_allMany g_nodeL g_nodeR m_nodes g_part m_partMany g_wasMany g_wasLoss g_wasValue g_wasNumber g_path m_pathMany g_heavyValue g_heavyTimes m_heavyMany g_fewest g_which g_met m_mostMet, kx_a g_row cyI 160 f] s.heap.size = A at hD ⊢
  have hA : ∀ q : Nat, s.heap.size ≤ q → A q := fun q h => by rw [← hAe]; exact Or.inr h
  have hS : va_S A s.heap s.heap [] := va_S.rf
  have hP : va_P (dC, dI) vwCl [kx_5 h0 g_row m_n m_slots m_thrown g_many g_loss g_less g_voteValue g_voteNumber g_allValue g_allNumber m_allMany g_nodeL g_nodeR m_nodes g_part m_partMany g_wasMany g_wasLoss g_wasValue g_wasNumber g_path m_pathMany g_heavyValue g_heavyTimes m_heavyMany g_fewest g_which g_met m_mostMet, kx_a g_row cyI 160 f] s.heap := hP
  have hl := lv_entry ([.ref h0, .int p0]) (n := 3) (Nat.le_of_ble_eq_true rfl)
  rw [lg_entry_eq]
  generalize (lg_sl ([.ref h0, .int p0]) ++ List.replicate (3 - (lg_sl ([.ref h0, .int p0])).length) Slot.unset).toArray = ls at hl ⊢
  have hl : lv_has ls 3 [(0, .ref h0), (1, .int p0)] := hl
  have hf_77 := hts (.fieldLink RX5 77 "MajorityIndexModel" "thrown" "I") (List.mem_of_getElem? (i := 1) rfl)
  have hi_5 : ∀ w ∈ u_ws RX5 TX5 30, w ∈ wsX5_reach := fun w h => List.mem_cons_of_mem _ (List.mem_append_right _ h)
  have hf_84 := hts (.fieldLink RX5 84 "MajorityIndexModel" "n" "I") (List.mem_of_getElem? (i := 2) rfl)
  have hk_148 := hts (.constant RX5 148 (-40000)) (List.mem_of_getElem? (i := 3) rfl)
  refine lv_aload_n hx hb dX5_reach_0 rfl (lv_at hl 0 rfl) ?_
  refine lv_iconst (v := 0) hx hb dX5_reach_1 (by decide) ?_
  refine va_put (D := (dC, dI)) (ci := 5) (v := .int 0) (ty := .int) (C := RX5) (T := TX5) (N := 30) hx hb hts hi_5 tyX5 tyX5_ok nmX5 hown hK hP hD hS 0 rfl rfl 3 (by decide) hf_77 (fun _ h9 => h9) rfl (by decide +kernel) rfl rfl (Nat.le_of_ble_eq_true rfl) dX5_reach_2 (fun H locs hP hD hS => ?_)
  have hP : va_P (dC, dI) vwCl [kx_5 h0 g_row m_n m_slots 0 g_many g_loss g_less g_voteValue g_voteNumber g_allValue g_allNumber m_allMany g_nodeL g_nodeR m_nodes g_part m_partMany g_wasMany g_wasLoss g_wasValue g_wasNumber g_path m_pathMany g_heavyValue g_heavyTimes m_heavyMany g_fewest g_which g_met m_mostMet, kx_a g_row cyI 160 f] H := hP
  have hD : va_D A [kx_5 h0 g_row m_n m_slots 0 g_many g_loss g_less g_voteValue g_voteNumber g_allValue g_allNumber m_allMany g_nodeL g_nodeR m_nodes g_part m_partMany g_wasMany g_wasLoss g_wasValue g_wasNumber g_path m_pathMany g_heavyValue g_heavyTimes m_heavyMany g_fewest g_which g_met m_mostMet, kx_a g_row cyI 160 f] := hD
  refine lv_aload_n hx hb dX5_reach_5 rfl (lv_at hl 0 rfl) ?_
  refine lv_iload_n hx hb dX5_reach_6 rfl (lv_at hl 1 rfl) ?_
  have hPc := hP.sub (ws' := [kx_5 h0 g_row m_n m_slots 0 g_many g_loss g_less g_voteValue g_voteNumber g_allValue g_allNumber m_allMany g_nodeL g_nodeR m_nodes g_part m_partMany g_wasMany g_wasLoss g_wasValue g_wasNumber g_path m_pathMany g_heavyValue g_heavyTimes m_heavyMany g_fewest g_which g_met m_mostMet]) [0] rfl
  have hKc := hK.sub (tys' := []) [] rfl
  refine vp_callSi (W.runV (As := [.int p0]) (rest := []) ⟨hx, hb, hml, hown, hts⟩ (c_X5_isPlace l dC dI h0 g_row g_many g_loss g_less g_voteValue g_voteNumber g_allValue g_allNumber g_nodeL g_nodeR g_part g_wasMany g_wasLoss g_wasValue g_wasNumber g_path g_heavyValue g_heavyTimes g_fewest g_which g_met m_n m_slots 0 m_allMany m_nodes m_partMany m_pathMany m_heavyMany m_mostMet p0 a0 a1) (cwV 1 hts gX5_reach_X5_isPlace rfl rfl rfl (by decide +kernel) ⟨Nat.le_of_ble_eq_true rfl, Nat.le_of_ble_eq_true rfl⟩) ⟨fun a U g mk q => by obtain ⟨q0, qP, qK⟩ := q; exact ⟨q0, qP, va_K.moved (u := U) (U := U.calling g mk a) (Vm.Alike.refl U.vm) qK⟩, va_recv hKc hPc (ci := 5) (q0 := 0) rfl rfl, fun U hU hW => ⟨rfl, by rw [hU]; exact hPc, va_K.moved hW.alike hKc⟩⟩ rfl rfl hl.1 rfl (lv_room (Nat.le_of_ble_eq_true rfl)) dX5_reach_7 ⟨Nat.le_of_ble_eq_true rfl, Nat.le_of_ble_eq_true rfl⟩) (fun r_1 w_1 => ?_)
  rcases w_1 with ⟨rfl, w_1⟩ | ⟨rfl, w_1⟩
  · have w_1 : (0 ≤ p0.toInt ∧ p0.toInt < m_n.toInt) := w_1
    refine lv_if_ne (tgt := 15) hx hb dX5_reach_10 (by decide) (fun c_2 => ?_) (fun c_2 => ?_)
    · have n_p0 := ki_nat p0 rfl (by omega)
      have n_l := ki_nat m_n rfl (by omega)
      refine lv_aload_n hx hb dX5_reach_15 rfl (lv_at hl 0 rfl) ?_
      refine va_get (D := (dC, dI)) (ci := 5) (v := .int m_n) (C := RX5) (T := TX5) (N := 30) hx hb hts hi_5 hown hK hP 0 rfl rfl 1 (by decide) hf_84 (fun _ h9 => h9) rfl dX5_reach_16 ?_
      refine lv_istore_n (lv' := [(2, .int m_n), (0, .ref h0), (1, .int p0)]) hx hb dX5_reach_19 rfl hl (by decide) rfl (fun ls hl => ?_)
      have LP1 : ∀ (n : Nat) (rr : Int32), (p0.toInt < rr.toInt) → (rr.toInt ≤ m_n.toInt) → (∀ k : Nat, rr.toNatClampNeg < k → k ≤ m_n.toNatClampNeg → ¬ mj_hm f p0.toNatClampNeg (k - p0.toNatClampNeg)) → (rr.toInt).toNat < n → ∀ (H : Heap) (locs : List Loc), va_P (dC, dI) vwCl [kx_5 h0 g_row m_n m_slots 0 g_many g_loss g_less g_voteValue g_voteNumber g_allValue g_allNumber m_allMany g_nodeL g_nodeR m_nodes g_part m_partMany g_wasMany g_wasLoss g_wasValue g_wasNumber g_path m_pathMany g_heavyValue g_heavyTimes m_heavyMany g_fewest g_which g_met m_mostMet, kx_a g_row cyI 160 f] H → va_D A [kx_5 h0 g_row m_n m_slots 0 g_many g_loss g_less g_voteValue g_voteNumber g_allValue g_allNumber m_allMany g_nodeL g_nodeR m_nodes g_part m_partMany g_wasMany g_wasLoss g_wasValue g_wasNumber g_path m_pathMany g_heavyValue g_heavyTimes m_heavyMany g_fewest g_which g_met m_mostMet, kx_a g_row cyI 160 f] → va_S A s.heap H locs → ∀ (ls : Array Slot), lv_has ls 3 [(2, .int rr), (0, .ref h0), (1, .int p0)] → W p l e (headSpec wsX5_reach ({ frames := 2, cells := 0, slots := 0, locals := 90 })).room s m ([.ref h0, .int p0] : List Value).toArray below meth c H locs 0 0 (MQ below (va_Qi (fun (r : Int32) (_ : Unit) => ((0 ≤ p0.toInt ∧ p0.toInt < m_n.toInt) ∧ mj_lst (fun m => mj_hm f p0.toNatClampNeg (m - p0.toNatClampNeg)) p0.toNatClampNeg m_n.toNatClampNeg r.toInt) ∨ ((p0.toInt < 0 ∨ m_n.toInt ≤ p0.toInt) ∧ r = -1)) (fun (_ : Unit) (t : State) => va_P (dC, dI) vwCl [kx_5 h0 g_row m_n m_slots 0 g_many g_loss g_less g_voteValue g_voteNumber g_allValue g_allNumber m_allMany g_nodeL g_nodeR m_nodes g_part m_partMany g_wasMany g_wasLoss g_wasValue g_wasNumber g_path m_pathMany g_heavyValue g_heavyTimes m_heavyMany g_fewest g_which g_met m_mostMet, kx_a g_row cyI 160 f] t.heap ∧ va_K (dC, dI) vwCl [(cyI, .int)] t ∧ va_D A [kx_5 h0 g_row m_n m_slots 0 g_many g_loss g_less g_voteValue g_voteNumber g_allValue g_allNumber m_allMany g_nodeL g_nodeR m_nodes g_part m_partMany g_wasMany g_wasLoss g_wasValue g_wasNumber g_path m_pathMany g_heavyValue g_heavyTimes m_heavyMany g_fewest g_which g_met m_mostMet, kx_a g_row cyI 160 f]) A) ([.ref h0, .int p0] : List Value).toArray s 0 0 A) (F0 m 20 ls []) := by
        intro n
        induction n with
        | zero => intro rr LP1_h0 LP1_h1 LP1_h2 hn; exact absurd hn (Nat.not_lt_zero _)
        | succ n ih1 =>
          intro rr LP1_h0 LP1_h1 LP1_h2 hn1 H locs hP hD hS ls hl
          have n_rr := ki_nat rr rfl (by omega)
          refine lv_aload_n hx hb dX5_reach_20 rfl (lv_at hl 1 rfl) ?_
          refine lv_iload_n hx hb dX5_reach_21 rfl (lv_at hl 2 rfl) ?_
          refine lv_iload_n hx hb dX5_reach_22 rfl (lv_at hl 0 rfl) ?_
          have hPc := hP
          have hKc := hK
          refine vp_callSi (W.runV (As := [.int p0, .int rr]) (rest := []) ⟨hx, hb, hml, hown, hts⟩ (c_X5_majorityOf_x l dC dI h0 g_row g_many g_loss g_less g_voteValue g_voteNumber g_allValue g_allNumber g_nodeL g_nodeR g_part g_wasMany g_wasLoss g_wasValue g_wasNumber g_path g_heavyValue g_heavyTimes g_fewest g_which g_met m_n m_slots 0 m_allMany m_nodes m_partMany m_pathMany m_heavyMany m_mostMet cyI f p0 rr (by omega) (by omega) LP1_h0) (cwV 2 hts gX5_reach_X5_majorityOf rfl rfl rfl (by decide +kernel) ⟨Nat.le_of_ble_eq_true rfl, Nat.le_of_ble_eq_true rfl⟩) ⟨fun a U g mk q => by obtain ⟨q0, qP, qK⟩ := q; exact ⟨q0, qP, va_K.moved (u := U) (U := U.calling g mk a) (Vm.Alike.refl U.vm) qK⟩, va_recv hKc hPc (ci := 5) (q0 := 0) rfl rfl, fun U hU hW => ⟨rfl, by rw [hU]; exact hPc, va_K.moved hW.alike hKc⟩⟩ rfl rfl hl.1 rfl (lv_room (Nat.le_of_ble_eq_true rfl)) dX5_reach_23 ⟨Nat.le_of_ble_eq_true rfl, Nat.le_of_ble_eq_true rfl⟩) (fun r_3 w_3 => ?_)
          have w_3 : mj_maj f p0.toNatClampNeg rr.toNatClampNeg r_3 := w_3
          refine lv_ldc (v := (-40000)) hx hb hown hk_148 dX5_reach_26 ?_
          refine lv_icmp_ne (tgt := 37) hx hb dX5_reach_28 (by decide) (fun c_4 => ?_) (fun c_4 => ?_)
          · have i_4 : ¬ r_3.toInt = (-40000) := kc_ne c_4
            refine lv_iload_n hx hb dX5_reach_37 rfl (lv_at hl 0 rfl) ?_
            have hP9 := hP
            have hD9 := hD
            have hK9 := hK
            have hmi := mj_maj_hm w_3 s1 (by omega) (by omega)
            exact W.iret (v := rr) hx hb hr (fun t ht hW => ⟨⟨rr, (), rfl, (Or.inl ⟨(by (try dsimp only); omega), Or.inl ⟨rr.toNatClampNeg, (by omega), (by omega), hmi.mp c_4, (by (try dsimp only); omega), LP1_h2⟩⟩), by rw [ht]; exact hP9, va_K.moved hW.alike hK9, hD9⟩, hS.F ht⟩) hS.2.2 dX5_reach_38
          · have i_4 : r_3.toInt = (-40000) := kc_eq c_4
            have hne := mj_maj_one w_3 s1 (by omega) c_4
            obtain ⟨x_5, ex_5⟩ : ∃ y : Int32, y = rr + (-1) := ⟨_, rfl⟩
            have i_5 : x_5.toInt = rr.toInt + (-1) := ki_add ex_5 rfl rfl (by omega) (by omega)
            refine lv_iinc (v := x_5) (lv' := [(2, .int x_5), (0, .ref h0), (1, .int p0)]) hx hb dX5_reach_31 hl (k := 0) rfl (by rw [ex_5]; rfl) (by decide) rfl (fun ls hl => ?_)
            refine lv_goto (tgt := 20) hx hb dX5_reach_34 (by decide) ?_
            have n_6 := ki_nat x_5 rfl (by omega)
            have hmi := mj_maj_hm w_3 s1 (by omega) (by omega)
            exact ih1 x_5 (by omega) (by omega) (fun k h1 h2 => if h9 : rr.toNatClampNeg < k then LP1_h2 k h9 h2 else (by rw [show k = rr.toNatClampNeg by omega]; exact fun h => hmi.mpr h c_4)) (by omega) _ _ hP hD hS ls (lv_sub hl [0, 1, 2] rfl)
      exact LP1 ((m_n.toInt : Int).toNat + 1) m_n (by omega) (by omega) (fun k h1 h2 => absurd h1 (by omega)) (Nat.lt_succ_self _) _ _ hP hD hS ls (lv_sub hl [0, 1, 2] rfl)
    · exact absurd c_2 (by decide)
  · have w_1 : (p0.toInt < 0 ∨ m_n.toInt ≤ p0.toInt) := w_1
    refine lv_if_ne (tgt := 15) hx hb dX5_reach_10 (by decide) (fun c_7 => ?_) (fun c_7 => ?_)
    · exact absurd c_7 (by decide)
    · refine lv_iconst (v := (-1)) hx hb dX5_reach_13 (by decide) ?_
      have hP9 := hP
      have hD9 := hD
      have hK9 := hK
      exact W.iret (v := (-1)) hx hb hr (fun t ht hW => ⟨⟨(-1), (), rfl, (Or.inr ⟨(by (try dsimp only); omega), rfl⟩), by rw [ht]; exact hP9, va_K.moved hW.alike hK9, hD9⟩, hS.F ht⟩) hS.2.2 dX5_reach_14


