set_option maxHeartbeats 4000000 in
set_option maxRecDepth 100000 in
theorem c_X1_take_o (l : Launch) (dC : Nat → ClassId) (dI : Nat → Nat → Nat) (t_ : Nat) (t_k : Nat) (t_o : Nat) (cyI : ClassId) (tk : Int32) (mo : Int32) (fk : Nat → Int32) (fq : Nat → Int32) (f : Nat → Int32) (n9 : Nat) (l9 : Nat) (m9 : Nat) (p0 : Int32) (sz : Nat) (k0 : mj_kd f fk n9) (to : mj_to f (fun k => (fk k).toNatClampNeg) fq n9 l9 m9) (b0 : 0 ≤ p0.toInt) (b1 : p0.toNatClampNeg = l9 + m9) (b2 : p0.toNatClampNeg < n9) (b3 : n9 ≤ 160) : kx_MQ l (dC, dI) yX1_take wsX1_take ({ frames := 0, cells := 0, slots := 0, locals := 0 }) [.ref t_, .int p0] [kx_1 t_ t_k t_o tk mo, kx_a t_k cyI 160 fk, kx_a t_o cyI 160 fq] [(cyI, .int)] sz (fun A => va_Qv (fun u : Int32 × Int32 × (Nat → Int32) => mj_to f (fun k => (fk k).toNatClampNeg) u.2.2 n9 l9 (m9 + 1)) (fun (u : Int32 × Int32 × (Nat → Int32)) (t : State) => va_P (dC, dI) vwCl [kx_1 t_ t_k t_o u.1 u.2.1, kx_a t_k cyI 160 fk, kx_a t_o cyI 160 u.2.2] t.heap ∧ va_K (dC, dI) vwCl [(cyI, .int)] t ∧ va_D A [kx_1 t_ t_k t_o u.1 u.2.1, kx_a t_k cyI 160 fk, kx_a t_o cyI 160 u.2.2]) A) := by
  refine kx_stQ (ws := wsX1_take) (cc := cX1_take) (maxL := 3) (ret := none) (by decide) rfl (Nat.le_of_ble_eq_true rfl) ?_
  intro p e s m below meth c A ls hx hb hr hlocks hts hown hml hA hS hP hK hD hl
  have hown : s.vm.findClass RX1 = some m.cls := hown
  have hl : lv_has ls 3 [(0, .ref t_), (1, .int p0)] := hl
  have hf_15 := hts (.fieldLink RX1 15 "MajorityIndex$Tally" "often" "[I") (List.mem_of_getElem? (i := 1) rfl)
  have hi_1 : ∀ w ∈ u_ws RX1 TX1 4, w ∈ wsX1_take := fun w h => List.mem_cons_of_mem _ (List.mem_append_right _ h)
  have hf_9 := hts (.fieldLink RX1 9 "MajorityIndex$Tally" "kind" "[I") (List.mem_of_getElem? (i := 2) rfl)
  have hf_34 := hts (.fieldLink RX1 34 "MajorityIndex$Tally" "taken" "I") (List.mem_of_getElem? (i := 3) rfl)
  have hf_37 := hts (.fieldLink RX1 37 "MajorityIndex$Tally" "most" "I") (List.mem_of_getElem? (i := 4) rfl)
  have n_p0 := ki_nat p0 rfl (om_10 b0)
  refine lv_aload_n hx hb dX1_take_0 rfl (lv_at hl 0 rfl) ?_
  refine va_get (D := (dC, dI)) (ci := 1) (v := .ref t_o) (C := RX1) (T := TX1) (N := 4) hx hb hts hi_1 hown hK hP 0 rfl rfl 1 (by decide) hf_15 (fun _ h9 => h9) rfl dX1_take_1 ?_
  refine lv_aload_n hx hb dX1_take_4 rfl (lv_at hl 0 rfl) ?_
  refine va_get (D := (dC, dI)) (ci := 1) (v := .ref t_k) (C := RX1) (T := TX1) (N := 4) hx hb hts hi_1 hown hK hP 0 rfl rfl 0 (by decide) hf_9 (fun _ h9 => h9) rfl dX1_take_5 ?_
  refine lv_iload_n hx hb dX1_take_8 rfl (lv_at hl 1 rfl) ?_
  refine va_iald hx hb hK hP 1 0 rfl rfl (ki_in (om_10 b0) (by omega)) dX1_take_9 ?_
  refine lv_topi (fun y_1 ey_1 => ?_)
  have j_1 : y_1.toInt = (fk p0.toNatClampNeg).toInt := congrArg Int32.toInt ey_1
  have q_9 : y_1 = fk p0.toNatClampNeg := ey_1
  have o_9 := mj_kd_id k0 p0.toNatClampNeg b2
  have i_9 := k0 p0.toNatClampNeg b2
  have i_99 : 0 ≤ y_1.toInt ∧ y_1.toInt ≤ p0.toInt := by rw [q_9]; omega
  refine va_iald hx hb hK hP 2 0 rfl rfl (ki_in (by omega) (by omega)) dX1_take_10 ?_
  refine lv_topi (fun y_2 ey_2 => ?_)
  have j_2 : y_2.toInt = (fq y_1.toNatClampNeg).toInt := congrArg Int32.toInt ey_2
  have q_10 : y_2.toInt = (fq (fk p0.toNatClampNeg).toNatClampNeg).toInt := by rw [ey_2, q_9]
  have q_11 := to.1 p0.toNatClampNeg b2
  dsimp only at q_11
  have q_le := cnt_le f (f p0.toNatClampNeg) l9 m9
  refine lv_iconst (v := 1) hx hb dX1_take_11 (by decide) ?_
  refine lv_iadd hx hb dX1_take_12 ?_
  refine lv_topi (fun y_3 ey_3 => ?_)
  have i_3 : y_3.toInt = y_2.toInt + 1 := ki_add ey_3 rfl rfl (by omega) (by omega)
  refine lv_istore_n (lv' := [(2, .int y_3), (0, .ref t_), (1, .int p0)]) hx hb dX1_take_13 rfl hl (by decide) rfl (fun ls hl => ?_)
  refine lv_aload_n hx hb dX1_take_14 rfl (lv_at hl 1 rfl) ?_
  refine va_get (D := (dC, dI)) (ci := 1) (v := .ref t_o) (C := RX1) (T := TX1) (N := 4) hx hb hts hi_1 hown hK hP 0 rfl rfl 1 (by decide) hf_15 (fun _ h9 => h9) rfl dX1_take_15 ?_
  refine lv_aload_n hx hb dX1_take_18 rfl (lv_at hl 1 rfl) ?_
  refine va_get (D := (dC, dI)) (ci := 1) (v := .ref t_k) (C := RX1) (T := TX1) (N := 4) hx hb hts hi_1 hown hK hP 0 rfl rfl 0 (by decide) hf_9 (fun _ h9 => h9) rfl dX1_take_19 ?_
  refine lv_iload_n hx hb dX1_take_22 rfl (lv_at hl 2 rfl) ?_
  refine va_iald hx hb hK hP 1 0 rfl rfl (ki_in (om_10 b0) (by omega)) dX1_take_23 ?_
  refine lv_topi (fun y_4 ey_4 => ?_)
  have j_4 : y_4.toInt = (fk p0.toNatClampNeg).toInt := congrArg Int32.toInt ey_4
  have i_23 : 0 ≤ y_4.toInt ∧ y_4.toInt ≤ p0.toInt := by rw [ey_4]; omega
  refine lv_iload_n hx hb dX1_take_24 rfl (lv_at hl 0 rfl) ?_
  refine va_iast hx hb hK hP hD hS 2 0 rfl rfl (ki_in (by omega) (by omega)) dX1_take_25 (fun H locs hP hD hS => ?_)
  obtain ⟨hP, hD⟩ := kx_re (w2 := [kx_1 t_ t_k t_o tk mo, kx_a t_k cyI 160 fk, kx_a t_o cyI 160 (upd fq y_4.toNatClampNeg y_3)]) hP hD rfl
  refine lv_aload_n hx hb dX1_take_26 rfl (lv_at hl 1 rfl) ?_
  refine lv_dup hx hb dX1_take_27 rfl ?_
  refine va_get (D := (dC, dI)) (ci := 1) (v := .int tk) (C := RX1) (T := TX1) (N := 4) hx hb hts hi_1 hown hK hP 0 rfl rfl 2 (by decide) hf_34 (fun _ h9 => h9) rfl dX1_take_28 ?_
  refine lv_iconst (v := 1) hx hb dX1_take_31 (by decide) ?_
  refine lv_iadd hx hb dX1_take_32 ?_
  refine lv_topi (fun y_5 ey_5 => ?_)
  refine va_put (D := (dC, dI)) (ci := 1) (v := .int y_5) (ty := .int) (C := RX1) (T := TX1) (N := 4) hx hb hts hi_1 tyX1 tyX1_ok nmX1 hown hK hP hD hS 0 rfl rfl 2 (by decide) hf_34 (fun _ h9 => h9) rfl (by decide +kernel) rfl rfl (Nat.le_of_ble_eq_true rfl) dX1_take_33 (fun H locs hP hD hS => ?_)
  obtain ⟨hP, hD⟩ := kx_re (w2 := [kx_1 t_ t_k t_o y_5 mo, kx_a t_k cyI 160 fk, kx_a t_o cyI 160 (upd fq y_4.toNatClampNeg y_3)]) hP hD rfl
  refine lv_iload_n hx hb dX1_take_36 rfl (lv_at hl 0 rfl) ?_
  refine lv_aload_n hx hb dX1_take_37 rfl (lv_at hl 1 rfl) ?_
  refine va_get (D := (dC, dI)) (ci := 1) (v := .int mo) (C := RX1) (T := TX1) (N := 4) hx hb hts hi_1 hown hK hP 0 rfl rfl 3 (by decide) hf_37 (fun _ h9 => h9) rfl dX1_take_38 ?_
  refine lv_icmp_le (tgt := 49) hx hb dX1_take_41 (by decide) (fun c_6 => ?_) (fun c_6 => ?_)
  · have i_6 : y_3.toInt ≤ mo.toInt := kc_le c_6
    have hP9 := hP
    have hD9 := hD
    have hK9 := hK
    exact W.vret hx hb hr (hlocks := hlocks) (fun t ht hW => ⟨⟨(y_5, mo, (upd fq y_4.toNatClampNeg y_3)), rfl, (by (try dsimp only); rw [ey_4]; exact mj_to_take k0 to b1 b2 rfl (by omega)), by rw [ht]; exact hP9, va_K.moved hW.alike hK9, hD9⟩, hS.F ht⟩) hS.2.2 dX1_take_49
  · have i_6 : mo.toInt < y_3.toInt := kc_nle c_6
    refine lv_aload_n hx hb dX1_take_44 rfl (lv_at hl 1 rfl) ?_
    refine lv_iload_n hx hb dX1_take_45 rfl (lv_at hl 0 rfl) ?_
    refine va_put (D := (dC, dI)) (ci := 1) (v := .int y_3) (ty := .int) (C := RX1) (T := TX1) (N := 4) hx hb hts hi_1 tyX1 tyX1_ok nmX1 hown hK hP hD hS 0 rfl rfl 3 (by decide) hf_37 (fun _ h9 => h9) rfl (by decide +kernel) rfl rfl (Nat.le_of_ble_eq_true rfl) dX1_take_46 (fun H locs hP hD hS => ?_)
    obtain ⟨hP, hD⟩ := kx_re (w2 := [kx_1 t_ t_k t_o y_5 y_3, kx_a t_k cyI 160 fk, kx_a t_o cyI 160 (upd fq y_4.toNatClampNeg y_3)]) hP hD rfl
    have hP9 := hP
    have hD9 := hD
    have hK9 := hK
    exact W.vret hx hb hr (hlocks := hlocks) (fun t ht hW => ⟨⟨(y_5, y_3, (upd fq y_4.toNatClampNeg y_3)), rfl, (by (try dsimp only); rw [ey_4]; exact mj_to_take k0 to b1 b2 rfl (by omega)), by rw [ht]; exact hP9, va_K.moved hW.alike hK9, hD9⟩, hS.F ht⟩) hS.2.2 dX1_take_49

set_option maxHeartbeats 4000000 in
set_option maxRecDepth 100000 in
theorem c_X1_drop_o (l : Launch) (dC : Nat → ClassId) (dI : Nat → Nat → Nat) (t_ : Nat) (t_k : Nat) (t_o : Nat) (cyI : ClassId) (tk : Int32) (mo : Int32) (fk : Nat → Int32) (fq : Nat → Int32) (f : Nat → Int32) (n9 : Nat) (l9 : Nat) (m9 : Nat) (p0 : Int32) (sz : Nat) (k0 : mj_kd f fk n9) (to : mj_to f (fun k => (fk k).toNatClampNeg) fq n9 l9 m9) (b0 : 0 ≤ p0.toInt) (b1 : p0.toNatClampNeg = l9) (b2 : p0.toNatClampNeg < n9) (b3 : n9 ≤ 160) (b4 : 0 < m9) (b5 : m9 ≤ 161) : kx_MQ l (dC, dI) yX1_drop wsX1_drop ({ frames := 0, cells := 0, slots := 0, locals := 0 }) [.ref t_, .int p0] [kx_1 t_ t_k t_o tk mo, kx_a t_k cyI 160 fk, kx_a t_o cyI 160 fq] [(cyI, .int)] sz (fun A => va_Qv (fun u : Int32 × (Nat → Int32) => mj_to f (fun k => (fk k).toNatClampNeg) u.2 n9 (l9 + 1) (m9 - 1)) (fun (u : Int32 × (Nat → Int32)) (t : State) => va_P (dC, dI) vwCl [kx_1 t_ t_k t_o u.1 mo, kx_a t_k cyI 160 fk, kx_a t_o cyI 160 u.2] t.heap ∧ va_K (dC, dI) vwCl [(cyI, .int)] t ∧ va_D A [kx_1 t_ t_k t_o u.1 mo, kx_a t_k cyI 160 fk, kx_a t_o cyI 160 u.2]) A) := by
  refine kx_stQ (ws := wsX1_drop) (cc := cX1_drop) (maxL := 2) (ret := none) (by decide) rfl (Nat.le_of_ble_eq_true rfl) ?_
  intro p e s m below meth c A ls hx hb hr hlocks hts hown hml hA hS hP hK hD hl
  have hown : s.vm.findClass RX1 = some m.cls := hown
  have hl : lv_has ls 2 [(0, .ref t_), (1, .int p0)] := hl
  have hf_15 := hts (.fieldLink RX1 15 "MajorityIndex$Tally" "often" "[I") (List.mem_of_getElem? (i := 1) rfl)
  have hi_1 : ∀ w ∈ u_ws RX1 TX1 4, w ∈ wsX1_drop := fun w h => List.mem_cons_of_mem _ (List.mem_append_right _ h)
  have hf_9 := hts (.fieldLink RX1 9 "MajorityIndex$Tally" "kind" "[I") (List.mem_of_getElem? (i := 2) rfl)
  have hf_34 := hts (.fieldLink RX1 34 "MajorityIndex$Tally" "taken" "I") (List.mem_of_getElem? (i := 3) rfl)
  have n_p0 := ki_nat p0 rfl (om_10 b0)
  refine lv_aload_n hx hb dX1_drop_0 rfl (lv_at hl 0 rfl) ?_
  refine va_get (D := (dC, dI)) (ci := 1) (v := .ref t_o) (C := RX1) (T := TX1) (N := 4) hx hb hts hi_1 hown hK hP 0 rfl rfl 1 (by decide) hf_15 (fun _ h9 => h9) rfl dX1_drop_1 ?_
  refine lv_aload_n hx hb dX1_drop_4 rfl (lv_at hl 0 rfl) ?_
  refine va_get (D := (dC, dI)) (ci := 1) (v := .ref t_k) (C := RX1) (T := TX1) (N := 4) hx hb hts hi_1 hown hK hP 0 rfl rfl 0 (by decide) hf_9 (fun _ h9 => h9) rfl dX1_drop_5 ?_
  refine lv_iload_n hx hb dX1_drop_8 rfl (lv_at hl 1 rfl) ?_
  refine va_iald hx hb hK hP 1 0 rfl rfl (ki_in (om_10 b0) (by omega)) dX1_drop_9 ?_
  refine lv_topi (fun y_1 ey_1 => ?_)
  have j_1 : y_1.toInt = (fk p0.toNatClampNeg).toInt := congrArg Int32.toInt ey_1
  have q_9 : y_1 = fk p0.toNatClampNeg := ey_1
  have o_9 := mj_kd_id k0 p0.toNatClampNeg b2
  have i_9 := k0 p0.toNatClampNeg b2
  have i_99 : 0 ≤ y_1.toInt ∧ y_1.toInt ≤ p0.toInt := by rw [q_9]; omega
  refine lv_dup2_11 hx hb dX1_drop_10 rfl rfl ?_
  refine va_iald hx hb hK hP 2 0 rfl rfl (ki_in (by omega) (by omega)) dX1_drop_11 ?_
  refine lv_topi (fun y_2 ey_2 => ?_)
  have j_2 : y_2.toInt = (fq y_1.toNatClampNeg).toInt := congrArg Int32.toInt ey_2
  have q_10 : y_2.toInt = (fq (fk p0.toNatClampNeg).toNatClampNeg).toInt := by rw [ey_2, q_9]
  have q_11 := to.1 p0.toNatClampNeg b2
  dsimp only at q_11
  have q_le := cnt_le f (f p0.toNatClampNeg) l9 m9
  refine lv_iconst (v := 1) hx hb dX1_drop_12 (by decide) ?_
  refine lv_isub hx hb dX1_drop_13 ?_
  refine lv_topi (fun y_3 ey_3 => ?_)
  have i_3 : y_3.toInt = y_2.toInt - 1 := ki_sub ey_3 rfl rfl (by omega) (by omega)
  refine va_iast hx hb hK hP hD hS 2 0 rfl rfl (ki_in (by omega) (by omega)) dX1_drop_14 (fun H locs hP hD hS => ?_)
  obtain ⟨hP, hD⟩ := kx_re (w2 := [kx_1 t_ t_k t_o tk mo, kx_a t_k cyI 160 fk, kx_a t_o cyI 160 (upd fq y_1.toNatClampNeg y_3)]) hP hD rfl
  refine lv_aload_n hx hb dX1_drop_15 rfl (lv_at hl 0 rfl) ?_
  refine lv_dup hx hb dX1_drop_16 rfl ?_
  refine va_get (D := (dC, dI)) (ci := 1) (v := .int tk) (C := RX1) (T := TX1) (N := 4) hx hb hts hi_1 hown hK hP 0 rfl rfl 2 (by decide) hf_34 (fun _ h9 => h9) rfl dX1_drop_17 ?_
  refine lv_iconst (v := 1) hx hb dX1_drop_20 (by decide) ?_
  refine lv_isub hx hb dX1_drop_21 ?_
  refine lv_topi (fun y_4 ey_4 => ?_)
  refine va_put (D := (dC, dI)) (ci := 1) (v := .int y_4) (ty := .int) (C := RX1) (T := TX1) (N := 4) hx hb hts hi_1 tyX1 tyX1_ok nmX1 hown hK hP hD hS 0 rfl rfl 2 (by decide) hf_34 (fun _ h9 => h9) rfl (by decide +kernel) rfl rfl (Nat.le_of_ble_eq_true rfl) dX1_drop_22 (fun H locs hP hD hS => ?_)
  obtain ⟨hP, hD⟩ := kx_re (w2 := [kx_1 t_ t_k t_o y_4 mo, kx_a t_k cyI 160 fk, kx_a t_o cyI 160 (upd fq y_1.toNatClampNeg y_3)]) hP hD rfl
  have hP9 := hP
  have hD9 := hD
  have hK9 := hK
  exact W.vret hx hb hr (hlocks := hlocks) (fun t ht hW => ⟨⟨(y_4, (upd fq y_1.toNatClampNeg y_3)), rfl, (by (try dsimp only); rw [q_9, b1]; exact mj_to_drop k0 to (by omega) rfl (by omega) (by rw [b1] at q_10; omega)), by rw [ht]; exact hP9, va_K.moved hW.alike hK9, hD9⟩, hS.F ht⟩) hS.2.2 dX1_drop_25

set_option maxHeartbeats 4000000 in
set_option maxRecDepth 100000 in
theorem c_X4_creditHeavy_x (l : Launch) (dC : Nat → ClassId) (dI : Nat → Nat → Nat) (m_ : Nat) (q_row : Nat) (q_t : Nat) (t_ : Nat) (h0 : Nat) (k0 : Nat) (w_ : Nat) (z_ : Nat) (slots : Int32) (old : Int32) (q_cell : Nat) (cyI : ClassId) (len : Int32) (f : Nat → Int32) (t_k : Nat) (t_o : Nat) (tk : Int32) (mo : Int32) (fk : Nat → Int32) (fq : Nat → Int32) (fw : Nat → Int32) (p0 : Int32) (p1 : Int32) (p2 : Int32) (sz : Nat) (a0 : 0 ≤ len.toInt) (a1 : len.toInt ≤ 160) (c0 : 1 ≤ p0.toInt) (c1 : p0.toInt ≤ 160) (c2 : 1 ≤ p1.toInt) (c3 : p1.toInt ≤ 999) (c4 : 1 ≤ p2.toInt) (c5 : p2.toInt ≤ 999) (bq : ∀ k : Nat, k < len.toNatClampNeg → 0 ≤ (fq k).toInt ∧ (fq k).toInt ≤ 160) (bw : ∀ k : Nat, k < len.toNatClampNeg → 0 ≤ (fw k).toInt ∧ (fw k).toInt ≤ 1000) : kx_MQ l (dC, dI) yX4_creditHeavy wsX4_creditHeavy ({ frames := 1, cells := 0, slots := 0, locals := 45 }) [.ref m_, .int p0, .int p1, .int p2] [kx_4 m_ q_row q_t t_ h0 k0 w_ z_ slots old, kx_0 q_row q_cell len, kx_a q_cell cyI 160 f, kx_1 t_ t_k t_o tk mo, kx_a t_k cyI 160 fk, kx_a t_o cyI 160 fq, kx_a w_ cyI 160 fw] [(cyI, .int)] sz (fun A => va_Qi (fun (r : Int32) (u : (Nat → Int32)) => mj_cr2 fq u fw p0.toNatClampNeg p1.toInt p2.toInt len.toNatClampNeg ∧ ((r = 1 ∧ mj_sx fq (p1.toInt * (p0.toNatClampNeg : Int)) p2.toInt len.toNatClampNeg) ∨ (r = 0 ∧ ∀ k : Nat, k < len.toNatClampNeg → (fq k).toInt * p2.toInt ≤ p1.toInt * (p0.toNatClampNeg : Int)))) (fun (u : (Nat → Int32)) (t : State) => va_P (dC, dI) vwCl [kx_4 m_ q_row q_t t_ h0 k0 w_ z_ slots old, kx_0 q_row q_cell len, kx_a q_cell cyI 160 f, kx_1 t_ t_k t_o tk mo, kx_a t_k cyI 160 fk, kx_a t_o cyI 160 fq, kx_a w_ cyI 160 u] t.heap ∧ va_K (dC, dI) vwCl [(cyI, .int)] t ∧ va_D A [kx_4 m_ q_row q_t t_ h0 k0 w_ z_ slots old, kx_0 q_row q_cell len, kx_a q_cell cyI 160 f, kx_1 t_ t_k t_o tk mo, kx_a t_k cyI 160 fk, kx_a t_o cyI 160 fq, kx_a w_ cyI 160 u]) A) := by
  refine kx_stQ (ws := wsX4_creditHeavy) (cc := cX4_creditHeavy) (maxL := 6) (ret := (some .boolean)) (by decide) rfl (Nat.le_of_ble_eq_true rfl) ?_
  intro p e s m below meth c A ls hx hb hr hlocks hts hown hml hA hS hP hK hD hl
  have hown : s.vm.findClass RX4 = some m.cls := hown
  have hl : lv_has ls 6 [(0, .ref m_), (1, .int p0), (2, .int p1), (3, .int p2)] := hl
  have hf_12 := hts (.fieldLink RX4 12 "MajorityIndex" "row" "LMajorityIndex$Row;") (List.mem_of_getElem? (i := 1) rfl)
  have hi_4 : ∀ w ∈ u_ws RX4 TX4 9, w ∈ wsX4_creditHeavy := fun w h => List.mem_cons_of_mem _ (List.mem_append_left _ (List.mem_append_left _ (List.mem_append_right _ h)))
  have hf_57 := hts (.fieldLink RX4 57 "MajorityIndex$Row" "length" "I") (List.mem_of_getElem? (i := 2) rfl)
  have hi_0 : ∀ w ∈ u_ws RX0 TX0 2, w ∈ wsX4_creditHeavy := fun w h => List.mem_cons_of_mem _ (List.mem_append_left _ (List.mem_append_right _ h))
  have hf_28 := hts (.fieldLink RX4 28 "MajorityIndex" "tally" "LMajorityIndex$Tally;") (List.mem_of_getElem? (i := 3) rfl)
  have hf_283 := hts (.fieldLink RX4 283 "MajorityIndex$Tally" "often" "[I") (List.mem_of_getElem? (i := 4) rfl)
  have hi_1 : ∀ w ∈ u_ws RX1 TX1 4, w ∈ wsX4_creditHeavy := fun w h => List.mem_cons_of_mem _ (List.mem_append_right _ h)
  have hf_42 := hts (.fieldLink RX4 42 "MajorityIndex" "wins" "[I") (List.mem_of_getElem? (i := 5) rfl)
  have n_p0 := ki_nat p0 rfl (om_51 c0)
  have n_l := ki_nat len rfl (om_10 a0)
  refine lv_iconst (v := 0) hx hb dX4_creditHeavy_0 (by decide) ?_
  refine lv_istore (lv' := [(4, .int 0), (0, .ref m_), (1, .int p0), (2, .int p1), (3, .int p2)]) hx hb dX4_creditHeavy_1 hl (by decide) rfl (fun ls hl => ?_)
  refine lv_iconst (v := 0) hx hb dX4_creditHeavy_3 (by decide) ?_
  refine lv_istore (lv' := [(5, .int 0), (4, .int 0), (0, .ref m_), (1, .int p0), (2, .int p1), (3, .int p2)]) hx hb dX4_creditHeavy_4 hl (by decide) rfl (fun ls hl => ?_)
  have LP1 : ∀ (n : Nat) (i : Int32) (so : Int32) (gw : Nat → Int32), (0 ≤ i.toInt) → (so = 0 ∨ so = 1) → (mj_cr2 fq gw fw p0.toNatClampNeg p1.toInt p2.toInt i.toNatClampNeg) → ((so = 1 ∧ mj_sx fq (p1.toInt * (p0.toNatClampNeg : Int)) p2.toInt i.toNatClampNeg) ∨ (so = 0 ∧ ∀ k : Nat, k < i.toNatClampNeg → (fq k).toInt * p2.toInt ≤ p1.toInt * (p0.toNatClampNeg : Int))) → (i.toInt ≤ len.toInt) → (len.toInt - i.toInt).toNat < n → ∀ (H : Heap) (locs : List Loc), va_P (dC, dI) vwCl [kx_4 m_ q_row q_t t_ h0 k0 w_ z_ slots old, kx_0 q_row q_cell len, kx_a q_cell cyI 160 f, kx_1 t_ t_k t_o tk mo, kx_a t_k cyI 160 fk, kx_a t_o cyI 160 fq, kx_a w_ cyI 160 gw] H → va_D A [kx_4 m_ q_row q_t t_ h0 k0 w_ z_ slots old, kx_0 q_row q_cell len, kx_a q_cell cyI 160 f, kx_1 t_ t_k t_o tk mo, kx_a t_k cyI 160 fk, kx_a t_o cyI 160 fq, kx_a w_ cyI 160 gw] → va_S A s.heap H locs → ∀ (ls : Array Slot), lv_has ls 6 [(5, .int i), (4, .int so), (0, .ref m_), (1, .int p0), (2, .int p1), (3, .int p2)] → W p l e (headSpec wsX4_creditHeavy ({ frames := 1, cells := 0, slots := 0, locals := 45 })).room s m ([.ref m_, .int p0, .int p1, .int p2] : List Value).toArray below meth c H locs 0 0 (MQ below (va_Qi (fun (r : Int32) (u : (Nat → Int32)) => mj_cr2 fq u fw p0.toNatClampNeg p1.toInt p2.toInt len.toNatClampNeg ∧ ((r = 1 ∧ mj_sx fq (p1.toInt * (p0.toNatClampNeg : Int)) p2.toInt len.toNatClampNeg) ∨ (r = 0 ∧ ∀ k : Nat, k < len.toNatClampNeg → (fq k).toInt * p2.toInt ≤ p1.toInt * (p0.toNatClampNeg : Int)))) (fun (u : (Nat → Int32)) (t : State) => va_P (dC, dI) vwCl [kx_4 m_ q_row q_t t_ h0 k0 w_ z_ slots old, kx_0 q_row q_cell len, kx_a q_cell cyI 160 f, kx_1 t_ t_k t_o tk mo, kx_a t_k cyI 160 fk, kx_a t_o cyI 160 fq, kx_a w_ cyI 160 u] t.heap ∧ va_K (dC, dI) vwCl [(cyI, .int)] t ∧ va_D A [kx_4 m_ q_row q_t t_ h0 k0 w_ z_ slots old, kx_0 q_row q_cell len, kx_a q_cell cyI 160 f, kx_1 t_ t_k t_o tk mo, kx_a t_k cyI 160 fk, kx_a t_o cyI 160 fq, kx_a w_ cyI 160 u]) A) ([.ref m_, .int p0, .int p1, .int p2] : List Value).toArray s 0 0 A) (F0 m 6 ls []) := by
    intro n
    induction n with
    | zero => intro i so gw LP1_h0 LP1_h1 LP1_h2 LP1_h3 LP1_h4 hn; exact absurd hn (Nat.not_lt_zero _)
    | succ n ih1 =>
      intro i so gw LP1_h0 LP1_h1 LP1_h2 LP1_h3 LP1_h4 hn1 H locs hP hD hS ls hl
      have n_i := ki_nat i rfl (om_10 LP1_h0)
      have q_bq := fun (h9 : i.toInt < len.toInt) => bq i.toNatClampNeg (by omega)
      refine lv_iload hx hb dX4_creditHeavy_6 (lv_at hl 0 rfl) ?_
      refine lv_aload_n hx hb dX4_creditHeavy_8 rfl (lv_at hl 2 rfl) ?_
      refine va_get (D := (dC, dI)) (ci := 4) (v := .ref q_row) (C := RX4) (T := TX4) (N := 9) hx hb hts hi_4 hown hK hP 0 rfl rfl 0 (by decide) hf_12 (fun _ h9 => h9) rfl dX4_creditHeavy_9 ?_
      refine va_get (D := (dC, dI)) (ci := 0) (v := .int len) (C := RX0) (T := TX0) (N := 2) hx hb hts hi_0 hown hK hP 1 rfl rfl 1 (by decide) hf_57 (fun _ h9 => h9) rfl dX4_creditHeavy_12 ?_
      refine lv_icmp_ge (tgt := 57) hx hb dX4_creditHeavy_15 (by decide) (fun c_1 => ?_) (fun c_1 => ?_)
      · have i_1 : len.toInt ≤ i.toInt := kc_le c_1
        refine lv_iload hx hb dX4_creditHeavy_57 (lv_at hl 1 rfl) ?_
        have hP9 := hP
        have hD9 := hD
        have hK9 := hK
        have q_i : i.toNatClampNeg = len.toNatClampNeg := by omega
        have h_2 := LP1_h2
        have h_3 := LP1_h3
        rw [q_i] at h_2 h_3
        exact W.zret (v := so) hx hb hr (by rcases LP1_h1 with h | h <;> rw [h] <;> decide) (hlocks := hlocks) (fun t ht hW => ⟨⟨so, (gw), rfl, ⟨h_2, h_3⟩, by rw [ht]; exact hP9, va_K.moved hW.alike hK9, hD9⟩, hS.F ht⟩) hS.2.2 dX4_creditHeavy_59
      · have i_1 : i.toInt < len.toInt := kc_nle c_1
        refine lv_aload_n hx hb dX4_creditHeavy_18 rfl (lv_at hl 2 rfl) ?_
        refine va_get (D := (dC, dI)) (ci := 4) (v := .ref t_) (C := RX4) (T := TX4) (N := 9) hx hb hts hi_4 hown hK hP 0 rfl rfl 2 (by decide) hf_28 (fun _ h9 => h9) rfl dX4_creditHeavy_19 ?_
        refine va_get (D := (dC, dI)) (ci := 1) (v := .ref t_o) (C := RX1) (T := TX1) (N := 4) hx hb hts hi_1 hown hK hP 3 rfl rfl 1 (by decide) hf_283 (fun _ h9 => h9) rfl dX4_creditHeavy_22 ?_
        refine lv_iload hx hb dX4_creditHeavy_25 (lv_at hl 0 rfl) ?_
        have q_b9 := q_bq (by omega)
        refine va_iald hx hb hK hP 5 0 rfl rfl (ki_in (om_10 LP1_h0) (om_1 a1 i_1)) dX4_creditHeavy_27 ?_
        refine lv_topi (fun y_2 ey_2 => ?_)
        have j_2 : y_2.toInt = (fq i.toNatClampNeg).toInt := congrArg Int32.toInt ey_2
        refine lv_iload_n hx hb dX4_creditHeavy_28 rfl (lv_at hl 3 rfl) ?_
        refine lv_iload_n hx hb dX4_creditHeavy_29 rfl (lv_at hl 4 rfl) ?_
        refine lv_iload_n hx hb dX4_creditHeavy_30 rfl (lv_at hl 5 rfl) ?_
        have hPc := hP.sub (ws' := []) [] rfl
        have hKc := hK.sub (tys' := []) [] rfl
        refine vp_callSi (W.runS (As := [.int y_2, .int p0, .int p1, .int p2]) (rest := []) ⟨hx, hb, hml, hown, hts⟩ (c_X4_isHeavy_x l dC dI y_2 p0 p1 p2 (by omega) (by omega) (om_51 c0) (om_511 c1) (om_51 c2) c3 (om_51 c4) c5) (va_cwS 4 hts gX4_creditHeavy_X4_isHeavy rfl rfl rfl (by decide +kernel) ⟨Nat.le_of_ble_eq_true rfl, Nat.le_of_ble_eq_true rfl⟩) ⟨fun a U g mk q => by obtain ⟨q0, qP, qK⟩ := q; exact ⟨q0, qP, va_K.moved (u := U) (U := U.calling g mk a) (Vm.Alike.refl U.vm) qK⟩, fun U hU hW => ⟨rfl, by rw [hU]; exact hPc, va_K.moved hW.alike hKc⟩⟩ rfl rfl hl.1 rfl (lv_room (Nat.le_of_ble_eq_true rfl)) dX4_creditHeavy_31 ⟨Nat.le_of_ble_eq_true rfl, Nat.le_of_ble_eq_true rfl⟩) (fun r_3 w_3 => ?_)
        rcases w_3 with ⟨rfl, w_3⟩ | ⟨rfl, w_3⟩
        · have w_3 : p1.toInt * p0.toInt < y_2.toInt * p2.toInt := w_3
          refine lv_if_eq (tgt := 51) hx hb dX4_creditHeavy_34 (by decide) (fun c_4 => ?_) (fun c_4 => ?_)
          · exact absurd c_4 (by decide)
          · refine lv_aload_n hx hb dX4_creditHeavy_37 rfl (lv_at hl 2 rfl) ?_
            refine va_get (D := (dC, dI)) (ci := 4) (v := .ref w_) (C := RX4) (T := TX4) (N := 9) hx hb hts hi_4 hown hK hP 0 rfl rfl 5 (by decide) hf_42 (fun _ h9 => h9) rfl dX4_creditHeavy_38 ?_
            refine lv_iload hx hb dX4_creditHeavy_41 (lv_at hl 0 rfl) ?_
            refine lv_dup2_11 hx hb dX4_creditHeavy_43 rfl rfl ?_
            refine va_iald hx hb hK hP 6 0 rfl rfl (ki_in (om_10 LP1_h0) (om_1 a1 i_1)) dX4_creditHeavy_44 ?_
            refine lv_topi (fun y_5 ey_5 => ?_)
            have j_5 : y_5.toInt = (gw i.toNatClampNeg).toInt := congrArg Int32.toInt ey_5
            have q_44 : y_5.toInt = (fw i.toNatClampNeg).toInt := by rw [ey_5, LP1_h2.2 i.toNatClampNeg (Nat.le_refl _)]
            have q_45 := bw i.toNatClampNeg (by omega)
            refine lv_iconst (v := 1) hx hb dX4_creditHeavy_45 (by decide) ?_
            refine lv_iadd hx hb dX4_creditHeavy_46 ?_
            refine lv_topi (fun y_6 ey_6 => ?_)
            have i_6 : y_6.toInt = y_5.toInt + 1 := ki_add ey_6 rfl rfl (by omega) (by omega)
            refine va_iast hx hb hK hP hD hS 6 0 rfl rfl (ki_in (om_10 LP1_h0) (om_1 a1 i_1)) dX4_creditHeavy_47 (fun H locs hP hD hS => ?_)
            obtain ⟨hP, hD⟩ := kx_re (w2 := [kx_4 m_ q_row q_t t_ h0 k0 w_ z_ slots old, kx_0 q_row q_cell len, kx_a q_cell cyI 160 f, kx_1 t_ t_k t_o tk mo, kx_a t_k cyI 160 fk, kx_a t_o cyI 160 fq, kx_a w_ cyI 160 (upd gw i.toNatClampNeg y_6)]) hP hD rfl
            refine lv_iconst (v := 1) hx hb dX4_creditHeavy_48 (by decide) ?_
            refine lv_istore (lv' := [(4, .int 1), (5, .int i), (0, .ref m_), (1, .int p0), (2, .int p1), (3, .int p2)]) hx hb dX4_creditHeavy_49 hl (by decide) rfl (fun ls hl => ?_)
            obtain ⟨x_7, ex_7⟩ : ∃ y : Int32, y = i + 1 := ⟨_, rfl⟩
            have i_7 : x_7.toInt = i.toInt + 1 := ki_add ex_7 rfl rfl (om_13 LP1_h0) (om_238 a1 LP1_h4)
            refine lv_iinc (v := x_7) (lv' := [(5, .int x_7), (4, .int 1), (0, .ref m_), (1, .int p0), (2, .int p1), (3, .int p2)]) hx hb dX4_creditHeavy_51 hl (k := 1) rfl (by rw [ex_7]; rfl) (by decide) rfl (fun ls hl => ?_)
            refine lv_goto (tgt := 6) hx hb dX4_creditHeavy_54 (by decide) ?_
            have k_8 : (1 : Int32).toInt = 1 := rfl
            have n_9 := ki_nat x_7 rfl (om_34 LP1_h0 i_7)
            have h_h : p1.toInt * (p0.toNatClampNeg : Int) < (fq i.toNatClampNeg).toInt * p2.toInt := by rw [n_p0, ← j_2]; exact w_3
            exact ih1 x_7 1 (upd gw i.toNatClampNeg y_6) (om_34 LP1_h0 i_7) (Or.inr rfl) (mj_cr2_yes LP1_h2 (by omega) h_h (by omega)) (Or.inl ⟨rfl, ⟨i.toNatClampNeg, (by omega), h_h⟩⟩) (om_54 i_1 i_7) (om_mu hn1 (om_5 i_7) (om_6 i_1)) _ _ hP hD hS ls (lv_sub hl [0, 1, 2, 3, 4, 5] rfl)
        · have w_3 : y_2.toInt * p2.toInt ≤ p1.toInt * p0.toInt := w_3
          refine lv_if_eq (tgt := 51) hx hb dX4_creditHeavy_34 (by decide) (fun c_10 => ?_) (fun c_10 => ?_)
          · obtain ⟨x_11, ex_11⟩ : ∃ y : Int32, y = i + 1 := ⟨_, rfl⟩
            have i_11 : x_11.toInt = i.toInt + 1 := ki_add ex_11 rfl rfl (om_13 LP1_h0) (om_238 a1 LP1_h4)
            refine lv_iinc (v := x_11) (lv' := [(5, .int x_11), (4, .int so), (0, .ref m_), (1, .int p0), (2, .int p1), (3, .int p2)]) hx hb dX4_creditHeavy_51 hl (k := 0) rfl (by rw [ex_11]; rfl) (by decide) rfl (fun ls hl => ?_)
            refine lv_goto (tgt := 6) hx hb dX4_creditHeavy_54 (by decide) ?_
            have n_12 := ki_nat x_11 rfl (om_34 LP1_h0 i_11)
            have h_h : (fq i.toNatClampNeg).toInt * p2.toInt ≤ p1.toInt * (p0.toNatClampNeg : Int) := by rw [n_p0, ← j_2]; exact w_3
            exact ih1 x_11 so gw (om_34 LP1_h0 i_11) LP1_h1 (mj_cr2_no LP1_h2 (by omega) h_h) (LP1_h3.imp (fun g => ⟨g.1, mj_sx_up g.2 (by omega)⟩) (fun g => ⟨g.1, fun k hk => if h9 : k < i.toNatClampNeg then g.2 k h9 else (by rw [show k = i.toNatClampNeg by omega]; exact h_h)⟩)) (om_54 i_1 i_11) (om_mu hn1 (om_5 i_11) (om_6 i_1)) _ _ hP hD hS ls (lv_sub hl [0, 1, 2, 3, 4, 5] rfl)
          · exact absurd c_10 (by decide)
  have k_13 : (0 : Int32).toInt = 0 := rfl
  have k_14 : (0 : Int32).toInt = 0 := rfl
  exact LP1 ((len.toInt - 0 : Int).toNat + 1) 0 0 fw om_35 (Or.inl rfl) ⟨(fun k hk => absurd hk (Nat.not_lt_zero k)), (fun k _ => rfl)⟩ (Or.inr ⟨rfl, fun k hk => absurd hk (Nat.not_lt_zero k)⟩) (om_10 a0) (Nat.lt_succ_self _) _ _ hP hD hS ls (lv_sub hl [0, 1, 2, 3, 4, 5] rfl)

set_option maxHeartbeats 4000000 in
set_option maxRecDepth 100000 in
theorem c_X4_kindOfMostWins_x (l : Launch) (dC : Nat → ClassId) (dI : Nat → Nat → Nat) (m_ : Nat) (q_row : Nat) (q_t : Nat) (t_ : Nat) (h0 : Nat) (k0 : Nat) (w_ : Nat) (z_ : Nat) (slots : Int32) (old : Int32) (q_cell : Nat) (cyI : ClassId) (len : Int32) (f : Nat → Int32) (fw : Nat → Int32) (a0 : 0 ≤ len.toInt) (a1 : len.toInt ≤ 160) : Met l yX4_kindOfMostWins wsX4_kindOfMostWins ({ frames := 0, cells := 0, slots := 0, locals := 0 }) (va_Pc [.ref m_] (fun U => va_P (dC, dI) vwCl [kx_4 m_ q_row q_t t_ h0 k0 w_ z_ slots old, kx_0 q_row q_cell len, kx_a q_cell cyI 160 f, kx_a w_ cyI 160 fw] U.heap ∧ va_K (dC, dI) vwCl [(cyI, .int)] U)) (vp_Si (fun r : Int32 => (r.toInt = -1 ∨ (0 ≤ r.toInt ∧ r.toInt < len.toInt)) ∧ mj_kx f fw len.toNatClampNeg r.toInt)) 0 0 (fun _ => False) := by
  refine kx_stS (ws := wsX4_kindOfMostWins) (cc := cX4_kindOfMostWins) (maxL := 5) (ret := (some .int)) (by decide) rfl (Nat.le_of_ble_eq_true rfl) ?_
  intro p e s m below meth c ls hx hb hr hlocks hts hown hml hP hK hl
  have hown : s.vm.findClass RX4 = some m.cls := hown
  have hl : lv_has ls 5 [(0, .ref m_)] := hl
  have hf_12 := hts (.fieldLink RX4 12 "MajorityIndex" "row" "LMajorityIndex$Row;") (List.mem_of_getElem? (i := 1) rfl)
  have hi_4 : ∀ w ∈ u_ws RX4 TX4 9, w ∈ wsX4_kindOfMostWins := fun w h => List.mem_cons_of_mem _ (List.mem_append_left _ (List.mem_append_right _ h))
  have hf_57 := hts (.fieldLink RX4 57 "MajorityIndex$Row" "length" "I") (List.mem_of_getElem? (i := 2) rfl)
  have hi_0 : ∀ w ∈ u_ws RX0 TX0 2, w ∈ wsX4_kindOfMostWins := fun w h => List.mem_cons_of_mem _ (List.mem_append_right _ h)
  have hf_42 := hts (.fieldLink RX4 42 "MajorityIndex" "wins" "[I") (List.mem_of_getElem? (i := 3) rfl)
  have hf_110 := hts (.fieldLink RX4 110 "MajorityIndex$Row" "cell" "[I") (List.mem_of_getElem? (i := 4) rfl)
  have n_l := ki_nat len rfl (om_10 a0)
  refine lv_iconst (v := (-1)) hx hb dX4_kindOfMostWins_0 (by decide) ?_
  refine lv_istore_n (lv' := [(1, .int (-1)), (0, .ref m_)]) hx hb dX4_kindOfMostWins_1 rfl hl (by decide) rfl (fun ls hl => ?_)
  refine lv_iconst (v := 0) hx hb dX4_kindOfMostWins_2 (by decide) ?_
  refine lv_istore_n (lv' := [(2, .int 0), (1, .int (-1)), (0, .ref m_)]) hx hb dX4_kindOfMostWins_3 rfl hl (by decide) rfl (fun ls hl => ?_)
  refine lv_iconst (v := 0) hx hb dX4_kindOfMostWins_4 (by decide) ?_
  refine lv_istore_n (lv' := [(3, .int 0), (2, .int 0), (1, .int (-1)), (0, .ref m_)]) hx hb dX4_kindOfMostWins_5 rfl hl (by decide) rfl (fun ls hl => ?_)
  have LP1 : ∀ (n : Nat) (i : Int32) (best : Int32) (most : Int32), (0 ≤ i.toInt) → (best.toInt = -1 ∨ (0 ≤ best.toInt ∧ best.toInt < len.toInt)) → (mj_km f fw i.toNatClampNeg best.toInt most.toInt) → (i.toInt ≤ len.toInt) → (len.toInt - i.toInt).toNat < n → ∀ (ls : Array Slot), lv_has ls 5 [(3, .int i), (2, .int most), (1, .int best), (0, .ref m_)] → W p l e (headSpec wsX4_kindOfMostWins ({ frames := 0, cells := 0, slots := 0, locals := 0 })).room s m ([.ref m_] : List Value).toArray below meth c s.heap [] 0 0 (MQ below (vp_Si (fun r : Int32 => (r.toInt = -1 ∨ (0 ≤ r.toInt ∧ r.toInt < len.toInt)) ∧ mj_kx f fw len.toNatClampNeg r.toInt)) ([.ref m_] : List Value).toArray s 0 0 (fun _ => False)) (F0 m 6 ls []) := by
    intro n
    induction n with
    | zero => intro i best most LP1_h0 LP1_h1 LP1_h2 LP1_h3 hn; exact absurd hn (Nat.not_lt_zero _)
    | succ n ih1 =>
      intro i best most LP1_h0 LP1_h1 LP1_h2 LP1_h3 hn1 ls hl
      have n_i := ki_nat i rfl (om_10 LP1_h0)
      refine lv_iload_n hx hb dX4_kindOfMostWins_6 rfl (lv_at hl 0 rfl) ?_
      refine lv_aload_n hx hb dX4_kindOfMostWins_7 rfl (lv_at hl 3 rfl) ?_
      refine va_get (D := (dC, dI)) (ci := 4) (v := .ref q_row) (C := RX4) (T := TX4) (N := 9) hx hb hts hi_4 hown hK hP 0 rfl rfl 0 (by decide) hf_12 (fun _ h9 => h9) rfl dX4_kindOfMostWins_8 ?_
      refine va_get (D := (dC, dI)) (ci := 0) (v := .int len) (C := RX0) (T := TX0) (N := 2) hx hb hts hi_0 hown hK hP 1 rfl rfl 1 (by decide) hf_57 (fun _ h9 => h9) rfl dX4_kindOfMostWins_11 ?_
      refine lv_icmp_ge (tgt := 90) hx hb dX4_kindOfMostWins_14 (by decide) (fun c_1 => ?_) (fun c_1 => ?_)
      · have i_1 : len.toInt ≤ i.toInt := kc_le c_1
        refine lv_iload_n hx hb dX4_kindOfMostWins_90 rfl (lv_at hl 2 rfl) ?_
        exact W.iret (v := best) hx hb hr (hlocks := hlocks) (fun t ht hW => ⟨best, rfl, ⟨LP1_h1, most.toInt, (by (try dsimp only); rw [show len.toNatClampNeg = i.toNatClampNeg by omega]; exact LP1_h2)⟩, ht⟩) (fun q hq => by cases hq) dX4_kindOfMostWins_91
      · have i_1 : i.toInt < len.toInt := kc_nle c_1
        refine lv_iload_n hx hb dX4_kindOfMostWins_17 rfl (lv_at hl 2 rfl) ?_
        refine lv_iconst (v := (-1)) hx hb dX4_kindOfMostWins_18 (by decide) ?_
        refine lv_icmp_eq (tgt := 57) hx hb dX4_kindOfMostWins_19 (by decide) (fun c_2 => ?_) (fun c_2 => ?_)
        · have i_2 : best.toInt = (-1) := kc_eq c_2
          refine lv_iconst (v := 0) hx hb dX4_kindOfMostWins_57 (by decide) ?_
          refine lv_istore (lv' := [(4, .int 0), (3, .int i), (2, .int most), (1, .int best), (0, .ref m_)]) hx hb dX4_kindOfMostWins_58 hl (by decide) rfl (fun ls hl => ?_)
          refine lv_aload_n hx hb dX4_kindOfMostWins_60 rfl (lv_at hl 4 rfl) ?_
          refine va_get (D := (dC, dI)) (ci := 4) (v := .ref w_) (C := RX4) (T := TX4) (N := 9) hx hb hts hi_4 hown hK hP 0 rfl rfl 5 (by decide) hf_42 (fun _ h9 => h9) rfl dX4_kindOfMostWins_61 ?_
          refine lv_iload_n hx hb dX4_kindOfMostWins_64 rfl (lv_at hl 1 rfl) ?_
          refine va_iald hx hb hK hP 3 0 rfl rfl (ki_in (om_10 LP1_h0) (om_1 a1 i_1)) dX4_kindOfMostWins_65 ?_
          refine lv_topi (fun y_3 ey_3 => ?_)
          have j_3 : y_3.toInt = (fw i.toNatClampNeg).toInt := congrArg Int32.toInt ey_3
          refine lv_iload_n hx hb dX4_kindOfMostWins_66 rfl (lv_at hl 2 rfl) ?_
          refine lv_icmp_gt (tgt := 75) hx hb dX4_kindOfMostWins_67 (by decide) (fun c_4 => ?_) (fun c_4 => ?_)
          · have i_4 : most.toInt < y_3.toInt := kc_lt c_4
            refine lv_iload_n hx hb dX4_kindOfMostWins_75 rfl (lv_at hl 1 rfl) ?_
            refine lv_istore_n (lv' := [(1, .int i), (4, .int 0), (3, .int i), (2, .int most), (0, .ref m_)]) hx hb dX4_kindOfMostWins_76 rfl hl (by decide) rfl (fun ls hl => ?_)
            refine lv_aload_n hx hb dX4_kindOfMostWins_77 rfl (lv_at hl 4 rfl) ?_
            refine va_get (D := (dC, dI)) (ci := 4) (v := .ref w_) (C := RX4) (T := TX4) (N := 9) hx hb hts hi_4 hown hK hP 0 rfl rfl 5 (by decide) hf_42 (fun _ h9 => h9) rfl dX4_kindOfMostWins_78 ?_
            refine lv_iload_n hx hb dX4_kindOfMostWins_81 rfl (lv_at hl 2 rfl) ?_
            refine va_iald hx hb hK hP 3 0 rfl rfl (ki_in (om_10 LP1_h0) (om_1 a1 i_1)) dX4_kindOfMostWins_82 ?_
            refine lv_topi (fun y_5 ey_5 => ?_)
            have j_5 : y_5.toInt = (fw i.toNatClampNeg).toInt := congrArg Int32.toInt ey_5
            refine lv_istore_n (lv' := [(2, .int y_5), (1, .int i), (4, .int 0), (3, .int i), (0, .ref m_)]) hx hb dX4_kindOfMostWins_83 rfl hl (by decide) rfl (fun ls hl => ?_)
            obtain ⟨x_6, ex_6⟩ : ∃ y : Int32, y = i + 1 := ⟨_, rfl⟩
            have i_6 : x_6.toInt = i.toInt + 1 := ki_add ex_6 rfl rfl (om_13 LP1_h0) (om_238 a1 LP1_h3)
            refine lv_iinc (v := x_6) (lv' := [(3, .int x_6), (2, .int y_5), (1, .int i), (4, .int 0), (0, .ref m_)]) hx hb dX4_kindOfMostWins_84 hl (k := 3) rfl (by rw [ex_6]; rfl) (by decide) rfl (fun ls hl => ?_)
            refine lv_goto (tgt := 6) hx hb dX4_kindOfMostWins_87 (by decide) ?_
            have n_7 := ki_nat x_6 rfl (om_34 LP1_h0 i_6)
            exact ih1 x_6 i y_5 (om_34 LP1_h0 i_6) (by omega) (mj_km_new LP1_h2 (by omega) (by omega) (by omega) (Or.inl (by omega))) (om_54 i_1 i_6) (om_mu hn1 (om_5 i_6) (om_6 i_1)) ls (lv_sub hl [0, 1, 2, 4] rfl)
          · have i_4 : y_3.toInt ≤ most.toInt := kc_nlt c_4
            refine lv_iload hx hb dX4_kindOfMostWins_70 (lv_at hl 0 rfl) ?_
            refine lv_if_eq (tgt := 84) hx hb dX4_kindOfMostWins_72 (by decide) (fun c_8 => ?_) (fun c_8 => ?_)
            · obtain ⟨x_9, ex_9⟩ : ∃ y : Int32, y = i + 1 := ⟨_, rfl⟩
              have i_9 : x_9.toInt = i.toInt + 1 := ki_add ex_9 rfl rfl (om_13 LP1_h0) (om_238 a1 LP1_h3)
              refine lv_iinc (v := x_9) (lv' := [(3, .int x_9), (4, .int 0), (2, .int most), (1, .int best), (0, .ref m_)]) hx hb dX4_kindOfMostWins_84 hl (k := 1) rfl (by rw [ex_9]; rfl) (by decide) rfl (fun ls hl => ?_)
              refine lv_goto (tgt := 6) hx hb dX4_kindOfMostWins_87 (by decide) ?_
              have n_10 := ki_nat x_9 rfl (om_34 LP1_h0 i_9)
              exact ih1 x_9 best most (om_34 LP1_h0 i_9) (by omega) (mj_km_old LP1_h2 (by omega) (by rcases (show (fw i.toNatClampNeg).toInt < most.toInt ∨ (fw i.toNatClampNeg).toInt = most.toInt by omega) with h | h; exact Or.inl h; exact Or.inr ⟨h, Or.inl (by omega)⟩)) (om_54 i_1 i_9) (om_mu hn1 (om_5 i_9) (om_6 i_1)) ls (lv_sub hl [0, 2, 3, 4] rfl)
            · exact absurd c_8 (by decide)
        · have i_2 : ¬ best.toInt = (-1) := kc_ne c_2
          refine lv_aload_n hx hb dX4_kindOfMostWins_22 rfl (lv_at hl 3 rfl) ?_
          refine va_get (D := (dC, dI)) (ci := 4) (v := .ref w_) (C := RX4) (T := TX4) (N := 9) hx hb hts hi_4 hown hK hP 0 rfl rfl 5 (by decide) hf_42 (fun _ h9 => h9) rfl dX4_kindOfMostWins_23 ?_
          refine lv_iload_n hx hb dX4_kindOfMostWins_26 rfl (lv_at hl 0 rfl) ?_
          refine va_iald hx hb hK hP 3 0 rfl rfl (ki_in (om_10 LP1_h0) (om_1 a1 i_1)) dX4_kindOfMostWins_27 ?_
          refine lv_topi (fun y_11 ey_11 => ?_)
          have j_11 : y_11.toInt = (fw i.toNatClampNeg).toInt := congrArg Int32.toInt ey_11
          refine lv_iload_n hx hb dX4_kindOfMostWins_28 rfl (lv_at hl 1 rfl) ?_
          refine lv_icmp_ne (tgt := 57) hx hb dX4_kindOfMostWins_29 (by decide) (fun c_12 => ?_) (fun c_12 => ?_)
          · have i_12 : ¬ y_11.toInt = most.toInt := kc_ne c_12
            refine lv_iconst (v := 0) hx hb dX4_kindOfMostWins_57 (by decide) ?_
            refine lv_istore (lv' := [(4, .int 0), (3, .int i), (2, .int most), (1, .int best), (0, .ref m_)]) hx hb dX4_kindOfMostWins_58 hl (by decide) rfl (fun ls hl => ?_)
            refine lv_aload_n hx hb dX4_kindOfMostWins_60 rfl (lv_at hl 4 rfl) ?_
            refine va_get (D := (dC, dI)) (ci := 4) (v := .ref w_) (C := RX4) (T := TX4) (N := 9) hx hb hts hi_4 hown hK hP 0 rfl rfl 5 (by decide) hf_42 (fun _ h9 => h9) rfl dX4_kindOfMostWins_61 ?_
            refine lv_iload_n hx hb dX4_kindOfMostWins_64 rfl (lv_at hl 1 rfl) ?_
            refine va_iald hx hb hK hP 3 0 rfl rfl (ki_in (om_10 LP1_h0) (om_1 a1 i_1)) dX4_kindOfMostWins_65 ?_
            refine lv_topi (fun y_13 ey_13 => ?_)
            have j_13 : y_13.toInt = (fw i.toNatClampNeg).toInt := congrArg Int32.toInt ey_13
            refine lv_iload_n hx hb dX4_kindOfMostWins_66 rfl (lv_at hl 2 rfl) ?_
            refine lv_icmp_gt (tgt := 75) hx hb dX4_kindOfMostWins_67 (by decide) (fun c_14 => ?_) (fun c_14 => ?_)
            · have i_14 : most.toInt < y_13.toInt := kc_lt c_14
              refine lv_iload_n hx hb dX4_kindOfMostWins_75 rfl (lv_at hl 1 rfl) ?_
              refine lv_istore_n (lv' := [(1, .int i), (4, .int 0), (3, .int i), (2, .int most), (0, .ref m_)]) hx hb dX4_kindOfMostWins_76 rfl hl (by decide) rfl (fun ls hl => ?_)
              refine lv_aload_n hx hb dX4_kindOfMostWins_77 rfl (lv_at hl 4 rfl) ?_
              refine va_get (D := (dC, dI)) (ci := 4) (v := .ref w_) (C := RX4) (T := TX4) (N := 9) hx hb hts hi_4 hown hK hP 0 rfl rfl 5 (by decide) hf_42 (fun _ h9 => h9) rfl dX4_kindOfMostWins_78 ?_
              refine lv_iload_n hx hb dX4_kindOfMostWins_81 rfl (lv_at hl 2 rfl) ?_
              refine va_iald hx hb hK hP 3 0 rfl rfl (ki_in (om_10 LP1_h0) (om_1 a1 i_1)) dX4_kindOfMostWins_82 ?_
              refine lv_topi (fun y_15 ey_15 => ?_)
              have j_15 : y_15.toInt = (fw i.toNatClampNeg).toInt := congrArg Int32.toInt ey_15
              refine lv_istore_n (lv' := [(2, .int y_15), (1, .int i), (4, .int 0), (3, .int i), (0, .ref m_)]) hx hb dX4_kindOfMostWins_83 rfl hl (by decide) rfl (fun ls hl => ?_)
              obtain ⟨x_16, ex_16⟩ : ∃ y : Int32, y = i + 1 := ⟨_, rfl⟩
              have i_16 : x_16.toInt = i.toInt + 1 := ki_add ex_16 rfl rfl (om_13 LP1_h0) (om_238 a1 LP1_h3)
              refine lv_iinc (v := x_16) (lv' := [(3, .int x_16), (2, .int y_15), (1, .int i), (4, .int 0), (0, .ref m_)]) hx hb dX4_kindOfMostWins_84 hl (k := 3) rfl (by rw [ex_16]; rfl) (by decide) rfl (fun ls hl => ?_)
              refine lv_goto (tgt := 6) hx hb dX4_kindOfMostWins_87 (by decide) ?_
              have n_17 := ki_nat x_16 rfl (om_34 LP1_h0 i_16)
              exact ih1 x_16 i y_15 (om_34 LP1_h0 i_16) (by omega) (mj_km_new LP1_h2 (by omega) (by omega) (by omega) (Or.inl (by omega))) (om_54 i_1 i_16) (om_mu hn1 (om_5 i_16) (om_6 i_1)) ls (lv_sub hl [0, 1, 2, 4] rfl)
            · have i_14 : y_13.toInt ≤ most.toInt := kc_nlt c_14
              refine lv_iload hx hb dX4_kindOfMostWins_70 (lv_at hl 0 rfl) ?_
              refine lv_if_eq (tgt := 84) hx hb dX4_kindOfMostWins_72 (by decide) (fun c_18 => ?_) (fun c_18 => ?_)
              · obtain ⟨x_19, ex_19⟩ : ∃ y : Int32, y = i + 1 := ⟨_, rfl⟩
                have i_19 : x_19.toInt = i.toInt + 1 := ki_add ex_19 rfl rfl (om_13 LP1_h0) (om_238 a1 LP1_h3)
                refine lv_iinc (v := x_19) (lv' := [(3, .int x_19), (4, .int 0), (2, .int most), (1, .int best), (0, .ref m_)]) hx hb dX4_kindOfMostWins_84 hl (k := 1) rfl (by rw [ex_19]; rfl) (by decide) rfl (fun ls hl => ?_)
                refine lv_goto (tgt := 6) hx hb dX4_kindOfMostWins_87 (by decide) ?_
                have n_20 := ki_nat x_19 rfl (om_34 LP1_h0 i_19)
                exact ih1 x_19 best most (om_34 LP1_h0 i_19) (by omega) (mj_km_old LP1_h2 (by omega) (Or.inl (by omega))) (om_54 i_1 i_19) (om_mu hn1 (om_5 i_19) (om_6 i_1)) ls (lv_sub hl [0, 2, 3, 4] rfl)
              · exact absurd c_18 (by decide)
          · have i_12 : y_11.toInt = most.toInt := kc_eq c_12
            refine lv_aload_n hx hb dX4_kindOfMostWins_32 rfl (lv_at hl 3 rfl) ?_
            refine va_get (D := (dC, dI)) (ci := 4) (v := .ref q_row) (C := RX4) (T := TX4) (N := 9) hx hb hts hi_4 hown hK hP 0 rfl rfl 0 (by decide) hf_12 (fun _ h9 => h9) rfl dX4_kindOfMostWins_33 ?_
            refine va_get (D := (dC, dI)) (ci := 0) (v := .ref q_cell) (C := RX0) (T := TX0) (N := 2) hx hb hts hi_0 hown hK hP 1 rfl rfl 0 (by decide) hf_110 (fun _ h9 => h9) rfl dX4_kindOfMostWins_36 ?_
            refine lv_iload_n hx hb dX4_kindOfMostWins_39 rfl (lv_at hl 0 rfl) ?_
            refine va_iald hx hb hK hP 2 0 rfl rfl (ki_in (om_10 LP1_h0) (om_1 a1 i_1)) dX4_kindOfMostWins_40 ?_
            refine lv_topi (fun y_21 ey_21 => ?_)
            have j_21 : y_21.toInt = (f i.toNatClampNeg).toInt := congrArg Int32.toInt ey_21
            refine lv_aload_n hx hb dX4_kindOfMostWins_41 rfl (lv_at hl 3 rfl) ?_
            refine va_get (D := (dC, dI)) (ci := 4) (v := .ref q_row) (C := RX4) (T := TX4) (N := 9) hx hb hts hi_4 hown hK hP 0 rfl rfl 0 (by decide) hf_12 (fun _ h9 => h9) rfl dX4_kindOfMostWins_42 ?_
            refine va_get (D := (dC, dI)) (ci := 0) (v := .ref q_cell) (C := RX0) (T := TX0) (N := 2) hx hb hts hi_0 hown hK hP 1 rfl rfl 0 (by decide) hf_110 (fun _ h9 => h9) rfl dX4_kindOfMostWins_45 ?_
            refine lv_iload_n hx hb dX4_kindOfMostWins_48 rfl (lv_at hl 2 rfl) ?_
            refine va_iald hx hb hK hP 2 0 rfl rfl (ki_in (by omega) (by omega)) dX4_kindOfMostWins_49 ?_
            refine lv_topi (fun y_22 ey_22 => ?_)
            have j_22 : y_22.toInt = (f best.toNatClampNeg).toInt := congrArg Int32.toInt ey_22
            refine lv_icmp_ge (tgt := 57) hx hb dX4_kindOfMostWins_50 (by decide) (fun c_23 => ?_) (fun c_23 => ?_)
            · have i_23 : y_22.toInt ≤ y_21.toInt := kc_le c_23
              refine lv_iconst (v := 0) hx hb dX4_kindOfMostWins_57 (by decide) ?_
              refine lv_istore (lv' := [(4, .int 0), (3, .int i), (2, .int most), (1, .int best), (0, .ref m_)]) hx hb dX4_kindOfMostWins_58 hl (by decide) rfl (fun ls hl => ?_)
              refine lv_aload_n hx hb dX4_kindOfMostWins_60 rfl (lv_at hl 4 rfl) ?_
              refine va_get (D := (dC, dI)) (ci := 4) (v := .ref w_) (C := RX4) (T := TX4) (N := 9) hx hb hts hi_4 hown hK hP 0 rfl rfl 5 (by decide) hf_42 (fun _ h9 => h9) rfl dX4_kindOfMostWins_61 ?_
              refine lv_iload_n hx hb dX4_kindOfMostWins_64 rfl (lv_at hl 1 rfl) ?_
              refine va_iald hx hb hK hP 3 0 rfl rfl (ki_in (om_10 LP1_h0) (om_1 a1 i_1)) dX4_kindOfMostWins_65 ?_
              refine lv_topi (fun y_24 ey_24 => ?_)
              have j_24 : y_24.toInt = (fw i.toNatClampNeg).toInt := congrArg Int32.toInt ey_24
              refine lv_iload_n hx hb dX4_kindOfMostWins_66 rfl (lv_at hl 2 rfl) ?_
              refine lv_icmp_gt (tgt := 75) hx hb dX4_kindOfMostWins_67 (by decide) (fun c_25 => ?_) (fun c_25 => ?_)
              · have i_25 : most.toInt < y_24.toInt := kc_lt c_25
                exfalso; omega
              · have i_25 : y_24.toInt ≤ most.toInt := kc_nlt c_25
                refine lv_iload hx hb dX4_kindOfMostWins_70 (lv_at hl 0 rfl) ?_
                refine lv_if_eq (tgt := 84) hx hb dX4_kindOfMostWins_72 (by decide) (fun c_26 => ?_) (fun c_26 => ?_)
                · obtain ⟨x_27, ex_27⟩ : ∃ y : Int32, y = i + 1 := ⟨_, rfl⟩
                  have i_27 : x_27.toInt = i.toInt + 1 := ki_add ex_27 rfl rfl (om_13 LP1_h0) (om_238 a1 LP1_h3)
                  refine lv_iinc (v := x_27) (lv' := [(3, .int x_27), (4, .int 0), (2, .int most), (1, .int best), (0, .ref m_)]) hx hb dX4_kindOfMostWins_84 hl (k := 1) rfl (by rw [ex_27]; rfl) (by decide) rfl (fun ls hl => ?_)
                  refine lv_goto (tgt := 6) hx hb dX4_kindOfMostWins_87 (by decide) ?_
                  have n_28 := ki_nat x_27 rfl (om_34 LP1_h0 i_27)
                  exact ih1 x_27 best most (om_34 LP1_h0 i_27) (by omega) (mj_km_old LP1_h2 (by omega) (Or.inr ⟨(by omega), Or.inr (by have q_b : best.toInt.toNat = best.toNatClampNeg := rfl; rw [q_b]; omega)⟩)) (om_54 i_1 i_27) (om_mu hn1 (om_5 i_27) (om_6 i_1)) ls (lv_sub hl [0, 2, 3, 4] rfl)
                · exact absurd c_26 (by decide)
            · have i_23 : y_21.toInt < y_22.toInt := kc_nle c_23
              refine lv_iconst (v := 1) hx hb dX4_kindOfMostWins_53 (by decide) ?_
              refine lv_goto (tgt := 58) hx hb dX4_kindOfMostWins_54 (by decide) ?_
              refine lv_istore (lv' := [(4, .int 1), (3, .int i), (2, .int most), (1, .int best), (0, .ref m_)]) hx hb dX4_kindOfMostWins_58 hl (by decide) rfl (fun ls hl => ?_)
              refine lv_aload_n hx hb dX4_kindOfMostWins_60 rfl (lv_at hl 4 rfl) ?_
              refine va_get (D := (dC, dI)) (ci := 4) (v := .ref w_) (C := RX4) (T := TX4) (N := 9) hx hb hts hi_4 hown hK hP 0 rfl rfl 5 (by decide) hf_42 (fun _ h9 => h9) rfl dX4_kindOfMostWins_61 ?_
              refine lv_iload_n hx hb dX4_kindOfMostWins_64 rfl (lv_at hl 1 rfl) ?_
              refine va_iald hx hb hK hP 3 0 rfl rfl (ki_in (om_10 LP1_h0) (om_1 a1 i_1)) dX4_kindOfMostWins_65 ?_
              refine lv_topi (fun y_29 ey_29 => ?_)
              have j_29 : y_29.toInt = (fw i.toNatClampNeg).toInt := congrArg Int32.toInt ey_29
              refine lv_iload_n hx hb dX4_kindOfMostWins_66 rfl (lv_at hl 2 rfl) ?_
              refine lv_icmp_gt (tgt := 75) hx hb dX4_kindOfMostWins_67 (by decide) (fun c_30 => ?_) (fun c_30 => ?_)
              · have i_30 : most.toInt < y_29.toInt := kc_lt c_30
                exfalso; omega
              · have i_30 : y_29.toInt ≤ most.toInt := kc_nlt c_30
                refine lv_iload hx hb dX4_kindOfMostWins_70 (lv_at hl 0 rfl) ?_
                refine lv_if_eq (tgt := 84) hx hb dX4_kindOfMostWins_72 (by decide) (fun c_31 => ?_) (fun c_31 => ?_)
                · exact absurd c_31 (by decide)
                · refine lv_iload_n hx hb dX4_kindOfMostWins_75 rfl (lv_at hl 1 rfl) ?_
                  refine lv_istore_n (lv' := [(1, .int i), (4, .int 1), (3, .int i), (2, .int most), (0, .ref m_)]) hx hb dX4_kindOfMostWins_76 rfl hl (by decide) rfl (fun ls hl => ?_)
                  refine lv_aload_n hx hb dX4_kindOfMostWins_77 rfl (lv_at hl 4 rfl) ?_
                  refine va_get (D := (dC, dI)) (ci := 4) (v := .ref w_) (C := RX4) (T := TX4) (N := 9) hx hb hts hi_4 hown hK hP 0 rfl rfl 5 (by decide) hf_42 (fun _ h9 => h9) rfl dX4_kindOfMostWins_78 ?_
                  refine lv_iload_n hx hb dX4_kindOfMostWins_81 rfl (lv_at hl 2 rfl) ?_
                  refine va_iald hx hb hK hP 3 0 rfl rfl (ki_in (om_10 LP1_h0) (om_1 a1 i_1)) dX4_kindOfMostWins_82 ?_
                  refine lv_topi (fun y_32 ey_32 => ?_)
                  have j_32 : y_32.toInt = (fw i.toNatClampNeg).toInt := congrArg Int32.toInt ey_32
                  refine lv_istore_n (lv' := [(2, .int y_32), (1, .int i), (4, .int 1), (3, .int i), (0, .ref m_)]) hx hb dX4_kindOfMostWins_83 rfl hl (by decide) rfl (fun ls hl => ?_)
                  obtain ⟨x_33, ex_33⟩ : ∃ y : Int32, y = i + 1 := ⟨_, rfl⟩
                  have i_33 : x_33.toInt = i.toInt + 1 := ki_add ex_33 rfl rfl (om_13 LP1_h0) (om_238 a1 LP1_h3)
                  refine lv_iinc (v := x_33) (lv' := [(3, .int x_33), (2, .int y_32), (1, .int i), (4, .int 1), (0, .ref m_)]) hx hb dX4_kindOfMostWins_84 hl (k := 3) rfl (by rw [ex_33]; rfl) (by decide) rfl (fun ls hl => ?_)
                  refine lv_goto (tgt := 6) hx hb dX4_kindOfMostWins_87 (by decide) ?_
                  have n_34 := ki_nat x_33 rfl (om_34 LP1_h0 i_33)
                  exact ih1 x_33 i y_32 (om_34 LP1_h0 i_33) (by omega) (mj_km_new LP1_h2 (by omega) (by omega) (by omega) (Or.inr ⟨(by omega), (by omega), (by have q_b : best.toInt.toNat = best.toNatClampNeg := rfl; rw [q_b]; omega)⟩)) (om_54 i_1 i_33) (om_mu hn1 (om_5 i_33) (om_6 i_1)) ls (lv_sub hl [0, 1, 2, 4] rfl)
  have k_35 : (0 : Int32).toInt = 0 := rfl
  have k_36 : ((-1) : Int32).toInt = -1 := rfl
  have k_37 : (0 : Int32).toInt = 0 := rfl
  exact LP1 ((len.toInt - 0 : Int).toNat + 1) 0 (-1) 0 om_35 (by omega) (Or.inl ⟨rfl, rfl, fun k hk => absurd hk (Nat.not_lt_zero k)⟩) (om_10 a0) (Nat.lt_succ_self _) ls (lv_sub hl [0, 1, 2, 3] rfl)

set_option maxHeartbeats 4000000 in
set_option maxRecDepth 100000 in
theorem c_X4_slideWindow_x (l : Launch) (dC : Nat → ClassId) (dI : Nat → Nat → Nat) (m_ : Nat) (q_row : Nat) (q_t : Nat) (t_ : Nat) (h0 : Nat) (k0 : Nat) (w_ : Nat) (z_ : Nat) (slots : Int32) (old : Int32) (q_cell : Nat) (cyI : ClassId) (len : Int32) (f : Nat → Int32) (t_k : Nat) (t_o : Nat) (tk : Int32) (mo : Int32) (fk : Nat → Int32) (fq : Nat → Int32) (fw : Nat → Int32) (p0 : Int32) (p1 : Int32) (p2 : Int32) (sz : Nat) (a0 : 0 ≤ len.toInt) (a1 : len.toInt ≤ 160) (b0 : 1 ≤ p0.toInt) (b1 : p0.toInt ≤ len.toInt) (e0 : 1 ≤ p1.toInt) (e1 : p1.toInt ≤ p2.toInt) (e2 : p2.toInt ≤ 999) : kx_MQ l (dC, dI) yX4_slideWindow wsX4_slideWindow ({ frames := 2, cells := 0, slots := 0, locals := 90 }) [.ref m_, .int p0, .int p1, .int p2] [kx_4 m_ q_row q_t t_ h0 k0 w_ z_ slots old, kx_0 q_row q_cell len, kx_a q_cell cyI 160 f, kx_1 t_ t_k t_o tk mo, kx_a t_k cyI 160 fk, kx_a t_o cyI 160 fq, kx_a w_ cyI 160 fw] [(cyI, .int)] sz (fun A => va_Qi (fun (r : Int32) (u : Int32 × Int32 × (Nat → Int32) × (Nat → Int32) × (Nat → Int32)) => mj_kd f u.2.2.1 len.toNatClampNeg ∧ mj_wn f u.2.2.1 u.2.2.2.2 p0.toNatClampNeg p1.toInt p2.toInt len.toNatClampNeg (len.toNatClampNeg + 1 - p0.toNatClampNeg) ∧ r.toInt = (mj_ct (mj_ay f p0.toNatClampNeg p1.toInt p2.toInt) (len.toNatClampNeg + 1 - p0.toNatClampNeg) : Int)) (fun (u : Int32 × Int32 × (Nat → Int32) × (Nat → Int32) × (Nat → Int32)) (t : State) => va_P (dC, dI) vwCl [kx_4 m_ q_row q_t t_ h0 k0 w_ z_ slots old, kx_0 q_row q_cell len, kx_a q_cell cyI 160 f, kx_1 t_ t_k t_o u.1 u.2.1, kx_a t_k cyI 160 u.2.2.1, kx_a t_o cyI 160 u.2.2.2.1, kx_a w_ cyI 160 u.2.2.2.2] t.heap ∧ va_K (dC, dI) vwCl [(cyI, .int)] t ∧ va_D A [kx_4 m_ q_row q_t t_ h0 k0 w_ z_ slots old, kx_0 q_row q_cell len, kx_a q_cell cyI 160 f, kx_1 t_ t_k t_o u.1 u.2.1, kx_a t_k cyI 160 u.2.2.1, kx_a t_o cyI 160 u.2.2.2.1, kx_a w_ cyI 160 u.2.2.2.2]) A) := by
  refine kx_stQ (ws := wsX4_slideWindow) (cc := cX4_slideWindow) (maxL := 6) (ret := (some .int)) (by decide) rfl (Nat.le_of_ble_eq_true rfl) ?_
  intro p e s m below meth c A ls hx hb hr hlocks hts hown hml hA hS hP hK hD hl
  have hown : s.vm.findClass RX4 = some m.cls := hown
  have hl : lv_has ls 6 [(0, .ref m_), (1, .int p0), (2, .int p1), (3, .int p2)] := hl
  have hf_28 := hts (.fieldLink RX4 28 "MajorityIndex" "tally" "LMajorityIndex$Tally;") (List.mem_of_getElem? (i := 1) rfl)
  have hi_4 : ∀ w ∈ u_ws RX4 TX4 9, w ∈ wsX4_slideWindow := fun w h => List.mem_cons_of_mem _ (List.mem_append_left _ (List.mem_append_left _ (List.mem_append_right _ h)))
  have hf_12 := hts (.fieldLink RX4 12 "MajorityIndex" "row" "LMajorityIndex$Row;") (List.mem_of_getElem? (i := 2) rfl)
  have hf_42 := hts (.fieldLink RX4 42 "MajorityIndex" "wins" "[I") (List.mem_of_getElem? (i := 3) rfl)
  have hf_57 := hts (.fieldLink RX4 57 "MajorityIndex$Row" "length" "I") (List.mem_of_getElem? (i := 4) rfl)
  have hi_0 : ∀ w ∈ u_ws RX0 TX0 2, w ∈ wsX4_slideWindow := fun w h => List.mem_cons_of_mem _ (List.mem_append_left _ (List.mem_append_right _ h))
  have n_p0 := ki_nat p0 rfl (om_51 b0)
  have n_l := ki_nat len rfl (om_10 a0)
  refine lv_aload_n hx hb dX4_slideWindow_0 rfl (lv_at hl 0 rfl) ?_
  refine va_get (D := (dC, dI)) (ci := 4) (v := .ref t_) (C := RX4) (T := TX4) (N := 9) hx hb hts hi_4 hown hK hP 0 rfl rfl 2 (by decide) hf_28 (fun _ h9 => h9) rfl dX4_slideWindow_1 ?_
  refine lv_aload_n hx hb dX4_slideWindow_4 rfl (lv_at hl 0 rfl) ?_
  refine va_get (D := (dC, dI)) (ci := 4) (v := .ref q_row) (C := RX4) (T := TX4) (N := 9) hx hb hts hi_4 hown hK hP 0 rfl rfl 0 (by decide) hf_12 (fun _ h9 => h9) rfl dX4_slideWindow_5 ?_
  obtain ⟨hPc, hDc, hFc, hCc⟩ := kx_pre (wc := [kx_1 t_ t_k t_o tk mo, kx_a t_k cyI 160 fk, kx_0 q_row q_cell len, kx_a q_cell cyI 160 f]) hP hD hS hA [3, 4, 1, 2] (by decide) rfl
  have hKc := hK
  refine va_callv (va_runV (As := [.ref q_row]) (rest := []) ⟨hx, hb, hml, hown, hts⟩ (kx_un (c_X1_learn_x l dC dI t_ t_k t_o cyI tk mo fk q_row q_cell len f s.heap.size a0 a1)) (cwV 1 hts gX4_slideWindow_X1_learn rfl rfl rfl (by decide +kernel) ⟨Nat.le_of_ble_eq_true rfl, Nat.le_of_ble_eq_true rfl⟩) ⟨fun a U g mk q => by obtain ⟨q0, q1, qP, qK, qD⟩ := q; exact ⟨q0, q1, qP, va_K.moved (u := U) (U := U.calling g mk a) (Vm.Alike.refl U.vm) qK, qD⟩, kx_rc1 hKc hPc (q0 := 0) rfl, fun U hU hW => ⟨rfl, by rw [hU], by rw [hU]; exact hPc, va_K.moved hW.alike hKc, hDc.weaken (fun _ _ _ _ => trivial)⟩⟩ rfl rfl hl.1 rfl (lv_room (Nat.le_of_ble_eq_true rfl)) dX4_slideWindow_8 ⟨Nat.le_of_ble_eq_true rfl, Nat.le_of_ble_eq_true rfl⟩) hS (fun q _ h => hFc q h) hFc (fun u t H1 locs ht hvm w_1 hB hz1 hk1 hS => ?_)
  obtain ⟨o_2, rfl⟩ : ∃ z, z = u := ⟨_, rfl⟩
  obtain ⟨hP1, hK1, hD1⟩ := hB
  rw [ht] at hP1
  have hK1 := va_K.moved hvm.symm hK1
  obtain ⟨hP, hD⟩ := kx_join (w2 := [kx_4 m_ q_row q_t t_ h0 k0 w_ z_ slots old, kx_a t_o cyI 160 fq, kx_a w_ cyI 160 fw, kx_1 t_ t_k t_o tk mo, kx_a t_k cyI 160 o_2, kx_0 q_row q_cell len, kx_a q_cell cyI 160 f]) hP hD hP1 hD1 hk1 hFc [3, 4, 1, 2] [0, 5, 6] hCc rfl (by decide) (by decide)
  clear hP1 hD1 hK1 hk1 hz1 hFc hDc hPc hKc hCc
  generalize H1 = H at hP hS ⊢
  have w_1 : kindOk o_2 len.toInt ∧ mj_kd f o_2 len.toNatClampNeg := w_1
  refine lv_aload_n hx hb dX4_slideWindow_11 rfl (lv_at hl 0 rfl) ?_
  refine va_get (D := (dC, dI)) (ci := 4) (v := .ref t_) (C := RX4) (T := TX4) (N := 9) hx hb hts hi_4 hown hK hP 0 rfl rfl 2 (by decide) hf_28 (fun _ h9 => h9) rfl dX4_slideWindow_12 ?_
  obtain ⟨hPc, hDc, hFc, hCc⟩ := kx_pre (wc := [kx_1 t_ t_k t_o tk mo, kx_a t_o cyI 160 fq]) hP hD hS hA [3, 1] (by decide) rfl
  have hKc := hK
  refine va_callv (va_runV (As := []) (rest := []) ⟨hx, hb, hml, hown, hts⟩ (kx_un (c_X1_clear l dC dI t_ t_k t_o cyI tk mo fq H.size)) (cwV 0 hts gX4_slideWindow_X1_clear rfl rfl rfl (by decide +kernel) ⟨Nat.le_of_ble_eq_true rfl, Nat.le_of_ble_eq_true rfl⟩) ⟨fun a U g mk q => by obtain ⟨q0, q1, qP, qK, qD⟩ := q; exact ⟨q0, q1, qP, va_K.moved (u := U) (U := U.calling g mk a) (Vm.Alike.refl U.vm) qK, qD⟩, kx_rc1 hKc hPc (q0 := 0) rfl, fun U hU hW => ⟨rfl, by rw [hU], by rw [hU]; exact hPc, va_K.moved hW.alike hKc, hDc.weaken (fun _ _ _ _ => trivial)⟩⟩ rfl rfl hl.1 rfl (lv_room (Nat.le_of_ble_eq_true rfl)) dX4_slideWindow_15 ⟨Nat.le_of_ble_eq_true rfl, Nat.le_of_ble_eq_true rfl⟩) hS (fun q _ h => hFc q h) hFc (fun u t H1 locs ht hvm w_3 hB hz1 hk1 hS => ?_)
  obtain ⟨o_4, rfl⟩ : ∃ z, z = u := ⟨_, rfl⟩
  obtain ⟨hP1, hK1, hD1⟩ := hB
  rw [ht] at hP1
  have hK1 := va_K.moved hvm.symm hK1
  obtain ⟨hP, hD⟩ := kx_join (w2 := [kx_4 m_ q_row q_t t_ h0 k0 w_ z_ slots old, kx_a w_ cyI 160 fw, kx_a t_k cyI 160 o_2, kx_0 q_row q_cell len, kx_a q_cell cyI 160 f, kx_1 t_ t_k t_o 0 0, kx_a t_o cyI 160 o_4]) hP hD hP1 hD1 hk1 hFc [3, 1] [0, 2, 4, 5, 6] hCc rfl (by decide) (by decide)
  clear hP1 hD1 hK1 hk1 hz1 hFc hDc hPc hKc hCc
  generalize H1 = H at hP hS ⊢
  have w_3 : ∀ k : Nat, k < 160 → o_4 k = 0 := w_3
  refine lv_aload_n hx hb dX4_slideWindow_18 rfl (lv_at hl 0 rfl) ?_
  refine va_get (D := (dC, dI)) (ci := 4) (v := .ref w_) (C := RX4) (T := TX4) (N := 9) hx hb hts hi_4 hown hK hP 0 rfl rfl 5 (by decide) hf_42 (fun _ h9 => h9) rfl dX4_slideWindow_19 ?_
  refine lv_iconst (v := 0) hx hb dX4_slideWindow_22 (by decide) ?_
  obtain ⟨hPc, hDc, hFc, hCc⟩ := kx_preM (wc := [kx_a w_ cyI 160 fw]) hP hD hS hA [false, true, false, false, false, false, false] rfl
  have hKc := hK
  refine va_callv (va_runS (As := [.ref w_, .int 0]) (rest := []) ⟨hx, hb, hml, hown, hts⟩ (kx_un (c_J7_fill_160 l dC dI w_ cyI fw 0 H.size)) (va_cwS 2 hts gX4_slideWindow_J7_fill_53178 rfl rfl rfl (by decide +kernel) ⟨Nat.le_of_ble_eq_true rfl, Nat.le_of_ble_eq_true rfl⟩) ⟨fun a U g mk q => by obtain ⟨q0, q1, qP, qK, qD⟩ := q; exact ⟨q0, q1, qP, va_K.moved (u := U) (U := U.calling g mk a) (Vm.Alike.refl U.vm) qK, qD⟩, fun U hU hW => ⟨rfl, by rw [hU], by rw [hU]; exact hPc, va_K.moved hW.alike hKc, hDc.weaken (fun _ _ _ _ => trivial)⟩⟩ rfl rfl hl.1 rfl (lv_room (Nat.le_of_ble_eq_true rfl)) dX4_slideWindow_23 ⟨Nat.le_of_ble_eq_true rfl, Nat.le_of_ble_eq_true rfl⟩) hS (fun q _ h => hFc q h) hFc (fun u t H1 locs ht hvm w_5 hB hz1 hk1 hS => ?_)
  obtain ⟨o_6, rfl⟩ : ∃ z, z = u := ⟨_, rfl⟩
  obtain ⟨hP1, hK1, hD1⟩ := hB
  rw [ht] at hP1
  have hK1 := va_K.moved hvm.symm hK1
  obtain ⟨hP, hD⟩ := kx_joinM (w2 := [kx_4 m_ q_row q_t t_ h0 k0 w_ z_ slots old, kx_a w_ cyI 160 o_6, kx_a t_k cyI 160 o_2, kx_0 q_row q_cell len, kx_a q_cell cyI 160 f, kx_1 t_ t_k t_o 0 0, kx_a t_o cyI 160 o_4]) hP hD hP1 hD1 hk1 hFc [false, true, false, false, false, false, false] hCc rfl
  clear hP1 hD1 hK1 hk1 hz1 hFc hDc hPc hKc hCc
  generalize H1 = H at hP hS ⊢
  have w_5 : ∀ k : Nat, k < 160 → o_6 k = 0 := w_5
  refine lv_iconst (v := 0) hx hb dX4_slideWindow_26 (by decide) ?_
  refine lv_istore (lv' := [(4, .int 0), (0, .ref m_), (1, .int p0), (2, .int p1), (3, .int p2)]) hx hb dX4_slideWindow_27 hl (by decide) rfl (fun ls hl => ?_)
  refine lv_iconst (v := 0) hx hb dX4_slideWindow_29 (by decide) ?_
  refine lv_istore (lv' := [(5, .int 0), (4, .int 0), (0, .ref m_), (1, .int p0), (2, .int p1), (3, .int p2)]) hx hb dX4_slideWindow_30 hl (by decide) rfl (fun ls hl => ?_)
  have LP1 : ∀ (n : Nat) (i : Int32) (so : Int32) (a_t : Int32) (a_m : Int32) (a_q : Nat → Int32) (aw : Nat → Int32), (0 ≤ i.toInt) → (mj_to f (fun k => (o_2 k).toNatClampNeg) a_q len.toNatClampNeg (i.toNatClampNeg - p0.toNatClampNeg) (i.toNatClampNeg - (i.toNatClampNeg - p0.toNatClampNeg))) → (mj_wn f o_2 aw p0.toNatClampNeg p1.toInt p2.toInt len.toNatClampNeg (i.toNatClampNeg + 1 - p0.toNatClampNeg)) → (so.toInt = (mj_ct (mj_ay f p0.toNatClampNeg p1.toInt p2.toInt) (i.toNatClampNeg + 1 - p0.toNatClampNeg) : Int)) → (i.toInt ≤ len.toInt) → (len.toInt - i.toInt).toNat < n → ∀ (H : Heap) (locs : List Loc), va_P (dC, dI) vwCl [kx_4 m_ q_row q_t t_ h0 k0 w_ z_ slots old, kx_a w_ cyI 160 aw, kx_a t_k cyI 160 o_2, kx_0 q_row q_cell len, kx_a q_cell cyI 160 f, kx_1 t_ t_k t_o a_t a_m, kx_a t_o cyI 160 a_q] H → va_D A [kx_4 m_ q_row q_t t_ h0 k0 w_ z_ slots old, kx_a w_ cyI 160 aw, kx_a t_k cyI 160 o_2, kx_0 q_row q_cell len, kx_a q_cell cyI 160 f, kx_1 t_ t_k t_o a_t a_m, kx_a t_o cyI 160 a_q] → va_S A s.heap H locs → ∀ (ls : Array Slot), lv_has ls 6 [(5, .int i), (4, .int so), (0, .ref m_), (1, .int p0), (2, .int p1), (3, .int p2)] → W p l e (headSpec wsX4_slideWindow ({ frames := 2, cells := 0, slots := 0, locals := 90 })).room s m ([.ref m_, .int p0, .int p1, .int p2] : List Value).toArray below meth c H locs 0 0 (MQ below (va_Qi (fun (r : Int32) (u : Int32 × Int32 × (Nat → Int32) × (Nat → Int32) × (Nat → Int32)) => mj_kd f u.2.2.1 len.toNatClampNeg ∧ mj_wn f u.2.2.1 u.2.2.2.2 p0.toNatClampNeg p1.toInt p2.toInt len.toNatClampNeg (len.toNatClampNeg + 1 - p0.toNatClampNeg) ∧ r.toInt = (mj_ct (mj_ay f p0.toNatClampNeg p1.toInt p2.toInt) (len.toNatClampNeg + 1 - p0.toNatClampNeg) : Int)) (fun (u : Int32 × Int32 × (Nat → Int32) × (Nat → Int32) × (Nat → Int32)) (t : State) => va_P (dC, dI) vwCl [kx_4 m_ q_row q_t t_ h0 k0 w_ z_ slots old, kx_0 q_row q_cell len, kx_a q_cell cyI 160 f, kx_1 t_ t_k t_o u.1 u.2.1, kx_a t_k cyI 160 u.2.2.1, kx_a t_o cyI 160 u.2.2.2.1, kx_a w_ cyI 160 u.2.2.2.2] t.heap ∧ va_K (dC, dI) vwCl [(cyI, .int)] t ∧ va_D A [kx_4 m_ q_row q_t t_ h0 k0 w_ z_ slots old, kx_0 q_row q_cell len, kx_a q_cell cyI 160 f, kx_1 t_ t_k t_o u.1 u.2.1, kx_a t_k cyI 160 u.2.2.1, kx_a t_o cyI 160 u.2.2.2.1, kx_a w_ cyI 160 u.2.2.2.2]) A) ([.ref m_, .int p0, .int p1, .int p2] : List Value).toArray s 0 0 A) (F0 m 32 ls []) := by
    intro n
    induction n with
    | zero => intro i so a_t a_m a_q aw LP1_h0 LP1_h1 LP1_h2 LP1_h3 LP1_h4 hn; exact absurd hn (Nat.not_lt_zero _)
    | succ n ih1 =>
      intro i so a_t a_m a_q aw LP1_h0 LP1_h1 LP1_h2 LP1_h3 LP1_h4 hn1 H locs hP hD hS ls hl
      have n_i := ki_nat i rfl (om_10 LP1_h0)
      have hle := mj_ct_le (mj_ay f p0.toNatClampNeg p1.toInt p2.toInt) (i.toNatClampNeg + 1 - p0.toNatClampNeg)
      refine lv_iload hx hb dX4_slideWindow_32 (lv_at hl 0 rfl) ?_
      refine lv_aload_n hx hb dX4_slideWindow_34 rfl (lv_at hl 2 rfl) ?_
      refine va_get (D := (dC, dI)) (ci := 4) (v := .ref q_row) (C := RX4) (T := TX4) (N := 9) hx hb hts hi_4 hown hK hP 0 rfl rfl 0 (by decide) hf_12 (fun _ h9 => h9) rfl dX4_slideWindow_35 ?_
      refine va_get (D := (dC, dI)) (ci := 0) (v := .int len) (C := RX0) (T := TX0) (N := 2) hx hb hts hi_0 hown hK hP 3 rfl rfl 1 (by decide) hf_57 (fun _ h9 => h9) rfl dX4_slideWindow_38 ?_
      refine lv_icmp_ge (tgt := 97) hx hb dX4_slideWindow_41 (by decide) (fun c_7 => ?_) (fun c_7 => ?_)
      · have i_7 : len.toInt ≤ i.toInt := kc_le c_7
        refine lv_iload hx hb dX4_slideWindow_97 (lv_at hl 1 rfl) ?_
        obtain ⟨hP9, hD9⟩ := kx_sub (w2 := [kx_4 m_ q_row q_t t_ h0 k0 w_ z_ slots old, kx_0 q_row q_cell len, kx_a q_cell cyI 160 f, kx_1 t_ t_k t_o a_t a_m, kx_a t_k cyI 160 o_2, kx_a t_o cyI 160 a_q, kx_a w_ cyI 160 aw]) hP hD [0, 3, 4, 5, 2, 6, 1] (by decide) rfl
        have hK9 := hK
        have q_i : i.toNatClampNeg = len.toNatClampNeg := by omega
        have h_2 := LP1_h2
        have h_3 := LP1_h3
        rw [q_i] at h_2 h_3
        exact W.iret (v := so) hx hb hr (hlocks := hlocks) (fun t ht hW => ⟨⟨so, (a_t, a_m, o_2, a_q, aw), rfl, ⟨w_1.2, h_2, h_3⟩, by rw [ht]; exact hP9, va_K.moved hW.alike hK9, hD9⟩, hS.F ht⟩) hS.2.2 dX4_slideWindow_99
      · have i_7 : i.toInt < len.toInt := kc_nle c_7
        refine lv_aload_n hx hb dX4_slideWindow_44 rfl (lv_at hl 2 rfl) ?_
        refine va_get (D := (dC, dI)) (ci := 4) (v := .ref t_) (C := RX4) (T := TX4) (N := 9) hx hb hts hi_4 hown hK hP 0 rfl rfl 2 (by decide) hf_28 (fun _ h9 => h9) rfl dX4_slideWindow_45 ?_
        refine lv_iload hx hb dX4_slideWindow_48 (lv_at hl 0 rfl) ?_
        obtain ⟨hPc, hDc, hFc, hCc⟩ := kx_pre (wc := [kx_1 t_ t_k t_o a_t a_m, kx_a t_k cyI 160 o_2, kx_a t_o cyI 160 a_q]) hP hD hS hA [5, 2, 6] (by decide) rfl
        have hKc := hK
        refine va_callv (va_runV (As := [.int i]) (rest := []) ⟨hx, hb, hml, hown, hts⟩ (kx_un (c_X1_take_o l dC dI t_ t_k t_o cyI a_t a_m o_2 a_q f len.toNatClampNeg (i.toNatClampNeg - p0.toNatClampNeg) (i.toNatClampNeg - (i.toNatClampNeg - p0.toNatClampNeg)) i H.size w_1.2 LP1_h1 (by omega) (by omega) (by omega) (by omega))) (cwV 1 hts gX4_slideWindow_X1_take rfl rfl rfl (by decide +kernel) ⟨Nat.le_of_ble_eq_true rfl, Nat.le_of_ble_eq_true rfl⟩) ⟨fun a U g mk q => by obtain ⟨q0, q1, qP, qK, qD⟩ := q; exact ⟨q0, q1, qP, va_K.moved (u := U) (U := U.calling g mk a) (Vm.Alike.refl U.vm) qK, qD⟩, kx_rc1 hKc hPc (q0 := 0) rfl, fun U hU hW => ⟨rfl, by rw [hU], by rw [hU]; exact hPc, va_K.moved hW.alike hKc, hDc.weaken (fun _ _ _ _ => trivial)⟩⟩ rfl rfl hl.1 rfl (lv_room (Nat.le_of_ble_eq_true rfl)) dX4_slideWindow_50 ⟨Nat.le_of_ble_eq_true rfl, Nat.le_of_ble_eq_true rfl⟩) hS (fun q _ h => hFc q h) hFc (fun u t H1 locs ht hvm w_8 hB hz1 hk1 hS => ?_)
        obtain ⟨o_9, o_10, o_11⟩ := u
        dsimp only at w_8 hB
        obtain ⟨hP1, hK1, hD1⟩ := hB
        rw [ht] at hP1
        have hK1 := va_K.moved hvm.symm hK1
        obtain ⟨hP, hD⟩ := kx_join (w2 := [kx_4 m_ q_row q_t t_ h0 k0 w_ z_ slots old, kx_a w_ cyI 160 aw, kx_0 q_row q_cell len, kx_a q_cell cyI 160 f, kx_1 t_ t_k t_o o_9 o_10, kx_a t_k cyI 160 o_2, kx_a t_o cyI 160 o_11]) hP hD hP1 hD1 hk1 hFc [5, 2, 6] [0, 1, 3, 4] hCc rfl (by decide) (by decide)
        clear hP1 hD1 hK1 hk1 hz1 hFc hDc hPc hKc hCc
        generalize H1 = H at hP hS ⊢
        have w_8 : mj_to f (fun k => (o_2 k).toNatClampNeg) o_11 len.toNatClampNeg (i.toNatClampNeg - p0.toNatClampNeg) ((i.toNatClampNeg - (i.toNatClampNeg - p0.toNatClampNeg)) + 1) := w_8
        refine lv_iload hx hb dX4_slideWindow_53 (lv_at hl 0 rfl) ?_
        refine lv_iload_n hx hb dX4_slideWindow_55 rfl (lv_at hl 3 rfl) ?_
        refine lv_icmp_lt (tgt := 70) hx hb dX4_slideWindow_56 (by decide) (fun c_12 => ?_) (fun c_12 => ?_)
        · have i_12 : i.toInt < p0.toInt := kc_lt c_12
          refine lv_iload hx hb dX4_slideWindow_70 (lv_at hl 0 rfl) ?_
          refine lv_iload_n hx hb dX4_slideWindow_72 rfl (lv_at hl 3 rfl) ?_
          refine lv_iconst (v := 1) hx hb dX4_slideWindow_73 (by decide) ?_
          refine lv_isub hx hb dX4_slideWindow_74 ?_
          refine lv_topi (fun y_13 ey_13 => ?_)
          have i_13 : y_13.toInt = p0.toInt - 1 := ki_sub ey_13 rfl rfl (om_182 b0) (om_183 a1 b1)
          refine lv_icmp_lt (tgt := 91) hx hb dX4_slideWindow_75 (by decide) (fun c_14 => ?_) (fun c_14 => ?_)
          · have i_14 : i.toInt < y_13.toInt := kc_lt c_14
            obtain ⟨x_15, ex_15⟩ : ∃ y : Int32, y = i + 1 := ⟨_, rfl⟩
            have i_15 : x_15.toInt = i.toInt + 1 := ki_add ex_15 rfl rfl (om_13 LP1_h0) (om_238 a1 LP1_h4)
            refine lv_iinc (v := x_15) (lv' := [(5, .int x_15), (4, .int so), (0, .ref m_), (1, .int p0), (2, .int p1), (3, .int p2)]) hx hb dX4_slideWindow_91 hl (k := 0) rfl (by rw [ex_15]; rfl) (by decide) rfl (fun ls hl => ?_)
            refine lv_goto (tgt := 32) hx hb dX4_slideWindow_94 (by decide) ?_
            have hP : va_P (dC, dI) vwCl [kx_4 m_ q_row q_t t_ h0 k0 w_ z_ slots old, kx_a w_ cyI 160 aw, kx_a t_k cyI 160 o_2, kx_0 q_row q_cell len, kx_a q_cell cyI 160 f, kx_1 t_ t_k t_o o_9 o_10, kx_a t_o cyI 160 o_11] _ := hP.sub [0, 1, 5, 2, 3, 4, 6] rfl
            have hD : va_D A [kx_4 m_ q_row q_t t_ h0 k0 w_ z_ slots old, kx_a w_ cyI 160 aw, kx_a t_k cyI 160 o_2, kx_0 q_row q_cell len, kx_a q_cell cyI 160 f, kx_1 t_ t_k t_o o_9 o_10, kx_a t_o cyI 160 o_11] := hD.sub [0, 1, 5, 2, 3, 4, 6] (by decide) rfl
            have n_16 := ki_nat x_15 rfl (om_34 LP1_h0 i_15)
            have h_to : mj_to f (fun k => (o_2 k).toNatClampNeg) o_11 len.toNatClampNeg (i.toNatClampNeg + 1 - p0.toNatClampNeg) (i.toNatClampNeg + 1 - (i.toNatClampNeg + 1 - p0.toNatClampNeg)) := by rw [show i.toNatClampNeg + 1 - p0.toNatClampNeg = (i.toNatClampNeg - p0.toNatClampNeg) by omega, show i.toNatClampNeg + 1 - ((i.toNatClampNeg - p0.toNatClampNeg)) = (i.toNatClampNeg - (i.toNatClampNeg - p0.toNatClampNeg)) + 1 by omega]; exact w_8
            exact ih1 x_15 so o_9 o_10 o_11 aw (om_34 LP1_h0 i_15) (by rw [show x_15.toNatClampNeg = i.toNatClampNeg + 1 by omega]; exact h_to) (by rw [show x_15.toNatClampNeg + 1 - p0.toNatClampNeg = (i.toNatClampNeg + 1 - p0.toNatClampNeg) by omega]; exact LP1_h2) (by rw [show x_15.toNatClampNeg + 1 - p0.toNatClampNeg = (i.toNatClampNeg + 1 - p0.toNatClampNeg) by omega]; exact LP1_h3) (om_54 i_7 i_15) (om_mu hn1 (om_5 i_15) (om_6 i_7)) _ _ hP hD hS ls (lv_sub hl [0, 1, 2, 3, 4, 5] rfl)
          · have i_14 : y_13.toInt ≤ i.toInt := kc_nlt c_14
            refine lv_aload_n hx hb dX4_slideWindow_78 rfl (lv_at hl 2 rfl) ?_
            refine lv_iload_n hx hb dX4_slideWindow_79 rfl (lv_at hl 3 rfl) ?_
            refine lv_iload_n hx hb dX4_slideWindow_80 rfl (lv_at hl 4 rfl) ?_
            refine lv_iload_n hx hb dX4_slideWindow_81 rfl (lv_at hl 5 rfl) ?_
            have h_to : mj_to f (fun k => (o_2 k).toNatClampNeg) o_11 len.toNatClampNeg (i.toNatClampNeg + 1 - p0.toNatClampNeg) (i.toNatClampNeg + 1 - (i.toNatClampNeg + 1 - p0.toNatClampNeg)) := by rw [show i.toNatClampNeg + 1 - p0.toNatClampNeg = (i.toNatClampNeg - p0.toNatClampNeg) by omega, show i.toNatClampNeg + 1 - ((i.toNatClampNeg - p0.toNatClampNeg)) = (i.toNatClampNeg - (i.toNatClampNeg - p0.toNatClampNeg)) + 1 by omega]; exact w_8
            have h_tw : mj_to f (fun k => (o_2 k).toNatClampNeg) o_11 len.toNatClampNeg (i.toNatClampNeg + 1 - p0.toNatClampNeg) p0.toNatClampNeg := by have h9 := h_to; rw [show i.toNatClampNeg + 1 - (i.toNatClampNeg + 1 - p0.toNatClampNeg) = p0.toNatClampNeg by omega] at h9; exact h9
            have h_pw : 0 ≤ p1.toInt * (p0.toNatClampNeg : Int) := Int.mul_nonneg (by omega) (by omega)
            obtain ⟨hPc, hDc, hFc, hCc⟩ := kx_pre (wc := [kx_4 m_ q_row q_t t_ h0 k0 w_ z_ slots old, kx_0 q_row q_cell len, kx_a q_cell cyI 160 f, kx_1 t_ t_k t_o o_9 o_10, kx_a t_k cyI 160 o_2, kx_a t_o cyI 160 o_11, kx_a w_ cyI 160 aw]) hP hD hS hA [0, 2, 3, 4, 5, 6, 1] (by decide) rfl
            have hKc := hK
            refine va_calli (va_runV (As := [.int p0, .int p1, .int p2]) (rest := []) ⟨hx, hb, hml, hown, hts⟩ (kx_un (c_X4_creditHeavy_x l dC dI m_ q_row q_t t_ h0 k0 w_ z_ slots old q_cell cyI len f t_k t_o o_9 o_10 o_2 o_11 aw p0 p1 p2 H.size a0 a1 b0 (om_167 a1 b1) e0 (om_512 e1 e2) (om_513 e0 e1) e2 (fun k hk => by by_cases z : (o_2 k).toNatClampNeg = k; (have h9 := h_tw.1 k hk; dsimp only at h9; rw [z] at h9; have h8 := cnt_le f (f k) (i.toNatClampNeg + 1 - p0.toNatClampNeg) p0.toNatClampNeg; omega); (have h9 := h_tw.2 k hk z; omega)) (fun k hk => by have h9 := LP1_h2 k hk; have h8 := mj_ct_le (mj_wv f p0.toNatClampNeg p1.toInt p2.toInt (f k)) (i.toNatClampNeg + 1 - p0.toNatClampNeg); by_cases z : (o_2 k).toNatClampNeg = k; (have h7 := h9.1 z; omega); (have h7 := h9.2 z; omega)))) (cwV 3 hts gX4_slideWindow_X4_creditHeavy rfl rfl rfl (by decide +kernel) ⟨Nat.le_of_ble_eq_true rfl, Nat.le_of_ble_eq_true rfl⟩) ⟨fun a U g mk q => by obtain ⟨q0, q1, qP, qK, qD⟩ := q; exact ⟨q0, q1, qP, va_K.moved (u := U) (U := U.calling g mk a) (Vm.Alike.refl U.vm) qK, qD⟩, kx_rc4 hKc hPc (q0 := 0) rfl, fun U hU hW => ⟨rfl, by rw [hU], by rw [hU]; exact hPc, va_K.moved hW.alike hKc, hDc.weaken (fun _ _ _ _ => trivial)⟩⟩ rfl rfl hl.1 rfl (lv_room (Nat.le_of_ble_eq_true rfl)) dX4_slideWindow_82 ⟨Nat.le_of_ble_eq_true rfl, Nat.le_of_ble_eq_true rfl⟩) hS (fun q _ h => hFc q h) hFc (fun r_17 u t H1 locs ht hvm w_17 hB hz1 hk1 hS => ?_)
            obtain ⟨o_18, rfl⟩ : ∃ z, z = u := ⟨_, rfl⟩
            obtain ⟨hP1, hK1, hD1⟩ := hB
            rw [ht] at hP1
            have hK1 := va_K.moved hvm.symm hK1
            obtain ⟨hP, hD⟩ := kx_join (w2 := [kx_4 m_ q_row q_t t_ h0 k0 w_ z_ slots old, kx_0 q_row q_cell len, kx_a q_cell cyI 160 f, kx_1 t_ t_k t_o o_9 o_10, kx_a t_k cyI 160 o_2, kx_a t_o cyI 160 o_11, kx_a w_ cyI 160 o_18]) hP hD hP1 hD1 hk1 hFc [0, 2, 3, 4, 5, 6, 1] [] hCc rfl (by decide) (by decide)
            clear hP1 hD1 hK1 hk1 hz1 hFc hDc hPc hKc hCc
            generalize H1 = H at hP hS ⊢
            have w_17 : mj_cr2 o_11 o_18 aw p0.toNatClampNeg p1.toInt p2.toInt len.toNatClampNeg ∧ ((r_17 = 1 ∧ mj_sx o_11 (p1.toInt * (p0.toNatClampNeg : Int)) p2.toInt len.toNatClampNeg) ∨ (r_17 = 0 ∧ ∀ k : Nat, k < len.toNatClampNeg → (o_11 k).toInt * p2.toInt ≤ p1.toInt * (p0.toNatClampNeg : Int))) := w_17
            refine lv_if_eq (tgt := 91) hx hb dX4_slideWindow_85 (by decide) (fun c_19 => ?_) (fun c_19 => ?_)
            · have i_19 : r_17.toInt = 0 := kc_eq c_19
              obtain ⟨x_20, ex_20⟩ : ∃ y : Int32, y = i + 1 := ⟨_, rfl⟩
              have i_20 : x_20.toInt = i.toInt + 1 := ki_add ex_20 rfl rfl (om_13 LP1_h0) (om_238 a1 LP1_h4)
              refine lv_iinc (v := x_20) (lv' := [(5, .int x_20), (4, .int so), (0, .ref m_), (1, .int p0), (2, .int p1), (3, .int p2)]) hx hb dX4_slideWindow_91 hl (k := 0) rfl (by rw [ex_20]; rfl) (by decide) rfl (fun ls hl => ?_)
              refine lv_goto (tgt := 32) hx hb dX4_slideWindow_94 (by decide) ?_
              have hP : va_P (dC, dI) vwCl [kx_4 m_ q_row q_t t_ h0 k0 w_ z_ slots old, kx_a w_ cyI 160 o_18, kx_a t_k cyI 160 o_2, kx_0 q_row q_cell len, kx_a q_cell cyI 160 f, kx_1 t_ t_k t_o o_9 o_10, kx_a t_o cyI 160 o_11] _ := hP.sub [0, 6, 4, 1, 2, 3, 5] rfl
              have hD : va_D A [kx_4 m_ q_row q_t t_ h0 k0 w_ z_ slots old, kx_a w_ cyI 160 o_18, kx_a t_k cyI 160 o_2, kx_0 q_row q_cell len, kx_a q_cell cyI 160 f, kx_1 t_ t_k t_o o_9 o_10, kx_a t_o cyI 160 o_11] := hD.sub [0, 6, 4, 1, 2, 3, 5] (by decide) rfl
              have n_21 := ki_nat x_20 rfl (om_34 LP1_h0 i_20)
              have h_if := mj_ay_iff (p := p1.toInt) (q := p2.toInt) w_1.2 h_tw (by omega) h_pw
              have k_1 : (1 : Int32).toInt = 1 := rfl
              have k_00 : (0 : Int32).toInt = 0 := rfl
              have st := mj_ct_no (P := mj_ay f p0.toNatClampNeg p1.toInt p2.toInt) (k := (i.toNatClampNeg + 1 - p0.toNatClampNeg)) (k2 := x_20.toNatClampNeg + 1 - p0.toNatClampNeg) (by omega) (fun z => by obtain ⟨k, k1, k2⟩ := h_if.mp z; rcases w_17.2 with g | g; exact absurd (congrArg Int32.toInt g.1) (by omega); exact absurd k2 (Int.not_lt.mpr (g.2 k k1)))
              exact ih1 x_20 so o_9 o_10 o_11 o_18 (om_34 LP1_h0 i_20) (by rw [show x_20.toNatClampNeg = i.toNatClampNeg + 1 by omega]; exact h_to) (mj_wn_next LP1_h2 h_tw w_17.1 (by omega) rfl h_pw) (by rw [st]; omega) (om_54 i_7 i_20) (om_mu hn1 (om_5 i_20) (om_6 i_7)) _ _ hP hD hS ls (lv_sub hl [0, 1, 2, 3, 4, 5] rfl)
            · have i_19 : ¬ r_17.toInt = 0 := kc_ne c_19
              obtain ⟨x_22, ex_22⟩ : ∃ y : Int32, y = so + 1 := ⟨_, rfl⟩
              have i_22 : x_22.toInt = so.toInt + 1 := ki_add ex_22 rfl rfl (om_381 LP1_h3 (Int.natCast_nonneg _)) (by omega)
              refine lv_iinc (v := x_22) (lv' := [(4, .int x_22), (5, .int i), (0, .ref m_), (1, .int p0), (2, .int p1), (3, .int p2)]) hx hb dX4_slideWindow_88 hl (k := 1) rfl (by rw [ex_22]; rfl) (by decide) rfl (fun ls hl => ?_)
              obtain ⟨x_23, ex_23⟩ : ∃ y : Int32, y = i + 1 := ⟨_, rfl⟩
              have i_23 : x_23.toInt = i.toInt + 1 := ki_add ex_23 rfl rfl (om_13 LP1_h0) (om_238 a1 LP1_h4)
              refine lv_iinc (v := x_23) (lv' := [(5, .int x_23), (4, .int x_22), (0, .ref m_), (1, .int p0), (2, .int p1), (3, .int p2)]) hx hb dX4_slideWindow_91 hl (k := 1) rfl (by rw [ex_23]; rfl) (by decide) rfl (fun ls hl => ?_)
              refine lv_goto (tgt := 32) hx hb dX4_slideWindow_94 (by decide) ?_
              have hP : va_P (dC, dI) vwCl [kx_4 m_ q_row q_t t_ h0 k0 w_ z_ slots old, kx_a w_ cyI 160 o_18, kx_a t_k cyI 160 o_2, kx_0 q_row q_cell len, kx_a q_cell cyI 160 f, kx_1 t_ t_k t_o o_9 o_10, kx_a t_o cyI 160 o_11] _ := hP.sub [0, 6, 4, 1, 2, 3, 5] rfl
              have hD : va_D A [kx_4 m_ q_row q_t t_ h0 k0 w_ z_ slots old, kx_a w_ cyI 160 o_18, kx_a t_k cyI 160 o_2, kx_0 q_row q_cell len, kx_a q_cell cyI 160 f, kx_1 t_ t_k t_o o_9 o_10, kx_a t_o cyI 160 o_11] := hD.sub [0, 6, 4, 1, 2, 3, 5] (by decide) rfl
              have n_24 := ki_nat x_23 rfl (om_34 LP1_h0 i_23)
              have h_if := mj_ay_iff (p := p1.toInt) (q := p2.toInt) w_1.2 h_tw (by omega) h_pw
              have k_1 : (1 : Int32).toInt = 1 := rfl
              have k_00 : (0 : Int32).toInt = 0 := rfl
              have st := mj_ct_yes (P := mj_ay f p0.toNatClampNeg p1.toInt p2.toInt) (k := (i.toNatClampNeg + 1 - p0.toNatClampNeg)) (k2 := x_23.toNatClampNeg + 1 - p0.toNatClampNeg) (by omega) (h_if.mpr (by rcases w_17.2 with g | g; exact g.2; exact absurd (congrArg Int32.toInt g.1) (by omega)))
              exact ih1 x_23 x_22 o_9 o_10 o_11 o_18 (om_34 LP1_h0 i_23) (by rw [show x_23.toNatClampNeg = i.toNatClampNeg + 1 by omega]; exact h_to) (mj_wn_next LP1_h2 h_tw w_17.1 (by omega) rfl h_pw) (by rw [st]; omega) (om_54 i_7 i_23) (om_mu hn1 (om_5 i_23) (om_6 i_7)) _ _ hP hD hS ls (lv_sub hl [0, 1, 2, 3, 4, 5] rfl)
        · have i_12 : p0.toInt ≤ i.toInt := kc_nlt c_12
          refine lv_aload_n hx hb dX4_slideWindow_59 rfl (lv_at hl 2 rfl) ?_
          refine va_get (D := (dC, dI)) (ci := 4) (v := .ref t_) (C := RX4) (T := TX4) (N := 9) hx hb hts hi_4 hown hK hP 0 rfl rfl 2 (by decide) hf_28 (fun _ h9 => h9) rfl dX4_slideWindow_60 ?_
          refine lv_iload hx hb dX4_slideWindow_63 (lv_at hl 0 rfl) ?_
          refine lv_iload_n hx hb dX4_slideWindow_65 rfl (lv_at hl 3 rfl) ?_
          refine lv_isub hx hb dX4_slideWindow_66 ?_
          refine lv_topi (fun y_25 ey_25 => ?_)
          have i_25 : y_25.toInt = i.toInt - p0.toInt := ki_sub ey_25 rfl rfl (om_184 i_12) (om_514 a1 b0 LP1_h4)
          have n_66 := ki_nat y_25 rfl (om_186 i_12 i_25)
          obtain ⟨hPc, hDc, hFc, hCc⟩ := kx_preM (wc := [kx_1 t_ t_k t_o o_9 o_10, kx_a t_k cyI 160 o_2, kx_a t_o cyI 160 o_11]) hP hD hS hA [false, false, false, false, true, true, true] rfl
          have hKc := hK
          refine va_callv (va_runV (As := [.int y_25]) (rest := []) ⟨hx, hb, hml, hown, hts⟩ (kx_un (c_X1_drop_o l dC dI t_ t_k t_o cyI o_9 o_10 o_2 o_11 f len.toNatClampNeg (i.toNatClampNeg - p0.toNatClampNeg) ((i.toNatClampNeg - (i.toNatClampNeg - p0.toNatClampNeg)) + 1) y_25 H.size w_1.2 w_8 (by omega) (by omega) (by omega) (by omega) (by omega) (by omega))) (cwV 1 hts gX4_slideWindow_X1_drop rfl rfl rfl (by decide +kernel) ⟨Nat.le_of_ble_eq_true rfl, Nat.le_of_ble_eq_true rfl⟩) ⟨fun a U g mk q => by obtain ⟨q0, q1, qP, qK, qD⟩ := q; exact ⟨q0, q1, qP, va_K.moved (u := U) (U := U.calling g mk a) (Vm.Alike.refl U.vm) qK, qD⟩, kx_rc1 hKc hPc (q0 := 0) rfl, fun U hU hW => ⟨rfl, by rw [hU], by rw [hU]; exact hPc, va_K.moved hW.alike hKc, hDc.weaken (fun _ _ _ _ => trivial)⟩⟩ rfl rfl hl.1 rfl (lv_room (Nat.le_of_ble_eq_true rfl)) dX4_slideWindow_67 ⟨Nat.le_of_ble_eq_true rfl, Nat.le_of_ble_eq_true rfl⟩) hS (fun q _ h => hFc q h) hFc (fun u t H1 locs ht hvm w_26 hB hz1 hk1 hS => ?_)
          obtain ⟨o_27, o_28⟩ := u
          dsimp only at w_26 hB
          obtain ⟨hP1, hK1, hD1⟩ := hB
          rw [ht] at hP1
          have hK1 := va_K.moved hvm.symm hK1
          obtain ⟨hP, hD⟩ := kx_joinM (w2 := [kx_4 m_ q_row q_t t_ h0 k0 w_ z_ slots old, kx_a w_ cyI 160 aw, kx_0 q_row q_cell len, kx_a q_cell cyI 160 f, kx_1 t_ t_k t_o o_27 o_10, kx_a t_k cyI 160 o_2, kx_a t_o cyI 160 o_28]) hP hD hP1 hD1 hk1 hFc [false, false, false, false, true, true, true] hCc rfl
          clear hP1 hD1 hK1 hk1 hz1 hFc hDc hPc hKc hCc
          generalize H1 = H at hP hS ⊢
          have w_26 : mj_to f (fun k => (o_2 k).toNatClampNeg) o_28 len.toNatClampNeg ((i.toNatClampNeg - p0.toNatClampNeg) + 1) (((i.toNatClampNeg - (i.toNatClampNeg - p0.toNatClampNeg)) + 1) - 1) := w_26
          refine lv_iload hx hb dX4_slideWindow_70 (lv_at hl 0 rfl) ?_
          refine lv_iload_n hx hb dX4_slideWindow_72 rfl (lv_at hl 3 rfl) ?_
          refine lv_iconst (v := 1) hx hb dX4_slideWindow_73 (by decide) ?_
          refine lv_isub hx hb dX4_slideWindow_74 ?_
          refine lv_topi (fun y_29 ey_29 => ?_)
          have i_29 : y_29.toInt = p0.toInt - 1 := ki_sub ey_29 rfl rfl (om_182 b0) (om_183 a1 b1)
          refine lv_icmp_lt (tgt := 91) hx hb dX4_slideWindow_75 (by decide) (fun c_30 => ?_) (fun c_30 => ?_)
          · have i_30 : i.toInt < y_29.toInt := kc_lt c_30
            exfalso; omega
          · have i_30 : y_29.toInt ≤ i.toInt := kc_nlt c_30
            refine lv_aload_n hx hb dX4_slideWindow_78 rfl (lv_at hl 2 rfl) ?_
            refine lv_iload_n hx hb dX4_slideWindow_79 rfl (lv_at hl 3 rfl) ?_
            refine lv_iload_n hx hb dX4_slideWindow_80 rfl (lv_at hl 4 rfl) ?_
            refine lv_iload_n hx hb dX4_slideWindow_81 rfl (lv_at hl 5 rfl) ?_
            have h_to : mj_to f (fun k => (o_2 k).toNatClampNeg) o_28 len.toNatClampNeg (i.toNatClampNeg + 1 - p0.toNatClampNeg) (i.toNatClampNeg + 1 - (i.toNatClampNeg + 1 - p0.toNatClampNeg)) := by rw [show i.toNatClampNeg + 1 - p0.toNatClampNeg = (i.toNatClampNeg - p0.toNatClampNeg) + 1 by omega, show i.toNatClampNeg + 1 - ((i.toNatClampNeg - p0.toNatClampNeg) + 1) = (i.toNatClampNeg - (i.toNatClampNeg - p0.toNatClampNeg)) + 1 - 1 by omega]; exact w_26
            have h_tw : mj_to f (fun k => (o_2 k).toNatClampNeg) o_28 len.toNatClampNeg (i.toNatClampNeg + 1 - p0.toNatClampNeg) p0.toNatClampNeg := by have h9 := h_to; rw [show i.toNatClampNeg + 1 - (i.toNatClampNeg + 1 - p0.toNatClampNeg) = p0.toNatClampNeg by omega] at h9; exact h9
            have h_pw : 0 ≤ p1.toInt * (p0.toNatClampNeg : Int) := Int.mul_nonneg (by omega) (by omega)
            obtain ⟨hPc, hDc, hFc, hCc⟩ := kx_pre (wc := [kx_4 m_ q_row q_t t_ h0 k0 w_ z_ slots old, kx_0 q_row q_cell len, kx_a q_cell cyI 160 f, kx_1 t_ t_k t_o o_27 o_10, kx_a t_k cyI 160 o_2, kx_a t_o cyI 160 o_28, kx_a w_ cyI 160 aw]) hP hD hS hA [0, 2, 3, 4, 5, 6, 1] (by decide) rfl
            have hKc := hK
            refine va_calli (va_runV (As := [.int p0, .int p1, .int p2]) (rest := []) ⟨hx, hb, hml, hown, hts⟩ (kx_un (c_X4_creditHeavy_x l dC dI m_ q_row q_t t_ h0 k0 w_ z_ slots old q_cell cyI len f t_k t_o o_27 o_10 o_2 o_28 aw p0 p1 p2 H.size a0 a1 b0 (om_167 a1 b1) e0 (om_512 e1 e2) (om_513 e0 e1) e2 (fun k hk => by by_cases z : (o_2 k).toNatClampNeg = k; (have h9 := h_tw.1 k hk; dsimp only at h9; rw [z] at h9; have h8 := cnt_le f (f k) (i.toNatClampNeg + 1 - p0.toNatClampNeg) p0.toNatClampNeg; omega); (have h9 := h_tw.2 k hk z; omega)) (fun k hk => by have h9 := LP1_h2 k hk; have h8 := mj_ct_le (mj_wv f p0.toNatClampNeg p1.toInt p2.toInt (f k)) (i.toNatClampNeg + 1 - p0.toNatClampNeg); by_cases z : (o_2 k).toNatClampNeg = k; (have h7 := h9.1 z; omega); (have h7 := h9.2 z; omega)))) (cwV 3 hts gX4_slideWindow_X4_creditHeavy rfl rfl rfl (by decide +kernel) ⟨Nat.le_of_ble_eq_true rfl, Nat.le_of_ble_eq_true rfl⟩) ⟨fun a U g mk q => by obtain ⟨q0, q1, qP, qK, qD⟩ := q; exact ⟨q0, q1, qP, va_K.moved (u := U) (U := U.calling g mk a) (Vm.Alike.refl U.vm) qK, qD⟩, kx_rc4 hKc hPc (q0 := 0) rfl, fun U hU hW => ⟨rfl, by rw [hU], by rw [hU]; exact hPc, va_K.moved hW.alike hKc, hDc.weaken (fun _ _ _ _ => trivial)⟩⟩ rfl rfl hl.1 rfl (lv_room (Nat.le_of_ble_eq_true rfl)) dX4_slideWindow_82 ⟨Nat.le_of_ble_eq_true rfl, Nat.le_of_ble_eq_true rfl⟩) hS (fun q _ h => hFc q h) hFc (fun r_31 u t H1 locs ht hvm w_31 hB hz1 hk1 hS => ?_)
            obtain ⟨o_32, rfl⟩ : ∃ z, z = u := ⟨_, rfl⟩
            obtain ⟨hP1, hK1, hD1⟩ := hB
            rw [ht] at hP1
            have hK1 := va_K.moved hvm.symm hK1
            obtain ⟨hP, hD⟩ := kx_join (w2 := [kx_4 m_ q_row q_t t_ h0 k0 w_ z_ slots old, kx_0 q_row q_cell len, kx_a q_cell cyI 160 f, kx_1 t_ t_k t_o o_27 o_10, kx_a t_k cyI 160 o_2, kx_a t_o cyI 160 o_28, kx_a w_ cyI 160 o_32]) hP hD hP1 hD1 hk1 hFc [0, 2, 3, 4, 5, 6, 1] [] hCc rfl (by decide) (by decide)
            clear hP1 hD1 hK1 hk1 hz1 hFc hDc hPc hKc hCc
            generalize H1 = H at hP hS ⊢
            have w_31 : mj_cr2 o_28 o_32 aw p0.toNatClampNeg p1.toInt p2.toInt len.toNatClampNeg ∧ ((r_31 = 1 ∧ mj_sx o_28 (p1.toInt * (p0.toNatClampNeg : Int)) p2.toInt len.toNatClampNeg) ∨ (r_31 = 0 ∧ ∀ k : Nat, k < len.toNatClampNeg → (o_28 k).toInt * p2.toInt ≤ p1.toInt * (p0.toNatClampNeg : Int))) := w_31
            refine lv_if_eq (tgt := 91) hx hb dX4_slideWindow_85 (by decide) (fun c_33 => ?_) (fun c_33 => ?_)
            · have i_33 : r_31.toInt = 0 := kc_eq c_33
              obtain ⟨x_34, ex_34⟩ : ∃ y : Int32, y = i + 1 := ⟨_, rfl⟩
              have i_34 : x_34.toInt = i.toInt + 1 := ki_add ex_34 rfl rfl (om_13 LP1_h0) (om_238 a1 LP1_h4)
              refine lv_iinc (v := x_34) (lv' := [(5, .int x_34), (4, .int so), (0, .ref m_), (1, .int p0), (2, .int p1), (3, .int p2)]) hx hb dX4_slideWindow_91 hl (k := 0) rfl (by rw [ex_34]; rfl) (by decide) rfl (fun ls hl => ?_)
              refine lv_goto (tgt := 32) hx hb dX4_slideWindow_94 (by decide) ?_
              have hP : va_P (dC, dI) vwCl [kx_4 m_ q_row q_t t_ h0 k0 w_ z_ slots old, kx_a w_ cyI 160 o_32, kx_a t_k cyI 160 o_2, kx_0 q_row q_cell len, kx_a q_cell cyI 160 f, kx_1 t_ t_k t_o o_27 o_10, kx_a t_o cyI 160 o_28] _ := hP.sub [0, 6, 4, 1, 2, 3, 5] rfl
              have hD : va_D A [kx_4 m_ q_row q_t t_ h0 k0 w_ z_ slots old, kx_a w_ cyI 160 o_32, kx_a t_k cyI 160 o_2, kx_0 q_row q_cell len, kx_a q_cell cyI 160 f, kx_1 t_ t_k t_o o_27 o_10, kx_a t_o cyI 160 o_28] := hD.sub [0, 6, 4, 1, 2, 3, 5] (by decide) rfl
              have n_35 := ki_nat x_34 rfl (om_34 LP1_h0 i_34)
              have h_if := mj_ay_iff (p := p1.toInt) (q := p2.toInt) w_1.2 h_tw (by omega) h_pw
              have k_1 : (1 : Int32).toInt = 1 := rfl
              have k_00 : (0 : Int32).toInt = 0 := rfl
              have st := mj_ct_no (P := mj_ay f p0.toNatClampNeg p1.toInt p2.toInt) (k := (i.toNatClampNeg + 1 - p0.toNatClampNeg)) (k2 := x_34.toNatClampNeg + 1 - p0.toNatClampNeg) (by omega) (fun z => by obtain ⟨k, k1, k2⟩ := h_if.mp z; rcases w_31.2 with g | g; exact absurd (congrArg Int32.toInt g.1) (by omega); exact absurd k2 (Int.not_lt.mpr (g.2 k k1)))
              exact ih1 x_34 so o_27 o_10 o_28 o_32 (om_34 LP1_h0 i_34) (by rw [show x_34.toNatClampNeg = i.toNatClampNeg + 1 by omega]; exact h_to) (mj_wn_next LP1_h2 h_tw w_31.1 (by omega) rfl h_pw) (by rw [st]; omega) (om_54 i_7 i_34) (om_mu hn1 (om_5 i_34) (om_6 i_7)) _ _ hP hD hS ls (lv_sub hl [0, 1, 2, 3, 4, 5] rfl)
            · have i_33 : ¬ r_31.toInt = 0 := kc_ne c_33
              obtain ⟨x_36, ex_36⟩ : ∃ y : Int32, y = so + 1 := ⟨_, rfl⟩
              have i_36 : x_36.toInt = so.toInt + 1 := ki_add ex_36 rfl rfl (om_381 LP1_h3 (Int.natCast_nonneg _)) (by omega)
              refine lv_iinc (v := x_36) (lv' := [(4, .int x_36), (5, .int i), (0, .ref m_), (1, .int p0), (2, .int p1), (3, .int p2)]) hx hb dX4_slideWindow_88 hl (k := 1) rfl (by rw [ex_36]; rfl) (by decide) rfl (fun ls hl => ?_)
              obtain ⟨x_37, ex_37⟩ : ∃ y : Int32, y = i + 1 := ⟨_, rfl⟩
              have i_37 : x_37.toInt = i.toInt + 1 := ki_add ex_37 rfl rfl (om_13 LP1_h0) (om_238 a1 LP1_h4)
              refine lv_iinc (v := x_37) (lv' := [(5, .int x_37), (4, .int x_36), (0, .ref m_), (1, .int p0), (2, .int p1), (3, .int p2)]) hx hb dX4_slideWindow_91 hl (k := 1) rfl (by rw [ex_37]; rfl) (by decide) rfl (fun ls hl => ?_)
              refine lv_goto (tgt := 32) hx hb dX4_slideWindow_94 (by decide) ?_
              have hP : va_P (dC, dI) vwCl [kx_4 m_ q_row q_t t_ h0 k0 w_ z_ slots old, kx_a w_ cyI 160 o_32, kx_a t_k cyI 160 o_2, kx_0 q_row q_cell len, kx_a q_cell cyI 160 f, kx_1 t_ t_k t_o o_27 o_10, kx_a t_o cyI 160 o_28] _ := hP.sub [0, 6, 4, 1, 2, 3, 5] rfl
              have hD : va_D A [kx_4 m_ q_row q_t t_ h0 k0 w_ z_ slots old, kx_a w_ cyI 160 o_32, kx_a t_k cyI 160 o_2, kx_0 q_row q_cell len, kx_a q_cell cyI 160 f, kx_1 t_ t_k t_o o_27 o_10, kx_a t_o cyI 160 o_28] := hD.sub [0, 6, 4, 1, 2, 3, 5] (by decide) rfl
              have n_38 := ki_nat x_37 rfl (om_34 LP1_h0 i_37)
              have h_if := mj_ay_iff (p := p1.toInt) (q := p2.toInt) w_1.2 h_tw (by omega) h_pw
              have k_1 : (1 : Int32).toInt = 1 := rfl
              have k_00 : (0 : Int32).toInt = 0 := rfl
              have st := mj_ct_yes (P := mj_ay f p0.toNatClampNeg p1.toInt p2.toInt) (k := (i.toNatClampNeg + 1 - p0.toNatClampNeg)) (k2 := x_37.toNatClampNeg + 1 - p0.toNatClampNeg) (by omega) (h_if.mpr (by rcases w_31.2 with g | g; exact g.2; exact absurd (congrArg Int32.toInt g.1) (by omega)))
              exact ih1 x_37 x_36 o_27 o_10 o_28 o_32 (om_34 LP1_h0 i_37) (by rw [show x_37.toNatClampNeg = i.toNatClampNeg + 1 by omega]; exact h_to) (mj_wn_next LP1_h2 h_tw w_31.1 (by omega) rfl h_pw) (by rw [st]; omega) (om_54 i_7 i_37) (om_mu hn1 (om_5 i_37) (om_6 i_7)) _ _ hP hD hS ls (lv_sub hl [0, 1, 2, 3, 4, 5] rfl)
  have k_39 : (0 : Int32).toInt = 0 := rfl
  have k_40 : (0 : Int32).toInt = 0 := rfl
  have k_41 : (0 : Int32).toInt = 0 := rfl
  have k_42 : (0 : Int32).toInt = 0 := rfl
  exact LP1 ((len.toInt - 0 : Int).toNat + 1) 0 0 0 0 o_4 o_6 om_35 (mj_to_0 f w_1.2 (by omega) (by have k_9 : (0 : Int32).toNatClampNeg = 0 := rfl; omega) w_3) (by rw [show (0 : Int32).toNatClampNeg + 1 - p0.toNatClampNeg = 0 by have k_9 : (0 : Int32).toNatClampNeg = 0 := rfl; omega]; exact fun k hk => ⟨fun _ => by rw [w_5 k (by omega)]; rfl, fun _ => by rw [w_5 k (by omega)]; rfl⟩) (by rw [show (0 : Int32).toNatClampNeg + 1 - p0.toNatClampNeg = 0 by have k_9 : (0 : Int32).toNatClampNeg = 0 := rfl; omega]; rfl) (om_10 a0) (Nat.lt_succ_self _) _ _ hP hD hS ls (lv_sub hl [0, 1, 2, 3, 4, 5] rfl)

set_option maxHeartbeats 4000000 in
set_option maxRecDepth 100000 in
theorem c_X4_windows_x (l : Launch) (dC : Nat → ClassId) (dI : Nat → Nat → Nat) (m_ : Nat) (q_row : Nat) (q_t : Nat) (t_ : Nat) (h0 : Nat) (k0 : Nat) (w_ : Nat) (z_ : Nat) (slots : Int32) (old : Int32) (q_cell : Nat) (cyI : ClassId) (len : Int32) (f : Nat → Int32) (t_k : Nat) (t_o : Nat) (tk : Int32) (mo : Int32) (fk : Nat → Int32) (fq : Nat → Int32) (fw : Nat → Int32) (p0 : Int32) (p1 : Int32) (p2 : Int32) (p3 : Int32) (sz : Nat) (a0 : 0 ≤ len.toInt) (a1 : len.toInt ≤ 160) : kx_MQ l (dC, dI) yX4_windows wsX4_windows ({ frames := 3, cells := 0, slots := 0, locals := 135 }) [.ref m_, .int p0, .int p1, .int p2, .int p3] [kx_4 m_ q_row q_t t_ h0 k0 w_ z_ slots old, kx_0 q_row q_cell len, kx_a q_cell cyI 160 f, kx_1 t_ t_k t_o tk mo, kx_a t_k cyI 160 fk, kx_a t_o cyI 160 fq, kx_a w_ cyI 160 fw] [(cyI, .int)] sz (fun A => va_Qi (fun (r : Int32) (u : Int32 × Int32 × (Nat → Int32) × (Nat → Int32) × (Nat → Int32)) => ((1 ≤ p0.toInt ∧ p0.toInt ≤ len.toInt ∧ 1 ≤ p1.toInt ∧ p1.toInt ≤ p2.toInt ∧ p2.toInt ≤ 999 ∧ 0 ≤ p3.toInt ∧ p3.toInt ≤ 2) ∧ ((p3.toInt = 0 ∧ r.toInt = (mj_ct (mj_ay f p0.toNatClampNeg p1.toInt p2.toInt) (len.toNatClampNeg + 1 - p0.toNatClampNeg) : Int)) ∨ (mj_ex2 (fun bv bt => mj_bw f (fun v => mj_ct (mj_wv f p0.toNatClampNeg p1.toInt p2.toInt v) (len.toNatClampNeg + 1 - p0.toNatClampNeg)) len.toNatClampNeg bv bt) p3.toInt 1 2 r.toInt))) ∨ ((p0.toInt < 1 ∨ len.toInt < p0.toInt ∨ p1.toInt < 1 ∨ p2.toInt < p1.toInt ∨ 999 < p2.toInt ∨ p3.toInt < 0 ∨ 2 < p3.toInt) ∧ ((p3.toInt = 1 ∧ r = -40000) ∨ (¬ p3.toInt = 1 ∧ r = -1)))) (fun (u : Int32 × Int32 × (Nat → Int32) × (Nat → Int32) × (Nat → Int32)) (t : State) => va_P (dC, dI) vwCl [kx_4 m_ q_row q_t t_ h0 k0 w_ z_ slots old, kx_0 q_row q_cell len, kx_a q_cell cyI 160 f, kx_1 t_ t_k t_o u.1 u.2.1, kx_a t_k cyI 160 u.2.2.1, kx_a t_o cyI 160 u.2.2.2.1, kx_a w_ cyI 160 u.2.2.2.2] t.heap ∧ va_K (dC, dI) vwCl [(cyI, .int)] t ∧ va_D A [kx_4 m_ q_row q_t t_ h0 k0 w_ z_ slots old, kx_0 q_row q_cell len, kx_a q_cell cyI 160 f, kx_1 t_ t_k t_o u.1 u.2.1, kx_a t_k cyI 160 u.2.2.1, kx_a t_o cyI 160 u.2.2.2.1, kx_a w_ cyI 160 u.2.2.2.2]) A) := by
  refine kx_stQ (ws := wsX4_windows) (cc := cX4_windows) (maxL := 7) (ret := (some .int)) (by decide) rfl (Nat.le_of_ble_eq_true rfl) ?_
  intro p e s m below meth c A ls hx hb hr hlocks hts hown hml hA hS hP hK hD hl
  have hown : s.vm.findClass RX4 = some m.cls := hown
  have hl : lv_has ls 7 [(0, .ref m_), (1, .int p0), (2, .int p1), (3, .int p2), (4, .int p3)] := hl
  have hk_102 := hts (.constant RX4 102 (-40000)) (List.mem_of_getElem? (i := 3) rfl)
  have hf_12 := hts (.fieldLink RX4 12 "MajorityIndex" "row" "LMajorityIndex$Row;") (List.mem_of_getElem? (i := 1) rfl)
  have hi_4 : ∀ w ∈ u_ws RX4 TX4 9, w ∈ wsX4_windows := fun w h => List.mem_cons_of_mem _ (List.mem_append_left _ (List.mem_append_left _ (List.mem_append_right _ h)))
  have hf_57 := hts (.fieldLink RX4 57 "MajorityIndex$Row" "length" "I") (List.mem_of_getElem? (i := 2) rfl)
  have hi_0 : ∀ w ∈ u_ws RX0 TX0 2, w ∈ wsX4_windows := fun w h => List.mem_cons_of_mem _ (List.mem_append_left _ (List.mem_append_right _ h))
  have hf_42 := hts (.fieldLink RX4 42 "MajorityIndex" "wins" "[I") (List.mem_of_getElem? (i := 5) rfl)
  have hf_110 := hts (.fieldLink RX4 110 "MajorityIndex$Row" "cell" "[I") (List.mem_of_getElem? (i := 4) rfl)
  refine lv_iload hx hb dX4_windows_0 (lv_at hl 4 rfl) ?_
  refine lv_if_lt (tgt := 11) hx hb dX4_windows_2 (by decide) (fun c_1 => ?_) (fun c_1 => ?_)
  · have i_1 : p3.toInt < 0 := kc_lt c_1
    refine lv_iconst (v := (-1)) hx hb dX4_windows_11 (by decide) ?_
    have hP9 := hP
    have hD9 := hD
    have hK9 := hK
    exact W.iret (v := (-1)) hx hb hr (hlocks := hlocks) (fun t ht hW => ⟨⟨(-1), (tk, mo, fk, fq, fw), rfl, (Or.inr ⟨(by (try dsimp only); omega), Or.inr ⟨(by (try dsimp only); omega), rfl⟩⟩), by rw [ht]; exact hP9, va_K.moved hW.alike hK9, hD9⟩, hS.F ht⟩) hS.2.2 dX4_windows_12
  · have i_1 : 0 ≤ p3.toInt := kc_nlt c_1
    refine lv_iload hx hb dX4_windows_5 (lv_at hl 4 rfl) ?_
    refine lv_iconst (v := 2) hx hb dX4_windows_7 (by decide) ?_
    refine lv_icmp_le (tgt := 13) hx hb dX4_windows_8 (by decide) (fun c_2 => ?_) (fun c_2 => ?_)
    · have i_2 : p3.toInt ≤ 2 := kc_le c_2
      refine lv_iload_n hx hb dX4_windows_13 rfl (lv_at hl 1 rfl) ?_
      refine lv_iconst (v := 1) hx hb dX4_windows_14 (by decide) ?_
      refine lv_icmp_lt (tgt := 37) hx hb dX4_windows_15 (by decide) (fun c_3 => ?_) (fun c_3 => ?_)
      · have i_3 : p0.toInt < 1 := kc_lt c_3
        refine lv_iload hx hb dX4_windows_37 (lv_at hl 4 rfl) ?_
        refine lv_iconst (v := 1) hx hb dX4_windows_39 (by decide) ?_
        refine lv_icmp_ne (tgt := 48) hx hb dX4_windows_40 (by decide) (fun c_4 => ?_) (fun c_4 => ?_)
        · have i_4 : ¬ p3.toInt = 1 := kc_ne c_4
          refine lv_iconst (v := (-1)) hx hb dX4_windows_48 (by decide) ?_
          have hP9 := hP
          have hD9 := hD
          have hK9 := hK
          exact W.iret (v := (-1)) hx hb hr (hlocks := hlocks) (fun t ht hW => ⟨⟨(-1), (tk, mo, fk, fq, fw), rfl, (Or.inr ⟨(by (try dsimp only); omega), Or.inr ⟨(by (try dsimp only); omega), rfl⟩⟩), by rw [ht]; exact hP9, va_K.moved hW.alike hK9, hD9⟩, hS.F ht⟩) hS.2.2 dX4_windows_49
        · have i_4 : p3.toInt = 1 := kc_eq c_4
          refine lv_ldc (v := (-40000)) hx hb hown hk_102 dX4_windows_43 ?_
          refine lv_goto (tgt := 49) hx hb dX4_windows_45 (by decide) ?_
          have hP9 := hP
          have hD9 := hD
          have hK9 := hK
          exact W.iret (v := (-40000)) hx hb hr (hlocks := hlocks) (fun t ht hW => ⟨⟨(-40000), (tk, mo, fk, fq, fw), rfl, (Or.inr ⟨(by (try dsimp only); omega), Or.inl ⟨(by (try dsimp only); omega), rfl⟩⟩), by rw [ht]; exact hP9, va_K.moved hW.alike hK9, hD9⟩, hS.F ht⟩) hS.2.2 dX4_windows_49
      · have i_3 : 1 ≤ p0.toInt := kc_nlt c_3
        refine lv_iload_n hx hb dX4_windows_18 rfl (lv_at hl 1 rfl) ?_
        refine lv_aload_n hx hb dX4_windows_19 rfl (lv_at hl 0 rfl) ?_
        refine va_get (D := (dC, dI)) (ci := 4) (v := .ref q_row) (C := RX4) (T := TX4) (N := 9) hx hb hts hi_4 hown hK hP 0 rfl rfl 0 (by decide) hf_12 (fun _ h9 => h9) rfl dX4_windows_20 ?_
        refine va_get (D := (dC, dI)) (ci := 0) (v := .int len) (C := RX0) (T := TX0) (N := 2) hx hb hts hi_0 hown hK hP 1 rfl rfl 1 (by decide) hf_57 (fun _ h9 => h9) rfl dX4_windows_23 ?_
        refine lv_icmp_gt (tgt := 37) hx hb dX4_windows_26 (by decide) (fun c_5 => ?_) (fun c_5 => ?_)
        · have i_5 : len.toInt < p0.toInt := kc_lt c_5
          refine lv_iload hx hb dX4_windows_37 (lv_at hl 4 rfl) ?_
          refine lv_iconst (v := 1) hx hb dX4_windows_39 (by decide) ?_
          refine lv_icmp_ne (tgt := 48) hx hb dX4_windows_40 (by decide) (fun c_6 => ?_) (fun c_6 => ?_)
          · have i_6 : ¬ p3.toInt = 1 := kc_ne c_6
            refine lv_iconst (v := (-1)) hx hb dX4_windows_48 (by decide) ?_
            have hP9 := hP
            have hD9 := hD
            have hK9 := hK
            exact W.iret (v := (-1)) hx hb hr (hlocks := hlocks) (fun t ht hW => ⟨⟨(-1), (tk, mo, fk, fq, fw), rfl, (Or.inr ⟨(by (try dsimp only); omega), Or.inr ⟨(by (try dsimp only); omega), rfl⟩⟩), by rw [ht]; exact hP9, va_K.moved hW.alike hK9, hD9⟩, hS.F ht⟩) hS.2.2 dX4_windows_49
          · have i_6 : p3.toInt = 1 := kc_eq c_6
            refine lv_ldc (v := (-40000)) hx hb hown hk_102 dX4_windows_43 ?_
            refine lv_goto (tgt := 49) hx hb dX4_windows_45 (by decide) ?_
            have hP9 := hP
            have hD9 := hD
            have hK9 := hK
            exact W.iret (v := (-40000)) hx hb hr (hlocks := hlocks) (fun t ht hW => ⟨⟨(-40000), (tk, mo, fk, fq, fw), rfl, (Or.inr ⟨(by (try dsimp only); omega), Or.inl ⟨(by (try dsimp only); omega), rfl⟩⟩), by rw [ht]; exact hP9, va_K.moved hW.alike hK9, hD9⟩, hS.F ht⟩) hS.2.2 dX4_windows_49
        · have i_5 : p0.toInt ≤ len.toInt := kc_nlt c_5
          refine lv_iload_n hx hb dX4_windows_29 rfl (lv_at hl 2 rfl) ?_
          refine lv_iload_n hx hb dX4_windows_30 rfl (lv_at hl 3 rfl) ?_
          have hPc := hP.sub (ws' := []) [] rfl
          have hKc := hK.sub (tys' := []) [] rfl
          refine vp_callSi (W.runS (As := [.int p1, .int p2]) (rest := []) ⟨hx, hb, hml, hown, hts⟩ (c_X4_isShare l dC dI p1 p2) (va_cwS 2 hts gX4_windows_X4_isShare rfl rfl rfl (by decide +kernel) ⟨Nat.le_of_ble_eq_true rfl, Nat.le_of_ble_eq_true rfl⟩) ⟨fun a U g mk q => by obtain ⟨q0, qP, qK⟩ := q; exact ⟨q0, qP, va_K.moved (u := U) (U := U.calling g mk a) (Vm.Alike.refl U.vm) qK⟩, fun U hU hW => ⟨rfl, by rw [hU]; exact hPc, va_K.moved hW.alike hKc⟩⟩ rfl rfl hl.1 rfl (lv_room (Nat.le_of_ble_eq_true rfl)) dX4_windows_31 ⟨Nat.le_of_ble_eq_true rfl, Nat.le_of_ble_eq_true rfl⟩) (fun r_7 w_7 => ?_)
          rcases w_7 with ⟨rfl, w_7⟩ | ⟨rfl, w_7⟩
          · have w_7 : (1 ≤ p1.toInt ∧ p1.toInt ≤ p2.toInt ∧ p2.toInt ≤ 999) := w_7
            refine lv_if_ne (tgt := 50) hx hb dX4_windows_34 (by decide) (fun c_8 => ?_) (fun c_8 => ?_)
            · refine lv_aload_n hx hb dX4_windows_50 rfl (lv_at hl 0 rfl) ?_
              refine lv_iload_n hx hb dX4_windows_51 rfl (lv_at hl 1 rfl) ?_
              refine lv_iload_n hx hb dX4_windows_52 rfl (lv_at hl 2 rfl) ?_
              refine lv_iload_n hx hb dX4_windows_53 rfl (lv_at hl 3 rfl) ?_
              have hPc := hP
              have hKc := hK
              have hDc := hD
              have hFc := kx_free hD hS hA
              refine va_calli (va_runV (As := [.int p0, .int p1, .int p2]) (rest := []) ⟨hx, hb, hml, hown, hts⟩ (kx_un (c_X4_slideWindow_x l dC dI m_ q_row q_t t_ h0 k0 w_ z_ slots old q_cell cyI len f t_k t_o tk mo fk fq fw p0 p1 p2 s.heap.size a0 a1 i_3 i_5 (om_151 w_7.1) (om_9 w_7.2.1) (om_152 w_7.2.2))) (cwV 3 hts gX4_windows_X4_slideWindow rfl rfl rfl (by decide +kernel) ⟨Nat.le_of_ble_eq_true rfl, Nat.le_of_ble_eq_true rfl⟩) ⟨fun a U g mk q => by obtain ⟨q0, q1, qP, qK, qD⟩ := q; exact ⟨q0, q1, qP, va_K.moved (u := U) (U := U.calling g mk a) (Vm.Alike.refl U.vm) qK, qD⟩, kx_rc4 hKc hPc (q0 := 0) rfl, fun U hU hW => ⟨rfl, by rw [hU], by rw [hU]; exact hPc, va_K.moved hW.alike hKc, hDc.weaken (fun _ _ _ _ => trivial)⟩⟩ rfl rfl hl.1 rfl (lv_room (Nat.le_of_ble_eq_true rfl)) dX4_windows_54 ⟨Nat.le_of_ble_eq_true rfl, Nat.le_of_ble_eq_true rfl⟩) hS (fun q _ h => hFc q h) hFc (fun r_9 u t H1 locs ht hvm w_9 hB hz1 hk1 hS => ?_)
              obtain ⟨o_10, o_11, o_12, o_13, o_14⟩ := u
              dsimp only at w_9 hB
              obtain ⟨hP1, hK1, hD1⟩ := hB
              rw [ht] at hP1
              have hK1 := va_K.moved hvm.symm hK1
              have hD := hD1.weaken (fun _ q _ h => hFc q.1 h)
              have hP := hP1
              clear hP1 hD1 hK1 hk1 hz1 hFc hDc hPc hKc
              generalize H1 = H at hP hS ⊢
              have w_9 : mj_kd f o_12 len.toNatClampNeg ∧ mj_wn f o_12 o_14 p0.toNatClampNeg p1.toInt p2.toInt len.toNatClampNeg (len.toNatClampNeg + 1 - p0.toNatClampNeg) ∧ r_9.toInt = (mj_ct (mj_ay f p0.toNatClampNeg p1.toInt p2.toInt) (len.toNatClampNeg + 1 - p0.toNatClampNeg) : Int) := w_9
              refine lv_istore (lv' := [(5, .int r_9), (0, .ref m_), (1, .int p0), (2, .int p1), (3, .int p2), (4, .int p3)]) hx hb dX4_windows_57 hl (by decide) rfl (fun ls hl => ?_)
              refine lv_iload hx hb dX4_windows_59 (lv_at hl 5 rfl) ?_
              refine lv_if_ne (tgt := 67) hx hb dX4_windows_61 (by decide) (fun c_15 => ?_) (fun c_15 => ?_)
              · have i_15 : ¬ p3.toInt = 0 := kc_ne c_15
                refine lv_aload_n hx hb dX4_windows_67 rfl (lv_at hl 1 rfl) ?_
                have hPc := hP.sub (ws' := [kx_4 m_ q_row q_t t_ h0 k0 w_ z_ slots old, kx_0 q_row q_cell len, kx_a q_cell cyI 160 f, kx_a w_ cyI 160 o_14]) [0, 1, 2, 6] rfl
                have hKc := hK
                refine vp_callSi (W.runV (As := []) (rest := []) ⟨hx, hb, hml, hown, hts⟩ (c_X4_kindOfMostWins_x l dC dI m_ q_row q_t t_ h0 k0 w_ z_ slots old q_cell cyI len f o_14 a0 a1) (cwV 0 hts gX4_windows_X4_kindOfMostWins rfl rfl rfl (by decide +kernel) ⟨Nat.le_of_ble_eq_true rfl, Nat.le_of_ble_eq_true rfl⟩) ⟨fun a U g mk q => by obtain ⟨q0, qP, qK⟩ := q; exact ⟨q0, qP, va_K.moved (u := U) (U := U.calling g mk a) (Vm.Alike.refl U.vm) qK⟩, kx_rc4 hKc hPc (q0 := 0) rfl, fun U hU hW => ⟨rfl, by rw [hU]; exact hPc, va_K.moved hW.alike hKc⟩⟩ rfl rfl hl.1 rfl (lv_room (Nat.le_of_ble_eq_true rfl)) dX4_windows_68 ⟨Nat.le_of_ble_eq_true rfl, Nat.le_of_ble_eq_true rfl⟩) (fun r_16 w_16 => ?_)
                have w_16 : (r_16.toInt = -1 ∨ (0 ≤ r_16.toInt ∧ r_16.toInt < len.toInt)) ∧ mj_kx f o_14 len.toNatClampNeg r_16.toInt := w_16
                refine lv_istore (lv' := [(6, .int r_16), (5, .int r_9), (0, .ref m_), (1, .int p0), (2, .int p1), (3, .int p2), (4, .int p3)]) hx hb dX4_windows_71 hl (by decide) rfl (fun ls hl => ?_)
                refine lv_iload hx hb dX4_windows_73 (lv_at hl 0 rfl) ?_
                refine lv_iconst (v := (-1)) hx hb dX4_windows_75 (by decide) ?_
                refine lv_icmp_ne (tgt := 92) hx hb dX4_windows_76 (by decide) (fun c_17 => ?_) (fun c_17 => ?_)
                · have i_17 : ¬ r_16.toInt = (-1) := kc_ne c_17
                  refine lv_iload hx hb dX4_windows_92 (lv_at hl 6 rfl) ?_
                  refine lv_iconst (v := 1) hx hb dX4_windows_94 (by decide) ?_
                  refine lv_icmp_ne (tgt := 111) hx hb dX4_windows_95 (by decide) (fun c_18 => ?_) (fun c_18 => ?_)
                  · have i_18 : ¬ p3.toInt = 1 := kc_ne c_18
                    refine lv_aload_n hx hb dX4_windows_111 rfl (lv_at hl 2 rfl) ?_
                    refine va_get (D := (dC, dI)) (ci := 4) (v := .ref w_) (C := RX4) (T := TX4) (N := 9) hx hb hts hi_4 hown hK hP 0 rfl rfl 5 (by decide) hf_42 (fun _ h9 => h9) rfl dX4_windows_112 ?_
                    refine lv_iload hx hb dX4_windows_115 (lv_at hl 0 rfl) ?_
                    refine va_iald hx hb hK hP 6 0 rfl rfl (ki_in (by omega) (by omega)) dX4_windows_117 ?_
                    refine lv_topi (fun y_19 ey_19 => ?_)
                    have j_19 : y_19.toInt = (o_14 r_16.toNatClampNeg).toInt := congrArg Int32.toInt ey_19
                    have hP9 := hP
                    have hD9 := hD
                    have hK9 := hK
                    have k_40 : (-40000 : Int32).toInt = -40000 := rfl
                    have k_00 : (0 : Int32).toInt = 0 := rfl
                    obtain ⟨mo9, h_km⟩ := w_16.2
                    have h_bw := mj_bw_of w_9.1 w_9.2.1 h_km
                    have n_r6 := ki_nat r_16 rfl (by omega)
                    have h_b : mj_bw f (fun v => mj_ct (mj_wv f p0.toNatClampNeg p1.toInt p2.toInt v) (len.toNatClampNeg + 1 - p0.toNatClampNeg)) len.toNatClampNeg (f r_16.toNatClampNeg).toInt (o_14 r_16.toNatClampNeg).toInt := by rcases h_bw with g | ⟨b, _, b2, b3⟩; (exfalso; omega); (rw [show r_16.toNatClampNeg = b by omega]; exact b3)
                    exact W.iret (v := y_19) hx hb hr (hlocks := hlocks) (fun t ht hW => ⟨⟨y_19, (o_10, o_11, o_12, o_13, o_14), rfl, (Or.inl ⟨(by (try dsimp only); omega), Or.inr ⟨_, _, h_b, Or.inr ⟨(by (try dsimp only); omega), congrArg Int32.toInt ey_19⟩⟩⟩), by rw [ht]; exact hP9, va_K.moved hW.alike hK9, hD9⟩, hS.F ht⟩) hS.2.2 dX4_windows_118
                  · have i_18 : p3.toInt = 1 := kc_eq c_18
                    refine lv_aload_n hx hb dX4_windows_98 rfl (lv_at hl 2 rfl) ?_
                    refine va_get (D := (dC, dI)) (ci := 4) (v := .ref q_row) (C := RX4) (T := TX4) (N := 9) hx hb hts hi_4 hown hK hP 0 rfl rfl 0 (by decide) hf_12 (fun _ h9 => h9) rfl dX4_windows_99 ?_
                    refine va_get (D := (dC, dI)) (ci := 0) (v := .ref q_cell) (C := RX0) (T := TX0) (N := 2) hx hb hts hi_0 hown hK hP 1 rfl rfl 0 (by decide) hf_110 (fun _ h9 => h9) rfl dX4_windows_102 ?_
                    refine lv_iload hx hb dX4_windows_105 (lv_at hl 0 rfl) ?_
                    refine va_iald hx hb hK hP 2 0 rfl rfl (ki_in (by omega) (by omega)) dX4_windows_107 ?_
                    refine lv_topi (fun y_20 ey_20 => ?_)
                    have j_20 : y_20.toInt = (f r_16.toNatClampNeg).toInt := congrArg Int32.toInt ey_20
                    refine lv_goto (tgt := 118) hx hb dX4_windows_108 (by decide) ?_
                    have hP9 := hP
                    have hD9 := hD
                    have hK9 := hK
                    have k_40 : (-40000 : Int32).toInt = -40000 := rfl
                    have k_00 : (0 : Int32).toInt = 0 := rfl
                    obtain ⟨mo9, h_km⟩ := w_16.2
                    have h_bw := mj_bw_of w_9.1 w_9.2.1 h_km
                    have n_r6 := ki_nat r_16 rfl (by omega)
                    have h_b : mj_bw f (fun v => mj_ct (mj_wv f p0.toNatClampNeg p1.toInt p2.toInt v) (len.toNatClampNeg + 1 - p0.toNatClampNeg)) len.toNatClampNeg (f r_16.toNatClampNeg).toInt (o_14 r_16.toNatClampNeg).toInt := by rcases h_bw with g | ⟨b, _, b2, b3⟩; (exfalso; omega); (rw [show r_16.toNatClampNeg = b by omega]; exact b3)
                    exact W.iret (v := y_20) hx hb hr (hlocks := hlocks) (fun t ht hW => ⟨⟨y_20, (o_10, o_11, o_12, o_13, o_14), rfl, (Or.inl ⟨(by (try dsimp only); omega), Or.inr ⟨_, _, h_b, Or.inl ⟨(by (try dsimp only); omega), congrArg Int32.toInt ey_20⟩⟩⟩), by rw [ht]; exact hP9, va_K.moved hW.alike hK9, hD9⟩, hS.F ht⟩) hS.2.2 dX4_windows_118
                · have i_17 : r_16.toInt = (-1) := kc_eq c_17
                  refine lv_iload hx hb dX4_windows_79 (lv_at hl 6 rfl) ?_
                  refine lv_iconst (v := 1) hx hb dX4_windows_81 (by decide) ?_
                  refine lv_icmp_ne (tgt := 90) hx hb dX4_windows_82 (by decide) (fun c_21 => ?_) (fun c_21 => ?_)
                  · have i_21 : ¬ p3.toInt = 1 := kc_ne c_21
                    refine lv_iconst (v := 0) hx hb dX4_windows_90 (by decide) ?_
                    have hP9 := hP
                    have hD9 := hD
                    have hK9 := hK
                    have k_40 : (-40000 : Int32).toInt = -40000 := rfl
                    have k_00 : (0 : Int32).toInt = 0 := rfl
                    obtain ⟨mo9, h_km⟩ := w_16.2
                    have h_bw := mj_bw_of w_9.1 w_9.2.1 h_km
                    have h_b : mj_bw f (fun v => mj_ct (mj_wv f p0.toNatClampNeg p1.toInt p2.toInt v) (len.toNatClampNeg + 1 - p0.toNatClampNeg)) len.toNatClampNeg (-40000) 0 := by rcases h_bw with g | ⟨b, _, b2, _⟩; exact g.2; (exfalso; omega)
                    exact W.iret (v := 0) hx hb hr (hlocks := hlocks) (fun t ht hW => ⟨⟨0, (o_10, o_11, o_12, o_13, o_14), rfl, (Or.inl ⟨(by (try dsimp only); omega), Or.inr ⟨-40000, 0, h_b, Or.inr ⟨(by (try dsimp only); omega), rfl⟩⟩⟩), by rw [ht]; exact hP9, va_K.moved hW.alike hK9, hD9⟩, hS.F ht⟩) hS.2.2 dX4_windows_91
                  · have i_21 : p3.toInt = 1 := kc_eq c_21
                    refine lv_ldc (v := (-40000)) hx hb hown hk_102 dX4_windows_85 ?_
                    refine lv_goto (tgt := 91) hx hb dX4_windows_87 (by decide) ?_
                    have hP9 := hP
                    have hD9 := hD
                    have hK9 := hK
                    have k_40 : (-40000 : Int32).toInt = -40000 := rfl
                    have k_00 : (0 : Int32).toInt = 0 := rfl
                    obtain ⟨mo9, h_km⟩ := w_16.2
                    have h_bw := mj_bw_of w_9.1 w_9.2.1 h_km
                    have h_b : mj_bw f (fun v => mj_ct (mj_wv f p0.toNatClampNeg p1.toInt p2.toInt v) (len.toNatClampNeg + 1 - p0.toNatClampNeg)) len.toNatClampNeg (-40000) 0 := by rcases h_bw with g | ⟨b, _, b2, _⟩; exact g.2; (exfalso; omega)
                    exact W.iret (v := (-40000)) hx hb hr (hlocks := hlocks) (fun t ht hW => ⟨⟨(-40000), (o_10, o_11, o_12, o_13, o_14), rfl, (Or.inl ⟨(by (try dsimp only); omega), Or.inr ⟨-40000, 0, h_b, Or.inl ⟨(by (try dsimp only); omega), rfl⟩⟩⟩), by rw [ht]; exact hP9, va_K.moved hW.alike hK9, hD9⟩, hS.F ht⟩) hS.2.2 dX4_windows_91
              · have i_15 : p3.toInt = 0 := kc_eq c_15
                refine lv_iload hx hb dX4_windows_64 (lv_at hl 0 rfl) ?_
                have hP9 := hP
                have hD9 := hD
                have hK9 := hK
                exact W.iret (v := r_9) hx hb hr (hlocks := hlocks) (fun t ht hW => ⟨⟨r_9, (o_10, o_11, o_12, o_13, o_14), rfl, (Or.inl ⟨(by (try dsimp only); omega), Or.inl ⟨(by (try dsimp only); omega), w_9.2.2⟩⟩), by rw [ht]; exact hP9, va_K.moved hW.alike hK9, hD9⟩, hS.F ht⟩) hS.2.2 dX4_windows_66
            · exact absurd c_8 (by decide)
          · have w_7 : (p1.toInt < 1 ∨ p2.toInt < p1.toInt ∨ 999 < p2.toInt) := w_7
            refine lv_if_ne (tgt := 50) hx hb dX4_windows_34 (by decide) (fun c_22 => ?_) (fun c_22 => ?_)
            · exact absurd c_22 (by decide)
            · refine lv_iload hx hb dX4_windows_37 (lv_at hl 4 rfl) ?_
              refine lv_iconst (v := 1) hx hb dX4_windows_39 (by decide) ?_
              refine lv_icmp_ne (tgt := 48) hx hb dX4_windows_40 (by decide) (fun c_23 => ?_) (fun c_23 => ?_)
              · have i_23 : ¬ p3.toInt = 1 := kc_ne c_23
                refine lv_iconst (v := (-1)) hx hb dX4_windows_48 (by decide) ?_
                have hP9 := hP
                have hD9 := hD
                have hK9 := hK
                exact W.iret (v := (-1)) hx hb hr (hlocks := hlocks) (fun t ht hW => ⟨⟨(-1), (tk, mo, fk, fq, fw), rfl, (Or.inr ⟨(by (try dsimp only); omega), Or.inr ⟨(by (try dsimp only); omega), rfl⟩⟩), by rw [ht]; exact hP9, va_K.moved hW.alike hK9, hD9⟩, hS.F ht⟩) hS.2.2 dX4_windows_49
              · have i_23 : p3.toInt = 1 := kc_eq c_23
                refine lv_ldc (v := (-40000)) hx hb hown hk_102 dX4_windows_43 ?_
                refine lv_goto (tgt := 49) hx hb dX4_windows_45 (by decide) ?_
                have hP9 := hP
                have hD9 := hD
                have hK9 := hK
                exact W.iret (v := (-40000)) hx hb hr (hlocks := hlocks) (fun t ht hW => ⟨⟨(-40000), (tk, mo, fk, fq, fw), rfl, (Or.inr ⟨(by (try dsimp only); omega), Or.inl ⟨(by (try dsimp only); omega), rfl⟩⟩), by rw [ht]; exact hP9, va_K.moved hW.alike hK9, hD9⟩, hS.F ht⟩) hS.2.2 dX4_windows_49
    · have i_2 : 2 < p3.toInt := kc_nle c_2
      refine lv_iconst (v := (-1)) hx hb dX4_windows_11 (by decide) ?_
      have hP9 := hP
      have hD9 := hD
      have hK9 := hK
      exact W.iret (v := (-1)) hx hb hr (hlocks := hlocks) (fun t ht hW => ⟨⟨(-1), (tk, mo, fk, fq, fw), rfl, (Or.inr ⟨(by (try dsimp only); omega), Or.inr ⟨(by (try dsimp only); omega), rfl⟩⟩), by rw [ht]; exact hP9, va_K.moved hW.alike hK9, hD9⟩, hS.F ht⟩) hS.2.2 dX4_windows_12



set_option maxHeartbeats 4000000 in
set_option maxRecDepth 100000 in
theorem c_X5_windowsOf_x (l : Launch) (dC : Nat → ClassId) (dI : Nat → Nat → Nat) (h0 : Nat) (g_row : Nat) (g_many : Nat) (g_loss : Nat) (g_less : Nat) (g_voteValue : Nat) (g_voteNumber : Nat) (g_allValue : Nat) (g_allNumber : Nat) (g_nodeL : Nat) (g_nodeR : Nat) (g_part : Nat) (g_wasMany : Nat) (g_wasLoss : Nat) (g_wasValue : Nat) (g_wasNumber : Nat) (g_path : Nat) (g_heavyValue : Nat) (g_heavyTimes : Nat) (g_fewest : Nat) (g_which : Nat) (g_met : Nat) (m_n : Int32) (m_slots : Int32) (m_thrown : Int32) (m_allMany : Int32) (m_nodes : Int32) (m_partMany : Int32) (m_pathMany : Int32) (m_heavyMany : Int32) (m_mostMet : Int32) (cyI : ClassId) (f : Nat → Int32) (p0 : Int32) (p1 : Int32) (p2 : Int32) (p3 : Int32) (a0 : 0 ≤ m_n.toInt) (a1 : m_n.toInt ≤ 160) (b0 : 1 ≤ p1.toInt) (b1 : p1.toInt ≤ m_n.toInt) (e0 : 1 ≤ p2.toInt) (e1 : p2.toInt ≤ p3.toInt) (e2 : p3.toInt ≤ 999) : Met l yX5_windowsOf wsX5_windowsOf ({ frames := 1, cells := 0, slots := 0, locals := 45 }) (va_Pc [.ref h0, .int p0, .int p1, .int p2, .int p3] (fun U => va_P (dC, dI) vwCl [kx_5 h0 g_row m_n m_slots m_thrown g_many g_loss g_less g_voteValue g_voteNumber g_allValue g_allNumber m_allMany g_nodeL g_nodeR m_nodes g_part m_partMany g_wasMany g_wasLoss g_wasValue g_wasNumber g_path m_pathMany g_heavyValue g_heavyTimes m_heavyMany g_fewest g_which g_met m_mostMet, kx_a g_row cyI 160 f] U.heap ∧ va_K (dC, dI) vwCl [(cyI, .int)] U)) (vp_Si (fun r : Int32 => r.toInt = (mj_ct (mj_wv f p1.toNatClampNeg p2.toInt p3.toInt p0) (m_n.toNatClampNeg + 1 - p1.toNatClampNeg) : Int))) 0 0 (fun _ => False) := by
  refine kx_stS (ws := wsX5_windowsOf) (cc := cX5_windowsOf) (maxL := 8) (ret := (some .int)) (by decide) rfl (Nat.le_of_ble_eq_true rfl) ?_
  intro p e s m below meth c ls hx hb hr hlocks hts hown hml hP hK hl
  have hown : s.vm.findClass RX5 = some m.cls := hown
  have hl : lv_has ls 8 [(0, .ref h0), (1, .int p0), (2, .int p1), (3, .int p2), (4, .int p3)] := hl
  have hf_84 := hts (.fieldLink RX5 84 "MajorityIndexModel" "n" "I") (List.mem_of_getElem? (i := 1) rfl)
  have hi_5 : ∀ w ∈ u_ws RX5 TX5 30, w ∈ wsX5_windowsOf := fun w h => List.mem_cons_of_mem _ (List.mem_append_right _ h)
  have hf_7 := hts (.fieldLink RX5 7 "MajorityIndexModel" "row" "[I") (List.mem_of_getElem? (i := 2) rfl)
  have n_p1 := ki_nat p1 rfl (om_51 b0)
  have n_l := ki_nat m_n rfl (om_10 a0)
  have k_00 : (0 : Int32).toInt = 0 := rfl
  refine lv_iconst (v := 0) hx hb dX5_windowsOf_0 (by decide) ?_
  refine lv_istore (lv' := [(5, .int 0), (0, .ref h0), (1, .int p0), (2, .int p1), (3, .int p2), (4, .int p3)]) hx hb dX5_windowsOf_1 hl (by decide) rfl (fun ls hl => ?_)
  refine lv_aload_n hx hb dX5_windowsOf_3 rfl (lv_at hl 1 rfl) ?_
  refine lv_iload_n hx hb dX5_windowsOf_4 rfl (lv_at hl 2 rfl) ?_
  refine lv_iconst (v := 0) hx hb dX5_windowsOf_5 (by decide) ?_
  refine lv_iload_n hx hb dX5_windowsOf_6 rfl (lv_at hl 3 rfl) ?_
  refine lv_iconst (v := 1) hx hb dX5_windowsOf_7 (by decide) ?_
  refine lv_isub hx hb dX5_windowsOf_8 ?_
  refine lv_topi (fun y_1 ey_1 => ?_)
  have i_1 : y_1.toInt = p1.toInt - 1 := ki_sub ey_1 rfl rfl (om_182 b0) (om_183 a1 b1)
  have hPc := hP
  have hKc := hK
  have k_2 : (0 : Int32).toInt = 0 := rfl
  refine vp_callSi (W.runV (As := [.int p0, .int 0, .int y_1]) (rest := []) ⟨hx, hb, hml, hown, hts⟩ (c_X5_times l dC dI h0 g_row g_many g_loss g_less g_voteValue g_voteNumber g_allValue g_allNumber g_nodeL g_nodeR g_part g_wasMany g_wasLoss g_wasValue g_wasNumber g_path g_heavyValue g_heavyTimes g_fewest g_which g_met m_n m_slots m_thrown m_allMany m_nodes m_partMany m_pathMany m_heavyMany m_mostMet cyI f p0 0 y_1 om_35 (om_271 a1 b1 i_1)) (cwV 3 hts gX5_windowsOf_X5_times rfl rfl rfl (by decide +kernel) ⟨Nat.le_of_ble_eq_true rfl, Nat.le_of_ble_eq_true rfl⟩) ⟨fun a U g mk q => by obtain ⟨q0, qP, qK⟩ := q; exact ⟨q0, qP, va_K.moved (u := U) (U := U.calling g mk a) (Vm.Alike.refl U.vm) qK⟩, kx_rc5 hKc hPc (q0 := 0) rfl, fun U hU hW => ⟨rfl, by rw [hU]; exact hPc, va_K.moved hW.alike hKc⟩⟩ rfl rfl hl.1 rfl (lv_room (Nat.le_of_ble_eq_true rfl)) dX5_windowsOf_9 ⟨Nat.le_of_ble_eq_true rfl, Nat.le_of_ble_eq_true rfl⟩) (fun r_3 w_3 => ?_)
  have w_3 : r_3.toInt = (cnt f p0 (0 : Int32).toNatClampNeg (y_1.toInt - 0).toNat : Int) := w_3
  refine lv_istore (lv' := [(6, .int r_3), (5, .int 0), (0, .ref h0), (1, .int p0), (2, .int p1), (3, .int p2), (4, .int p3)]) hx hb dX5_windowsOf_12 hl (by decide) rfl (fun ls hl => ?_)
  refine lv_iconst (v := 0) hx hb dX5_windowsOf_14 (by decide) ?_
  refine lv_istore (lv' := [(7, .int 0), (6, .int r_3), (5, .int 0), (0, .ref h0), (1, .int p0), (2, .int p1), (3, .int p2), (4, .int p3)]) hx hb dX5_windowsOf_15 hl (by decide) rfl (fun ls hl => ?_)
  have LP1 : ∀ (n : Nat) (i : Int32) (sm : Int32) (of : Int32), (0 ≤ i.toInt) → (of.toInt = (cnt f p0 i.toNatClampNeg (p1.toNatClampNeg - 1) : Int)) → (sm.toInt = (mj_ct (mj_wv f p1.toNatClampNeg p2.toInt p3.toInt p0) i.toNatClampNeg : Int)) → (i.toInt + p1.toInt ≤ m_n.toInt + 1) → (m_n.toInt + 1 - p1.toInt - i.toInt).toNat < n → ∀ (ls : Array Slot), lv_has ls 8 [(7, .int i), (6, .int of), (5, .int sm), (0, .ref h0), (1, .int p0), (2, .int p1), (3, .int p2), (4, .int p3)] → W p l e (headSpec wsX5_windowsOf ({ frames := 1, cells := 0, slots := 0, locals := 45 })).room s m ([.ref h0, .int p0, .int p1, .int p2, .int p3] : List Value).toArray below meth c s.heap [] 0 0 (MQ below (vp_Si (fun r : Int32 => r.toInt = (mj_ct (mj_wv f p1.toNatClampNeg p2.toInt p3.toInt p0) (m_n.toNatClampNeg + 1 - p1.toNatClampNeg) : Int))) ([.ref h0, .int p0, .int p1, .int p2, .int p3] : List Value).toArray s 0 0 (fun _ => False)) (F0 m 17 ls []) := by
    intro n
    induction n with
    | zero => intro i sm of LP1_h0 LP1_h1 LP1_h2 LP1_h3 hn; exact absurd hn (Nat.not_lt_zero _)
    | succ n ih1 =>
      intro i sm of LP1_h0 LP1_h1 LP1_h2 LP1_h3 hn1 ls hl
      have n_i := ki_nat i rfl (om_10 LP1_h0)
      have hle := mj_ct_le (mj_wv f p1.toNatClampNeg p2.toInt p3.toInt p0) i.toNatClampNeg
      have hl2 := cnt_le f p0 i.toNatClampNeg (p1.toNatClampNeg - 1)
      refine lv_iload hx hb dX5_windowsOf_17 (lv_at hl 0 rfl) ?_
      refine lv_iload_n hx hb dX5_windowsOf_19 rfl (lv_at hl 5 rfl) ?_
      refine lv_iadd hx hb dX5_windowsOf_20 ?_
      refine lv_topi (fun y_4 ey_4 => ?_)
      have i_4 : y_4.toInt = i.toInt + p1.toInt := ki_add ey_4 rfl rfl (om_272 b0 LP1_h0) (om_515 a1 LP1_h3)
      refine lv_aload_n hx hb dX5_windowsOf_21 rfl (lv_at hl 3 rfl) ?_
      refine va_get (D := (dC, dI)) (ci := 5) (v := .int m_n) (C := RX5) (T := TX5) (N := 30) hx hb hts hi_5 hown hK hP 0 rfl rfl 1 (by decide) hf_84 (fun _ h9 => h9) rfl dX5_windowsOf_22 ?_
      refine lv_icmp_gt (tgt := 80) hx hb dX5_windowsOf_25 (by decide) (fun c_5 => ?_) (fun c_5 => ?_)
      · have i_5 : m_n.toInt < y_4.toInt := kc_lt c_5
        refine lv_iload hx hb dX5_windowsOf_80 (lv_at hl 2 rfl) ?_
        exact W.iret (v := sm) hx hb hr (hlocks := hlocks) (fun t ht hW => ⟨sm, rfl, (by (try dsimp only); rw [show m_n.toNatClampNeg + 1 - p1.toNatClampNeg = i.toNatClampNeg by omega]; exact LP1_h2), ht⟩) (fun q hq => by cases hq) dX5_windowsOf_82
      · have i_5 : y_4.toInt ≤ m_n.toInt := kc_nlt c_5
        refine lv_aload_n hx hb dX5_windowsOf_28 rfl (lv_at hl 3 rfl) ?_
        refine va_get (D := (dC, dI)) (ci := 5) (v := .ref g_row) (C := RX5) (T := TX5) (N := 30) hx hb hts hi_5 hown hK hP 0 rfl rfl 0 (by decide) hf_7 (fun _ h9 => h9) rfl dX5_windowsOf_29 ?_
        refine lv_iload hx hb dX5_windowsOf_32 (lv_at hl 0 rfl) ?_
        refine lv_iload_n hx hb dX5_windowsOf_34 rfl (lv_at hl 5 rfl) ?_
        refine lv_iadd hx hb dX5_windowsOf_35 ?_
        refine lv_topi (fun y_6 ey_6 => ?_)
        have i_6 : y_6.toInt = i.toInt + p1.toInt := ki_add ey_6 rfl rfl (om_272 b0 LP1_h0) (om_515 a1 LP1_h3)
        refine lv_iconst (v := 1) hx hb dX5_windowsOf_36 (by decide) ?_
        refine lv_isub hx hb dX5_windowsOf_37 ?_
        refine lv_topi (fun y_7 ey_7 => ?_)
        have i_7 : y_7.toInt = y_6.toInt - 1 := ki_sub ey_7 rfl rfl (om_275 b0 LP1_h0 i_6) (om_516 a1 LP1_h3 i_6)
        refine va_iald hx hb hK hP 1 0 rfl rfl (ki_in (om_277 b0 LP1_h0 i_6 i_7) (om_278 a1 i_4 i_5 i_6 i_7)) dX5_windowsOf_38 ?_
        refine lv_topi (fun y_8 ey_8 => ?_)
        have j_8 : y_8.toInt = (f y_7.toNatClampNeg).toInt := congrArg Int32.toInt ey_8
        refine lv_iload_n hx hb dX5_windowsOf_39 rfl (lv_at hl 4 rfl) ?_
        refine lv_icmp_ne (tgt := 46) hx hb dX5_windowsOf_40 (by decide) (fun c_9 => ?_) (fun c_9 => ?_)
        · have i_9 : ¬ y_8.toInt = p0.toInt := kc_ne c_9
          refine lv_iload hx hb dX5_windowsOf_46 (lv_at hl 1 rfl) ?_
          refine lv_iload hx hb dX5_windowsOf_48 (lv_at hl 7 rfl) ?_
          refine lv_imul hx hb dX5_windowsOf_50 ?_
          refine lv_topi (fun y_10 ey_10 => ?_)
          refine lv_iload_n hx hb dX5_windowsOf_51 rfl (lv_at hl 6 rfl) ?_
          refine lv_iload_n hx hb dX5_windowsOf_52 rfl (lv_at hl 5 rfl) ?_
          refine lv_imul hx hb dX5_windowsOf_53 ?_
          refine lv_topi (fun y_11 ey_11 => ?_)
          have n_37 := ki_nat y_7 rfl (om_277 b0 LP1_h0 i_6 i_7)
          have q_37 : y_7.toNatClampNeg = i.toNatClampNeg + (p1.toNatClampNeg - 1) := by omega
          have c_1 : cnt f p0 i.toNatClampNeg p1.toNatClampNeg = cnt f p0 i.toNatClampNeg (p1.toNatClampNeg - 1) + (if f (i.toNatClampNeg + (p1.toNatClampNeg - 1)) = p0 then 1 else 0) := by rw [show cnt f p0 i.toNatClampNeg p1.toNatClampNeg = cnt f p0 i.toNatClampNeg (p1.toNatClampNeg - 1 + 1) by rw [show p1.toNatClampNeg - 1 + 1 = p1.toNatClampNeg by omega]]; rfl
          rw [if_neg (fun z => c_9 (by rw [ey_8, q_37]; exact z))] at c_1
          have q_of : of.toInt = (cnt f p0 i.toNatClampNeg p1.toNatClampNeg : Int) := by omega
          have l_of := cnt_le f p0 i.toNatClampNeg p1.toNatClampNeg
          have b_1 := ki_mulb (a := of.toInt) (b := p3.toInt) (A := 160) (B := 999) (by omega) (by omega) (by omega) (by omega)
          have b_2 := ki_mulb (a := p2.toInt) (b := p1.toInt) (A := 999) (B := 160) (by omega) (by omega) (by omega) (by omega)
          have m_1 : y_10.toInt = of.toInt * p3.toInt := ki_mul ey_10 rfl rfl (by omega) (by omega)
          have m_2 : y_11.toInt = p2.toInt * p1.toInt := ki_mul ey_11 rfl rfl (by omega) (by omega)
          rw [q_of] at m_1
          rw [← n_p1] at m_2
          refine lv_icmp_le (tgt := 60) hx hb dX5_windowsOf_54 (by decide) (fun c_12 => ?_) (fun c_12 => ?_)
          · have i_12 : y_10.toInt ≤ y_11.toInt := kc_le c_12
            refine lv_aload_n hx hb dX5_windowsOf_60 rfl (lv_at hl 3 rfl) ?_
            refine va_get (D := (dC, dI)) (ci := 5) (v := .ref g_row) (C := RX5) (T := TX5) (N := 30) hx hb hts hi_5 hown hK hP 0 rfl rfl 0 (by decide) hf_7 (fun _ h9 => h9) rfl dX5_windowsOf_61 ?_
            refine lv_iload hx hb dX5_windowsOf_64 (lv_at hl 0 rfl) ?_
            refine va_iald hx hb hK hP 1 0 rfl rfl (ki_in (om_10 LP1_h0) (om_279 a1 b0 i_4 i_5)) dX5_windowsOf_66 ?_
            refine lv_topi (fun y_13 ey_13 => ?_)
            have j_13 : y_13.toInt = (f i.toNatClampNeg).toInt := congrArg Int32.toInt ey_13
            refine lv_iload_n hx hb dX5_windowsOf_67 rfl (lv_at hl 4 rfl) ?_
            refine lv_icmp_ne (tgt := 74) hx hb dX5_windowsOf_68 (by decide) (fun c_14 => ?_) (fun c_14 => ?_)
            · have i_14 : ¬ y_13.toInt = p0.toInt := kc_ne c_14
              obtain ⟨x_15, ex_15⟩ : ∃ y : Int32, y = i + 1 := ⟨_, rfl⟩
              have i_15 : x_15.toInt = i.toInt + 1 := ki_add ex_15 rfl rfl (om_13 LP1_h0) (om_517 a1 b0 LP1_h3)
              refine lv_iinc (v := x_15) (lv' := [(7, .int x_15), (6, .int of), (5, .int sm), (0, .ref h0), (1, .int p0), (2, .int p1), (3, .int p2), (4, .int p3)]) hx hb dX5_windowsOf_74 hl (k := 0) rfl (by rw [ex_15]; rfl) (by decide) rfl (fun ls hl => ?_)
              refine lv_goto (tgt := 17) hx hb dX5_windowsOf_77 (by decide) ?_
              have n_16 := ki_nat x_15 rfl (om_34 LP1_h0 i_15)
              have c_2 := mj_cnt_one f p0 i.toNatClampNeg (p1.toNatClampNeg - 1)
              rw [show p1.toNatClampNeg - 1 + 1 = p1.toNatClampNeg by omega] at c_2
              rw [if_neg (fun z => c_14 (by rw [ey_13]; exact z))] at c_2
              have st := mj_ct_no (P := mj_wv f p1.toNatClampNeg p2.toInt p3.toInt p0) (k := i.toNatClampNeg) (k2 := x_15.toNatClampNeg) (by omega) (fun z => by unfold mj_wv at z; omega)
              exact ih1 x_15 sm of (om_34 LP1_h0 i_15) (by rw [show x_15.toNatClampNeg = i.toNatClampNeg + 1 by omega]; omega) (by rw [st]; omega) (om_518 i_4 i_5 i_15) (om_mu hn1 (om_519 i_15) (om_520 i_4 i_5)) ls (lv_sub hl [0, 1, 2, 3, 4, 5, 6, 7] rfl)
            · have i_14 : y_13.toInt = p0.toInt := kc_eq c_14
              obtain ⟨x_17, ex_17⟩ : ∃ y : Int32, y = of + (-1) := ⟨_, rfl⟩
              have i_17 : x_17.toInt = of.toInt + (-1) := ki_add ex_17 rfl rfl (om_521 LP1_h1 (Int.natCast_nonneg _)) (by omega)
              refine lv_iinc (v := x_17) (lv' := [(6, .int x_17), (7, .int i), (5, .int sm), (0, .ref h0), (1, .int p0), (2, .int p1), (3, .int p2), (4, .int p3)]) hx hb dX5_windowsOf_71 hl (k := 1) rfl (by rw [ex_17]; rfl) (by decide) rfl (fun ls hl => ?_)
              obtain ⟨x_18, ex_18⟩ : ∃ y : Int32, y = i + 1 := ⟨_, rfl⟩
              have i_18 : x_18.toInt = i.toInt + 1 := ki_add ex_18 rfl rfl (om_13 LP1_h0) (om_517 a1 b0 LP1_h3)
              refine lv_iinc (v := x_18) (lv' := [(7, .int x_18), (6, .int x_17), (5, .int sm), (0, .ref h0), (1, .int p0), (2, .int p1), (3, .int p2), (4, .int p3)]) hx hb dX5_windowsOf_74 hl (k := 1) rfl (by rw [ex_18]; rfl) (by decide) rfl (fun ls hl => ?_)
              refine lv_goto (tgt := 17) hx hb dX5_windowsOf_77 (by decide) ?_
              have n_19 := ki_nat x_18 rfl (om_34 LP1_h0 i_18)
              have c_2 := mj_cnt_one f p0 i.toNatClampNeg (p1.toNatClampNeg - 1)
              rw [show p1.toNatClampNeg - 1 + 1 = p1.toNatClampNeg by omega] at c_2
              rw [if_pos (by rw [← ey_13]; exact c_14)] at c_2
              have st := mj_ct_no (P := mj_wv f p1.toNatClampNeg p2.toInt p3.toInt p0) (k := i.toNatClampNeg) (k2 := x_18.toNatClampNeg) (by omega) (fun z => by unfold mj_wv at z; omega)
              exact ih1 x_18 sm x_17 (om_34 LP1_h0 i_18) (by rw [show x_18.toNatClampNeg = i.toNatClampNeg + 1 by omega]; omega) (by rw [st]; omega) (om_518 i_4 i_5 i_18) (om_mu hn1 (om_519 i_18) (om_520 i_4 i_5)) ls (lv_sub hl [0, 1, 2, 3, 4, 5, 6, 7] rfl)
          · have i_12 : y_11.toInt < y_10.toInt := kc_nle c_12
            obtain ⟨x_20, ex_20⟩ : ∃ y : Int32, y = sm + 1 := ⟨_, rfl⟩
            have i_20 : x_20.toInt = sm.toInt + 1 := ki_add ex_20 rfl rfl (om_381 LP1_h2 (Int.natCast_nonneg _)) (by omega)
            refine lv_iinc (v := x_20) (lv' := [(5, .int x_20), (7, .int i), (6, .int of), (0, .ref h0), (1, .int p0), (2, .int p1), (3, .int p2), (4, .int p3)]) hx hb dX5_windowsOf_57 hl (k := 2) rfl (by rw [ex_20]; rfl) (by decide) rfl (fun ls hl => ?_)
            refine lv_aload_n hx hb dX5_windowsOf_60 rfl (lv_at hl 3 rfl) ?_
            refine va_get (D := (dC, dI)) (ci := 5) (v := .ref g_row) (C := RX5) (T := TX5) (N := 30) hx hb hts hi_5 hown hK hP 0 rfl rfl 0 (by decide) hf_7 (fun _ h9 => h9) rfl dX5_windowsOf_61 ?_
            refine lv_iload hx hb dX5_windowsOf_64 (lv_at hl 1 rfl) ?_
            refine va_iald hx hb hK hP 1 0 rfl rfl (ki_in (om_10 LP1_h0) (om_279 a1 b0 i_4 i_5)) dX5_windowsOf_66 ?_
            refine lv_topi (fun y_21 ey_21 => ?_)
            have j_21 : y_21.toInt = (f i.toNatClampNeg).toInt := congrArg Int32.toInt ey_21
            refine lv_iload_n hx hb dX5_windowsOf_67 rfl (lv_at hl 4 rfl) ?_
            refine lv_icmp_ne (tgt := 74) hx hb dX5_windowsOf_68 (by decide) (fun c_22 => ?_) (fun c_22 => ?_)
            · have i_22 : ¬ y_21.toInt = p0.toInt := kc_ne c_22
              obtain ⟨x_23, ex_23⟩ : ∃ y : Int32, y = i + 1 := ⟨_, rfl⟩
              have i_23 : x_23.toInt = i.toInt + 1 := ki_add ex_23 rfl rfl (om_13 LP1_h0) (om_517 a1 b0 LP1_h3)
              refine lv_iinc (v := x_23) (lv' := [(7, .int x_23), (5, .int x_20), (6, .int of), (0, .ref h0), (1, .int p0), (2, .int p1), (3, .int p2), (4, .int p3)]) hx hb dX5_windowsOf_74 hl (k := 1) rfl (by rw [ex_23]; rfl) (by decide) rfl (fun ls hl => ?_)
              refine lv_goto (tgt := 17) hx hb dX5_windowsOf_77 (by decide) ?_
              have n_24 := ki_nat x_23 rfl (om_34 LP1_h0 i_23)
              have c_2 := mj_cnt_one f p0 i.toNatClampNeg (p1.toNatClampNeg - 1)
              rw [show p1.toNatClampNeg - 1 + 1 = p1.toNatClampNeg by omega] at c_2
              rw [if_neg (fun z => c_22 (by rw [ey_21]; exact z))] at c_2
              have st := mj_ct_yes (P := mj_wv f p1.toNatClampNeg p2.toInt p3.toInt p0) (k := i.toNatClampNeg) (k2 := x_23.toNatClampNeg) (by omega) (by unfold mj_wv; omega)
              exact ih1 x_23 x_20 of (om_34 LP1_h0 i_23) (by rw [show x_23.toNatClampNeg = i.toNatClampNeg + 1 by omega]; omega) (by rw [st]; omega) (om_518 i_4 i_5 i_23) (om_mu hn1 (om_519 i_23) (om_520 i_4 i_5)) ls (lv_sub hl [0, 2, 1, 3, 4, 5, 6, 7] rfl)
            · have i_22 : y_21.toInt = p0.toInt := kc_eq c_22
              obtain ⟨x_25, ex_25⟩ : ∃ y : Int32, y = of + (-1) := ⟨_, rfl⟩
              have i_25 : x_25.toInt = of.toInt + (-1) := ki_add ex_25 rfl rfl (om_521 LP1_h1 (Int.natCast_nonneg _)) (by omega)
              refine lv_iinc (v := x_25) (lv' := [(6, .int x_25), (5, .int x_20), (7, .int i), (0, .ref h0), (1, .int p0), (2, .int p1), (3, .int p2), (4, .int p3)]) hx hb dX5_windowsOf_71 hl (k := 2) rfl (by rw [ex_25]; rfl) (by decide) rfl (fun ls hl => ?_)
              obtain ⟨x_26, ex_26⟩ : ∃ y : Int32, y = i + 1 := ⟨_, rfl⟩
              have i_26 : x_26.toInt = i.toInt + 1 := ki_add ex_26 rfl rfl (om_13 LP1_h0) (om_517 a1 b0 LP1_h3)
              refine lv_iinc (v := x_26) (lv' := [(7, .int x_26), (6, .int x_25), (5, .int x_20), (0, .ref h0), (1, .int p0), (2, .int p1), (3, .int p2), (4, .int p3)]) hx hb dX5_windowsOf_74 hl (k := 2) rfl (by rw [ex_26]; rfl) (by decide) rfl (fun ls hl => ?_)
              refine lv_goto (tgt := 17) hx hb dX5_windowsOf_77 (by decide) ?_
              have n_27 := ki_nat x_26 rfl (om_34 LP1_h0 i_26)
              have c_2 := mj_cnt_one f p0 i.toNatClampNeg (p1.toNatClampNeg - 1)
              rw [show p1.toNatClampNeg - 1 + 1 = p1.toNatClampNeg by omega] at c_2
              rw [if_pos (by rw [← ey_21]; exact c_22)] at c_2
              have st := mj_ct_yes (P := mj_wv f p1.toNatClampNeg p2.toInt p3.toInt p0) (k := i.toNatClampNeg) (k2 := x_26.toNatClampNeg) (by omega) (by unfold mj_wv; omega)
              exact ih1 x_26 x_20 x_25 (om_34 LP1_h0 i_26) (by rw [show x_26.toNatClampNeg = i.toNatClampNeg + 1 by omega]; omega) (by rw [st]; omega) (om_518 i_4 i_5 i_26) (om_mu hn1 (om_519 i_26) (om_520 i_4 i_5)) ls (lv_sub hl [0, 1, 2, 3, 4, 5, 6, 7] rfl)
        · have i_9 : y_8.toInt = p0.toInt := kc_eq c_9
          obtain ⟨x_28, ex_28⟩ : ∃ y : Int32, y = of + 1 := ⟨_, rfl⟩
          have i_28 : x_28.toInt = of.toInt + 1 := ki_add ex_28 rfl rfl (om_381 LP1_h1 (Int.natCast_nonneg _)) (by omega)
          refine lv_iinc (v := x_28) (lv' := [(6, .int x_28), (7, .int i), (5, .int sm), (0, .ref h0), (1, .int p0), (2, .int p1), (3, .int p2), (4, .int p3)]) hx hb dX5_windowsOf_43 hl (k := 1) rfl (by rw [ex_28]; rfl) (by decide) rfl (fun ls hl => ?_)
          refine lv_iload hx hb dX5_windowsOf_46 (lv_at hl 0 rfl) ?_
          refine lv_iload hx hb dX5_windowsOf_48 (lv_at hl 7 rfl) ?_
          refine lv_imul hx hb dX5_windowsOf_50 ?_
          refine lv_topi (fun y_29 ey_29 => ?_)
          refine lv_iload_n hx hb dX5_windowsOf_51 rfl (lv_at hl 6 rfl) ?_
          refine lv_iload_n hx hb dX5_windowsOf_52 rfl (lv_at hl 5 rfl) ?_
          refine lv_imul hx hb dX5_windowsOf_53 ?_
          refine lv_topi (fun y_30 ey_30 => ?_)
          have n_37 := ki_nat y_7 rfl (om_277 b0 LP1_h0 i_6 i_7)
          have q_37 : y_7.toNatClampNeg = i.toNatClampNeg + (p1.toNatClampNeg - 1) := by omega
          have c_1 : cnt f p0 i.toNatClampNeg p1.toNatClampNeg = cnt f p0 i.toNatClampNeg (p1.toNatClampNeg - 1) + (if f (i.toNatClampNeg + (p1.toNatClampNeg - 1)) = p0 then 1 else 0) := by rw [show cnt f p0 i.toNatClampNeg p1.toNatClampNeg = cnt f p0 i.toNatClampNeg (p1.toNatClampNeg - 1 + 1) by rw [show p1.toNatClampNeg - 1 + 1 = p1.toNatClampNeg by omega]]; rfl
          rw [if_pos (by rw [← q_37, ← ey_8]; exact c_9)] at c_1
          have q_of : x_28.toInt = (cnt f p0 i.toNatClampNeg p1.toNatClampNeg : Int) := by omega
          have l_of := cnt_le f p0 i.toNatClampNeg p1.toNatClampNeg
          have b_1 := ki_mulb (a := x_28.toInt) (b := p3.toInt) (A := 160) (B := 999) (by omega) (by omega) (by omega) (by omega)
          have b_2 := ki_mulb (a := p2.toInt) (b := p1.toInt) (A := 999) (B := 160) (by omega) (by omega) (by omega) (by omega)
          have m_1 : y_29.toInt = x_28.toInt * p3.toInt := ki_mul ey_29 rfl rfl (by omega) (by omega)
          have m_2 : y_30.toInt = p2.toInt * p1.toInt := ki_mul ey_30 rfl rfl (by omega) (by omega)
          rw [q_of] at m_1
          rw [← n_p1] at m_2
          refine lv_icmp_le (tgt := 60) hx hb dX5_windowsOf_54 (by decide) (fun c_31 => ?_) (fun c_31 => ?_)
          · have i_31 : y_29.toInt ≤ y_30.toInt := kc_le c_31
            refine lv_aload_n hx hb dX5_windowsOf_60 rfl (lv_at hl 3 rfl) ?_
            refine va_get (D := (dC, dI)) (ci := 5) (v := .ref g_row) (C := RX5) (T := TX5) (N := 30) hx hb hts hi_5 hown hK hP 0 rfl rfl 0 (by decide) hf_7 (fun _ h9 => h9) rfl dX5_windowsOf_61 ?_
            refine lv_iload hx hb dX5_windowsOf_64 (lv_at hl 1 rfl) ?_
            refine va_iald hx hb hK hP 1 0 rfl rfl (ki_in (om_10 LP1_h0) (om_279 a1 b0 i_4 i_5)) dX5_windowsOf_66 ?_
            refine lv_topi (fun y_32 ey_32 => ?_)
            have j_32 : y_32.toInt = (f i.toNatClampNeg).toInt := congrArg Int32.toInt ey_32
            refine lv_iload_n hx hb dX5_windowsOf_67 rfl (lv_at hl 4 rfl) ?_
            refine lv_icmp_ne (tgt := 74) hx hb dX5_windowsOf_68 (by decide) (fun c_33 => ?_) (fun c_33 => ?_)
            · have i_33 : ¬ y_32.toInt = p0.toInt := kc_ne c_33
              obtain ⟨x_34, ex_34⟩ : ∃ y : Int32, y = i + 1 := ⟨_, rfl⟩
              have i_34 : x_34.toInt = i.toInt + 1 := ki_add ex_34 rfl rfl (om_13 LP1_h0) (om_517 a1 b0 LP1_h3)
              refine lv_iinc (v := x_34) (lv' := [(7, .int x_34), (6, .int x_28), (5, .int sm), (0, .ref h0), (1, .int p0), (2, .int p1), (3, .int p2), (4, .int p3)]) hx hb dX5_windowsOf_74 hl (k := 1) rfl (by rw [ex_34]; rfl) (by decide) rfl (fun ls hl => ?_)
              refine lv_goto (tgt := 17) hx hb dX5_windowsOf_77 (by decide) ?_
              have n_35 := ki_nat x_34 rfl (om_34 LP1_h0 i_34)
              have c_2 := mj_cnt_one f p0 i.toNatClampNeg (p1.toNatClampNeg - 1)
              rw [show p1.toNatClampNeg - 1 + 1 = p1.toNatClampNeg by omega] at c_2
              rw [if_neg (fun z => c_33 (by rw [ey_32]; exact z))] at c_2
              have st := mj_ct_no (P := mj_wv f p1.toNatClampNeg p2.toInt p3.toInt p0) (k := i.toNatClampNeg) (k2 := x_34.toNatClampNeg) (by omega) (fun z => by unfold mj_wv at z; omega)
              exact ih1 x_34 sm x_28 (om_34 LP1_h0 i_34) (by rw [show x_34.toNatClampNeg = i.toNatClampNeg + 1 by omega]; omega) (by rw [st]; omega) (om_518 i_4 i_5 i_34) (om_mu hn1 (om_519 i_34) (om_520 i_4 i_5)) ls (lv_sub hl [0, 1, 2, 3, 4, 5, 6, 7] rfl)
            · have i_33 : y_32.toInt = p0.toInt := kc_eq c_33
              obtain ⟨x_36, ex_36⟩ : ∃ y : Int32, y = x_28 + (-1) := ⟨_, rfl⟩
              have i_36 : x_36.toInt = x_28.toInt + (-1) := ki_add ex_36 rfl rfl (om_522 LP1_h1 i_28 (Int.natCast_nonneg _)) (by omega)
              refine lv_iinc (v := x_36) (lv' := [(6, .int x_36), (7, .int i), (5, .int sm), (0, .ref h0), (1, .int p0), (2, .int p1), (3, .int p2), (4, .int p3)]) hx hb dX5_windowsOf_71 hl (k := 0) rfl (by rw [ex_36]; rfl) (by decide) rfl (fun ls hl => ?_)
              obtain ⟨x_37, ex_37⟩ : ∃ y : Int32, y = i + 1 := ⟨_, rfl⟩
              have i_37 : x_37.toInt = i.toInt + 1 := ki_add ex_37 rfl rfl (om_13 LP1_h0) (om_517 a1 b0 LP1_h3)
              refine lv_iinc (v := x_37) (lv' := [(7, .int x_37), (6, .int x_36), (5, .int sm), (0, .ref h0), (1, .int p0), (2, .int p1), (3, .int p2), (4, .int p3)]) hx hb dX5_windowsOf_74 hl (k := 1) rfl (by rw [ex_37]; rfl) (by decide) rfl (fun ls hl => ?_)
              refine lv_goto (tgt := 17) hx hb dX5_windowsOf_77 (by decide) ?_
              have n_38 := ki_nat x_37 rfl (om_34 LP1_h0 i_37)
              have c_2 := mj_cnt_one f p0 i.toNatClampNeg (p1.toNatClampNeg - 1)
              rw [show p1.toNatClampNeg - 1 + 1 = p1.toNatClampNeg by omega] at c_2
              rw [if_pos (by rw [← ey_32]; exact c_33)] at c_2
              have st := mj_ct_no (P := mj_wv f p1.toNatClampNeg p2.toInt p3.toInt p0) (k := i.toNatClampNeg) (k2 := x_37.toNatClampNeg) (by omega) (fun z => by unfold mj_wv at z; omega)
              exact ih1 x_37 sm x_36 (om_34 LP1_h0 i_37) (by rw [show x_37.toNatClampNeg = i.toNatClampNeg + 1 by omega]; omega) (by rw [st]; omega) (om_518 i_4 i_5 i_37) (om_mu hn1 (om_519 i_37) (om_520 i_4 i_5)) ls (lv_sub hl [0, 1, 2, 3, 4, 5, 6, 7] rfl)
          · have i_31 : y_30.toInt < y_29.toInt := kc_nle c_31
            obtain ⟨x_39, ex_39⟩ : ∃ y : Int32, y = sm + 1 := ⟨_, rfl⟩
            have i_39 : x_39.toInt = sm.toInt + 1 := ki_add ex_39 rfl rfl (om_381 LP1_h2 (Int.natCast_nonneg _)) (by omega)
            refine lv_iinc (v := x_39) (lv' := [(5, .int x_39), (6, .int x_28), (7, .int i), (0, .ref h0), (1, .int p0), (2, .int p1), (3, .int p2), (4, .int p3)]) hx hb dX5_windowsOf_57 hl (k := 2) rfl (by rw [ex_39]; rfl) (by decide) rfl (fun ls hl => ?_)
            refine lv_aload_n hx hb dX5_windowsOf_60 rfl (lv_at hl 3 rfl) ?_
            refine va_get (D := (dC, dI)) (ci := 5) (v := .ref g_row) (C := RX5) (T := TX5) (N := 30) hx hb hts hi_5 hown hK hP 0 rfl rfl 0 (by decide) hf_7 (fun _ h9 => h9) rfl dX5_windowsOf_61 ?_
            refine lv_iload hx hb dX5_windowsOf_64 (lv_at hl 2 rfl) ?_
            refine va_iald hx hb hK hP 1 0 rfl rfl (ki_in (om_10 LP1_h0) (om_279 a1 b0 i_4 i_5)) dX5_windowsOf_66 ?_
            refine lv_topi (fun y_40 ey_40 => ?_)
            have j_40 : y_40.toInt = (f i.toNatClampNeg).toInt := congrArg Int32.toInt ey_40
            refine lv_iload_n hx hb dX5_windowsOf_67 rfl (lv_at hl 4 rfl) ?_
            refine lv_icmp_ne (tgt := 74) hx hb dX5_windowsOf_68 (by decide) (fun c_41 => ?_) (fun c_41 => ?_)
            · have i_41 : ¬ y_40.toInt = p0.toInt := kc_ne c_41
              obtain ⟨x_42, ex_42⟩ : ∃ y : Int32, y = i + 1 := ⟨_, rfl⟩
              have i_42 : x_42.toInt = i.toInt + 1 := ki_add ex_42 rfl rfl (om_13 LP1_h0) (om_517 a1 b0 LP1_h3)
              refine lv_iinc (v := x_42) (lv' := [(7, .int x_42), (5, .int x_39), (6, .int x_28), (0, .ref h0), (1, .int p0), (2, .int p1), (3, .int p2), (4, .int p3)]) hx hb dX5_windowsOf_74 hl (k := 2) rfl (by rw [ex_42]; rfl) (by decide) rfl (fun ls hl => ?_)
              refine lv_goto (tgt := 17) hx hb dX5_windowsOf_77 (by decide) ?_
              have n_43 := ki_nat x_42 rfl (om_34 LP1_h0 i_42)
              have c_2 := mj_cnt_one f p0 i.toNatClampNeg (p1.toNatClampNeg - 1)
              rw [show p1.toNatClampNeg - 1 + 1 = p1.toNatClampNeg by omega] at c_2
              rw [if_neg (fun z => c_41 (by rw [ey_40]; exact z))] at c_2
              have st := mj_ct_yes (P := mj_wv f p1.toNatClampNeg p2.toInt p3.toInt p0) (k := i.toNatClampNeg) (k2 := x_42.toNatClampNeg) (by omega) (by unfold mj_wv; omega)
              exact ih1 x_42 x_39 x_28 (om_34 LP1_h0 i_42) (by rw [show x_42.toNatClampNeg = i.toNatClampNeg + 1 by omega]; omega) (by rw [st]; omega) (om_518 i_4 i_5 i_42) (om_mu hn1 (om_519 i_42) (om_520 i_4 i_5)) ls (lv_sub hl [0, 2, 1, 3, 4, 5, 6, 7] rfl)
            · have i_41 : y_40.toInt = p0.toInt := kc_eq c_41
              obtain ⟨x_44, ex_44⟩ : ∃ y : Int32, y = x_28 + (-1) := ⟨_, rfl⟩
              have i_44 : x_44.toInt = x_28.toInt + (-1) := ki_add ex_44 rfl rfl (om_522 LP1_h1 i_28 (Int.natCast_nonneg _)) (by omega)
              refine lv_iinc (v := x_44) (lv' := [(6, .int x_44), (5, .int x_39), (7, .int i), (0, .ref h0), (1, .int p0), (2, .int p1), (3, .int p2), (4, .int p3)]) hx hb dX5_windowsOf_71 hl (k := 1) rfl (by rw [ex_44]; rfl) (by decide) rfl (fun ls hl => ?_)
              obtain ⟨x_45, ex_45⟩ : ∃ y : Int32, y = i + 1 := ⟨_, rfl⟩
              have i_45 : x_45.toInt = i.toInt + 1 := ki_add ex_45 rfl rfl (om_13 LP1_h0) (om_517 a1 b0 LP1_h3)
              refine lv_iinc (v := x_45) (lv' := [(7, .int x_45), (6, .int x_44), (5, .int x_39), (0, .ref h0), (1, .int p0), (2, .int p1), (3, .int p2), (4, .int p3)]) hx hb dX5_windowsOf_74 hl (k := 2) rfl (by rw [ex_45]; rfl) (by decide) rfl (fun ls hl => ?_)
              refine lv_goto (tgt := 17) hx hb dX5_windowsOf_77 (by decide) ?_
              have n_46 := ki_nat x_45 rfl (om_34 LP1_h0 i_45)
              have c_2 := mj_cnt_one f p0 i.toNatClampNeg (p1.toNatClampNeg - 1)
              rw [show p1.toNatClampNeg - 1 + 1 = p1.toNatClampNeg by omega] at c_2
              rw [if_pos (by rw [← ey_40]; exact c_41)] at c_2
              have st := mj_ct_yes (P := mj_wv f p1.toNatClampNeg p2.toInt p3.toInt p0) (k := i.toNatClampNeg) (k2 := x_45.toNatClampNeg) (by omega) (by unfold mj_wv; omega)
              exact ih1 x_45 x_39 x_44 (om_34 LP1_h0 i_45) (by rw [show x_45.toNatClampNeg = i.toNatClampNeg + 1 by omega]; omega) (by rw [st]; omega) (om_518 i_4 i_5 i_45) (om_mu hn1 (om_519 i_45) (om_520 i_4 i_5)) ls (lv_sub hl [0, 1, 2, 3, 4, 5, 6, 7] rfl)
  have k_47 : (0 : Int32).toInt = 0 := rfl
  have k_48 : (0 : Int32).toInt = 0 := rfl
  exact LP1 ((m_n.toInt + 1 - p1.toInt - 0 : Int).toNat + 1) 0 0 r_3 om_35 (w_3.trans (congrArg (fun z : Nat => ((cnt f p0 0 z : Nat) : Int)) (by omega))) rfl (om_523 b1) (Nat.lt_succ_self _) ls (lv_sub hl [0, 1, 2, 3, 4, 5, 6, 7] rfl)

set_option maxHeartbeats 4000000 in
set_option maxRecDepth 100000 in
theorem c_X5_anyWindows_x (l : Launch) (dC : Nat → ClassId) (dI : Nat → Nat → Nat) (h0 : Nat) (g_row : Nat) (g_many : Nat) (g_loss : Nat) (g_less : Nat) (g_voteValue : Nat) (g_voteNumber : Nat) (g_allValue : Nat) (g_allNumber : Nat) (g_nodeL : Nat) (g_nodeR : Nat) (g_part : Nat) (g_wasMany : Nat) (g_wasLoss : Nat) (g_wasValue : Nat) (g_wasNumber : Nat) (g_path : Nat) (g_heavyValue : Nat) (g_heavyTimes : Nat) (g_fewest : Nat) (g_which : Nat) (g_met : Nat) (m_n : Int32) (m_slots : Int32) (m_thrown : Int32) (m_allMany : Int32) (m_nodes : Int32) (m_partMany : Int32) (m_pathMany : Int32) (m_heavyMany : Int32) (m_mostMet : Int32) (cyI : ClassId) (f : Nat → Int32) (p0 : Int32) (p1 : Int32) (p2 : Int32) (a0 : 0 ≤ m_n.toInt) (a1 : m_n.toInt ≤ 160) (b0 : 1 ≤ p0.toInt) (b1 : p0.toInt ≤ m_n.toInt) (e0 : 1 ≤ p1.toInt) (e1 : p1.toInt ≤ p2.toInt) (e2 : p2.toInt ≤ 999) : Met l yX5_anyWindows wsX5_anyWindows ({ frames := 1, cells := 0, slots := 0, locals := 45 }) (va_Pc [.ref h0, .int p0, .int p1, .int p2] (fun U => va_P (dC, dI) vwCl [kx_5 h0 g_row m_n m_slots m_thrown g_many g_loss g_less g_voteValue g_voteNumber g_allValue g_allNumber m_allMany g_nodeL g_nodeR m_nodes g_part m_partMany g_wasMany g_wasLoss g_wasValue g_wasNumber g_path m_pathMany g_heavyValue g_heavyTimes m_heavyMany g_fewest g_which g_met m_mostMet, kx_a g_row cyI 160 f] U.heap ∧ va_K (dC, dI) vwCl [(cyI, .int)] U)) (vp_Si (fun r : Int32 => r.toInt = (mj_ct (mj_ay f p0.toNatClampNeg p1.toInt p2.toInt) (m_n.toNatClampNeg + 1 - p0.toNatClampNeg) : Int))) 0 0 (fun _ => False) := by
  refine kx_stS (ws := wsX5_anyWindows) (cc := cX5_anyWindows) (maxL := 8) (ret := (some .int)) (by decide) rfl (Nat.le_of_ble_eq_true rfl) ?_
  intro p e s m below meth c ls hx hb hr hlocks hts hown hml hP hK hl
  have hown : s.vm.findClass RX5 = some m.cls := hown
  have hl : lv_has ls 8 [(0, .ref h0), (1, .int p0), (2, .int p1), (3, .int p2)] := hl
  have hf_84 := hts (.fieldLink RX5 84 "MajorityIndexModel" "n" "I") (List.mem_of_getElem? (i := 1) rfl)
  have hi_5 : ∀ w ∈ u_ws RX5 TX5 30, w ∈ wsX5_anyWindows := fun w h => List.mem_cons_of_mem _ (List.mem_append_right _ h)
  have hf_7 := hts (.fieldLink RX5 7 "MajorityIndexModel" "row" "[I") (List.mem_of_getElem? (i := 2) rfl)
  have n_p0 := ki_nat p0 rfl (om_51 b0)
  have n_l := ki_nat m_n rfl (om_10 a0)
  refine lv_iconst (v := 0) hx hb dX5_anyWindows_0 (by decide) ?_
  refine lv_istore (lv' := [(4, .int 0), (0, .ref h0), (1, .int p0), (2, .int p1), (3, .int p2)]) hx hb dX5_anyWindows_1 hl (by decide) rfl (fun ls hl => ?_)
  refine lv_iconst (v := 0) hx hb dX5_anyWindows_3 (by decide) ?_
  refine lv_istore (lv' := [(5, .int 0), (4, .int 0), (0, .ref h0), (1, .int p0), (2, .int p1), (3, .int p2)]) hx hb dX5_anyWindows_4 hl (by decide) rfl (fun ls hl => ?_)
  have LP1 : ∀ (n : Nat) (i : Int32) (sm : Int32), (0 ≤ i.toInt) → (sm.toInt = (mj_ct (mj_ay f p0.toNatClampNeg p1.toInt p2.toInt) i.toNatClampNeg : Int)) → (i.toInt + p0.toInt ≤ m_n.toInt + 1) → (m_n.toInt + 1 - p0.toInt - i.toInt).toNat < n → ∀ (ls : Array Slot), lv_has ls 8 [(5, .int i), (4, .int sm), (0, .ref h0), (1, .int p0), (2, .int p1), (3, .int p2)] → W p l e (headSpec wsX5_anyWindows ({ frames := 1, cells := 0, slots := 0, locals := 45 })).room s m ([.ref h0, .int p0, .int p1, .int p2] : List Value).toArray below meth c s.heap [] 0 0 (MQ below (vp_Si (fun r : Int32 => r.toInt = (mj_ct (mj_ay f p0.toNatClampNeg p1.toInt p2.toInt) (m_n.toNatClampNeg + 1 - p0.toNatClampNeg) : Int))) ([.ref h0, .int p0, .int p1, .int p2] : List Value).toArray s 0 0 (fun _ => False)) (F0 m 6 ls []) := by
    intro n
    induction n with
    | zero => intro i sm LP1_h0 LP1_h1 LP1_h2 hn; exact absurd hn (Nat.not_lt_zero _)
    | succ n ih1 =>
      intro i sm LP1_h0 LP1_h1 LP1_h2 hn1 ls hl
      have n_i := ki_nat i rfl (om_10 LP1_h0)
      have hle := mj_ct_le (mj_ay f p0.toNatClampNeg p1.toInt p2.toInt) i.toNatClampNeg
      refine lv_iload hx hb dX5_anyWindows_6 (lv_at hl 0 rfl) ?_
      refine lv_iload_n hx hb dX5_anyWindows_8 rfl (lv_at hl 3 rfl) ?_
      refine lv_iadd hx hb dX5_anyWindows_9 ?_
      refine lv_topi (fun y_1 ey_1 => ?_)
      have i_1 : y_1.toInt = i.toInt + p0.toInt := ki_add ey_1 rfl rfl (om_272 b0 LP1_h0) (om_515 a1 LP1_h2)
      refine lv_aload_n hx hb dX5_anyWindows_10 rfl (lv_at hl 2 rfl) ?_
      refine va_get (D := (dC, dI)) (ci := 5) (v := .int m_n) (C := RX5) (T := TX5) (N := 30) hx hb hts hi_5 hown hK hP 0 rfl rfl 1 (by decide) hf_84 (fun _ h9 => h9) rfl dX5_anyWindows_11 ?_
      refine lv_icmp_gt (tgt := 90) hx hb dX5_anyWindows_14 (by decide) (fun c_2 => ?_) (fun c_2 => ?_)
      · have i_2 : m_n.toInt < y_1.toInt := kc_lt c_2
        refine lv_iload hx hb dX5_anyWindows_90 (lv_at hl 1 rfl) ?_
        exact W.iret (v := sm) hx hb hr (hlocks := hlocks) (fun t ht hW => ⟨sm, rfl, (by (try dsimp only); rw [show m_n.toNatClampNeg + 1 - p0.toNatClampNeg = i.toNatClampNeg by omega]; exact LP1_h1), ht⟩) (fun q hq => by cases hq) dX5_anyWindows_92
      · have i_2 : y_1.toInt ≤ m_n.toInt := kc_nlt c_2
        refine lv_iconst (v := 0) hx hb dX5_anyWindows_17 (by decide) ?_
        refine lv_istore (lv' := [(6, .int 0), (5, .int i), (4, .int sm), (0, .ref h0), (1, .int p0), (2, .int p1), (3, .int p2)]) hx hb dX5_anyWindows_18 hl (by decide) rfl (fun ls hl => ?_)
        refine lv_iload hx hb dX5_anyWindows_20 (lv_at hl 1 rfl) ?_
        refine lv_istore (lv' := [(7, .int i), (6, .int 0), (5, .int i), (4, .int sm), (0, .ref h0), (1, .int p0), (2, .int p1), (3, .int p2)]) hx hb dX5_anyWindows_22 hl (by decide) rfl (fun ls hl => ?_)
        have LP2 : ∀ (n : Nat) (j : Int32) (is : Int32), (i.toInt ≤ j.toInt) → ((is.toInt = 1 ∧ mj_ay f p0.toNatClampNeg p1.toInt p2.toInt i.toNatClampNeg) ∨ (is.toInt = 0 ∧ ∀ k : Nat, i.toNatClampNeg ≤ k → k < j.toNatClampNeg → ¬ mj_wv f p0.toNatClampNeg p1.toInt p2.toInt (f k) i.toNatClampNeg)) → (j.toInt ≤ i.toInt + p0.toInt) → (i.toInt + p0.toInt - j.toInt).toNat < n → ∀ (ls : Array Slot), lv_has ls 8 [(7, .int j), (6, .int is), (5, .int i), (4, .int sm), (0, .ref h0), (1, .int p0), (2, .int p1), (3, .int p2)] → W p l e (headSpec wsX5_anyWindows ({ frames := 1, cells := 0, slots := 0, locals := 45 })).room s m ([.ref h0, .int p0, .int p1, .int p2] : List Value).toArray below meth c s.heap [] 0 0 (MQ below (vp_Si (fun r : Int32 => r.toInt = (mj_ct (mj_ay f p0.toNatClampNeg p1.toInt p2.toInt) (m_n.toNatClampNeg + 1 - p0.toNatClampNeg) : Int))) ([.ref h0, .int p0, .int p1, .int p2] : List Value).toArray s 0 0 (fun _ => False)) (F0 m 24 ls []) := by
          intro n
          induction n with
          | zero => intro j is LP2_h0 LP2_h1 LP2_h2 hn; exact absurd hn (Nat.not_lt_zero _)
          | succ n ih2 =>
            intro j is LP2_h0 LP2_h1 LP2_h2 hn2 ls hl
            have n_j := ki_nat j rfl (om_0 LP1_h0 LP2_h0)
            refine lv_iload hx hb dX5_anyWindows_24 (lv_at hl 0 rfl) ?_
            refine lv_iload hx hb dX5_anyWindows_26 (lv_at hl 2 rfl) ?_
            refine lv_iload_n hx hb dX5_anyWindows_28 rfl (lv_at hl 5 rfl) ?_
            refine lv_iadd hx hb dX5_anyWindows_29 ?_
            refine lv_topi (fun y_3 ey_3 => ?_)
            have i_3 : y_3.toInt = i.toInt + p0.toInt := ki_add ey_3 rfl rfl (om_272 b0 LP1_h0) (om_515 a1 LP1_h2)
            refine lv_icmp_ge (tgt := 76) hx hb dX5_anyWindows_30 (by decide) (fun c_4 => ?_) (fun c_4 => ?_)
            · have i_4 : y_3.toInt ≤ j.toInt := kc_le c_4
              refine lv_iload hx hb dX5_anyWindows_76 (lv_at hl 1 rfl) ?_
              refine lv_if_eq (tgt := 84) hx hb dX5_anyWindows_78 (by decide) (fun c_5 => ?_) (fun c_5 => ?_)
              · have i_5 : is.toInt = 0 := kc_eq c_5
                obtain ⟨x_6, ex_6⟩ : ∃ y : Int32, y = i + 1 := ⟨_, rfl⟩
                have i_6 : x_6.toInt = i.toInt + 1 := ki_add ex_6 rfl rfl (om_13 LP1_h0) (om_517 a1 b0 LP1_h2)
                refine lv_iinc (v := x_6) (lv' := [(5, .int x_6), (7, .int j), (6, .int is), (4, .int sm), (0, .ref h0), (1, .int p0), (2, .int p1), (3, .int p2)]) hx hb dX5_anyWindows_84 hl (k := 2) rfl (by rw [ex_6]; rfl) (by decide) rfl (fun ls hl => ?_)
                refine lv_goto (tgt := 6) hx hb dX5_anyWindows_87 (by decide) ?_
                have n_7 := ki_nat x_6 rfl (om_34 LP1_h0 i_6)
                have st := mj_ct_no (P := mj_ay f p0.toNatClampNeg p1.toInt p2.toInt) (k := i.toNatClampNeg) (k2 := x_6.toNatClampNeg) (by omega) (by rcases LP2_h1 with g | g; (exfalso; have := g.1; omega); exact fun ⟨k, k1, k2, k3⟩ => g.2 k k1 (by omega) k3)
                exact ih1 x_6 sm (om_34 LP1_h0 i_6) (by rw [st]; omega) (om_518 i_1 i_2 i_6) (om_mu hn1 (om_519 i_6) (om_520 i_1 i_2)) ls (lv_sub hl [0, 3, 4, 5, 6, 7] rfl)
              · have i_5 : ¬ is.toInt = 0 := kc_ne c_5
                obtain ⟨x_8, ex_8⟩ : ∃ y : Int32, y = sm + 1 := ⟨_, rfl⟩
                have i_8 : x_8.toInt = sm.toInt + 1 := ki_add ex_8 rfl rfl (om_381 LP1_h1 (Int.natCast_nonneg _)) (by omega)
                refine lv_iinc (v := x_8) (lv' := [(4, .int x_8), (7, .int j), (6, .int is), (5, .int i), (0, .ref h0), (1, .int p0), (2, .int p1), (3, .int p2)]) hx hb dX5_anyWindows_81 hl (k := 3) rfl (by rw [ex_8]; rfl) (by decide) rfl (fun ls hl => ?_)
                obtain ⟨x_9, ex_9⟩ : ∃ y : Int32, y = i + 1 := ⟨_, rfl⟩
                have i_9 : x_9.toInt = i.toInt + 1 := ki_add ex_9 rfl rfl (om_13 LP1_h0) (om_517 a1 b0 LP1_h2)
                refine lv_iinc (v := x_9) (lv' := [(5, .int x_9), (4, .int x_8), (7, .int j), (6, .int is), (0, .ref h0), (1, .int p0), (2, .int p1), (3, .int p2)]) hx hb dX5_anyWindows_84 hl (k := 3) rfl (by rw [ex_9]; rfl) (by decide) rfl (fun ls hl => ?_)
                refine lv_goto (tgt := 6) hx hb dX5_anyWindows_87 (by decide) ?_
                have n_10 := ki_nat x_9 rfl (om_34 LP1_h0 i_9)
                have st := mj_ct_yes (P := mj_ay f p0.toNatClampNeg p1.toInt p2.toInt) (k := i.toNatClampNeg) (k2 := x_9.toNatClampNeg) (by omega) (by rcases LP2_h1 with g | g; exact g.2; (exfalso; have := g.1; omega))
                exact ih1 x_9 x_8 (om_34 LP1_h0 i_9) (by rw [st]; omega) (om_518 i_1 i_2 i_9) (om_mu hn1 (om_519 i_9) (om_520 i_1 i_2)) ls (lv_sub hl [0, 1, 4, 5, 6, 7] rfl)
            · have i_4 : j.toInt < y_3.toInt := kc_nle c_4
              refine lv_iload hx hb dX5_anyWindows_33 (lv_at hl 1 rfl) ?_
              refine lv_if_ne (tgt := 76) hx hb dX5_anyWindows_35 (by decide) (fun c_11 => ?_) (fun c_11 => ?_)
              · have i_11 : ¬ is.toInt = 0 := kc_ne c_11
                refine lv_iload hx hb dX5_anyWindows_76 (lv_at hl 1 rfl) ?_
                refine lv_if_eq (tgt := 84) hx hb dX5_anyWindows_78 (by decide) (fun c_12 => ?_) (fun c_12 => ?_)
                · have i_12 : is.toInt = 0 := kc_eq c_12
                  obtain ⟨x_13, ex_13⟩ : ∃ y : Int32, y = i + 1 := ⟨_, rfl⟩
                  have i_13 : x_13.toInt = i.toInt + 1 := ki_add ex_13 rfl rfl (om_13 LP1_h0) (om_517 a1 b0 LP1_h2)
                  refine lv_iinc (v := x_13) (lv' := [(5, .int x_13), (7, .int j), (6, .int is), (4, .int sm), (0, .ref h0), (1, .int p0), (2, .int p1), (3, .int p2)]) hx hb dX5_anyWindows_84 hl (k := 2) rfl (by rw [ex_13]; rfl) (by decide) rfl (fun ls hl => ?_)
                  refine lv_goto (tgt := 6) hx hb dX5_anyWindows_87 (by decide) ?_
                  have n_14 := ki_nat x_13 rfl (om_34 LP1_h0 i_13)
                  have st := mj_ct_no (P := mj_ay f p0.toNatClampNeg p1.toInt p2.toInt) (k := i.toNatClampNeg) (k2 := x_13.toNatClampNeg) (by omega) (by rcases LP2_h1 with g | g; (exfalso; have := g.1; omega); exact fun ⟨k, k1, k2, k3⟩ => g.2 k k1 (by omega) k3)
                  exact ih1 x_13 sm (om_34 LP1_h0 i_13) (by rw [st]; omega) (om_518 i_1 i_2 i_13) (om_mu hn1 (om_519 i_13) (om_520 i_1 i_2)) ls (lv_sub hl [0, 3, 4, 5, 6, 7] rfl)
                · have i_12 : ¬ is.toInt = 0 := kc_ne c_12
                  obtain ⟨x_15, ex_15⟩ : ∃ y : Int32, y = sm + 1 := ⟨_, rfl⟩
                  have i_15 : x_15.toInt = sm.toInt + 1 := ki_add ex_15 rfl rfl (om_381 LP1_h1 (Int.natCast_nonneg _)) (by omega)
                  refine lv_iinc (v := x_15) (lv' := [(4, .int x_15), (7, .int j), (6, .int is), (5, .int i), (0, .ref h0), (1, .int p0), (2, .int p1), (3, .int p2)]) hx hb dX5_anyWindows_81 hl (k := 3) rfl (by rw [ex_15]; rfl) (by decide) rfl (fun ls hl => ?_)
                  obtain ⟨x_16, ex_16⟩ : ∃ y : Int32, y = i + 1 := ⟨_, rfl⟩
                  have i_16 : x_16.toInt = i.toInt + 1 := ki_add ex_16 rfl rfl (om_13 LP1_h0) (om_517 a1 b0 LP1_h2)
                  refine lv_iinc (v := x_16) (lv' := [(5, .int x_16), (4, .int x_15), (7, .int j), (6, .int is), (0, .ref h0), (1, .int p0), (2, .int p1), (3, .int p2)]) hx hb dX5_anyWindows_84 hl (k := 3) rfl (by rw [ex_16]; rfl) (by decide) rfl (fun ls hl => ?_)
                  refine lv_goto (tgt := 6) hx hb dX5_anyWindows_87 (by decide) ?_
                  have n_17 := ki_nat x_16 rfl (om_34 LP1_h0 i_16)
                  have st := mj_ct_yes (P := mj_ay f p0.toNatClampNeg p1.toInt p2.toInt) (k := i.toNatClampNeg) (k2 := x_16.toNatClampNeg) (by omega) (by rcases LP2_h1 with g | g; exact g.2; (exfalso; have := g.1; omega))
                  exact ih1 x_16 x_15 (om_34 LP1_h0 i_16) (by rw [st]; omega) (om_518 i_1 i_2 i_16) (om_mu hn1 (om_519 i_16) (om_520 i_1 i_2)) ls (lv_sub hl [0, 1, 4, 5, 6, 7] rfl)
              · have i_11 : is.toInt = 0 := kc_eq c_11
                refine lv_aload_n hx hb dX5_anyWindows_38 rfl (lv_at hl 4 rfl) ?_
                refine lv_aload_n hx hb dX5_anyWindows_39 rfl (lv_at hl 4 rfl) ?_
                refine va_get (D := (dC, dI)) (ci := 5) (v := .ref g_row) (C := RX5) (T := TX5) (N := 30) hx hb hts hi_5 hown hK hP 0 rfl rfl 0 (by decide) hf_7 (fun _ h9 => h9) rfl dX5_anyWindows_40 ?_
                refine lv_iload hx hb dX5_anyWindows_43 (lv_at hl 0 rfl) ?_
                refine va_iald hx hb hK hP 1 0 rfl rfl (ki_in (om_0 LP1_h0 LP2_h0) (om_282 a1 i_1 i_2 i_3 i_4)) dX5_anyWindows_45 ?_
                refine lv_topi (fun y_18 ey_18 => ?_)
                have j_18 : y_18.toInt = (f j.toNatClampNeg).toInt := congrArg Int32.toInt ey_18
                refine lv_iload hx hb dX5_anyWindows_46 (lv_at hl 2 rfl) ?_
                refine lv_iload hx hb dX5_anyWindows_48 (lv_at hl 2 rfl) ?_
                refine lv_iload_n hx hb dX5_anyWindows_50 rfl (lv_at hl 5 rfl) ?_
                refine lv_iadd hx hb dX5_anyWindows_51 ?_
                refine lv_topi (fun y_19 ey_19 => ?_)
                have i_19 : y_19.toInt = i.toInt + p0.toInt := ki_add ey_19 rfl rfl (om_272 b0 LP1_h0) (om_515 a1 LP1_h2)
                have hPc := hP
                have hKc := hK
                refine vp_callSi (W.runV (As := [.int y_18, .int i, .int y_19]) (rest := []) ⟨hx, hb, hml, hown, hts⟩ (c_X5_times l dC dI h0 g_row g_many g_loss g_less g_voteValue g_voteNumber g_allValue g_allNumber g_nodeL g_nodeR g_part g_wasMany g_wasLoss g_wasValue g_wasNumber g_path g_heavyValue g_heavyTimes g_fewest g_which g_met m_n m_slots m_thrown m_allMany m_nodes m_partMany m_pathMany m_heavyMany m_mostMet cyI f y_18 i y_19 LP1_h0 (om_283 a1 i_1 i_2 i_19)) (cwV 3 hts gX5_anyWindows_X5_times rfl rfl rfl (by decide +kernel) ⟨Nat.le_of_ble_eq_true rfl, Nat.le_of_ble_eq_true rfl⟩) ⟨fun a U g mk q => by obtain ⟨q0, qP, qK⟩ := q; exact ⟨q0, qP, va_K.moved (u := U) (U := U.calling g mk a) (Vm.Alike.refl U.vm) qK⟩, kx_rc5 hKc hPc (q0 := 0) rfl, fun U hU hW => ⟨rfl, by rw [hU]; exact hPc, va_K.moved hW.alike hKc⟩⟩ rfl rfl hl.1 rfl (lv_room (Nat.le_of_ble_eq_true rfl)) dX5_anyWindows_52 ⟨Nat.le_of_ble_eq_true rfl, Nat.le_of_ble_eq_true rfl⟩) (fun r_20 w_20 => ?_)
                have w_20 : r_20.toInt = (cnt f y_18 i.toNatClampNeg (y_19.toInt - i.toInt).toNat : Int) := w_20
                refine lv_iload_n hx hb dX5_anyWindows_55 rfl (lv_at hl 7 rfl) ?_
                refine lv_imul hx hb dX5_anyWindows_56 ?_
                refine lv_topi (fun y_21 ey_21 => ?_)
                refine lv_iload_n hx hb dX5_anyWindows_57 rfl (lv_at hl 6 rfl) ?_
                refine lv_iload_n hx hb dX5_anyWindows_58 rfl (lv_at hl 5 rfl) ?_
                refine lv_imul hx hb dX5_anyWindows_59 ?_
                refine lv_topi (fun y_22 ey_22 => ?_)
                have l_r := cnt_le f y_18 i.toNatClampNeg (y_19.toInt - i.toInt).toNat
                have b_1 := ki_mulb (a := r_20.toInt) (b := p2.toInt) (A := 160) (B := 999) (by omega) (by omega) (by omega) (by omega)
                have b_2 := ki_mulb (a := p1.toInt) (b := p0.toInt) (A := 999) (B := 160) (by omega) (by omega) (by omega) (by omega)
                have m_1 : y_21.toInt = r_20.toInt * p2.toInt := ki_mul ey_21 rfl rfl (by omega) (by omega)
                have m_2 : y_22.toInt = p1.toInt * p0.toInt := ki_mul ey_22 rfl rfl (by omega) (by omega)
                refine lv_icmp_le (tgt := 67) hx hb dX5_anyWindows_60 (by decide) (fun c_23 => ?_) (fun c_23 => ?_)
                · have i_23 : y_21.toInt ≤ y_22.toInt := kc_le c_23
                  refine lv_iconst (v := 0) hx hb dX5_anyWindows_67 (by decide) ?_
                  refine lv_istore (lv' := [(6, .int 0), (7, .int j), (5, .int i), (4, .int sm), (0, .ref h0), (1, .int p0), (2, .int p1), (3, .int p2)]) hx hb dX5_anyWindows_68 hl (by decide) rfl (fun ls hl => ?_)
                  obtain ⟨x_24, ex_24⟩ : ∃ y : Int32, y = j + 1 := ⟨_, rfl⟩
                  have i_24 : x_24.toInt = j.toInt + 1 := ki_add ex_24 rfl rfl (om_2 LP1_h0 LP2_h0) (om_524 a1 LP1_h2 LP2_h2)
                  refine lv_iinc (v := x_24) (lv' := [(7, .int x_24), (6, .int 0), (5, .int i), (4, .int sm), (0, .ref h0), (1, .int p0), (2, .int p1), (3, .int p2)]) hx hb dX5_anyWindows_70 hl (k := 1) rfl (by rw [ex_24]; rfl) (by decide) rfl (fun ls hl => ?_)
                  refine lv_goto (tgt := 24) hx hb dX5_anyWindows_73 (by decide) ?_
                  have k_25 : (0 : Int32).toInt = 0 := rfl
                  have n_26 := ki_nat x_24 rfl (om_89 LP1_h0 LP2_h0 i_24)
                  have q_52 : r_20.toInt = (cnt f (f j.toNatClampNeg) i.toNatClampNeg p0.toNatClampNeg : Int) := by rw [← ey_18, show p0.toNatClampNeg = (y_19.toInt - i.toInt).toNat by omega]; exact w_20
                  rw [q_52] at m_1
                  rw [← n_p0] at m_2
                  exact ih2 x_24 0 (om_4 LP2_h0 i_24) (Or.inr ⟨rfl, fun k h1 h2 => if h9 : k < j.toNatClampNeg then (by rcases LP2_h1 with g | g; (exfalso; have := g.1; omega); exact g.2 k h1 h9) else (by rw [show k = j.toNatClampNeg by omega]; exact fun z => by unfold mj_wv at z; omega)⟩) (om_285 i_3 i_4 i_24) (om_mu hn2 (om_286 i_24) (om_287 i_3 i_4)) ls (lv_sub hl [0, 1, 2, 3, 4, 5, 6, 7] rfl)
                · have i_23 : y_22.toInt < y_21.toInt := kc_nle c_23
                  refine lv_iconst (v := 1) hx hb dX5_anyWindows_63 (by decide) ?_
                  refine lv_goto (tgt := 68) hx hb dX5_anyWindows_64 (by decide) ?_
                  refine lv_istore (lv' := [(6, .int 1), (7, .int j), (5, .int i), (4, .int sm), (0, .ref h0), (1, .int p0), (2, .int p1), (3, .int p2)]) hx hb dX5_anyWindows_68 hl (by decide) rfl (fun ls hl => ?_)
                  obtain ⟨x_27, ex_27⟩ : ∃ y : Int32, y = j + 1 := ⟨_, rfl⟩
                  have i_27 : x_27.toInt = j.toInt + 1 := ki_add ex_27 rfl rfl (om_2 LP1_h0 LP2_h0) (om_524 a1 LP1_h2 LP2_h2)
                  refine lv_iinc (v := x_27) (lv' := [(7, .int x_27), (6, .int 1), (5, .int i), (4, .int sm), (0, .ref h0), (1, .int p0), (2, .int p1), (3, .int p2)]) hx hb dX5_anyWindows_70 hl (k := 1) rfl (by rw [ex_27]; rfl) (by decide) rfl (fun ls hl => ?_)
                  refine lv_goto (tgt := 24) hx hb dX5_anyWindows_73 (by decide) ?_
                  have k_28 : (1 : Int32).toInt = 1 := rfl
                  have n_29 := ki_nat x_27 rfl (om_89 LP1_h0 LP2_h0 i_27)
                  have q_52 : r_20.toInt = (cnt f (f j.toNatClampNeg) i.toNatClampNeg p0.toNatClampNeg : Int) := by rw [← ey_18, show p0.toNatClampNeg = (y_19.toInt - i.toInt).toNat by omega]; exact w_20
                  rw [q_52] at m_1
                  rw [← n_p0] at m_2
                  exact ih2 x_27 1 (om_4 LP2_h0 i_27) (Or.inl ⟨rfl, ⟨j.toNatClampNeg, (by omega), (by omega), (by unfold mj_wv; omega)⟩⟩) (om_285 i_3 i_4 i_27) (om_mu hn2 (om_286 i_27) (om_287 i_3 i_4)) ls (lv_sub hl [0, 1, 2, 3, 4, 5, 6, 7] rfl)
        have k_30 : (0 : Int32).toInt = 0 := rfl
        exact LP2 ((i.toInt + p0.toInt - i.toInt : Int).toNat + 1) i 0 om_7 (Or.inr ⟨rfl, fun k h1 h2 => absurd h2 (by omega)⟩) (om_288 b0) (Nat.lt_succ_self _) ls (lv_sub hl [0, 1, 2, 3, 4, 5, 6, 7] rfl)
  have k_31 : (0 : Int32).toInt = 0 := rfl
  have k_32 : (0 : Int32).toInt = 0 := rfl
  exact LP1 ((m_n.toInt + 1 - p0.toInt - 0 : Int).toNat + 1) 0 0 om_35 rfl (om_523 b1) (Nat.lt_succ_self _) ls (lv_sub hl [0, 1, 2, 3, 4, 5] rfl)

set_option maxHeartbeats 4000000 in
set_option maxRecDepth 100000 in
theorem c_X5_windows_x (l : Launch) (dC : Nat → ClassId) (dI : Nat → Nat → Nat) (h0 : Nat) (g_row : Nat) (g_many : Nat) (g_loss : Nat) (g_less : Nat) (g_voteValue : Nat) (g_voteNumber : Nat) (g_allValue : Nat) (g_allNumber : Nat) (g_nodeL : Nat) (g_nodeR : Nat) (g_part : Nat) (g_wasMany : Nat) (g_wasLoss : Nat) (g_wasValue : Nat) (g_wasNumber : Nat) (g_path : Nat) (g_heavyValue : Nat) (g_heavyTimes : Nat) (g_fewest : Nat) (g_which : Nat) (g_met : Nat) (m_n : Int32) (m_slots : Int32) (m_thrown : Int32) (m_allMany : Int32) (m_nodes : Int32) (m_partMany : Int32) (m_pathMany : Int32) (m_heavyMany : Int32) (m_mostMet : Int32) (cyI : ClassId) (f : Nat → Int32) (p0 : Int32) (p1 : Int32) (p2 : Int32) (p3 : Int32) (sz : Nat) (a0 : 0 ≤ m_n.toInt) (a1 : m_n.toInt ≤ 160) : kx_MQ l (dC, dI) yX5_windows wsX5_windows ({ frames := 2, cells := 0, slots := 0, locals := 90 }) [.ref h0, .int p0, .int p1, .int p2, .int p3] [kx_5 h0 g_row m_n m_slots m_thrown g_many g_loss g_less g_voteValue g_voteNumber g_allValue g_allNumber m_allMany g_nodeL g_nodeR m_nodes g_part m_partMany g_wasMany g_wasLoss g_wasValue g_wasNumber g_path m_pathMany g_heavyValue g_heavyTimes m_heavyMany g_fewest g_which g_met m_mostMet, kx_a g_row cyI 160 f] [(cyI, .int)] sz (fun A => va_Qi (fun (r : Int32) (_ : Unit) => ((1 ≤ p0.toInt ∧ p0.toInt ≤ m_n.toInt ∧ 1 ≤ p1.toInt ∧ p1.toInt ≤ p2.toInt ∧ p2.toInt ≤ 999 ∧ 0 ≤ p3.toInt ∧ p3.toInt ≤ 2) ∧ ((p3.toInt = 0 ∧ r.toInt = (mj_ct (mj_ay f p0.toNatClampNeg p1.toInt p2.toInt) (m_n.toNatClampNeg + 1 - p0.toNatClampNeg) : Int)) ∨ (mj_ex2 (fun bv bt => mj_bw f (fun v => mj_ct (mj_wv f p0.toNatClampNeg p1.toInt p2.toInt v) (m_n.toNatClampNeg + 1 - p0.toNatClampNeg)) m_n.toNatClampNeg bv bt) p3.toInt 1 2 r.toInt))) ∨ ((p0.toInt < 1 ∨ m_n.toInt < p0.toInt ∨ p1.toInt < 1 ∨ p2.toInt < p1.toInt ∨ 999 < p2.toInt ∨ p3.toInt < 0 ∨ 2 < p3.toInt) ∧ ((p3.toInt = 1 ∧ r = -40000) ∨ (¬ p3.toInt = 1 ∧ r = -1)))) (fun (_ : Unit) (t : State) => va_P (dC, dI) vwCl [kx_5 h0 g_row m_n m_slots 0 g_many g_loss g_less g_voteValue g_voteNumber g_allValue g_allNumber m_allMany g_nodeL g_nodeR m_nodes g_part m_partMany g_wasMany g_wasLoss g_wasValue g_wasNumber g_path m_pathMany g_heavyValue g_heavyTimes m_heavyMany g_fewest g_which g_met m_mostMet, kx_a g_row cyI 160 f] t.heap ∧ va_K (dC, dI) vwCl [(cyI, .int)] t ∧ va_D A [kx_5 h0 g_row m_n m_slots 0 g_many g_loss g_less g_voteValue g_voteNumber g_allValue g_allNumber m_allMany g_nodeL g_nodeR m_nodes g_part m_partMany g_wasMany g_wasLoss g_wasValue g_wasNumber g_path m_pathMany g_heavyValue g_heavyTimes m_heavyMany g_fewest g_which g_met m_mostMet, kx_a g_row cyI 160 f]) A) := by
  refine kx_stQ (ws := wsX5_windows) (cc := cX5_windows) (maxL := 9) (ret := (some .int)) (by decide) rfl (Nat.le_of_ble_eq_true rfl) ?_
  intro p e s m below meth c A ls hx hb hr hlocks hts hown hml hA hS hP hK hD hl
  have hown : s.vm.findClass RX5 = some m.cls := hown
  have hl : lv_has ls 9 [(0, .ref h0), (1, .int p0), (2, .int p1), (3, .int p2), (4, .int p3)] := hl
  have hf_77 := hts (.fieldLink RX5 77 "MajorityIndexModel" "thrown" "I") (List.mem_of_getElem? (i := 1) rfl)
  have hi_5 : ∀ w ∈ u_ws RX5 TX5 30, w ∈ wsX5_windows := fun w h => List.mem_cons_of_mem _ (List.mem_append_right _ h)
  have hf_84 := hts (.fieldLink RX5 84 "MajorityIndexModel" "n" "I") (List.mem_of_getElem? (i := 2) rfl)
  have hk_148 := hts (.constant RX5 148 (-40000)) (List.mem_of_getElem? (i := 3) rfl)
  have hf_7 := hts (.fieldLink RX5 7 "MajorityIndexModel" "row" "[I") (List.mem_of_getElem? (i := 4) rfl)
  have n_l := ki_nat m_n rfl (om_10 a0)
  have k_00 : (0 : Int32).toInt = 0 := rfl
  refine lv_aload_n hx hb dX5_windows_0 rfl (lv_at hl 0 rfl) ?_
  refine lv_iconst (v := 0) hx hb dX5_windows_1 (by decide) ?_
  refine va_put (D := (dC, dI)) (ci := 5) (v := .int 0) (ty := .int) (C := RX5) (T := TX5) (N := 30) hx hb hts hi_5 tyX5 tyX5_ok nmX5 hown hK hP hD hS 0 rfl rfl 3 (by decide) hf_77 (fun _ h9 => h9) rfl (by decide +kernel) rfl rfl (Nat.le_of_ble_eq_true rfl) dX5_windows_2 (fun H locs hP hD hS => ?_)
  obtain ⟨hP, hD⟩ := kx_re (w2 := [kx_5 h0 g_row m_n m_slots 0 g_many g_loss g_less g_voteValue g_voteNumber g_allValue g_allNumber m_allMany g_nodeL g_nodeR m_nodes g_part m_partMany g_wasMany g_wasLoss g_wasValue g_wasNumber g_path m_pathMany g_heavyValue g_heavyTimes m_heavyMany g_fewest g_which g_met m_mostMet, kx_a g_row cyI 160 f]) hP hD rfl
  refine lv_iload_n hx hb dX5_windows_5 rfl (lv_at hl 1 rfl) ?_
  refine lv_iconst (v := 1) hx hb dX5_windows_6 (by decide) ?_
  refine lv_aload_n hx hb dX5_windows_7 rfl (lv_at hl 0 rfl) ?_
  refine va_get (D := (dC, dI)) (ci := 5) (v := .int m_n) (C := RX5) (T := TX5) (N := 30) hx hb hts hi_5 hown hK hP 0 rfl rfl 1 (by decide) hf_84 (fun _ h9 => h9) rfl dX5_windows_8 ?_
  have hPc := hP.sub (ws' := []) [] rfl
  have hKc := hK.sub (tys' := []) [] rfl
  refine vp_callSi (W.runS (As := [.int p0, .int 1, .int m_n]) (rest := []) ⟨hx, hb, hml, hown, hts⟩ (c_X5_within l dC dI p0 1 m_n) (va_cwS 3 hts gX5_windows_X5_within rfl rfl rfl (by decide +kernel) ⟨Nat.le_of_ble_eq_true rfl, Nat.le_of_ble_eq_true rfl⟩) ⟨fun a U g mk q => by obtain ⟨q0, qP, qK⟩ := q; exact ⟨q0, qP, va_K.moved (u := U) (U := U.calling g mk a) (Vm.Alike.refl U.vm) qK⟩, fun U hU hW => ⟨rfl, by rw [hU]; exact hPc, va_K.moved hW.alike hKc⟩⟩ rfl rfl hl.1 rfl (lv_room (Nat.le_of_ble_eq_true rfl)) dX5_windows_11 ⟨Nat.le_of_ble_eq_true rfl, Nat.le_of_ble_eq_true rfl⟩) (fun r_1 w_1 => ?_)
  rcases w_1 with ⟨rfl, w_1⟩ | ⟨rfl, w_1⟩
  · have w_1 : (1 ≤ p0.toInt ∧ p0.toInt ≤ m_n.toInt) := w_1
    refine lv_if_eq (tgt := 35) hx hb dX5_windows_14 (by decide) (fun c_2 => ?_) (fun c_2 => ?_)
    · exact absurd c_2 (by decide)
    · refine lv_iload_n hx hb dX5_windows_17 rfl (lv_at hl 2 rfl) ?_
      refine lv_iload_n hx hb dX5_windows_18 rfl (lv_at hl 3 rfl) ?_
      have hPc := hP.sub (ws' := []) [] rfl
      have hKc := hK.sub (tys' := []) [] rfl
      refine vp_callSi (W.runS (As := [.int p1, .int p2]) (rest := []) ⟨hx, hb, hml, hown, hts⟩ (c_X5_isShare l dC dI p1 p2) (va_cwS 2 hts gX5_windows_X5_isShare rfl rfl rfl (by decide +kernel) ⟨Nat.le_of_ble_eq_true rfl, Nat.le_of_ble_eq_true rfl⟩) ⟨fun a U g mk q => by obtain ⟨q0, qP, qK⟩ := q; exact ⟨q0, qP, va_K.moved (u := U) (U := U.calling g mk a) (Vm.Alike.refl U.vm) qK⟩, fun U hU hW => ⟨rfl, by rw [hU]; exact hPc, va_K.moved hW.alike hKc⟩⟩ rfl rfl hl.1 rfl (lv_room (Nat.le_of_ble_eq_true rfl)) dX5_windows_19 ⟨Nat.le_of_ble_eq_true rfl, Nat.le_of_ble_eq_true rfl⟩) (fun r_3 w_3 => ?_)
      rcases w_3 with ⟨rfl, w_3⟩ | ⟨rfl, w_3⟩
      · have w_3 : (1 ≤ p1.toInt ∧ p1.toInt ≤ p2.toInt ∧ p2.toInt ≤ 999) := w_3
        refine lv_if_eq (tgt := 35) hx hb dX5_windows_22 (by decide) (fun c_4 => ?_) (fun c_4 => ?_)
        · exact absurd c_4 (by decide)
        · refine lv_iload hx hb dX5_windows_25 (lv_at hl 4 rfl) ?_
          refine lv_iconst (v := 0) hx hb dX5_windows_27 (by decide) ?_
          refine lv_iconst (v := 2) hx hb dX5_windows_28 (by decide) ?_
          have hPc := hP.sub (ws' := []) [] rfl
          have hKc := hK.sub (tys' := []) [] rfl
          refine vp_callSi (W.runS (As := [.int p3, .int 0, .int 2]) (rest := []) ⟨hx, hb, hml, hown, hts⟩ (c_X5_within l dC dI p3 0 2) (va_cwS 3 hts gX5_windows_X5_within rfl rfl rfl (by decide +kernel) ⟨Nat.le_of_ble_eq_true rfl, Nat.le_of_ble_eq_true rfl⟩) ⟨fun a U g mk q => by obtain ⟨q0, qP, qK⟩ := q; exact ⟨q0, qP, va_K.moved (u := U) (U := U.calling g mk a) (Vm.Alike.refl U.vm) qK⟩, fun U hU hW => ⟨rfl, by rw [hU]; exact hPc, va_K.moved hW.alike hKc⟩⟩ rfl rfl hl.1 rfl (lv_room (Nat.le_of_ble_eq_true rfl)) dX5_windows_29 ⟨Nat.le_of_ble_eq_true rfl, Nat.le_of_ble_eq_true rfl⟩) (fun r_5 w_5 => ?_)
          rcases w_5 with ⟨rfl, w_5⟩ | ⟨rfl, w_5⟩
          · have w_5 : (0 ≤ p3.toInt ∧ p3.toInt ≤ 2) := w_5
            refine lv_if_ne (tgt := 48) hx hb dX5_windows_32 (by decide) (fun c_6 => ?_) (fun c_6 => ?_)
            · have n_p0 := ki_nat p0 rfl (om_51 w_1.1)
              refine lv_iload hx hb dX5_windows_48 (lv_at hl 4 rfl) ?_
              refine lv_if_ne (tgt := 61) hx hb dX5_windows_50 (by decide) (fun c_7 => ?_) (fun c_7 => ?_)
              · have i_7 : ¬ p3.toInt = 0 := kc_ne c_7
                refine lv_ldc (v := (-40000)) hx hb hown hk_148 dX5_windows_61 ?_
                refine lv_istore (lv' := [(5, .int (-40000)), (0, .ref h0), (1, .int p0), (2, .int p1), (3, .int p2), (4, .int p3)]) hx hb dX5_windows_63 hl (by decide) rfl (fun ls hl => ?_)
                refine lv_iconst (v := 0) hx hb dX5_windows_65 (by decide) ?_
                refine lv_istore (lv' := [(6, .int 0), (5, .int (-40000)), (0, .ref h0), (1, .int p0), (2, .int p1), (3, .int p2), (4, .int p3)]) hx hb dX5_windows_66 hl (by decide) rfl (fun ls hl => ?_)
                refine lv_iconst (v := 0) hx hb dX5_windows_68 (by decide) ?_
                refine lv_istore (lv' := [(7, .int 0), (6, .int 0), (5, .int (-40000)), (0, .ref h0), (1, .int p0), (2, .int p1), (3, .int p2), (4, .int p3)]) hx hb dX5_windows_69 hl (by decide) rfl (fun ls hl => ?_)
                have LP1 : ∀ (n : Nat) (i : Int32) (best : Int32) (most : Int32), (0 ≤ i.toInt) → (mj_bw f (fun v => mj_ct (mj_wv f p0.toNatClampNeg p1.toInt p2.toInt v) (m_n.toNatClampNeg + 1 - p0.toNatClampNeg)) i.toNatClampNeg best.toInt most.toInt) → (i.toInt ≤ m_n.toInt) → (m_n.toInt - i.toInt).toNat < n → ∀ (H : Heap) (locs : List Loc), va_P (dC, dI) vwCl [kx_5 h0 g_row m_n m_slots 0 g_many g_loss g_less g_voteValue g_voteNumber g_allValue g_allNumber m_allMany g_nodeL g_nodeR m_nodes g_part m_partMany g_wasMany g_wasLoss g_wasValue g_wasNumber g_path m_pathMany g_heavyValue g_heavyTimes m_heavyMany g_fewest g_which g_met m_mostMet, kx_a g_row cyI 160 f] H → va_D A [kx_5 h0 g_row m_n m_slots 0 g_many g_loss g_less g_voteValue g_voteNumber g_allValue g_allNumber m_allMany g_nodeL g_nodeR m_nodes g_part m_partMany g_wasMany g_wasLoss g_wasValue g_wasNumber g_path m_pathMany g_heavyValue g_heavyTimes m_heavyMany g_fewest g_which g_met m_mostMet, kx_a g_row cyI 160 f] → va_S A s.heap H locs → ∀ (ls : Array Slot), lv_has ls 9 [(7, .int i), (6, .int most), (5, .int best), (0, .ref h0), (1, .int p0), (2, .int p1), (3, .int p2), (4, .int p3)] → W p l e (headSpec wsX5_windows ({ frames := 2, cells := 0, slots := 0, locals := 90 })).room s m ([.ref h0, .int p0, .int p1, .int p2, .int p3] : List Value).toArray below meth c H locs 0 0 (MQ below (va_Qi (fun (r : Int32) (_ : Unit) => ((1 ≤ p0.toInt ∧ p0.toInt ≤ m_n.toInt ∧ 1 ≤ p1.toInt ∧ p1.toInt ≤ p2.toInt ∧ p2.toInt ≤ 999 ∧ 0 ≤ p3.toInt ∧ p3.toInt ≤ 2) ∧ ((p3.toInt = 0 ∧ r.toInt = (mj_ct (mj_ay f p0.toNatClampNeg p1.toInt p2.toInt) (m_n.toNatClampNeg + 1 - p0.toNatClampNeg) : Int)) ∨ (mj_ex2 (fun bv bt => mj_bw f (fun v => mj_ct (mj_wv f p0.toNatClampNeg p1.toInt p2.toInt v) (m_n.toNatClampNeg + 1 - p0.toNatClampNeg)) m_n.toNatClampNeg bv bt) p3.toInt 1 2 r.toInt))) ∨ ((p0.toInt < 1 ∨ m_n.toInt < p0.toInt ∨ p1.toInt < 1 ∨ p2.toInt < p1.toInt ∨ 999 < p2.toInt ∨ p3.toInt < 0 ∨ 2 < p3.toInt) ∧ ((p3.toInt = 1 ∧ r = -40000) ∨ (¬ p3.toInt = 1 ∧ r = -1)))) (fun (_ : Unit) (t : State) => va_P (dC, dI) vwCl [kx_5 h0 g_row m_n m_slots 0 g_many g_loss g_less g_voteValue g_voteNumber g_allValue g_allNumber m_allMany g_nodeL g_nodeR m_nodes g_part m_partMany g_wasMany g_wasLoss g_wasValue g_wasNumber g_path m_pathMany g_heavyValue g_heavyTimes m_heavyMany g_fewest g_which g_met m_mostMet, kx_a g_row cyI 160 f] t.heap ∧ va_K (dC, dI) vwCl [(cyI, .int)] t ∧ va_D A [kx_5 h0 g_row m_n m_slots 0 g_many g_loss g_less g_voteValue g_voteNumber g_allValue g_allNumber m_allMany g_nodeL g_nodeR m_nodes g_part m_partMany g_wasMany g_wasLoss g_wasValue g_wasNumber g_path m_pathMany g_heavyValue g_heavyTimes m_heavyMany g_fewest g_which g_met m_mostMet, kx_a g_row cyI 160 f]) A) ([.ref h0, .int p0, .int p1, .int p2, .int p3] : List Value).toArray s 0 0 A) (F0 m 71 ls []) := by
                  intro n
                  induction n with
                  | zero => intro i best most LP1_h0 LP1_h1 LP1_h2 hn; exact absurd hn (Nat.not_lt_zero _)
                  | succ n ih1 =>
                    intro i best most LP1_h0 LP1_h1 LP1_h2 hn1 H locs hP hD hS ls hl
                    have n_i := ki_nat i rfl (om_10 LP1_h0)
                    refine lv_iload hx hb dX5_windows_71 (lv_at hl 0 rfl) ?_
                    refine lv_aload_n hx hb dX5_windows_73 rfl (lv_at hl 3 rfl) ?_
                    refine va_get (D := (dC, dI)) (ci := 5) (v := .int m_n) (C := RX5) (T := TX5) (N := 30) hx hb hts hi_5 hown hK hP 0 rfl rfl 1 (by decide) hf_84 (fun _ h9 => h9) rfl dX5_windows_74 ?_
                    refine lv_icmp_ge (tgt := 169) hx hb dX5_windows_77 (by decide) (fun c_8 => ?_) (fun c_8 => ?_)
                    · have i_8 : m_n.toInt ≤ i.toInt := kc_le c_8
                      refine lv_iload hx hb dX5_windows_169 (lv_at hl 7 rfl) ?_
                      refine lv_iconst (v := 1) hx hb dX5_windows_171 (by decide) ?_
                      refine lv_icmp_ne (tgt := 180) hx hb dX5_windows_172 (by decide) (fun c_9 => ?_) (fun c_9 => ?_)
                      · have i_9 : ¬ p3.toInt = 1 := kc_ne c_9
                        refine lv_iload hx hb dX5_windows_180 (lv_at hl 1 rfl) ?_
                        have hP9 := hP
                        have hD9 := hD
                        have hK9 := hK
                        have h_b := LP1_h1
                        rw [show i.toNatClampNeg = m_n.toNatClampNeg by omega] at h_b
                        exact W.iret (v := most) hx hb hr (hlocks := hlocks) (fun t ht hW => ⟨⟨most, (), rfl, (Or.inl ⟨(by (try dsimp only); omega), Or.inr ⟨_, _, h_b, Or.inr ⟨(by (try dsimp only); omega), rfl⟩⟩⟩), by rw [ht]; exact hP9, va_K.moved hW.alike hK9, hD9⟩, hS.F ht⟩) hS.2.2 dX5_windows_182
                      · have i_9 : p3.toInt = 1 := kc_eq c_9
                        refine lv_iload hx hb dX5_windows_175 (lv_at hl 2 rfl) ?_
                        refine lv_goto (tgt := 182) hx hb dX5_windows_177 (by decide) ?_
                        have hP9 := hP
                        have hD9 := hD
                        have hK9 := hK
                        have h_b := LP1_h1
                        rw [show i.toNatClampNeg = m_n.toNatClampNeg by omega] at h_b
                        exact W.iret (v := best) hx hb hr (hlocks := hlocks) (fun t ht hW => ⟨⟨best, (), rfl, (Or.inl ⟨(by (try dsimp only); omega), Or.inr ⟨_, _, h_b, Or.inl ⟨(by (try dsimp only); omega), rfl⟩⟩⟩), by rw [ht]; exact hP9, va_K.moved hW.alike hK9, hD9⟩, hS.F ht⟩) hS.2.2 dX5_windows_182
                    · have i_8 : i.toInt < m_n.toInt := kc_nle c_8
                      refine lv_aload_n hx hb dX5_windows_80 rfl (lv_at hl 3 rfl) ?_
                      refine lv_aload_n hx hb dX5_windows_81 rfl (lv_at hl 3 rfl) ?_
                      refine va_get (D := (dC, dI)) (ci := 5) (v := .ref g_row) (C := RX5) (T := TX5) (N := 30) hx hb hts hi_5 hown hK hP 0 rfl rfl 0 (by decide) hf_7 (fun _ h9 => h9) rfl dX5_windows_82 ?_
                      refine lv_iload hx hb dX5_windows_85 (lv_at hl 0 rfl) ?_
                      refine va_iald hx hb hK hP 1 0 rfl rfl (ki_in (om_10 LP1_h0) (om_1 a1 i_8)) dX5_windows_87 ?_
                      refine lv_topi (fun y_10 ey_10 => ?_)
                      have j_10 : y_10.toInt = (f i.toNatClampNeg).toInt := congrArg Int32.toInt ey_10
                      refine lv_iconst (v := 0) hx hb dX5_windows_88 (by decide) ?_
                      refine lv_iload hx hb dX5_windows_89 (lv_at hl 0 rfl) ?_
                      have hPc := hP
                      have hKc := hK
                      have k_11 : (0 : Int32).toInt = 0 := rfl
                      refine vp_callSi (W.runV (As := [.int y_10, .int 0, .int i]) (rest := []) ⟨hx, hb, hml, hown, hts⟩ (c_X5_times l dC dI h0 g_row g_many g_loss g_less g_voteValue g_voteNumber g_allValue g_allNumber g_nodeL g_nodeR g_part g_wasMany g_wasLoss g_wasValue g_wasNumber g_path g_heavyValue g_heavyTimes g_fewest g_which g_met m_n m_slots 0 m_allMany m_nodes m_partMany m_pathMany m_heavyMany m_mostMet cyI f y_10 0 i om_35 (om_167 a1 LP1_h2)) (cwV 3 hts gX5_windows_X5_times rfl rfl rfl (by decide +kernel) ⟨Nat.le_of_ble_eq_true rfl, Nat.le_of_ble_eq_true rfl⟩) ⟨fun a U g mk q => by obtain ⟨q0, qP, qK⟩ := q; exact ⟨q0, qP, va_K.moved (u := U) (U := U.calling g mk a) (Vm.Alike.refl U.vm) qK⟩, kx_rc5 hKc hPc (q0 := 0) rfl, fun U hU hW => ⟨rfl, by rw [hU]; exact hPc, va_K.moved hW.alike hKc⟩⟩ rfl rfl hl.1 rfl (lv_room (Nat.le_of_ble_eq_true rfl)) dX5_windows_91 ⟨Nat.le_of_ble_eq_true rfl, Nat.le_of_ble_eq_true rfl⟩) (fun r_12 w_12 => ?_)
                      have w_12 : r_12.toInt = (cnt f y_10 (0 : Int32).toNatClampNeg (i.toInt - 0).toNat : Int) := w_12
                      refine lv_if_le (tgt := 100) hx hb dX5_windows_94 (by decide) (fun c_13 => ?_) (fun c_13 => ?_)
                      · have i_13 : r_12.toInt ≤ 0 := kc_le c_13
                        refine lv_aload_n hx hb dX5_windows_100 rfl (lv_at hl 3 rfl) ?_
                        refine lv_aload_n hx hb dX5_windows_101 rfl (lv_at hl 3 rfl) ?_
                        refine va_get (D := (dC, dI)) (ci := 5) (v := .ref g_row) (C := RX5) (T := TX5) (N := 30) hx hb hts hi_5 hown hK hP 0 rfl rfl 0 (by decide) hf_7 (fun _ h9 => h9) rfl dX5_windows_102 ?_
                        refine lv_iload hx hb dX5_windows_105 (lv_at hl 0 rfl) ?_
                        refine va_iald hx hb hK hP 1 0 rfl rfl (ki_in (om_10 LP1_h0) (om_1 a1 i_8)) dX5_windows_107 ?_
                        refine lv_topi (fun y_14 ey_14 => ?_)
                        have j_14 : y_14.toInt = (f i.toNatClampNeg).toInt := congrArg Int32.toInt ey_14
                        refine lv_iload_n hx hb dX5_windows_108 rfl (lv_at hl 4 rfl) ?_
                        refine lv_iload_n hx hb dX5_windows_109 rfl (lv_at hl 5 rfl) ?_
                        refine lv_iload_n hx hb dX5_windows_110 rfl (lv_at hl 6 rfl) ?_
                        have hPc := hP
                        have hKc := hK
                        refine vp_callSi (W.runV (As := [.int y_14, .int p0, .int p1, .int p2]) (rest := []) ⟨hx, hb, hml, hown, hts⟩ (c_X5_windowsOf_x l dC dI h0 g_row g_many g_loss g_less g_voteValue g_voteNumber g_allValue g_allNumber g_nodeL g_nodeR g_part g_wasMany g_wasLoss g_wasValue g_wasNumber g_path g_heavyValue g_heavyTimes g_fewest g_which g_met m_n m_slots 0 m_allMany m_nodes m_partMany m_pathMany m_heavyMany m_mostMet cyI f y_14 p0 p1 p2 a0 a1 (om_151 w_1.1) (om_9 w_1.2) (om_151 w_3.1) (om_9 w_3.2.1) (om_152 w_3.2.2)) (cwV 4 hts gX5_windows_X5_windowsOf rfl rfl rfl (by decide +kernel) ⟨Nat.le_of_ble_eq_true rfl, Nat.le_of_ble_eq_true rfl⟩) ⟨fun a U g mk q => by obtain ⟨q0, qP, qK⟩ := q; exact ⟨q0, qP, va_K.moved (u := U) (U := U.calling g mk a) (Vm.Alike.refl U.vm) qK⟩, kx_rc5 hKc hPc (q0 := 0) rfl, fun U hU hW => ⟨rfl, by rw [hU]; exact hPc, va_K.moved hW.alike hKc⟩⟩ rfl rfl hl.1 rfl (lv_room (Nat.le_of_ble_eq_true rfl)) dX5_windows_111 ⟨Nat.le_of_ble_eq_true rfl, Nat.le_of_ble_eq_true rfl⟩) (fun r_15 w_15 => ?_)
                        have w_15 : r_15.toInt = (mj_ct (mj_wv f p0.toNatClampNeg p1.toInt p2.toInt y_14) (m_n.toNatClampNeg + 1 - p0.toNatClampNeg) : Int) := w_15
                        refine lv_istore (lv' := [(8, .int r_15), (7, .int i), (6, .int most), (5, .int best), (0, .ref h0), (1, .int p0), (2, .int p1), (3, .int p2), (4, .int p3)]) hx hb dX5_windows_114 hl (by decide) rfl (fun ls hl => ?_)
                        refine lv_iload hx hb dX5_windows_116 (lv_at hl 0 rfl) ?_
                        refine lv_iload hx hb dX5_windows_118 (lv_at hl 2 rfl) ?_
                        refine lv_icmp_lt (tgt := 163) hx hb dX5_windows_120 (by decide) (fun c_16 => ?_) (fun c_16 => ?_)
                        · have i_16 : r_15.toInt < most.toInt := kc_lt c_16
                          obtain ⟨x_17, ex_17⟩ : ∃ y : Int32, y = i + 1 := ⟨_, rfl⟩
                          have i_17 : x_17.toInt = i.toInt + 1 := ki_add ex_17 rfl rfl (om_13 LP1_h0) (om_238 a1 LP1_h2)
                          refine lv_iinc (v := x_17) (lv' := [(7, .int x_17), (8, .int r_15), (6, .int most), (5, .int best), (0, .ref h0), (1, .int p0), (2, .int p1), (3, .int p2), (4, .int p3)]) hx hb dX5_windows_163 hl (k := 1) rfl (by rw [ex_17]; rfl) (by decide) rfl (fun ls hl => ?_)
                          refine lv_goto (tgt := 71) hx hb dX5_windows_166 (by decide) ?_
                          have n_18 := ki_nat x_17 rfl (om_34 LP1_h0 i_17)
                          have q_91 : r_12.toInt = (cnt f (f i.toNatClampNeg) 0 i.toNatClampNeg : Int) := by rw [← ey_10, show i.toNatClampNeg = (i.toInt - 0).toNat by omega]; exact w_12
                          have q_111 : r_15.toInt = (mj_ct (mj_wv f p0.toNatClampNeg p1.toInt p2.toInt (f i.toNatClampNeg)) (m_n.toNatClampNeg + 1 - p0.toNatClampNeg) : Int) := by rw [← ey_14]; exact w_15
                          exact ih1 x_17 best most (om_34 LP1_h0 i_17) (mj_bw_skip LP1_h1 (by omega) (by show (mj_ct (mj_wv f p0.toNatClampNeg p1.toInt p2.toInt (f i.toNatClampNeg)) (m_n.toNatClampNeg + 1 - p0.toNatClampNeg) : Int) < _ ∨ mj_ct (mj_wv f p0.toNatClampNeg p1.toInt p2.toInt (f i.toNatClampNeg)) (m_n.toNatClampNeg + 1 - p0.toNatClampNeg) = 0 ∨ ((mj_ct (mj_wv f p0.toNatClampNeg p1.toInt p2.toInt (f i.toNatClampNeg)) (m_n.toNatClampNeg + 1 - p0.toNatClampNeg) : Int) = _ ∧ _); omega)) (om_54 i_8 i_17) (om_mu hn1 (om_5 i_17) (om_6 i_8)) _ _ hP hD hS ls (lv_sub hl [0, 2, 3, 4, 5, 6, 7, 8] rfl)
                        · have i_16 : most.toInt ≤ r_15.toInt := kc_nlt c_16
                          refine lv_iload hx hb dX5_windows_123 (lv_at hl 0 rfl) ?_
                          refine lv_if_eq (tgt := 163) hx hb dX5_windows_125 (by decide) (fun c_19 => ?_) (fun c_19 => ?_)
                          · have i_19 : r_15.toInt = 0 := kc_eq c_19
                            obtain ⟨x_20, ex_20⟩ : ∃ y : Int32, y = i + 1 := ⟨_, rfl⟩
                            have i_20 : x_20.toInt = i.toInt + 1 := ki_add ex_20 rfl rfl (om_13 LP1_h0) (om_238 a1 LP1_h2)
                            refine lv_iinc (v := x_20) (lv' := [(7, .int x_20), (8, .int r_15), (6, .int most), (5, .int best), (0, .ref h0), (1, .int p0), (2, .int p1), (3, .int p2), (4, .int p3)]) hx hb dX5_windows_163 hl (k := 1) rfl (by rw [ex_20]; rfl) (by decide) rfl (fun ls hl => ?_)
                            refine lv_goto (tgt := 71) hx hb dX5_windows_166 (by decide) ?_
                            have n_21 := ki_nat x_20 rfl (om_34 LP1_h0 i_20)
                            have q_91 : r_12.toInt = (cnt f (f i.toNatClampNeg) 0 i.toNatClampNeg : Int) := by rw [← ey_10, show i.toNatClampNeg = (i.toInt - 0).toNat by omega]; exact w_12
                            have q_111 : r_15.toInt = (mj_ct (mj_wv f p0.toNatClampNeg p1.toInt p2.toInt (f i.toNatClampNeg)) (m_n.toNatClampNeg + 1 - p0.toNatClampNeg) : Int) := by rw [← ey_14]; exact w_15
                            exact ih1 x_20 best most (om_34 LP1_h0 i_20) (mj_bw_skip LP1_h1 (by omega) (by show (mj_ct (mj_wv f p0.toNatClampNeg p1.toInt p2.toInt (f i.toNatClampNeg)) (m_n.toNatClampNeg + 1 - p0.toNatClampNeg) : Int) < _ ∨ mj_ct (mj_wv f p0.toNatClampNeg p1.toInt p2.toInt (f i.toNatClampNeg)) (m_n.toNatClampNeg + 1 - p0.toNatClampNeg) = 0 ∨ ((mj_ct (mj_wv f p0.toNatClampNeg p1.toInt p2.toInt (f i.toNatClampNeg)) (m_n.toNatClampNeg + 1 - p0.toNatClampNeg) : Int) = _ ∧ _); omega)) (om_54 i_8 i_20) (om_mu hn1 (om_5 i_20) (om_6 i_8)) _ _ hP hD hS ls (lv_sub hl [0, 2, 3, 4, 5, 6, 7, 8] rfl)
                          · have i_19 : ¬ r_15.toInt = 0 := kc_ne c_19
                            refine lv_iload hx hb dX5_windows_128 (lv_at hl 0 rfl) ?_
                            refine lv_iload hx hb dX5_windows_130 (lv_at hl 2 rfl) ?_
                            refine lv_icmp_ne (tgt := 150) hx hb dX5_windows_132 (by decide) (fun c_22 => ?_) (fun c_22 => ?_)
                            · have i_22 : ¬ r_15.toInt = most.toInt := kc_ne c_22
                              refine lv_aload_n hx hb dX5_windows_150 rfl (lv_at hl 4 rfl) ?_
                              refine va_get (D := (dC, dI)) (ci := 5) (v := .ref g_row) (C := RX5) (T := TX5) (N := 30) hx hb hts hi_5 hown hK hP 0 rfl rfl 0 (by decide) hf_7 (fun _ h9 => h9) rfl dX5_windows_151 ?_
                              refine lv_iload hx hb dX5_windows_154 (lv_at hl 1 rfl) ?_
                              refine va_iald hx hb hK hP 1 0 rfl rfl (ki_in (om_10 LP1_h0) (om_1 a1 i_8)) dX5_windows_156 ?_
                              refine lv_topi (fun y_23 ey_23 => ?_)
                              have j_23 : y_23.toInt = (f i.toNatClampNeg).toInt := congrArg Int32.toInt ey_23
                              refine lv_istore (lv' := [(5, .int y_23), (8, .int r_15), (7, .int i), (6, .int most), (0, .ref h0), (1, .int p0), (2, .int p1), (3, .int p2), (4, .int p3)]) hx hb dX5_windows_157 hl (by decide) rfl (fun ls hl => ?_)
                              refine lv_iload hx hb dX5_windows_159 (lv_at hl 1 rfl) ?_
                              refine lv_istore (lv' := [(6, .int r_15), (5, .int y_23), (8, .int r_15), (7, .int i), (0, .ref h0), (1, .int p0), (2, .int p1), (3, .int p2), (4, .int p3)]) hx hb dX5_windows_161 hl (by decide) rfl (fun ls hl => ?_)
                              obtain ⟨x_24, ex_24⟩ : ∃ y : Int32, y = i + 1 := ⟨_, rfl⟩
                              have i_24 : x_24.toInt = i.toInt + 1 := ki_add ex_24 rfl rfl (om_13 LP1_h0) (om_238 a1 LP1_h2)
                              refine lv_iinc (v := x_24) (lv' := [(7, .int x_24), (6, .int r_15), (5, .int y_23), (8, .int r_15), (0, .ref h0), (1, .int p0), (2, .int p1), (3, .int p2), (4, .int p3)]) hx hb dX5_windows_163 hl (k := 3) rfl (by rw [ex_24]; rfl) (by decide) rfl (fun ls hl => ?_)
                              refine lv_goto (tgt := 71) hx hb dX5_windows_166 (by decide) ?_
                              have n_25 := ki_nat x_24 rfl (om_34 LP1_h0 i_24)
                              have q_91 : r_12.toInt = (cnt f (f i.toNatClampNeg) 0 i.toNatClampNeg : Int) := by rw [← ey_10, show i.toNatClampNeg = (i.toInt - 0).toNat by omega]; exact w_12
                              have q_111 : r_15.toInt = (mj_ct (mj_wv f p0.toNatClampNeg p1.toInt p2.toInt (f i.toNatClampNeg)) (m_n.toNatClampNeg + 1 - p0.toNatClampNeg) : Int) := by rw [← ey_14]; exact w_15
                              exact ih1 x_24 y_23 r_15 (om_34 LP1_h0 i_24) (mj_bw_put LP1_h1 (by omega) (congrArg Int32.toInt ey_23) q_111 (by omega) (by omega)) (om_54 i_8 i_24) (om_mu hn1 (om_5 i_24) (om_6 i_8)) _ _ hP hD hS ls (lv_sub hl [0, 1, 2, 4, 5, 6, 7, 8] rfl)
                            · have i_22 : r_15.toInt = most.toInt := kc_eq c_22
                              refine lv_aload_n hx hb dX5_windows_135 rfl (lv_at hl 4 rfl) ?_
                              refine va_get (D := (dC, dI)) (ci := 5) (v := .ref g_row) (C := RX5) (T := TX5) (N := 30) hx hb hts hi_5 hown hK hP 0 rfl rfl 0 (by decide) hf_7 (fun _ h9 => h9) rfl dX5_windows_136 ?_
                              refine lv_iload hx hb dX5_windows_139 (lv_at hl 1 rfl) ?_
                              refine va_iald hx hb hK hP 1 0 rfl rfl (ki_in (om_10 LP1_h0) (om_1 a1 i_8)) dX5_windows_141 ?_
                              refine lv_topi (fun y_26 ey_26 => ?_)
                              have j_26 : y_26.toInt = (f i.toNatClampNeg).toInt := congrArg Int32.toInt ey_26
                              refine lv_iload hx hb dX5_windows_142 (lv_at hl 3 rfl) ?_
                              refine lv_icmp_le (tgt := 150) hx hb dX5_windows_144 (by decide) (fun c_27 => ?_) (fun c_27 => ?_)
                              · have i_27 : y_26.toInt ≤ best.toInt := kc_le c_27
                                refine lv_aload_n hx hb dX5_windows_150 rfl (lv_at hl 4 rfl) ?_
                                refine va_get (D := (dC, dI)) (ci := 5) (v := .ref g_row) (C := RX5) (T := TX5) (N := 30) hx hb hts hi_5 hown hK hP 0 rfl rfl 0 (by decide) hf_7 (fun _ h9 => h9) rfl dX5_windows_151 ?_
                                refine lv_iload hx hb dX5_windows_154 (lv_at hl 1 rfl) ?_
                                refine va_iald hx hb hK hP 1 0 rfl rfl (ki_in (om_10 LP1_h0) (om_1 a1 i_8)) dX5_windows_156 ?_
                                refine lv_topi (fun y_28 ey_28 => ?_)
                                have j_28 : y_28.toInt = (f i.toNatClampNeg).toInt := congrArg Int32.toInt ey_28
                                refine lv_istore (lv' := [(5, .int y_28), (8, .int r_15), (7, .int i), (6, .int most), (0, .ref h0), (1, .int p0), (2, .int p1), (3, .int p2), (4, .int p3)]) hx hb dX5_windows_157 hl (by decide) rfl (fun ls hl => ?_)
                                refine lv_iload hx hb dX5_windows_159 (lv_at hl 1 rfl) ?_
                                refine lv_istore (lv' := [(6, .int r_15), (5, .int y_28), (8, .int r_15), (7, .int i), (0, .ref h0), (1, .int p0), (2, .int p1), (3, .int p2), (4, .int p3)]) hx hb dX5_windows_161 hl (by decide) rfl (fun ls hl => ?_)
                                obtain ⟨x_29, ex_29⟩ : ∃ y : Int32, y = i + 1 := ⟨_, rfl⟩
                                have i_29 : x_29.toInt = i.toInt + 1 := ki_add ex_29 rfl rfl (om_13 LP1_h0) (om_238 a1 LP1_h2)
                                refine lv_iinc (v := x_29) (lv' := [(7, .int x_29), (6, .int r_15), (5, .int y_28), (8, .int r_15), (0, .ref h0), (1, .int p0), (2, .int p1), (3, .int p2), (4, .int p3)]) hx hb dX5_windows_163 hl (k := 3) rfl (by rw [ex_29]; rfl) (by decide) rfl (fun ls hl => ?_)
                                refine lv_goto (tgt := 71) hx hb dX5_windows_166 (by decide) ?_
                                have n_30 := ki_nat x_29 rfl (om_34 LP1_h0 i_29)
                                have q_91 : r_12.toInt = (cnt f (f i.toNatClampNeg) 0 i.toNatClampNeg : Int) := by rw [← ey_10, show i.toNatClampNeg = (i.toInt - 0).toNat by omega]; exact w_12
                                have q_111 : r_15.toInt = (mj_ct (mj_wv f p0.toNatClampNeg p1.toInt p2.toInt (f i.toNatClampNeg)) (m_n.toNatClampNeg + 1 - p0.toNatClampNeg) : Int) := by rw [← ey_14]; exact w_15
                                exact ih1 x_29 y_28 r_15 (om_34 LP1_h0 i_29) (mj_bw_put LP1_h1 (by omega) (congrArg Int32.toInt ey_28) q_111 (by omega) (by omega)) (om_54 i_8 i_29) (om_mu hn1 (om_5 i_29) (om_6 i_8)) _ _ hP hD hS ls (lv_sub hl [0, 1, 2, 4, 5, 6, 7, 8] rfl)
                              · have i_27 : best.toInt < y_26.toInt := kc_nle c_27
                                refine lv_goto (tgt := 163) hx hb dX5_windows_147 (by decide) ?_
                                obtain ⟨x_31, ex_31⟩ : ∃ y : Int32, y = i + 1 := ⟨_, rfl⟩
                                have i_31 : x_31.toInt = i.toInt + 1 := ki_add ex_31 rfl rfl (om_13 LP1_h0) (om_238 a1 LP1_h2)
                                refine lv_iinc (v := x_31) (lv' := [(7, .int x_31), (8, .int r_15), (6, .int most), (5, .int best), (0, .ref h0), (1, .int p0), (2, .int p1), (3, .int p2), (4, .int p3)]) hx hb dX5_windows_163 hl (k := 1) rfl (by rw [ex_31]; rfl) (by decide) rfl (fun ls hl => ?_)
                                refine lv_goto (tgt := 71) hx hb dX5_windows_166 (by decide) ?_
                                have n_32 := ki_nat x_31 rfl (om_34 LP1_h0 i_31)
                                have q_91 : r_12.toInt = (cnt f (f i.toNatClampNeg) 0 i.toNatClampNeg : Int) := by rw [← ey_10, show i.toNatClampNeg = (i.toInt - 0).toNat by omega]; exact w_12
                                have q_111 : r_15.toInt = (mj_ct (mj_wv f p0.toNatClampNeg p1.toInt p2.toInt (f i.toNatClampNeg)) (m_n.toNatClampNeg + 1 - p0.toNatClampNeg) : Int) := by rw [← ey_14]; exact w_15
                                exact ih1 x_31 best most (om_34 LP1_h0 i_31) (mj_bw_skip LP1_h1 (by omega) (by show (mj_ct (mj_wv f p0.toNatClampNeg p1.toInt p2.toInt (f i.toNatClampNeg)) (m_n.toNatClampNeg + 1 - p0.toNatClampNeg) : Int) < _ ∨ mj_ct (mj_wv f p0.toNatClampNeg p1.toInt p2.toInt (f i.toNatClampNeg)) (m_n.toNatClampNeg + 1 - p0.toNatClampNeg) = 0 ∨ ((mj_ct (mj_wv f p0.toNatClampNeg p1.toInt p2.toInt (f i.toNatClampNeg)) (m_n.toNatClampNeg + 1 - p0.toNatClampNeg) : Int) = _ ∧ _); omega)) (om_54 i_8 i_31) (om_mu hn1 (om_5 i_31) (om_6 i_8)) _ _ hP hD hS ls (lv_sub hl [0, 2, 3, 4, 5, 6, 7, 8] rfl)
                      · have i_13 : 0 < r_12.toInt := kc_nle c_13
                        refine lv_goto (tgt := 163) hx hb dX5_windows_97 (by decide) ?_
                        obtain ⟨x_33, ex_33⟩ : ∃ y : Int32, y = i + 1 := ⟨_, rfl⟩
                        have i_33 : x_33.toInt = i.toInt + 1 := ki_add ex_33 rfl rfl (om_13 LP1_h0) (om_238 a1 LP1_h2)
                        refine lv_iinc (v := x_33) (lv' := [(7, .int x_33), (6, .int most), (5, .int best), (0, .ref h0), (1, .int p0), (2, .int p1), (3, .int p2), (4, .int p3)]) hx hb dX5_windows_163 hl (k := 0) rfl (by rw [ex_33]; rfl) (by decide) rfl (fun ls hl => ?_)
                        refine lv_goto (tgt := 71) hx hb dX5_windows_166 (by decide) ?_
                        have n_34 := ki_nat x_33 rfl (om_34 LP1_h0 i_33)
                        have q_91 : r_12.toInt = (cnt f (f i.toNatClampNeg) 0 i.toNatClampNeg : Int) := by rw [← ey_10, show i.toNatClampNeg = (i.toInt - 0).toNat by omega]; exact w_12
                        exact ih1 x_33 best most (om_34 LP1_h0 i_33) (by obtain ⟨j9, j1, j2⟩ := cnt_pos (f := f) (v := f i.toNatClampNeg) (l := 0) (k := i.toNatClampNeg) (by omega); rw [Nat.zero_add] at j2; exact mj_bw_met LP1_h1 (by omega) j1 j2) (om_54 i_8 i_33) (om_mu hn1 (om_5 i_33) (om_6 i_8)) _ _ hP hD hS ls (lv_sub hl [0, 1, 2, 3, 4, 5, 6, 7] rfl)
                have k_35 : (0 : Int32).toInt = 0 := rfl
                have k_36 : ((-40000) : Int32).toInt = -40000 := rfl
                have k_37 : (0 : Int32).toInt = 0 := rfl
                exact LP1 ((m_n.toInt - 0 : Int).toNat + 1) 0 (-40000) 0 om_35 (mj_bw_0 _ _ rfl) (om_10 a0) (Nat.lt_succ_self _) _ _ hP hD hS ls (lv_sub hl [0, 1, 2, 3, 4, 5, 6, 7] rfl)
              · have i_7 : p3.toInt = 0 := kc_eq c_7
                refine lv_aload_n hx hb dX5_windows_53 rfl (lv_at hl 0 rfl) ?_
                refine lv_iload_n hx hb dX5_windows_54 rfl (lv_at hl 1 rfl) ?_
                refine lv_iload_n hx hb dX5_windows_55 rfl (lv_at hl 2 rfl) ?_
                refine lv_iload_n hx hb dX5_windows_56 rfl (lv_at hl 3 rfl) ?_
                have hPc := hP
                have hKc := hK
                refine vp_callSi (W.runV (As := [.int p0, .int p1, .int p2]) (rest := []) ⟨hx, hb, hml, hown, hts⟩ (c_X5_anyWindows_x l dC dI h0 g_row g_many g_loss g_less g_voteValue g_voteNumber g_allValue g_allNumber g_nodeL g_nodeR g_part g_wasMany g_wasLoss g_wasValue g_wasNumber g_path g_heavyValue g_heavyTimes g_fewest g_which g_met m_n m_slots 0 m_allMany m_nodes m_partMany m_pathMany m_heavyMany m_mostMet cyI f p0 p1 p2 a0 a1 (om_151 w_1.1) (om_9 w_1.2) (om_151 w_3.1) (om_9 w_3.2.1) (om_152 w_3.2.2)) (cwV 3 hts gX5_windows_X5_anyWindows rfl rfl rfl (by decide +kernel) ⟨Nat.le_of_ble_eq_true rfl, Nat.le_of_ble_eq_true rfl⟩) ⟨fun a U g mk q => by obtain ⟨q0, qP, qK⟩ := q; exact ⟨q0, qP, va_K.moved (u := U) (U := U.calling g mk a) (Vm.Alike.refl U.vm) qK⟩, kx_rc5 hKc hPc (q0 := 0) rfl, fun U hU hW => ⟨rfl, by rw [hU]; exact hPc, va_K.moved hW.alike hKc⟩⟩ rfl rfl hl.1 rfl (lv_room (Nat.le_of_ble_eq_true rfl)) dX5_windows_57 ⟨Nat.le_of_ble_eq_true rfl, Nat.le_of_ble_eq_true rfl⟩) (fun r_38 w_38 => ?_)
                have w_38 : r_38.toInt = (mj_ct (mj_ay f p0.toNatClampNeg p1.toInt p2.toInt) (m_n.toNatClampNeg + 1 - p0.toNatClampNeg) : Int) := w_38
                have hP9 := hP
                have hD9 := hD
                have hK9 := hK
                exact W.iret (v := r_38) hx hb hr (hlocks := hlocks) (fun t ht hW => ⟨⟨r_38, (), rfl, (Or.inl ⟨(by (try dsimp only); omega), Or.inl ⟨(by (try dsimp only); omega), w_38⟩⟩), by rw [ht]; exact hP9, va_K.moved hW.alike hK9, hD9⟩, hS.F ht⟩) hS.2.2 dX5_windows_60
            · exact absurd c_6 (by decide)
          · have w_5 : (p3.toInt < 0 ∨ 2 < p3.toInt) := w_5
            refine lv_if_ne (tgt := 48) hx hb dX5_windows_32 (by decide) (fun c_39 => ?_) (fun c_39 => ?_)
            · exact absurd c_39 (by decide)
            · refine lv_iload hx hb dX5_windows_35 (lv_at hl 4 rfl) ?_
              refine lv_iconst (v := 1) hx hb dX5_windows_37 (by decide) ?_
              refine lv_icmp_ne (tgt := 46) hx hb dX5_windows_38 (by decide) (fun c_40 => ?_) (fun c_40 => ?_)
              · have i_40 : ¬ p3.toInt = 1 := kc_ne c_40
                refine lv_iconst (v := (-1)) hx hb dX5_windows_46 (by decide) ?_
                have hP9 := hP
                have hD9 := hD
                have hK9 := hK
                exact W.iret (v := (-1)) hx hb hr (hlocks := hlocks) (fun t ht hW => ⟨⟨(-1), (), rfl, (Or.inr ⟨(by (try dsimp only); omega), Or.inr ⟨(by (try dsimp only); omega), rfl⟩⟩), by rw [ht]; exact hP9, va_K.moved hW.alike hK9, hD9⟩, hS.F ht⟩) hS.2.2 dX5_windows_47
              · have i_40 : p3.toInt = 1 := kc_eq c_40
                exfalso; omega
      · have w_3 : (p1.toInt < 1 ∨ p2.toInt < p1.toInt ∨ 999 < p2.toInt) := w_3
        refine lv_if_eq (tgt := 35) hx hb dX5_windows_22 (by decide) (fun c_41 => ?_) (fun c_41 => ?_)
        · refine lv_iload hx hb dX5_windows_35 (lv_at hl 4 rfl) ?_
          refine lv_iconst (v := 1) hx hb dX5_windows_37 (by decide) ?_
          refine lv_icmp_ne (tgt := 46) hx hb dX5_windows_38 (by decide) (fun c_42 => ?_) (fun c_42 => ?_)
          · have i_42 : ¬ p3.toInt = 1 := kc_ne c_42
            refine lv_iconst (v := (-1)) hx hb dX5_windows_46 (by decide) ?_
            have hP9 := hP
            have hD9 := hD
            have hK9 := hK
            exact W.iret (v := (-1)) hx hb hr (hlocks := hlocks) (fun t ht hW => ⟨⟨(-1), (), rfl, (Or.inr ⟨(by (try dsimp only); omega), Or.inr ⟨(by (try dsimp only); omega), rfl⟩⟩), by rw [ht]; exact hP9, va_K.moved hW.alike hK9, hD9⟩, hS.F ht⟩) hS.2.2 dX5_windows_47
          · have i_42 : p3.toInt = 1 := kc_eq c_42
            refine lv_ldc (v := (-40000)) hx hb hown hk_148 dX5_windows_41 ?_
            refine lv_goto (tgt := 47) hx hb dX5_windows_43 (by decide) ?_
            have hP9 := hP
            have hD9 := hD
            have hK9 := hK
            exact W.iret (v := (-40000)) hx hb hr (hlocks := hlocks) (fun t ht hW => ⟨⟨(-40000), (), rfl, (Or.inr ⟨(by (try dsimp only); omega), Or.inl ⟨(by (try dsimp only); omega), rfl⟩⟩), by rw [ht]; exact hP9, va_K.moved hW.alike hK9, hD9⟩, hS.F ht⟩) hS.2.2 dX5_windows_47
        · exact absurd c_41 (by decide)
  · have w_1 : (p0.toInt < 1 ∨ m_n.toInt < p0.toInt) := w_1
    refine lv_if_eq (tgt := 35) hx hb dX5_windows_14 (by decide) (fun c_43 => ?_) (fun c_43 => ?_)
    · refine lv_iload hx hb dX5_windows_35 (lv_at hl 4 rfl) ?_
      refine lv_iconst (v := 1) hx hb dX5_windows_37 (by decide) ?_
      refine lv_icmp_ne (tgt := 46) hx hb dX5_windows_38 (by decide) (fun c_44 => ?_) (fun c_44 => ?_)
      · have i_44 : ¬ p3.toInt = 1 := kc_ne c_44
        refine lv_iconst (v := (-1)) hx hb dX5_windows_46 (by decide) ?_
        have hP9 := hP
        have hD9 := hD
        have hK9 := hK
        exact W.iret (v := (-1)) hx hb hr (hlocks := hlocks) (fun t ht hW => ⟨⟨(-1), (), rfl, (Or.inr ⟨(by (try dsimp only); omega), Or.inr ⟨(by (try dsimp only); omega), rfl⟩⟩), by rw [ht]; exact hP9, va_K.moved hW.alike hK9, hD9⟩, hS.F ht⟩) hS.2.2 dX5_windows_47
      · have i_44 : p3.toInt = 1 := kc_eq c_44
        refine lv_ldc (v := (-40000)) hx hb hown hk_148 dX5_windows_41 ?_
        refine lv_goto (tgt := 47) hx hb dX5_windows_43 (by decide) ?_
        have hP9 := hP
        have hD9 := hD
        have hK9 := hK
        exact W.iret (v := (-40000)) hx hb hr (hlocks := hlocks) (fun t ht hW => ⟨⟨(-40000), (), rfl, (Or.inr ⟨(by (try dsimp only); omega), Or.inl ⟨(by (try dsimp only); omega), rfl⟩⟩), by rw [ht]; exact hP9, va_K.moved hW.alike hK9, hD9⟩, hS.F ht⟩) hS.2.2 dX5_windows_47
    · exact absurd c_43 (by decide)



abbrev cL_law : ByteArray := code


def dt_cL_law_0 : List (Nat × Nat × Nat × Nat) := [(0, 187, 2, 8), (3, 89, 0, 0), (4, 183, 2, 26), (7, 76, 0, 0), (8, 187, 2, 27), (11, 89, 0, 0), (12, 183, 2, 29), (15, 77, 0, 0), (16, 4, 0, 0)]
theorem da_cL_law_0 : fw dt_cL_law_0 0 cL_law.data.toList = true := by decide +kernel
theorem dL_law_0 : decode cL_law 0 = .ok (.new 8, 3) := fo_187 (fw_get da_cL_law_0 0 rfl)
theorem dL_law_3 : decode cL_law 3 = .ok (.dup, 1) := fo_89 (fw_get da_cL_law_0 1 rfl)
theorem dL_law_4 : decode cL_law 4 = .ok (.invokespecial 26, 3) := fo_183 (fw_get da_cL_law_0 2 rfl)
theorem dL_law_7 : decode cL_law 7 = .ok (.astore_n 1, 1) := fo_76 (fw_get da_cL_law_0 3 rfl)
theorem dL_law_8 : decode cL_law 8 = .ok (.new 27, 3) := fo_187 (fw_get da_cL_law_0 4 rfl)
theorem dL_law_11 : decode cL_law 11 = .ok (.dup, 1) := fo_89 (fw_get da_cL_law_0 5 rfl)
theorem dL_law_12 : decode cL_law 12 = .ok (.invokespecial 29, 3) := fo_183 (fw_get da_cL_law_0 6 rfl)
theorem dL_law_15 : decode cL_law 15 = .ok (.astore_n 2, 1) := fo_77 (fw_get da_cL_law_0 7 rfl)
theorem dL_law_16 : decode cL_law 16 = .ok (.iconst 1, 1) := fo_4 (fw_get da_cL_law_0 8 rfl)
theorem dL_law_17 : decode cL_law 17 = .ok (.newarray .long, 2) := by decide +kernel
def dt_cL_law_1 : List (Nat × Nat × Nat × Nat) := [(19, 78, 0, 0), (20, 3, 0, 0), (21, 54, 1, 4), (23, 21, 1, 4), (25, 42, 0, 0), (26, 190, 0, 0), (27, 16, 1, 8), (29, 100, 0, 0), (30, 163, 2, 2264), (33, 42, 0, 0), (34, 21, 1, 4), (36, 46, 0, 0), (37, 16, 1, 63), (39, 126, 0, 0)]
theorem da_cL_law_1 : fw dt_cL_law_1 0 cL_law.data.toList = true := by decide +kernel
theorem dL_law_19 : decode cL_law 19 = .ok (.astore_n 3, 1) := fo_78 (fw_get da_cL_law_1 0 rfl)
theorem dL_law_20 : decode cL_law 20 = .ok (.iconst 0, 1) := fo_3 (fw_get da_cL_law_1 1 rfl)
theorem dL_law_21 : decode cL_law 21 = .ok (.istore 4, 2) := fo_54 (fw_get da_cL_law_1 2 rfl)
theorem dL_law_23 : decode cL_law 23 = .ok (.iload 4, 2) := fo_21 (fw_get da_cL_law_1 3 rfl)
theorem dL_law_25 : decode cL_law 25 = .ok (.aload_n 0, 1) := fo_42 (fw_get da_cL_law_1 4 rfl)
theorem dL_law_26 : decode cL_law 26 = .ok (.arraylength, 1) := fo_190 (fw_get da_cL_law_1 5 rfl)
theorem dL_law_27 : decode cL_law 27 = .ok (.bipush 8, 2) := fo_16 (fw_get da_cL_law_1 6 rfl) (by decide +kernel)
theorem dL_law_29 : decode cL_law 29 = .ok (.isub, 1) := fo_100 (fw_get da_cL_law_1 7 rfl)
theorem dL_law_30 : decode cL_law 30 = .ok (.if_icmp .gt 2264, 3) := fo_163 (fw_get da_cL_law_1 8 rfl) (by decide +kernel)
theorem dL_law_33 : decode cL_law 33 = .ok (.aload_n 0, 1) := fo_42 (fw_get da_cL_law_1 9 rfl)
theorem dL_law_34 : decode cL_law 34 = .ok (.iload 4, 2) := fo_21 (fw_get da_cL_law_1 10 rfl)
theorem dL_law_36 : decode cL_law 36 = .ok (.iaload, 1) := fo_46 (fw_get da_cL_law_1 11 rfl)
theorem dL_law_37 : decode cL_law 37 = .ok (.bipush 63, 2) := fo_16 (fw_get da_cL_law_1 12 rfl) (by decide +kernel)
theorem dL_law_39 : decode cL_law 39 = .ok (.iand, 1) := fo_126 (fw_get da_cL_law_1 13 rfl)
theorem dL_law_40 : decode cL_law 40 = .ok (.tableswitch 2248 0 43 #[192, 229, 254, 279, 316, 365, 402, 439, 476, 501, 529, 578, 615, 628, 665, 729, 766, 803, 852, 877, 914, 975, 1024, 1088, 1137, 1174, 1235, 1325, 1386, 1447, 1484, 1533, 1620, 1721, 1782, 1807, 1844, 1881, 1894, 1955, 2028, 2101, 2162, 2223], 192) := by decide +kernel
def dt_cL_law_2 : List (Nat × Nat × Nat × Nat) := [(232, 43, 0, 0), (233, 42, 0, 0), (234, 21, 1, 4), (236, 4, 0, 0), (237, 96, 0, 0), (238, 46, 0, 0), (239, 42, 0, 0), (240, 21, 1, 4), (242, 5, 0, 0), (243, 96, 0, 0), (244, 46, 0, 0), (245, 182, 2, 30), (248, 87, 0, 0), (249, 44, 0, 0), (250, 42, 0, 0), (251, 21, 1, 4), (253, 4, 0, 0), (254, 96, 0, 0), (255, 46, 0, 0), (256, 42, 0, 0)]
theorem da_cL_law_2 : fw dt_cL_law_2 0 cL_law.data.toList = true := by decide +kernel
theorem dL_law_232 : decode cL_law 232 = .ok (.aload_n 1, 1) := fo_43 (fw_get da_cL_law_2 0 rfl)
theorem dL_law_233 : decode cL_law 233 = .ok (.aload_n 0, 1) := fo_42 (fw_get da_cL_law_2 1 rfl)
theorem dL_law_234 : decode cL_law 234 = .ok (.iload 4, 2) := fo_21 (fw_get da_cL_law_2 2 rfl)
theorem dL_law_236 : decode cL_law 236 = .ok (.iconst 1, 1) := fo_4 (fw_get da_cL_law_2 3 rfl)
theorem dL_law_237 : decode cL_law 237 = .ok (.iadd, 1) := fo_96 (fw_get da_cL_law_2 4 rfl)
theorem dL_law_238 : decode cL_law 238 = .ok (.iaload, 1) := fo_46 (fw_get da_cL_law_2 5 rfl)
theorem dL_law_239 : decode cL_law 239 = .ok (.aload_n 0, 1) := fo_42 (fw_get da_cL_law_2 6 rfl)
theorem dL_law_240 : decode cL_law 240 = .ok (.iload 4, 2) := fo_21 (fw_get da_cL_law_2 7 rfl)
theorem dL_law_242 : decode cL_law 242 = .ok (.iconst 2, 1) := fo_5 (fw_get da_cL_law_2 8 rfl)
theorem dL_law_243 : decode cL_law 243 = .ok (.iadd, 1) := fo_96 (fw_get da_cL_law_2 9 rfl)
theorem dL_law_244 : decode cL_law 244 = .ok (.iaload, 1) := fo_46 (fw_get da_cL_law_2 10 rfl)
theorem dL_law_245 : decode cL_law 245 = .ok (.invokevirtual 30, 3) := fo_182 (fw_get da_cL_law_2 11 rfl)
theorem dL_law_248 : decode cL_law 248 = .ok (.pop, 1) := fo_87 (fw_get da_cL_law_2 12 rfl)
theorem dL_law_249 : decode cL_law 249 = .ok (.aload_n 2, 1) := fo_44 (fw_get da_cL_law_2 13 rfl)
theorem dL_law_250 : decode cL_law 250 = .ok (.aload_n 0, 1) := fo_42 (fw_get da_cL_law_2 14 rfl)
theorem dL_law_251 : decode cL_law 251 = .ok (.iload 4, 2) := fo_21 (fw_get da_cL_law_2 15 rfl)
theorem dL_law_253 : decode cL_law 253 = .ok (.iconst 1, 1) := fo_4 (fw_get da_cL_law_2 16 rfl)
theorem dL_law_254 : decode cL_law 254 = .ok (.iadd, 1) := fo_96 (fw_get da_cL_law_2 17 rfl)
theorem dL_law_255 : decode cL_law 255 = .ok (.iaload, 1) := fo_46 (fw_get da_cL_law_2 18 rfl)
theorem dL_law_256 : decode cL_law 256 = .ok (.aload_n 0, 1) := fo_42 (fw_get da_cL_law_2 19 rfl)
def dt_cL_law_3 : List (Nat × Nat × Nat × Nat) := [(257, 21, 1, 4), (259, 5, 0, 0), (260, 96, 0, 0), (261, 46, 0, 0), (262, 182, 2, 34), (265, 87, 0, 0), (266, 167, 2, 2022), (269, 43, 0, 0), (270, 42, 0, 0), (271, 21, 1, 4), (273, 4, 0, 0), (274, 96, 0, 0), (275, 46, 0, 0), (276, 182, 2, 35), (279, 87, 0, 0), (280, 44, 0, 0), (281, 42, 0, 0), (282, 21, 1, 4), (284, 4, 0, 0), (285, 96, 0, 0)]
theorem da_cL_law_3 : fw dt_cL_law_3 0 cL_law.data.toList = true := by decide +kernel
theorem dL_law_257 : decode cL_law 257 = .ok (.iload 4, 2) := fo_21 (fw_get da_cL_law_3 0 rfl)
theorem dL_law_259 : decode cL_law 259 = .ok (.iconst 2, 1) := fo_5 (fw_get da_cL_law_3 1 rfl)
theorem dL_law_260 : decode cL_law 260 = .ok (.iadd, 1) := fo_96 (fw_get da_cL_law_3 2 rfl)
theorem dL_law_261 : decode cL_law 261 = .ok (.iaload, 1) := fo_46 (fw_get da_cL_law_3 3 rfl)
theorem dL_law_262 : decode cL_law 262 = .ok (.invokevirtual 34, 3) := fo_182 (fw_get da_cL_law_3 4 rfl)
theorem dL_law_265 : decode cL_law 265 = .ok (.pop, 1) := fo_87 (fw_get da_cL_law_3 5 rfl)
theorem dL_law_266 : decode cL_law 266 = .ok (.goto 2022, 3) := fo_167 (fw_get da_cL_law_3 6 rfl) (by decide +kernel)
theorem dL_law_269 : decode cL_law 269 = .ok (.aload_n 1, 1) := fo_43 (fw_get da_cL_law_3 7 rfl)
theorem dL_law_270 : decode cL_law 270 = .ok (.aload_n 0, 1) := fo_42 (fw_get da_cL_law_3 8 rfl)
theorem dL_law_271 : decode cL_law 271 = .ok (.iload 4, 2) := fo_21 (fw_get da_cL_law_3 9 rfl)
theorem dL_law_273 : decode cL_law 273 = .ok (.iconst 1, 1) := fo_4 (fw_get da_cL_law_3 10 rfl)
theorem dL_law_274 : decode cL_law 274 = .ok (.iadd, 1) := fo_96 (fw_get da_cL_law_3 11 rfl)
theorem dL_law_275 : decode cL_law 275 = .ok (.iaload, 1) := fo_46 (fw_get da_cL_law_3 12 rfl)
theorem dL_law_276 : decode cL_law 276 = .ok (.invokevirtual 35, 3) := fo_182 (fw_get da_cL_law_3 13 rfl)
theorem dL_law_279 : decode cL_law 279 = .ok (.pop, 1) := fo_87 (fw_get da_cL_law_3 14 rfl)
theorem dL_law_280 : decode cL_law 280 = .ok (.aload_n 2, 1) := fo_44 (fw_get da_cL_law_3 15 rfl)
theorem dL_law_281 : decode cL_law 281 = .ok (.aload_n 0, 1) := fo_42 (fw_get da_cL_law_3 16 rfl)
theorem dL_law_282 : decode cL_law 282 = .ok (.iload 4, 2) := fo_21 (fw_get da_cL_law_3 17 rfl)
theorem dL_law_284 : decode cL_law 284 = .ok (.iconst 1, 1) := fo_4 (fw_get da_cL_law_3 18 rfl)
theorem dL_law_285 : decode cL_law 285 = .ok (.iadd, 1) := fo_96 (fw_get da_cL_law_3 19 rfl)
def dt_cL_law_4 : List (Nat × Nat × Nat × Nat) := [(286, 46, 0, 0), (287, 182, 2, 38), (290, 87, 0, 0), (291, 167, 2, 1997), (294, 43, 0, 0), (295, 42, 0, 0), (296, 21, 1, 4), (298, 4, 0, 0), (299, 96, 0, 0), (300, 46, 0, 0), (301, 182, 2, 39), (304, 87, 0, 0), (305, 44, 0, 0), (306, 42, 0, 0), (307, 21, 1, 4), (309, 4, 0, 0), (310, 96, 0, 0), (311, 46, 0, 0), (312, 182, 2, 42), (315, 87, 0, 0)]
theorem da_cL_law_4 : fw dt_cL_law_4 0 cL_law.data.toList = true := by decide +kernel
theorem dL_law_286 : decode cL_law 286 = .ok (.iaload, 1) := fo_46 (fw_get da_cL_law_4 0 rfl)
theorem dL_law_287 : decode cL_law 287 = .ok (.invokevirtual 38, 3) := fo_182 (fw_get da_cL_law_4 1 rfl)
theorem dL_law_290 : decode cL_law 290 = .ok (.pop, 1) := fo_87 (fw_get da_cL_law_4 2 rfl)
theorem dL_law_291 : decode cL_law 291 = .ok (.goto 1997, 3) := fo_167 (fw_get da_cL_law_4 3 rfl) (by decide +kernel)
theorem dL_law_294 : decode cL_law 294 = .ok (.aload_n 1, 1) := fo_43 (fw_get da_cL_law_4 4 rfl)
theorem dL_law_295 : decode cL_law 295 = .ok (.aload_n 0, 1) := fo_42 (fw_get da_cL_law_4 5 rfl)
theorem dL_law_296 : decode cL_law 296 = .ok (.iload 4, 2) := fo_21 (fw_get da_cL_law_4 6 rfl)
theorem dL_law_298 : decode cL_law 298 = .ok (.iconst 1, 1) := fo_4 (fw_get da_cL_law_4 7 rfl)
theorem dL_law_299 : decode cL_law 299 = .ok (.iadd, 1) := fo_96 (fw_get da_cL_law_4 8 rfl)
theorem dL_law_300 : decode cL_law 300 = .ok (.iaload, 1) := fo_46 (fw_get da_cL_law_4 9 rfl)
theorem dL_law_301 : decode cL_law 301 = .ok (.invokevirtual 39, 3) := fo_182 (fw_get da_cL_law_4 10 rfl)
theorem dL_law_304 : decode cL_law 304 = .ok (.pop, 1) := fo_87 (fw_get da_cL_law_4 11 rfl)
theorem dL_law_305 : decode cL_law 305 = .ok (.aload_n 2, 1) := fo_44 (fw_get da_cL_law_4 12 rfl)
theorem dL_law_306 : decode cL_law 306 = .ok (.aload_n 0, 1) := fo_42 (fw_get da_cL_law_4 13 rfl)
theorem dL_law_307 : decode cL_law 307 = .ok (.iload 4, 2) := fo_21 (fw_get da_cL_law_4 14 rfl)
theorem dL_law_309 : decode cL_law 309 = .ok (.iconst 1, 1) := fo_4 (fw_get da_cL_law_4 15 rfl)
theorem dL_law_310 : decode cL_law 310 = .ok (.iadd, 1) := fo_96 (fw_get da_cL_law_4 16 rfl)
theorem dL_law_311 : decode cL_law 311 = .ok (.iaload, 1) := fo_46 (fw_get da_cL_law_4 17 rfl)
theorem dL_law_312 : decode cL_law 312 = .ok (.invokevirtual 42, 3) := fo_182 (fw_get da_cL_law_4 18 rfl)
theorem dL_law_315 : decode cL_law 315 = .ok (.pop, 1) := fo_87 (fw_get da_cL_law_4 19 rfl)
def dt_cL_law_5 : List (Nat × Nat × Nat × Nat) := [(316, 167, 2, 1972), (319, 43, 0, 0), (320, 42, 0, 0), (321, 21, 1, 4), (323, 4, 0, 0), (324, 96, 0, 0), (325, 46, 0, 0), (326, 42, 0, 0), (327, 21, 1, 4), (329, 5, 0, 0), (330, 96, 0, 0), (331, 46, 0, 0), (332, 182, 2, 43), (335, 87, 0, 0), (336, 44, 0, 0), (337, 42, 0, 0), (338, 21, 1, 4), (340, 4, 0, 0), (341, 96, 0, 0), (342, 46, 0, 0)]
theorem da_cL_law_5 : fw dt_cL_law_5 0 cL_law.data.toList = true := by decide +kernel
theorem dL_law_316 : decode cL_law 316 = .ok (.goto 1972, 3) := fo_167 (fw_get da_cL_law_5 0 rfl) (by decide +kernel)
theorem dL_law_319 : decode cL_law 319 = .ok (.aload_n 1, 1) := fo_43 (fw_get da_cL_law_5 1 rfl)
theorem dL_law_320 : decode cL_law 320 = .ok (.aload_n 0, 1) := fo_42 (fw_get da_cL_law_5 2 rfl)
theorem dL_law_321 : decode cL_law 321 = .ok (.iload 4, 2) := fo_21 (fw_get da_cL_law_5 3 rfl)
theorem dL_law_323 : decode cL_law 323 = .ok (.iconst 1, 1) := fo_4 (fw_get da_cL_law_5 4 rfl)
theorem dL_law_324 : decode cL_law 324 = .ok (.iadd, 1) := fo_96 (fw_get da_cL_law_5 5 rfl)
theorem dL_law_325 : decode cL_law 325 = .ok (.iaload, 1) := fo_46 (fw_get da_cL_law_5 6 rfl)
theorem dL_law_326 : decode cL_law 326 = .ok (.aload_n 0, 1) := fo_42 (fw_get da_cL_law_5 7 rfl)
theorem dL_law_327 : decode cL_law 327 = .ok (.iload 4, 2) := fo_21 (fw_get da_cL_law_5 8 rfl)
theorem dL_law_329 : decode cL_law 329 = .ok (.iconst 2, 1) := fo_5 (fw_get da_cL_law_5 9 rfl)
theorem dL_law_330 : decode cL_law 330 = .ok (.iadd, 1) := fo_96 (fw_get da_cL_law_5 10 rfl)
theorem dL_law_331 : decode cL_law 331 = .ok (.iaload, 1) := fo_46 (fw_get da_cL_law_5 11 rfl)
theorem dL_law_332 : decode cL_law 332 = .ok (.invokevirtual 43, 3) := fo_182 (fw_get da_cL_law_5 12 rfl)
theorem dL_law_335 : decode cL_law 335 = .ok (.pop, 1) := fo_87 (fw_get da_cL_law_5 13 rfl)
theorem dL_law_336 : decode cL_law 336 = .ok (.aload_n 2, 1) := fo_44 (fw_get da_cL_law_5 14 rfl)
theorem dL_law_337 : decode cL_law 337 = .ok (.aload_n 0, 1) := fo_42 (fw_get da_cL_law_5 15 rfl)
theorem dL_law_338 : decode cL_law 338 = .ok (.iload 4, 2) := fo_21 (fw_get da_cL_law_5 16 rfl)
theorem dL_law_340 : decode cL_law 340 = .ok (.iconst 1, 1) := fo_4 (fw_get da_cL_law_5 17 rfl)
theorem dL_law_341 : decode cL_law 341 = .ok (.iadd, 1) := fo_96 (fw_get da_cL_law_5 18 rfl)
theorem dL_law_342 : decode cL_law 342 = .ok (.iaload, 1) := fo_46 (fw_get da_cL_law_5 19 rfl)
def dt_cL_law_6 : List (Nat × Nat × Nat × Nat) := [(343, 42, 0, 0), (344, 21, 1, 4), (346, 5, 0, 0), (347, 96, 0, 0), (348, 46, 0, 0), (349, 182, 2, 46), (352, 87, 0, 0), (353, 167, 2, 1935), (356, 43, 0, 0), (357, 42, 0, 0), (358, 21, 1, 4), (360, 4, 0, 0), (361, 96, 0, 0), (362, 46, 0, 0), (363, 42, 0, 0), (364, 21, 1, 4), (366, 5, 0, 0), (367, 96, 0, 0), (368, 46, 0, 0), (369, 42, 0, 0)]
theorem da_cL_law_6 : fw dt_cL_law_6 0 cL_law.data.toList = true := by decide +kernel
theorem dL_law_343 : decode cL_law 343 = .ok (.aload_n 0, 1) := fo_42 (fw_get da_cL_law_6 0 rfl)
theorem dL_law_344 : decode cL_law 344 = .ok (.iload 4, 2) := fo_21 (fw_get da_cL_law_6 1 rfl)
theorem dL_law_346 : decode cL_law 346 = .ok (.iconst 2, 1) := fo_5 (fw_get da_cL_law_6 2 rfl)
theorem dL_law_347 : decode cL_law 347 = .ok (.iadd, 1) := fo_96 (fw_get da_cL_law_6 3 rfl)
theorem dL_law_348 : decode cL_law 348 = .ok (.iaload, 1) := fo_46 (fw_get da_cL_law_6 4 rfl)
theorem dL_law_349 : decode cL_law 349 = .ok (.invokevirtual 46, 3) := fo_182 (fw_get da_cL_law_6 5 rfl)
theorem dL_law_352 : decode cL_law 352 = .ok (.pop, 1) := fo_87 (fw_get da_cL_law_6 6 rfl)
theorem dL_law_353 : decode cL_law 353 = .ok (.goto 1935, 3) := fo_167 (fw_get da_cL_law_6 7 rfl) (by decide +kernel)
theorem dL_law_356 : decode cL_law 356 = .ok (.aload_n 1, 1) := fo_43 (fw_get da_cL_law_6 8 rfl)
theorem dL_law_357 : decode cL_law 357 = .ok (.aload_n 0, 1) := fo_42 (fw_get da_cL_law_6 9 rfl)
theorem dL_law_358 : decode cL_law 358 = .ok (.iload 4, 2) := fo_21 (fw_get da_cL_law_6 10 rfl)
theorem dL_law_360 : decode cL_law 360 = .ok (.iconst 1, 1) := fo_4 (fw_get da_cL_law_6 11 rfl)
theorem dL_law_361 : decode cL_law 361 = .ok (.iadd, 1) := fo_96 (fw_get da_cL_law_6 12 rfl)
theorem dL_law_362 : decode cL_law 362 = .ok (.iaload, 1) := fo_46 (fw_get da_cL_law_6 13 rfl)
theorem dL_law_363 : decode cL_law 363 = .ok (.aload_n 0, 1) := fo_42 (fw_get da_cL_law_6 14 rfl)
theorem dL_law_364 : decode cL_law 364 = .ok (.iload 4, 2) := fo_21 (fw_get da_cL_law_6 15 rfl)
theorem dL_law_366 : decode cL_law 366 = .ok (.iconst 2, 1) := fo_5 (fw_get da_cL_law_6 16 rfl)
theorem dL_law_367 : decode cL_law 367 = .ok (.iadd, 1) := fo_96 (fw_get da_cL_law_6 17 rfl)
theorem dL_law_368 : decode cL_law 368 = .ok (.iaload, 1) := fo_46 (fw_get da_cL_law_6 18 rfl)
theorem dL_law_369 : decode cL_law 369 = .ok (.aload_n 0, 1) := fo_42 (fw_get da_cL_law_6 19 rfl)
def dt_cL_law_7 : List (Nat × Nat × Nat × Nat) := [(370, 21, 1, 4), (372, 6, 0, 0), (373, 96, 0, 0), (374, 46, 0, 0), (375, 182, 2, 47), (378, 87, 0, 0), (379, 44, 0, 0), (380, 42, 0, 0), (381, 21, 1, 4), (383, 4, 0, 0), (384, 96, 0, 0), (385, 46, 0, 0), (386, 42, 0, 0), (387, 21, 1, 4), (389, 5, 0, 0), (390, 96, 0, 0), (391, 46, 0, 0), (392, 42, 0, 0), (393, 21, 1, 4), (395, 6, 0, 0)]
theorem da_cL_law_7 : fw dt_cL_law_7 0 cL_law.data.toList = true := by decide +kernel
theorem dL_law_370 : decode cL_law 370 = .ok (.iload 4, 2) := fo_21 (fw_get da_cL_law_7 0 rfl)
theorem dL_law_372 : decode cL_law 372 = .ok (.iconst 3, 1) := fo_6 (fw_get da_cL_law_7 1 rfl)
theorem dL_law_373 : decode cL_law 373 = .ok (.iadd, 1) := fo_96 (fw_get da_cL_law_7 2 rfl)
theorem dL_law_374 : decode cL_law 374 = .ok (.iaload, 1) := fo_46 (fw_get da_cL_law_7 3 rfl)
theorem dL_law_375 : decode cL_law 375 = .ok (.invokevirtual 47, 3) := fo_182 (fw_get da_cL_law_7 4 rfl)
theorem dL_law_378 : decode cL_law 378 = .ok (.pop, 1) := fo_87 (fw_get da_cL_law_7 5 rfl)
theorem dL_law_379 : decode cL_law 379 = .ok (.aload_n 2, 1) := fo_44 (fw_get da_cL_law_7 6 rfl)
theorem dL_law_380 : decode cL_law 380 = .ok (.aload_n 0, 1) := fo_42 (fw_get da_cL_law_7 7 rfl)
theorem dL_law_381 : decode cL_law 381 = .ok (.iload 4, 2) := fo_21 (fw_get da_cL_law_7 8 rfl)
theorem dL_law_383 : decode cL_law 383 = .ok (.iconst 1, 1) := fo_4 (fw_get da_cL_law_7 9 rfl)
theorem dL_law_384 : decode cL_law 384 = .ok (.iadd, 1) := fo_96 (fw_get da_cL_law_7 10 rfl)
theorem dL_law_385 : decode cL_law 385 = .ok (.iaload, 1) := fo_46 (fw_get da_cL_law_7 11 rfl)
theorem dL_law_386 : decode cL_law 386 = .ok (.aload_n 0, 1) := fo_42 (fw_get da_cL_law_7 12 rfl)
theorem dL_law_387 : decode cL_law 387 = .ok (.iload 4, 2) := fo_21 (fw_get da_cL_law_7 13 rfl)
theorem dL_law_389 : decode cL_law 389 = .ok (.iconst 2, 1) := fo_5 (fw_get da_cL_law_7 14 rfl)
theorem dL_law_390 : decode cL_law 390 = .ok (.iadd, 1) := fo_96 (fw_get da_cL_law_7 15 rfl)
theorem dL_law_391 : decode cL_law 391 = .ok (.iaload, 1) := fo_46 (fw_get da_cL_law_7 16 rfl)
theorem dL_law_392 : decode cL_law 392 = .ok (.aload_n 0, 1) := fo_42 (fw_get da_cL_law_7 17 rfl)
theorem dL_law_393 : decode cL_law 393 = .ok (.iload 4, 2) := fo_21 (fw_get da_cL_law_7 18 rfl)
theorem dL_law_395 : decode cL_law 395 = .ok (.iconst 3, 1) := fo_6 (fw_get da_cL_law_7 19 rfl)
def dt_cL_law_8 : List (Nat × Nat × Nat × Nat) := [(396, 96, 0, 0), (397, 46, 0, 0), (398, 182, 2, 51), (401, 87, 0, 0), (402, 167, 2, 1886)]
theorem da_cL_law_8 : fw dt_cL_law_8 0 cL_law.data.toList = true := by decide +kernel
theorem dL_law_396 : decode cL_law 396 = .ok (.iadd, 1) := fo_96 (fw_get da_cL_law_8 0 rfl)
theorem dL_law_397 : decode cL_law 397 = .ok (.iaload, 1) := fo_46 (fw_get da_cL_law_8 1 rfl)
theorem dL_law_398 : decode cL_law 398 = .ok (.invokevirtual 51, 3) := fo_182 (fw_get da_cL_law_8 2 rfl)
theorem dL_law_401 : decode cL_law 401 = .ok (.pop, 1) := fo_87 (fw_get da_cL_law_8 3 rfl)
theorem dL_law_402 : decode cL_law 402 = .ok (.goto 1886, 3) := fo_167 (fw_get da_cL_law_8 4 rfl) (by decide +kernel)


def dt_cL_law_9 : List (Nat × Nat × Nat × Nat) := [(405, 43, 0, 0), (406, 42, 0, 0), (407, 21, 1, 4), (409, 4, 0, 0), (410, 96, 0, 0), (411, 46, 0, 0), (412, 42, 0, 0), (413, 21, 1, 4), (415, 5, 0, 0), (416, 96, 0, 0), (417, 46, 0, 0), (418, 182, 2, 52), (421, 87, 0, 0), (422, 44, 0, 0), (423, 42, 0, 0), (424, 21, 1, 4), (426, 4, 0, 0), (427, 96, 0, 0), (428, 46, 0, 0), (429, 42, 0, 0)]
theorem da_cL_law_9 : fw dt_cL_law_9 0 cL_law.data.toList = true := by decide +kernel
theorem dL_law_405 : decode cL_law 405 = .ok (.aload_n 1, 1) := fo_43 (fw_get da_cL_law_9 0 rfl)
theorem dL_law_406 : decode cL_law 406 = .ok (.aload_n 0, 1) := fo_42 (fw_get da_cL_law_9 1 rfl)
theorem dL_law_407 : decode cL_law 407 = .ok (.iload 4, 2) := fo_21 (fw_get da_cL_law_9 2 rfl)
theorem dL_law_409 : decode cL_law 409 = .ok (.iconst 1, 1) := fo_4 (fw_get da_cL_law_9 3 rfl)
theorem dL_law_410 : decode cL_law 410 = .ok (.iadd, 1) := fo_96 (fw_get da_cL_law_9 4 rfl)
theorem dL_law_411 : decode cL_law 411 = .ok (.iaload, 1) := fo_46 (fw_get da_cL_law_9 5 rfl)
theorem dL_law_412 : decode cL_law 412 = .ok (.aload_n 0, 1) := fo_42 (fw_get da_cL_law_9 6 rfl)
theorem dL_law_413 : decode cL_law 413 = .ok (.iload 4, 2) := fo_21 (fw_get da_cL_law_9 7 rfl)
theorem dL_law_415 : decode cL_law 415 = .ok (.iconst 2, 1) := fo_5 (fw_get da_cL_law_9 8 rfl)
theorem dL_law_416 : decode cL_law 416 = .ok (.iadd, 1) := fo_96 (fw_get da_cL_law_9 9 rfl)
theorem dL_law_417 : decode cL_law 417 = .ok (.iaload, 1) := fo_46 (fw_get da_cL_law_9 10 rfl)
theorem dL_law_418 : decode cL_law 418 = .ok (.invokevirtual 52, 3) := fo_182 (fw_get da_cL_law_9 11 rfl)
theorem dL_law_421 : decode cL_law 421 = .ok (.pop, 1) := fo_87 (fw_get da_cL_law_9 12 rfl)
theorem dL_law_422 : decode cL_law 422 = .ok (.aload_n 2, 1) := fo_44 (fw_get da_cL_law_9 13 rfl)
theorem dL_law_423 : decode cL_law 423 = .ok (.aload_n 0, 1) := fo_42 (fw_get da_cL_law_9 14 rfl)
theorem dL_law_424 : decode cL_law 424 = .ok (.iload 4, 2) := fo_21 (fw_get da_cL_law_9 15 rfl)
theorem dL_law_426 : decode cL_law 426 = .ok (.iconst 1, 1) := fo_4 (fw_get da_cL_law_9 16 rfl)
theorem dL_law_427 : decode cL_law 427 = .ok (.iadd, 1) := fo_96 (fw_get da_cL_law_9 17 rfl)
theorem dL_law_428 : decode cL_law 428 = .ok (.iaload, 1) := fo_46 (fw_get da_cL_law_9 18 rfl)
theorem dL_law_429 : decode cL_law 429 = .ok (.aload_n 0, 1) := fo_42 (fw_get da_cL_law_9 19 rfl)
def dt_cL_law_10 : List (Nat × Nat × Nat × Nat) := [(430, 21, 1, 4), (432, 5, 0, 0), (433, 96, 0, 0), (434, 46, 0, 0), (435, 182, 2, 55), (438, 87, 0, 0), (439, 167, 2, 1849), (442, 43, 0, 0), (443, 42, 0, 0), (444, 21, 1, 4), (446, 4, 0, 0), (447, 96, 0, 0), (448, 46, 0, 0), (449, 42, 0, 0), (450, 21, 1, 4), (452, 5, 0, 0), (453, 96, 0, 0), (454, 46, 0, 0), (455, 182, 2, 56), (458, 87, 0, 0)]
theorem da_cL_law_10 : fw dt_cL_law_10 0 cL_law.data.toList = true := by decide +kernel
theorem dL_law_430 : decode cL_law 430 = .ok (.iload 4, 2) := fo_21 (fw_get da_cL_law_10 0 rfl)
theorem dL_law_432 : decode cL_law 432 = .ok (.iconst 2, 1) := fo_5 (fw_get da_cL_law_10 1 rfl)
theorem dL_law_433 : decode cL_law 433 = .ok (.iadd, 1) := fo_96 (fw_get da_cL_law_10 2 rfl)
theorem dL_law_434 : decode cL_law 434 = .ok (.iaload, 1) := fo_46 (fw_get da_cL_law_10 3 rfl)
theorem dL_law_435 : decode cL_law 435 = .ok (.invokevirtual 55, 3) := fo_182 (fw_get da_cL_law_10 4 rfl)
theorem dL_law_438 : decode cL_law 438 = .ok (.pop, 1) := fo_87 (fw_get da_cL_law_10 5 rfl)
theorem dL_law_439 : decode cL_law 439 = .ok (.goto 1849, 3) := fo_167 (fw_get da_cL_law_10 6 rfl) (by decide +kernel)
theorem dL_law_442 : decode cL_law 442 = .ok (.aload_n 1, 1) := fo_43 (fw_get da_cL_law_10 7 rfl)
theorem dL_law_443 : decode cL_law 443 = .ok (.aload_n 0, 1) := fo_42 (fw_get da_cL_law_10 8 rfl)
theorem dL_law_444 : decode cL_law 444 = .ok (.iload 4, 2) := fo_21 (fw_get da_cL_law_10 9 rfl)
theorem dL_law_446 : decode cL_law 446 = .ok (.iconst 1, 1) := fo_4 (fw_get da_cL_law_10 10 rfl)
theorem dL_law_447 : decode cL_law 447 = .ok (.iadd, 1) := fo_96 (fw_get da_cL_law_10 11 rfl)
theorem dL_law_448 : decode cL_law 448 = .ok (.iaload, 1) := fo_46 (fw_get da_cL_law_10 12 rfl)
theorem dL_law_449 : decode cL_law 449 = .ok (.aload_n 0, 1) := fo_42 (fw_get da_cL_law_10 13 rfl)
theorem dL_law_450 : decode cL_law 450 = .ok (.iload 4, 2) := fo_21 (fw_get da_cL_law_10 14 rfl)
theorem dL_law_452 : decode cL_law 452 = .ok (.iconst 2, 1) := fo_5 (fw_get da_cL_law_10 15 rfl)
theorem dL_law_453 : decode cL_law 453 = .ok (.iadd, 1) := fo_96 (fw_get da_cL_law_10 16 rfl)
theorem dL_law_454 : decode cL_law 454 = .ok (.iaload, 1) := fo_46 (fw_get da_cL_law_10 17 rfl)
theorem dL_law_455 : decode cL_law 455 = .ok (.invokevirtual 56, 3) := fo_182 (fw_get da_cL_law_10 18 rfl)
theorem dL_law_458 : decode cL_law 458 = .ok (.pop, 1) := fo_87 (fw_get da_cL_law_10 19 rfl)
def dt_cL_law_11 : List (Nat × Nat × Nat × Nat) := [(459, 44, 0, 0), (460, 42, 0, 0), (461, 21, 1, 4), (463, 4, 0, 0), (464, 96, 0, 0), (465, 46, 0, 0), (466, 42, 0, 0), (467, 21, 1, 4), (469, 5, 0, 0), (470, 96, 0, 0), (471, 46, 0, 0), (472, 182, 2, 59), (475, 87, 0, 0), (476, 167, 2, 1812), (479, 43, 0, 0), (480, 42, 0, 0), (481, 21, 1, 4), (483, 4, 0, 0), (484, 96, 0, 0), (485, 46, 0, 0)]
theorem da_cL_law_11 : fw dt_cL_law_11 0 cL_law.data.toList = true := by decide +kernel
theorem dL_law_459 : decode cL_law 459 = .ok (.aload_n 2, 1) := fo_44 (fw_get da_cL_law_11 0 rfl)
theorem dL_law_460 : decode cL_law 460 = .ok (.aload_n 0, 1) := fo_42 (fw_get da_cL_law_11 1 rfl)
theorem dL_law_461 : decode cL_law 461 = .ok (.iload 4, 2) := fo_21 (fw_get da_cL_law_11 2 rfl)
theorem dL_law_463 : decode cL_law 463 = .ok (.iconst 1, 1) := fo_4 (fw_get da_cL_law_11 3 rfl)
theorem dL_law_464 : decode cL_law 464 = .ok (.iadd, 1) := fo_96 (fw_get da_cL_law_11 4 rfl)
theorem dL_law_465 : decode cL_law 465 = .ok (.iaload, 1) := fo_46 (fw_get da_cL_law_11 5 rfl)
theorem dL_law_466 : decode cL_law 466 = .ok (.aload_n 0, 1) := fo_42 (fw_get da_cL_law_11 6 rfl)
theorem dL_law_467 : decode cL_law 467 = .ok (.iload 4, 2) := fo_21 (fw_get da_cL_law_11 7 rfl)
theorem dL_law_469 : decode cL_law 469 = .ok (.iconst 2, 1) := fo_5 (fw_get da_cL_law_11 8 rfl)
theorem dL_law_470 : decode cL_law 470 = .ok (.iadd, 1) := fo_96 (fw_get da_cL_law_11 9 rfl)
theorem dL_law_471 : decode cL_law 471 = .ok (.iaload, 1) := fo_46 (fw_get da_cL_law_11 10 rfl)
theorem dL_law_472 : decode cL_law 472 = .ok (.invokevirtual 59, 3) := fo_182 (fw_get da_cL_law_11 11 rfl)
theorem dL_law_475 : decode cL_law 475 = .ok (.pop, 1) := fo_87 (fw_get da_cL_law_11 12 rfl)
theorem dL_law_476 : decode cL_law 476 = .ok (.goto 1812, 3) := fo_167 (fw_get da_cL_law_11 13 rfl) (by decide +kernel)
theorem dL_law_479 : decode cL_law 479 = .ok (.aload_n 1, 1) := fo_43 (fw_get da_cL_law_11 14 rfl)
theorem dL_law_480 : decode cL_law 480 = .ok (.aload_n 0, 1) := fo_42 (fw_get da_cL_law_11 15 rfl)
theorem dL_law_481 : decode cL_law 481 = .ok (.iload 4, 2) := fo_21 (fw_get da_cL_law_11 16 rfl)
theorem dL_law_483 : decode cL_law 483 = .ok (.iconst 1, 1) := fo_4 (fw_get da_cL_law_11 17 rfl)
theorem dL_law_484 : decode cL_law 484 = .ok (.iadd, 1) := fo_96 (fw_get da_cL_law_11 18 rfl)
theorem dL_law_485 : decode cL_law 485 = .ok (.iaload, 1) := fo_46 (fw_get da_cL_law_11 19 rfl)
def dt_cL_law_12 : List (Nat × Nat × Nat × Nat) := [(486, 42, 0, 0), (487, 21, 1, 4), (489, 5, 0, 0), (490, 96, 0, 0), (491, 46, 0, 0), (492, 182, 2, 60), (495, 87, 0, 0), (496, 44, 0, 0), (497, 42, 0, 0), (498, 21, 1, 4), (500, 4, 0, 0), (501, 96, 0, 0), (502, 46, 0, 0), (503, 42, 0, 0), (504, 21, 1, 4), (506, 5, 0, 0), (507, 96, 0, 0), (508, 46, 0, 0), (509, 182, 2, 63), (512, 87, 0, 0)]
theorem da_cL_law_12 : fw dt_cL_law_12 0 cL_law.data.toList = true := by decide +kernel
theorem dL_law_486 : decode cL_law 486 = .ok (.aload_n 0, 1) := fo_42 (fw_get da_cL_law_12 0 rfl)
theorem dL_law_487 : decode cL_law 487 = .ok (.iload 4, 2) := fo_21 (fw_get da_cL_law_12 1 rfl)
theorem dL_law_489 : decode cL_law 489 = .ok (.iconst 2, 1) := fo_5 (fw_get da_cL_law_12 2 rfl)
theorem dL_law_490 : decode cL_law 490 = .ok (.iadd, 1) := fo_96 (fw_get da_cL_law_12 3 rfl)
theorem dL_law_491 : decode cL_law 491 = .ok (.iaload, 1) := fo_46 (fw_get da_cL_law_12 4 rfl)
theorem dL_law_492 : decode cL_law 492 = .ok (.invokevirtual 60, 3) := fo_182 (fw_get da_cL_law_12 5 rfl)
theorem dL_law_495 : decode cL_law 495 = .ok (.pop, 1) := fo_87 (fw_get da_cL_law_12 6 rfl)
theorem dL_law_496 : decode cL_law 496 = .ok (.aload_n 2, 1) := fo_44 (fw_get da_cL_law_12 7 rfl)
theorem dL_law_497 : decode cL_law 497 = .ok (.aload_n 0, 1) := fo_42 (fw_get da_cL_law_12 8 rfl)
theorem dL_law_498 : decode cL_law 498 = .ok (.iload 4, 2) := fo_21 (fw_get da_cL_law_12 9 rfl)
theorem dL_law_500 : decode cL_law 500 = .ok (.iconst 1, 1) := fo_4 (fw_get da_cL_law_12 10 rfl)
theorem dL_law_501 : decode cL_law 501 = .ok (.iadd, 1) := fo_96 (fw_get da_cL_law_12 11 rfl)
theorem dL_law_502 : decode cL_law 502 = .ok (.iaload, 1) := fo_46 (fw_get da_cL_law_12 12 rfl)
theorem dL_law_503 : decode cL_law 503 = .ok (.aload_n 0, 1) := fo_42 (fw_get da_cL_law_12 13 rfl)
theorem dL_law_504 : decode cL_law 504 = .ok (.iload 4, 2) := fo_21 (fw_get da_cL_law_12 14 rfl)
theorem dL_law_506 : decode cL_law 506 = .ok (.iconst 2, 1) := fo_5 (fw_get da_cL_law_12 15 rfl)
theorem dL_law_507 : decode cL_law 507 = .ok (.iadd, 1) := fo_96 (fw_get da_cL_law_12 16 rfl)
theorem dL_law_508 : decode cL_law 508 = .ok (.iaload, 1) := fo_46 (fw_get da_cL_law_12 17 rfl)
theorem dL_law_509 : decode cL_law 509 = .ok (.invokevirtual 63, 3) := fo_182 (fw_get da_cL_law_12 18 rfl)
theorem dL_law_512 : decode cL_law 512 = .ok (.pop, 1) := fo_87 (fw_get da_cL_law_12 19 rfl)
def dt_cL_law_13 : List (Nat × Nat × Nat × Nat) := [(513, 167, 2, 1775), (516, 43, 0, 0), (517, 42, 0, 0), (518, 21, 1, 4), (520, 4, 0, 0), (521, 96, 0, 0), (522, 46, 0, 0), (523, 182, 2, 64), (526, 87, 0, 0), (527, 44, 0, 0), (528, 42, 0, 0), (529, 21, 1, 4), (531, 4, 0, 0), (532, 96, 0, 0), (533, 46, 0, 0), (534, 182, 2, 67), (537, 87, 0, 0), (538, 167, 2, 1750), (541, 43, 0, 0), (542, 42, 0, 0)]
theorem da_cL_law_13 : fw dt_cL_law_13 0 cL_law.data.toList = true := by decide +kernel
theorem dL_law_513 : decode cL_law 513 = .ok (.goto 1775, 3) := fo_167 (fw_get da_cL_law_13 0 rfl) (by decide +kernel)
theorem dL_law_516 : decode cL_law 516 = .ok (.aload_n 1, 1) := fo_43 (fw_get da_cL_law_13 1 rfl)
theorem dL_law_517 : decode cL_law 517 = .ok (.aload_n 0, 1) := fo_42 (fw_get da_cL_law_13 2 rfl)
theorem dL_law_518 : decode cL_law 518 = .ok (.iload 4, 2) := fo_21 (fw_get da_cL_law_13 3 rfl)
theorem dL_law_520 : decode cL_law 520 = .ok (.iconst 1, 1) := fo_4 (fw_get da_cL_law_13 4 rfl)
theorem dL_law_521 : decode cL_law 521 = .ok (.iadd, 1) := fo_96 (fw_get da_cL_law_13 5 rfl)
theorem dL_law_522 : decode cL_law 522 = .ok (.iaload, 1) := fo_46 (fw_get da_cL_law_13 6 rfl)
theorem dL_law_523 : decode cL_law 523 = .ok (.invokevirtual 64, 3) := fo_182 (fw_get da_cL_law_13 7 rfl)
theorem dL_law_526 : decode cL_law 526 = .ok (.pop, 1) := fo_87 (fw_get da_cL_law_13 8 rfl)
theorem dL_law_527 : decode cL_law 527 = .ok (.aload_n 2, 1) := fo_44 (fw_get da_cL_law_13 9 rfl)
theorem dL_law_528 : decode cL_law 528 = .ok (.aload_n 0, 1) := fo_42 (fw_get da_cL_law_13 10 rfl)
theorem dL_law_529 : decode cL_law 529 = .ok (.iload 4, 2) := fo_21 (fw_get da_cL_law_13 11 rfl)
theorem dL_law_531 : decode cL_law 531 = .ok (.iconst 1, 1) := fo_4 (fw_get da_cL_law_13 12 rfl)
theorem dL_law_532 : decode cL_law 532 = .ok (.iadd, 1) := fo_96 (fw_get da_cL_law_13 13 rfl)
theorem dL_law_533 : decode cL_law 533 = .ok (.iaload, 1) := fo_46 (fw_get da_cL_law_13 14 rfl)
theorem dL_law_534 : decode cL_law 534 = .ok (.invokevirtual 67, 3) := fo_182 (fw_get da_cL_law_13 15 rfl)
theorem dL_law_537 : decode cL_law 537 = .ok (.pop, 1) := fo_87 (fw_get da_cL_law_13 16 rfl)
theorem dL_law_538 : decode cL_law 538 = .ok (.goto 1750, 3) := fo_167 (fw_get da_cL_law_13 17 rfl) (by decide +kernel)
theorem dL_law_541 : decode cL_law 541 = .ok (.aload_n 1, 1) := fo_43 (fw_get da_cL_law_13 18 rfl)
theorem dL_law_542 : decode cL_law 542 = .ok (.aload_n 0, 1) := fo_42 (fw_get da_cL_law_13 19 rfl)
def dt_cL_law_14 : List (Nat × Nat × Nat × Nat) := [(543, 21, 1, 4), (545, 4, 0, 0), (546, 96, 0, 0), (547, 46, 0, 0), (548, 45, 0, 0), (549, 184, 2, 68), (552, 54, 1, 5), (554, 44, 0, 0), (555, 42, 0, 0), (556, 21, 1, 4), (558, 4, 0, 0), (559, 96, 0, 0), (560, 46, 0, 0), (561, 182, 2, 73), (564, 54, 1, 6), (566, 167, 2, 1722), (569, 43, 0, 0), (570, 42, 0, 0), (571, 21, 1, 4), (573, 4, 0, 0)]
theorem da_cL_law_14 : fw dt_cL_law_14 0 cL_law.data.toList = true := by decide +kernel
theorem dL_law_543 : decode cL_law 543 = .ok (.iload 4, 2) := fo_21 (fw_get da_cL_law_14 0 rfl)
theorem dL_law_545 : decode cL_law 545 = .ok (.iconst 1, 1) := fo_4 (fw_get da_cL_law_14 1 rfl)
theorem dL_law_546 : decode cL_law 546 = .ok (.iadd, 1) := fo_96 (fw_get da_cL_law_14 2 rfl)
theorem dL_law_547 : decode cL_law 547 = .ok (.iaload, 1) := fo_46 (fw_get da_cL_law_14 3 rfl)
theorem dL_law_548 : decode cL_law 548 = .ok (.aload_n 3, 1) := fo_45 (fw_get da_cL_law_14 4 rfl)
theorem dL_law_549 : decode cL_law 549 = .ok (.invokestatic 68, 3) := fo_184 (fw_get da_cL_law_14 5 rfl)
theorem dL_law_552 : decode cL_law 552 = .ok (.istore 5, 2) := fo_54 (fw_get da_cL_law_14 6 rfl)
theorem dL_law_554 : decode cL_law 554 = .ok (.aload_n 2, 1) := fo_44 (fw_get da_cL_law_14 7 rfl)
theorem dL_law_555 : decode cL_law 555 = .ok (.aload_n 0, 1) := fo_42 (fw_get da_cL_law_14 8 rfl)
theorem dL_law_556 : decode cL_law 556 = .ok (.iload 4, 2) := fo_21 (fw_get da_cL_law_14 9 rfl)
theorem dL_law_558 : decode cL_law 558 = .ok (.iconst 1, 1) := fo_4 (fw_get da_cL_law_14 10 rfl)
theorem dL_law_559 : decode cL_law 559 = .ok (.iadd, 1) := fo_96 (fw_get da_cL_law_14 11 rfl)
theorem dL_law_560 : decode cL_law 560 = .ok (.iaload, 1) := fo_46 (fw_get da_cL_law_14 12 rfl)
theorem dL_law_561 : decode cL_law 561 = .ok (.invokevirtual 73, 3) := fo_182 (fw_get da_cL_law_14 13 rfl)
theorem dL_law_564 : decode cL_law 564 = .ok (.istore 6, 2) := fo_54 (fw_get da_cL_law_14 14 rfl)
theorem dL_law_566 : decode cL_law 566 = .ok (.goto 1722, 3) := fo_167 (fw_get da_cL_law_14 15 rfl) (by decide +kernel)
theorem dL_law_569 : decode cL_law 569 = .ok (.aload_n 1, 1) := fo_43 (fw_get da_cL_law_14 16 rfl)
theorem dL_law_570 : decode cL_law 570 = .ok (.aload_n 0, 1) := fo_42 (fw_get da_cL_law_14 17 rfl)
theorem dL_law_571 : decode cL_law 571 = .ok (.iload 4, 2) := fo_21 (fw_get da_cL_law_14 18 rfl)
theorem dL_law_573 : decode cL_law 573 = .ok (.iconst 1, 1) := fo_4 (fw_get da_cL_law_14 19 rfl)
def dt_cL_law_15 : List (Nat × Nat × Nat × Nat) := [(574, 96, 0, 0), (575, 46, 0, 0), (576, 42, 0, 0), (577, 21, 1, 4), (579, 5, 0, 0), (580, 96, 0, 0), (581, 46, 0, 0), (582, 42, 0, 0), (583, 21, 1, 4), (585, 6, 0, 0), (586, 96, 0, 0), (587, 46, 0, 0), (588, 182, 2, 74), (591, 87, 0, 0), (592, 44, 0, 0), (593, 42, 0, 0), (594, 21, 1, 4), (596, 4, 0, 0), (597, 96, 0, 0), (598, 46, 0, 0)]
theorem da_cL_law_15 : fw dt_cL_law_15 0 cL_law.data.toList = true := by decide +kernel
theorem dL_law_574 : decode cL_law 574 = .ok (.iadd, 1) := fo_96 (fw_get da_cL_law_15 0 rfl)
theorem dL_law_575 : decode cL_law 575 = .ok (.iaload, 1) := fo_46 (fw_get da_cL_law_15 1 rfl)
theorem dL_law_576 : decode cL_law 576 = .ok (.aload_n 0, 1) := fo_42 (fw_get da_cL_law_15 2 rfl)
theorem dL_law_577 : decode cL_law 577 = .ok (.iload 4, 2) := fo_21 (fw_get da_cL_law_15 3 rfl)
theorem dL_law_579 : decode cL_law 579 = .ok (.iconst 2, 1) := fo_5 (fw_get da_cL_law_15 4 rfl)
theorem dL_law_580 : decode cL_law 580 = .ok (.iadd, 1) := fo_96 (fw_get da_cL_law_15 5 rfl)
theorem dL_law_581 : decode cL_law 581 = .ok (.iaload, 1) := fo_46 (fw_get da_cL_law_15 6 rfl)
theorem dL_law_582 : decode cL_law 582 = .ok (.aload_n 0, 1) := fo_42 (fw_get da_cL_law_15 7 rfl)
theorem dL_law_583 : decode cL_law 583 = .ok (.iload 4, 2) := fo_21 (fw_get da_cL_law_15 8 rfl)
theorem dL_law_585 : decode cL_law 585 = .ok (.iconst 3, 1) := fo_6 (fw_get da_cL_law_15 9 rfl)
theorem dL_law_586 : decode cL_law 586 = .ok (.iadd, 1) := fo_96 (fw_get da_cL_law_15 10 rfl)
theorem dL_law_587 : decode cL_law 587 = .ok (.iaload, 1) := fo_46 (fw_get da_cL_law_15 11 rfl)
theorem dL_law_588 : decode cL_law 588 = .ok (.invokevirtual 74, 3) := fo_182 (fw_get da_cL_law_15 12 rfl)
theorem dL_law_591 : decode cL_law 591 = .ok (.pop, 1) := fo_87 (fw_get da_cL_law_15 13 rfl)
theorem dL_law_592 : decode cL_law 592 = .ok (.aload_n 2, 1) := fo_44 (fw_get da_cL_law_15 14 rfl)
theorem dL_law_593 : decode cL_law 593 = .ok (.aload_n 0, 1) := fo_42 (fw_get da_cL_law_15 15 rfl)
theorem dL_law_594 : decode cL_law 594 = .ok (.iload 4, 2) := fo_21 (fw_get da_cL_law_15 16 rfl)
theorem dL_law_596 : decode cL_law 596 = .ok (.iconst 1, 1) := fo_4 (fw_get da_cL_law_15 17 rfl)
theorem dL_law_597 : decode cL_law 597 = .ok (.iadd, 1) := fo_96 (fw_get da_cL_law_15 18 rfl)
theorem dL_law_598 : decode cL_law 598 = .ok (.iaload, 1) := fo_46 (fw_get da_cL_law_15 19 rfl)
def dt_cL_law_16 : List (Nat × Nat × Nat × Nat) := [(599, 42, 0, 0), (600, 21, 1, 4), (602, 5, 0, 0), (603, 96, 0, 0), (604, 46, 0, 0), (605, 42, 0, 0), (606, 21, 1, 4), (608, 6, 0, 0), (609, 96, 0, 0), (610, 46, 0, 0)]
theorem da_cL_law_16 : fw dt_cL_law_16 0 cL_law.data.toList = true := by decide +kernel
theorem dL_law_599 : decode cL_law 599 = .ok (.aload_n 0, 1) := fo_42 (fw_get da_cL_law_16 0 rfl)
theorem dL_law_600 : decode cL_law 600 = .ok (.iload 4, 2) := fo_21 (fw_get da_cL_law_16 1 rfl)
theorem dL_law_602 : decode cL_law 602 = .ok (.iconst 2, 1) := fo_5 (fw_get da_cL_law_16 2 rfl)
theorem dL_law_603 : decode cL_law 603 = .ok (.iadd, 1) := fo_96 (fw_get da_cL_law_16 3 rfl)
theorem dL_law_604 : decode cL_law 604 = .ok (.iaload, 1) := fo_46 (fw_get da_cL_law_16 4 rfl)
theorem dL_law_605 : decode cL_law 605 = .ok (.aload_n 0, 1) := fo_42 (fw_get da_cL_law_16 5 rfl)
theorem dL_law_606 : decode cL_law 606 = .ok (.iload 4, 2) := fo_21 (fw_get da_cL_law_16 6 rfl)
theorem dL_law_608 : decode cL_law 608 = .ok (.iconst 3, 1) := fo_6 (fw_get da_cL_law_16 7 rfl)
theorem dL_law_609 : decode cL_law 609 = .ok (.iadd, 1) := fo_96 (fw_get da_cL_law_16 8 rfl)
theorem dL_law_610 : decode cL_law 610 = .ok (.iaload, 1) := fo_46 (fw_get da_cL_law_16 9 rfl)


def dt_cL_law_17 : List (Nat × Nat × Nat × Nat) := [(611, 182, 2, 77), (614, 87, 0, 0), (615, 167, 2, 1673), (618, 43, 0, 0), (619, 42, 0, 0), (620, 21, 1, 4), (622, 4, 0, 0), (623, 96, 0, 0), (624, 46, 0, 0), (625, 42, 0, 0), (626, 21, 1, 4), (628, 5, 0, 0), (629, 96, 0, 0), (630, 46, 0, 0), (631, 182, 2, 78), (634, 87, 0, 0), (635, 44, 0, 0), (636, 42, 0, 0), (637, 21, 1, 4), (639, 4, 0, 0)]
theorem da_cL_law_17 : fw dt_cL_law_17 0 cL_law.data.toList = true := by decide +kernel
theorem dL_law_611 : decode cL_law 611 = .ok (.invokevirtual 77, 3) := fo_182 (fw_get da_cL_law_17 0 rfl)
theorem dL_law_614 : decode cL_law 614 = .ok (.pop, 1) := fo_87 (fw_get da_cL_law_17 1 rfl)
theorem dL_law_615 : decode cL_law 615 = .ok (.goto 1673, 3) := fo_167 (fw_get da_cL_law_17 2 rfl) (by decide +kernel)
theorem dL_law_618 : decode cL_law 618 = .ok (.aload_n 1, 1) := fo_43 (fw_get da_cL_law_17 3 rfl)
theorem dL_law_619 : decode cL_law 619 = .ok (.aload_n 0, 1) := fo_42 (fw_get da_cL_law_17 4 rfl)
theorem dL_law_620 : decode cL_law 620 = .ok (.iload 4, 2) := fo_21 (fw_get da_cL_law_17 5 rfl)
theorem dL_law_622 : decode cL_law 622 = .ok (.iconst 1, 1) := fo_4 (fw_get da_cL_law_17 6 rfl)
theorem dL_law_623 : decode cL_law 623 = .ok (.iadd, 1) := fo_96 (fw_get da_cL_law_17 7 rfl)
theorem dL_law_624 : decode cL_law 624 = .ok (.iaload, 1) := fo_46 (fw_get da_cL_law_17 8 rfl)
theorem dL_law_625 : decode cL_law 625 = .ok (.aload_n 0, 1) := fo_42 (fw_get da_cL_law_17 9 rfl)
theorem dL_law_626 : decode cL_law 626 = .ok (.iload 4, 2) := fo_21 (fw_get da_cL_law_17 10 rfl)
theorem dL_law_628 : decode cL_law 628 = .ok (.iconst 2, 1) := fo_5 (fw_get da_cL_law_17 11 rfl)
theorem dL_law_629 : decode cL_law 629 = .ok (.iadd, 1) := fo_96 (fw_get da_cL_law_17 12 rfl)
theorem dL_law_630 : decode cL_law 630 = .ok (.iaload, 1) := fo_46 (fw_get da_cL_law_17 13 rfl)
theorem dL_law_631 : decode cL_law 631 = .ok (.invokevirtual 78, 3) := fo_182 (fw_get da_cL_law_17 14 rfl)
theorem dL_law_634 : decode cL_law 634 = .ok (.pop, 1) := fo_87 (fw_get da_cL_law_17 15 rfl)
theorem dL_law_635 : decode cL_law 635 = .ok (.aload_n 2, 1) := fo_44 (fw_get da_cL_law_17 16 rfl)
theorem dL_law_636 : decode cL_law 636 = .ok (.aload_n 0, 1) := fo_42 (fw_get da_cL_law_17 17 rfl)
theorem dL_law_637 : decode cL_law 637 = .ok (.iload 4, 2) := fo_21 (fw_get da_cL_law_17 18 rfl)
theorem dL_law_639 : decode cL_law 639 = .ok (.iconst 1, 1) := fo_4 (fw_get da_cL_law_17 19 rfl)
def dt_cL_law_18 : List (Nat × Nat × Nat × Nat) := [(640, 96, 0, 0), (641, 46, 0, 0), (642, 42, 0, 0), (643, 21, 1, 4), (645, 5, 0, 0), (646, 96, 0, 0), (647, 46, 0, 0), (648, 182, 2, 81), (651, 87, 0, 0), (652, 167, 2, 1636), (655, 43, 0, 0), (656, 182, 2, 82), (659, 87, 0, 0), (660, 44, 0, 0), (661, 182, 2, 86), (664, 87, 0, 0), (665, 167, 2, 1623), (668, 43, 0, 0), (669, 42, 0, 0), (670, 21, 1, 4)]
theorem da_cL_law_18 : fw dt_cL_law_18 0 cL_law.data.toList = true := by decide +kernel
theorem dL_law_640 : decode cL_law 640 = .ok (.iadd, 1) := fo_96 (fw_get da_cL_law_18 0 rfl)
theorem dL_law_641 : decode cL_law 641 = .ok (.iaload, 1) := fo_46 (fw_get da_cL_law_18 1 rfl)
theorem dL_law_642 : decode cL_law 642 = .ok (.aload_n 0, 1) := fo_42 (fw_get da_cL_law_18 2 rfl)
theorem dL_law_643 : decode cL_law 643 = .ok (.iload 4, 2) := fo_21 (fw_get da_cL_law_18 3 rfl)
theorem dL_law_645 : decode cL_law 645 = .ok (.iconst 2, 1) := fo_5 (fw_get da_cL_law_18 4 rfl)
theorem dL_law_646 : decode cL_law 646 = .ok (.iadd, 1) := fo_96 (fw_get da_cL_law_18 5 rfl)
theorem dL_law_647 : decode cL_law 647 = .ok (.iaload, 1) := fo_46 (fw_get da_cL_law_18 6 rfl)
theorem dL_law_648 : decode cL_law 648 = .ok (.invokevirtual 81, 3) := fo_182 (fw_get da_cL_law_18 7 rfl)
theorem dL_law_651 : decode cL_law 651 = .ok (.pop, 1) := fo_87 (fw_get da_cL_law_18 8 rfl)
theorem dL_law_652 : decode cL_law 652 = .ok (.goto 1636, 3) := fo_167 (fw_get da_cL_law_18 9 rfl) (by decide +kernel)
theorem dL_law_655 : decode cL_law 655 = .ok (.aload_n 1, 1) := fo_43 (fw_get da_cL_law_18 10 rfl)
theorem dL_law_656 : decode cL_law 656 = .ok (.invokevirtual 82, 3) := fo_182 (fw_get da_cL_law_18 11 rfl)
theorem dL_law_659 : decode cL_law 659 = .ok (.pop, 1) := fo_87 (fw_get da_cL_law_18 12 rfl)
theorem dL_law_660 : decode cL_law 660 = .ok (.aload_n 2, 1) := fo_44 (fw_get da_cL_law_18 13 rfl)
theorem dL_law_661 : decode cL_law 661 = .ok (.invokevirtual 86, 3) := fo_182 (fw_get da_cL_law_18 14 rfl)
theorem dL_law_664 : decode cL_law 664 = .ok (.pop, 1) := fo_87 (fw_get da_cL_law_18 15 rfl)
theorem dL_law_665 : decode cL_law 665 = .ok (.goto 1623, 3) := fo_167 (fw_get da_cL_law_18 16 rfl) (by decide +kernel)
theorem dL_law_668 : decode cL_law 668 = .ok (.aload_n 1, 1) := fo_43 (fw_get da_cL_law_18 17 rfl)
theorem dL_law_669 : decode cL_law 669 = .ok (.aload_n 0, 1) := fo_42 (fw_get da_cL_law_18 18 rfl)
theorem dL_law_670 : decode cL_law 670 = .ok (.iload 4, 2) := fo_21 (fw_get da_cL_law_18 19 rfl)
def dt_cL_law_19 : List (Nat × Nat × Nat × Nat) := [(672, 4, 0, 0), (673, 96, 0, 0), (674, 46, 0, 0), (675, 42, 0, 0), (676, 21, 1, 4), (678, 5, 0, 0), (679, 96, 0, 0), (680, 46, 0, 0), (681, 182, 2, 87), (684, 87, 0, 0), (685, 44, 0, 0), (686, 42, 0, 0), (687, 21, 1, 4), (689, 4, 0, 0), (690, 96, 0, 0), (691, 46, 0, 0), (692, 42, 0, 0), (693, 21, 1, 4), (695, 5, 0, 0), (696, 96, 0, 0)]
theorem da_cL_law_19 : fw dt_cL_law_19 0 cL_law.data.toList = true := by decide +kernel
theorem dL_law_672 : decode cL_law 672 = .ok (.iconst 1, 1) := fo_4 (fw_get da_cL_law_19 0 rfl)
theorem dL_law_673 : decode cL_law 673 = .ok (.iadd, 1) := fo_96 (fw_get da_cL_law_19 1 rfl)
theorem dL_law_674 : decode cL_law 674 = .ok (.iaload, 1) := fo_46 (fw_get da_cL_law_19 2 rfl)
theorem dL_law_675 : decode cL_law 675 = .ok (.aload_n 0, 1) := fo_42 (fw_get da_cL_law_19 3 rfl)
theorem dL_law_676 : decode cL_law 676 = .ok (.iload 4, 2) := fo_21 (fw_get da_cL_law_19 4 rfl)
theorem dL_law_678 : decode cL_law 678 = .ok (.iconst 2, 1) := fo_5 (fw_get da_cL_law_19 5 rfl)
theorem dL_law_679 : decode cL_law 679 = .ok (.iadd, 1) := fo_96 (fw_get da_cL_law_19 6 rfl)
theorem dL_law_680 : decode cL_law 680 = .ok (.iaload, 1) := fo_46 (fw_get da_cL_law_19 7 rfl)
theorem dL_law_681 : decode cL_law 681 = .ok (.invokevirtual 87, 3) := fo_182 (fw_get da_cL_law_19 8 rfl)
theorem dL_law_684 : decode cL_law 684 = .ok (.pop, 1) := fo_87 (fw_get da_cL_law_19 9 rfl)
theorem dL_law_685 : decode cL_law 685 = .ok (.aload_n 2, 1) := fo_44 (fw_get da_cL_law_19 10 rfl)
theorem dL_law_686 : decode cL_law 686 = .ok (.aload_n 0, 1) := fo_42 (fw_get da_cL_law_19 11 rfl)
theorem dL_law_687 : decode cL_law 687 = .ok (.iload 4, 2) := fo_21 (fw_get da_cL_law_19 12 rfl)
theorem dL_law_689 : decode cL_law 689 = .ok (.iconst 1, 1) := fo_4 (fw_get da_cL_law_19 13 rfl)
theorem dL_law_690 : decode cL_law 690 = .ok (.iadd, 1) := fo_96 (fw_get da_cL_law_19 14 rfl)
theorem dL_law_691 : decode cL_law 691 = .ok (.iaload, 1) := fo_46 (fw_get da_cL_law_19 15 rfl)
theorem dL_law_692 : decode cL_law 692 = .ok (.aload_n 0, 1) := fo_42 (fw_get da_cL_law_19 16 rfl)
theorem dL_law_693 : decode cL_law 693 = .ok (.iload 4, 2) := fo_21 (fw_get da_cL_law_19 17 rfl)
theorem dL_law_695 : decode cL_law 695 = .ok (.iconst 2, 1) := fo_5 (fw_get da_cL_law_19 18 rfl)
theorem dL_law_696 : decode cL_law 696 = .ok (.iadd, 1) := fo_96 (fw_get da_cL_law_19 19 rfl)
def dt_cL_law_20 : List (Nat × Nat × Nat × Nat) := [(697, 46, 0, 0), (698, 182, 2, 90), (701, 87, 0, 0), (702, 167, 2, 1586), (705, 43, 0, 0), (706, 42, 0, 0), (707, 21, 1, 4), (709, 4, 0, 0), (710, 96, 0, 0), (711, 46, 0, 0), (712, 42, 0, 0), (713, 21, 1, 4), (715, 5, 0, 0), (716, 96, 0, 0), (717, 46, 0, 0), (718, 42, 0, 0), (719, 21, 1, 4), (721, 6, 0, 0), (722, 96, 0, 0), (723, 46, 0, 0)]
theorem da_cL_law_20 : fw dt_cL_law_20 0 cL_law.data.toList = true := by decide +kernel
theorem dL_law_697 : decode cL_law 697 = .ok (.iaload, 1) := fo_46 (fw_get da_cL_law_20 0 rfl)
theorem dL_law_698 : decode cL_law 698 = .ok (.invokevirtual 90, 3) := fo_182 (fw_get da_cL_law_20 1 rfl)
theorem dL_law_701 : decode cL_law 701 = .ok (.pop, 1) := fo_87 (fw_get da_cL_law_20 2 rfl)
theorem dL_law_702 : decode cL_law 702 = .ok (.goto 1586, 3) := fo_167 (fw_get da_cL_law_20 3 rfl) (by decide +kernel)
theorem dL_law_705 : decode cL_law 705 = .ok (.aload_n 1, 1) := fo_43 (fw_get da_cL_law_20 4 rfl)
theorem dL_law_706 : decode cL_law 706 = .ok (.aload_n 0, 1) := fo_42 (fw_get da_cL_law_20 5 rfl)
theorem dL_law_707 : decode cL_law 707 = .ok (.iload 4, 2) := fo_21 (fw_get da_cL_law_20 6 rfl)
theorem dL_law_709 : decode cL_law 709 = .ok (.iconst 1, 1) := fo_4 (fw_get da_cL_law_20 7 rfl)
theorem dL_law_710 : decode cL_law 710 = .ok (.iadd, 1) := fo_96 (fw_get da_cL_law_20 8 rfl)
theorem dL_law_711 : decode cL_law 711 = .ok (.iaload, 1) := fo_46 (fw_get da_cL_law_20 9 rfl)
theorem dL_law_712 : decode cL_law 712 = .ok (.aload_n 0, 1) := fo_42 (fw_get da_cL_law_20 10 rfl)
theorem dL_law_713 : decode cL_law 713 = .ok (.iload 4, 2) := fo_21 (fw_get da_cL_law_20 11 rfl)
theorem dL_law_715 : decode cL_law 715 = .ok (.iconst 2, 1) := fo_5 (fw_get da_cL_law_20 12 rfl)
theorem dL_law_716 : decode cL_law 716 = .ok (.iadd, 1) := fo_96 (fw_get da_cL_law_20 13 rfl)
theorem dL_law_717 : decode cL_law 717 = .ok (.iaload, 1) := fo_46 (fw_get da_cL_law_20 14 rfl)
theorem dL_law_718 : decode cL_law 718 = .ok (.aload_n 0, 1) := fo_42 (fw_get da_cL_law_20 15 rfl)
theorem dL_law_719 : decode cL_law 719 = .ok (.iload 4, 2) := fo_21 (fw_get da_cL_law_20 16 rfl)
theorem dL_law_721 : decode cL_law 721 = .ok (.iconst 3, 1) := fo_6 (fw_get da_cL_law_20 17 rfl)
theorem dL_law_722 : decode cL_law 722 = .ok (.iadd, 1) := fo_96 (fw_get da_cL_law_20 18 rfl)
theorem dL_law_723 : decode cL_law 723 = .ok (.iaload, 1) := fo_46 (fw_get da_cL_law_20 19 rfl)
def dt_cL_law_21 : List (Nat × Nat × Nat × Nat) := [(724, 42, 0, 0), (725, 21, 1, 4), (727, 7, 0, 0), (728, 96, 0, 0), (729, 46, 0, 0), (730, 45, 0, 0), (731, 184, 2, 91), (734, 54, 1, 5), (736, 44, 0, 0), (737, 42, 0, 0), (738, 21, 1, 4), (740, 4, 0, 0), (741, 96, 0, 0), (742, 46, 0, 0), (743, 42, 0, 0), (744, 21, 1, 4), (746, 5, 0, 0), (747, 96, 0, 0), (748, 46, 0, 0), (749, 42, 0, 0)]
theorem da_cL_law_21 : fw dt_cL_law_21 0 cL_law.data.toList = true := by decide +kernel
theorem dL_law_724 : decode cL_law 724 = .ok (.aload_n 0, 1) := fo_42 (fw_get da_cL_law_21 0 rfl)
theorem dL_law_725 : decode cL_law 725 = .ok (.iload 4, 2) := fo_21 (fw_get da_cL_law_21 1 rfl)
theorem dL_law_727 : decode cL_law 727 = .ok (.iconst 4, 1) := fo_7 (fw_get da_cL_law_21 2 rfl)
theorem dL_law_728 : decode cL_law 728 = .ok (.iadd, 1) := fo_96 (fw_get da_cL_law_21 3 rfl)
theorem dL_law_729 : decode cL_law 729 = .ok (.iaload, 1) := fo_46 (fw_get da_cL_law_21 4 rfl)
theorem dL_law_730 : decode cL_law 730 = .ok (.aload_n 3, 1) := fo_45 (fw_get da_cL_law_21 5 rfl)
theorem dL_law_731 : decode cL_law 731 = .ok (.invokestatic 91, 3) := fo_184 (fw_get da_cL_law_21 6 rfl)
theorem dL_law_734 : decode cL_law 734 = .ok (.istore 5, 2) := fo_54 (fw_get da_cL_law_21 7 rfl)
theorem dL_law_736 : decode cL_law 736 = .ok (.aload_n 2, 1) := fo_44 (fw_get da_cL_law_21 8 rfl)
theorem dL_law_737 : decode cL_law 737 = .ok (.aload_n 0, 1) := fo_42 (fw_get da_cL_law_21 9 rfl)
theorem dL_law_738 : decode cL_law 738 = .ok (.iload 4, 2) := fo_21 (fw_get da_cL_law_21 10 rfl)
theorem dL_law_740 : decode cL_law 740 = .ok (.iconst 1, 1) := fo_4 (fw_get da_cL_law_21 11 rfl)
theorem dL_law_741 : decode cL_law 741 = .ok (.iadd, 1) := fo_96 (fw_get da_cL_law_21 12 rfl)
theorem dL_law_742 : decode cL_law 742 = .ok (.iaload, 1) := fo_46 (fw_get da_cL_law_21 13 rfl)
theorem dL_law_743 : decode cL_law 743 = .ok (.aload_n 0, 1) := fo_42 (fw_get da_cL_law_21 14 rfl)
theorem dL_law_744 : decode cL_law 744 = .ok (.iload 4, 2) := fo_21 (fw_get da_cL_law_21 15 rfl)
theorem dL_law_746 : decode cL_law 746 = .ok (.iconst 2, 1) := fo_5 (fw_get da_cL_law_21 16 rfl)
theorem dL_law_747 : decode cL_law 747 = .ok (.iadd, 1) := fo_96 (fw_get da_cL_law_21 17 rfl)
theorem dL_law_748 : decode cL_law 748 = .ok (.iaload, 1) := fo_46 (fw_get da_cL_law_21 18 rfl)
theorem dL_law_749 : decode cL_law 749 = .ok (.aload_n 0, 1) := fo_42 (fw_get da_cL_law_21 19 rfl)
def dt_cL_law_22 : List (Nat × Nat × Nat × Nat) := [(750, 21, 1, 4), (752, 6, 0, 0), (753, 96, 0, 0), (754, 46, 0, 0), (755, 42, 0, 0), (756, 21, 1, 4), (758, 7, 0, 0), (759, 96, 0, 0), (760, 46, 0, 0), (761, 182, 2, 94), (764, 54, 1, 6), (766, 167, 2, 1522), (769, 43, 0, 0), (770, 42, 0, 0), (771, 21, 1, 4), (773, 4, 0, 0), (774, 96, 0, 0), (775, 46, 0, 0), (776, 42, 0, 0), (777, 21, 1, 4)]
theorem da_cL_law_22 : fw dt_cL_law_22 0 cL_law.data.toList = true := by decide +kernel
theorem dL_law_750 : decode cL_law 750 = .ok (.iload 4, 2) := fo_21 (fw_get da_cL_law_22 0 rfl)
theorem dL_law_752 : decode cL_law 752 = .ok (.iconst 3, 1) := fo_6 (fw_get da_cL_law_22 1 rfl)
theorem dL_law_753 : decode cL_law 753 = .ok (.iadd, 1) := fo_96 (fw_get da_cL_law_22 2 rfl)
theorem dL_law_754 : decode cL_law 754 = .ok (.iaload, 1) := fo_46 (fw_get da_cL_law_22 3 rfl)
theorem dL_law_755 : decode cL_law 755 = .ok (.aload_n 0, 1) := fo_42 (fw_get da_cL_law_22 4 rfl)
theorem dL_law_756 : decode cL_law 756 = .ok (.iload 4, 2) := fo_21 (fw_get da_cL_law_22 5 rfl)
theorem dL_law_758 : decode cL_law 758 = .ok (.iconst 4, 1) := fo_7 (fw_get da_cL_law_22 6 rfl)
theorem dL_law_759 : decode cL_law 759 = .ok (.iadd, 1) := fo_96 (fw_get da_cL_law_22 7 rfl)
theorem dL_law_760 : decode cL_law 760 = .ok (.iaload, 1) := fo_46 (fw_get da_cL_law_22 8 rfl)
theorem dL_law_761 : decode cL_law 761 = .ok (.invokevirtual 94, 3) := fo_182 (fw_get da_cL_law_22 9 rfl)
theorem dL_law_764 : decode cL_law 764 = .ok (.istore 6, 2) := fo_54 (fw_get da_cL_law_22 10 rfl)
theorem dL_law_766 : decode cL_law 766 = .ok (.goto 1522, 3) := fo_167 (fw_get da_cL_law_22 11 rfl) (by decide +kernel)
theorem dL_law_769 : decode cL_law 769 = .ok (.aload_n 1, 1) := fo_43 (fw_get da_cL_law_22 12 rfl)
theorem dL_law_770 : decode cL_law 770 = .ok (.aload_n 0, 1) := fo_42 (fw_get da_cL_law_22 13 rfl)
theorem dL_law_771 : decode cL_law 771 = .ok (.iload 4, 2) := fo_21 (fw_get da_cL_law_22 14 rfl)
theorem dL_law_773 : decode cL_law 773 = .ok (.iconst 1, 1) := fo_4 (fw_get da_cL_law_22 15 rfl)
theorem dL_law_774 : decode cL_law 774 = .ok (.iadd, 1) := fo_96 (fw_get da_cL_law_22 16 rfl)
theorem dL_law_775 : decode cL_law 775 = .ok (.iaload, 1) := fo_46 (fw_get da_cL_law_22 17 rfl)
theorem dL_law_776 : decode cL_law 776 = .ok (.aload_n 0, 1) := fo_42 (fw_get da_cL_law_22 18 rfl)
theorem dL_law_777 : decode cL_law 777 = .ok (.iload 4, 2) := fo_21 (fw_get da_cL_law_22 19 rfl)
def dt_cL_law_23 : List (Nat × Nat × Nat × Nat) := [(779, 5, 0, 0), (780, 96, 0, 0), (781, 46, 0, 0), (782, 182, 2, 95), (785, 87, 0, 0), (786, 44, 0, 0), (787, 42, 0, 0), (788, 21, 1, 4), (790, 4, 0, 0), (791, 96, 0, 0), (792, 46, 0, 0), (793, 42, 0, 0), (794, 21, 1, 4), (796, 5, 0, 0), (797, 96, 0, 0), (798, 46, 0, 0), (799, 182, 2, 98), (802, 87, 0, 0), (803, 167, 2, 1485), (806, 43, 0, 0)]
theorem da_cL_law_23 : fw dt_cL_law_23 0 cL_law.data.toList = true := by decide +kernel
theorem dL_law_779 : decode cL_law 779 = .ok (.iconst 2, 1) := fo_5 (fw_get da_cL_law_23 0 rfl)
theorem dL_law_780 : decode cL_law 780 = .ok (.iadd, 1) := fo_96 (fw_get da_cL_law_23 1 rfl)
theorem dL_law_781 : decode cL_law 781 = .ok (.iaload, 1) := fo_46 (fw_get da_cL_law_23 2 rfl)
theorem dL_law_782 : decode cL_law 782 = .ok (.invokevirtual 95, 3) := fo_182 (fw_get da_cL_law_23 3 rfl)
theorem dL_law_785 : decode cL_law 785 = .ok (.pop, 1) := fo_87 (fw_get da_cL_law_23 4 rfl)
theorem dL_law_786 : decode cL_law 786 = .ok (.aload_n 2, 1) := fo_44 (fw_get da_cL_law_23 5 rfl)
theorem dL_law_787 : decode cL_law 787 = .ok (.aload_n 0, 1) := fo_42 (fw_get da_cL_law_23 6 rfl)
theorem dL_law_788 : decode cL_law 788 = .ok (.iload 4, 2) := fo_21 (fw_get da_cL_law_23 7 rfl)
theorem dL_law_790 : decode cL_law 790 = .ok (.iconst 1, 1) := fo_4 (fw_get da_cL_law_23 8 rfl)
theorem dL_law_791 : decode cL_law 791 = .ok (.iadd, 1) := fo_96 (fw_get da_cL_law_23 9 rfl)
theorem dL_law_792 : decode cL_law 792 = .ok (.iaload, 1) := fo_46 (fw_get da_cL_law_23 10 rfl)
theorem dL_law_793 : decode cL_law 793 = .ok (.aload_n 0, 1) := fo_42 (fw_get da_cL_law_23 11 rfl)
theorem dL_law_794 : decode cL_law 794 = .ok (.iload 4, 2) := fo_21 (fw_get da_cL_law_23 12 rfl)
theorem dL_law_796 : decode cL_law 796 = .ok (.iconst 2, 1) := fo_5 (fw_get da_cL_law_23 13 rfl)
theorem dL_law_797 : decode cL_law 797 = .ok (.iadd, 1) := fo_96 (fw_get da_cL_law_23 14 rfl)
theorem dL_law_798 : decode cL_law 798 = .ok (.iaload, 1) := fo_46 (fw_get da_cL_law_23 15 rfl)
theorem dL_law_799 : decode cL_law 799 = .ok (.invokevirtual 98, 3) := fo_182 (fw_get da_cL_law_23 16 rfl)
theorem dL_law_802 : decode cL_law 802 = .ok (.pop, 1) := fo_87 (fw_get da_cL_law_23 17 rfl)
theorem dL_law_803 : decode cL_law 803 = .ok (.goto 1485, 3) := fo_167 (fw_get da_cL_law_23 18 rfl) (by decide +kernel)
theorem dL_law_806 : decode cL_law 806 = .ok (.aload_n 1, 1) := fo_43 (fw_get da_cL_law_23 19 rfl)
def dt_cL_law_24 : List (Nat × Nat × Nat × Nat) := [(807, 42, 0, 0), (808, 21, 1, 4), (810, 4, 0, 0), (811, 96, 0, 0), (812, 46, 0, 0), (813, 42, 0, 0), (814, 21, 1, 4), (816, 5, 0, 0), (817, 96, 0, 0), (818, 46, 0, 0)]
theorem da_cL_law_24 : fw dt_cL_law_24 0 cL_law.data.toList = true := by decide +kernel
theorem dL_law_807 : decode cL_law 807 = .ok (.aload_n 0, 1) := fo_42 (fw_get da_cL_law_24 0 rfl)
theorem dL_law_808 : decode cL_law 808 = .ok (.iload 4, 2) := fo_21 (fw_get da_cL_law_24 1 rfl)
theorem dL_law_810 : decode cL_law 810 = .ok (.iconst 1, 1) := fo_4 (fw_get da_cL_law_24 2 rfl)
theorem dL_law_811 : decode cL_law 811 = .ok (.iadd, 1) := fo_96 (fw_get da_cL_law_24 3 rfl)
theorem dL_law_812 : decode cL_law 812 = .ok (.iaload, 1) := fo_46 (fw_get da_cL_law_24 4 rfl)
theorem dL_law_813 : decode cL_law 813 = .ok (.aload_n 0, 1) := fo_42 (fw_get da_cL_law_24 5 rfl)
theorem dL_law_814 : decode cL_law 814 = .ok (.iload 4, 2) := fo_21 (fw_get da_cL_law_24 6 rfl)
theorem dL_law_816 : decode cL_law 816 = .ok (.iconst 2, 1) := fo_5 (fw_get da_cL_law_24 7 rfl)
theorem dL_law_817 : decode cL_law 817 = .ok (.iadd, 1) := fo_96 (fw_get da_cL_law_24 8 rfl)
theorem dL_law_818 : decode cL_law 818 = .ok (.iaload, 1) := fo_46 (fw_get da_cL_law_24 9 rfl)


def dt_cL_law_25 : List (Nat × Nat × Nat × Nat) := [(819, 182, 2, 99), (822, 87, 0, 0), (823, 44, 0, 0), (824, 42, 0, 0), (825, 21, 1, 4), (827, 4, 0, 0), (828, 96, 0, 0), (829, 46, 0, 0), (830, 42, 0, 0), (831, 21, 1, 4), (833, 5, 0, 0), (834, 96, 0, 0), (835, 46, 0, 0), (836, 182, 2, 102), (839, 87, 0, 0), (840, 167, 2, 1448), (843, 43, 0, 0), (844, 42, 0, 0), (845, 21, 1, 4), (847, 4, 0, 0)]
theorem da_cL_law_25 : fw dt_cL_law_25 0 cL_law.data.toList = true := by decide +kernel
theorem dL_law_819 : decode cL_law 819 = .ok (.invokevirtual 99, 3) := fo_182 (fw_get da_cL_law_25 0 rfl)
theorem dL_law_822 : decode cL_law 822 = .ok (.pop, 1) := fo_87 (fw_get da_cL_law_25 1 rfl)
theorem dL_law_823 : decode cL_law 823 = .ok (.aload_n 2, 1) := fo_44 (fw_get da_cL_law_25 2 rfl)
theorem dL_law_824 : decode cL_law 824 = .ok (.aload_n 0, 1) := fo_42 (fw_get da_cL_law_25 3 rfl)
theorem dL_law_825 : decode cL_law 825 = .ok (.iload 4, 2) := fo_21 (fw_get da_cL_law_25 4 rfl)
theorem dL_law_827 : decode cL_law 827 = .ok (.iconst 1, 1) := fo_4 (fw_get da_cL_law_25 5 rfl)
theorem dL_law_828 : decode cL_law 828 = .ok (.iadd, 1) := fo_96 (fw_get da_cL_law_25 6 rfl)
theorem dL_law_829 : decode cL_law 829 = .ok (.iaload, 1) := fo_46 (fw_get da_cL_law_25 7 rfl)
theorem dL_law_830 : decode cL_law 830 = .ok (.aload_n 0, 1) := fo_42 (fw_get da_cL_law_25 8 rfl)
theorem dL_law_831 : decode cL_law 831 = .ok (.iload 4, 2) := fo_21 (fw_get da_cL_law_25 9 rfl)
theorem dL_law_833 : decode cL_law 833 = .ok (.iconst 2, 1) := fo_5 (fw_get da_cL_law_25 10 rfl)
theorem dL_law_834 : decode cL_law 834 = .ok (.iadd, 1) := fo_96 (fw_get da_cL_law_25 11 rfl)
theorem dL_law_835 : decode cL_law 835 = .ok (.iaload, 1) := fo_46 (fw_get da_cL_law_25 12 rfl)
theorem dL_law_836 : decode cL_law 836 = .ok (.invokevirtual 102, 3) := fo_182 (fw_get da_cL_law_25 13 rfl)
theorem dL_law_839 : decode cL_law 839 = .ok (.pop, 1) := fo_87 (fw_get da_cL_law_25 14 rfl)
theorem dL_law_840 : decode cL_law 840 = .ok (.goto 1448, 3) := fo_167 (fw_get da_cL_law_25 15 rfl) (by decide +kernel)
theorem dL_law_843 : decode cL_law 843 = .ok (.aload_n 1, 1) := fo_43 (fw_get da_cL_law_25 16 rfl)
theorem dL_law_844 : decode cL_law 844 = .ok (.aload_n 0, 1) := fo_42 (fw_get da_cL_law_25 17 rfl)
theorem dL_law_845 : decode cL_law 845 = .ok (.iload 4, 2) := fo_21 (fw_get da_cL_law_25 18 rfl)
theorem dL_law_847 : decode cL_law 847 = .ok (.iconst 1, 1) := fo_4 (fw_get da_cL_law_25 19 rfl)
def dt_cL_law_26 : List (Nat × Nat × Nat × Nat) := [(848, 96, 0, 0), (849, 46, 0, 0), (850, 42, 0, 0), (851, 21, 1, 4), (853, 5, 0, 0), (854, 96, 0, 0), (855, 46, 0, 0), (856, 42, 0, 0), (857, 21, 1, 4), (859, 6, 0, 0), (860, 96, 0, 0), (861, 46, 0, 0), (862, 182, 2, 103), (865, 87, 0, 0), (866, 44, 0, 0), (867, 42, 0, 0), (868, 21, 1, 4), (870, 4, 0, 0), (871, 96, 0, 0), (872, 46, 0, 0)]
theorem da_cL_law_26 : fw dt_cL_law_26 0 cL_law.data.toList = true := by decide +kernel
theorem dL_law_848 : decode cL_law 848 = .ok (.iadd, 1) := fo_96 (fw_get da_cL_law_26 0 rfl)
theorem dL_law_849 : decode cL_law 849 = .ok (.iaload, 1) := fo_46 (fw_get da_cL_law_26 1 rfl)
theorem dL_law_850 : decode cL_law 850 = .ok (.aload_n 0, 1) := fo_42 (fw_get da_cL_law_26 2 rfl)
theorem dL_law_851 : decode cL_law 851 = .ok (.iload 4, 2) := fo_21 (fw_get da_cL_law_26 3 rfl)
theorem dL_law_853 : decode cL_law 853 = .ok (.iconst 2, 1) := fo_5 (fw_get da_cL_law_26 4 rfl)
theorem dL_law_854 : decode cL_law 854 = .ok (.iadd, 1) := fo_96 (fw_get da_cL_law_26 5 rfl)
theorem dL_law_855 : decode cL_law 855 = .ok (.iaload, 1) := fo_46 (fw_get da_cL_law_26 6 rfl)
theorem dL_law_856 : decode cL_law 856 = .ok (.aload_n 0, 1) := fo_42 (fw_get da_cL_law_26 7 rfl)
theorem dL_law_857 : decode cL_law 857 = .ok (.iload 4, 2) := fo_21 (fw_get da_cL_law_26 8 rfl)
theorem dL_law_859 : decode cL_law 859 = .ok (.iconst 3, 1) := fo_6 (fw_get da_cL_law_26 9 rfl)
theorem dL_law_860 : decode cL_law 860 = .ok (.iadd, 1) := fo_96 (fw_get da_cL_law_26 10 rfl)
theorem dL_law_861 : decode cL_law 861 = .ok (.iaload, 1) := fo_46 (fw_get da_cL_law_26 11 rfl)
theorem dL_law_862 : decode cL_law 862 = .ok (.invokevirtual 103, 3) := fo_182 (fw_get da_cL_law_26 12 rfl)
theorem dL_law_865 : decode cL_law 865 = .ok (.pop, 1) := fo_87 (fw_get da_cL_law_26 13 rfl)
theorem dL_law_866 : decode cL_law 866 = .ok (.aload_n 2, 1) := fo_44 (fw_get da_cL_law_26 14 rfl)
theorem dL_law_867 : decode cL_law 867 = .ok (.aload_n 0, 1) := fo_42 (fw_get da_cL_law_26 15 rfl)
theorem dL_law_868 : decode cL_law 868 = .ok (.iload 4, 2) := fo_21 (fw_get da_cL_law_26 16 rfl)
theorem dL_law_870 : decode cL_law 870 = .ok (.iconst 1, 1) := fo_4 (fw_get da_cL_law_26 17 rfl)
theorem dL_law_871 : decode cL_law 871 = .ok (.iadd, 1) := fo_96 (fw_get da_cL_law_26 18 rfl)
theorem dL_law_872 : decode cL_law 872 = .ok (.iaload, 1) := fo_46 (fw_get da_cL_law_26 19 rfl)
def dt_cL_law_27 : List (Nat × Nat × Nat × Nat) := [(873, 42, 0, 0), (874, 21, 1, 4), (876, 5, 0, 0), (877, 96, 0, 0), (878, 46, 0, 0), (879, 42, 0, 0), (880, 21, 1, 4), (882, 6, 0, 0), (883, 96, 0, 0), (884, 46, 0, 0), (885, 182, 2, 106), (888, 87, 0, 0), (889, 167, 2, 1399), (892, 43, 0, 0), (893, 42, 0, 0), (894, 21, 1, 4), (896, 4, 0, 0), (897, 96, 0, 0), (898, 46, 0, 0), (899, 182, 2, 107)]
theorem da_cL_law_27 : fw dt_cL_law_27 0 cL_law.data.toList = true := by decide +kernel
theorem dL_law_873 : decode cL_law 873 = .ok (.aload_n 0, 1) := fo_42 (fw_get da_cL_law_27 0 rfl)
theorem dL_law_874 : decode cL_law 874 = .ok (.iload 4, 2) := fo_21 (fw_get da_cL_law_27 1 rfl)
theorem dL_law_876 : decode cL_law 876 = .ok (.iconst 2, 1) := fo_5 (fw_get da_cL_law_27 2 rfl)
theorem dL_law_877 : decode cL_law 877 = .ok (.iadd, 1) := fo_96 (fw_get da_cL_law_27 3 rfl)
theorem dL_law_878 : decode cL_law 878 = .ok (.iaload, 1) := fo_46 (fw_get da_cL_law_27 4 rfl)
theorem dL_law_879 : decode cL_law 879 = .ok (.aload_n 0, 1) := fo_42 (fw_get da_cL_law_27 5 rfl)
theorem dL_law_880 : decode cL_law 880 = .ok (.iload 4, 2) := fo_21 (fw_get da_cL_law_27 6 rfl)
theorem dL_law_882 : decode cL_law 882 = .ok (.iconst 3, 1) := fo_6 (fw_get da_cL_law_27 7 rfl)
theorem dL_law_883 : decode cL_law 883 = .ok (.iadd, 1) := fo_96 (fw_get da_cL_law_27 8 rfl)
theorem dL_law_884 : decode cL_law 884 = .ok (.iaload, 1) := fo_46 (fw_get da_cL_law_27 9 rfl)
theorem dL_law_885 : decode cL_law 885 = .ok (.invokevirtual 106, 3) := fo_182 (fw_get da_cL_law_27 10 rfl)
theorem dL_law_888 : decode cL_law 888 = .ok (.pop, 1) := fo_87 (fw_get da_cL_law_27 11 rfl)
theorem dL_law_889 : decode cL_law 889 = .ok (.goto 1399, 3) := fo_167 (fw_get da_cL_law_27 12 rfl) (by decide +kernel)
theorem dL_law_892 : decode cL_law 892 = .ok (.aload_n 1, 1) := fo_43 (fw_get da_cL_law_27 13 rfl)
theorem dL_law_893 : decode cL_law 893 = .ok (.aload_n 0, 1) := fo_42 (fw_get da_cL_law_27 14 rfl)
theorem dL_law_894 : decode cL_law 894 = .ok (.iload 4, 2) := fo_21 (fw_get da_cL_law_27 15 rfl)
theorem dL_law_896 : decode cL_law 896 = .ok (.iconst 1, 1) := fo_4 (fw_get da_cL_law_27 16 rfl)
theorem dL_law_897 : decode cL_law 897 = .ok (.iadd, 1) := fo_96 (fw_get da_cL_law_27 17 rfl)
theorem dL_law_898 : decode cL_law 898 = .ok (.iaload, 1) := fo_46 (fw_get da_cL_law_27 18 rfl)
theorem dL_law_899 : decode cL_law 899 = .ok (.invokevirtual 107, 3) := fo_182 (fw_get da_cL_law_27 19 rfl)
def dt_cL_law_28 : List (Nat × Nat × Nat × Nat) := [(902, 87, 0, 0), (903, 44, 0, 0), (904, 42, 0, 0), (905, 21, 1, 4), (907, 4, 0, 0), (908, 96, 0, 0), (909, 46, 0, 0), (910, 182, 2, 110), (913, 87, 0, 0), (914, 167, 2, 1374), (917, 43, 0, 0), (918, 42, 0, 0), (919, 21, 1, 4), (921, 4, 0, 0), (922, 96, 0, 0), (923, 46, 0, 0), (924, 42, 0, 0), (925, 21, 1, 4), (927, 5, 0, 0), (928, 96, 0, 0)]
theorem da_cL_law_28 : fw dt_cL_law_28 0 cL_law.data.toList = true := by decide +kernel
theorem dL_law_902 : decode cL_law 902 = .ok (.pop, 1) := fo_87 (fw_get da_cL_law_28 0 rfl)
theorem dL_law_903 : decode cL_law 903 = .ok (.aload_n 2, 1) := fo_44 (fw_get da_cL_law_28 1 rfl)
theorem dL_law_904 : decode cL_law 904 = .ok (.aload_n 0, 1) := fo_42 (fw_get da_cL_law_28 2 rfl)
theorem dL_law_905 : decode cL_law 905 = .ok (.iload 4, 2) := fo_21 (fw_get da_cL_law_28 3 rfl)
theorem dL_law_907 : decode cL_law 907 = .ok (.iconst 1, 1) := fo_4 (fw_get da_cL_law_28 4 rfl)
theorem dL_law_908 : decode cL_law 908 = .ok (.iadd, 1) := fo_96 (fw_get da_cL_law_28 5 rfl)
theorem dL_law_909 : decode cL_law 909 = .ok (.iaload, 1) := fo_46 (fw_get da_cL_law_28 6 rfl)
theorem dL_law_910 : decode cL_law 910 = .ok (.invokevirtual 110, 3) := fo_182 (fw_get da_cL_law_28 7 rfl)
theorem dL_law_913 : decode cL_law 913 = .ok (.pop, 1) := fo_87 (fw_get da_cL_law_28 8 rfl)
theorem dL_law_914 : decode cL_law 914 = .ok (.goto 1374, 3) := fo_167 (fw_get da_cL_law_28 9 rfl) (by decide +kernel)
theorem dL_law_917 : decode cL_law 917 = .ok (.aload_n 1, 1) := fo_43 (fw_get da_cL_law_28 10 rfl)
theorem dL_law_918 : decode cL_law 918 = .ok (.aload_n 0, 1) := fo_42 (fw_get da_cL_law_28 11 rfl)
theorem dL_law_919 : decode cL_law 919 = .ok (.iload 4, 2) := fo_21 (fw_get da_cL_law_28 12 rfl)
theorem dL_law_921 : decode cL_law 921 = .ok (.iconst 1, 1) := fo_4 (fw_get da_cL_law_28 13 rfl)
theorem dL_law_922 : decode cL_law 922 = .ok (.iadd, 1) := fo_96 (fw_get da_cL_law_28 14 rfl)
theorem dL_law_923 : decode cL_law 923 = .ok (.iaload, 1) := fo_46 (fw_get da_cL_law_28 15 rfl)
theorem dL_law_924 : decode cL_law 924 = .ok (.aload_n 0, 1) := fo_42 (fw_get da_cL_law_28 16 rfl)
theorem dL_law_925 : decode cL_law 925 = .ok (.iload 4, 2) := fo_21 (fw_get da_cL_law_28 17 rfl)
theorem dL_law_927 : decode cL_law 927 = .ok (.iconst 2, 1) := fo_5 (fw_get da_cL_law_28 18 rfl)
theorem dL_law_928 : decode cL_law 928 = .ok (.iadd, 1) := fo_96 (fw_get da_cL_law_28 19 rfl)
def dt_cL_law_29 : List (Nat × Nat × Nat × Nat) := [(929, 46, 0, 0), (930, 182, 2, 111), (933, 87, 0, 0), (934, 44, 0, 0), (935, 42, 0, 0), (936, 21, 1, 4), (938, 4, 0, 0), (939, 96, 0, 0), (940, 46, 0, 0), (941, 42, 0, 0), (942, 21, 1, 4), (944, 5, 0, 0), (945, 96, 0, 0), (946, 46, 0, 0), (947, 182, 2, 114), (950, 87, 0, 0), (951, 167, 2, 1337), (954, 43, 0, 0), (955, 42, 0, 0), (956, 21, 1, 4)]
theorem da_cL_law_29 : fw dt_cL_law_29 0 cL_law.data.toList = true := by decide +kernel
theorem dL_law_929 : decode cL_law 929 = .ok (.iaload, 1) := fo_46 (fw_get da_cL_law_29 0 rfl)
theorem dL_law_930 : decode cL_law 930 = .ok (.invokevirtual 111, 3) := fo_182 (fw_get da_cL_law_29 1 rfl)
theorem dL_law_933 : decode cL_law 933 = .ok (.pop, 1) := fo_87 (fw_get da_cL_law_29 2 rfl)
theorem dL_law_934 : decode cL_law 934 = .ok (.aload_n 2, 1) := fo_44 (fw_get da_cL_law_29 3 rfl)
theorem dL_law_935 : decode cL_law 935 = .ok (.aload_n 0, 1) := fo_42 (fw_get da_cL_law_29 4 rfl)
theorem dL_law_936 : decode cL_law 936 = .ok (.iload 4, 2) := fo_21 (fw_get da_cL_law_29 5 rfl)
theorem dL_law_938 : decode cL_law 938 = .ok (.iconst 1, 1) := fo_4 (fw_get da_cL_law_29 6 rfl)
theorem dL_law_939 : decode cL_law 939 = .ok (.iadd, 1) := fo_96 (fw_get da_cL_law_29 7 rfl)
theorem dL_law_940 : decode cL_law 940 = .ok (.iaload, 1) := fo_46 (fw_get da_cL_law_29 8 rfl)
theorem dL_law_941 : decode cL_law 941 = .ok (.aload_n 0, 1) := fo_42 (fw_get da_cL_law_29 9 rfl)
theorem dL_law_942 : decode cL_law 942 = .ok (.iload 4, 2) := fo_21 (fw_get da_cL_law_29 10 rfl)
theorem dL_law_944 : decode cL_law 944 = .ok (.iconst 2, 1) := fo_5 (fw_get da_cL_law_29 11 rfl)
theorem dL_law_945 : decode cL_law 945 = .ok (.iadd, 1) := fo_96 (fw_get da_cL_law_29 12 rfl)
theorem dL_law_946 : decode cL_law 946 = .ok (.iaload, 1) := fo_46 (fw_get da_cL_law_29 13 rfl)
theorem dL_law_947 : decode cL_law 947 = .ok (.invokevirtual 114, 3) := fo_182 (fw_get da_cL_law_29 14 rfl)
theorem dL_law_950 : decode cL_law 950 = .ok (.pop, 1) := fo_87 (fw_get da_cL_law_29 15 rfl)
theorem dL_law_951 : decode cL_law 951 = .ok (.goto 1337, 3) := fo_167 (fw_get da_cL_law_29 16 rfl) (by decide +kernel)
theorem dL_law_954 : decode cL_law 954 = .ok (.aload_n 1, 1) := fo_43 (fw_get da_cL_law_29 17 rfl)
theorem dL_law_955 : decode cL_law 955 = .ok (.aload_n 0, 1) := fo_42 (fw_get da_cL_law_29 18 rfl)
theorem dL_law_956 : decode cL_law 956 = .ok (.iload 4, 2) := fo_21 (fw_get da_cL_law_29 19 rfl)
def dt_cL_law_30 : List (Nat × Nat × Nat × Nat) := [(958, 4, 0, 0), (959, 96, 0, 0), (960, 46, 0, 0), (961, 42, 0, 0), (962, 21, 1, 4), (964, 5, 0, 0), (965, 96, 0, 0), (966, 46, 0, 0), (967, 42, 0, 0), (968, 21, 1, 4), (970, 6, 0, 0), (971, 96, 0, 0), (972, 46, 0, 0), (973, 42, 0, 0), (974, 21, 1, 4), (976, 7, 0, 0), (977, 96, 0, 0), (978, 46, 0, 0), (979, 182, 2, 115), (982, 87, 0, 0)]
theorem da_cL_law_30 : fw dt_cL_law_30 0 cL_law.data.toList = true := by decide +kernel
theorem dL_law_958 : decode cL_law 958 = .ok (.iconst 1, 1) := fo_4 (fw_get da_cL_law_30 0 rfl)
theorem dL_law_959 : decode cL_law 959 = .ok (.iadd, 1) := fo_96 (fw_get da_cL_law_30 1 rfl)
theorem dL_law_960 : decode cL_law 960 = .ok (.iaload, 1) := fo_46 (fw_get da_cL_law_30 2 rfl)
theorem dL_law_961 : decode cL_law 961 = .ok (.aload_n 0, 1) := fo_42 (fw_get da_cL_law_30 3 rfl)
theorem dL_law_962 : decode cL_law 962 = .ok (.iload 4, 2) := fo_21 (fw_get da_cL_law_30 4 rfl)
theorem dL_law_964 : decode cL_law 964 = .ok (.iconst 2, 1) := fo_5 (fw_get da_cL_law_30 5 rfl)
theorem dL_law_965 : decode cL_law 965 = .ok (.iadd, 1) := fo_96 (fw_get da_cL_law_30 6 rfl)
theorem dL_law_966 : decode cL_law 966 = .ok (.iaload, 1) := fo_46 (fw_get da_cL_law_30 7 rfl)
theorem dL_law_967 : decode cL_law 967 = .ok (.aload_n 0, 1) := fo_42 (fw_get da_cL_law_30 8 rfl)
theorem dL_law_968 : decode cL_law 968 = .ok (.iload 4, 2) := fo_21 (fw_get da_cL_law_30 9 rfl)
theorem dL_law_970 : decode cL_law 970 = .ok (.iconst 3, 1) := fo_6 (fw_get da_cL_law_30 10 rfl)
theorem dL_law_971 : decode cL_law 971 = .ok (.iadd, 1) := fo_96 (fw_get da_cL_law_30 11 rfl)
theorem dL_law_972 : decode cL_law 972 = .ok (.iaload, 1) := fo_46 (fw_get da_cL_law_30 12 rfl)
theorem dL_law_973 : decode cL_law 973 = .ok (.aload_n 0, 1) := fo_42 (fw_get da_cL_law_30 13 rfl)
theorem dL_law_974 : decode cL_law 974 = .ok (.iload 4, 2) := fo_21 (fw_get da_cL_law_30 14 rfl)
theorem dL_law_976 : decode cL_law 976 = .ok (.iconst 4, 1) := fo_7 (fw_get da_cL_law_30 15 rfl)
theorem dL_law_977 : decode cL_law 977 = .ok (.iadd, 1) := fo_96 (fw_get da_cL_law_30 16 rfl)
theorem dL_law_978 : decode cL_law 978 = .ok (.iaload, 1) := fo_46 (fw_get da_cL_law_30 17 rfl)
theorem dL_law_979 : decode cL_law 979 = .ok (.invokevirtual 115, 3) := fo_182 (fw_get da_cL_law_30 18 rfl)
theorem dL_law_982 : decode cL_law 982 = .ok (.pop, 1) := fo_87 (fw_get da_cL_law_30 19 rfl)
def dt_cL_law_31 : List (Nat × Nat × Nat × Nat) := [(983, 44, 0, 0), (984, 42, 0, 0), (985, 21, 1, 4), (987, 4, 0, 0), (988, 96, 0, 0), (989, 46, 0, 0), (990, 42, 0, 0), (991, 21, 1, 4), (993, 5, 0, 0), (994, 96, 0, 0), (995, 46, 0, 0), (996, 42, 0, 0), (997, 21, 1, 4), (999, 6, 0, 0), (1000, 96, 0, 0), (1001, 46, 0, 0), (1002, 42, 0, 0), (1003, 21, 1, 4), (1005, 7, 0, 0), (1006, 96, 0, 0)]
theorem da_cL_law_31 : fw dt_cL_law_31 0 cL_law.data.toList = true := by decide +kernel
theorem dL_law_983 : decode cL_law 983 = .ok (.aload_n 2, 1) := fo_44 (fw_get da_cL_law_31 0 rfl)
theorem dL_law_984 : decode cL_law 984 = .ok (.aload_n 0, 1) := fo_42 (fw_get da_cL_law_31 1 rfl)
theorem dL_law_985 : decode cL_law 985 = .ok (.iload 4, 2) := fo_21 (fw_get da_cL_law_31 2 rfl)
theorem dL_law_987 : decode cL_law 987 = .ok (.iconst 1, 1) := fo_4 (fw_get da_cL_law_31 3 rfl)
theorem dL_law_988 : decode cL_law 988 = .ok (.iadd, 1) := fo_96 (fw_get da_cL_law_31 4 rfl)
theorem dL_law_989 : decode cL_law 989 = .ok (.iaload, 1) := fo_46 (fw_get da_cL_law_31 5 rfl)
theorem dL_law_990 : decode cL_law 990 = .ok (.aload_n 0, 1) := fo_42 (fw_get da_cL_law_31 6 rfl)
theorem dL_law_991 : decode cL_law 991 = .ok (.iload 4, 2) := fo_21 (fw_get da_cL_law_31 7 rfl)
theorem dL_law_993 : decode cL_law 993 = .ok (.iconst 2, 1) := fo_5 (fw_get da_cL_law_31 8 rfl)
theorem dL_law_994 : decode cL_law 994 = .ok (.iadd, 1) := fo_96 (fw_get da_cL_law_31 9 rfl)
theorem dL_law_995 : decode cL_law 995 = .ok (.iaload, 1) := fo_46 (fw_get da_cL_law_31 10 rfl)
theorem dL_law_996 : decode cL_law 996 = .ok (.aload_n 0, 1) := fo_42 (fw_get da_cL_law_31 11 rfl)
theorem dL_law_997 : decode cL_law 997 = .ok (.iload 4, 2) := fo_21 (fw_get da_cL_law_31 12 rfl)
theorem dL_law_999 : decode cL_law 999 = .ok (.iconst 3, 1) := fo_6 (fw_get da_cL_law_31 13 rfl)
theorem dL_law_1000 : decode cL_law 1000 = .ok (.iadd, 1) := fo_96 (fw_get da_cL_law_31 14 rfl)
theorem dL_law_1001 : decode cL_law 1001 = .ok (.iaload, 1) := fo_46 (fw_get da_cL_law_31 15 rfl)
theorem dL_law_1002 : decode cL_law 1002 = .ok (.aload_n 0, 1) := fo_42 (fw_get da_cL_law_31 16 rfl)
theorem dL_law_1003 : decode cL_law 1003 = .ok (.iload 4, 2) := fo_21 (fw_get da_cL_law_31 17 rfl)
theorem dL_law_1005 : decode cL_law 1005 = .ok (.iconst 4, 1) := fo_7 (fw_get da_cL_law_31 18 rfl)
theorem dL_law_1006 : decode cL_law 1006 = .ok (.iadd, 1) := fo_96 (fw_get da_cL_law_31 19 rfl)
def dt_cL_law_32 : List (Nat × Nat × Nat × Nat) := [(1007, 46, 0, 0), (1008, 182, 2, 118), (1011, 87, 0, 0), (1012, 167, 2, 1276), (1015, 43, 0, 0), (1016, 42, 0, 0), (1017, 21, 1, 4), (1019, 4, 0, 0), (1020, 96, 0, 0), (1021, 46, 0, 0)]
theorem da_cL_law_32 : fw dt_cL_law_32 0 cL_law.data.toList = true := by decide +kernel
theorem dL_law_1007 : decode cL_law 1007 = .ok (.iaload, 1) := fo_46 (fw_get da_cL_law_32 0 rfl)
theorem dL_law_1008 : decode cL_law 1008 = .ok (.invokevirtual 118, 3) := fo_182 (fw_get da_cL_law_32 1 rfl)
theorem dL_law_1011 : decode cL_law 1011 = .ok (.pop, 1) := fo_87 (fw_get da_cL_law_32 2 rfl)
theorem dL_law_1012 : decode cL_law 1012 = .ok (.goto 1276, 3) := fo_167 (fw_get da_cL_law_32 3 rfl) (by decide +kernel)
theorem dL_law_1015 : decode cL_law 1015 = .ok (.aload_n 1, 1) := fo_43 (fw_get da_cL_law_32 4 rfl)
theorem dL_law_1016 : decode cL_law 1016 = .ok (.aload_n 0, 1) := fo_42 (fw_get da_cL_law_32 5 rfl)
theorem dL_law_1017 : decode cL_law 1017 = .ok (.iload 4, 2) := fo_21 (fw_get da_cL_law_32 6 rfl)
theorem dL_law_1019 : decode cL_law 1019 = .ok (.iconst 1, 1) := fo_4 (fw_get da_cL_law_32 7 rfl)
theorem dL_law_1020 : decode cL_law 1020 = .ok (.iadd, 1) := fo_96 (fw_get da_cL_law_32 8 rfl)
theorem dL_law_1021 : decode cL_law 1021 = .ok (.iaload, 1) := fo_46 (fw_get da_cL_law_32 9 rfl)


def dt_cL_law_33 : List (Nat × Nat × Nat × Nat) := [(1022, 42, 0, 0), (1023, 21, 1, 4), (1025, 5, 0, 0), (1026, 96, 0, 0), (1027, 46, 0, 0), (1028, 42, 0, 0), (1029, 21, 1, 4), (1031, 6, 0, 0), (1032, 96, 0, 0), (1033, 46, 0, 0), (1034, 182, 2, 119), (1037, 87, 0, 0), (1038, 44, 0, 0), (1039, 42, 0, 0), (1040, 21, 1, 4), (1042, 4, 0, 0), (1043, 96, 0, 0), (1044, 46, 0, 0), (1045, 42, 0, 0), (1046, 21, 1, 4)]
theorem da_cL_law_33 : fw dt_cL_law_33 0 cL_law.data.toList = true := by decide +kernel
theorem dL_law_1022 : decode cL_law 1022 = .ok (.aload_n 0, 1) := fo_42 (fw_get da_cL_law_33 0 rfl)
theorem dL_law_1023 : decode cL_law 1023 = .ok (.iload 4, 2) := fo_21 (fw_get da_cL_law_33 1 rfl)
theorem dL_law_1025 : decode cL_law 1025 = .ok (.iconst 2, 1) := fo_5 (fw_get da_cL_law_33 2 rfl)
theorem dL_law_1026 : decode cL_law 1026 = .ok (.iadd, 1) := fo_96 (fw_get da_cL_law_33 3 rfl)
theorem dL_law_1027 : decode cL_law 1027 = .ok (.iaload, 1) := fo_46 (fw_get da_cL_law_33 4 rfl)
theorem dL_law_1028 : decode cL_law 1028 = .ok (.aload_n 0, 1) := fo_42 (fw_get da_cL_law_33 5 rfl)
theorem dL_law_1029 : decode cL_law 1029 = .ok (.iload 4, 2) := fo_21 (fw_get da_cL_law_33 6 rfl)
theorem dL_law_1031 : decode cL_law 1031 = .ok (.iconst 3, 1) := fo_6 (fw_get da_cL_law_33 7 rfl)
theorem dL_law_1032 : decode cL_law 1032 = .ok (.iadd, 1) := fo_96 (fw_get da_cL_law_33 8 rfl)
theorem dL_law_1033 : decode cL_law 1033 = .ok (.iaload, 1) := fo_46 (fw_get da_cL_law_33 9 rfl)
theorem dL_law_1034 : decode cL_law 1034 = .ok (.invokevirtual 119, 3) := fo_182 (fw_get da_cL_law_33 10 rfl)
theorem dL_law_1037 : decode cL_law 1037 = .ok (.pop, 1) := fo_87 (fw_get da_cL_law_33 11 rfl)
theorem dL_law_1038 : decode cL_law 1038 = .ok (.aload_n 2, 1) := fo_44 (fw_get da_cL_law_33 12 rfl)
theorem dL_law_1039 : decode cL_law 1039 = .ok (.aload_n 0, 1) := fo_42 (fw_get da_cL_law_33 13 rfl)
theorem dL_law_1040 : decode cL_law 1040 = .ok (.iload 4, 2) := fo_21 (fw_get da_cL_law_33 14 rfl)
theorem dL_law_1042 : decode cL_law 1042 = .ok (.iconst 1, 1) := fo_4 (fw_get da_cL_law_33 15 rfl)
theorem dL_law_1043 : decode cL_law 1043 = .ok (.iadd, 1) := fo_96 (fw_get da_cL_law_33 16 rfl)
theorem dL_law_1044 : decode cL_law 1044 = .ok (.iaload, 1) := fo_46 (fw_get da_cL_law_33 17 rfl)
theorem dL_law_1045 : decode cL_law 1045 = .ok (.aload_n 0, 1) := fo_42 (fw_get da_cL_law_33 18 rfl)
theorem dL_law_1046 : decode cL_law 1046 = .ok (.iload 4, 2) := fo_21 (fw_get da_cL_law_33 19 rfl)
def dt_cL_law_34 : List (Nat × Nat × Nat × Nat) := [(1048, 5, 0, 0), (1049, 96, 0, 0), (1050, 46, 0, 0), (1051, 42, 0, 0), (1052, 21, 1, 4), (1054, 6, 0, 0), (1055, 96, 0, 0), (1056, 46, 0, 0), (1057, 182, 2, 122), (1060, 87, 0, 0), (1061, 167, 2, 1227), (1064, 43, 0, 0), (1065, 42, 0, 0), (1066, 21, 1, 4), (1068, 4, 0, 0), (1069, 96, 0, 0), (1070, 46, 0, 0), (1071, 42, 0, 0), (1072, 21, 1, 4), (1074, 5, 0, 0)]
theorem da_cL_law_34 : fw dt_cL_law_34 0 cL_law.data.toList = true := by decide +kernel
theorem dL_law_1048 : decode cL_law 1048 = .ok (.iconst 2, 1) := fo_5 (fw_get da_cL_law_34 0 rfl)
theorem dL_law_1049 : decode cL_law 1049 = .ok (.iadd, 1) := fo_96 (fw_get da_cL_law_34 1 rfl)
theorem dL_law_1050 : decode cL_law 1050 = .ok (.iaload, 1) := fo_46 (fw_get da_cL_law_34 2 rfl)
theorem dL_law_1051 : decode cL_law 1051 = .ok (.aload_n 0, 1) := fo_42 (fw_get da_cL_law_34 3 rfl)
theorem dL_law_1052 : decode cL_law 1052 = .ok (.iload 4, 2) := fo_21 (fw_get da_cL_law_34 4 rfl)
theorem dL_law_1054 : decode cL_law 1054 = .ok (.iconst 3, 1) := fo_6 (fw_get da_cL_law_34 5 rfl)
theorem dL_law_1055 : decode cL_law 1055 = .ok (.iadd, 1) := fo_96 (fw_get da_cL_law_34 6 rfl)
theorem dL_law_1056 : decode cL_law 1056 = .ok (.iaload, 1) := fo_46 (fw_get da_cL_law_34 7 rfl)
theorem dL_law_1057 : decode cL_law 1057 = .ok (.invokevirtual 122, 3) := fo_182 (fw_get da_cL_law_34 8 rfl)
theorem dL_law_1060 : decode cL_law 1060 = .ok (.pop, 1) := fo_87 (fw_get da_cL_law_34 9 rfl)
theorem dL_law_1061 : decode cL_law 1061 = .ok (.goto 1227, 3) := fo_167 (fw_get da_cL_law_34 10 rfl) (by decide +kernel)
theorem dL_law_1064 : decode cL_law 1064 = .ok (.aload_n 1, 1) := fo_43 (fw_get da_cL_law_34 11 rfl)
theorem dL_law_1065 : decode cL_law 1065 = .ok (.aload_n 0, 1) := fo_42 (fw_get da_cL_law_34 12 rfl)
theorem dL_law_1066 : decode cL_law 1066 = .ok (.iload 4, 2) := fo_21 (fw_get da_cL_law_34 13 rfl)
theorem dL_law_1068 : decode cL_law 1068 = .ok (.iconst 1, 1) := fo_4 (fw_get da_cL_law_34 14 rfl)
theorem dL_law_1069 : decode cL_law 1069 = .ok (.iadd, 1) := fo_96 (fw_get da_cL_law_34 15 rfl)
theorem dL_law_1070 : decode cL_law 1070 = .ok (.iaload, 1) := fo_46 (fw_get da_cL_law_34 16 rfl)
theorem dL_law_1071 : decode cL_law 1071 = .ok (.aload_n 0, 1) := fo_42 (fw_get da_cL_law_34 17 rfl)
theorem dL_law_1072 : decode cL_law 1072 = .ok (.iload 4, 2) := fo_21 (fw_get da_cL_law_34 18 rfl)
theorem dL_law_1074 : decode cL_law 1074 = .ok (.iconst 2, 1) := fo_5 (fw_get da_cL_law_34 19 rfl)
def dt_cL_law_35 : List (Nat × Nat × Nat × Nat) := [(1075, 96, 0, 0), (1076, 46, 0, 0), (1077, 42, 0, 0), (1078, 21, 1, 4), (1080, 6, 0, 0), (1081, 96, 0, 0), (1082, 46, 0, 0), (1083, 42, 0, 0), (1084, 21, 1, 4), (1086, 7, 0, 0), (1087, 96, 0, 0), (1088, 46, 0, 0), (1089, 45, 0, 0), (1090, 184, 2, 123), (1093, 54, 1, 5), (1095, 44, 0, 0), (1096, 42, 0, 0), (1097, 21, 1, 4), (1099, 4, 0, 0), (1100, 96, 0, 0)]
theorem da_cL_law_35 : fw dt_cL_law_35 0 cL_law.data.toList = true := by decide +kernel
theorem dL_law_1075 : decode cL_law 1075 = .ok (.iadd, 1) := fo_96 (fw_get da_cL_law_35 0 rfl)
theorem dL_law_1076 : decode cL_law 1076 = .ok (.iaload, 1) := fo_46 (fw_get da_cL_law_35 1 rfl)
theorem dL_law_1077 : decode cL_law 1077 = .ok (.aload_n 0, 1) := fo_42 (fw_get da_cL_law_35 2 rfl)
theorem dL_law_1078 : decode cL_law 1078 = .ok (.iload 4, 2) := fo_21 (fw_get da_cL_law_35 3 rfl)
theorem dL_law_1080 : decode cL_law 1080 = .ok (.iconst 3, 1) := fo_6 (fw_get da_cL_law_35 4 rfl)
theorem dL_law_1081 : decode cL_law 1081 = .ok (.iadd, 1) := fo_96 (fw_get da_cL_law_35 5 rfl)
theorem dL_law_1082 : decode cL_law 1082 = .ok (.iaload, 1) := fo_46 (fw_get da_cL_law_35 6 rfl)
theorem dL_law_1083 : decode cL_law 1083 = .ok (.aload_n 0, 1) := fo_42 (fw_get da_cL_law_35 7 rfl)
theorem dL_law_1084 : decode cL_law 1084 = .ok (.iload 4, 2) := fo_21 (fw_get da_cL_law_35 8 rfl)
theorem dL_law_1086 : decode cL_law 1086 = .ok (.iconst 4, 1) := fo_7 (fw_get da_cL_law_35 9 rfl)
theorem dL_law_1087 : decode cL_law 1087 = .ok (.iadd, 1) := fo_96 (fw_get da_cL_law_35 10 rfl)
theorem dL_law_1088 : decode cL_law 1088 = .ok (.iaload, 1) := fo_46 (fw_get da_cL_law_35 11 rfl)
theorem dL_law_1089 : decode cL_law 1089 = .ok (.aload_n 3, 1) := fo_45 (fw_get da_cL_law_35 12 rfl)
theorem dL_law_1090 : decode cL_law 1090 = .ok (.invokestatic 123, 3) := fo_184 (fw_get da_cL_law_35 13 rfl)
theorem dL_law_1093 : decode cL_law 1093 = .ok (.istore 5, 2) := fo_54 (fw_get da_cL_law_35 14 rfl)
theorem dL_law_1095 : decode cL_law 1095 = .ok (.aload_n 2, 1) := fo_44 (fw_get da_cL_law_35 15 rfl)
theorem dL_law_1096 : decode cL_law 1096 = .ok (.aload_n 0, 1) := fo_42 (fw_get da_cL_law_35 16 rfl)
theorem dL_law_1097 : decode cL_law 1097 = .ok (.iload 4, 2) := fo_21 (fw_get da_cL_law_35 17 rfl)
theorem dL_law_1099 : decode cL_law 1099 = .ok (.iconst 1, 1) := fo_4 (fw_get da_cL_law_35 18 rfl)
theorem dL_law_1100 : decode cL_law 1100 = .ok (.iadd, 1) := fo_96 (fw_get da_cL_law_35 19 rfl)
def dt_cL_law_36 : List (Nat × Nat × Nat × Nat) := [(1101, 46, 0, 0), (1102, 42, 0, 0), (1103, 21, 1, 4), (1105, 5, 0, 0), (1106, 96, 0, 0), (1107, 46, 0, 0), (1108, 42, 0, 0), (1109, 21, 1, 4), (1111, 6, 0, 0), (1112, 96, 0, 0), (1113, 46, 0, 0), (1114, 42, 0, 0), (1115, 21, 1, 4), (1117, 7, 0, 0), (1118, 96, 0, 0), (1119, 46, 0, 0), (1120, 182, 2, 125), (1123, 54, 1, 6), (1125, 167, 2, 1163), (1128, 43, 0, 0)]
theorem da_cL_law_36 : fw dt_cL_law_36 0 cL_law.data.toList = true := by decide +kernel
theorem dL_law_1101 : decode cL_law 1101 = .ok (.iaload, 1) := fo_46 (fw_get da_cL_law_36 0 rfl)
theorem dL_law_1102 : decode cL_law 1102 = .ok (.aload_n 0, 1) := fo_42 (fw_get da_cL_law_36 1 rfl)
theorem dL_law_1103 : decode cL_law 1103 = .ok (.iload 4, 2) := fo_21 (fw_get da_cL_law_36 2 rfl)
theorem dL_law_1105 : decode cL_law 1105 = .ok (.iconst 2, 1) := fo_5 (fw_get da_cL_law_36 3 rfl)
theorem dL_law_1106 : decode cL_law 1106 = .ok (.iadd, 1) := fo_96 (fw_get da_cL_law_36 4 rfl)
theorem dL_law_1107 : decode cL_law 1107 = .ok (.iaload, 1) := fo_46 (fw_get da_cL_law_36 5 rfl)
theorem dL_law_1108 : decode cL_law 1108 = .ok (.aload_n 0, 1) := fo_42 (fw_get da_cL_law_36 6 rfl)
theorem dL_law_1109 : decode cL_law 1109 = .ok (.iload 4, 2) := fo_21 (fw_get da_cL_law_36 7 rfl)
theorem dL_law_1111 : decode cL_law 1111 = .ok (.iconst 3, 1) := fo_6 (fw_get da_cL_law_36 8 rfl)
theorem dL_law_1112 : decode cL_law 1112 = .ok (.iadd, 1) := fo_96 (fw_get da_cL_law_36 9 rfl)
theorem dL_law_1113 : decode cL_law 1113 = .ok (.iaload, 1) := fo_46 (fw_get da_cL_law_36 10 rfl)
theorem dL_law_1114 : decode cL_law 1114 = .ok (.aload_n 0, 1) := fo_42 (fw_get da_cL_law_36 11 rfl)
theorem dL_law_1115 : decode cL_law 1115 = .ok (.iload 4, 2) := fo_21 (fw_get da_cL_law_36 12 rfl)
theorem dL_law_1117 : decode cL_law 1117 = .ok (.iconst 4, 1) := fo_7 (fw_get da_cL_law_36 13 rfl)
theorem dL_law_1118 : decode cL_law 1118 = .ok (.iadd, 1) := fo_96 (fw_get da_cL_law_36 14 rfl)
theorem dL_law_1119 : decode cL_law 1119 = .ok (.iaload, 1) := fo_46 (fw_get da_cL_law_36 15 rfl)
theorem dL_law_1120 : decode cL_law 1120 = .ok (.invokevirtual 125, 3) := fo_182 (fw_get da_cL_law_36 16 rfl)
theorem dL_law_1123 : decode cL_law 1123 = .ok (.istore 6, 2) := fo_54 (fw_get da_cL_law_36 17 rfl)
theorem dL_law_1125 : decode cL_law 1125 = .ok (.goto 1163, 3) := fo_167 (fw_get da_cL_law_36 18 rfl) (by decide +kernel)
theorem dL_law_1128 : decode cL_law 1128 = .ok (.aload_n 1, 1) := fo_43 (fw_get da_cL_law_36 19 rfl)
def dt_cL_law_37 : List (Nat × Nat × Nat × Nat) := [(1129, 42, 0, 0), (1130, 21, 1, 4), (1132, 4, 0, 0), (1133, 96, 0, 0), (1134, 46, 0, 0), (1135, 42, 0, 0), (1136, 21, 1, 4), (1138, 5, 0, 0), (1139, 96, 0, 0), (1140, 46, 0, 0), (1141, 42, 0, 0), (1142, 21, 1, 4), (1144, 6, 0, 0), (1145, 96, 0, 0), (1146, 46, 0, 0), (1147, 182, 2, 126), (1150, 87, 0, 0), (1151, 44, 0, 0), (1152, 42, 0, 0), (1153, 21, 1, 4)]
theorem da_cL_law_37 : fw dt_cL_law_37 0 cL_law.data.toList = true := by decide +kernel
theorem dL_law_1129 : decode cL_law 1129 = .ok (.aload_n 0, 1) := fo_42 (fw_get da_cL_law_37 0 rfl)
theorem dL_law_1130 : decode cL_law 1130 = .ok (.iload 4, 2) := fo_21 (fw_get da_cL_law_37 1 rfl)
theorem dL_law_1132 : decode cL_law 1132 = .ok (.iconst 1, 1) := fo_4 (fw_get da_cL_law_37 2 rfl)
theorem dL_law_1133 : decode cL_law 1133 = .ok (.iadd, 1) := fo_96 (fw_get da_cL_law_37 3 rfl)
theorem dL_law_1134 : decode cL_law 1134 = .ok (.iaload, 1) := fo_46 (fw_get da_cL_law_37 4 rfl)
theorem dL_law_1135 : decode cL_law 1135 = .ok (.aload_n 0, 1) := fo_42 (fw_get da_cL_law_37 5 rfl)
theorem dL_law_1136 : decode cL_law 1136 = .ok (.iload 4, 2) := fo_21 (fw_get da_cL_law_37 6 rfl)
theorem dL_law_1138 : decode cL_law 1138 = .ok (.iconst 2, 1) := fo_5 (fw_get da_cL_law_37 7 rfl)
theorem dL_law_1139 : decode cL_law 1139 = .ok (.iadd, 1) := fo_96 (fw_get da_cL_law_37 8 rfl)
theorem dL_law_1140 : decode cL_law 1140 = .ok (.iaload, 1) := fo_46 (fw_get da_cL_law_37 9 rfl)
theorem dL_law_1141 : decode cL_law 1141 = .ok (.aload_n 0, 1) := fo_42 (fw_get da_cL_law_37 10 rfl)
theorem dL_law_1142 : decode cL_law 1142 = .ok (.iload 4, 2) := fo_21 (fw_get da_cL_law_37 11 rfl)
theorem dL_law_1144 : decode cL_law 1144 = .ok (.iconst 3, 1) := fo_6 (fw_get da_cL_law_37 12 rfl)
theorem dL_law_1145 : decode cL_law 1145 = .ok (.iadd, 1) := fo_96 (fw_get da_cL_law_37 13 rfl)
theorem dL_law_1146 : decode cL_law 1146 = .ok (.iaload, 1) := fo_46 (fw_get da_cL_law_37 14 rfl)
theorem dL_law_1147 : decode cL_law 1147 = .ok (.invokevirtual 126, 3) := fo_182 (fw_get da_cL_law_37 15 rfl)
theorem dL_law_1150 : decode cL_law 1150 = .ok (.pop, 1) := fo_87 (fw_get da_cL_law_37 16 rfl)
theorem dL_law_1151 : decode cL_law 1151 = .ok (.aload_n 2, 1) := fo_44 (fw_get da_cL_law_37 17 rfl)
theorem dL_law_1152 : decode cL_law 1152 = .ok (.aload_n 0, 1) := fo_42 (fw_get da_cL_law_37 18 rfl)
theorem dL_law_1153 : decode cL_law 1153 = .ok (.iload 4, 2) := fo_21 (fw_get da_cL_law_37 19 rfl)
def dt_cL_law_38 : List (Nat × Nat × Nat × Nat) := [(1155, 4, 0, 0), (1156, 96, 0, 0), (1157, 46, 0, 0), (1158, 42, 0, 0), (1159, 21, 1, 4), (1161, 5, 0, 0), (1162, 96, 0, 0), (1163, 46, 0, 0), (1164, 42, 0, 0), (1165, 21, 1, 4), (1167, 6, 0, 0), (1168, 96, 0, 0), (1169, 46, 0, 0), (1170, 182, 2, 129), (1173, 87, 0, 0), (1174, 167, 2, 1114), (1177, 43, 0, 0), (1178, 42, 0, 0), (1179, 21, 1, 4), (1181, 4, 0, 0)]
theorem da_cL_law_38 : fw dt_cL_law_38 0 cL_law.data.toList = true := by decide +kernel
theorem dL_law_1155 : decode cL_law 1155 = .ok (.iconst 1, 1) := fo_4 (fw_get da_cL_law_38 0 rfl)
theorem dL_law_1156 : decode cL_law 1156 = .ok (.iadd, 1) := fo_96 (fw_get da_cL_law_38 1 rfl)
theorem dL_law_1157 : decode cL_law 1157 = .ok (.iaload, 1) := fo_46 (fw_get da_cL_law_38 2 rfl)
theorem dL_law_1158 : decode cL_law 1158 = .ok (.aload_n 0, 1) := fo_42 (fw_get da_cL_law_38 3 rfl)
theorem dL_law_1159 : decode cL_law 1159 = .ok (.iload 4, 2) := fo_21 (fw_get da_cL_law_38 4 rfl)
theorem dL_law_1161 : decode cL_law 1161 = .ok (.iconst 2, 1) := fo_5 (fw_get da_cL_law_38 5 rfl)
theorem dL_law_1162 : decode cL_law 1162 = .ok (.iadd, 1) := fo_96 (fw_get da_cL_law_38 6 rfl)
theorem dL_law_1163 : decode cL_law 1163 = .ok (.iaload, 1) := fo_46 (fw_get da_cL_law_38 7 rfl)
theorem dL_law_1164 : decode cL_law 1164 = .ok (.aload_n 0, 1) := fo_42 (fw_get da_cL_law_38 8 rfl)
theorem dL_law_1165 : decode cL_law 1165 = .ok (.iload 4, 2) := fo_21 (fw_get da_cL_law_38 9 rfl)
theorem dL_law_1167 : decode cL_law 1167 = .ok (.iconst 3, 1) := fo_6 (fw_get da_cL_law_38 10 rfl)
theorem dL_law_1168 : decode cL_law 1168 = .ok (.iadd, 1) := fo_96 (fw_get da_cL_law_38 11 rfl)
theorem dL_law_1169 : decode cL_law 1169 = .ok (.iaload, 1) := fo_46 (fw_get da_cL_law_38 12 rfl)
theorem dL_law_1170 : decode cL_law 1170 = .ok (.invokevirtual 129, 3) := fo_182 (fw_get da_cL_law_38 13 rfl)
theorem dL_law_1173 : decode cL_law 1173 = .ok (.pop, 1) := fo_87 (fw_get da_cL_law_38 14 rfl)
theorem dL_law_1174 : decode cL_law 1174 = .ok (.goto 1114, 3) := fo_167 (fw_get da_cL_law_38 15 rfl) (by decide +kernel)
theorem dL_law_1177 : decode cL_law 1177 = .ok (.aload_n 1, 1) := fo_43 (fw_get da_cL_law_38 16 rfl)
theorem dL_law_1178 : decode cL_law 1178 = .ok (.aload_n 0, 1) := fo_42 (fw_get da_cL_law_38 17 rfl)
theorem dL_law_1179 : decode cL_law 1179 = .ok (.iload 4, 2) := fo_21 (fw_get da_cL_law_38 18 rfl)
theorem dL_law_1181 : decode cL_law 1181 = .ok (.iconst 1, 1) := fo_4 (fw_get da_cL_law_38 19 rfl)
def dt_cL_law_39 : List (Nat × Nat × Nat × Nat) := [(1182, 96, 0, 0), (1183, 46, 0, 0), (1184, 42, 0, 0), (1185, 21, 1, 4), (1187, 5, 0, 0), (1188, 96, 0, 0), (1189, 46, 0, 0), (1190, 182, 2, 130), (1193, 87, 0, 0), (1194, 44, 0, 0), (1195, 42, 0, 0), (1196, 21, 1, 4), (1198, 4, 0, 0), (1199, 96, 0, 0), (1200, 46, 0, 0), (1201, 42, 0, 0), (1202, 21, 1, 4), (1204, 5, 0, 0), (1205, 96, 0, 0), (1206, 46, 0, 0)]
theorem da_cL_law_39 : fw dt_cL_law_39 0 cL_law.data.toList = true := by decide +kernel
theorem dL_law_1182 : decode cL_law 1182 = .ok (.iadd, 1) := fo_96 (fw_get da_cL_law_39 0 rfl)
theorem dL_law_1183 : decode cL_law 1183 = .ok (.iaload, 1) := fo_46 (fw_get da_cL_law_39 1 rfl)
theorem dL_law_1184 : decode cL_law 1184 = .ok (.aload_n 0, 1) := fo_42 (fw_get da_cL_law_39 2 rfl)
theorem dL_law_1185 : decode cL_law 1185 = .ok (.iload 4, 2) := fo_21 (fw_get da_cL_law_39 3 rfl)
theorem dL_law_1187 : decode cL_law 1187 = .ok (.iconst 2, 1) := fo_5 (fw_get da_cL_law_39 4 rfl)
theorem dL_law_1188 : decode cL_law 1188 = .ok (.iadd, 1) := fo_96 (fw_get da_cL_law_39 5 rfl)
theorem dL_law_1189 : decode cL_law 1189 = .ok (.iaload, 1) := fo_46 (fw_get da_cL_law_39 6 rfl)
theorem dL_law_1190 : decode cL_law 1190 = .ok (.invokevirtual 130, 3) := fo_182 (fw_get da_cL_law_39 7 rfl)
theorem dL_law_1193 : decode cL_law 1193 = .ok (.pop, 1) := fo_87 (fw_get da_cL_law_39 8 rfl)
theorem dL_law_1194 : decode cL_law 1194 = .ok (.aload_n 2, 1) := fo_44 (fw_get da_cL_law_39 9 rfl)
theorem dL_law_1195 : decode cL_law 1195 = .ok (.aload_n 0, 1) := fo_42 (fw_get da_cL_law_39 10 rfl)
theorem dL_law_1196 : decode cL_law 1196 = .ok (.iload 4, 2) := fo_21 (fw_get da_cL_law_39 11 rfl)
theorem dL_law_1198 : decode cL_law 1198 = .ok (.iconst 1, 1) := fo_4 (fw_get da_cL_law_39 12 rfl)
theorem dL_law_1199 : decode cL_law 1199 = .ok (.iadd, 1) := fo_96 (fw_get da_cL_law_39 13 rfl)
theorem dL_law_1200 : decode cL_law 1200 = .ok (.iaload, 1) := fo_46 (fw_get da_cL_law_39 14 rfl)
theorem dL_law_1201 : decode cL_law 1201 = .ok (.aload_n 0, 1) := fo_42 (fw_get da_cL_law_39 15 rfl)
theorem dL_law_1202 : decode cL_law 1202 = .ok (.iload 4, 2) := fo_21 (fw_get da_cL_law_39 16 rfl)
theorem dL_law_1204 : decode cL_law 1204 = .ok (.iconst 2, 1) := fo_5 (fw_get da_cL_law_39 17 rfl)
theorem dL_law_1205 : decode cL_law 1205 = .ok (.iadd, 1) := fo_96 (fw_get da_cL_law_39 18 rfl)
theorem dL_law_1206 : decode cL_law 1206 = .ok (.iaload, 1) := fo_46 (fw_get da_cL_law_39 19 rfl)
def dt_cL_law_40 : List (Nat × Nat × Nat × Nat) := [(1207, 182, 2, 133), (1210, 87, 0, 0), (1211, 167, 2, 1077), (1214, 43, 0, 0), (1215, 42, 0, 0), (1216, 21, 1, 4), (1218, 4, 0, 0), (1219, 96, 0, 0), (1220, 46, 0, 0), (1221, 42, 0, 0)]
theorem da_cL_law_40 : fw dt_cL_law_40 0 cL_law.data.toList = true := by decide +kernel
theorem dL_law_1207 : decode cL_law 1207 = .ok (.invokevirtual 133, 3) := fo_182 (fw_get da_cL_law_40 0 rfl)
theorem dL_law_1210 : decode cL_law 1210 = .ok (.pop, 1) := fo_87 (fw_get da_cL_law_40 1 rfl)
theorem dL_law_1211 : decode cL_law 1211 = .ok (.goto 1077, 3) := fo_167 (fw_get da_cL_law_40 2 rfl) (by decide +kernel)
theorem dL_law_1214 : decode cL_law 1214 = .ok (.aload_n 1, 1) := fo_43 (fw_get da_cL_law_40 3 rfl)
theorem dL_law_1215 : decode cL_law 1215 = .ok (.aload_n 0, 1) := fo_42 (fw_get da_cL_law_40 4 rfl)
theorem dL_law_1216 : decode cL_law 1216 = .ok (.iload 4, 2) := fo_21 (fw_get da_cL_law_40 5 rfl)
theorem dL_law_1218 : decode cL_law 1218 = .ok (.iconst 1, 1) := fo_4 (fw_get da_cL_law_40 6 rfl)
theorem dL_law_1219 : decode cL_law 1219 = .ok (.iadd, 1) := fo_96 (fw_get da_cL_law_40 7 rfl)
theorem dL_law_1220 : decode cL_law 1220 = .ok (.iaload, 1) := fo_46 (fw_get da_cL_law_40 8 rfl)
theorem dL_law_1221 : decode cL_law 1221 = .ok (.aload_n 0, 1) := fo_42 (fw_get da_cL_law_40 9 rfl)


def dt_cL_law_41 : List (Nat × Nat × Nat × Nat) := [(1222, 21, 1, 4), (1224, 5, 0, 0), (1225, 96, 0, 0), (1226, 46, 0, 0), (1227, 42, 0, 0), (1228, 21, 1, 4), (1230, 6, 0, 0), (1231, 96, 0, 0), (1232, 46, 0, 0), (1233, 42, 0, 0), (1234, 21, 1, 4), (1236, 7, 0, 0), (1237, 96, 0, 0), (1238, 46, 0, 0), (1239, 182, 2, 134), (1242, 87, 0, 0), (1243, 44, 0, 0), (1244, 42, 0, 0), (1245, 21, 1, 4), (1247, 4, 0, 0)]
theorem da_cL_law_41 : fw dt_cL_law_41 0 cL_law.data.toList = true := by decide +kernel
theorem dL_law_1222 : decode cL_law 1222 = .ok (.iload 4, 2) := fo_21 (fw_get da_cL_law_41 0 rfl)
theorem dL_law_1224 : decode cL_law 1224 = .ok (.iconst 2, 1) := fo_5 (fw_get da_cL_law_41 1 rfl)
theorem dL_law_1225 : decode cL_law 1225 = .ok (.iadd, 1) := fo_96 (fw_get da_cL_law_41 2 rfl)
theorem dL_law_1226 : decode cL_law 1226 = .ok (.iaload, 1) := fo_46 (fw_get da_cL_law_41 3 rfl)
theorem dL_law_1227 : decode cL_law 1227 = .ok (.aload_n 0, 1) := fo_42 (fw_get da_cL_law_41 4 rfl)
theorem dL_law_1228 : decode cL_law 1228 = .ok (.iload 4, 2) := fo_21 (fw_get da_cL_law_41 5 rfl)
theorem dL_law_1230 : decode cL_law 1230 = .ok (.iconst 3, 1) := fo_6 (fw_get da_cL_law_41 6 rfl)
theorem dL_law_1231 : decode cL_law 1231 = .ok (.iadd, 1) := fo_96 (fw_get da_cL_law_41 7 rfl)
theorem dL_law_1232 : decode cL_law 1232 = .ok (.iaload, 1) := fo_46 (fw_get da_cL_law_41 8 rfl)
theorem dL_law_1233 : decode cL_law 1233 = .ok (.aload_n 0, 1) := fo_42 (fw_get da_cL_law_41 9 rfl)
theorem dL_law_1234 : decode cL_law 1234 = .ok (.iload 4, 2) := fo_21 (fw_get da_cL_law_41 10 rfl)
theorem dL_law_1236 : decode cL_law 1236 = .ok (.iconst 4, 1) := fo_7 (fw_get da_cL_law_41 11 rfl)
theorem dL_law_1237 : decode cL_law 1237 = .ok (.iadd, 1) := fo_96 (fw_get da_cL_law_41 12 rfl)
theorem dL_law_1238 : decode cL_law 1238 = .ok (.iaload, 1) := fo_46 (fw_get da_cL_law_41 13 rfl)
theorem dL_law_1239 : decode cL_law 1239 = .ok (.invokevirtual 134, 3) := fo_182 (fw_get da_cL_law_41 14 rfl)
theorem dL_law_1242 : decode cL_law 1242 = .ok (.pop, 1) := fo_87 (fw_get da_cL_law_41 15 rfl)
theorem dL_law_1243 : decode cL_law 1243 = .ok (.aload_n 2, 1) := fo_44 (fw_get da_cL_law_41 16 rfl)
theorem dL_law_1244 : decode cL_law 1244 = .ok (.aload_n 0, 1) := fo_42 (fw_get da_cL_law_41 17 rfl)
theorem dL_law_1245 : decode cL_law 1245 = .ok (.iload 4, 2) := fo_21 (fw_get da_cL_law_41 18 rfl)
theorem dL_law_1247 : decode cL_law 1247 = .ok (.iconst 1, 1) := fo_4 (fw_get da_cL_law_41 19 rfl)
def dt_cL_law_42 : List (Nat × Nat × Nat × Nat) := [(1248, 96, 0, 0), (1249, 46, 0, 0), (1250, 42, 0, 0), (1251, 21, 1, 4), (1253, 5, 0, 0), (1254, 96, 0, 0), (1255, 46, 0, 0), (1256, 42, 0, 0), (1257, 21, 1, 4), (1259, 6, 0, 0), (1260, 96, 0, 0), (1261, 46, 0, 0), (1262, 42, 0, 0), (1263, 21, 1, 4), (1265, 7, 0, 0), (1266, 96, 0, 0), (1267, 46, 0, 0), (1268, 182, 2, 137), (1271, 87, 0, 0), (1272, 167, 2, 1016)]
theorem da_cL_law_42 : fw dt_cL_law_42 0 cL_law.data.toList = true := by decide +kernel
theorem dL_law_1248 : decode cL_law 1248 = .ok (.iadd, 1) := fo_96 (fw_get da_cL_law_42 0 rfl)
theorem dL_law_1249 : decode cL_law 1249 = .ok (.iaload, 1) := fo_46 (fw_get da_cL_law_42 1 rfl)
theorem dL_law_1250 : decode cL_law 1250 = .ok (.aload_n 0, 1) := fo_42 (fw_get da_cL_law_42 2 rfl)
theorem dL_law_1251 : decode cL_law 1251 = .ok (.iload 4, 2) := fo_21 (fw_get da_cL_law_42 3 rfl)
theorem dL_law_1253 : decode cL_law 1253 = .ok (.iconst 2, 1) := fo_5 (fw_get da_cL_law_42 4 rfl)
theorem dL_law_1254 : decode cL_law 1254 = .ok (.iadd, 1) := fo_96 (fw_get da_cL_law_42 5 rfl)
theorem dL_law_1255 : decode cL_law 1255 = .ok (.iaload, 1) := fo_46 (fw_get da_cL_law_42 6 rfl)
theorem dL_law_1256 : decode cL_law 1256 = .ok (.aload_n 0, 1) := fo_42 (fw_get da_cL_law_42 7 rfl)
theorem dL_law_1257 : decode cL_law 1257 = .ok (.iload 4, 2) := fo_21 (fw_get da_cL_law_42 8 rfl)
theorem dL_law_1259 : decode cL_law 1259 = .ok (.iconst 3, 1) := fo_6 (fw_get da_cL_law_42 9 rfl)
theorem dL_law_1260 : decode cL_law 1260 = .ok (.iadd, 1) := fo_96 (fw_get da_cL_law_42 10 rfl)
theorem dL_law_1261 : decode cL_law 1261 = .ok (.iaload, 1) := fo_46 (fw_get da_cL_law_42 11 rfl)
theorem dL_law_1262 : decode cL_law 1262 = .ok (.aload_n 0, 1) := fo_42 (fw_get da_cL_law_42 12 rfl)
theorem dL_law_1263 : decode cL_law 1263 = .ok (.iload 4, 2) := fo_21 (fw_get da_cL_law_42 13 rfl)
theorem dL_law_1265 : decode cL_law 1265 = .ok (.iconst 4, 1) := fo_7 (fw_get da_cL_law_42 14 rfl)
theorem dL_law_1266 : decode cL_law 1266 = .ok (.iadd, 1) := fo_96 (fw_get da_cL_law_42 15 rfl)
theorem dL_law_1267 : decode cL_law 1267 = .ok (.iaload, 1) := fo_46 (fw_get da_cL_law_42 16 rfl)
theorem dL_law_1268 : decode cL_law 1268 = .ok (.invokevirtual 137, 3) := fo_182 (fw_get da_cL_law_42 17 rfl)
theorem dL_law_1271 : decode cL_law 1271 = .ok (.pop, 1) := fo_87 (fw_get da_cL_law_42 18 rfl)
theorem dL_law_1272 : decode cL_law 1272 = .ok (.goto 1016, 3) := fo_167 (fw_get da_cL_law_42 19 rfl) (by decide +kernel)
def dt_cL_law_43 : List (Nat × Nat × Nat × Nat) := [(1275, 43, 0, 0), (1276, 42, 0, 0), (1277, 21, 1, 4), (1279, 4, 0, 0), (1280, 96, 0, 0), (1281, 46, 0, 0), (1282, 42, 0, 0), (1283, 21, 1, 4), (1285, 5, 0, 0), (1286, 96, 0, 0), (1287, 46, 0, 0), (1288, 42, 0, 0), (1289, 21, 1, 4), (1291, 6, 0, 0), (1292, 96, 0, 0), (1293, 46, 0, 0), (1294, 42, 0, 0), (1295, 21, 1, 4), (1297, 7, 0, 0), (1298, 96, 0, 0)]
theorem da_cL_law_43 : fw dt_cL_law_43 0 cL_law.data.toList = true := by decide +kernel
theorem dL_law_1275 : decode cL_law 1275 = .ok (.aload_n 1, 1) := fo_43 (fw_get da_cL_law_43 0 rfl)
theorem dL_law_1276 : decode cL_law 1276 = .ok (.aload_n 0, 1) := fo_42 (fw_get da_cL_law_43 1 rfl)
theorem dL_law_1277 : decode cL_law 1277 = .ok (.iload 4, 2) := fo_21 (fw_get da_cL_law_43 2 rfl)
theorem dL_law_1279 : decode cL_law 1279 = .ok (.iconst 1, 1) := fo_4 (fw_get da_cL_law_43 3 rfl)
theorem dL_law_1280 : decode cL_law 1280 = .ok (.iadd, 1) := fo_96 (fw_get da_cL_law_43 4 rfl)
theorem dL_law_1281 : decode cL_law 1281 = .ok (.iaload, 1) := fo_46 (fw_get da_cL_law_43 5 rfl)
theorem dL_law_1282 : decode cL_law 1282 = .ok (.aload_n 0, 1) := fo_42 (fw_get da_cL_law_43 6 rfl)
theorem dL_law_1283 : decode cL_law 1283 = .ok (.iload 4, 2) := fo_21 (fw_get da_cL_law_43 7 rfl)
theorem dL_law_1285 : decode cL_law 1285 = .ok (.iconst 2, 1) := fo_5 (fw_get da_cL_law_43 8 rfl)
theorem dL_law_1286 : decode cL_law 1286 = .ok (.iadd, 1) := fo_96 (fw_get da_cL_law_43 9 rfl)
theorem dL_law_1287 : decode cL_law 1287 = .ok (.iaload, 1) := fo_46 (fw_get da_cL_law_43 10 rfl)
theorem dL_law_1288 : decode cL_law 1288 = .ok (.aload_n 0, 1) := fo_42 (fw_get da_cL_law_43 11 rfl)
theorem dL_law_1289 : decode cL_law 1289 = .ok (.iload 4, 2) := fo_21 (fw_get da_cL_law_43 12 rfl)
theorem dL_law_1291 : decode cL_law 1291 = .ok (.iconst 3, 1) := fo_6 (fw_get da_cL_law_43 13 rfl)
theorem dL_law_1292 : decode cL_law 1292 = .ok (.iadd, 1) := fo_96 (fw_get da_cL_law_43 14 rfl)
theorem dL_law_1293 : decode cL_law 1293 = .ok (.iaload, 1) := fo_46 (fw_get da_cL_law_43 15 rfl)
theorem dL_law_1294 : decode cL_law 1294 = .ok (.aload_n 0, 1) := fo_42 (fw_get da_cL_law_43 16 rfl)
theorem dL_law_1295 : decode cL_law 1295 = .ok (.iload 4, 2) := fo_21 (fw_get da_cL_law_43 17 rfl)
theorem dL_law_1297 : decode cL_law 1297 = .ok (.iconst 4, 1) := fo_7 (fw_get da_cL_law_43 18 rfl)
theorem dL_law_1298 : decode cL_law 1298 = .ok (.iadd, 1) := fo_96 (fw_get da_cL_law_43 19 rfl)
def dt_cL_law_44 : List (Nat × Nat × Nat × Nat) := [(1299, 46, 0, 0), (1300, 42, 0, 0), (1301, 21, 1, 4), (1303, 8, 0, 0), (1304, 96, 0, 0), (1305, 46, 0, 0), (1306, 42, 0, 0), (1307, 21, 1, 4), (1309, 16, 1, 6), (1311, 96, 0, 0), (1312, 46, 0, 0), (1313, 45, 0, 0), (1314, 184, 2, 138), (1317, 54, 1, 5), (1319, 44, 0, 0), (1320, 42, 0, 0), (1321, 21, 1, 4), (1323, 4, 0, 0), (1324, 96, 0, 0), (1325, 46, 0, 0)]
theorem da_cL_law_44 : fw dt_cL_law_44 0 cL_law.data.toList = true := by decide +kernel
theorem dL_law_1299 : decode cL_law 1299 = .ok (.iaload, 1) := fo_46 (fw_get da_cL_law_44 0 rfl)
theorem dL_law_1300 : decode cL_law 1300 = .ok (.aload_n 0, 1) := fo_42 (fw_get da_cL_law_44 1 rfl)
theorem dL_law_1301 : decode cL_law 1301 = .ok (.iload 4, 2) := fo_21 (fw_get da_cL_law_44 2 rfl)
theorem dL_law_1303 : decode cL_law 1303 = .ok (.iconst 5, 1) := fo_8 (fw_get da_cL_law_44 3 rfl)
theorem dL_law_1304 : decode cL_law 1304 = .ok (.iadd, 1) := fo_96 (fw_get da_cL_law_44 4 rfl)
theorem dL_law_1305 : decode cL_law 1305 = .ok (.iaload, 1) := fo_46 (fw_get da_cL_law_44 5 rfl)
theorem dL_law_1306 : decode cL_law 1306 = .ok (.aload_n 0, 1) := fo_42 (fw_get da_cL_law_44 6 rfl)
theorem dL_law_1307 : decode cL_law 1307 = .ok (.iload 4, 2) := fo_21 (fw_get da_cL_law_44 7 rfl)
theorem dL_law_1309 : decode cL_law 1309 = .ok (.bipush 6, 2) := fo_16 (fw_get da_cL_law_44 8 rfl) (by decide +kernel)
theorem dL_law_1311 : decode cL_law 1311 = .ok (.iadd, 1) := fo_96 (fw_get da_cL_law_44 9 rfl)
theorem dL_law_1312 : decode cL_law 1312 = .ok (.iaload, 1) := fo_46 (fw_get da_cL_law_44 10 rfl)
theorem dL_law_1313 : decode cL_law 1313 = .ok (.aload_n 3, 1) := fo_45 (fw_get da_cL_law_44 11 rfl)
theorem dL_law_1314 : decode cL_law 1314 = .ok (.invokestatic 138, 3) := fo_184 (fw_get da_cL_law_44 12 rfl)
theorem dL_law_1317 : decode cL_law 1317 = .ok (.istore 5, 2) := fo_54 (fw_get da_cL_law_44 13 rfl)
theorem dL_law_1319 : decode cL_law 1319 = .ok (.aload_n 2, 1) := fo_44 (fw_get da_cL_law_44 14 rfl)
theorem dL_law_1320 : decode cL_law 1320 = .ok (.aload_n 0, 1) := fo_42 (fw_get da_cL_law_44 15 rfl)
theorem dL_law_1321 : decode cL_law 1321 = .ok (.iload 4, 2) := fo_21 (fw_get da_cL_law_44 16 rfl)
theorem dL_law_1323 : decode cL_law 1323 = .ok (.iconst 1, 1) := fo_4 (fw_get da_cL_law_44 17 rfl)
theorem dL_law_1324 : decode cL_law 1324 = .ok (.iadd, 1) := fo_96 (fw_get da_cL_law_44 18 rfl)
theorem dL_law_1325 : decode cL_law 1325 = .ok (.iaload, 1) := fo_46 (fw_get da_cL_law_44 19 rfl)
def dt_cL_law_45 : List (Nat × Nat × Nat × Nat) := [(1326, 42, 0, 0), (1327, 21, 1, 4), (1329, 5, 0, 0), (1330, 96, 0, 0), (1331, 46, 0, 0), (1332, 42, 0, 0), (1333, 21, 1, 4), (1335, 6, 0, 0), (1336, 96, 0, 0), (1337, 46, 0, 0), (1338, 42, 0, 0), (1339, 21, 1, 4), (1341, 7, 0, 0), (1342, 96, 0, 0), (1343, 46, 0, 0), (1344, 42, 0, 0), (1345, 21, 1, 4), (1347, 8, 0, 0), (1348, 96, 0, 0), (1349, 46, 0, 0)]
theorem da_cL_law_45 : fw dt_cL_law_45 0 cL_law.data.toList = true := by decide +kernel
theorem dL_law_1326 : decode cL_law 1326 = .ok (.aload_n 0, 1) := fo_42 (fw_get da_cL_law_45 0 rfl)
theorem dL_law_1327 : decode cL_law 1327 = .ok (.iload 4, 2) := fo_21 (fw_get da_cL_law_45 1 rfl)
theorem dL_law_1329 : decode cL_law 1329 = .ok (.iconst 2, 1) := fo_5 (fw_get da_cL_law_45 2 rfl)
theorem dL_law_1330 : decode cL_law 1330 = .ok (.iadd, 1) := fo_96 (fw_get da_cL_law_45 3 rfl)
theorem dL_law_1331 : decode cL_law 1331 = .ok (.iaload, 1) := fo_46 (fw_get da_cL_law_45 4 rfl)
theorem dL_law_1332 : decode cL_law 1332 = .ok (.aload_n 0, 1) := fo_42 (fw_get da_cL_law_45 5 rfl)
theorem dL_law_1333 : decode cL_law 1333 = .ok (.iload 4, 2) := fo_21 (fw_get da_cL_law_45 6 rfl)
theorem dL_law_1335 : decode cL_law 1335 = .ok (.iconst 3, 1) := fo_6 (fw_get da_cL_law_45 7 rfl)
theorem dL_law_1336 : decode cL_law 1336 = .ok (.iadd, 1) := fo_96 (fw_get da_cL_law_45 8 rfl)
theorem dL_law_1337 : decode cL_law 1337 = .ok (.iaload, 1) := fo_46 (fw_get da_cL_law_45 9 rfl)
theorem dL_law_1338 : decode cL_law 1338 = .ok (.aload_n 0, 1) := fo_42 (fw_get da_cL_law_45 10 rfl)
theorem dL_law_1339 : decode cL_law 1339 = .ok (.iload 4, 2) := fo_21 (fw_get da_cL_law_45 11 rfl)
theorem dL_law_1341 : decode cL_law 1341 = .ok (.iconst 4, 1) := fo_7 (fw_get da_cL_law_45 12 rfl)
theorem dL_law_1342 : decode cL_law 1342 = .ok (.iadd, 1) := fo_96 (fw_get da_cL_law_45 13 rfl)
theorem dL_law_1343 : decode cL_law 1343 = .ok (.iaload, 1) := fo_46 (fw_get da_cL_law_45 14 rfl)
theorem dL_law_1344 : decode cL_law 1344 = .ok (.aload_n 0, 1) := fo_42 (fw_get da_cL_law_45 15 rfl)
theorem dL_law_1345 : decode cL_law 1345 = .ok (.iload 4, 2) := fo_21 (fw_get da_cL_law_45 16 rfl)
theorem dL_law_1347 : decode cL_law 1347 = .ok (.iconst 5, 1) := fo_8 (fw_get da_cL_law_45 17 rfl)
theorem dL_law_1348 : decode cL_law 1348 = .ok (.iadd, 1) := fo_96 (fw_get da_cL_law_45 18 rfl)
theorem dL_law_1349 : decode cL_law 1349 = .ok (.iaload, 1) := fo_46 (fw_get da_cL_law_45 19 rfl)
def dt_cL_law_46 : List (Nat × Nat × Nat × Nat) := [(1350, 42, 0, 0), (1351, 21, 1, 4), (1353, 16, 1, 6), (1355, 96, 0, 0), (1356, 46, 0, 0), (1357, 182, 2, 141), (1360, 54, 1, 6), (1362, 167, 2, 926), (1365, 43, 0, 0), (1366, 42, 0, 0), (1367, 21, 1, 4), (1369, 4, 0, 0), (1370, 96, 0, 0), (1371, 46, 0, 0), (1372, 42, 0, 0), (1373, 21, 1, 4), (1375, 5, 0, 0), (1376, 96, 0, 0), (1377, 46, 0, 0), (1378, 42, 0, 0)]
theorem da_cL_law_46 : fw dt_cL_law_46 0 cL_law.data.toList = true := by decide +kernel
theorem dL_law_1350 : decode cL_law 1350 = .ok (.aload_n 0, 1) := fo_42 (fw_get da_cL_law_46 0 rfl)
theorem dL_law_1351 : decode cL_law 1351 = .ok (.iload 4, 2) := fo_21 (fw_get da_cL_law_46 1 rfl)
theorem dL_law_1353 : decode cL_law 1353 = .ok (.bipush 6, 2) := fo_16 (fw_get da_cL_law_46 2 rfl) (by decide +kernel)
theorem dL_law_1355 : decode cL_law 1355 = .ok (.iadd, 1) := fo_96 (fw_get da_cL_law_46 3 rfl)
theorem dL_law_1356 : decode cL_law 1356 = .ok (.iaload, 1) := fo_46 (fw_get da_cL_law_46 4 rfl)
theorem dL_law_1357 : decode cL_law 1357 = .ok (.invokevirtual 141, 3) := fo_182 (fw_get da_cL_law_46 5 rfl)
theorem dL_law_1360 : decode cL_law 1360 = .ok (.istore 6, 2) := fo_54 (fw_get da_cL_law_46 6 rfl)
theorem dL_law_1362 : decode cL_law 1362 = .ok (.goto 926, 3) := fo_167 (fw_get da_cL_law_46 7 rfl) (by decide +kernel)
theorem dL_law_1365 : decode cL_law 1365 = .ok (.aload_n 1, 1) := fo_43 (fw_get da_cL_law_46 8 rfl)
theorem dL_law_1366 : decode cL_law 1366 = .ok (.aload_n 0, 1) := fo_42 (fw_get da_cL_law_46 9 rfl)
theorem dL_law_1367 : decode cL_law 1367 = .ok (.iload 4, 2) := fo_21 (fw_get da_cL_law_46 10 rfl)
theorem dL_law_1369 : decode cL_law 1369 = .ok (.iconst 1, 1) := fo_4 (fw_get da_cL_law_46 11 rfl)
theorem dL_law_1370 : decode cL_law 1370 = .ok (.iadd, 1) := fo_96 (fw_get da_cL_law_46 12 rfl)
theorem dL_law_1371 : decode cL_law 1371 = .ok (.iaload, 1) := fo_46 (fw_get da_cL_law_46 13 rfl)
theorem dL_law_1372 : decode cL_law 1372 = .ok (.aload_n 0, 1) := fo_42 (fw_get da_cL_law_46 14 rfl)
theorem dL_law_1373 : decode cL_law 1373 = .ok (.iload 4, 2) := fo_21 (fw_get da_cL_law_46 15 rfl)
theorem dL_law_1375 : decode cL_law 1375 = .ok (.iconst 2, 1) := fo_5 (fw_get da_cL_law_46 16 rfl)
theorem dL_law_1376 : decode cL_law 1376 = .ok (.iadd, 1) := fo_96 (fw_get da_cL_law_46 17 rfl)
theorem dL_law_1377 : decode cL_law 1377 = .ok (.iaload, 1) := fo_46 (fw_get da_cL_law_46 18 rfl)
theorem dL_law_1378 : decode cL_law 1378 = .ok (.aload_n 0, 1) := fo_42 (fw_get da_cL_law_46 19 rfl)
def dt_cL_law_47 : List (Nat × Nat × Nat × Nat) := [(1379, 21, 1, 4), (1381, 6, 0, 0), (1382, 96, 0, 0), (1383, 46, 0, 0), (1384, 42, 0, 0), (1385, 21, 1, 4), (1387, 7, 0, 0), (1388, 96, 0, 0), (1389, 46, 0, 0), (1390, 182, 2, 142), (1393, 87, 0, 0), (1394, 44, 0, 0), (1395, 42, 0, 0), (1396, 21, 1, 4), (1398, 4, 0, 0), (1399, 96, 0, 0), (1400, 46, 0, 0), (1401, 42, 0, 0), (1402, 21, 1, 4), (1404, 5, 0, 0)]
theorem da_cL_law_47 : fw dt_cL_law_47 0 cL_law.data.toList = true := by decide +kernel
theorem dL_law_1379 : decode cL_law 1379 = .ok (.iload 4, 2) := fo_21 (fw_get da_cL_law_47 0 rfl)
theorem dL_law_1381 : decode cL_law 1381 = .ok (.iconst 3, 1) := fo_6 (fw_get da_cL_law_47 1 rfl)
theorem dL_law_1382 : decode cL_law 1382 = .ok (.iadd, 1) := fo_96 (fw_get da_cL_law_47 2 rfl)
theorem dL_law_1383 : decode cL_law 1383 = .ok (.iaload, 1) := fo_46 (fw_get da_cL_law_47 3 rfl)
theorem dL_law_1384 : decode cL_law 1384 = .ok (.aload_n 0, 1) := fo_42 (fw_get da_cL_law_47 4 rfl)
theorem dL_law_1385 : decode cL_law 1385 = .ok (.iload 4, 2) := fo_21 (fw_get da_cL_law_47 5 rfl)
theorem dL_law_1387 : decode cL_law 1387 = .ok (.iconst 4, 1) := fo_7 (fw_get da_cL_law_47 6 rfl)
theorem dL_law_1388 : decode cL_law 1388 = .ok (.iadd, 1) := fo_96 (fw_get da_cL_law_47 7 rfl)
theorem dL_law_1389 : decode cL_law 1389 = .ok (.iaload, 1) := fo_46 (fw_get da_cL_law_47 8 rfl)
theorem dL_law_1390 : decode cL_law 1390 = .ok (.invokevirtual 142, 3) := fo_182 (fw_get da_cL_law_47 9 rfl)
theorem dL_law_1393 : decode cL_law 1393 = .ok (.pop, 1) := fo_87 (fw_get da_cL_law_47 10 rfl)
theorem dL_law_1394 : decode cL_law 1394 = .ok (.aload_n 2, 1) := fo_44 (fw_get da_cL_law_47 11 rfl)
theorem dL_law_1395 : decode cL_law 1395 = .ok (.aload_n 0, 1) := fo_42 (fw_get da_cL_law_47 12 rfl)
theorem dL_law_1396 : decode cL_law 1396 = .ok (.iload 4, 2) := fo_21 (fw_get da_cL_law_47 13 rfl)
theorem dL_law_1398 : decode cL_law 1398 = .ok (.iconst 1, 1) := fo_4 (fw_get da_cL_law_47 14 rfl)
theorem dL_law_1399 : decode cL_law 1399 = .ok (.iadd, 1) := fo_96 (fw_get da_cL_law_47 15 rfl)
theorem dL_law_1400 : decode cL_law 1400 = .ok (.iaload, 1) := fo_46 (fw_get da_cL_law_47 16 rfl)
theorem dL_law_1401 : decode cL_law 1401 = .ok (.aload_n 0, 1) := fo_42 (fw_get da_cL_law_47 17 rfl)
theorem dL_law_1402 : decode cL_law 1402 = .ok (.iload 4, 2) := fo_21 (fw_get da_cL_law_47 18 rfl)
theorem dL_law_1404 : decode cL_law 1404 = .ok (.iconst 2, 1) := fo_5 (fw_get da_cL_law_47 19 rfl)
def dt_cL_law_48 : List (Nat × Nat × Nat × Nat) := [(1405, 96, 0, 0), (1406, 46, 0, 0), (1407, 42, 0, 0), (1408, 21, 1, 4), (1410, 6, 0, 0), (1411, 96, 0, 0), (1412, 46, 0, 0), (1413, 42, 0, 0), (1414, 21, 1, 4), (1416, 7, 0, 0)]
theorem da_cL_law_48 : fw dt_cL_law_48 0 cL_law.data.toList = true := by decide +kernel
theorem dL_law_1405 : decode cL_law 1405 = .ok (.iadd, 1) := fo_96 (fw_get da_cL_law_48 0 rfl)
theorem dL_law_1406 : decode cL_law 1406 = .ok (.iaload, 1) := fo_46 (fw_get da_cL_law_48 1 rfl)
theorem dL_law_1407 : decode cL_law 1407 = .ok (.aload_n 0, 1) := fo_42 (fw_get da_cL_law_48 2 rfl)
theorem dL_law_1408 : decode cL_law 1408 = .ok (.iload 4, 2) := fo_21 (fw_get da_cL_law_48 3 rfl)
theorem dL_law_1410 : decode cL_law 1410 = .ok (.iconst 3, 1) := fo_6 (fw_get da_cL_law_48 4 rfl)
theorem dL_law_1411 : decode cL_law 1411 = .ok (.iadd, 1) := fo_96 (fw_get da_cL_law_48 5 rfl)
theorem dL_law_1412 : decode cL_law 1412 = .ok (.iaload, 1) := fo_46 (fw_get da_cL_law_48 6 rfl)
theorem dL_law_1413 : decode cL_law 1413 = .ok (.aload_n 0, 1) := fo_42 (fw_get da_cL_law_48 7 rfl)
theorem dL_law_1414 : decode cL_law 1414 = .ok (.iload 4, 2) := fo_21 (fw_get da_cL_law_48 8 rfl)
theorem dL_law_1416 : decode cL_law 1416 = .ok (.iconst 4, 1) := fo_7 (fw_get da_cL_law_48 9 rfl)


def dt_cL_law_49 : List (Nat × Nat × Nat × Nat) := [(1417, 96, 0, 0), (1418, 46, 0, 0), (1419, 182, 2, 145), (1422, 87, 0, 0), (1423, 167, 2, 865), (1426, 43, 0, 0), (1427, 42, 0, 0), (1428, 21, 1, 4), (1430, 4, 0, 0), (1431, 96, 0, 0), (1432, 46, 0, 0), (1433, 42, 0, 0), (1434, 21, 1, 4), (1436, 5, 0, 0), (1437, 96, 0, 0), (1438, 46, 0, 0), (1439, 42, 0, 0), (1440, 21, 1, 4), (1442, 6, 0, 0), (1443, 96, 0, 0)]
theorem da_cL_law_49 : fw dt_cL_law_49 0 cL_law.data.toList = true := by decide +kernel
theorem dL_law_1417 : decode cL_law 1417 = .ok (.iadd, 1) := fo_96 (fw_get da_cL_law_49 0 rfl)
theorem dL_law_1418 : decode cL_law 1418 = .ok (.iaload, 1) := fo_46 (fw_get da_cL_law_49 1 rfl)
theorem dL_law_1419 : decode cL_law 1419 = .ok (.invokevirtual 145, 3) := fo_182 (fw_get da_cL_law_49 2 rfl)
theorem dL_law_1422 : decode cL_law 1422 = .ok (.pop, 1) := fo_87 (fw_get da_cL_law_49 3 rfl)
theorem dL_law_1423 : decode cL_law 1423 = .ok (.goto 865, 3) := fo_167 (fw_get da_cL_law_49 4 rfl) (by decide +kernel)
theorem dL_law_1426 : decode cL_law 1426 = .ok (.aload_n 1, 1) := fo_43 (fw_get da_cL_law_49 5 rfl)
theorem dL_law_1427 : decode cL_law 1427 = .ok (.aload_n 0, 1) := fo_42 (fw_get da_cL_law_49 6 rfl)
theorem dL_law_1428 : decode cL_law 1428 = .ok (.iload 4, 2) := fo_21 (fw_get da_cL_law_49 7 rfl)
theorem dL_law_1430 : decode cL_law 1430 = .ok (.iconst 1, 1) := fo_4 (fw_get da_cL_law_49 8 rfl)
theorem dL_law_1431 : decode cL_law 1431 = .ok (.iadd, 1) := fo_96 (fw_get da_cL_law_49 9 rfl)
theorem dL_law_1432 : decode cL_law 1432 = .ok (.iaload, 1) := fo_46 (fw_get da_cL_law_49 10 rfl)
theorem dL_law_1433 : decode cL_law 1433 = .ok (.aload_n 0, 1) := fo_42 (fw_get da_cL_law_49 11 rfl)
theorem dL_law_1434 : decode cL_law 1434 = .ok (.iload 4, 2) := fo_21 (fw_get da_cL_law_49 12 rfl)
theorem dL_law_1436 : decode cL_law 1436 = .ok (.iconst 2, 1) := fo_5 (fw_get da_cL_law_49 13 rfl)
theorem dL_law_1437 : decode cL_law 1437 = .ok (.iadd, 1) := fo_96 (fw_get da_cL_law_49 14 rfl)
theorem dL_law_1438 : decode cL_law 1438 = .ok (.iaload, 1) := fo_46 (fw_get da_cL_law_49 15 rfl)
theorem dL_law_1439 : decode cL_law 1439 = .ok (.aload_n 0, 1) := fo_42 (fw_get da_cL_law_49 16 rfl)
theorem dL_law_1440 : decode cL_law 1440 = .ok (.iload 4, 2) := fo_21 (fw_get da_cL_law_49 17 rfl)
theorem dL_law_1442 : decode cL_law 1442 = .ok (.iconst 3, 1) := fo_6 (fw_get da_cL_law_49 18 rfl)
theorem dL_law_1443 : decode cL_law 1443 = .ok (.iadd, 1) := fo_96 (fw_get da_cL_law_49 19 rfl)
def dt_cL_law_50 : List (Nat × Nat × Nat × Nat) := [(1444, 46, 0, 0), (1445, 42, 0, 0), (1446, 21, 1, 4), (1448, 7, 0, 0), (1449, 96, 0, 0), (1450, 46, 0, 0), (1451, 182, 2, 146), (1454, 87, 0, 0), (1455, 44, 0, 0), (1456, 42, 0, 0), (1457, 21, 1, 4), (1459, 4, 0, 0), (1460, 96, 0, 0), (1461, 46, 0, 0), (1462, 42, 0, 0), (1463, 21, 1, 4), (1465, 5, 0, 0), (1466, 96, 0, 0), (1467, 46, 0, 0), (1468, 42, 0, 0)]
theorem da_cL_law_50 : fw dt_cL_law_50 0 cL_law.data.toList = true := by decide +kernel
theorem dL_law_1444 : decode cL_law 1444 = .ok (.iaload, 1) := fo_46 (fw_get da_cL_law_50 0 rfl)
theorem dL_law_1445 : decode cL_law 1445 = .ok (.aload_n 0, 1) := fo_42 (fw_get da_cL_law_50 1 rfl)
theorem dL_law_1446 : decode cL_law 1446 = .ok (.iload 4, 2) := fo_21 (fw_get da_cL_law_50 2 rfl)
theorem dL_law_1448 : decode cL_law 1448 = .ok (.iconst 4, 1) := fo_7 (fw_get da_cL_law_50 3 rfl)
theorem dL_law_1449 : decode cL_law 1449 = .ok (.iadd, 1) := fo_96 (fw_get da_cL_law_50 4 rfl)
theorem dL_law_1450 : decode cL_law 1450 = .ok (.iaload, 1) := fo_46 (fw_get da_cL_law_50 5 rfl)
theorem dL_law_1451 : decode cL_law 1451 = .ok (.invokevirtual 146, 3) := fo_182 (fw_get da_cL_law_50 6 rfl)
theorem dL_law_1454 : decode cL_law 1454 = .ok (.pop, 1) := fo_87 (fw_get da_cL_law_50 7 rfl)
theorem dL_law_1455 : decode cL_law 1455 = .ok (.aload_n 2, 1) := fo_44 (fw_get da_cL_law_50 8 rfl)
theorem dL_law_1456 : decode cL_law 1456 = .ok (.aload_n 0, 1) := fo_42 (fw_get da_cL_law_50 9 rfl)
theorem dL_law_1457 : decode cL_law 1457 = .ok (.iload 4, 2) := fo_21 (fw_get da_cL_law_50 10 rfl)
theorem dL_law_1459 : decode cL_law 1459 = .ok (.iconst 1, 1) := fo_4 (fw_get da_cL_law_50 11 rfl)
theorem dL_law_1460 : decode cL_law 1460 = .ok (.iadd, 1) := fo_96 (fw_get da_cL_law_50 12 rfl)
theorem dL_law_1461 : decode cL_law 1461 = .ok (.iaload, 1) := fo_46 (fw_get da_cL_law_50 13 rfl)
theorem dL_law_1462 : decode cL_law 1462 = .ok (.aload_n 0, 1) := fo_42 (fw_get da_cL_law_50 14 rfl)
theorem dL_law_1463 : decode cL_law 1463 = .ok (.iload 4, 2) := fo_21 (fw_get da_cL_law_50 15 rfl)
theorem dL_law_1465 : decode cL_law 1465 = .ok (.iconst 2, 1) := fo_5 (fw_get da_cL_law_50 16 rfl)
theorem dL_law_1466 : decode cL_law 1466 = .ok (.iadd, 1) := fo_96 (fw_get da_cL_law_50 17 rfl)
theorem dL_law_1467 : decode cL_law 1467 = .ok (.iaload, 1) := fo_46 (fw_get da_cL_law_50 18 rfl)
theorem dL_law_1468 : decode cL_law 1468 = .ok (.aload_n 0, 1) := fo_42 (fw_get da_cL_law_50 19 rfl)
def dt_cL_law_51 : List (Nat × Nat × Nat × Nat) := [(1469, 21, 1, 4), (1471, 6, 0, 0), (1472, 96, 0, 0), (1473, 46, 0, 0), (1474, 42, 0, 0), (1475, 21, 1, 4), (1477, 7, 0, 0), (1478, 96, 0, 0), (1479, 46, 0, 0), (1480, 182, 2, 149), (1483, 87, 0, 0), (1484, 167, 2, 804), (1487, 43, 0, 0), (1488, 42, 0, 0), (1489, 21, 1, 4), (1491, 4, 0, 0), (1492, 96, 0, 0), (1493, 46, 0, 0), (1494, 42, 0, 0), (1495, 21, 1, 4)]
theorem da_cL_law_51 : fw dt_cL_law_51 0 cL_law.data.toList = true := by decide +kernel
theorem dL_law_1469 : decode cL_law 1469 = .ok (.iload 4, 2) := fo_21 (fw_get da_cL_law_51 0 rfl)
theorem dL_law_1471 : decode cL_law 1471 = .ok (.iconst 3, 1) := fo_6 (fw_get da_cL_law_51 1 rfl)
theorem dL_law_1472 : decode cL_law 1472 = .ok (.iadd, 1) := fo_96 (fw_get da_cL_law_51 2 rfl)
theorem dL_law_1473 : decode cL_law 1473 = .ok (.iaload, 1) := fo_46 (fw_get da_cL_law_51 3 rfl)
theorem dL_law_1474 : decode cL_law 1474 = .ok (.aload_n 0, 1) := fo_42 (fw_get da_cL_law_51 4 rfl)
theorem dL_law_1475 : decode cL_law 1475 = .ok (.iload 4, 2) := fo_21 (fw_get da_cL_law_51 5 rfl)
theorem dL_law_1477 : decode cL_law 1477 = .ok (.iconst 4, 1) := fo_7 (fw_get da_cL_law_51 6 rfl)
theorem dL_law_1478 : decode cL_law 1478 = .ok (.iadd, 1) := fo_96 (fw_get da_cL_law_51 7 rfl)
theorem dL_law_1479 : decode cL_law 1479 = .ok (.iaload, 1) := fo_46 (fw_get da_cL_law_51 8 rfl)
theorem dL_law_1480 : decode cL_law 1480 = .ok (.invokevirtual 149, 3) := fo_182 (fw_get da_cL_law_51 9 rfl)
theorem dL_law_1483 : decode cL_law 1483 = .ok (.pop, 1) := fo_87 (fw_get da_cL_law_51 10 rfl)
theorem dL_law_1484 : decode cL_law 1484 = .ok (.goto 804, 3) := fo_167 (fw_get da_cL_law_51 11 rfl) (by decide +kernel)
theorem dL_law_1487 : decode cL_law 1487 = .ok (.aload_n 1, 1) := fo_43 (fw_get da_cL_law_51 12 rfl)
theorem dL_law_1488 : decode cL_law 1488 = .ok (.aload_n 0, 1) := fo_42 (fw_get da_cL_law_51 13 rfl)
theorem dL_law_1489 : decode cL_law 1489 = .ok (.iload 4, 2) := fo_21 (fw_get da_cL_law_51 14 rfl)
theorem dL_law_1491 : decode cL_law 1491 = .ok (.iconst 1, 1) := fo_4 (fw_get da_cL_law_51 15 rfl)
theorem dL_law_1492 : decode cL_law 1492 = .ok (.iadd, 1) := fo_96 (fw_get da_cL_law_51 16 rfl)
theorem dL_law_1493 : decode cL_law 1493 = .ok (.iaload, 1) := fo_46 (fw_get da_cL_law_51 17 rfl)
theorem dL_law_1494 : decode cL_law 1494 = .ok (.aload_n 0, 1) := fo_42 (fw_get da_cL_law_51 18 rfl)
theorem dL_law_1495 : decode cL_law 1495 = .ok (.iload 4, 2) := fo_21 (fw_get da_cL_law_51 19 rfl)
def dt_cL_law_52 : List (Nat × Nat × Nat × Nat) := [(1497, 5, 0, 0), (1498, 96, 0, 0), (1499, 46, 0, 0), (1500, 182, 2, 150), (1503, 87, 0, 0), (1504, 44, 0, 0), (1505, 42, 0, 0), (1506, 21, 1, 4), (1508, 4, 0, 0), (1509, 96, 0, 0), (1510, 46, 0, 0), (1511, 42, 0, 0), (1512, 21, 1, 4), (1514, 5, 0, 0), (1515, 96, 0, 0), (1516, 46, 0, 0), (1517, 182, 2, 153), (1520, 87, 0, 0), (1521, 167, 2, 767), (1524, 43, 0, 0)]
theorem da_cL_law_52 : fw dt_cL_law_52 0 cL_law.data.toList = true := by decide +kernel
theorem dL_law_1497 : decode cL_law 1497 = .ok (.iconst 2, 1) := fo_5 (fw_get da_cL_law_52 0 rfl)
theorem dL_law_1498 : decode cL_law 1498 = .ok (.iadd, 1) := fo_96 (fw_get da_cL_law_52 1 rfl)
theorem dL_law_1499 : decode cL_law 1499 = .ok (.iaload, 1) := fo_46 (fw_get da_cL_law_52 2 rfl)
theorem dL_law_1500 : decode cL_law 1500 = .ok (.invokevirtual 150, 3) := fo_182 (fw_get da_cL_law_52 3 rfl)
theorem dL_law_1503 : decode cL_law 1503 = .ok (.pop, 1) := fo_87 (fw_get da_cL_law_52 4 rfl)
theorem dL_law_1504 : decode cL_law 1504 = .ok (.aload_n 2, 1) := fo_44 (fw_get da_cL_law_52 5 rfl)
theorem dL_law_1505 : decode cL_law 1505 = .ok (.aload_n 0, 1) := fo_42 (fw_get da_cL_law_52 6 rfl)
theorem dL_law_1506 : decode cL_law 1506 = .ok (.iload 4, 2) := fo_21 (fw_get da_cL_law_52 7 rfl)
theorem dL_law_1508 : decode cL_law 1508 = .ok (.iconst 1, 1) := fo_4 (fw_get da_cL_law_52 8 rfl)
theorem dL_law_1509 : decode cL_law 1509 = .ok (.iadd, 1) := fo_96 (fw_get da_cL_law_52 9 rfl)
theorem dL_law_1510 : decode cL_law 1510 = .ok (.iaload, 1) := fo_46 (fw_get da_cL_law_52 10 rfl)
theorem dL_law_1511 : decode cL_law 1511 = .ok (.aload_n 0, 1) := fo_42 (fw_get da_cL_law_52 11 rfl)
theorem dL_law_1512 : decode cL_law 1512 = .ok (.iload 4, 2) := fo_21 (fw_get da_cL_law_52 12 rfl)
theorem dL_law_1514 : decode cL_law 1514 = .ok (.iconst 2, 1) := fo_5 (fw_get da_cL_law_52 13 rfl)
theorem dL_law_1515 : decode cL_law 1515 = .ok (.iadd, 1) := fo_96 (fw_get da_cL_law_52 14 rfl)
theorem dL_law_1516 : decode cL_law 1516 = .ok (.iaload, 1) := fo_46 (fw_get da_cL_law_52 15 rfl)
theorem dL_law_1517 : decode cL_law 1517 = .ok (.invokevirtual 153, 3) := fo_182 (fw_get da_cL_law_52 16 rfl)
theorem dL_law_1520 : decode cL_law 1520 = .ok (.pop, 1) := fo_87 (fw_get da_cL_law_52 17 rfl)
theorem dL_law_1521 : decode cL_law 1521 = .ok (.goto 767, 3) := fo_167 (fw_get da_cL_law_52 18 rfl) (by decide +kernel)
theorem dL_law_1524 : decode cL_law 1524 = .ok (.aload_n 1, 1) := fo_43 (fw_get da_cL_law_52 19 rfl)
def dt_cL_law_53 : List (Nat × Nat × Nat × Nat) := [(1525, 42, 0, 0), (1526, 21, 1, 4), (1528, 4, 0, 0), (1529, 96, 0, 0), (1530, 46, 0, 0), (1531, 42, 0, 0), (1532, 21, 1, 4), (1534, 5, 0, 0), (1535, 96, 0, 0), (1536, 46, 0, 0), (1537, 42, 0, 0), (1538, 21, 1, 4), (1540, 6, 0, 0), (1541, 96, 0, 0), (1542, 46, 0, 0), (1543, 182, 2, 154), (1546, 87, 0, 0), (1547, 44, 0, 0), (1548, 42, 0, 0), (1549, 21, 1, 4)]
theorem da_cL_law_53 : fw dt_cL_law_53 0 cL_law.data.toList = true := by decide +kernel
theorem dL_law_1525 : decode cL_law 1525 = .ok (.aload_n 0, 1) := fo_42 (fw_get da_cL_law_53 0 rfl)
theorem dL_law_1526 : decode cL_law 1526 = .ok (.iload 4, 2) := fo_21 (fw_get da_cL_law_53 1 rfl)
theorem dL_law_1528 : decode cL_law 1528 = .ok (.iconst 1, 1) := fo_4 (fw_get da_cL_law_53 2 rfl)
theorem dL_law_1529 : decode cL_law 1529 = .ok (.iadd, 1) := fo_96 (fw_get da_cL_law_53 3 rfl)
theorem dL_law_1530 : decode cL_law 1530 = .ok (.iaload, 1) := fo_46 (fw_get da_cL_law_53 4 rfl)
theorem dL_law_1531 : decode cL_law 1531 = .ok (.aload_n 0, 1) := fo_42 (fw_get da_cL_law_53 5 rfl)
theorem dL_law_1532 : decode cL_law 1532 = .ok (.iload 4, 2) := fo_21 (fw_get da_cL_law_53 6 rfl)
theorem dL_law_1534 : decode cL_law 1534 = .ok (.iconst 2, 1) := fo_5 (fw_get da_cL_law_53 7 rfl)
theorem dL_law_1535 : decode cL_law 1535 = .ok (.iadd, 1) := fo_96 (fw_get da_cL_law_53 8 rfl)
theorem dL_law_1536 : decode cL_law 1536 = .ok (.iaload, 1) := fo_46 (fw_get da_cL_law_53 9 rfl)
theorem dL_law_1537 : decode cL_law 1537 = .ok (.aload_n 0, 1) := fo_42 (fw_get da_cL_law_53 10 rfl)
theorem dL_law_1538 : decode cL_law 1538 = .ok (.iload 4, 2) := fo_21 (fw_get da_cL_law_53 11 rfl)
theorem dL_law_1540 : decode cL_law 1540 = .ok (.iconst 3, 1) := fo_6 (fw_get da_cL_law_53 12 rfl)
theorem dL_law_1541 : decode cL_law 1541 = .ok (.iadd, 1) := fo_96 (fw_get da_cL_law_53 13 rfl)
theorem dL_law_1542 : decode cL_law 1542 = .ok (.iaload, 1) := fo_46 (fw_get da_cL_law_53 14 rfl)
theorem dL_law_1543 : decode cL_law 1543 = .ok (.invokevirtual 154, 3) := fo_182 (fw_get da_cL_law_53 15 rfl)
theorem dL_law_1546 : decode cL_law 1546 = .ok (.pop, 1) := fo_87 (fw_get da_cL_law_53 16 rfl)
theorem dL_law_1547 : decode cL_law 1547 = .ok (.aload_n 2, 1) := fo_44 (fw_get da_cL_law_53 17 rfl)
theorem dL_law_1548 : decode cL_law 1548 = .ok (.aload_n 0, 1) := fo_42 (fw_get da_cL_law_53 18 rfl)
theorem dL_law_1549 : decode cL_law 1549 = .ok (.iload 4, 2) := fo_21 (fw_get da_cL_law_53 19 rfl)
def dt_cL_law_54 : List (Nat × Nat × Nat × Nat) := [(1551, 4, 0, 0), (1552, 96, 0, 0), (1553, 46, 0, 0), (1554, 42, 0, 0), (1555, 21, 1, 4), (1557, 5, 0, 0), (1558, 96, 0, 0), (1559, 46, 0, 0), (1560, 42, 0, 0), (1561, 21, 1, 4), (1563, 6, 0, 0), (1564, 96, 0, 0), (1565, 46, 0, 0), (1566, 182, 2, 157), (1569, 87, 0, 0), (1570, 167, 2, 718), (1573, 43, 0, 0), (1574, 42, 0, 0), (1575, 21, 1, 4), (1577, 4, 0, 0)]
theorem da_cL_law_54 : fw dt_cL_law_54 0 cL_law.data.toList = true := by decide +kernel
theorem dL_law_1551 : decode cL_law 1551 = .ok (.iconst 1, 1) := fo_4 (fw_get da_cL_law_54 0 rfl)
theorem dL_law_1552 : decode cL_law 1552 = .ok (.iadd, 1) := fo_96 (fw_get da_cL_law_54 1 rfl)
theorem dL_law_1553 : decode cL_law 1553 = .ok (.iaload, 1) := fo_46 (fw_get da_cL_law_54 2 rfl)
theorem dL_law_1554 : decode cL_law 1554 = .ok (.aload_n 0, 1) := fo_42 (fw_get da_cL_law_54 3 rfl)
theorem dL_law_1555 : decode cL_law 1555 = .ok (.iload 4, 2) := fo_21 (fw_get da_cL_law_54 4 rfl)
theorem dL_law_1557 : decode cL_law 1557 = .ok (.iconst 2, 1) := fo_5 (fw_get da_cL_law_54 5 rfl)
theorem dL_law_1558 : decode cL_law 1558 = .ok (.iadd, 1) := fo_96 (fw_get da_cL_law_54 6 rfl)
theorem dL_law_1559 : decode cL_law 1559 = .ok (.iaload, 1) := fo_46 (fw_get da_cL_law_54 7 rfl)
theorem dL_law_1560 : decode cL_law 1560 = .ok (.aload_n 0, 1) := fo_42 (fw_get da_cL_law_54 8 rfl)
theorem dL_law_1561 : decode cL_law 1561 = .ok (.iload 4, 2) := fo_21 (fw_get da_cL_law_54 9 rfl)
theorem dL_law_1563 : decode cL_law 1563 = .ok (.iconst 3, 1) := fo_6 (fw_get da_cL_law_54 10 rfl)
theorem dL_law_1564 : decode cL_law 1564 = .ok (.iadd, 1) := fo_96 (fw_get da_cL_law_54 11 rfl)
theorem dL_law_1565 : decode cL_law 1565 = .ok (.iaload, 1) := fo_46 (fw_get da_cL_law_54 12 rfl)
theorem dL_law_1566 : decode cL_law 1566 = .ok (.invokevirtual 157, 3) := fo_182 (fw_get da_cL_law_54 13 rfl)
theorem dL_law_1569 : decode cL_law 1569 = .ok (.pop, 1) := fo_87 (fw_get da_cL_law_54 14 rfl)
theorem dL_law_1570 : decode cL_law 1570 = .ok (.goto 718, 3) := fo_167 (fw_get da_cL_law_54 15 rfl) (by decide +kernel)
theorem dL_law_1573 : decode cL_law 1573 = .ok (.aload_n 1, 1) := fo_43 (fw_get da_cL_law_54 16 rfl)
theorem dL_law_1574 : decode cL_law 1574 = .ok (.aload_n 0, 1) := fo_42 (fw_get da_cL_law_54 17 rfl)
theorem dL_law_1575 : decode cL_law 1575 = .ok (.iload 4, 2) := fo_21 (fw_get da_cL_law_54 18 rfl)
theorem dL_law_1577 : decode cL_law 1577 = .ok (.iconst 1, 1) := fo_4 (fw_get da_cL_law_54 19 rfl)
def dt_cL_law_55 : List (Nat × Nat × Nat × Nat) := [(1578, 96, 0, 0), (1579, 46, 0, 0), (1580, 42, 0, 0), (1581, 21, 1, 4), (1583, 5, 0, 0), (1584, 96, 0, 0), (1585, 46, 0, 0), (1586, 42, 0, 0), (1587, 21, 1, 4), (1589, 6, 0, 0), (1590, 96, 0, 0), (1591, 46, 0, 0), (1592, 42, 0, 0), (1593, 21, 1, 4), (1595, 7, 0, 0), (1596, 96, 0, 0), (1597, 46, 0, 0), (1598, 42, 0, 0), (1599, 21, 1, 4), (1601, 8, 0, 0)]
theorem da_cL_law_55 : fw dt_cL_law_55 0 cL_law.data.toList = true := by decide +kernel
theorem dL_law_1578 : decode cL_law 1578 = .ok (.iadd, 1) := fo_96 (fw_get da_cL_law_55 0 rfl)
theorem dL_law_1579 : decode cL_law 1579 = .ok (.iaload, 1) := fo_46 (fw_get da_cL_law_55 1 rfl)
theorem dL_law_1580 : decode cL_law 1580 = .ok (.aload_n 0, 1) := fo_42 (fw_get da_cL_law_55 2 rfl)
theorem dL_law_1581 : decode cL_law 1581 = .ok (.iload 4, 2) := fo_21 (fw_get da_cL_law_55 3 rfl)
theorem dL_law_1583 : decode cL_law 1583 = .ok (.iconst 2, 1) := fo_5 (fw_get da_cL_law_55 4 rfl)
theorem dL_law_1584 : decode cL_law 1584 = .ok (.iadd, 1) := fo_96 (fw_get da_cL_law_55 5 rfl)
theorem dL_law_1585 : decode cL_law 1585 = .ok (.iaload, 1) := fo_46 (fw_get da_cL_law_55 6 rfl)
theorem dL_law_1586 : decode cL_law 1586 = .ok (.aload_n 0, 1) := fo_42 (fw_get da_cL_law_55 7 rfl)
theorem dL_law_1587 : decode cL_law 1587 = .ok (.iload 4, 2) := fo_21 (fw_get da_cL_law_55 8 rfl)
theorem dL_law_1589 : decode cL_law 1589 = .ok (.iconst 3, 1) := fo_6 (fw_get da_cL_law_55 9 rfl)
theorem dL_law_1590 : decode cL_law 1590 = .ok (.iadd, 1) := fo_96 (fw_get da_cL_law_55 10 rfl)
theorem dL_law_1591 : decode cL_law 1591 = .ok (.iaload, 1) := fo_46 (fw_get da_cL_law_55 11 rfl)
theorem dL_law_1592 : decode cL_law 1592 = .ok (.aload_n 0, 1) := fo_42 (fw_get da_cL_law_55 12 rfl)
theorem dL_law_1593 : decode cL_law 1593 = .ok (.iload 4, 2) := fo_21 (fw_get da_cL_law_55 13 rfl)
theorem dL_law_1595 : decode cL_law 1595 = .ok (.iconst 4, 1) := fo_7 (fw_get da_cL_law_55 14 rfl)
theorem dL_law_1596 : decode cL_law 1596 = .ok (.iadd, 1) := fo_96 (fw_get da_cL_law_55 15 rfl)
theorem dL_law_1597 : decode cL_law 1597 = .ok (.iaload, 1) := fo_46 (fw_get da_cL_law_55 16 rfl)
theorem dL_law_1598 : decode cL_law 1598 = .ok (.aload_n 0, 1) := fo_42 (fw_get da_cL_law_55 17 rfl)
theorem dL_law_1599 : decode cL_law 1599 = .ok (.iload 4, 2) := fo_21 (fw_get da_cL_law_55 18 rfl)
theorem dL_law_1601 : decode cL_law 1601 = .ok (.iconst 5, 1) := fo_8 (fw_get da_cL_law_55 19 rfl)
def dt_cL_law_56 : List (Nat × Nat × Nat × Nat) := [(1602, 96, 0, 0), (1603, 46, 0, 0), (1604, 42, 0, 0), (1605, 21, 1, 4), (1607, 16, 1, 6), (1609, 96, 0, 0), (1610, 46, 0, 0), (1611, 182, 2, 158), (1614, 87, 0, 0), (1615, 44, 0, 0)]
theorem da_cL_law_56 : fw dt_cL_law_56 0 cL_law.data.toList = true := by decide +kernel
theorem dL_law_1602 : decode cL_law 1602 = .ok (.iadd, 1) := fo_96 (fw_get da_cL_law_56 0 rfl)
theorem dL_law_1603 : decode cL_law 1603 = .ok (.iaload, 1) := fo_46 (fw_get da_cL_law_56 1 rfl)
theorem dL_law_1604 : decode cL_law 1604 = .ok (.aload_n 0, 1) := fo_42 (fw_get da_cL_law_56 2 rfl)
theorem dL_law_1605 : decode cL_law 1605 = .ok (.iload 4, 2) := fo_21 (fw_get da_cL_law_56 3 rfl)
theorem dL_law_1607 : decode cL_law 1607 = .ok (.bipush 6, 2) := fo_16 (fw_get da_cL_law_56 4 rfl) (by decide +kernel)
theorem dL_law_1609 : decode cL_law 1609 = .ok (.iadd, 1) := fo_96 (fw_get da_cL_law_56 5 rfl)
theorem dL_law_1610 : decode cL_law 1610 = .ok (.iaload, 1) := fo_46 (fw_get da_cL_law_56 6 rfl)
theorem dL_law_1611 : decode cL_law 1611 = .ok (.invokevirtual 158, 3) := fo_182 (fw_get da_cL_law_56 7 rfl)
theorem dL_law_1614 : decode cL_law 1614 = .ok (.pop, 1) := fo_87 (fw_get da_cL_law_56 8 rfl)
theorem dL_law_1615 : decode cL_law 1615 = .ok (.aload_n 2, 1) := fo_44 (fw_get da_cL_law_56 9 rfl)


def dt_cL_law_57 : List (Nat × Nat × Nat × Nat) := [(1616, 42, 0, 0), (1617, 21, 1, 4), (1619, 4, 0, 0), (1620, 96, 0, 0), (1621, 46, 0, 0), (1622, 42, 0, 0), (1623, 21, 1, 4), (1625, 5, 0, 0), (1626, 96, 0, 0), (1627, 46, 0, 0), (1628, 42, 0, 0), (1629, 21, 1, 4), (1631, 6, 0, 0), (1632, 96, 0, 0), (1633, 46, 0, 0), (1634, 42, 0, 0), (1635, 21, 1, 4), (1637, 7, 0, 0), (1638, 96, 0, 0), (1639, 46, 0, 0)]
theorem da_cL_law_57 : fw dt_cL_law_57 0 cL_law.data.toList = true := by decide +kernel
theorem dL_law_1616 : decode cL_law 1616 = .ok (.aload_n 0, 1) := fo_42 (fw_get da_cL_law_57 0 rfl)
theorem dL_law_1617 : decode cL_law 1617 = .ok (.iload 4, 2) := fo_21 (fw_get da_cL_law_57 1 rfl)
theorem dL_law_1619 : decode cL_law 1619 = .ok (.iconst 1, 1) := fo_4 (fw_get da_cL_law_57 2 rfl)
theorem dL_law_1620 : decode cL_law 1620 = .ok (.iadd, 1) := fo_96 (fw_get da_cL_law_57 3 rfl)
theorem dL_law_1621 : decode cL_law 1621 = .ok (.iaload, 1) := fo_46 (fw_get da_cL_law_57 4 rfl)
theorem dL_law_1622 : decode cL_law 1622 = .ok (.aload_n 0, 1) := fo_42 (fw_get da_cL_law_57 5 rfl)
theorem dL_law_1623 : decode cL_law 1623 = .ok (.iload 4, 2) := fo_21 (fw_get da_cL_law_57 6 rfl)
theorem dL_law_1625 : decode cL_law 1625 = .ok (.iconst 2, 1) := fo_5 (fw_get da_cL_law_57 7 rfl)
theorem dL_law_1626 : decode cL_law 1626 = .ok (.iadd, 1) := fo_96 (fw_get da_cL_law_57 8 rfl)
theorem dL_law_1627 : decode cL_law 1627 = .ok (.iaload, 1) := fo_46 (fw_get da_cL_law_57 9 rfl)
theorem dL_law_1628 : decode cL_law 1628 = .ok (.aload_n 0, 1) := fo_42 (fw_get da_cL_law_57 10 rfl)
theorem dL_law_1629 : decode cL_law 1629 = .ok (.iload 4, 2) := fo_21 (fw_get da_cL_law_57 11 rfl)
theorem dL_law_1631 : decode cL_law 1631 = .ok (.iconst 3, 1) := fo_6 (fw_get da_cL_law_57 12 rfl)
theorem dL_law_1632 : decode cL_law 1632 = .ok (.iadd, 1) := fo_96 (fw_get da_cL_law_57 13 rfl)
theorem dL_law_1633 : decode cL_law 1633 = .ok (.iaload, 1) := fo_46 (fw_get da_cL_law_57 14 rfl)
theorem dL_law_1634 : decode cL_law 1634 = .ok (.aload_n 0, 1) := fo_42 (fw_get da_cL_law_57 15 rfl)
theorem dL_law_1635 : decode cL_law 1635 = .ok (.iload 4, 2) := fo_21 (fw_get da_cL_law_57 16 rfl)
theorem dL_law_1637 : decode cL_law 1637 = .ok (.iconst 4, 1) := fo_7 (fw_get da_cL_law_57 17 rfl)
theorem dL_law_1638 : decode cL_law 1638 = .ok (.iadd, 1) := fo_96 (fw_get da_cL_law_57 18 rfl)
theorem dL_law_1639 : decode cL_law 1639 = .ok (.iaload, 1) := fo_46 (fw_get da_cL_law_57 19 rfl)
def dt_cL_law_58 : List (Nat × Nat × Nat × Nat) := [(1640, 42, 0, 0), (1641, 21, 1, 4), (1643, 8, 0, 0), (1644, 96, 0, 0), (1645, 46, 0, 0), (1646, 42, 0, 0), (1647, 21, 1, 4), (1649, 16, 1, 6), (1651, 96, 0, 0), (1652, 46, 0, 0), (1653, 182, 2, 161), (1656, 87, 0, 0), (1657, 167, 2, 631), (1660, 43, 0, 0), (1661, 42, 0, 0), (1662, 21, 1, 4), (1664, 4, 0, 0), (1665, 96, 0, 0), (1666, 46, 0, 0), (1667, 42, 0, 0)]
theorem da_cL_law_58 : fw dt_cL_law_58 0 cL_law.data.toList = true := by decide +kernel
theorem dL_law_1640 : decode cL_law 1640 = .ok (.aload_n 0, 1) := fo_42 (fw_get da_cL_law_58 0 rfl)
theorem dL_law_1641 : decode cL_law 1641 = .ok (.iload 4, 2) := fo_21 (fw_get da_cL_law_58 1 rfl)
theorem dL_law_1643 : decode cL_law 1643 = .ok (.iconst 5, 1) := fo_8 (fw_get da_cL_law_58 2 rfl)
theorem dL_law_1644 : decode cL_law 1644 = .ok (.iadd, 1) := fo_96 (fw_get da_cL_law_58 3 rfl)
theorem dL_law_1645 : decode cL_law 1645 = .ok (.iaload, 1) := fo_46 (fw_get da_cL_law_58 4 rfl)
theorem dL_law_1646 : decode cL_law 1646 = .ok (.aload_n 0, 1) := fo_42 (fw_get da_cL_law_58 5 rfl)
theorem dL_law_1647 : decode cL_law 1647 = .ok (.iload 4, 2) := fo_21 (fw_get da_cL_law_58 6 rfl)
theorem dL_law_1649 : decode cL_law 1649 = .ok (.bipush 6, 2) := fo_16 (fw_get da_cL_law_58 7 rfl) (by decide +kernel)
theorem dL_law_1651 : decode cL_law 1651 = .ok (.iadd, 1) := fo_96 (fw_get da_cL_law_58 8 rfl)
theorem dL_law_1652 : decode cL_law 1652 = .ok (.iaload, 1) := fo_46 (fw_get da_cL_law_58 9 rfl)
theorem dL_law_1653 : decode cL_law 1653 = .ok (.invokevirtual 161, 3) := fo_182 (fw_get da_cL_law_58 10 rfl)
theorem dL_law_1656 : decode cL_law 1656 = .ok (.pop, 1) := fo_87 (fw_get da_cL_law_58 11 rfl)
theorem dL_law_1657 : decode cL_law 1657 = .ok (.goto 631, 3) := fo_167 (fw_get da_cL_law_58 12 rfl) (by decide +kernel)
theorem dL_law_1660 : decode cL_law 1660 = .ok (.aload_n 1, 1) := fo_43 (fw_get da_cL_law_58 13 rfl)
theorem dL_law_1661 : decode cL_law 1661 = .ok (.aload_n 0, 1) := fo_42 (fw_get da_cL_law_58 14 rfl)
theorem dL_law_1662 : decode cL_law 1662 = .ok (.iload 4, 2) := fo_21 (fw_get da_cL_law_58 15 rfl)
theorem dL_law_1664 : decode cL_law 1664 = .ok (.iconst 1, 1) := fo_4 (fw_get da_cL_law_58 16 rfl)
theorem dL_law_1665 : decode cL_law 1665 = .ok (.iadd, 1) := fo_96 (fw_get da_cL_law_58 17 rfl)
theorem dL_law_1666 : decode cL_law 1666 = .ok (.iaload, 1) := fo_46 (fw_get da_cL_law_58 18 rfl)
theorem dL_law_1667 : decode cL_law 1667 = .ok (.aload_n 0, 1) := fo_42 (fw_get da_cL_law_58 19 rfl)
def dt_cL_law_59 : List (Nat × Nat × Nat × Nat) := [(1668, 21, 1, 4), (1670, 5, 0, 0), (1671, 96, 0, 0), (1672, 46, 0, 0), (1673, 42, 0, 0), (1674, 21, 1, 4), (1676, 6, 0, 0), (1677, 96, 0, 0), (1678, 46, 0, 0), (1679, 42, 0, 0), (1680, 21, 1, 4), (1682, 7, 0, 0), (1683, 96, 0, 0), (1684, 46, 0, 0), (1685, 42, 0, 0), (1686, 21, 1, 4), (1688, 8, 0, 0), (1689, 96, 0, 0), (1690, 46, 0, 0), (1691, 42, 0, 0)]
theorem da_cL_law_59 : fw dt_cL_law_59 0 cL_law.data.toList = true := by decide +kernel
theorem dL_law_1668 : decode cL_law 1668 = .ok (.iload 4, 2) := fo_21 (fw_get da_cL_law_59 0 rfl)
theorem dL_law_1670 : decode cL_law 1670 = .ok (.iconst 2, 1) := fo_5 (fw_get da_cL_law_59 1 rfl)
theorem dL_law_1671 : decode cL_law 1671 = .ok (.iadd, 1) := fo_96 (fw_get da_cL_law_59 2 rfl)
theorem dL_law_1672 : decode cL_law 1672 = .ok (.iaload, 1) := fo_46 (fw_get da_cL_law_59 3 rfl)
theorem dL_law_1673 : decode cL_law 1673 = .ok (.aload_n 0, 1) := fo_42 (fw_get da_cL_law_59 4 rfl)
theorem dL_law_1674 : decode cL_law 1674 = .ok (.iload 4, 2) := fo_21 (fw_get da_cL_law_59 5 rfl)
theorem dL_law_1676 : decode cL_law 1676 = .ok (.iconst 3, 1) := fo_6 (fw_get da_cL_law_59 6 rfl)
theorem dL_law_1677 : decode cL_law 1677 = .ok (.iadd, 1) := fo_96 (fw_get da_cL_law_59 7 rfl)
theorem dL_law_1678 : decode cL_law 1678 = .ok (.iaload, 1) := fo_46 (fw_get da_cL_law_59 8 rfl)
theorem dL_law_1679 : decode cL_law 1679 = .ok (.aload_n 0, 1) := fo_42 (fw_get da_cL_law_59 9 rfl)
theorem dL_law_1680 : decode cL_law 1680 = .ok (.iload 4, 2) := fo_21 (fw_get da_cL_law_59 10 rfl)
theorem dL_law_1682 : decode cL_law 1682 = .ok (.iconst 4, 1) := fo_7 (fw_get da_cL_law_59 11 rfl)
theorem dL_law_1683 : decode cL_law 1683 = .ok (.iadd, 1) := fo_96 (fw_get da_cL_law_59 12 rfl)
theorem dL_law_1684 : decode cL_law 1684 = .ok (.iaload, 1) := fo_46 (fw_get da_cL_law_59 13 rfl)
theorem dL_law_1685 : decode cL_law 1685 = .ok (.aload_n 0, 1) := fo_42 (fw_get da_cL_law_59 14 rfl)
theorem dL_law_1686 : decode cL_law 1686 = .ok (.iload 4, 2) := fo_21 (fw_get da_cL_law_59 15 rfl)
theorem dL_law_1688 : decode cL_law 1688 = .ok (.iconst 5, 1) := fo_8 (fw_get da_cL_law_59 16 rfl)
theorem dL_law_1689 : decode cL_law 1689 = .ok (.iadd, 1) := fo_96 (fw_get da_cL_law_59 17 rfl)
theorem dL_law_1690 : decode cL_law 1690 = .ok (.iaload, 1) := fo_46 (fw_get da_cL_law_59 18 rfl)
theorem dL_law_1691 : decode cL_law 1691 = .ok (.aload_n 0, 1) := fo_42 (fw_get da_cL_law_59 19 rfl)
def dt_cL_law_60 : List (Nat × Nat × Nat × Nat) := [(1692, 21, 1, 4), (1694, 16, 1, 6), (1696, 96, 0, 0), (1697, 46, 0, 0), (1698, 42, 0, 0), (1699, 21, 1, 4), (1701, 16, 1, 7), (1703, 96, 0, 0), (1704, 46, 0, 0), (1705, 182, 2, 162), (1708, 87, 0, 0), (1709, 44, 0, 0), (1710, 42, 0, 0), (1711, 21, 1, 4), (1713, 4, 0, 0), (1714, 96, 0, 0), (1715, 46, 0, 0), (1716, 42, 0, 0), (1717, 21, 1, 4), (1719, 5, 0, 0)]
theorem da_cL_law_60 : fw dt_cL_law_60 0 cL_law.data.toList = true := by decide +kernel
theorem dL_law_1692 : decode cL_law 1692 = .ok (.iload 4, 2) := fo_21 (fw_get da_cL_law_60 0 rfl)
theorem dL_law_1694 : decode cL_law 1694 = .ok (.bipush 6, 2) := fo_16 (fw_get da_cL_law_60 1 rfl) (by decide +kernel)
theorem dL_law_1696 : decode cL_law 1696 = .ok (.iadd, 1) := fo_96 (fw_get da_cL_law_60 2 rfl)
theorem dL_law_1697 : decode cL_law 1697 = .ok (.iaload, 1) := fo_46 (fw_get da_cL_law_60 3 rfl)
theorem dL_law_1698 : decode cL_law 1698 = .ok (.aload_n 0, 1) := fo_42 (fw_get da_cL_law_60 4 rfl)
theorem dL_law_1699 : decode cL_law 1699 = .ok (.iload 4, 2) := fo_21 (fw_get da_cL_law_60 5 rfl)
theorem dL_law_1701 : decode cL_law 1701 = .ok (.bipush 7, 2) := fo_16 (fw_get da_cL_law_60 6 rfl) (by decide +kernel)
theorem dL_law_1703 : decode cL_law 1703 = .ok (.iadd, 1) := fo_96 (fw_get da_cL_law_60 7 rfl)
theorem dL_law_1704 : decode cL_law 1704 = .ok (.iaload, 1) := fo_46 (fw_get da_cL_law_60 8 rfl)
theorem dL_law_1705 : decode cL_law 1705 = .ok (.invokevirtual 162, 3) := fo_182 (fw_get da_cL_law_60 9 rfl)
theorem dL_law_1708 : decode cL_law 1708 = .ok (.pop, 1) := fo_87 (fw_get da_cL_law_60 10 rfl)
theorem dL_law_1709 : decode cL_law 1709 = .ok (.aload_n 2, 1) := fo_44 (fw_get da_cL_law_60 11 rfl)
theorem dL_law_1710 : decode cL_law 1710 = .ok (.aload_n 0, 1) := fo_42 (fw_get da_cL_law_60 12 rfl)
theorem dL_law_1711 : decode cL_law 1711 = .ok (.iload 4, 2) := fo_21 (fw_get da_cL_law_60 13 rfl)
theorem dL_law_1713 : decode cL_law 1713 = .ok (.iconst 1, 1) := fo_4 (fw_get da_cL_law_60 14 rfl)
theorem dL_law_1714 : decode cL_law 1714 = .ok (.iadd, 1) := fo_96 (fw_get da_cL_law_60 15 rfl)
theorem dL_law_1715 : decode cL_law 1715 = .ok (.iaload, 1) := fo_46 (fw_get da_cL_law_60 16 rfl)
theorem dL_law_1716 : decode cL_law 1716 = .ok (.aload_n 0, 1) := fo_42 (fw_get da_cL_law_60 17 rfl)
theorem dL_law_1717 : decode cL_law 1717 = .ok (.iload 4, 2) := fo_21 (fw_get da_cL_law_60 18 rfl)
theorem dL_law_1719 : decode cL_law 1719 = .ok (.iconst 2, 1) := fo_5 (fw_get da_cL_law_60 19 rfl)
def dt_cL_law_61 : List (Nat × Nat × Nat × Nat) := [(1720, 96, 0, 0), (1721, 46, 0, 0), (1722, 42, 0, 0), (1723, 21, 1, 4), (1725, 6, 0, 0), (1726, 96, 0, 0), (1727, 46, 0, 0), (1728, 42, 0, 0), (1729, 21, 1, 4), (1731, 7, 0, 0), (1732, 96, 0, 0), (1733, 46, 0, 0), (1734, 42, 0, 0), (1735, 21, 1, 4), (1737, 8, 0, 0), (1738, 96, 0, 0), (1739, 46, 0, 0), (1740, 42, 0, 0), (1741, 21, 1, 4), (1743, 16, 1, 6)]
theorem da_cL_law_61 : fw dt_cL_law_61 0 cL_law.data.toList = true := by decide +kernel
theorem dL_law_1720 : decode cL_law 1720 = .ok (.iadd, 1) := fo_96 (fw_get da_cL_law_61 0 rfl)
theorem dL_law_1721 : decode cL_law 1721 = .ok (.iaload, 1) := fo_46 (fw_get da_cL_law_61 1 rfl)
theorem dL_law_1722 : decode cL_law 1722 = .ok (.aload_n 0, 1) := fo_42 (fw_get da_cL_law_61 2 rfl)
theorem dL_law_1723 : decode cL_law 1723 = .ok (.iload 4, 2) := fo_21 (fw_get da_cL_law_61 3 rfl)
theorem dL_law_1725 : decode cL_law 1725 = .ok (.iconst 3, 1) := fo_6 (fw_get da_cL_law_61 4 rfl)
theorem dL_law_1726 : decode cL_law 1726 = .ok (.iadd, 1) := fo_96 (fw_get da_cL_law_61 5 rfl)
theorem dL_law_1727 : decode cL_law 1727 = .ok (.iaload, 1) := fo_46 (fw_get da_cL_law_61 6 rfl)
theorem dL_law_1728 : decode cL_law 1728 = .ok (.aload_n 0, 1) := fo_42 (fw_get da_cL_law_61 7 rfl)
theorem dL_law_1729 : decode cL_law 1729 = .ok (.iload 4, 2) := fo_21 (fw_get da_cL_law_61 8 rfl)
theorem dL_law_1731 : decode cL_law 1731 = .ok (.iconst 4, 1) := fo_7 (fw_get da_cL_law_61 9 rfl)
theorem dL_law_1732 : decode cL_law 1732 = .ok (.iadd, 1) := fo_96 (fw_get da_cL_law_61 10 rfl)
theorem dL_law_1733 : decode cL_law 1733 = .ok (.iaload, 1) := fo_46 (fw_get da_cL_law_61 11 rfl)
theorem dL_law_1734 : decode cL_law 1734 = .ok (.aload_n 0, 1) := fo_42 (fw_get da_cL_law_61 12 rfl)
theorem dL_law_1735 : decode cL_law 1735 = .ok (.iload 4, 2) := fo_21 (fw_get da_cL_law_61 13 rfl)
theorem dL_law_1737 : decode cL_law 1737 = .ok (.iconst 5, 1) := fo_8 (fw_get da_cL_law_61 14 rfl)
theorem dL_law_1738 : decode cL_law 1738 = .ok (.iadd, 1) := fo_96 (fw_get da_cL_law_61 15 rfl)
theorem dL_law_1739 : decode cL_law 1739 = .ok (.iaload, 1) := fo_46 (fw_get da_cL_law_61 16 rfl)
theorem dL_law_1740 : decode cL_law 1740 = .ok (.aload_n 0, 1) := fo_42 (fw_get da_cL_law_61 17 rfl)
theorem dL_law_1741 : decode cL_law 1741 = .ok (.iload 4, 2) := fo_21 (fw_get da_cL_law_61 18 rfl)
theorem dL_law_1743 : decode cL_law 1743 = .ok (.bipush 6, 2) := fo_16 (fw_get da_cL_law_61 19 rfl) (by decide +kernel)
def dt_cL_law_62 : List (Nat × Nat × Nat × Nat) := [(1745, 96, 0, 0), (1746, 46, 0, 0), (1747, 42, 0, 0), (1748, 21, 1, 4), (1750, 16, 1, 7), (1752, 96, 0, 0), (1753, 46, 0, 0), (1754, 182, 2, 166), (1757, 87, 0, 0), (1758, 167, 2, 530), (1761, 43, 0, 0), (1762, 42, 0, 0), (1763, 21, 1, 4), (1765, 4, 0, 0), (1766, 96, 0, 0), (1767, 46, 0, 0), (1768, 42, 0, 0), (1769, 21, 1, 4), (1771, 5, 0, 0), (1772, 96, 0, 0)]
theorem da_cL_law_62 : fw dt_cL_law_62 0 cL_law.data.toList = true := by decide +kernel
theorem dL_law_1745 : decode cL_law 1745 = .ok (.iadd, 1) := fo_96 (fw_get da_cL_law_62 0 rfl)
theorem dL_law_1746 : decode cL_law 1746 = .ok (.iaload, 1) := fo_46 (fw_get da_cL_law_62 1 rfl)
theorem dL_law_1747 : decode cL_law 1747 = .ok (.aload_n 0, 1) := fo_42 (fw_get da_cL_law_62 2 rfl)
theorem dL_law_1748 : decode cL_law 1748 = .ok (.iload 4, 2) := fo_21 (fw_get da_cL_law_62 3 rfl)
theorem dL_law_1750 : decode cL_law 1750 = .ok (.bipush 7, 2) := fo_16 (fw_get da_cL_law_62 4 rfl) (by decide +kernel)
theorem dL_law_1752 : decode cL_law 1752 = .ok (.iadd, 1) := fo_96 (fw_get da_cL_law_62 5 rfl)
theorem dL_law_1753 : decode cL_law 1753 = .ok (.iaload, 1) := fo_46 (fw_get da_cL_law_62 6 rfl)
theorem dL_law_1754 : decode cL_law 1754 = .ok (.invokevirtual 166, 3) := fo_182 (fw_get da_cL_law_62 7 rfl)
theorem dL_law_1757 : decode cL_law 1757 = .ok (.pop, 1) := fo_87 (fw_get da_cL_law_62 8 rfl)
theorem dL_law_1758 : decode cL_law 1758 = .ok (.goto 530, 3) := fo_167 (fw_get da_cL_law_62 9 rfl) (by decide +kernel)
theorem dL_law_1761 : decode cL_law 1761 = .ok (.aload_n 1, 1) := fo_43 (fw_get da_cL_law_62 10 rfl)
theorem dL_law_1762 : decode cL_law 1762 = .ok (.aload_n 0, 1) := fo_42 (fw_get da_cL_law_62 11 rfl)
theorem dL_law_1763 : decode cL_law 1763 = .ok (.iload 4, 2) := fo_21 (fw_get da_cL_law_62 12 rfl)
theorem dL_law_1765 : decode cL_law 1765 = .ok (.iconst 1, 1) := fo_4 (fw_get da_cL_law_62 13 rfl)
theorem dL_law_1766 : decode cL_law 1766 = .ok (.iadd, 1) := fo_96 (fw_get da_cL_law_62 14 rfl)
theorem dL_law_1767 : decode cL_law 1767 = .ok (.iaload, 1) := fo_46 (fw_get da_cL_law_62 15 rfl)
theorem dL_law_1768 : decode cL_law 1768 = .ok (.aload_n 0, 1) := fo_42 (fw_get da_cL_law_62 16 rfl)
theorem dL_law_1769 : decode cL_law 1769 = .ok (.iload 4, 2) := fo_21 (fw_get da_cL_law_62 17 rfl)
theorem dL_law_1771 : decode cL_law 1771 = .ok (.iconst 2, 1) := fo_5 (fw_get da_cL_law_62 18 rfl)
theorem dL_law_1772 : decode cL_law 1772 = .ok (.iadd, 1) := fo_96 (fw_get da_cL_law_62 19 rfl)
def dt_cL_law_63 : List (Nat × Nat × Nat × Nat) := [(1773, 46, 0, 0), (1774, 42, 0, 0), (1775, 21, 1, 4), (1777, 6, 0, 0), (1778, 96, 0, 0), (1779, 46, 0, 0), (1780, 42, 0, 0), (1781, 21, 1, 4), (1783, 7, 0, 0), (1784, 96, 0, 0), (1785, 46, 0, 0), (1786, 182, 2, 167), (1789, 87, 0, 0), (1790, 44, 0, 0), (1791, 42, 0, 0), (1792, 21, 1, 4), (1794, 4, 0, 0), (1795, 96, 0, 0), (1796, 46, 0, 0), (1797, 42, 0, 0)]
theorem da_cL_law_63 : fw dt_cL_law_63 0 cL_law.data.toList = true := by decide +kernel
theorem dL_law_1773 : decode cL_law 1773 = .ok (.iaload, 1) := fo_46 (fw_get da_cL_law_63 0 rfl)
theorem dL_law_1774 : decode cL_law 1774 = .ok (.aload_n 0, 1) := fo_42 (fw_get da_cL_law_63 1 rfl)
theorem dL_law_1775 : decode cL_law 1775 = .ok (.iload 4, 2) := fo_21 (fw_get da_cL_law_63 2 rfl)
theorem dL_law_1777 : decode cL_law 1777 = .ok (.iconst 3, 1) := fo_6 (fw_get da_cL_law_63 3 rfl)
theorem dL_law_1778 : decode cL_law 1778 = .ok (.iadd, 1) := fo_96 (fw_get da_cL_law_63 4 rfl)
theorem dL_law_1779 : decode cL_law 1779 = .ok (.iaload, 1) := fo_46 (fw_get da_cL_law_63 5 rfl)
theorem dL_law_1780 : decode cL_law 1780 = .ok (.aload_n 0, 1) := fo_42 (fw_get da_cL_law_63 6 rfl)
theorem dL_law_1781 : decode cL_law 1781 = .ok (.iload 4, 2) := fo_21 (fw_get da_cL_law_63 7 rfl)
theorem dL_law_1783 : decode cL_law 1783 = .ok (.iconst 4, 1) := fo_7 (fw_get da_cL_law_63 8 rfl)
theorem dL_law_1784 : decode cL_law 1784 = .ok (.iadd, 1) := fo_96 (fw_get da_cL_law_63 9 rfl)
theorem dL_law_1785 : decode cL_law 1785 = .ok (.iaload, 1) := fo_46 (fw_get da_cL_law_63 10 rfl)
theorem dL_law_1786 : decode cL_law 1786 = .ok (.invokevirtual 167, 3) := fo_182 (fw_get da_cL_law_63 11 rfl)
theorem dL_law_1789 : decode cL_law 1789 = .ok (.pop, 1) := fo_87 (fw_get da_cL_law_63 12 rfl)
theorem dL_law_1790 : decode cL_law 1790 = .ok (.aload_n 2, 1) := fo_44 (fw_get da_cL_law_63 13 rfl)
theorem dL_law_1791 : decode cL_law 1791 = .ok (.aload_n 0, 1) := fo_42 (fw_get da_cL_law_63 14 rfl)
theorem dL_law_1792 : decode cL_law 1792 = .ok (.iload 4, 2) := fo_21 (fw_get da_cL_law_63 15 rfl)
theorem dL_law_1794 : decode cL_law 1794 = .ok (.iconst 1, 1) := fo_4 (fw_get da_cL_law_63 16 rfl)
theorem dL_law_1795 : decode cL_law 1795 = .ok (.iadd, 1) := fo_96 (fw_get da_cL_law_63 17 rfl)
theorem dL_law_1796 : decode cL_law 1796 = .ok (.iaload, 1) := fo_46 (fw_get da_cL_law_63 18 rfl)
theorem dL_law_1797 : decode cL_law 1797 = .ok (.aload_n 0, 1) := fo_42 (fw_get da_cL_law_63 19 rfl)
def dt_cL_law_64 : List (Nat × Nat × Nat × Nat) := [(1798, 21, 1, 4), (1800, 5, 0, 0), (1801, 96, 0, 0), (1802, 46, 0, 0), (1803, 42, 0, 0), (1804, 21, 1, 4), (1806, 6, 0, 0), (1807, 96, 0, 0), (1808, 46, 0, 0), (1809, 42, 0, 0)]
theorem da_cL_law_64 : fw dt_cL_law_64 0 cL_law.data.toList = true := by decide +kernel
theorem dL_law_1798 : decode cL_law 1798 = .ok (.iload 4, 2) := fo_21 (fw_get da_cL_law_64 0 rfl)
theorem dL_law_1800 : decode cL_law 1800 = .ok (.iconst 2, 1) := fo_5 (fw_get da_cL_law_64 1 rfl)
theorem dL_law_1801 : decode cL_law 1801 = .ok (.iadd, 1) := fo_96 (fw_get da_cL_law_64 2 rfl)
theorem dL_law_1802 : decode cL_law 1802 = .ok (.iaload, 1) := fo_46 (fw_get da_cL_law_64 3 rfl)
theorem dL_law_1803 : decode cL_law 1803 = .ok (.aload_n 0, 1) := fo_42 (fw_get da_cL_law_64 4 rfl)
theorem dL_law_1804 : decode cL_law 1804 = .ok (.iload 4, 2) := fo_21 (fw_get da_cL_law_64 5 rfl)
theorem dL_law_1806 : decode cL_law 1806 = .ok (.iconst 3, 1) := fo_6 (fw_get da_cL_law_64 6 rfl)
theorem dL_law_1807 : decode cL_law 1807 = .ok (.iadd, 1) := fo_96 (fw_get da_cL_law_64 7 rfl)
theorem dL_law_1808 : decode cL_law 1808 = .ok (.iaload, 1) := fo_46 (fw_get da_cL_law_64 8 rfl)
theorem dL_law_1809 : decode cL_law 1809 = .ok (.aload_n 0, 1) := fo_42 (fw_get da_cL_law_64 9 rfl)


def dt_cL_law_65 : List (Nat × Nat × Nat × Nat) := [(1810, 21, 1, 4), (1812, 7, 0, 0), (1813, 96, 0, 0), (1814, 46, 0, 0), (1815, 182, 2, 170), (1818, 87, 0, 0), (1819, 167, 2, 469), (1822, 43, 0, 0), (1823, 42, 0, 0), (1824, 21, 1, 4), (1826, 4, 0, 0), (1827, 96, 0, 0), (1828, 46, 0, 0), (1829, 182, 2, 171), (1832, 87, 0, 0), (1833, 44, 0, 0), (1834, 42, 0, 0), (1835, 21, 1, 4), (1837, 4, 0, 0), (1838, 96, 0, 0)]
theorem da_cL_law_65 : fw dt_cL_law_65 0 cL_law.data.toList = true := by decide +kernel
theorem dL_law_1810 : decode cL_law 1810 = .ok (.iload 4, 2) := fo_21 (fw_get da_cL_law_65 0 rfl)
theorem dL_law_1812 : decode cL_law 1812 = .ok (.iconst 4, 1) := fo_7 (fw_get da_cL_law_65 1 rfl)
theorem dL_law_1813 : decode cL_law 1813 = .ok (.iadd, 1) := fo_96 (fw_get da_cL_law_65 2 rfl)
theorem dL_law_1814 : decode cL_law 1814 = .ok (.iaload, 1) := fo_46 (fw_get da_cL_law_65 3 rfl)
theorem dL_law_1815 : decode cL_law 1815 = .ok (.invokevirtual 170, 3) := fo_182 (fw_get da_cL_law_65 4 rfl)
theorem dL_law_1818 : decode cL_law 1818 = .ok (.pop, 1) := fo_87 (fw_get da_cL_law_65 5 rfl)
theorem dL_law_1819 : decode cL_law 1819 = .ok (.goto 469, 3) := fo_167 (fw_get da_cL_law_65 6 rfl) (by decide +kernel)
theorem dL_law_1822 : decode cL_law 1822 = .ok (.aload_n 1, 1) := fo_43 (fw_get da_cL_law_65 7 rfl)
theorem dL_law_1823 : decode cL_law 1823 = .ok (.aload_n 0, 1) := fo_42 (fw_get da_cL_law_65 8 rfl)
theorem dL_law_1824 : decode cL_law 1824 = .ok (.iload 4, 2) := fo_21 (fw_get da_cL_law_65 9 rfl)
theorem dL_law_1826 : decode cL_law 1826 = .ok (.iconst 1, 1) := fo_4 (fw_get da_cL_law_65 10 rfl)
theorem dL_law_1827 : decode cL_law 1827 = .ok (.iadd, 1) := fo_96 (fw_get da_cL_law_65 11 rfl)
theorem dL_law_1828 : decode cL_law 1828 = .ok (.iaload, 1) := fo_46 (fw_get da_cL_law_65 12 rfl)
theorem dL_law_1829 : decode cL_law 1829 = .ok (.invokevirtual 171, 3) := fo_182 (fw_get da_cL_law_65 13 rfl)
theorem dL_law_1832 : decode cL_law 1832 = .ok (.pop, 1) := fo_87 (fw_get da_cL_law_65 14 rfl)
theorem dL_law_1833 : decode cL_law 1833 = .ok (.aload_n 2, 1) := fo_44 (fw_get da_cL_law_65 15 rfl)
theorem dL_law_1834 : decode cL_law 1834 = .ok (.aload_n 0, 1) := fo_42 (fw_get da_cL_law_65 16 rfl)
theorem dL_law_1835 : decode cL_law 1835 = .ok (.iload 4, 2) := fo_21 (fw_get da_cL_law_65 17 rfl)
theorem dL_law_1837 : decode cL_law 1837 = .ok (.iconst 1, 1) := fo_4 (fw_get da_cL_law_65 18 rfl)
theorem dL_law_1838 : decode cL_law 1838 = .ok (.iadd, 1) := fo_96 (fw_get da_cL_law_65 19 rfl)
def dt_cL_law_66 : List (Nat × Nat × Nat × Nat) := [(1839, 46, 0, 0), (1840, 182, 2, 174), (1843, 87, 0, 0), (1844, 167, 2, 444), (1847, 43, 0, 0), (1848, 42, 0, 0), (1849, 21, 1, 4), (1851, 4, 0, 0), (1852, 96, 0, 0), (1853, 46, 0, 0), (1854, 42, 0, 0), (1855, 21, 1, 4), (1857, 5, 0, 0), (1858, 96, 0, 0), (1859, 46, 0, 0), (1860, 182, 2, 175), (1863, 87, 0, 0), (1864, 44, 0, 0), (1865, 42, 0, 0), (1866, 21, 1, 4)]
theorem da_cL_law_66 : fw dt_cL_law_66 0 cL_law.data.toList = true := by decide +kernel
theorem dL_law_1839 : decode cL_law 1839 = .ok (.iaload, 1) := fo_46 (fw_get da_cL_law_66 0 rfl)
theorem dL_law_1840 : decode cL_law 1840 = .ok (.invokevirtual 174, 3) := fo_182 (fw_get da_cL_law_66 1 rfl)
theorem dL_law_1843 : decode cL_law 1843 = .ok (.pop, 1) := fo_87 (fw_get da_cL_law_66 2 rfl)
theorem dL_law_1844 : decode cL_law 1844 = .ok (.goto 444, 3) := fo_167 (fw_get da_cL_law_66 3 rfl) (by decide +kernel)
theorem dL_law_1847 : decode cL_law 1847 = .ok (.aload_n 1, 1) := fo_43 (fw_get da_cL_law_66 4 rfl)
theorem dL_law_1848 : decode cL_law 1848 = .ok (.aload_n 0, 1) := fo_42 (fw_get da_cL_law_66 5 rfl)
theorem dL_law_1849 : decode cL_law 1849 = .ok (.iload 4, 2) := fo_21 (fw_get da_cL_law_66 6 rfl)
theorem dL_law_1851 : decode cL_law 1851 = .ok (.iconst 1, 1) := fo_4 (fw_get da_cL_law_66 7 rfl)
theorem dL_law_1852 : decode cL_law 1852 = .ok (.iadd, 1) := fo_96 (fw_get da_cL_law_66 8 rfl)
theorem dL_law_1853 : decode cL_law 1853 = .ok (.iaload, 1) := fo_46 (fw_get da_cL_law_66 9 rfl)
theorem dL_law_1854 : decode cL_law 1854 = .ok (.aload_n 0, 1) := fo_42 (fw_get da_cL_law_66 10 rfl)
theorem dL_law_1855 : decode cL_law 1855 = .ok (.iload 4, 2) := fo_21 (fw_get da_cL_law_66 11 rfl)
theorem dL_law_1857 : decode cL_law 1857 = .ok (.iconst 2, 1) := fo_5 (fw_get da_cL_law_66 12 rfl)
theorem dL_law_1858 : decode cL_law 1858 = .ok (.iadd, 1) := fo_96 (fw_get da_cL_law_66 13 rfl)
theorem dL_law_1859 : decode cL_law 1859 = .ok (.iaload, 1) := fo_46 (fw_get da_cL_law_66 14 rfl)
theorem dL_law_1860 : decode cL_law 1860 = .ok (.invokevirtual 175, 3) := fo_182 (fw_get da_cL_law_66 15 rfl)
theorem dL_law_1863 : decode cL_law 1863 = .ok (.pop, 1) := fo_87 (fw_get da_cL_law_66 16 rfl)
theorem dL_law_1864 : decode cL_law 1864 = .ok (.aload_n 2, 1) := fo_44 (fw_get da_cL_law_66 17 rfl)
theorem dL_law_1865 : decode cL_law 1865 = .ok (.aload_n 0, 1) := fo_42 (fw_get da_cL_law_66 18 rfl)
theorem dL_law_1866 : decode cL_law 1866 = .ok (.iload 4, 2) := fo_21 (fw_get da_cL_law_66 19 rfl)
def dt_cL_law_67 : List (Nat × Nat × Nat × Nat) := [(1868, 4, 0, 0), (1869, 96, 0, 0), (1870, 46, 0, 0), (1871, 42, 0, 0), (1872, 21, 1, 4), (1874, 5, 0, 0), (1875, 96, 0, 0), (1876, 46, 0, 0), (1877, 182, 2, 178), (1880, 87, 0, 0), (1881, 167, 2, 407), (1884, 43, 0, 0), (1885, 42, 0, 0), (1886, 21, 1, 4), (1888, 4, 0, 0), (1889, 96, 0, 0), (1890, 46, 0, 0), (1891, 42, 0, 0), (1892, 21, 1, 4), (1894, 5, 0, 0)]
theorem da_cL_law_67 : fw dt_cL_law_67 0 cL_law.data.toList = true := by decide +kernel
theorem dL_law_1868 : decode cL_law 1868 = .ok (.iconst 1, 1) := fo_4 (fw_get da_cL_law_67 0 rfl)
theorem dL_law_1869 : decode cL_law 1869 = .ok (.iadd, 1) := fo_96 (fw_get da_cL_law_67 1 rfl)
theorem dL_law_1870 : decode cL_law 1870 = .ok (.iaload, 1) := fo_46 (fw_get da_cL_law_67 2 rfl)
theorem dL_law_1871 : decode cL_law 1871 = .ok (.aload_n 0, 1) := fo_42 (fw_get da_cL_law_67 3 rfl)
theorem dL_law_1872 : decode cL_law 1872 = .ok (.iload 4, 2) := fo_21 (fw_get da_cL_law_67 4 rfl)
theorem dL_law_1874 : decode cL_law 1874 = .ok (.iconst 2, 1) := fo_5 (fw_get da_cL_law_67 5 rfl)
theorem dL_law_1875 : decode cL_law 1875 = .ok (.iadd, 1) := fo_96 (fw_get da_cL_law_67 6 rfl)
theorem dL_law_1876 : decode cL_law 1876 = .ok (.iaload, 1) := fo_46 (fw_get da_cL_law_67 7 rfl)
theorem dL_law_1877 : decode cL_law 1877 = .ok (.invokevirtual 178, 3) := fo_182 (fw_get da_cL_law_67 8 rfl)
theorem dL_law_1880 : decode cL_law 1880 = .ok (.pop, 1) := fo_87 (fw_get da_cL_law_67 9 rfl)
theorem dL_law_1881 : decode cL_law 1881 = .ok (.goto 407, 3) := fo_167 (fw_get da_cL_law_67 10 rfl) (by decide +kernel)
theorem dL_law_1884 : decode cL_law 1884 = .ok (.aload_n 1, 1) := fo_43 (fw_get da_cL_law_67 11 rfl)
theorem dL_law_1885 : decode cL_law 1885 = .ok (.aload_n 0, 1) := fo_42 (fw_get da_cL_law_67 12 rfl)
theorem dL_law_1886 : decode cL_law 1886 = .ok (.iload 4, 2) := fo_21 (fw_get da_cL_law_67 13 rfl)
theorem dL_law_1888 : decode cL_law 1888 = .ok (.iconst 1, 1) := fo_4 (fw_get da_cL_law_67 14 rfl)
theorem dL_law_1889 : decode cL_law 1889 = .ok (.iadd, 1) := fo_96 (fw_get da_cL_law_67 15 rfl)
theorem dL_law_1890 : decode cL_law 1890 = .ok (.iaload, 1) := fo_46 (fw_get da_cL_law_67 16 rfl)
theorem dL_law_1891 : decode cL_law 1891 = .ok (.aload_n 0, 1) := fo_42 (fw_get da_cL_law_67 17 rfl)
theorem dL_law_1892 : decode cL_law 1892 = .ok (.iload 4, 2) := fo_21 (fw_get da_cL_law_67 18 rfl)
theorem dL_law_1894 : decode cL_law 1894 = .ok (.iconst 2, 1) := fo_5 (fw_get da_cL_law_67 19 rfl)
def dt_cL_law_68 : List (Nat × Nat × Nat × Nat) := [(1895, 96, 0, 0), (1896, 46, 0, 0), (1897, 182, 2, 179), (1900, 87, 0, 0), (1901, 44, 0, 0), (1902, 42, 0, 0), (1903, 21, 1, 4), (1905, 4, 0, 0), (1906, 96, 0, 0), (1907, 46, 0, 0), (1908, 42, 0, 0), (1909, 21, 1, 4), (1911, 5, 0, 0), (1912, 96, 0, 0), (1913, 46, 0, 0), (1914, 182, 2, 182), (1917, 87, 0, 0), (1918, 167, 2, 370), (1921, 43, 0, 0), (1922, 182, 2, 183)]
theorem da_cL_law_68 : fw dt_cL_law_68 0 cL_law.data.toList = true := by decide +kernel
theorem dL_law_1895 : decode cL_law 1895 = .ok (.iadd, 1) := fo_96 (fw_get da_cL_law_68 0 rfl)
theorem dL_law_1896 : decode cL_law 1896 = .ok (.iaload, 1) := fo_46 (fw_get da_cL_law_68 1 rfl)
theorem dL_law_1897 : decode cL_law 1897 = .ok (.invokevirtual 179, 3) := fo_182 (fw_get da_cL_law_68 2 rfl)
theorem dL_law_1900 : decode cL_law 1900 = .ok (.pop, 1) := fo_87 (fw_get da_cL_law_68 3 rfl)
theorem dL_law_1901 : decode cL_law 1901 = .ok (.aload_n 2, 1) := fo_44 (fw_get da_cL_law_68 4 rfl)
theorem dL_law_1902 : decode cL_law 1902 = .ok (.aload_n 0, 1) := fo_42 (fw_get da_cL_law_68 5 rfl)
theorem dL_law_1903 : decode cL_law 1903 = .ok (.iload 4, 2) := fo_21 (fw_get da_cL_law_68 6 rfl)
theorem dL_law_1905 : decode cL_law 1905 = .ok (.iconst 1, 1) := fo_4 (fw_get da_cL_law_68 7 rfl)
theorem dL_law_1906 : decode cL_law 1906 = .ok (.iadd, 1) := fo_96 (fw_get da_cL_law_68 8 rfl)
theorem dL_law_1907 : decode cL_law 1907 = .ok (.iaload, 1) := fo_46 (fw_get da_cL_law_68 9 rfl)
theorem dL_law_1908 : decode cL_law 1908 = .ok (.aload_n 0, 1) := fo_42 (fw_get da_cL_law_68 10 rfl)
theorem dL_law_1909 : decode cL_law 1909 = .ok (.iload 4, 2) := fo_21 (fw_get da_cL_law_68 11 rfl)
theorem dL_law_1911 : decode cL_law 1911 = .ok (.iconst 2, 1) := fo_5 (fw_get da_cL_law_68 12 rfl)
theorem dL_law_1912 : decode cL_law 1912 = .ok (.iadd, 1) := fo_96 (fw_get da_cL_law_68 13 rfl)
theorem dL_law_1913 : decode cL_law 1913 = .ok (.iaload, 1) := fo_46 (fw_get da_cL_law_68 14 rfl)
theorem dL_law_1914 : decode cL_law 1914 = .ok (.invokevirtual 182, 3) := fo_182 (fw_get da_cL_law_68 15 rfl)
theorem dL_law_1917 : decode cL_law 1917 = .ok (.pop, 1) := fo_87 (fw_get da_cL_law_68 16 rfl)
theorem dL_law_1918 : decode cL_law 1918 = .ok (.goto 370, 3) := fo_167 (fw_get da_cL_law_68 17 rfl) (by decide +kernel)
theorem dL_law_1921 : decode cL_law 1921 = .ok (.aload_n 1, 1) := fo_43 (fw_get da_cL_law_68 18 rfl)
theorem dL_law_1922 : decode cL_law 1922 = .ok (.invokevirtual 183, 3) := fo_182 (fw_get da_cL_law_68 19 rfl)
def dt_cL_law_69 : List (Nat × Nat × Nat × Nat) := [(1925, 87, 0, 0), (1926, 44, 0, 0), (1927, 182, 2, 186), (1930, 87, 0, 0), (1931, 167, 2, 357), (1934, 43, 0, 0), (1935, 42, 0, 0), (1936, 21, 1, 4), (1938, 4, 0, 0), (1939, 96, 0, 0), (1940, 46, 0, 0), (1941, 42, 0, 0), (1942, 21, 1, 4), (1944, 5, 0, 0), (1945, 96, 0, 0), (1946, 46, 0, 0), (1947, 42, 0, 0), (1948, 21, 1, 4), (1950, 6, 0, 0), (1951, 96, 0, 0)]
theorem da_cL_law_69 : fw dt_cL_law_69 0 cL_law.data.toList = true := by decide +kernel
theorem dL_law_1925 : decode cL_law 1925 = .ok (.pop, 1) := fo_87 (fw_get da_cL_law_69 0 rfl)
theorem dL_law_1926 : decode cL_law 1926 = .ok (.aload_n 2, 1) := fo_44 (fw_get da_cL_law_69 1 rfl)
theorem dL_law_1927 : decode cL_law 1927 = .ok (.invokevirtual 186, 3) := fo_182 (fw_get da_cL_law_69 2 rfl)
theorem dL_law_1930 : decode cL_law 1930 = .ok (.pop, 1) := fo_87 (fw_get da_cL_law_69 3 rfl)
theorem dL_law_1931 : decode cL_law 1931 = .ok (.goto 357, 3) := fo_167 (fw_get da_cL_law_69 4 rfl) (by decide +kernel)
theorem dL_law_1934 : decode cL_law 1934 = .ok (.aload_n 1, 1) := fo_43 (fw_get da_cL_law_69 5 rfl)
theorem dL_law_1935 : decode cL_law 1935 = .ok (.aload_n 0, 1) := fo_42 (fw_get da_cL_law_69 6 rfl)
theorem dL_law_1936 : decode cL_law 1936 = .ok (.iload 4, 2) := fo_21 (fw_get da_cL_law_69 7 rfl)
theorem dL_law_1938 : decode cL_law 1938 = .ok (.iconst 1, 1) := fo_4 (fw_get da_cL_law_69 8 rfl)
theorem dL_law_1939 : decode cL_law 1939 = .ok (.iadd, 1) := fo_96 (fw_get da_cL_law_69 9 rfl)
theorem dL_law_1940 : decode cL_law 1940 = .ok (.iaload, 1) := fo_46 (fw_get da_cL_law_69 10 rfl)
theorem dL_law_1941 : decode cL_law 1941 = .ok (.aload_n 0, 1) := fo_42 (fw_get da_cL_law_69 11 rfl)
theorem dL_law_1942 : decode cL_law 1942 = .ok (.iload 4, 2) := fo_21 (fw_get da_cL_law_69 12 rfl)
theorem dL_law_1944 : decode cL_law 1944 = .ok (.iconst 2, 1) := fo_5 (fw_get da_cL_law_69 13 rfl)
theorem dL_law_1945 : decode cL_law 1945 = .ok (.iadd, 1) := fo_96 (fw_get da_cL_law_69 14 rfl)
theorem dL_law_1946 : decode cL_law 1946 = .ok (.iaload, 1) := fo_46 (fw_get da_cL_law_69 15 rfl)
theorem dL_law_1947 : decode cL_law 1947 = .ok (.aload_n 0, 1) := fo_42 (fw_get da_cL_law_69 16 rfl)
theorem dL_law_1948 : decode cL_law 1948 = .ok (.iload 4, 2) := fo_21 (fw_get da_cL_law_69 17 rfl)
theorem dL_law_1950 : decode cL_law 1950 = .ok (.iconst 3, 1) := fo_6 (fw_get da_cL_law_69 18 rfl)
theorem dL_law_1951 : decode cL_law 1951 = .ok (.iadd, 1) := fo_96 (fw_get da_cL_law_69 19 rfl)
def dt_cL_law_70 : List (Nat × Nat × Nat × Nat) := [(1952, 46, 0, 0), (1953, 42, 0, 0), (1954, 21, 1, 4), (1956, 7, 0, 0), (1957, 96, 0, 0), (1958, 46, 0, 0), (1959, 182, 2, 187), (1962, 44, 0, 0), (1963, 42, 0, 0), (1964, 21, 1, 4), (1966, 4, 0, 0), (1967, 96, 0, 0), (1968, 46, 0, 0), (1969, 42, 0, 0), (1970, 21, 1, 4), (1972, 5, 0, 0), (1973, 96, 0, 0), (1974, 46, 0, 0), (1975, 42, 0, 0), (1976, 21, 1, 4)]
theorem da_cL_law_70 : fw dt_cL_law_70 0 cL_law.data.toList = true := by decide +kernel
theorem dL_law_1952 : decode cL_law 1952 = .ok (.iaload, 1) := fo_46 (fw_get da_cL_law_70 0 rfl)
theorem dL_law_1953 : decode cL_law 1953 = .ok (.aload_n 0, 1) := fo_42 (fw_get da_cL_law_70 1 rfl)
theorem dL_law_1954 : decode cL_law 1954 = .ok (.iload 4, 2) := fo_21 (fw_get da_cL_law_70 2 rfl)
theorem dL_law_1956 : decode cL_law 1956 = .ok (.iconst 4, 1) := fo_7 (fw_get da_cL_law_70 3 rfl)
theorem dL_law_1957 : decode cL_law 1957 = .ok (.iadd, 1) := fo_96 (fw_get da_cL_law_70 4 rfl)
theorem dL_law_1958 : decode cL_law 1958 = .ok (.iaload, 1) := fo_46 (fw_get da_cL_law_70 5 rfl)
theorem dL_law_1959 : decode cL_law 1959 = .ok (.invokevirtual 187, 3) := fo_182 (fw_get da_cL_law_70 6 rfl)
theorem dL_law_1962 : decode cL_law 1962 = .ok (.aload_n 2, 1) := fo_44 (fw_get da_cL_law_70 7 rfl)
theorem dL_law_1963 : decode cL_law 1963 = .ok (.aload_n 0, 1) := fo_42 (fw_get da_cL_law_70 8 rfl)
theorem dL_law_1964 : decode cL_law 1964 = .ok (.iload 4, 2) := fo_21 (fw_get da_cL_law_70 9 rfl)
theorem dL_law_1966 : decode cL_law 1966 = .ok (.iconst 1, 1) := fo_4 (fw_get da_cL_law_70 10 rfl)
theorem dL_law_1967 : decode cL_law 1967 = .ok (.iadd, 1) := fo_96 (fw_get da_cL_law_70 11 rfl)
theorem dL_law_1968 : decode cL_law 1968 = .ok (.iaload, 1) := fo_46 (fw_get da_cL_law_70 12 rfl)
theorem dL_law_1969 : decode cL_law 1969 = .ok (.aload_n 0, 1) := fo_42 (fw_get da_cL_law_70 13 rfl)
theorem dL_law_1970 : decode cL_law 1970 = .ok (.iload 4, 2) := fo_21 (fw_get da_cL_law_70 14 rfl)
theorem dL_law_1972 : decode cL_law 1972 = .ok (.iconst 2, 1) := fo_5 (fw_get da_cL_law_70 15 rfl)
theorem dL_law_1973 : decode cL_law 1973 = .ok (.iadd, 1) := fo_96 (fw_get da_cL_law_70 16 rfl)
theorem dL_law_1974 : decode cL_law 1974 = .ok (.iaload, 1) := fo_46 (fw_get da_cL_law_70 17 rfl)
theorem dL_law_1975 : decode cL_law 1975 = .ok (.aload_n 0, 1) := fo_42 (fw_get da_cL_law_70 18 rfl)
theorem dL_law_1976 : decode cL_law 1976 = .ok (.iload 4, 2) := fo_21 (fw_get da_cL_law_70 19 rfl)
def dt_cL_law_71 : List (Nat × Nat × Nat × Nat) := [(1978, 6, 0, 0), (1979, 96, 0, 0), (1980, 46, 0, 0), (1981, 42, 0, 0), (1982, 21, 1, 4), (1984, 7, 0, 0), (1985, 96, 0, 0), (1986, 46, 0, 0), (1987, 182, 2, 190), (1990, 159, 2, 298), (1993, 3, 0, 0), (1995, 43, 0, 0), (1996, 42, 0, 0), (1997, 21, 1, 4), (1999, 4, 0, 0), (2000, 96, 0, 0), (2001, 46, 0, 0), (2002, 42, 0, 0), (2003, 21, 1, 4), (2005, 5, 0, 0)]
theorem da_cL_law_71 : fw dt_cL_law_71 0 cL_law.data.toList = true := by decide +kernel
theorem dL_law_1978 : decode cL_law 1978 = .ok (.iconst 3, 1) := fo_6 (fw_get da_cL_law_71 0 rfl)
theorem dL_law_1979 : decode cL_law 1979 = .ok (.iadd, 1) := fo_96 (fw_get da_cL_law_71 1 rfl)
theorem dL_law_1980 : decode cL_law 1980 = .ok (.iaload, 1) := fo_46 (fw_get da_cL_law_71 2 rfl)
theorem dL_law_1981 : decode cL_law 1981 = .ok (.aload_n 0, 1) := fo_42 (fw_get da_cL_law_71 3 rfl)
theorem dL_law_1982 : decode cL_law 1982 = .ok (.iload 4, 2) := fo_21 (fw_get da_cL_law_71 4 rfl)
theorem dL_law_1984 : decode cL_law 1984 = .ok (.iconst 4, 1) := fo_7 (fw_get da_cL_law_71 5 rfl)
theorem dL_law_1985 : decode cL_law 1985 = .ok (.iadd, 1) := fo_96 (fw_get da_cL_law_71 6 rfl)
theorem dL_law_1986 : decode cL_law 1986 = .ok (.iaload, 1) := fo_46 (fw_get da_cL_law_71 7 rfl)
theorem dL_law_1987 : decode cL_law 1987 = .ok (.invokevirtual 190, 3) := fo_182 (fw_get da_cL_law_71 8 rfl)
theorem dL_law_1990 : decode cL_law 1990 = .ok (.if_icmp .eq 298, 3) := fo_159 (fw_get da_cL_law_71 9 rfl) (by decide +kernel)
theorem dL_law_1993 : decode cL_law 1993 = .ok (.iconst 0, 1) := fo_3 (fw_get da_cL_law_71 10 rfl)
theorem dL_law_1995 : decode cL_law 1995 = .ok (.aload_n 1, 1) := fo_43 (fw_get da_cL_law_71 11 rfl)
theorem dL_law_1996 : decode cL_law 1996 = .ok (.aload_n 0, 1) := fo_42 (fw_get da_cL_law_71 12 rfl)
theorem dL_law_1997 : decode cL_law 1997 = .ok (.iload 4, 2) := fo_21 (fw_get da_cL_law_71 13 rfl)
theorem dL_law_1999 : decode cL_law 1999 = .ok (.iconst 1, 1) := fo_4 (fw_get da_cL_law_71 14 rfl)
theorem dL_law_2000 : decode cL_law 2000 = .ok (.iadd, 1) := fo_96 (fw_get da_cL_law_71 15 rfl)
theorem dL_law_2001 : decode cL_law 2001 = .ok (.iaload, 1) := fo_46 (fw_get da_cL_law_71 16 rfl)
theorem dL_law_2002 : decode cL_law 2002 = .ok (.aload_n 0, 1) := fo_42 (fw_get da_cL_law_71 17 rfl)
theorem dL_law_2003 : decode cL_law 2003 = .ok (.iload 4, 2) := fo_21 (fw_get da_cL_law_71 18 rfl)
theorem dL_law_2005 : decode cL_law 2005 = .ok (.iconst 2, 1) := fo_5 (fw_get da_cL_law_71 19 rfl)
def dt_cL_law_72 : List (Nat × Nat × Nat × Nat) := [(2006, 96, 0, 0), (2007, 46, 0, 0), (2008, 42, 0, 0), (2009, 21, 1, 4), (2011, 6, 0, 0), (2012, 96, 0, 0), (2013, 46, 0, 0), (2014, 42, 0, 0), (2015, 21, 1, 4), (2017, 7, 0, 0)]
theorem da_cL_law_72 : fw dt_cL_law_72 0 cL_law.data.toList = true := by decide +kernel
theorem dL_law_2006 : decode cL_law 2006 = .ok (.iadd, 1) := fo_96 (fw_get da_cL_law_72 0 rfl)
theorem dL_law_2007 : decode cL_law 2007 = .ok (.iaload, 1) := fo_46 (fw_get da_cL_law_72 1 rfl)
theorem dL_law_2008 : decode cL_law 2008 = .ok (.aload_n 0, 1) := fo_42 (fw_get da_cL_law_72 2 rfl)
theorem dL_law_2009 : decode cL_law 2009 = .ok (.iload 4, 2) := fo_21 (fw_get da_cL_law_72 3 rfl)
theorem dL_law_2011 : decode cL_law 2011 = .ok (.iconst 3, 1) := fo_6 (fw_get da_cL_law_72 4 rfl)
theorem dL_law_2012 : decode cL_law 2012 = .ok (.iadd, 1) := fo_96 (fw_get da_cL_law_72 5 rfl)
theorem dL_law_2013 : decode cL_law 2013 = .ok (.iaload, 1) := fo_46 (fw_get da_cL_law_72 6 rfl)
theorem dL_law_2014 : decode cL_law 2014 = .ok (.aload_n 0, 1) := fo_42 (fw_get da_cL_law_72 7 rfl)
theorem dL_law_2015 : decode cL_law 2015 = .ok (.iload 4, 2) := fo_21 (fw_get da_cL_law_72 8 rfl)
theorem dL_law_2017 : decode cL_law 2017 = .ok (.iconst 4, 1) := fo_7 (fw_get da_cL_law_72 9 rfl)


def dt_cL_law_73 : List (Nat × Nat × Nat × Nat) := [(2018, 96, 0, 0), (2019, 46, 0, 0), (2020, 42, 0, 0), (2021, 21, 1, 4), (2023, 8, 0, 0), (2024, 96, 0, 0), (2025, 46, 0, 0), (2026, 182, 2, 191), (2029, 87, 0, 0), (2030, 44, 0, 0), (2031, 42, 0, 0), (2032, 21, 1, 4), (2034, 4, 0, 0), (2035, 96, 0, 0), (2036, 46, 0, 0), (2037, 42, 0, 0), (2038, 21, 1, 4), (2040, 5, 0, 0), (2041, 96, 0, 0), (2042, 46, 0, 0)]
theorem da_cL_law_73 : fw dt_cL_law_73 0 cL_law.data.toList = true := by decide +kernel
theorem dL_law_2018 : decode cL_law 2018 = .ok (.iadd, 1) := fo_96 (fw_get da_cL_law_73 0 rfl)
theorem dL_law_2019 : decode cL_law 2019 = .ok (.iaload, 1) := fo_46 (fw_get da_cL_law_73 1 rfl)
theorem dL_law_2020 : decode cL_law 2020 = .ok (.aload_n 0, 1) := fo_42 (fw_get da_cL_law_73 2 rfl)
theorem dL_law_2021 : decode cL_law 2021 = .ok (.iload 4, 2) := fo_21 (fw_get da_cL_law_73 3 rfl)
theorem dL_law_2023 : decode cL_law 2023 = .ok (.iconst 5, 1) := fo_8 (fw_get da_cL_law_73 4 rfl)
theorem dL_law_2024 : decode cL_law 2024 = .ok (.iadd, 1) := fo_96 (fw_get da_cL_law_73 5 rfl)
theorem dL_law_2025 : decode cL_law 2025 = .ok (.iaload, 1) := fo_46 (fw_get da_cL_law_73 6 rfl)
theorem dL_law_2026 : decode cL_law 2026 = .ok (.invokevirtual 191, 3) := fo_182 (fw_get da_cL_law_73 7 rfl)
theorem dL_law_2029 : decode cL_law 2029 = .ok (.pop, 1) := fo_87 (fw_get da_cL_law_73 8 rfl)
theorem dL_law_2030 : decode cL_law 2030 = .ok (.aload_n 2, 1) := fo_44 (fw_get da_cL_law_73 9 rfl)
theorem dL_law_2031 : decode cL_law 2031 = .ok (.aload_n 0, 1) := fo_42 (fw_get da_cL_law_73 10 rfl)
theorem dL_law_2032 : decode cL_law 2032 = .ok (.iload 4, 2) := fo_21 (fw_get da_cL_law_73 11 rfl)
theorem dL_law_2034 : decode cL_law 2034 = .ok (.iconst 1, 1) := fo_4 (fw_get da_cL_law_73 12 rfl)
theorem dL_law_2035 : decode cL_law 2035 = .ok (.iadd, 1) := fo_96 (fw_get da_cL_law_73 13 rfl)
theorem dL_law_2036 : decode cL_law 2036 = .ok (.iaload, 1) := fo_46 (fw_get da_cL_law_73 14 rfl)
theorem dL_law_2037 : decode cL_law 2037 = .ok (.aload_n 0, 1) := fo_42 (fw_get da_cL_law_73 15 rfl)
theorem dL_law_2038 : decode cL_law 2038 = .ok (.iload 4, 2) := fo_21 (fw_get da_cL_law_73 16 rfl)
theorem dL_law_2040 : decode cL_law 2040 = .ok (.iconst 2, 1) := fo_5 (fw_get da_cL_law_73 17 rfl)
theorem dL_law_2041 : decode cL_law 2041 = .ok (.iadd, 1) := fo_96 (fw_get da_cL_law_73 18 rfl)
theorem dL_law_2042 : decode cL_law 2042 = .ok (.iaload, 1) := fo_46 (fw_get da_cL_law_73 19 rfl)
def dt_cL_law_74 : List (Nat × Nat × Nat × Nat) := [(2043, 42, 0, 0), (2044, 21, 1, 4), (2046, 6, 0, 0), (2047, 96, 0, 0), (2048, 46, 0, 0), (2049, 42, 0, 0), (2050, 21, 1, 4), (2052, 7, 0, 0), (2053, 96, 0, 0), (2054, 46, 0, 0), (2055, 42, 0, 0), (2056, 21, 1, 4), (2058, 8, 0, 0), (2059, 96, 0, 0), (2060, 46, 0, 0), (2061, 182, 2, 195), (2064, 87, 0, 0), (2065, 167, 2, 223), (2068, 43, 0, 0), (2069, 42, 0, 0)]
theorem da_cL_law_74 : fw dt_cL_law_74 0 cL_law.data.toList = true := by decide +kernel
theorem dL_law_2043 : decode cL_law 2043 = .ok (.aload_n 0, 1) := fo_42 (fw_get da_cL_law_74 0 rfl)
theorem dL_law_2044 : decode cL_law 2044 = .ok (.iload 4, 2) := fo_21 (fw_get da_cL_law_74 1 rfl)
theorem dL_law_2046 : decode cL_law 2046 = .ok (.iconst 3, 1) := fo_6 (fw_get da_cL_law_74 2 rfl)
theorem dL_law_2047 : decode cL_law 2047 = .ok (.iadd, 1) := fo_96 (fw_get da_cL_law_74 3 rfl)
theorem dL_law_2048 : decode cL_law 2048 = .ok (.iaload, 1) := fo_46 (fw_get da_cL_law_74 4 rfl)
theorem dL_law_2049 : decode cL_law 2049 = .ok (.aload_n 0, 1) := fo_42 (fw_get da_cL_law_74 5 rfl)
theorem dL_law_2050 : decode cL_law 2050 = .ok (.iload 4, 2) := fo_21 (fw_get da_cL_law_74 6 rfl)
theorem dL_law_2052 : decode cL_law 2052 = .ok (.iconst 4, 1) := fo_7 (fw_get da_cL_law_74 7 rfl)
theorem dL_law_2053 : decode cL_law 2053 = .ok (.iadd, 1) := fo_96 (fw_get da_cL_law_74 8 rfl)
theorem dL_law_2054 : decode cL_law 2054 = .ok (.iaload, 1) := fo_46 (fw_get da_cL_law_74 9 rfl)
theorem dL_law_2055 : decode cL_law 2055 = .ok (.aload_n 0, 1) := fo_42 (fw_get da_cL_law_74 10 rfl)
theorem dL_law_2056 : decode cL_law 2056 = .ok (.iload 4, 2) := fo_21 (fw_get da_cL_law_74 11 rfl)
theorem dL_law_2058 : decode cL_law 2058 = .ok (.iconst 5, 1) := fo_8 (fw_get da_cL_law_74 12 rfl)
theorem dL_law_2059 : decode cL_law 2059 = .ok (.iadd, 1) := fo_96 (fw_get da_cL_law_74 13 rfl)
theorem dL_law_2060 : decode cL_law 2060 = .ok (.iaload, 1) := fo_46 (fw_get da_cL_law_74 14 rfl)
theorem dL_law_2061 : decode cL_law 2061 = .ok (.invokevirtual 195, 3) := fo_182 (fw_get da_cL_law_74 15 rfl)
theorem dL_law_2064 : decode cL_law 2064 = .ok (.pop, 1) := fo_87 (fw_get da_cL_law_74 16 rfl)
theorem dL_law_2065 : decode cL_law 2065 = .ok (.goto 223, 3) := fo_167 (fw_get da_cL_law_74 17 rfl) (by decide +kernel)
theorem dL_law_2068 : decode cL_law 2068 = .ok (.aload_n 1, 1) := fo_43 (fw_get da_cL_law_74 18 rfl)
theorem dL_law_2069 : decode cL_law 2069 = .ok (.aload_n 0, 1) := fo_42 (fw_get da_cL_law_74 19 rfl)
def dt_cL_law_75 : List (Nat × Nat × Nat × Nat) := [(2070, 21, 1, 4), (2072, 4, 0, 0), (2073, 96, 0, 0), (2074, 46, 0, 0), (2075, 42, 0, 0), (2076, 21, 1, 4), (2078, 5, 0, 0), (2079, 96, 0, 0), (2080, 46, 0, 0), (2081, 42, 0, 0), (2082, 21, 1, 4), (2084, 6, 0, 0), (2085, 96, 0, 0), (2086, 46, 0, 0), (2087, 42, 0, 0), (2088, 21, 1, 4), (2090, 7, 0, 0), (2091, 96, 0, 0), (2092, 46, 0, 0), (2093, 42, 0, 0)]
theorem da_cL_law_75 : fw dt_cL_law_75 0 cL_law.data.toList = true := by decide +kernel
theorem dL_law_2070 : decode cL_law 2070 = .ok (.iload 4, 2) := fo_21 (fw_get da_cL_law_75 0 rfl)
theorem dL_law_2072 : decode cL_law 2072 = .ok (.iconst 1, 1) := fo_4 (fw_get da_cL_law_75 1 rfl)
theorem dL_law_2073 : decode cL_law 2073 = .ok (.iadd, 1) := fo_96 (fw_get da_cL_law_75 2 rfl)
theorem dL_law_2074 : decode cL_law 2074 = .ok (.iaload, 1) := fo_46 (fw_get da_cL_law_75 3 rfl)
theorem dL_law_2075 : decode cL_law 2075 = .ok (.aload_n 0, 1) := fo_42 (fw_get da_cL_law_75 4 rfl)
theorem dL_law_2076 : decode cL_law 2076 = .ok (.iload 4, 2) := fo_21 (fw_get da_cL_law_75 5 rfl)
theorem dL_law_2078 : decode cL_law 2078 = .ok (.iconst 2, 1) := fo_5 (fw_get da_cL_law_75 6 rfl)
theorem dL_law_2079 : decode cL_law 2079 = .ok (.iadd, 1) := fo_96 (fw_get da_cL_law_75 7 rfl)
theorem dL_law_2080 : decode cL_law 2080 = .ok (.iaload, 1) := fo_46 (fw_get da_cL_law_75 8 rfl)
theorem dL_law_2081 : decode cL_law 2081 = .ok (.aload_n 0, 1) := fo_42 (fw_get da_cL_law_75 9 rfl)
theorem dL_law_2082 : decode cL_law 2082 = .ok (.iload 4, 2) := fo_21 (fw_get da_cL_law_75 10 rfl)
theorem dL_law_2084 : decode cL_law 2084 = .ok (.iconst 3, 1) := fo_6 (fw_get da_cL_law_75 11 rfl)
theorem dL_law_2085 : decode cL_law 2085 = .ok (.iadd, 1) := fo_96 (fw_get da_cL_law_75 12 rfl)
theorem dL_law_2086 : decode cL_law 2086 = .ok (.iaload, 1) := fo_46 (fw_get da_cL_law_75 13 rfl)
theorem dL_law_2087 : decode cL_law 2087 = .ok (.aload_n 0, 1) := fo_42 (fw_get da_cL_law_75 14 rfl)
theorem dL_law_2088 : decode cL_law 2088 = .ok (.iload 4, 2) := fo_21 (fw_get da_cL_law_75 15 rfl)
theorem dL_law_2090 : decode cL_law 2090 = .ok (.iconst 4, 1) := fo_7 (fw_get da_cL_law_75 16 rfl)
theorem dL_law_2091 : decode cL_law 2091 = .ok (.iadd, 1) := fo_96 (fw_get da_cL_law_75 17 rfl)
theorem dL_law_2092 : decode cL_law 2092 = .ok (.iaload, 1) := fo_46 (fw_get da_cL_law_75 18 rfl)
theorem dL_law_2093 : decode cL_law 2093 = .ok (.aload_n 0, 1) := fo_42 (fw_get da_cL_law_75 19 rfl)
def dt_cL_law_76 : List (Nat × Nat × Nat × Nat) := [(2094, 21, 1, 4), (2096, 8, 0, 0), (2097, 96, 0, 0), (2098, 46, 0, 0), (2099, 182, 2, 196), (2102, 87, 0, 0), (2103, 44, 0, 0), (2104, 42, 0, 0), (2105, 21, 1, 4), (2107, 4, 0, 0), (2108, 96, 0, 0), (2109, 46, 0, 0), (2110, 42, 0, 0), (2111, 21, 1, 4), (2113, 5, 0, 0), (2114, 96, 0, 0), (2115, 46, 0, 0), (2116, 42, 0, 0), (2117, 21, 1, 4), (2119, 6, 0, 0)]
theorem da_cL_law_76 : fw dt_cL_law_76 0 cL_law.data.toList = true := by decide +kernel
theorem dL_law_2094 : decode cL_law 2094 = .ok (.iload 4, 2) := fo_21 (fw_get da_cL_law_76 0 rfl)
theorem dL_law_2096 : decode cL_law 2096 = .ok (.iconst 5, 1) := fo_8 (fw_get da_cL_law_76 1 rfl)
theorem dL_law_2097 : decode cL_law 2097 = .ok (.iadd, 1) := fo_96 (fw_get da_cL_law_76 2 rfl)
theorem dL_law_2098 : decode cL_law 2098 = .ok (.iaload, 1) := fo_46 (fw_get da_cL_law_76 3 rfl)
theorem dL_law_2099 : decode cL_law 2099 = .ok (.invokevirtual 196, 3) := fo_182 (fw_get da_cL_law_76 4 rfl)
theorem dL_law_2102 : decode cL_law 2102 = .ok (.pop, 1) := fo_87 (fw_get da_cL_law_76 5 rfl)
theorem dL_law_2103 : decode cL_law 2103 = .ok (.aload_n 2, 1) := fo_44 (fw_get da_cL_law_76 6 rfl)
theorem dL_law_2104 : decode cL_law 2104 = .ok (.aload_n 0, 1) := fo_42 (fw_get da_cL_law_76 7 rfl)
theorem dL_law_2105 : decode cL_law 2105 = .ok (.iload 4, 2) := fo_21 (fw_get da_cL_law_76 8 rfl)
theorem dL_law_2107 : decode cL_law 2107 = .ok (.iconst 1, 1) := fo_4 (fw_get da_cL_law_76 9 rfl)
theorem dL_law_2108 : decode cL_law 2108 = .ok (.iadd, 1) := fo_96 (fw_get da_cL_law_76 10 rfl)
theorem dL_law_2109 : decode cL_law 2109 = .ok (.iaload, 1) := fo_46 (fw_get da_cL_law_76 11 rfl)
theorem dL_law_2110 : decode cL_law 2110 = .ok (.aload_n 0, 1) := fo_42 (fw_get da_cL_law_76 12 rfl)
theorem dL_law_2111 : decode cL_law 2111 = .ok (.iload 4, 2) := fo_21 (fw_get da_cL_law_76 13 rfl)
theorem dL_law_2113 : decode cL_law 2113 = .ok (.iconst 2, 1) := fo_5 (fw_get da_cL_law_76 14 rfl)
theorem dL_law_2114 : decode cL_law 2114 = .ok (.iadd, 1) := fo_96 (fw_get da_cL_law_76 15 rfl)
theorem dL_law_2115 : decode cL_law 2115 = .ok (.iaload, 1) := fo_46 (fw_get da_cL_law_76 16 rfl)
theorem dL_law_2116 : decode cL_law 2116 = .ok (.aload_n 0, 1) := fo_42 (fw_get da_cL_law_76 17 rfl)
theorem dL_law_2117 : decode cL_law 2117 = .ok (.iload 4, 2) := fo_21 (fw_get da_cL_law_76 18 rfl)
theorem dL_law_2119 : decode cL_law 2119 = .ok (.iconst 3, 1) := fo_6 (fw_get da_cL_law_76 19 rfl)
def dt_cL_law_77 : List (Nat × Nat × Nat × Nat) := [(2120, 96, 0, 0), (2121, 46, 0, 0), (2122, 42, 0, 0), (2123, 21, 1, 4), (2125, 7, 0, 0), (2126, 96, 0, 0), (2127, 46, 0, 0), (2128, 42, 0, 0), (2129, 21, 1, 4), (2131, 8, 0, 0), (2132, 96, 0, 0), (2133, 46, 0, 0), (2134, 182, 2, 199), (2137, 87, 0, 0), (2138, 167, 2, 150), (2141, 43, 0, 0), (2142, 42, 0, 0), (2143, 21, 1, 4), (2145, 4, 0, 0), (2146, 96, 0, 0)]
theorem da_cL_law_77 : fw dt_cL_law_77 0 cL_law.data.toList = true := by decide +kernel
theorem dL_law_2120 : decode cL_law 2120 = .ok (.iadd, 1) := fo_96 (fw_get da_cL_law_77 0 rfl)
theorem dL_law_2121 : decode cL_law 2121 = .ok (.iaload, 1) := fo_46 (fw_get da_cL_law_77 1 rfl)
theorem dL_law_2122 : decode cL_law 2122 = .ok (.aload_n 0, 1) := fo_42 (fw_get da_cL_law_77 2 rfl)
theorem dL_law_2123 : decode cL_law 2123 = .ok (.iload 4, 2) := fo_21 (fw_get da_cL_law_77 3 rfl)
theorem dL_law_2125 : decode cL_law 2125 = .ok (.iconst 4, 1) := fo_7 (fw_get da_cL_law_77 4 rfl)
theorem dL_law_2126 : decode cL_law 2126 = .ok (.iadd, 1) := fo_96 (fw_get da_cL_law_77 5 rfl)
theorem dL_law_2127 : decode cL_law 2127 = .ok (.iaload, 1) := fo_46 (fw_get da_cL_law_77 6 rfl)
theorem dL_law_2128 : decode cL_law 2128 = .ok (.aload_n 0, 1) := fo_42 (fw_get da_cL_law_77 7 rfl)
theorem dL_law_2129 : decode cL_law 2129 = .ok (.iload 4, 2) := fo_21 (fw_get da_cL_law_77 8 rfl)
theorem dL_law_2131 : decode cL_law 2131 = .ok (.iconst 5, 1) := fo_8 (fw_get da_cL_law_77 9 rfl)
theorem dL_law_2132 : decode cL_law 2132 = .ok (.iadd, 1) := fo_96 (fw_get da_cL_law_77 10 rfl)
theorem dL_law_2133 : decode cL_law 2133 = .ok (.iaload, 1) := fo_46 (fw_get da_cL_law_77 11 rfl)
theorem dL_law_2134 : decode cL_law 2134 = .ok (.invokevirtual 199, 3) := fo_182 (fw_get da_cL_law_77 12 rfl)
theorem dL_law_2137 : decode cL_law 2137 = .ok (.pop, 1) := fo_87 (fw_get da_cL_law_77 13 rfl)
theorem dL_law_2138 : decode cL_law 2138 = .ok (.goto 150, 3) := fo_167 (fw_get da_cL_law_77 14 rfl) (by decide +kernel)
theorem dL_law_2141 : decode cL_law 2141 = .ok (.aload_n 1, 1) := fo_43 (fw_get da_cL_law_77 15 rfl)
theorem dL_law_2142 : decode cL_law 2142 = .ok (.aload_n 0, 1) := fo_42 (fw_get da_cL_law_77 16 rfl)
theorem dL_law_2143 : decode cL_law 2143 = .ok (.iload 4, 2) := fo_21 (fw_get da_cL_law_77 17 rfl)
theorem dL_law_2145 : decode cL_law 2145 = .ok (.iconst 1, 1) := fo_4 (fw_get da_cL_law_77 18 rfl)
theorem dL_law_2146 : decode cL_law 2146 = .ok (.iadd, 1) := fo_96 (fw_get da_cL_law_77 19 rfl)
def dt_cL_law_78 : List (Nat × Nat × Nat × Nat) := [(2147, 46, 0, 0), (2148, 42, 0, 0), (2149, 21, 1, 4), (2151, 5, 0, 0), (2152, 96, 0, 0), (2153, 46, 0, 0), (2154, 42, 0, 0), (2155, 21, 1, 4), (2157, 6, 0, 0), (2158, 96, 0, 0), (2159, 46, 0, 0), (2160, 42, 0, 0), (2161, 21, 1, 4), (2163, 7, 0, 0), (2164, 96, 0, 0), (2165, 46, 0, 0), (2166, 182, 2, 200), (2169, 87, 0, 0), (2170, 44, 0, 0), (2171, 42, 0, 0)]
theorem da_cL_law_78 : fw dt_cL_law_78 0 cL_law.data.toList = true := by decide +kernel
theorem dL_law_2147 : decode cL_law 2147 = .ok (.iaload, 1) := fo_46 (fw_get da_cL_law_78 0 rfl)
theorem dL_law_2148 : decode cL_law 2148 = .ok (.aload_n 0, 1) := fo_42 (fw_get da_cL_law_78 1 rfl)
theorem dL_law_2149 : decode cL_law 2149 = .ok (.iload 4, 2) := fo_21 (fw_get da_cL_law_78 2 rfl)
theorem dL_law_2151 : decode cL_law 2151 = .ok (.iconst 2, 1) := fo_5 (fw_get da_cL_law_78 3 rfl)
theorem dL_law_2152 : decode cL_law 2152 = .ok (.iadd, 1) := fo_96 (fw_get da_cL_law_78 4 rfl)
theorem dL_law_2153 : decode cL_law 2153 = .ok (.iaload, 1) := fo_46 (fw_get da_cL_law_78 5 rfl)
theorem dL_law_2154 : decode cL_law 2154 = .ok (.aload_n 0, 1) := fo_42 (fw_get da_cL_law_78 6 rfl)
theorem dL_law_2155 : decode cL_law 2155 = .ok (.iload 4, 2) := fo_21 (fw_get da_cL_law_78 7 rfl)
theorem dL_law_2157 : decode cL_law 2157 = .ok (.iconst 3, 1) := fo_6 (fw_get da_cL_law_78 8 rfl)
theorem dL_law_2158 : decode cL_law 2158 = .ok (.iadd, 1) := fo_96 (fw_get da_cL_law_78 9 rfl)
theorem dL_law_2159 : decode cL_law 2159 = .ok (.iaload, 1) := fo_46 (fw_get da_cL_law_78 10 rfl)
theorem dL_law_2160 : decode cL_law 2160 = .ok (.aload_n 0, 1) := fo_42 (fw_get da_cL_law_78 11 rfl)
theorem dL_law_2161 : decode cL_law 2161 = .ok (.iload 4, 2) := fo_21 (fw_get da_cL_law_78 12 rfl)
theorem dL_law_2163 : decode cL_law 2163 = .ok (.iconst 4, 1) := fo_7 (fw_get da_cL_law_78 13 rfl)
theorem dL_law_2164 : decode cL_law 2164 = .ok (.iadd, 1) := fo_96 (fw_get da_cL_law_78 14 rfl)
theorem dL_law_2165 : decode cL_law 2165 = .ok (.iaload, 1) := fo_46 (fw_get da_cL_law_78 15 rfl)
theorem dL_law_2166 : decode cL_law 2166 = .ok (.invokevirtual 200, 3) := fo_182 (fw_get da_cL_law_78 16 rfl)
theorem dL_law_2169 : decode cL_law 2169 = .ok (.pop, 1) := fo_87 (fw_get da_cL_law_78 17 rfl)
theorem dL_law_2170 : decode cL_law 2170 = .ok (.aload_n 2, 1) := fo_44 (fw_get da_cL_law_78 18 rfl)
theorem dL_law_2171 : decode cL_law 2171 = .ok (.aload_n 0, 1) := fo_42 (fw_get da_cL_law_78 19 rfl)
def dt_cL_law_79 : List (Nat × Nat × Nat × Nat) := [(2172, 21, 1, 4), (2174, 4, 0, 0), (2175, 96, 0, 0), (2176, 46, 0, 0), (2177, 42, 0, 0), (2178, 21, 1, 4), (2180, 5, 0, 0), (2181, 96, 0, 0), (2182, 46, 0, 0), (2183, 42, 0, 0), (2184, 21, 1, 4), (2186, 6, 0, 0), (2187, 96, 0, 0), (2188, 46, 0, 0), (2189, 42, 0, 0), (2190, 21, 1, 4), (2192, 7, 0, 0), (2193, 96, 0, 0), (2194, 46, 0, 0), (2195, 182, 2, 203)]
theorem da_cL_law_79 : fw dt_cL_law_79 0 cL_law.data.toList = true := by decide +kernel
theorem dL_law_2172 : decode cL_law 2172 = .ok (.iload 4, 2) := fo_21 (fw_get da_cL_law_79 0 rfl)
theorem dL_law_2174 : decode cL_law 2174 = .ok (.iconst 1, 1) := fo_4 (fw_get da_cL_law_79 1 rfl)
theorem dL_law_2175 : decode cL_law 2175 = .ok (.iadd, 1) := fo_96 (fw_get da_cL_law_79 2 rfl)
theorem dL_law_2176 : decode cL_law 2176 = .ok (.iaload, 1) := fo_46 (fw_get da_cL_law_79 3 rfl)
theorem dL_law_2177 : decode cL_law 2177 = .ok (.aload_n 0, 1) := fo_42 (fw_get da_cL_law_79 4 rfl)
theorem dL_law_2178 : decode cL_law 2178 = .ok (.iload 4, 2) := fo_21 (fw_get da_cL_law_79 5 rfl)
theorem dL_law_2180 : decode cL_law 2180 = .ok (.iconst 2, 1) := fo_5 (fw_get da_cL_law_79 6 rfl)
theorem dL_law_2181 : decode cL_law 2181 = .ok (.iadd, 1) := fo_96 (fw_get da_cL_law_79 7 rfl)
theorem dL_law_2182 : decode cL_law 2182 = .ok (.iaload, 1) := fo_46 (fw_get da_cL_law_79 8 rfl)
theorem dL_law_2183 : decode cL_law 2183 = .ok (.aload_n 0, 1) := fo_42 (fw_get da_cL_law_79 9 rfl)
theorem dL_law_2184 : decode cL_law 2184 = .ok (.iload 4, 2) := fo_21 (fw_get da_cL_law_79 10 rfl)
theorem dL_law_2186 : decode cL_law 2186 = .ok (.iconst 3, 1) := fo_6 (fw_get da_cL_law_79 11 rfl)
theorem dL_law_2187 : decode cL_law 2187 = .ok (.iadd, 1) := fo_96 (fw_get da_cL_law_79 12 rfl)
theorem dL_law_2188 : decode cL_law 2188 = .ok (.iaload, 1) := fo_46 (fw_get da_cL_law_79 13 rfl)
theorem dL_law_2189 : decode cL_law 2189 = .ok (.aload_n 0, 1) := fo_42 (fw_get da_cL_law_79 14 rfl)
theorem dL_law_2190 : decode cL_law 2190 = .ok (.iload 4, 2) := fo_21 (fw_get da_cL_law_79 15 rfl)
theorem dL_law_2192 : decode cL_law 2192 = .ok (.iconst 4, 1) := fo_7 (fw_get da_cL_law_79 16 rfl)
theorem dL_law_2193 : decode cL_law 2193 = .ok (.iadd, 1) := fo_96 (fw_get da_cL_law_79 17 rfl)
theorem dL_law_2194 : decode cL_law 2194 = .ok (.iaload, 1) := fo_46 (fw_get da_cL_law_79 18 rfl)
theorem dL_law_2195 : decode cL_law 2195 = .ok (.invokevirtual 203, 3) := fo_182 (fw_get da_cL_law_79 19 rfl)
def dt_cL_law_80 : List (Nat × Nat × Nat × Nat) := [(2198, 87, 0, 0), (2199, 167, 2, 89), (2202, 43, 0, 0), (2203, 42, 0, 0), (2204, 21, 1, 4), (2206, 4, 0, 0), (2207, 96, 0, 0), (2208, 46, 0, 0), (2209, 42, 0, 0), (2210, 21, 1, 4)]
theorem da_cL_law_80 : fw dt_cL_law_80 0 cL_law.data.toList = true := by decide +kernel
theorem dL_law_2198 : decode cL_law 2198 = .ok (.pop, 1) := fo_87 (fw_get da_cL_law_80 0 rfl)
theorem dL_law_2199 : decode cL_law 2199 = .ok (.goto 89, 3) := fo_167 (fw_get da_cL_law_80 1 rfl) (by decide +kernel)
theorem dL_law_2202 : decode cL_law 2202 = .ok (.aload_n 1, 1) := fo_43 (fw_get da_cL_law_80 2 rfl)
theorem dL_law_2203 : decode cL_law 2203 = .ok (.aload_n 0, 1) := fo_42 (fw_get da_cL_law_80 3 rfl)
theorem dL_law_2204 : decode cL_law 2204 = .ok (.iload 4, 2) := fo_21 (fw_get da_cL_law_80 4 rfl)
theorem dL_law_2206 : decode cL_law 2206 = .ok (.iconst 1, 1) := fo_4 (fw_get da_cL_law_80 5 rfl)
theorem dL_law_2207 : decode cL_law 2207 = .ok (.iadd, 1) := fo_96 (fw_get da_cL_law_80 6 rfl)
theorem dL_law_2208 : decode cL_law 2208 = .ok (.iaload, 1) := fo_46 (fw_get da_cL_law_80 7 rfl)
theorem dL_law_2209 : decode cL_law 2209 = .ok (.aload_n 0, 1) := fo_42 (fw_get da_cL_law_80 8 rfl)
theorem dL_law_2210 : decode cL_law 2210 = .ok (.iload 4, 2) := fo_21 (fw_get da_cL_law_80 9 rfl)


def dt_cL_law_81 : List (Nat × Nat × Nat × Nat) := [(2212, 5, 0, 0), (2213, 96, 0, 0), (2214, 46, 0, 0), (2215, 42, 0, 0), (2216, 21, 1, 4), (2218, 6, 0, 0), (2219, 96, 0, 0), (2220, 46, 0, 0), (2221, 42, 0, 0), (2222, 21, 1, 4), (2224, 7, 0, 0), (2225, 96, 0, 0), (2226, 46, 0, 0), (2227, 182, 2, 204), (2230, 87, 0, 0), (2231, 44, 0, 0), (2232, 42, 0, 0), (2233, 21, 1, 4), (2235, 4, 0, 0), (2236, 96, 0, 0)]
theorem da_cL_law_81 : fw dt_cL_law_81 0 cL_law.data.toList = true := by decide +kernel
theorem dL_law_2212 : decode cL_law 2212 = .ok (.iconst 2, 1) := fo_5 (fw_get da_cL_law_81 0 rfl)
theorem dL_law_2213 : decode cL_law 2213 = .ok (.iadd, 1) := fo_96 (fw_get da_cL_law_81 1 rfl)
theorem dL_law_2214 : decode cL_law 2214 = .ok (.iaload, 1) := fo_46 (fw_get da_cL_law_81 2 rfl)
theorem dL_law_2215 : decode cL_law 2215 = .ok (.aload_n 0, 1) := fo_42 (fw_get da_cL_law_81 3 rfl)
theorem dL_law_2216 : decode cL_law 2216 = .ok (.iload 4, 2) := fo_21 (fw_get da_cL_law_81 4 rfl)
theorem dL_law_2218 : decode cL_law 2218 = .ok (.iconst 3, 1) := fo_6 (fw_get da_cL_law_81 5 rfl)
theorem dL_law_2219 : decode cL_law 2219 = .ok (.iadd, 1) := fo_96 (fw_get da_cL_law_81 6 rfl)
theorem dL_law_2220 : decode cL_law 2220 = .ok (.iaload, 1) := fo_46 (fw_get da_cL_law_81 7 rfl)
theorem dL_law_2221 : decode cL_law 2221 = .ok (.aload_n 0, 1) := fo_42 (fw_get da_cL_law_81 8 rfl)
theorem dL_law_2222 : decode cL_law 2222 = .ok (.iload 4, 2) := fo_21 (fw_get da_cL_law_81 9 rfl)
theorem dL_law_2224 : decode cL_law 2224 = .ok (.iconst 4, 1) := fo_7 (fw_get da_cL_law_81 10 rfl)
theorem dL_law_2225 : decode cL_law 2225 = .ok (.iadd, 1) := fo_96 (fw_get da_cL_law_81 11 rfl)
theorem dL_law_2226 : decode cL_law 2226 = .ok (.iaload, 1) := fo_46 (fw_get da_cL_law_81 12 rfl)
theorem dL_law_2227 : decode cL_law 2227 = .ok (.invokevirtual 204, 3) := fo_182 (fw_get da_cL_law_81 13 rfl)
theorem dL_law_2230 : decode cL_law 2230 = .ok (.pop, 1) := fo_87 (fw_get da_cL_law_81 14 rfl)
theorem dL_law_2231 : decode cL_law 2231 = .ok (.aload_n 2, 1) := fo_44 (fw_get da_cL_law_81 15 rfl)
theorem dL_law_2232 : decode cL_law 2232 = .ok (.aload_n 0, 1) := fo_42 (fw_get da_cL_law_81 16 rfl)
theorem dL_law_2233 : decode cL_law 2233 = .ok (.iload 4, 2) := fo_21 (fw_get da_cL_law_81 17 rfl)
theorem dL_law_2235 : decode cL_law 2235 = .ok (.iconst 1, 1) := fo_4 (fw_get da_cL_law_81 18 rfl)
theorem dL_law_2236 : decode cL_law 2236 = .ok (.iadd, 1) := fo_96 (fw_get da_cL_law_81 19 rfl)
def dt_cL_law_82 : List (Nat × Nat × Nat × Nat) := [(2237, 46, 0, 0), (2238, 42, 0, 0), (2239, 21, 1, 4), (2241, 5, 0, 0), (2242, 96, 0, 0), (2243, 46, 0, 0), (2244, 42, 0, 0), (2245, 21, 1, 4), (2247, 6, 0, 0), (2248, 96, 0, 0), (2249, 46, 0, 0), (2250, 42, 0, 0), (2251, 21, 1, 4), (2253, 7, 0, 0), (2254, 96, 0, 0), (2255, 46, 0, 0), (2256, 182, 2, 207), (2259, 87, 0, 0), (2260, 167, 2, 28), (2263, 43, 0, 0)]
theorem da_cL_law_82 : fw dt_cL_law_82 0 cL_law.data.toList = true := by decide +kernel
theorem dL_law_2237 : decode cL_law 2237 = .ok (.iaload, 1) := fo_46 (fw_get da_cL_law_82 0 rfl)
theorem dL_law_2238 : decode cL_law 2238 = .ok (.aload_n 0, 1) := fo_42 (fw_get da_cL_law_82 1 rfl)
theorem dL_law_2239 : decode cL_law 2239 = .ok (.iload 4, 2) := fo_21 (fw_get da_cL_law_82 2 rfl)
theorem dL_law_2241 : decode cL_law 2241 = .ok (.iconst 2, 1) := fo_5 (fw_get da_cL_law_82 3 rfl)
theorem dL_law_2242 : decode cL_law 2242 = .ok (.iadd, 1) := fo_96 (fw_get da_cL_law_82 4 rfl)
theorem dL_law_2243 : decode cL_law 2243 = .ok (.iaload, 1) := fo_46 (fw_get da_cL_law_82 5 rfl)
theorem dL_law_2244 : decode cL_law 2244 = .ok (.aload_n 0, 1) := fo_42 (fw_get da_cL_law_82 6 rfl)
theorem dL_law_2245 : decode cL_law 2245 = .ok (.iload 4, 2) := fo_21 (fw_get da_cL_law_82 7 rfl)
theorem dL_law_2247 : decode cL_law 2247 = .ok (.iconst 3, 1) := fo_6 (fw_get da_cL_law_82 8 rfl)
theorem dL_law_2248 : decode cL_law 2248 = .ok (.iadd, 1) := fo_96 (fw_get da_cL_law_82 9 rfl)
theorem dL_law_2249 : decode cL_law 2249 = .ok (.iaload, 1) := fo_46 (fw_get da_cL_law_82 10 rfl)
theorem dL_law_2250 : decode cL_law 2250 = .ok (.aload_n 0, 1) := fo_42 (fw_get da_cL_law_82 11 rfl)
theorem dL_law_2251 : decode cL_law 2251 = .ok (.iload 4, 2) := fo_21 (fw_get da_cL_law_82 12 rfl)
theorem dL_law_2253 : decode cL_law 2253 = .ok (.iconst 4, 1) := fo_7 (fw_get da_cL_law_82 13 rfl)
theorem dL_law_2254 : decode cL_law 2254 = .ok (.iadd, 1) := fo_96 (fw_get da_cL_law_82 14 rfl)
theorem dL_law_2255 : decode cL_law 2255 = .ok (.iaload, 1) := fo_46 (fw_get da_cL_law_82 15 rfl)
theorem dL_law_2256 : decode cL_law 2256 = .ok (.invokevirtual 207, 3) := fo_182 (fw_get da_cL_law_82 16 rfl)
theorem dL_law_2259 : decode cL_law 2259 = .ok (.pop, 1) := fo_87 (fw_get da_cL_law_82 17 rfl)
theorem dL_law_2260 : decode cL_law 2260 = .ok (.goto 28, 3) := fo_167 (fw_get da_cL_law_82 18 rfl) (by decide +kernel)
theorem dL_law_2263 : decode cL_law 2263 = .ok (.aload_n 1, 1) := fo_43 (fw_get da_cL_law_82 19 rfl)
def dt_cL_law_83 : List (Nat × Nat × Nat × Nat) := [(2264, 42, 0, 0), (2265, 21, 1, 4), (2267, 4, 0, 0), (2268, 96, 0, 0), (2269, 46, 0, 0), (2270, 182, 2, 208), (2273, 87, 0, 0), (2274, 44, 0, 0), (2275, 42, 0, 0), (2276, 21, 1, 4), (2278, 4, 0, 0), (2279, 96, 0, 0), (2280, 46, 0, 0), (2281, 182, 2, 211), (2284, 87, 0, 0), (2285, 167, 2, 3), (2288, 132, 2, 1032), (2291, 167, 2, 63268), (2294, 4, 0, 0), (2295, 172, 0, 0)]
theorem da_cL_law_83 : fw dt_cL_law_83 0 cL_law.data.toList = true := by decide +kernel
theorem dL_law_2264 : decode cL_law 2264 = .ok (.aload_n 0, 1) := fo_42 (fw_get da_cL_law_83 0 rfl)
theorem dL_law_2265 : decode cL_law 2265 = .ok (.iload 4, 2) := fo_21 (fw_get da_cL_law_83 1 rfl)
theorem dL_law_2267 : decode cL_law 2267 = .ok (.iconst 1, 1) := fo_4 (fw_get da_cL_law_83 2 rfl)
theorem dL_law_2268 : decode cL_law 2268 = .ok (.iadd, 1) := fo_96 (fw_get da_cL_law_83 3 rfl)
theorem dL_law_2269 : decode cL_law 2269 = .ok (.iaload, 1) := fo_46 (fw_get da_cL_law_83 4 rfl)
theorem dL_law_2270 : decode cL_law 2270 = .ok (.invokevirtual 208, 3) := fo_182 (fw_get da_cL_law_83 5 rfl)
theorem dL_law_2273 : decode cL_law 2273 = .ok (.pop, 1) := fo_87 (fw_get da_cL_law_83 6 rfl)
theorem dL_law_2274 : decode cL_law 2274 = .ok (.aload_n 2, 1) := fo_44 (fw_get da_cL_law_83 7 rfl)
theorem dL_law_2275 : decode cL_law 2275 = .ok (.aload_n 0, 1) := fo_42 (fw_get da_cL_law_83 8 rfl)
theorem dL_law_2276 : decode cL_law 2276 = .ok (.iload 4, 2) := fo_21 (fw_get da_cL_law_83 9 rfl)
theorem dL_law_2278 : decode cL_law 2278 = .ok (.iconst 1, 1) := fo_4 (fw_get da_cL_law_83 10 rfl)
theorem dL_law_2279 : decode cL_law 2279 = .ok (.iadd, 1) := fo_96 (fw_get da_cL_law_83 11 rfl)
theorem dL_law_2280 : decode cL_law 2280 = .ok (.iaload, 1) := fo_46 (fw_get da_cL_law_83 12 rfl)
theorem dL_law_2281 : decode cL_law 2281 = .ok (.invokevirtual 211, 3) := fo_182 (fw_get da_cL_law_83 13 rfl)
theorem dL_law_2284 : decode cL_law 2284 = .ok (.pop, 1) := fo_87 (fw_get da_cL_law_83 14 rfl)
theorem dL_law_2285 : decode cL_law 2285 = .ok (.goto 3, 3) := fo_167 (fw_get da_cL_law_83 15 rfl) (by decide +kernel)
theorem dL_law_2288 : decode cL_law 2288 = .ok (.iinc 4 8, 3) := fo_132 (fw_get da_cL_law_83 16 rfl) rfl (by decide +kernel)
theorem dL_law_2291 : decode cL_law 2291 = .ok (.goto (-2268), 3) := fo_167 (fw_get da_cL_law_83 17 rfl) (by decide +kernel)
theorem dL_law_2294 : decode cL_law 2294 = .ok (.iconst 1, 1) := fo_4 (fw_get da_cL_law_83 18 rfl)
theorem dL_law_2295 : decode cL_law 2295 = .ok (.ireturn, 1) := fo_172 (fw_get da_cL_law_83 19 rfl)

