def mj_feed (f : Nat → Int32) (n : Nat) (a b : Int32) : Nat → Int32 := upd (upd (upd (upd f n (a >>> (16 &&& 31))) (n + 1) a.toInt16.toInt32) (n + 2) (b >>> (16 &&& 31))) (n + 3) b.toInt16.toInt32
theorem ki_short {x : Int32} (h1 : -32768 ≤ x.toInt) (h2 : x.toInt ≤ 32767) : x.toInt16.toInt32 = x := by
  apply Int32.toInt_inj.mp
  rw [Int16.toInt_toInt32, Int32.toInt_toInt16]
  exact Int.bmod_eq_of_le (by omega) (by omega)
theorem ki_short16 (x : Int32) : (x >>> (16 &&& 31)).toInt16.toInt32 = x >>> (16 &&& 31) := ki_short (ki_shr16 x).1 (ki_shr16 x).2
theorem shorts_feed {f : Nat → Int32} {n : Nat} (a b : Int32) (h : shorts f) : shorts (mj_feed f n a b) :=
  shorts_upd (shorts_upd (shorts_upd (shorts_upd h (ki_shr16 a).1 (ki_shr16 a).2) (ki_i2s a).1 (ki_i2s a).2) (ki_shr16 b).1 (ki_shr16 b).2) (ki_i2s b).1 (ki_i2s b).2
theorem mj_fill_one (f : Nat → Int32) {l r : Nat} (v : Int32) (h : r = l + 1) : mj_fill f l r v = upd f l v := by
  subst h
  rw [← mj_fill_step (Nat.le_refl l) rfl, mj_fill_0 f v (Nat.le_refl l)]
set_option maxHeartbeats 4000000 in
set_option maxRecDepth 100000 in
theorem c_X4_feed_x (l : Launch) (dC : Nat → ClassId) (dI : Nat → Nat → Nat) (m_ : Nat) (q_row : Nat) (q_t : Nat) (t_ : Nat) (h0 : Nat) (k0 : Nat) (w_ : Nat) (z_ : Nat) (slots : Int32) (old : Int32) (q_cell : Nat) (cyI : ClassId) (len : Int32) (f : Nat → Int32) (p0 : Int32) (p1 : Int32) (sz : Nat) (a0 : 0 ≤ len.toInt) (a1 : len.toInt ≤ 160) (s1 : shorts f) : Met l yX4_feed wsX4_feed ({ frames := 1, cells := 0, slots := 0, locals := 45 }) (va_Pc [.ref m_, .int p0, .int p1] (fun U => U.heap.size = sz ∧ va_P (dC, dI) vwCl [kx_4 m_ q_row q_t t_ h0 k0 w_ z_ slots old, kx_0 q_row q_cell len, kx_a q_cell cyI 160 f] U.heap ∧ va_K (dC, dI) vwCl [(cyI, .int)] U ∧ va_D (fun _ => True) [kx_4 m_ q_row q_t t_ h0 k0 w_ z_ slots old, kx_0 q_row q_cell len, kx_a q_cell cyI 160 f])) (va_Qi (fun (r : Int32) (u : Int32 × Int32 × (Nat → Int32)) => ((len.toInt ≤ 156 ∧ r.toInt = len.toInt + 4 ∧ u.2.1.toInt = len.toInt + 4 ∧ u.2.2 = mj_feed f len.toNatClampNeg p0 p1 ∧ u.1 = 1) ∨ (156 < len.toInt ∧ r.toInt = -1 ∧ u.2.1 = len ∧ u.2.2 = f ∧ u.1 = old)) ∧ shorts u.2.2) (fun (u : Int32 × Int32 × (Nat → Int32)) (t : State) => va_P (dC, dI) vwCl [kx_4 m_ q_row q_t t_ h0 k0 w_ z_ slots u.1, kx_0 q_row q_cell u.2.1, kx_a q_cell cyI 160 u.2.2] t.heap ∧ va_K (dC, dI) vwCl [(cyI, .int)] t ∧ va_D (va_A [kx_4 m_ q_row q_t t_ h0 k0 w_ z_ slots old, kx_0 q_row q_cell len, kx_a q_cell cyI 160 f] sz) [kx_4 m_ q_row q_t t_ h0 k0 w_ z_ slots u.1, kx_0 q_row q_cell u.2.1, kx_a q_cell cyI 160 u.2.2]) (va_A [kx_4 m_ q_row q_t t_ h0 k0 w_ z_ slots old, kx_0 q_row q_cell len, kx_a q_cell cyI 160 f] sz)) 0 0 (va_A [kx_4 m_ q_row q_t t_ h0 k0 w_ z_ slots old, kx_0 q_row q_cell len, kx_a q_cell cyI 160 f] sz) := by
  refine Met.ofW (cc := cX4_feed) (maxL := 3) (ret := (some .int)) (by decide) rfl ?_
  intro p e s m args below meth c s₁ B hml hv
  obtain ⟨rfl, hsz, hP, hK, hD0⟩ := hv
  have hx := B.exec
  have hb := B.bytes
  have hr := B.returns
  have hts := atoms_spec (ws := wsX4_feed) B.pre
  have hown : s.vm.findClass RX4 = some m.cls := findClass_of_methodNamed B.named
  have hlocks := B.notSynchronized
  subst hsz
  have hD := hD0.self (sz := s.heap.size)
  generalize hAe : va_A [kx_4 m_ q_row q_t t_ h0 k0 w_ z_ slots old, kx_0 q_row q_cell len, kx_a q_cell cyI 160 f] s.heap.size = A at hD ⊢
  have hA : ∀ q : Nat, s.heap.size ≤ q → A q := fun q h => by rw [← hAe]; exact Or.inr h
  have hS : va_S A s.heap s.heap [] := va_S.rf
  have hP : va_P (dC, dI) vwCl [kx_4 m_ q_row q_t t_ h0 k0 w_ z_ slots old, kx_0 q_row q_cell len, kx_a q_cell cyI 160 f] s.heap := hP
  have hl := lv_entry ([.ref m_, .int p0, .int p1]) (n := 3) (Nat.le_of_ble_eq_true rfl)
  rw [lg_entry_eq]
  generalize (lg_sl ([.ref m_, .int p0, .int p1]) ++ List.replicate (3 - (lg_sl ([.ref m_, .int p0, .int p1])).length) Slot.unset).toArray = ls at hl ⊢
  have hl : lv_has ls 3 [(0, .ref m_), (1, .int p0), (2, .int p1)] := hl
  have hf_12 := hts (.fieldLink RX4 12 "MajorityIndex" "row" "LMajorityIndex$Row;") (List.mem_of_getElem? (i := 1) rfl)
  have hi_4 : ∀ w ∈ u_ws RX4 TX4 9, w ∈ wsX4_feed := fun w h => List.mem_cons_of_mem _ (List.mem_append_left _ (List.mem_append_right _ h))
  have hf_57 := hts (.fieldLink RX4 57 "MajorityIndex$Row" "length" "I") (List.mem_of_getElem? (i := 2) rfl)
  have hi_0 : ∀ w ∈ u_ws RX0 TX0 2, w ∈ wsX4_feed := fun w h => List.mem_cons_of_mem _ (List.mem_append_right _ h)
  have hf_53 := hts (.fieldLink RX4 53 "MajorityIndex" "treeIsOld" "Z") (List.mem_of_getElem? (i := 3) rfl)
  refine lv_aload_n hx hb dX4_feed_0 rfl (lv_at hl 0 rfl) ?_
  refine va_get (D := (dC, dI)) (ci := 4) (v := .ref q_row) (C := RX4) (T := TX4) (N := 9) hx hb hts hi_4 hown hK hP 0 rfl rfl 0 (by decide) hf_12 (fun _ h9 => h9) rfl dX4_feed_1 ?_
  refine va_get (D := (dC, dI)) (ci := 0) (v := .int len) (C := RX0) (T := TX0) (N := 2) hx hb hts hi_0 hown hK hP 1 rfl rfl 1 (by decide) hf_57 (fun _ h9 => h9) rfl dX4_feed_4 ?_
  refine lv_iconst (v := 4) hx hb dX4_feed_7 (by decide) ?_
  refine lv_iadd hx hb dX4_feed_8 ?_
  refine lv_topi (fun y_1 ey_1 => ?_)
  have i_1 : y_1.toInt = len.toInt + 4 := ki_add ey_1 rfl rfl (om_113 a0) (om_114 a1)
  refine lv_sipush (v := 160) hx hb dX4_feed_9 (by decide) ?_
  refine lv_icmp_le (tgt := 17) hx hb dX4_feed_12 (by decide) (fun c_2 => ?_) (fun c_2 => ?_)
  · have i_2 : y_1.toInt ≤ 160 := kc_le c_2
    refine lv_aload_n hx hb dX4_feed_17 rfl (lv_at hl 0 rfl) ?_
    refine va_get (D := (dC, dI)) (ci := 4) (v := .ref q_row) (C := RX4) (T := TX4) (N := 9) hx hb hts hi_4 hown hK hP 0 rfl rfl 0 (by decide) hf_12 (fun _ h9 => h9) rfl dX4_feed_18 ?_
    refine lv_iload_n hx hb dX4_feed_21 rfl (lv_at hl 1 rfl) ?_
    refine lv_bipush (v := 16) hx hb dX4_feed_22 (by decide) ?_
    refine lv_ishr hx hb dX4_feed_24 ?_
    have hPc := hP.sub (ws' := [kx_0 q_row q_cell len, kx_a q_cell cyI 160 f]) [1, 2] rfl
    have hKc := hK
    have hDc := hD.sub (ws' := [kx_0 q_row q_cell len, kx_a q_cell cyI 160 f]) [1, 2] (by decide) rfl
    have hFc := va_free (wc := [kx_0 q_row q_cell len, kx_a q_cell cyI 160 f]) hD hS hA [1, 2] rfl
    refine va_callv (va_runV (As := [.int (p0 >>> (16 &&& 31))]) (rest := []) ⟨hx, hb, hml, hown, hts⟩ (c_X0_append l dC dI q_row q_cell cyI len f (p0 >>> (16 &&& 31)) s.heap.size a0 (om_115 a1 i_1 i_2)) (cwV 1 hts gX4_feed_X0_append rfl rfl rfl (by decide +kernel) ⟨Nat.le_of_ble_eq_true rfl, Nat.le_of_ble_eq_true rfl⟩) ⟨fun a U g mk q => by obtain ⟨q0, q1, qP, qK, qD⟩ := q; exact ⟨q0, q1, qP, va_K.moved (u := U) (U := U.calling g mk a) (Vm.Alike.refl U.vm) qK, qD⟩, va_recv hKc hPc (ci := 0) (q0 := 0) rfl rfl, fun U hU hW => ⟨rfl, by rw [hU], by rw [hU]; exact hPc, va_K.moved hW.alike hKc, hDc.weaken (fun _ _ _ _ => trivial)⟩⟩ rfl rfl hl.1 rfl (lv_room (Nat.le_of_ble_eq_true rfl)) dX4_feed_25 ⟨Nat.le_of_ble_eq_true rfl, Nat.le_of_ble_eq_true rfl⟩) hS (fun q _ h => hFc q h) hFc (fun u t H1 locs ht hvm w_3 hB hz1 hk1 hS => ?_)
    obtain ⟨o_4, rfl⟩ : ∃ z, z = u := ⟨_, rfl⟩
    obtain ⟨hP1, hK1, hD1⟩ := hB
    rw [ht] at hP1
    have hK1 := va_K.moved hvm.symm hK1
    obtain ⟨hP, hD⟩ := va_join (wr := [kx_4 m_ q_row q_t t_ h0 k0 w_ z_ slots old]) (w1 := [kx_0 q_row q_cell o_4, kx_a q_cell cyI 160 (upd f len.toNatClampNeg (p0 >>> (16 &&& 31)))]) hP hD [1, 2] [0] rfl rfl (by decide) (by decide) hk1 hFc hP1 hD1
    clear hP1 hD1 hK1 hk1 hz1 hFc hDc hPc hKc
    generalize H1 = H at hP hS ⊢
    have hP : va_P (dC, dI) vwCl [kx_4 m_ q_row q_t t_ h0 k0 w_ z_ slots old, kx_0 q_row q_cell o_4, kx_a q_cell cyI 160 (upd f len.toNatClampNeg (p0 >>> (16 &&& 31)))] H := hP
    have hD : va_D A [kx_4 m_ q_row q_t t_ h0 k0 w_ z_ slots old, kx_0 q_row q_cell o_4, kx_a q_cell cyI 160 (upd f len.toNatClampNeg (p0 >>> (16 &&& 31)))] := hD
    have w_3 : o_4.toInt = len.toInt + 1 := w_3
    refine lv_aload_n hx hb dX4_feed_28 rfl (lv_at hl 0 rfl) ?_
    refine va_get (D := (dC, dI)) (ci := 4) (v := .ref q_row) (C := RX4) (T := TX4) (N := 9) hx hb hts hi_4 hown hK hP 0 rfl rfl 0 (by decide) hf_12 (fun _ h9 => h9) rfl dX4_feed_29 ?_
    refine lv_iload_n hx hb dX4_feed_32 rfl (lv_at hl 1 rfl) ?_
    refine lv_i2s hx hb dX4_feed_33 rfl ?_
    have hPc := hP.sub (ws' := [kx_0 q_row q_cell o_4, kx_a q_cell cyI 160 (upd f len.toNatClampNeg (p0 >>> (16 &&& 31)))]) [1, 2] rfl
    have hKc := hK
    have hDc := hD.sub (ws' := [kx_0 q_row q_cell o_4, kx_a q_cell cyI 160 (upd f len.toNatClampNeg (p0 >>> (16 &&& 31)))]) [1, 2] (by decide) rfl
    have hFc := va_free (wc := [kx_0 q_row q_cell o_4, kx_a q_cell cyI 160 (upd f len.toNatClampNeg (p0 >>> (16 &&& 31)))]) hD hS hA [1, 2] rfl
    refine va_callv (va_runV (As := [.int p0.toInt16.toInt32]) (rest := []) ⟨hx, hb, hml, hown, hts⟩ (c_X0_append l dC dI q_row q_cell cyI o_4 (upd f len.toNatClampNeg (p0 >>> (16 &&& 31))) p0.toInt16.toInt32 H.size (om_31 a0 w_3) (om_116 a1 i_1 i_2 w_3)) (cwV 1 hts gX4_feed_X0_append rfl rfl rfl (by decide +kernel) ⟨Nat.le_of_ble_eq_true rfl, Nat.le_of_ble_eq_true rfl⟩) ⟨fun a U g mk q => by obtain ⟨q0, q1, qP, qK, qD⟩ := q; exact ⟨q0, q1, qP, va_K.moved (u := U) (U := U.calling g mk a) (Vm.Alike.refl U.vm) qK, qD⟩, va_recv hKc hPc (ci := 0) (q0 := 0) rfl rfl, fun U hU hW => ⟨rfl, by rw [hU], by rw [hU]; exact hPc, va_K.moved hW.alike hKc, hDc.weaken (fun _ _ _ _ => trivial)⟩⟩ rfl rfl hl.1 rfl (lv_room (Nat.le_of_ble_eq_true rfl)) dX4_feed_34 ⟨Nat.le_of_ble_eq_true rfl, Nat.le_of_ble_eq_true rfl⟩) hS (fun q _ h => hFc q h) hFc (fun u t H1 locs ht hvm w_5 hB hz1 hk1 hS => ?_)
    obtain ⟨o_6, rfl⟩ : ∃ z, z = u := ⟨_, rfl⟩
    obtain ⟨hP1, hK1, hD1⟩ := hB
    rw [ht] at hP1
    have hK1 := va_K.moved hvm.symm hK1
    obtain ⟨hP, hD⟩ := va_join (wr := [kx_4 m_ q_row q_t t_ h0 k0 w_ z_ slots old]) (w1 := [kx_0 q_row q_cell o_6, kx_a q_cell cyI 160 (upd (upd f len.toNatClampNeg (p0 >>> (16 &&& 31))) o_4.toNatClampNeg p0.toInt16.toInt32)]) hP hD [1, 2] [0] rfl rfl (by decide) (by decide) hk1 hFc hP1 hD1
    clear hP1 hD1 hK1 hk1 hz1 hFc hDc hPc hKc
    generalize H1 = H at hP hS ⊢
    have hP : va_P (dC, dI) vwCl [kx_4 m_ q_row q_t t_ h0 k0 w_ z_ slots old, kx_0 q_row q_cell o_6, kx_a q_cell cyI 160 (upd (upd f len.toNatClampNeg (p0 >>> (16 &&& 31))) o_4.toNatClampNeg p0.toInt16.toInt32)] H := hP
    have hD : va_D A [kx_4 m_ q_row q_t t_ h0 k0 w_ z_ slots old, kx_0 q_row q_cell o_6, kx_a q_cell cyI 160 (upd (upd f len.toNatClampNeg (p0 >>> (16 &&& 31))) o_4.toNatClampNeg p0.toInt16.toInt32)] := hD
    have w_5 : o_6.toInt = o_4.toInt + 1 := w_5
    refine lv_aload_n hx hb dX4_feed_37 rfl (lv_at hl 0 rfl) ?_
    refine va_get (D := (dC, dI)) (ci := 4) (v := .ref q_row) (C := RX4) (T := TX4) (N := 9) hx hb hts hi_4 hown hK hP 0 rfl rfl 0 (by decide) hf_12 (fun _ h9 => h9) rfl dX4_feed_38 ?_
    refine lv_iload_n hx hb dX4_feed_41 rfl (lv_at hl 2 rfl) ?_
    refine lv_bipush (v := 16) hx hb dX4_feed_42 (by decide) ?_
    refine lv_ishr hx hb dX4_feed_44 ?_
    have hPc := hP.sub (ws' := [kx_0 q_row q_cell o_6, kx_a q_cell cyI 160 (upd (upd f len.toNatClampNeg (p0 >>> (16 &&& 31))) o_4.toNatClampNeg p0.toInt16.toInt32)]) [1, 2] rfl
    have hKc := hK
    have hDc := hD.sub (ws' := [kx_0 q_row q_cell o_6, kx_a q_cell cyI 160 (upd (upd f len.toNatClampNeg (p0 >>> (16 &&& 31))) o_4.toNatClampNeg p0.toInt16.toInt32)]) [1, 2] (by decide) rfl
    have hFc := va_free (wc := [kx_0 q_row q_cell o_6, kx_a q_cell cyI 160 (upd (upd f len.toNatClampNeg (p0 >>> (16 &&& 31))) o_4.toNatClampNeg p0.toInt16.toInt32)]) hD hS hA [1, 2] rfl
    refine va_callv (va_runV (As := [.int (p1 >>> (16 &&& 31))]) (rest := []) ⟨hx, hb, hml, hown, hts⟩ (c_X0_append l dC dI q_row q_cell cyI o_6 (upd (upd f len.toNatClampNeg (p0 >>> (16 &&& 31))) o_4.toNatClampNeg p0.toInt16.toInt32) (p1 >>> (16 &&& 31)) H.size (om_117 a0 w_3 w_5) (om_118 a1 i_1 i_2 w_3 w_5)) (cwV 1 hts gX4_feed_X0_append rfl rfl rfl (by decide +kernel) ⟨Nat.le_of_ble_eq_true rfl, Nat.le_of_ble_eq_true rfl⟩) ⟨fun a U g mk q => by obtain ⟨q0, q1, qP, qK, qD⟩ := q; exact ⟨q0, q1, qP, va_K.moved (u := U) (U := U.calling g mk a) (Vm.Alike.refl U.vm) qK, qD⟩, va_recv hKc hPc (ci := 0) (q0 := 0) rfl rfl, fun U hU hW => ⟨rfl, by rw [hU], by rw [hU]; exact hPc, va_K.moved hW.alike hKc, hDc.weaken (fun _ _ _ _ => trivial)⟩⟩ rfl rfl hl.1 rfl (lv_room (Nat.le_of_ble_eq_true rfl)) dX4_feed_45 ⟨Nat.le_of_ble_eq_true rfl, Nat.le_of_ble_eq_true rfl⟩) hS (fun q _ h => hFc q h) hFc (fun u t H1 locs ht hvm w_7 hB hz1 hk1 hS => ?_)
    obtain ⟨o_8, rfl⟩ : ∃ z, z = u := ⟨_, rfl⟩
    obtain ⟨hP1, hK1, hD1⟩ := hB
    rw [ht] at hP1
    have hK1 := va_K.moved hvm.symm hK1
    obtain ⟨hP, hD⟩ := va_join (wr := [kx_4 m_ q_row q_t t_ h0 k0 w_ z_ slots old]) (w1 := [kx_0 q_row q_cell o_8, kx_a q_cell cyI 160 (upd (upd (upd f len.toNatClampNeg (p0 >>> (16 &&& 31))) o_4.toNatClampNeg p0.toInt16.toInt32) o_6.toNatClampNeg (p1 >>> (16 &&& 31)))]) hP hD [1, 2] [0] rfl rfl (by decide) (by decide) hk1 hFc hP1 hD1
    clear hP1 hD1 hK1 hk1 hz1 hFc hDc hPc hKc
    generalize H1 = H at hP hS ⊢
    have hP : va_P (dC, dI) vwCl [kx_4 m_ q_row q_t t_ h0 k0 w_ z_ slots old, kx_0 q_row q_cell o_8, kx_a q_cell cyI 160 (upd (upd (upd f len.toNatClampNeg (p0 >>> (16 &&& 31))) o_4.toNatClampNeg p0.toInt16.toInt32) o_6.toNatClampNeg (p1 >>> (16 &&& 31)))] H := hP
    have hD : va_D A [kx_4 m_ q_row q_t t_ h0 k0 w_ z_ slots old, kx_0 q_row q_cell o_8, kx_a q_cell cyI 160 (upd (upd (upd f len.toNatClampNeg (p0 >>> (16 &&& 31))) o_4.toNatClampNeg p0.toInt16.toInt32) o_6.toNatClampNeg (p1 >>> (16 &&& 31)))] := hD
    have w_7 : o_8.toInt = o_6.toInt + 1 := w_7
    refine lv_aload_n hx hb dX4_feed_48 rfl (lv_at hl 0 rfl) ?_
    refine va_get (D := (dC, dI)) (ci := 4) (v := .ref q_row) (C := RX4) (T := TX4) (N := 9) hx hb hts hi_4 hown hK hP 0 rfl rfl 0 (by decide) hf_12 (fun _ h9 => h9) rfl dX4_feed_49 ?_
    refine lv_iload_n hx hb dX4_feed_52 rfl (lv_at hl 2 rfl) ?_
    refine lv_i2s hx hb dX4_feed_53 rfl ?_
    have hPc := hP.sub (ws' := [kx_0 q_row q_cell o_8, kx_a q_cell cyI 160 (upd (upd (upd f len.toNatClampNeg (p0 >>> (16 &&& 31))) o_4.toNatClampNeg p0.toInt16.toInt32) o_6.toNatClampNeg (p1 >>> (16 &&& 31)))]) [1, 2] rfl
    have hKc := hK
    have hDc := hD.sub (ws' := [kx_0 q_row q_cell o_8, kx_a q_cell cyI 160 (upd (upd (upd f len.toNatClampNeg (p0 >>> (16 &&& 31))) o_4.toNatClampNeg p0.toInt16.toInt32) o_6.toNatClampNeg (p1 >>> (16 &&& 31)))]) [1, 2] (by decide) rfl
    have hFc := va_free (wc := [kx_0 q_row q_cell o_8, kx_a q_cell cyI 160 (upd (upd (upd f len.toNatClampNeg (p0 >>> (16 &&& 31))) o_4.toNatClampNeg p0.toInt16.toInt32) o_6.toNatClampNeg (p1 >>> (16 &&& 31)))]) hD hS hA [1, 2] rfl
    refine va_callv (va_runV (As := [.int p1.toInt16.toInt32]) (rest := []) ⟨hx, hb, hml, hown, hts⟩ (c_X0_append l dC dI q_row q_cell cyI o_8 (upd (upd (upd f len.toNatClampNeg (p0 >>> (16 &&& 31))) o_4.toNatClampNeg p0.toInt16.toInt32) o_6.toNatClampNeg (p1 >>> (16 &&& 31))) p1.toInt16.toInt32 H.size (om_119 a0 w_3 w_5 w_7) (om_120 i_1 i_2 w_3 w_5 w_7)) (cwV 1 hts gX4_feed_X0_append rfl rfl rfl (by decide +kernel) ⟨Nat.le_of_ble_eq_true rfl, Nat.le_of_ble_eq_true rfl⟩) ⟨fun a U g mk q => by obtain ⟨q0, q1, qP, qK, qD⟩ := q; exact ⟨q0, q1, qP, va_K.moved (u := U) (U := U.calling g mk a) (Vm.Alike.refl U.vm) qK, qD⟩, va_recv hKc hPc (ci := 0) (q0 := 0) rfl rfl, fun U hU hW => ⟨rfl, by rw [hU], by rw [hU]; exact hPc, va_K.moved hW.alike hKc, hDc.weaken (fun _ _ _ _ => trivial)⟩⟩ rfl rfl hl.1 rfl (lv_room (Nat.le_of_ble_eq_true rfl)) dX4_feed_54 ⟨Nat.le_of_ble_eq_true rfl, Nat.le_of_ble_eq_true rfl⟩) hS (fun q _ h => hFc q h) hFc (fun u t H1 locs ht hvm w_9 hB hz1 hk1 hS => ?_)
    obtain ⟨o_10, rfl⟩ : ∃ z, z = u := ⟨_, rfl⟩
    obtain ⟨hP1, hK1, hD1⟩ := hB
    rw [ht] at hP1
    have hK1 := va_K.moved hvm.symm hK1
    obtain ⟨hP, hD⟩ := va_join (wr := [kx_4 m_ q_row q_t t_ h0 k0 w_ z_ slots old]) (w1 := [kx_0 q_row q_cell o_10, kx_a q_cell cyI 160 (upd (upd (upd (upd f len.toNatClampNeg (p0 >>> (16 &&& 31))) o_4.toNatClampNeg p0.toInt16.toInt32) o_6.toNatClampNeg (p1 >>> (16 &&& 31))) o_8.toNatClampNeg p1.toInt16.toInt32)]) hP hD [1, 2] [0] rfl rfl (by decide) (by decide) hk1 hFc hP1 hD1
    clear hP1 hD1 hK1 hk1 hz1 hFc hDc hPc hKc
    generalize H1 = H at hP hS ⊢
    have hP : va_P (dC, dI) vwCl [kx_4 m_ q_row q_t t_ h0 k0 w_ z_ slots old, kx_0 q_row q_cell o_10, kx_a q_cell cyI 160 (upd (upd (upd (upd f len.toNatClampNeg (p0 >>> (16 &&& 31))) o_4.toNatClampNeg p0.toInt16.toInt32) o_6.toNatClampNeg (p1 >>> (16 &&& 31))) o_8.toNatClampNeg p1.toInt16.toInt32)] H := hP
    have hD : va_D A [kx_4 m_ q_row q_t t_ h0 k0 w_ z_ slots old, kx_0 q_row q_cell o_10, kx_a q_cell cyI 160 (upd (upd (upd (upd f len.toNatClampNeg (p0 >>> (16 &&& 31))) o_4.toNatClampNeg p0.toInt16.toInt32) o_6.toNatClampNeg (p1 >>> (16 &&& 31))) o_8.toNatClampNeg p1.toInt16.toInt32)] := hD
    have w_9 : o_10.toInt = o_8.toInt + 1 := w_9
    refine lv_aload_n hx hb dX4_feed_57 rfl (lv_at hl 0 rfl) ?_
    refine lv_iconst (v := 1) hx hb dX4_feed_58 (by decide) ?_
    refine va_put (D := (dC, dI)) (ci := 4) (v := .int 1) (ty := .boolean) (C := RX4) (T := TX4) (N := 9) hx hb hts hi_4 tyX4 tyX4_ok nmX4 hown hK hP hD hS 0 rfl rfl 8 (by decide) hf_53 (fun _ h9 => h9) rfl (by decide +kernel) (by decide) (by decide) (Nat.le_of_ble_eq_true rfl) dX4_feed_59 (fun H locs hP hD hS => ?_)
    have hP : va_P (dC, dI) vwCl [kx_4 m_ q_row q_t t_ h0 k0 w_ z_ slots 1, kx_0 q_row q_cell o_10, kx_a q_cell cyI 160 (upd (upd (upd (upd f len.toNatClampNeg (p0 >>> (16 &&& 31))) o_4.toNatClampNeg p0.toInt16.toInt32) o_6.toNatClampNeg (p1 >>> (16 &&& 31))) o_8.toNatClampNeg p1.toInt16.toInt32)] H := hP
    have hD : va_D A [kx_4 m_ q_row q_t t_ h0 k0 w_ z_ slots 1, kx_0 q_row q_cell o_10, kx_a q_cell cyI 160 (upd (upd (upd (upd f len.toNatClampNeg (p0 >>> (16 &&& 31))) o_4.toNatClampNeg p0.toInt16.toInt32) o_6.toNatClampNeg (p1 >>> (16 &&& 31))) o_8.toNatClampNeg p1.toInt16.toInt32)] := hD
    refine lv_aload_n hx hb dX4_feed_62 rfl (lv_at hl 0 rfl) ?_
    refine va_get (D := (dC, dI)) (ci := 4) (v := .ref q_row) (C := RX4) (T := TX4) (N := 9) hx hb hts hi_4 hown hK hP 0 rfl rfl 0 (by decide) hf_12 (fun _ h9 => h9) rfl dX4_feed_63 ?_
    refine va_get (D := (dC, dI)) (ci := 0) (v := .int o_10) (C := RX0) (T := TX0) (N := 2) hx hb hts hi_0 hown hK hP 1 rfl rfl 1 (by decide) hf_57 (fun _ h9 => h9) rfl dX4_feed_66 ?_
    have hP9 := hP
    have hD9 := hD
    have hK9 := hK
    have n_l := ki_nat len rfl (om_8 a0)
    have n_11 := ki_nat o_4 rfl (om_31 a0 w_3)
    have n_12 := ki_nat o_6 rfl (om_117 a0 w_3 w_5)
    have n_13 := ki_nat o_8 rfl (om_119 a0 w_3 w_5 w_7)
    have n_14 := ki_nat o_10 rfl (om_304 a0 w_3 w_5 w_7 w_9)
    have e_f : upd (upd (upd (upd f len.toNatClampNeg (p0 >>> (16 &&& 31))) o_4.toNatClampNeg p0.toInt16.toInt32) o_6.toNatClampNeg (p1 >>> (16 &&& 31))) o_8.toNatClampNeg p1.toInt16.toInt32 = mj_feed f len.toNatClampNeg p0 p1 := by
      rw [show o_4.toNatClampNeg = len.toNatClampNeg + 1 by omega, show o_6.toNatClampNeg = len.toNatClampNeg + 2 by omega, show o_8.toNatClampNeg = len.toNatClampNeg + 3 by omega]; rfl
    exact W.iret (v := o_10) hx hb hr (fun t ht hW => ⟨⟨o_10, (1, o_10, (upd (upd (upd (upd f len.toNatClampNeg (p0 >>> (16 &&& 31))) o_4.toNatClampNeg p0.toInt16.toInt32) o_6.toNatClampNeg (p1 >>> (16 &&& 31))) o_8.toNatClampNeg p1.toInt16.toInt32)), rfl, ⟨Or.inl ⟨by omega, (by (try dsimp only); omega), (by (try dsimp only); omega), e_f, rfl⟩, (by (try dsimp only); rw [e_f]; exact shorts_feed p0 p1 s1)⟩, by rw [ht]; exact hP9, va_K.moved hW.alike hK9, hD9⟩, hS.F ht⟩) hS.2.2 dX4_feed_69
  · have i_2 : 160 < y_1.toInt := kc_nle c_2
    refine lv_iconst (v := (-1)) hx hb dX4_feed_15 (by decide) ?_
    have hP9 := hP
    have hD9 := hD
    have hK9 := hK
    exact W.iret (v := (-1)) hx hb hr (fun t ht hW => ⟨⟨(-1), (old, len, f), rfl, ⟨Or.inr ⟨by omega, rfl, rfl, rfl, rfl⟩, s1⟩, by rw [ht]; exact hP9, va_K.moved hW.alike hK9, hD9⟩, hS.F ht⟩) hS.2.2 dX4_feed_16

set_option maxHeartbeats 4000000 in
set_option maxRecDepth 100000 in
theorem c_X5_feed_x (l : Launch) (dC : Nat → ClassId) (dI : Nat → Nat → Nat) (h0 : Nat) (g_row : Nat) (g_many : Nat) (g_loss : Nat) (g_less : Nat) (g_voteValue : Nat) (g_voteNumber : Nat) (g_allValue : Nat) (g_allNumber : Nat) (g_nodeL : Nat) (g_nodeR : Nat) (g_part : Nat) (g_wasMany : Nat) (g_wasLoss : Nat) (g_wasValue : Nat) (g_wasNumber : Nat) (g_path : Nat) (g_heavyValue : Nat) (g_heavyTimes : Nat) (g_fewest : Nat) (g_which : Nat) (g_met : Nat) (m_n : Int32) (m_slots : Int32) (m_thrown : Int32) (m_allMany : Int32) (m_nodes : Int32) (m_partMany : Int32) (m_pathMany : Int32) (m_heavyMany : Int32) (m_mostMet : Int32) (cyI : ClassId) (f : Nat → Int32) (p0 : Int32) (p1 : Int32) (sz : Nat) (a0 : 0 ≤ m_n.toInt) (a1 : m_n.toInt ≤ 160) (s1 : shorts f) : Met l yX5_feed wsX5_feed ({ frames := 0, cells := 0, slots := 0, locals := 0 }) (va_Pc [.ref h0, .int p0, .int p1] (fun U => U.heap.size = sz ∧ va_P (dC, dI) vwCl [kx_5 h0 g_row m_n m_slots m_thrown g_many g_loss g_less g_voteValue g_voteNumber g_allValue g_allNumber m_allMany g_nodeL g_nodeR m_nodes g_part m_partMany g_wasMany g_wasLoss g_wasValue g_wasNumber g_path m_pathMany g_heavyValue g_heavyTimes m_heavyMany g_fewest g_which g_met m_mostMet, kx_a g_row cyI 160 f] U.heap ∧ va_K (dC, dI) vwCl [(cyI, .int)] U ∧ va_D (fun _ => True) [kx_5 h0 g_row m_n m_slots m_thrown g_many g_loss g_less g_voteValue g_voteNumber g_allValue g_allNumber m_allMany g_nodeL g_nodeR m_nodes g_part m_partMany g_wasMany g_wasLoss g_wasValue g_wasNumber g_path m_pathMany g_heavyValue g_heavyTimes m_heavyMany g_fewest g_which g_met m_mostMet, kx_a g_row cyI 160 f])) (va_Qi (fun (r : Int32) (u : Int32 × (Nat → Int32)) => ((m_n.toInt ≤ 156 ∧ r.toInt = m_n.toInt + 4 ∧ u.1.toInt = m_n.toInt + 4 ∧ u.2 = mj_feed f m_n.toNatClampNeg p0 p1) ∨ (156 < m_n.toInt ∧ r.toInt = -1 ∧ u.1 = m_n ∧ u.2 = f)) ∧ shorts u.2) (fun (u : Int32 × (Nat → Int32)) (t : State) => va_P (dC, dI) vwCl [kx_5 h0 g_row u.1 m_slots 0 g_many g_loss g_less g_voteValue g_voteNumber g_allValue g_allNumber m_allMany g_nodeL g_nodeR m_nodes g_part m_partMany g_wasMany g_wasLoss g_wasValue g_wasNumber g_path m_pathMany g_heavyValue g_heavyTimes m_heavyMany g_fewest g_which g_met m_mostMet, kx_a g_row cyI 160 u.2] t.heap ∧ va_K (dC, dI) vwCl [(cyI, .int)] t ∧ va_D (va_A [kx_5 h0 g_row m_n m_slots m_thrown g_many g_loss g_less g_voteValue g_voteNumber g_allValue g_allNumber m_allMany g_nodeL g_nodeR m_nodes g_part m_partMany g_wasMany g_wasLoss g_wasValue g_wasNumber g_path m_pathMany g_heavyValue g_heavyTimes m_heavyMany g_fewest g_which g_met m_mostMet, kx_a g_row cyI 160 f] sz) [kx_5 h0 g_row u.1 m_slots 0 g_many g_loss g_less g_voteValue g_voteNumber g_allValue g_allNumber m_allMany g_nodeL g_nodeR m_nodes g_part m_partMany g_wasMany g_wasLoss g_wasValue g_wasNumber g_path m_pathMany g_heavyValue g_heavyTimes m_heavyMany g_fewest g_which g_met m_mostMet, kx_a g_row cyI 160 u.2]) (va_A [kx_5 h0 g_row m_n m_slots m_thrown g_many g_loss g_less g_voteValue g_voteNumber g_allValue g_allNumber m_allMany g_nodeL g_nodeR m_nodes g_part m_partMany g_wasMany g_wasLoss g_wasValue g_wasNumber g_path m_pathMany g_heavyValue g_heavyTimes m_heavyMany g_fewest g_which g_met m_mostMet, kx_a g_row cyI 160 f] sz)) 0 0 (va_A [kx_5 h0 g_row m_n m_slots m_thrown g_many g_loss g_less g_voteValue g_voteNumber g_allValue g_allNumber m_allMany g_nodeL g_nodeR m_nodes g_part m_partMany g_wasMany g_wasLoss g_wasValue g_wasNumber g_path m_pathMany g_heavyValue g_heavyTimes m_heavyMany g_fewest g_which g_met m_mostMet, kx_a g_row cyI 160 f] sz) := by
  refine Met.ofW (cc := cX5_feed) (maxL := 3) (ret := (some .int)) (by decide) rfl ?_
  intro p e s m args below meth c s₁ B hml hv
  obtain ⟨rfl, hsz, hP, hK, hD0⟩ := hv
  have hx := B.exec
  have hb := B.bytes
  have hr := B.returns
  have hts := atoms_spec (ws := wsX5_feed) B.pre
  have hown : s.vm.findClass RX5 = some m.cls := findClass_of_methodNamed B.named
  have hlocks := B.notSynchronized
  subst hsz
  have hD := hD0.self (sz := s.heap.size)
  generalize hAe : va_A [kx_5 h0 g_row m_n m_slots m_thrown g_many g_loss g_less g_voteValue g_voteNumber g_allValue g_allNumber m_allMany g_nodeL g_nodeR m_nodes g_part m_partMany g_wasMany g_wasLoss g_wasValue g_wasNumber g_path m_pathMany g_heavyValue g_heavyTimes m_heavyMany g_fewest g_which g_met m_mostMet, kx_a g_row cyI 160 f] s.heap.size = A at hD ⊢
  have hA : ∀ q : Nat, s.heap.size ≤ q → A q := fun q h => by rw [← hAe]; exact Or.inr h
  have hS : va_S A s.heap s.heap [] := va_S.rf
  have hP : va_P (dC, dI) vwCl [kx_5 h0 g_row m_n m_slots m_thrown g_many g_loss g_less g_voteValue g_voteNumber g_allValue g_allNumber m_allMany g_nodeL g_nodeR m_nodes g_part m_partMany g_wasMany g_wasLoss g_wasValue g_wasNumber g_path m_pathMany g_heavyValue g_heavyTimes m_heavyMany g_fewest g_which g_met m_mostMet, kx_a g_row cyI 160 f] s.heap := hP
  have hl := lv_entry ([.ref h0, .int p0, .int p1]) (n := 3) (Nat.le_of_ble_eq_true rfl)
  rw [lg_entry_eq]
  generalize (lg_sl ([.ref h0, .int p0, .int p1]) ++ List.replicate (3 - (lg_sl ([.ref h0, .int p0, .int p1])).length) Slot.unset).toArray = ls at hl ⊢
  have hl : lv_has ls 3 [(0, .ref h0), (1, .int p0), (2, .int p1)] := hl
  have hf_77 := hts (.fieldLink RX5 77 "MajorityIndexModel" "thrown" "I") (List.mem_of_getElem? (i := 1) rfl)
  have hi_5 : ∀ w ∈ u_ws RX5 TX5 30, w ∈ wsX5_feed := fun w h => List.mem_cons_of_mem _ (List.mem_append_right _ h)
  have hf_84 := hts (.fieldLink RX5 84 "MajorityIndexModel" "n" "I") (List.mem_of_getElem? (i := 2) rfl)
  have hf_7 := hts (.fieldLink RX5 7 "MajorityIndexModel" "row" "[I") (List.mem_of_getElem? (i := 3) rfl)
  refine lv_aload_n hx hb dX5_feed_0 rfl (lv_at hl 0 rfl) ?_
  refine lv_iconst (v := 0) hx hb dX5_feed_1 (by decide) ?_
  refine va_put (D := (dC, dI)) (ci := 5) (v := .int 0) (ty := .int) (C := RX5) (T := TX5) (N := 30) hx hb hts hi_5 tyX5 tyX5_ok nmX5 hown hK hP hD hS 0 rfl rfl 3 (by decide) hf_77 (fun _ h9 => h9) rfl (by decide +kernel) rfl rfl (Nat.le_of_ble_eq_true rfl) dX5_feed_2 (fun H locs hP hD hS => ?_)
  have hP : va_P (dC, dI) vwCl [kx_5 h0 g_row m_n m_slots 0 g_many g_loss g_less g_voteValue g_voteNumber g_allValue g_allNumber m_allMany g_nodeL g_nodeR m_nodes g_part m_partMany g_wasMany g_wasLoss g_wasValue g_wasNumber g_path m_pathMany g_heavyValue g_heavyTimes m_heavyMany g_fewest g_which g_met m_mostMet, kx_a g_row cyI 160 f] H := hP
  have hD : va_D A [kx_5 h0 g_row m_n m_slots 0 g_many g_loss g_less g_voteValue g_voteNumber g_allValue g_allNumber m_allMany g_nodeL g_nodeR m_nodes g_part m_partMany g_wasMany g_wasLoss g_wasValue g_wasNumber g_path m_pathMany g_heavyValue g_heavyTimes m_heavyMany g_fewest g_which g_met m_mostMet, kx_a g_row cyI 160 f] := hD
  refine lv_aload_n hx hb dX5_feed_5 rfl (lv_at hl 0 rfl) ?_
  refine va_get (D := (dC, dI)) (ci := 5) (v := .int m_n) (C := RX5) (T := TX5) (N := 30) hx hb hts hi_5 hown hK hP 0 rfl rfl 1 (by decide) hf_84 (fun _ h9 => h9) rfl dX5_feed_6 ?_
  refine lv_iconst (v := 4) hx hb dX5_feed_9 (by decide) ?_
  refine lv_iadd hx hb dX5_feed_10 ?_
  refine lv_topi (fun y_1 ey_1 => ?_)
  have i_1 : y_1.toInt = m_n.toInt + 4 := ki_add ey_1 rfl rfl (om_113 a0) (om_114 a1)
  refine lv_sipush (v := 160) hx hb dX5_feed_11 (by decide) ?_
  refine lv_icmp_le (tgt := 19) hx hb dX5_feed_14 (by decide) (fun c_2 => ?_) (fun c_2 => ?_)
  · have i_2 : y_1.toInt ≤ 160 := kc_le c_2
    refine lv_aload_n hx hb dX5_feed_19 rfl (lv_at hl 0 rfl) ?_
    refine va_get (D := (dC, dI)) (ci := 5) (v := .ref g_row) (C := RX5) (T := TX5) (N := 30) hx hb hts hi_5 hown hK hP 0 rfl rfl 0 (by decide) hf_7 (fun _ h9 => h9) rfl dX5_feed_20 ?_
    refine lv_aload_n hx hb dX5_feed_23 rfl (lv_at hl 0 rfl) ?_
    refine va_get (D := (dC, dI)) (ci := 5) (v := .int m_n) (C := RX5) (T := TX5) (N := 30) hx hb hts hi_5 hown hK hP 0 rfl rfl 1 (by decide) hf_84 (fun _ h9 => h9) rfl dX5_feed_24 ?_
    refine lv_iload_n hx hb dX5_feed_27 rfl (lv_at hl 1 rfl) ?_
    refine lv_bipush (v := 16) hx hb dX5_feed_28 (by decide) ?_
    refine lv_ishr hx hb dX5_feed_30 ?_
    refine lv_i2s hx hb dX5_feed_31 rfl ?_
    refine va_iast hx hb hK hP hD hS 1 0 rfl rfl (ki_in (om_8 a0) (om_144 a1 i_1 i_2)) dX5_feed_32 (fun H locs hP hD hS => ?_)
    have hP : va_P (dC, dI) vwCl [kx_5 h0 g_row m_n m_slots 0 g_many g_loss g_less g_voteValue g_voteNumber g_allValue g_allNumber m_allMany g_nodeL g_nodeR m_nodes g_part m_partMany g_wasMany g_wasLoss g_wasValue g_wasNumber g_path m_pathMany g_heavyValue g_heavyTimes m_heavyMany g_fewest g_which g_met m_mostMet, kx_a g_row cyI 160 (upd f m_n.toNatClampNeg ((p0 >>> (16 &&& 31)).toInt16.toInt32))] H := hP
    have hD : va_D A [kx_5 h0 g_row m_n m_slots 0 g_many g_loss g_less g_voteValue g_voteNumber g_allValue g_allNumber m_allMany g_nodeL g_nodeR m_nodes g_part m_partMany g_wasMany g_wasLoss g_wasValue g_wasNumber g_path m_pathMany g_heavyValue g_heavyTimes m_heavyMany g_fewest g_which g_met m_mostMet, kx_a g_row cyI 160 (upd f m_n.toNatClampNeg ((p0 >>> (16 &&& 31)).toInt16.toInt32))] := hD
    refine lv_aload_n hx hb dX5_feed_33 rfl (lv_at hl 0 rfl) ?_
    refine va_get (D := (dC, dI)) (ci := 5) (v := .ref g_row) (C := RX5) (T := TX5) (N := 30) hx hb hts hi_5 hown hK hP 0 rfl rfl 0 (by decide) hf_7 (fun _ h9 => h9) rfl dX5_feed_34 ?_
    refine lv_aload_n hx hb dX5_feed_37 rfl (lv_at hl 0 rfl) ?_
    refine va_get (D := (dC, dI)) (ci := 5) (v := .int m_n) (C := RX5) (T := TX5) (N := 30) hx hb hts hi_5 hown hK hP 0 rfl rfl 1 (by decide) hf_84 (fun _ h9 => h9) rfl dX5_feed_38 ?_
    refine lv_iconst (v := 1) hx hb dX5_feed_41 (by decide) ?_
    refine lv_iadd hx hb dX5_feed_42 ?_
    refine lv_topi (fun y_3 ey_3 => ?_)
    have i_3 : y_3.toInt = m_n.toInt + 1 := ki_add ey_3 rfl rfl (om_10 a0) (om_130 a1)
    refine lv_iload_n hx hb dX5_feed_43 rfl (lv_at hl 1 rfl) ?_
    refine lv_i2s hx hb dX5_feed_44 rfl ?_
    refine va_iast hx hb hK hP hD hS 1 0 rfl rfl (ki_in (om_31 a0 i_3) (om_145 a1 i_1 i_2 i_3)) dX5_feed_45 (fun H locs hP hD hS => ?_)
    have hP : va_P (dC, dI) vwCl [kx_5 h0 g_row m_n m_slots 0 g_many g_loss g_less g_voteValue g_voteNumber g_allValue g_allNumber m_allMany g_nodeL g_nodeR m_nodes g_part m_partMany g_wasMany g_wasLoss g_wasValue g_wasNumber g_path m_pathMany g_heavyValue g_heavyTimes m_heavyMany g_fewest g_which g_met m_mostMet, kx_a g_row cyI 160 (upd (upd f m_n.toNatClampNeg ((p0 >>> (16 &&& 31)).toInt16.toInt32)) y_3.toNatClampNeg p0.toInt16.toInt32)] H := hP
    have hD : va_D A [kx_5 h0 g_row m_n m_slots 0 g_many g_loss g_less g_voteValue g_voteNumber g_allValue g_allNumber m_allMany g_nodeL g_nodeR m_nodes g_part m_partMany g_wasMany g_wasLoss g_wasValue g_wasNumber g_path m_pathMany g_heavyValue g_heavyTimes m_heavyMany g_fewest g_which g_met m_mostMet, kx_a g_row cyI 160 (upd (upd f m_n.toNatClampNeg ((p0 >>> (16 &&& 31)).toInt16.toInt32)) y_3.toNatClampNeg p0.toInt16.toInt32)] := hD
    refine lv_aload_n hx hb dX5_feed_46 rfl (lv_at hl 0 rfl) ?_
    refine va_get (D := (dC, dI)) (ci := 5) (v := .ref g_row) (C := RX5) (T := TX5) (N := 30) hx hb hts hi_5 hown hK hP 0 rfl rfl 0 (by decide) hf_7 (fun _ h9 => h9) rfl dX5_feed_47 ?_
    refine lv_aload_n hx hb dX5_feed_50 rfl (lv_at hl 0 rfl) ?_
    refine va_get (D := (dC, dI)) (ci := 5) (v := .int m_n) (C := RX5) (T := TX5) (N := 30) hx hb hts hi_5 hown hK hP 0 rfl rfl 1 (by decide) hf_84 (fun _ h9 => h9) rfl dX5_feed_51 ?_
    refine lv_iconst (v := 2) hx hb dX5_feed_54 (by decide) ?_
    refine lv_iadd hx hb dX5_feed_55 ?_
    refine lv_topi (fun y_4 ey_4 => ?_)
    have i_4 : y_4.toInt = m_n.toInt + 2 := ki_add ey_4 rfl rfl (om_146 a0) (om_147 a1)
    refine lv_iload_n hx hb dX5_feed_56 rfl (lv_at hl 2 rfl) ?_
    refine lv_bipush (v := 16) hx hb dX5_feed_57 (by decide) ?_
    refine lv_ishr hx hb dX5_feed_59 ?_
    refine lv_i2s hx hb dX5_feed_60 rfl ?_
    refine va_iast hx hb hK hP hD hS 1 0 rfl rfl (ki_in (om_148 a0 i_4) (om_149 a1 i_1 i_2 i_4)) dX5_feed_61 (fun H locs hP hD hS => ?_)
    have hP : va_P (dC, dI) vwCl [kx_5 h0 g_row m_n m_slots 0 g_many g_loss g_less g_voteValue g_voteNumber g_allValue g_allNumber m_allMany g_nodeL g_nodeR m_nodes g_part m_partMany g_wasMany g_wasLoss g_wasValue g_wasNumber g_path m_pathMany g_heavyValue g_heavyTimes m_heavyMany g_fewest g_which g_met m_mostMet, kx_a g_row cyI 160 (upd (upd (upd f m_n.toNatClampNeg ((p0 >>> (16 &&& 31)).toInt16.toInt32)) y_3.toNatClampNeg p0.toInt16.toInt32) y_4.toNatClampNeg ((p1 >>> (16 &&& 31)).toInt16.toInt32))] H := hP
    have hD : va_D A [kx_5 h0 g_row m_n m_slots 0 g_many g_loss g_less g_voteValue g_voteNumber g_allValue g_allNumber m_allMany g_nodeL g_nodeR m_nodes g_part m_partMany g_wasMany g_wasLoss g_wasValue g_wasNumber g_path m_pathMany g_heavyValue g_heavyTimes m_heavyMany g_fewest g_which g_met m_mostMet, kx_a g_row cyI 160 (upd (upd (upd f m_n.toNatClampNeg ((p0 >>> (16 &&& 31)).toInt16.toInt32)) y_3.toNatClampNeg p0.toInt16.toInt32) y_4.toNatClampNeg ((p1 >>> (16 &&& 31)).toInt16.toInt32))] := hD
    refine lv_aload_n hx hb dX5_feed_62 rfl (lv_at hl 0 rfl) ?_
    refine va_get (D := (dC, dI)) (ci := 5) (v := .ref g_row) (C := RX5) (T := TX5) (N := 30) hx hb hts hi_5 hown hK hP 0 rfl rfl 0 (by decide) hf_7 (fun _ h9 => h9) rfl dX5_feed_63 ?_
    refine lv_aload_n hx hb dX5_feed_66 rfl (lv_at hl 0 rfl) ?_
    refine va_get (D := (dC, dI)) (ci := 5) (v := .int m_n) (C := RX5) (T := TX5) (N := 30) hx hb hts hi_5 hown hK hP 0 rfl rfl 1 (by decide) hf_84 (fun _ h9 => h9) rfl dX5_feed_67 ?_
    refine lv_iconst (v := 3) hx hb dX5_feed_70 (by decide) ?_
    refine lv_iadd hx hb dX5_feed_71 ?_
    refine lv_topi (fun y_5 ey_5 => ?_)
    have i_5 : y_5.toInt = m_n.toInt + 3 := ki_add ey_5 rfl rfl (om_150 a0) (om_151 a1)
    refine lv_iload_n hx hb dX5_feed_72 rfl (lv_at hl 2 rfl) ?_
    refine lv_i2s hx hb dX5_feed_73 rfl ?_
    refine va_iast hx hb hK hP hD hS 1 0 rfl rfl (ki_in (om_152 a0 i_5) (om_153 i_1 i_2 i_5)) dX5_feed_74 (fun H locs hP hD hS => ?_)
    have hP : va_P (dC, dI) vwCl [kx_5 h0 g_row m_n m_slots 0 g_many g_loss g_less g_voteValue g_voteNumber g_allValue g_allNumber m_allMany g_nodeL g_nodeR m_nodes g_part m_partMany g_wasMany g_wasLoss g_wasValue g_wasNumber g_path m_pathMany g_heavyValue g_heavyTimes m_heavyMany g_fewest g_which g_met m_mostMet, kx_a g_row cyI 160 (upd (upd (upd (upd f m_n.toNatClampNeg ((p0 >>> (16 &&& 31)).toInt16.toInt32)) y_3.toNatClampNeg p0.toInt16.toInt32) y_4.toNatClampNeg ((p1 >>> (16 &&& 31)).toInt16.toInt32)) y_5.toNatClampNeg p1.toInt16.toInt32)] H := hP
    have hD : va_D A [kx_5 h0 g_row m_n m_slots 0 g_many g_loss g_less g_voteValue g_voteNumber g_allValue g_allNumber m_allMany g_nodeL g_nodeR m_nodes g_part m_partMany g_wasMany g_wasLoss g_wasValue g_wasNumber g_path m_pathMany g_heavyValue g_heavyTimes m_heavyMany g_fewest g_which g_met m_mostMet, kx_a g_row cyI 160 (upd (upd (upd (upd f m_n.toNatClampNeg ((p0 >>> (16 &&& 31)).toInt16.toInt32)) y_3.toNatClampNeg p0.toInt16.toInt32) y_4.toNatClampNeg ((p1 >>> (16 &&& 31)).toInt16.toInt32)) y_5.toNatClampNeg p1.toInt16.toInt32)] := hD
    refine lv_aload_n hx hb dX5_feed_75 rfl (lv_at hl 0 rfl) ?_
    refine lv_dup hx hb dX5_feed_76 rfl ?_
    refine va_get (D := (dC, dI)) (ci := 5) (v := .int m_n) (C := RX5) (T := TX5) (N := 30) hx hb hts hi_5 hown hK hP 0 rfl rfl 1 (by decide) hf_84 (fun _ h9 => h9) rfl dX5_feed_77 ?_
    refine lv_iconst (v := 4) hx hb dX5_feed_80 (by decide) ?_
    refine lv_iadd hx hb dX5_feed_81 ?_
    refine lv_topi (fun y_6 ey_6 => ?_)
    have i_6 : y_6.toInt = m_n.toInt + 4 := ki_add ey_6 rfl rfl (om_113 a0) (om_114 a1)
    refine va_put (D := (dC, dI)) (ci := 5) (v := .int y_6) (ty := .int) (C := RX5) (T := TX5) (N := 30) hx hb hts hi_5 tyX5 tyX5_ok nmX5 hown hK hP hD hS 0 rfl rfl 1 (by decide) hf_84 (fun _ h9 => h9) rfl (by decide +kernel) rfl rfl (Nat.le_of_ble_eq_true rfl) dX5_feed_82 (fun H locs hP hD hS => ?_)
    have hP : va_P (dC, dI) vwCl [kx_5 h0 g_row y_6 m_slots 0 g_many g_loss g_less g_voteValue g_voteNumber g_allValue g_allNumber m_allMany g_nodeL g_nodeR m_nodes g_part m_partMany g_wasMany g_wasLoss g_wasValue g_wasNumber g_path m_pathMany g_heavyValue g_heavyTimes m_heavyMany g_fewest g_which g_met m_mostMet, kx_a g_row cyI 160 (upd (upd (upd (upd f m_n.toNatClampNeg ((p0 >>> (16 &&& 31)).toInt16.toInt32)) y_3.toNatClampNeg p0.toInt16.toInt32) y_4.toNatClampNeg ((p1 >>> (16 &&& 31)).toInt16.toInt32)) y_5.toNatClampNeg p1.toInt16.toInt32)] H := hP
    have hD : va_D A [kx_5 h0 g_row y_6 m_slots 0 g_many g_loss g_less g_voteValue g_voteNumber g_allValue g_allNumber m_allMany g_nodeL g_nodeR m_nodes g_part m_partMany g_wasMany g_wasLoss g_wasValue g_wasNumber g_path m_pathMany g_heavyValue g_heavyTimes m_heavyMany g_fewest g_which g_met m_mostMet, kx_a g_row cyI 160 (upd (upd (upd (upd f m_n.toNatClampNeg ((p0 >>> (16 &&& 31)).toInt16.toInt32)) y_3.toNatClampNeg p0.toInt16.toInt32) y_4.toNatClampNeg ((p1 >>> (16 &&& 31)).toInt16.toInt32)) y_5.toNatClampNeg p1.toInt16.toInt32)] := hD
    refine lv_aload_n hx hb dX5_feed_85 rfl (lv_at hl 0 rfl) ?_
    refine va_get (D := (dC, dI)) (ci := 5) (v := .int y_6) (C := RX5) (T := TX5) (N := 30) hx hb hts hi_5 hown hK hP 0 rfl rfl 1 (by decide) hf_84 (fun _ h9 => h9) rfl dX5_feed_86 ?_
    have hP9 := hP
    have hD9 := hD
    have hK9 := hK
    have n_l := ki_nat m_n rfl (om_8 a0)
    have n_7 := ki_nat y_3 rfl (om_31 a0 i_3)
    have n_8 := ki_nat y_4 rfl (om_148 a0 i_4)
    have n_9 := ki_nat y_5 rfl (om_152 a0 i_5)
    have e_f : upd (upd (upd (upd f m_n.toNatClampNeg ((p0 >>> (16 &&& 31)).toInt16.toInt32)) y_3.toNatClampNeg p0.toInt16.toInt32) y_4.toNatClampNeg ((p1 >>> (16 &&& 31)).toInt16.toInt32)) y_5.toNatClampNeg p1.toInt16.toInt32 = mj_feed f m_n.toNatClampNeg p0 p1 := by
      rw [show y_3.toNatClampNeg = m_n.toNatClampNeg + 1 by omega, show y_4.toNatClampNeg = m_n.toNatClampNeg + 2 by omega, show y_5.toNatClampNeg = m_n.toNatClampNeg + 3 by omega, ki_short16, ki_short16]; rfl
    exact W.iret (v := y_6) hx hb hr (fun t ht hW => ⟨⟨y_6, (y_6, (upd (upd (upd (upd f m_n.toNatClampNeg ((p0 >>> (16 &&& 31)).toInt16.toInt32)) y_3.toNatClampNeg p0.toInt16.toInt32) y_4.toNatClampNeg ((p1 >>> (16 &&& 31)).toInt16.toInt32)) y_5.toNatClampNeg p1.toInt16.toInt32)), rfl, ⟨Or.inl ⟨by omega, (by (try dsimp only); omega), (by (try dsimp only); omega), e_f⟩, (by (try dsimp only); rw [e_f]; exact shorts_feed p0 p1 s1)⟩, by rw [ht]; exact hP9, va_K.moved hW.alike hK9, hD9⟩, hS.F ht⟩) hS.2.2 dX5_feed_89
  · have i_2 : 160 < y_1.toInt := kc_nle c_2
    refine lv_iconst (v := (-1)) hx hb dX5_feed_17 (by decide) ?_
    have hP9 := hP
    have hD9 := hD
    have hK9 := hK
    exact W.iret (v := (-1)) hx hb hr (fun t ht hW => ⟨⟨(-1), (m_n, f), rfl, ⟨Or.inr ⟨by omega, rfl, rfl, rfl⟩, s1⟩, by rw [ht]; exact hP9, va_K.moved hW.alike hK9, hD9⟩, hS.F ht⟩) hS.2.2 dX5_feed_18


