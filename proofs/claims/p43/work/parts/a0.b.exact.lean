def mj_feed (f : Nat → Int32) (n : Nat) (a b : Int32) : Nat → Int32 := upd (upd (upd (upd f n (a >>> (16 &&& 31))) (n + 1) a.toInt16.toInt32) (n + 2) (b >>> (16 &&& 31))) (n + 3) b.toInt16.toInt32
theorem ki_short {x : Int32} (h1 : -32768 ≤ x.toInt) (h2 : x.toInt ≤ 32767) : x.toInt16.toInt32 = x := by
  apply Int32.toInt_inj.mp
  rw [Int16.toInt_toInt32, Int32.toInt_toInt16]
  exact Int.bmod_eq_of_le (by omega) (by omega)
theorem ki_short16 (x : Int32) : (x >>> (16 &&& 31)).toInt16.toInt32 = x >>> (16 &&& 31) := ki_short (ki_shr16 x).1 (ki_shr16 x).2
theorem shorts_feed {f : Nat → Int32} {n : Nat} (a b : Int32) (h : shorts f) : shorts (mj_feed f n a b) :=
  shorts_upd (shorts_upd (shorts_upd (shorts_upd h (ki_shr16 a).1 (ki_shr16 a).2) (ki_i2s a).1 (ki_i2s a).2) (ki_shr16 b).1 (ki_shr16 b).2) (ki_i2s b).1 (ki_i2s b).2
theorem mj_fill_one (f : Nat → Int32) {l r : Nat} (v : Int32) (h : r = l + 1) : mj_fill f l r v = upd f l v := by
  subst h
  rw [← mj_fill_step (Nat.le_refl l) rfl, mj_fill_0 f v (Nat.le_refl l)]
theorem laidP_new {old old2 nodes len len2 : Int32} {ff ft : Nat → Int32} (h : laidP old ff ft nodes len) (e : old2 = 1 ∨ (old2 = old ∧ len2 = len)) : laidP old2 ff ft nodes len2 := by
  rcases e with e | ⟨e1, e2⟩
  · subst e
    intro h0
    exact absurd h0 (by decide)
  · subst e1; subst e2
    exact h

set_option maxHeartbeats 4000000 in
set_option maxRecDepth 100000 in
theorem c_X4_feed_x (l : Launch) (dC : Nat → ClassId) (dI : Nat → Nat → Nat) (m_ : Nat) (q_row : Nat) (q_t : Nat) (t_ : Nat) (h0 : Nat) (k0 : Nat) (w_ : Nat) (z_ : Nat) (slots : Int32) (old : Int32) (q_cell : Nat) (cyI : ClassId) (len : Int32) (f : Nat → Int32) (p0 : Int32) (p1 : Int32) (sz : Nat) (a0 : 0 ≤ len.toInt) (a1 : len.toInt ≤ 160) (s1 : shorts f) : kx_MQ l (dC, dI) yX4_feed wsX4_feed ({ frames := 1, cells := 0, slots := 0, locals := 45 }) [.ref m_, .int p0, .int p1] [kx_4 m_ q_row q_t t_ h0 k0 w_ z_ slots old, kx_0 q_row q_cell len, kx_a q_cell cyI 160 f] [(cyI, .int)] sz (fun A => va_Qi (fun (r : Int32) (u : Int32 × Int32 × (Nat → Int32)) => ((len.toInt ≤ 156 ∧ r.toInt = len.toInt + 4 ∧ u.2.1.toInt = len.toInt + 4 ∧ u.2.2 = mj_feed f len.toNatClampNeg p0 p1 ∧ u.1 = 1) ∨ (156 < len.toInt ∧ r.toInt = -1 ∧ u.2.1 = len ∧ u.2.2 = f ∧ u.1 = old)) ∧ shorts u.2.2) (fun (u : Int32 × Int32 × (Nat → Int32)) (t : State) => va_P (dC, dI) vwCl [kx_4 m_ q_row q_t t_ h0 k0 w_ z_ slots u.1, kx_0 q_row q_cell u.2.1, kx_a q_cell cyI 160 u.2.2] t.heap ∧ va_K (dC, dI) vwCl [(cyI, .int)] t ∧ va_D A [kx_4 m_ q_row q_t t_ h0 k0 w_ z_ slots u.1, kx_0 q_row q_cell u.2.1, kx_a q_cell cyI 160 u.2.2]) A) := by
  refine kx_stQ (ws := wsX4_feed) (cc := cX4_feed) (maxL := 3) (ret := (some .int)) (by decide) rfl (Nat.le_of_ble_eq_true rfl) ?_
  intro p e s m below meth c A ls hx hb hr hlocks hts hown hml hA hS hP hK hD hl
  have hown : s.vm.findClass RX4 = some m.cls := hown
  have hl : lv_has ls 3 [(0, .ref m_), (1, .int p0), (2, .int p1)] := hl
  have hf_12 := hts (.fieldLink RX4 12 "MajorityIndex" "row" "LMajorityIndex$Row;") (List.mem_of_getElem? (i := 1) rfl)
  have hi_4 : ∀ w ∈ u_ws RX4 TX4 9, w ∈ wsX4_feed := fun w h => List.mem_cons_of_mem _ (List.mem_append_left _ (List.mem_append_right _ h))
  have hf_57 := hts (.fieldLink RX4 57 "MajorityIndex$Row" "length" "I") (List.mem_of_getElem? (i := 2) rfl)
  have hi_0 : ∀ w ∈ u_ws RX0 TX0 2, w ∈ wsX4_feed := fun w h => List.mem_cons_of_mem _ (List.mem_append_right _ h)
  have hf_53 := hts (.fieldLink RX4 53 "MajorityIndex" "treeIsOld" "Z") (List.mem_of_getElem? (i := 3) rfl)
  refine lv_aload_n hx hb dX4_feed_0 rfl (lv_at hl 0 rfl) ?_
  refine va_get (D := (dC, dI)) (ci := 4) (v := .ref q_row) (C := RX4) (T := TX4) (N := 9) hx hb hts hi_4 hown hK hP 0 rfl rfl 0 (by decide) hf_12 (fun _ h9 => h9) rfl dX4_feed_1 ?_
  refine va_get (D := (dC, dI)) (ci := 0) (v := .int len) (C := RX0) (T := TX0) (N := 2) hx hb hts hi_0 hown hK hP 1 rfl rfl 1 (by decide) hf_57 (fun _ h9 => h9) rfl dX4_feed_4 ?_
  refine lv_iconst (v := 4) hx hb dX4_feed_7 (by decide) ?_
  refine lv_iadd hx hb dX4_feed_8 ?_
  refine lv_topi (fun y_1 ey_1 => ?_)
  have i_1 : y_1.toInt = len.toInt + 4 := ki_add ey_1 rfl rfl (om_153 a0) (om_154 a1)
  refine lv_sipush (v := 160) hx hb dX4_feed_9 (by decide) ?_
  refine lv_icmp_le (tgt := 17) hx hb dX4_feed_12 (by decide) (fun c_2 => ?_) (fun c_2 => ?_)
  · have i_2 : y_1.toInt ≤ 160 := kc_le c_2
    refine lv_aload_n hx hb dX4_feed_17 rfl (lv_at hl 0 rfl) ?_
    refine va_get (D := (dC, dI)) (ci := 4) (v := .ref q_row) (C := RX4) (T := TX4) (N := 9) hx hb hts hi_4 hown hK hP 0 rfl rfl 0 (by decide) hf_12 (fun _ h9 => h9) rfl dX4_feed_18 ?_
    refine lv_iload_n hx hb dX4_feed_21 rfl (lv_at hl 1 rfl) ?_
    refine lv_bipush (v := 16) hx hb dX4_feed_22 (by decide) ?_
    refine lv_ishr hx hb dX4_feed_24 ?_
    obtain ⟨hPc, hDc, hFc, hCc⟩ := kx_preM (wc := [kx_0 q_row q_cell len, kx_a q_cell cyI 160 f]) hP hD hS hA [false, true, true] rfl
    have hKc := hK
    refine va_callv (va_runV (As := [.int (p0 >>> (16 &&& 31))]) (rest := []) ⟨hx, hb, hml, hown, hts⟩ (kx_un (c_X0_append l dC dI q_row q_cell cyI len f (p0 >>> (16 &&& 31)) s.heap.size a0 (om_155 a1 i_1 i_2))) (cwV 1 hts gX4_feed_X0_append rfl rfl rfl (by decide +kernel) ⟨Nat.le_of_ble_eq_true rfl, Nat.le_of_ble_eq_true rfl⟩) ⟨fun a U g mk q => by obtain ⟨q0, q1, qP, qK, qD⟩ := q; exact ⟨q0, q1, qP, va_K.moved (u := U) (U := U.calling g mk a) (Vm.Alike.refl U.vm) qK, qD⟩, kx_rc0 hKc hPc (q0 := 0) rfl, fun U hU hW => ⟨rfl, by rw [hU], by rw [hU]; exact hPc, va_K.moved hW.alike hKc, hDc.weaken (fun _ _ _ _ => trivial)⟩⟩ rfl rfl hl.1 rfl (lv_room (Nat.le_of_ble_eq_true rfl)) dX4_feed_25 ⟨Nat.le_of_ble_eq_true rfl, Nat.le_of_ble_eq_true rfl⟩) hS (fun q _ h => hFc q h) hFc (fun u t H1 locs ht hvm w_3 hB hz1 hk1 hS => ?_)
    obtain ⟨o_4, rfl⟩ : ∃ z, z = u := ⟨_, rfl⟩
    obtain ⟨hP1, hK1, hD1⟩ := hB
    rw [ht] at hP1
    have hK1 := va_K.moved hvm.symm hK1
    obtain ⟨hP, hD⟩ := kx_joinM (w2 := [kx_4 m_ q_row q_t t_ h0 k0 w_ z_ slots old, kx_0 q_row q_cell o_4, kx_a q_cell cyI 160 (upd f len.toNatClampNeg (p0 >>> (16 &&& 31)))]) hP hD hP1 hD1 hk1 hFc [false, true, true] hCc rfl
    clear hP1 hD1 hK1 hk1 hz1 hFc hDc hPc hKc hCc
    generalize H1 = H at hP hS ⊢
    have w_3 : o_4.toInt = len.toInt + 1 := w_3
    refine lv_aload_n hx hb dX4_feed_28 rfl (lv_at hl 0 rfl) ?_
    refine va_get (D := (dC, dI)) (ci := 4) (v := .ref q_row) (C := RX4) (T := TX4) (N := 9) hx hb hts hi_4 hown hK hP 0 rfl rfl 0 (by decide) hf_12 (fun _ h9 => h9) rfl dX4_feed_29 ?_
    refine lv_iload_n hx hb dX4_feed_32 rfl (lv_at hl 1 rfl) ?_
    refine lv_i2s hx hb dX4_feed_33 rfl ?_
    obtain ⟨hPc, hDc, hFc, hCc⟩ := kx_preM (wc := [kx_0 q_row q_cell o_4, kx_a q_cell cyI 160 (upd f len.toNatClampNeg (p0 >>> (16 &&& 31)))]) hP hD hS hA [false, true, true] rfl
    have hKc := hK
    refine va_callv (va_runV (As := [.int p0.toInt16.toInt32]) (rest := []) ⟨hx, hb, hml, hown, hts⟩ (kx_un (c_X0_append l dC dI q_row q_cell cyI o_4 (upd f len.toNatClampNeg (p0 >>> (16 &&& 31))) p0.toInt16.toInt32 H.size (om_34 a0 w_3) (om_156 a1 i_1 i_2 w_3))) (cwV 1 hts gX4_feed_X0_append rfl rfl rfl (by decide +kernel) ⟨Nat.le_of_ble_eq_true rfl, Nat.le_of_ble_eq_true rfl⟩) ⟨fun a U g mk q => by obtain ⟨q0, q1, qP, qK, qD⟩ := q; exact ⟨q0, q1, qP, va_K.moved (u := U) (U := U.calling g mk a) (Vm.Alike.refl U.vm) qK, qD⟩, kx_rc0 hKc hPc (q0 := 0) rfl, fun U hU hW => ⟨rfl, by rw [hU], by rw [hU]; exact hPc, va_K.moved hW.alike hKc, hDc.weaken (fun _ _ _ _ => trivial)⟩⟩ rfl rfl hl.1 rfl (lv_room (Nat.le_of_ble_eq_true rfl)) dX4_feed_34 ⟨Nat.le_of_ble_eq_true rfl, Nat.le_of_ble_eq_true rfl⟩) hS (fun q _ h => hFc q h) hFc (fun u t H1 locs ht hvm w_5 hB hz1 hk1 hS => ?_)
    obtain ⟨o_6, rfl⟩ : ∃ z, z = u := ⟨_, rfl⟩
    obtain ⟨hP1, hK1, hD1⟩ := hB
    rw [ht] at hP1
    have hK1 := va_K.moved hvm.symm hK1
    obtain ⟨hP, hD⟩ := kx_joinM (w2 := [kx_4 m_ q_row q_t t_ h0 k0 w_ z_ slots old, kx_0 q_row q_cell o_6, kx_a q_cell cyI 160 (upd (upd f len.toNatClampNeg (p0 >>> (16 &&& 31))) o_4.toNatClampNeg p0.toInt16.toInt32)]) hP hD hP1 hD1 hk1 hFc [false, true, true] hCc rfl
    clear hP1 hD1 hK1 hk1 hz1 hFc hDc hPc hKc hCc
    generalize H1 = H at hP hS ⊢
    have w_5 : o_6.toInt = o_4.toInt + 1 := w_5
    refine lv_aload_n hx hb dX4_feed_37 rfl (lv_at hl 0 rfl) ?_
    refine va_get (D := (dC, dI)) (ci := 4) (v := .ref q_row) (C := RX4) (T := TX4) (N := 9) hx hb hts hi_4 hown hK hP 0 rfl rfl 0 (by decide) hf_12 (fun _ h9 => h9) rfl dX4_feed_38 ?_
    refine lv_iload_n hx hb dX4_feed_41 rfl (lv_at hl 2 rfl) ?_
    refine lv_bipush (v := 16) hx hb dX4_feed_42 (by decide) ?_
    refine lv_ishr hx hb dX4_feed_44 ?_
    obtain ⟨hPc, hDc, hFc, hCc⟩ := kx_preM (wc := [kx_0 q_row q_cell o_6, kx_a q_cell cyI 160 (upd (upd f len.toNatClampNeg (p0 >>> (16 &&& 31))) o_4.toNatClampNeg p0.toInt16.toInt32)]) hP hD hS hA [false, true, true] rfl
    have hKc := hK
    refine va_callv (va_runV (As := [.int (p1 >>> (16 &&& 31))]) (rest := []) ⟨hx, hb, hml, hown, hts⟩ (kx_un (c_X0_append l dC dI q_row q_cell cyI o_6 (upd (upd f len.toNatClampNeg (p0 >>> (16 &&& 31))) o_4.toNatClampNeg p0.toInt16.toInt32) (p1 >>> (16 &&& 31)) H.size (om_157 a0 w_3 w_5) (om_158 a1 i_1 i_2 w_3 w_5))) (cwV 1 hts gX4_feed_X0_append rfl rfl rfl (by decide +kernel) ⟨Nat.le_of_ble_eq_true rfl, Nat.le_of_ble_eq_true rfl⟩) ⟨fun a U g mk q => by obtain ⟨q0, q1, qP, qK, qD⟩ := q; exact ⟨q0, q1, qP, va_K.moved (u := U) (U := U.calling g mk a) (Vm.Alike.refl U.vm) qK, qD⟩, kx_rc0 hKc hPc (q0 := 0) rfl, fun U hU hW => ⟨rfl, by rw [hU], by rw [hU]; exact hPc, va_K.moved hW.alike hKc, hDc.weaken (fun _ _ _ _ => trivial)⟩⟩ rfl rfl hl.1 rfl (lv_room (Nat.le_of_ble_eq_true rfl)) dX4_feed_45 ⟨Nat.le_of_ble_eq_true rfl, Nat.le_of_ble_eq_true rfl⟩) hS (fun q _ h => hFc q h) hFc (fun u t H1 locs ht hvm w_7 hB hz1 hk1 hS => ?_)
    obtain ⟨o_8, rfl⟩ : ∃ z, z = u := ⟨_, rfl⟩
    obtain ⟨hP1, hK1, hD1⟩ := hB
    rw [ht] at hP1
    have hK1 := va_K.moved hvm.symm hK1
    obtain ⟨hP, hD⟩ := kx_joinM (w2 := [kx_4 m_ q_row q_t t_ h0 k0 w_ z_ slots old, kx_0 q_row q_cell o_8, kx_a q_cell cyI 160 (upd (upd (upd f len.toNatClampNeg (p0 >>> (16 &&& 31))) o_4.toNatClampNeg p0.toInt16.toInt32) o_6.toNatClampNeg (p1 >>> (16 &&& 31)))]) hP hD hP1 hD1 hk1 hFc [false, true, true] hCc rfl
    clear hP1 hD1 hK1 hk1 hz1 hFc hDc hPc hKc hCc
    generalize H1 = H at hP hS ⊢
    have w_7 : o_8.toInt = o_6.toInt + 1 := w_7
    refine lv_aload_n hx hb dX4_feed_48 rfl (lv_at hl 0 rfl) ?_
    refine va_get (D := (dC, dI)) (ci := 4) (v := .ref q_row) (C := RX4) (T := TX4) (N := 9) hx hb hts hi_4 hown hK hP 0 rfl rfl 0 (by decide) hf_12 (fun _ h9 => h9) rfl dX4_feed_49 ?_
    refine lv_iload_n hx hb dX4_feed_52 rfl (lv_at hl 2 rfl) ?_
    refine lv_i2s hx hb dX4_feed_53 rfl ?_
    obtain ⟨hPc, hDc, hFc, hCc⟩ := kx_preM (wc := [kx_0 q_row q_cell o_8, kx_a q_cell cyI 160 (upd (upd (upd f len.toNatClampNeg (p0 >>> (16 &&& 31))) o_4.toNatClampNeg p0.toInt16.toInt32) o_6.toNatClampNeg (p1 >>> (16 &&& 31)))]) hP hD hS hA [false, true, true] rfl
    have hKc := hK
    refine va_callv (va_runV (As := [.int p1.toInt16.toInt32]) (rest := []) ⟨hx, hb, hml, hown, hts⟩ (kx_un (c_X0_append l dC dI q_row q_cell cyI o_8 (upd (upd (upd f len.toNatClampNeg (p0 >>> (16 &&& 31))) o_4.toNatClampNeg p0.toInt16.toInt32) o_6.toNatClampNeg (p1 >>> (16 &&& 31))) p1.toInt16.toInt32 H.size (om_159 a0 w_3 w_5 w_7) (om_160 i_1 i_2 w_3 w_5 w_7))) (cwV 1 hts gX4_feed_X0_append rfl rfl rfl (by decide +kernel) ⟨Nat.le_of_ble_eq_true rfl, Nat.le_of_ble_eq_true rfl⟩) ⟨fun a U g mk q => by obtain ⟨q0, q1, qP, qK, qD⟩ := q; exact ⟨q0, q1, qP, va_K.moved (u := U) (U := U.calling g mk a) (Vm.Alike.refl U.vm) qK, qD⟩, kx_rc0 hKc hPc (q0 := 0) rfl, fun U hU hW => ⟨rfl, by rw [hU], by rw [hU]; exact hPc, va_K.moved hW.alike hKc, hDc.weaken (fun _ _ _ _ => trivial)⟩⟩ rfl rfl hl.1 rfl (lv_room (Nat.le_of_ble_eq_true rfl)) dX4_feed_54 ⟨Nat.le_of_ble_eq_true rfl, Nat.le_of_ble_eq_true rfl⟩) hS (fun q _ h => hFc q h) hFc (fun u t H1 locs ht hvm w_9 hB hz1 hk1 hS => ?_)
    obtain ⟨o_10, rfl⟩ : ∃ z, z = u := ⟨_, rfl⟩
    obtain ⟨hP1, hK1, hD1⟩ := hB
    rw [ht] at hP1
    have hK1 := va_K.moved hvm.symm hK1
    obtain ⟨hP, hD⟩ := kx_joinM (w2 := [kx_4 m_ q_row q_t t_ h0 k0 w_ z_ slots old, kx_0 q_row q_cell o_10, kx_a q_cell cyI 160 (upd (upd (upd (upd f len.toNatClampNeg (p0 >>> (16 &&& 31))) o_4.toNatClampNeg p0.toInt16.toInt32) o_6.toNatClampNeg (p1 >>> (16 &&& 31))) o_8.toNatClampNeg p1.toInt16.toInt32)]) hP hD hP1 hD1 hk1 hFc [false, true, true] hCc rfl
    clear hP1 hD1 hK1 hk1 hz1 hFc hDc hPc hKc hCc
    generalize H1 = H at hP hS ⊢
    have w_9 : o_10.toInt = o_8.toInt + 1 := w_9
    refine lv_aload_n hx hb dX4_feed_57 rfl (lv_at hl 0 rfl) ?_
    refine lv_iconst (v := 1) hx hb dX4_feed_58 (by decide) ?_
    refine va_put (D := (dC, dI)) (ci := 4) (v := .int 1) (ty := .boolean) (C := RX4) (T := TX4) (N := 9) hx hb hts hi_4 tyX4 tyX4_ok nmX4 hown hK hP hD hS 0 rfl rfl 8 (by decide) hf_53 (fun _ h9 => h9) rfl (by decide +kernel) (by decide) (by decide) (Nat.le_of_ble_eq_true rfl) dX4_feed_59 (fun H locs hP hD hS => ?_)
    obtain ⟨hP, hD⟩ := kx_re (w2 := [kx_4 m_ q_row q_t t_ h0 k0 w_ z_ slots 1, kx_0 q_row q_cell o_10, kx_a q_cell cyI 160 (upd (upd (upd (upd f len.toNatClampNeg (p0 >>> (16 &&& 31))) o_4.toNatClampNeg p0.toInt16.toInt32) o_6.toNatClampNeg (p1 >>> (16 &&& 31))) o_8.toNatClampNeg p1.toInt16.toInt32)]) hP hD rfl
    refine lv_aload_n hx hb dX4_feed_62 rfl (lv_at hl 0 rfl) ?_
    refine va_get (D := (dC, dI)) (ci := 4) (v := .ref q_row) (C := RX4) (T := TX4) (N := 9) hx hb hts hi_4 hown hK hP 0 rfl rfl 0 (by decide) hf_12 (fun _ h9 => h9) rfl dX4_feed_63 ?_
    refine va_get (D := (dC, dI)) (ci := 0) (v := .int o_10) (C := RX0) (T := TX0) (N := 2) hx hb hts hi_0 hown hK hP 1 rfl rfl 1 (by decide) hf_57 (fun _ h9 => h9) rfl dX4_feed_66 ?_
    have hP9 := hP
    have hD9 := hD
    have hK9 := hK
    have n_l := ki_nat len rfl (om_10 a0)
    have n_11 := ki_nat o_4 rfl (om_34 a0 w_3)
    have n_12 := ki_nat o_6 rfl (om_157 a0 w_3 w_5)
    have n_13 := ki_nat o_8 rfl (om_159 a0 w_3 w_5 w_7)
    have n_14 := ki_nat o_10 rfl (om_464 a0 w_3 w_5 w_7 w_9)
    have e_f : upd (upd (upd (upd f len.toNatClampNeg (p0 >>> (16 &&& 31))) o_4.toNatClampNeg p0.toInt16.toInt32) o_6.toNatClampNeg (p1 >>> (16 &&& 31))) o_8.toNatClampNeg p1.toInt16.toInt32 = mj_feed f len.toNatClampNeg p0 p1 := by
      rw [show o_4.toNatClampNeg = len.toNatClampNeg + 1 by omega, show o_6.toNatClampNeg = len.toNatClampNeg + 2 by omega, show o_8.toNatClampNeg = len.toNatClampNeg + 3 by omega]; rfl
    exact W.iret (v := o_10) hx hb hr (hlocks := hlocks) (fun t ht hW => ⟨⟨o_10, (1, o_10, (upd (upd (upd (upd f len.toNatClampNeg (p0 >>> (16 &&& 31))) o_4.toNatClampNeg p0.toInt16.toInt32) o_6.toNatClampNeg (p1 >>> (16 &&& 31))) o_8.toNatClampNeg p1.toInt16.toInt32)), rfl, ⟨Or.inl ⟨by omega, (by (try dsimp only); omega), (by (try dsimp only); omega), e_f, rfl⟩, (by (try dsimp only); rw [e_f]; exact shorts_feed p0 p1 s1)⟩, by rw [ht]; exact hP9, va_K.moved hW.alike hK9, hD9⟩, hS.F ht⟩) hS.2.2 dX4_feed_69
  · have i_2 : 160 < y_1.toInt := kc_nle c_2
    refine lv_iconst (v := (-1)) hx hb dX4_feed_15 (by decide) ?_
    have hP9 := hP
    have hD9 := hD
    have hK9 := hK
    exact W.iret (v := (-1)) hx hb hr (hlocks := hlocks) (fun t ht hW => ⟨⟨(-1), (old, len, f), rfl, ⟨Or.inr ⟨by omega, rfl, rfl, rfl, rfl⟩, s1⟩, by rw [ht]; exact hP9, va_K.moved hW.alike hK9, hD9⟩, hS.F ht⟩) hS.2.2 dX4_feed_16

set_option maxHeartbeats 4000000 in
set_option maxRecDepth 100000 in
theorem c_X5_feed_x (l : Launch) (dC : Nat → ClassId) (dI : Nat → Nat → Nat) (h0 : Nat) (g_row : Nat) (g_many : Nat) (g_loss : Nat) (g_less : Nat) (g_voteValue : Nat) (g_voteNumber : Nat) (g_allValue : Nat) (g_allNumber : Nat) (g_nodeL : Nat) (g_nodeR : Nat) (g_part : Nat) (g_wasMany : Nat) (g_wasLoss : Nat) (g_wasValue : Nat) (g_wasNumber : Nat) (g_path : Nat) (g_heavyValue : Nat) (g_heavyTimes : Nat) (g_fewest : Nat) (g_which : Nat) (g_met : Nat) (m_n : Int32) (m_slots : Int32) (m_thrown : Int32) (m_allMany : Int32) (m_nodes : Int32) (m_partMany : Int32) (m_pathMany : Int32) (m_heavyMany : Int32) (m_mostMet : Int32) (cyI : ClassId) (f : Nat → Int32) (p0 : Int32) (p1 : Int32) (sz : Nat) (a0 : 0 ≤ m_n.toInt) (a1 : m_n.toInt ≤ 160) (s1 : shorts f) : kx_MQ l (dC, dI) yX5_feed wsX5_feed ({ frames := 0, cells := 0, slots := 0, locals := 0 }) [.ref h0, .int p0, .int p1] [kx_5 h0 g_row m_n m_slots m_thrown g_many g_loss g_less g_voteValue g_voteNumber g_allValue g_allNumber m_allMany g_nodeL g_nodeR m_nodes g_part m_partMany g_wasMany g_wasLoss g_wasValue g_wasNumber g_path m_pathMany g_heavyValue g_heavyTimes m_heavyMany g_fewest g_which g_met m_mostMet, kx_a g_row cyI 160 f] [(cyI, .int)] sz (fun A => va_Qi (fun (r : Int32) (u : Int32 × (Nat → Int32)) => ((m_n.toInt ≤ 156 ∧ r.toInt = m_n.toInt + 4 ∧ u.1.toInt = m_n.toInt + 4 ∧ u.2 = mj_feed f m_n.toNatClampNeg p0 p1) ∨ (156 < m_n.toInt ∧ r.toInt = -1 ∧ u.1 = m_n ∧ u.2 = f)) ∧ shorts u.2) (fun (u : Int32 × (Nat → Int32)) (t : State) => va_P (dC, dI) vwCl [kx_5 h0 g_row u.1 m_slots 0 g_many g_loss g_less g_voteValue g_voteNumber g_allValue g_allNumber m_allMany g_nodeL g_nodeR m_nodes g_part m_partMany g_wasMany g_wasLoss g_wasValue g_wasNumber g_path m_pathMany g_heavyValue g_heavyTimes m_heavyMany g_fewest g_which g_met m_mostMet, kx_a g_row cyI 160 u.2] t.heap ∧ va_K (dC, dI) vwCl [(cyI, .int)] t ∧ va_D A [kx_5 h0 g_row u.1 m_slots 0 g_many g_loss g_less g_voteValue g_voteNumber g_allValue g_allNumber m_allMany g_nodeL g_nodeR m_nodes g_part m_partMany g_wasMany g_wasLoss g_wasValue g_wasNumber g_path m_pathMany g_heavyValue g_heavyTimes m_heavyMany g_fewest g_which g_met m_mostMet, kx_a g_row cyI 160 u.2]) A) := by
  refine kx_stQ (ws := wsX5_feed) (cc := cX5_feed) (maxL := 3) (ret := (some .int)) (by decide) rfl (Nat.le_of_ble_eq_true rfl) ?_
  intro p e s m below meth c A ls hx hb hr hlocks hts hown hml hA hS hP hK hD hl
  have hown : s.vm.findClass RX5 = some m.cls := hown
  have hl : lv_has ls 3 [(0, .ref h0), (1, .int p0), (2, .int p1)] := hl
  have hf_77 := hts (.fieldLink RX5 77 "MajorityIndexModel" "thrown" "I") (List.mem_of_getElem? (i := 1) rfl)
  have hi_5 : ∀ w ∈ u_ws RX5 TX5 30, w ∈ wsX5_feed := fun w h => List.mem_cons_of_mem _ (List.mem_append_right _ h)
  have hf_84 := hts (.fieldLink RX5 84 "MajorityIndexModel" "n" "I") (List.mem_of_getElem? (i := 2) rfl)
  have hf_7 := hts (.fieldLink RX5 7 "MajorityIndexModel" "row" "[I") (List.mem_of_getElem? (i := 3) rfl)
  refine lv_aload_n hx hb dX5_feed_0 rfl (lv_at hl 0 rfl) ?_
  refine lv_iconst (v := 0) hx hb dX5_feed_1 (by decide) ?_
  refine va_put (D := (dC, dI)) (ci := 5) (v := .int 0) (ty := .int) (C := RX5) (T := TX5) (N := 30) hx hb hts hi_5 tyX5 tyX5_ok nmX5 hown hK hP hD hS 0 rfl rfl 3 (by decide) hf_77 (fun _ h9 => h9) rfl (by decide +kernel) rfl rfl (Nat.le_of_ble_eq_true rfl) dX5_feed_2 (fun H locs hP hD hS => ?_)
  obtain ⟨hP, hD⟩ := kx_re (w2 := [kx_5 h0 g_row m_n m_slots 0 g_many g_loss g_less g_voteValue g_voteNumber g_allValue g_allNumber m_allMany g_nodeL g_nodeR m_nodes g_part m_partMany g_wasMany g_wasLoss g_wasValue g_wasNumber g_path m_pathMany g_heavyValue g_heavyTimes m_heavyMany g_fewest g_which g_met m_mostMet, kx_a g_row cyI 160 f]) hP hD rfl
  refine lv_aload_n hx hb dX5_feed_5 rfl (lv_at hl 0 rfl) ?_
  refine va_get (D := (dC, dI)) (ci := 5) (v := .int m_n) (C := RX5) (T := TX5) (N := 30) hx hb hts hi_5 hown hK hP 0 rfl rfl 1 (by decide) hf_84 (fun _ h9 => h9) rfl dX5_feed_6 ?_
  refine lv_iconst (v := 4) hx hb dX5_feed_9 (by decide) ?_
  refine lv_iadd hx hb dX5_feed_10 ?_
  refine lv_topi (fun y_1 ey_1 => ?_)
  have i_1 : y_1.toInt = m_n.toInt + 4 := ki_add ey_1 rfl rfl (om_153 a0) (om_154 a1)
  refine lv_sipush (v := 160) hx hb dX5_feed_11 (by decide) ?_
  refine lv_icmp_le (tgt := 19) hx hb dX5_feed_14 (by decide) (fun c_2 => ?_) (fun c_2 => ?_)
  · have i_2 : y_1.toInt ≤ 160 := kc_le c_2
    refine lv_aload_n hx hb dX5_feed_19 rfl (lv_at hl 0 rfl) ?_
    refine va_get (D := (dC, dI)) (ci := 5) (v := .ref g_row) (C := RX5) (T := TX5) (N := 30) hx hb hts hi_5 hown hK hP 0 rfl rfl 0 (by decide) hf_7 (fun _ h9 => h9) rfl dX5_feed_20 ?_
    refine lv_aload_n hx hb dX5_feed_23 rfl (lv_at hl 0 rfl) ?_
    refine va_get (D := (dC, dI)) (ci := 5) (v := .int m_n) (C := RX5) (T := TX5) (N := 30) hx hb hts hi_5 hown hK hP 0 rfl rfl 1 (by decide) hf_84 (fun _ h9 => h9) rfl dX5_feed_24 ?_
    refine lv_iload_n hx hb dX5_feed_27 rfl (lv_at hl 1 rfl) ?_
    refine lv_bipush (v := 16) hx hb dX5_feed_28 (by decide) ?_
    refine lv_ishr hx hb dX5_feed_30 ?_
    refine lv_i2s hx hb dX5_feed_31 rfl ?_
    refine va_iast hx hb hK hP hD hS 1 0 rfl rfl (ki_in (om_10 a0) (om_222 a1 i_1 i_2)) dX5_feed_32 (fun H locs hP hD hS => ?_)
    obtain ⟨hP, hD⟩ := kx_re (w2 := [kx_5 h0 g_row m_n m_slots 0 g_many g_loss g_less g_voteValue g_voteNumber g_allValue g_allNumber m_allMany g_nodeL g_nodeR m_nodes g_part m_partMany g_wasMany g_wasLoss g_wasValue g_wasNumber g_path m_pathMany g_heavyValue g_heavyTimes m_heavyMany g_fewest g_which g_met m_mostMet, kx_a g_row cyI 160 (upd f m_n.toNatClampNeg ((p0 >>> (16 &&& 31)).toInt16.toInt32))]) hP hD rfl
    refine lv_aload_n hx hb dX5_feed_33 rfl (lv_at hl 0 rfl) ?_
    refine va_get (D := (dC, dI)) (ci := 5) (v := .ref g_row) (C := RX5) (T := TX5) (N := 30) hx hb hts hi_5 hown hK hP 0 rfl rfl 0 (by decide) hf_7 (fun _ h9 => h9) rfl dX5_feed_34 ?_
    refine lv_aload_n hx hb dX5_feed_37 rfl (lv_at hl 0 rfl) ?_
    refine va_get (D := (dC, dI)) (ci := 5) (v := .int m_n) (C := RX5) (T := TX5) (N := 30) hx hb hts hi_5 hown hK hP 0 rfl rfl 1 (by decide) hf_84 (fun _ h9 => h9) rfl dX5_feed_38 ?_
    refine lv_iconst (v := 1) hx hb dX5_feed_41 (by decide) ?_
    refine lv_iadd hx hb dX5_feed_42 ?_
    refine lv_topi (fun y_3 ey_3 => ?_)
    have i_3 : y_3.toInt = m_n.toInt + 1 := ki_add ey_3 rfl rfl (om_13 a0) (om_192 a1)
    refine lv_iload_n hx hb dX5_feed_43 rfl (lv_at hl 1 rfl) ?_
    refine lv_i2s hx hb dX5_feed_44 rfl ?_
    refine va_iast hx hb hK hP hD hS 1 0 rfl rfl (ki_in (om_34 a0 i_3) (om_223 a1 i_1 i_2 i_3)) dX5_feed_45 (fun H locs hP hD hS => ?_)
    obtain ⟨hP, hD⟩ := kx_re (w2 := [kx_5 h0 g_row m_n m_slots 0 g_many g_loss g_less g_voteValue g_voteNumber g_allValue g_allNumber m_allMany g_nodeL g_nodeR m_nodes g_part m_partMany g_wasMany g_wasLoss g_wasValue g_wasNumber g_path m_pathMany g_heavyValue g_heavyTimes m_heavyMany g_fewest g_which g_met m_mostMet, kx_a g_row cyI 160 (upd (upd f m_n.toNatClampNeg ((p0 >>> (16 &&& 31)).toInt16.toInt32)) y_3.toNatClampNeg p0.toInt16.toInt32)]) hP hD rfl
    refine lv_aload_n hx hb dX5_feed_46 rfl (lv_at hl 0 rfl) ?_
    refine va_get (D := (dC, dI)) (ci := 5) (v := .ref g_row) (C := RX5) (T := TX5) (N := 30) hx hb hts hi_5 hown hK hP 0 rfl rfl 0 (by decide) hf_7 (fun _ h9 => h9) rfl dX5_feed_47 ?_
    refine lv_aload_n hx hb dX5_feed_50 rfl (lv_at hl 0 rfl) ?_
    refine va_get (D := (dC, dI)) (ci := 5) (v := .int m_n) (C := RX5) (T := TX5) (N := 30) hx hb hts hi_5 hown hK hP 0 rfl rfl 1 (by decide) hf_84 (fun _ h9 => h9) rfl dX5_feed_51 ?_
    refine lv_iconst (v := 2) hx hb dX5_feed_54 (by decide) ?_
    refine lv_iadd hx hb dX5_feed_55 ?_
    refine lv_topi (fun y_4 ey_4 => ?_)
    have i_4 : y_4.toInt = m_n.toInt + 2 := ki_add ey_4 rfl rfl (om_224 a0) (om_225 a1)
    refine lv_iload_n hx hb dX5_feed_56 rfl (lv_at hl 2 rfl) ?_
    refine lv_bipush (v := 16) hx hb dX5_feed_57 (by decide) ?_
    refine lv_ishr hx hb dX5_feed_59 ?_
    refine lv_i2s hx hb dX5_feed_60 rfl ?_
    refine va_iast hx hb hK hP hD hS 1 0 rfl rfl (ki_in (om_226 a0 i_4) (om_227 a1 i_1 i_2 i_4)) dX5_feed_61 (fun H locs hP hD hS => ?_)
    obtain ⟨hP, hD⟩ := kx_re (w2 := [kx_5 h0 g_row m_n m_slots 0 g_many g_loss g_less g_voteValue g_voteNumber g_allValue g_allNumber m_allMany g_nodeL g_nodeR m_nodes g_part m_partMany g_wasMany g_wasLoss g_wasValue g_wasNumber g_path m_pathMany g_heavyValue g_heavyTimes m_heavyMany g_fewest g_which g_met m_mostMet, kx_a g_row cyI 160 (upd (upd (upd f m_n.toNatClampNeg ((p0 >>> (16 &&& 31)).toInt16.toInt32)) y_3.toNatClampNeg p0.toInt16.toInt32) y_4.toNatClampNeg ((p1 >>> (16 &&& 31)).toInt16.toInt32))]) hP hD rfl
    refine lv_aload_n hx hb dX5_feed_62 rfl (lv_at hl 0 rfl) ?_
    refine va_get (D := (dC, dI)) (ci := 5) (v := .ref g_row) (C := RX5) (T := TX5) (N := 30) hx hb hts hi_5 hown hK hP 0 rfl rfl 0 (by decide) hf_7 (fun _ h9 => h9) rfl dX5_feed_63 ?_
    refine lv_aload_n hx hb dX5_feed_66 rfl (lv_at hl 0 rfl) ?_
    refine va_get (D := (dC, dI)) (ci := 5) (v := .int m_n) (C := RX5) (T := TX5) (N := 30) hx hb hts hi_5 hown hK hP 0 rfl rfl 1 (by decide) hf_84 (fun _ h9 => h9) rfl dX5_feed_67 ?_
    refine lv_iconst (v := 3) hx hb dX5_feed_70 (by decide) ?_
    refine lv_iadd hx hb dX5_feed_71 ?_
    refine lv_topi (fun y_5 ey_5 => ?_)
    have i_5 : y_5.toInt = m_n.toInt + 3 := ki_add ey_5 rfl rfl (om_228 a0) (om_229 a1)
    refine lv_iload_n hx hb dX5_feed_72 rfl (lv_at hl 2 rfl) ?_
    refine lv_i2s hx hb dX5_feed_73 rfl ?_
    refine va_iast hx hb hK hP hD hS 1 0 rfl rfl (ki_in (om_230 a0 i_5) (om_231 i_1 i_2 i_5)) dX5_feed_74 (fun H locs hP hD hS => ?_)
    obtain ⟨hP, hD⟩ := kx_re (w2 := [kx_5 h0 g_row m_n m_slots 0 g_many g_loss g_less g_voteValue g_voteNumber g_allValue g_allNumber m_allMany g_nodeL g_nodeR m_nodes g_part m_partMany g_wasMany g_wasLoss g_wasValue g_wasNumber g_path m_pathMany g_heavyValue g_heavyTimes m_heavyMany g_fewest g_which g_met m_mostMet, kx_a g_row cyI 160 (upd (upd (upd (upd f m_n.toNatClampNeg ((p0 >>> (16 &&& 31)).toInt16.toInt32)) y_3.toNatClampNeg p0.toInt16.toInt32) y_4.toNatClampNeg ((p1 >>> (16 &&& 31)).toInt16.toInt32)) y_5.toNatClampNeg p1.toInt16.toInt32)]) hP hD rfl
    refine lv_aload_n hx hb dX5_feed_75 rfl (lv_at hl 0 rfl) ?_
    refine lv_dup hx hb dX5_feed_76 rfl ?_
    refine va_get (D := (dC, dI)) (ci := 5) (v := .int m_n) (C := RX5) (T := TX5) (N := 30) hx hb hts hi_5 hown hK hP 0 rfl rfl 1 (by decide) hf_84 (fun _ h9 => h9) rfl dX5_feed_77 ?_
    refine lv_iconst (v := 4) hx hb dX5_feed_80 (by decide) ?_
    refine lv_iadd hx hb dX5_feed_81 ?_
    refine lv_topi (fun y_6 ey_6 => ?_)
    have i_6 : y_6.toInt = m_n.toInt + 4 := ki_add ey_6 rfl rfl (om_153 a0) (om_154 a1)
    refine va_put (D := (dC, dI)) (ci := 5) (v := .int y_6) (ty := .int) (C := RX5) (T := TX5) (N := 30) hx hb hts hi_5 tyX5 tyX5_ok nmX5 hown hK hP hD hS 0 rfl rfl 1 (by decide) hf_84 (fun _ h9 => h9) rfl (by decide +kernel) rfl rfl (Nat.le_of_ble_eq_true rfl) dX5_feed_82 (fun H locs hP hD hS => ?_)
    obtain ⟨hP, hD⟩ := kx_re (w2 := [kx_5 h0 g_row y_6 m_slots 0 g_many g_loss g_less g_voteValue g_voteNumber g_allValue g_allNumber m_allMany g_nodeL g_nodeR m_nodes g_part m_partMany g_wasMany g_wasLoss g_wasValue g_wasNumber g_path m_pathMany g_heavyValue g_heavyTimes m_heavyMany g_fewest g_which g_met m_mostMet, kx_a g_row cyI 160 (upd (upd (upd (upd f m_n.toNatClampNeg ((p0 >>> (16 &&& 31)).toInt16.toInt32)) y_3.toNatClampNeg p0.toInt16.toInt32) y_4.toNatClampNeg ((p1 >>> (16 &&& 31)).toInt16.toInt32)) y_5.toNatClampNeg p1.toInt16.toInt32)]) hP hD rfl
    refine lv_aload_n hx hb dX5_feed_85 rfl (lv_at hl 0 rfl) ?_
    refine va_get (D := (dC, dI)) (ci := 5) (v := .int y_6) (C := RX5) (T := TX5) (N := 30) hx hb hts hi_5 hown hK hP 0 rfl rfl 1 (by decide) hf_84 (fun _ h9 => h9) rfl dX5_feed_86 ?_
    have hP9 := hP
    have hD9 := hD
    have hK9 := hK
    have n_l := ki_nat m_n rfl (om_10 a0)
    have n_7 := ki_nat y_3 rfl (om_34 a0 i_3)
    have n_8 := ki_nat y_4 rfl (om_226 a0 i_4)
    have n_9 := ki_nat y_5 rfl (om_230 a0 i_5)
    have e_f : upd (upd (upd (upd f m_n.toNatClampNeg ((p0 >>> (16 &&& 31)).toInt16.toInt32)) y_3.toNatClampNeg p0.toInt16.toInt32) y_4.toNatClampNeg ((p1 >>> (16 &&& 31)).toInt16.toInt32)) y_5.toNatClampNeg p1.toInt16.toInt32 = mj_feed f m_n.toNatClampNeg p0 p1 := by
      rw [show y_3.toNatClampNeg = m_n.toNatClampNeg + 1 by omega, show y_4.toNatClampNeg = m_n.toNatClampNeg + 2 by omega, show y_5.toNatClampNeg = m_n.toNatClampNeg + 3 by omega, ki_short16, ki_short16]; rfl
    exact W.iret (v := y_6) hx hb hr (hlocks := hlocks) (fun t ht hW => ⟨⟨y_6, (y_6, (upd (upd (upd (upd f m_n.toNatClampNeg ((p0 >>> (16 &&& 31)).toInt16.toInt32)) y_3.toNatClampNeg p0.toInt16.toInt32) y_4.toNatClampNeg ((p1 >>> (16 &&& 31)).toInt16.toInt32)) y_5.toNatClampNeg p1.toInt16.toInt32)), rfl, ⟨Or.inl ⟨by omega, (by (try dsimp only); omega), (by (try dsimp only); omega), e_f⟩, (by (try dsimp only); rw [e_f]; exact shorts_feed p0 p1 s1)⟩, by rw [ht]; exact hP9, va_K.moved hW.alike hK9, hD9⟩, hS.F ht⟩) hS.2.2 dX5_feed_89
  · have i_2 : 160 < y_1.toInt := kc_nle c_2
    refine lv_iconst (v := (-1)) hx hb dX5_feed_17 (by decide) ?_
    have hP9 := hP
    have hD9 := hD
    have hK9 := hK
    exact W.iret (v := (-1)) hx hb hr (hlocks := hlocks) (fun t ht hW => ⟨⟨(-1), (m_n, f), rfl, ⟨Or.inr ⟨by omega, rfl, rfl, rfl⟩, s1⟩, by rw [ht]; exact hP9, va_K.moved hW.alike hK9, hD9⟩, hS.F ht⟩) hS.2.2 dX5_feed_18

set_option maxHeartbeats 4000000 in
set_option maxRecDepth 100000 in
theorem c_X4_overwrite_x (l : Launch) (dC : Nat → ClassId) (dI : Nat → Nat → Nat) (m_ : Nat) (q_row : Nat) (q_t : Nat) (t_ : Nat) (h0 : Nat) (k0 : Nat) (w_ : Nat) (z_ : Nat) (slots : Int32) (old : Int32) (q_joined : Nat) (q_from : Nat) (q_to : Nat) (q_size : Nat) (q_lossOf : Nat) (q_lessBy : Nat) (q_value : Nat) (q_number : Nat) (nodes : Int32) (here : Int32) (q_cell : Nat) (cyI : ClassId) (len : Int32) (f : Nat → Int32) (ff : Nat → Int32) (ft : Nat → Int32) (fs : Nat → Int32) (fo : Nat → Int32) (uv : Nat → Int32) (un : Nat → Int32) (fe : Nat → Int32) (j_v : Nat) (j_n : Nat) (js : Int32) (jl : Int32) (je : Int32) (jv : Nat → Int32) (jn : Nat → Int32) (p0 : Int32) (p1 : Int32) (p2 : Int32) (sz : Nat) (b0 : 0 ≤ nodes.toInt) (c0 : nodes.toInt ≤ 319) (c1 : len.toInt ≤ 160) (s0 : sixes fs) (t0 : treeOk ff ft nodes.toInt len.toInt) (d0 : 0 ≤ p0.toInt) (d1 : p1.toInt ≤ 160) (d2 : p0.toInt < p1.toInt) : kx_MQ l (dC, dI) yX4_overwrite wsX4_overwrite ({ frames := 5, cells := 0, slots := 0, locals := 225 }) [.ref m_, .ref q_t, .int p0, .int p1, .int p2] [kx_4 m_ q_row q_t t_ h0 k0 w_ z_ slots old, kx_2 q_t q_row q_joined q_from q_to q_size q_lossOf q_lessBy q_value q_number nodes here, kx_0 q_row q_cell len, kx_a q_cell cyI 160 f, kx_a q_from cyI 319 ff, kx_a q_to cyI 319 ft, kx_a q_size cyI 319 fs, kx_a q_lossOf cyI 319 fo, kx_a q_lessBy cyI 319 fe, kx_a q_value cyI 1914 uv, kx_a q_number cyI 1914 un, kx_3 q_joined j_v j_n js jl je, kx_a j_v cyI 12 jv, kx_a j_n cyI 12 jn] [(cyI, .int)] sz (fun A => va_Qi (fun (r : Int32) (u : (Nat → Int32) × (Nat → Int32) × (Nat → Int32) × (Nat → Int32) × (Nat → Int32) × (Nat → Int32) × Int32 × Int32 × Int32 × (Nat → Int32) × (Nat → Int32)) => u.1 = mj_fill f p0.toNatClampNeg p1.toNatClampNeg p2 ∧ sixes u.2.1) (fun (u : (Nat → Int32) × (Nat → Int32) × (Nat → Int32) × (Nat → Int32) × (Nat → Int32) × (Nat → Int32) × Int32 × Int32 × Int32 × (Nat → Int32) × (Nat → Int32)) (t : State) => va_P (dC, dI) vwCl [kx_4 m_ q_row q_t t_ h0 k0 w_ z_ slots old, kx_2 q_t q_row q_joined q_from q_to q_size q_lossOf q_lessBy q_value q_number nodes here, kx_0 q_row q_cell len, kx_a q_cell cyI 160 u.1, kx_a q_from cyI 319 ff, kx_a q_to cyI 319 ft, kx_a q_size cyI 319 u.2.1, kx_a q_lossOf cyI 319 u.2.2.1, kx_a q_lessBy cyI 319 u.2.2.2.1, kx_a q_value cyI 1914 u.2.2.2.2.1, kx_a q_number cyI 1914 u.2.2.2.2.2.1, kx_3 q_joined j_v j_n u.2.2.2.2.2.2.1 u.2.2.2.2.2.2.2.1 u.2.2.2.2.2.2.2.2.1, kx_a j_v cyI 12 u.2.2.2.2.2.2.2.2.2.1, kx_a j_n cyI 12 u.2.2.2.2.2.2.2.2.2.2] t.heap ∧ va_K (dC, dI) vwCl [(cyI, .int)] t ∧ va_D A [kx_4 m_ q_row q_t t_ h0 k0 w_ z_ slots old, kx_2 q_t q_row q_joined q_from q_to q_size q_lossOf q_lessBy q_value q_number nodes here, kx_0 q_row q_cell len, kx_a q_cell cyI 160 u.1, kx_a q_from cyI 319 ff, kx_a q_to cyI 319 ft, kx_a q_size cyI 319 u.2.1, kx_a q_lossOf cyI 319 u.2.2.1, kx_a q_lessBy cyI 319 u.2.2.2.1, kx_a q_value cyI 1914 u.2.2.2.2.1, kx_a q_number cyI 1914 u.2.2.2.2.2.1, kx_3 q_joined j_v j_n u.2.2.2.2.2.2.1 u.2.2.2.2.2.2.2.1 u.2.2.2.2.2.2.2.2.1, kx_a j_v cyI 12 u.2.2.2.2.2.2.2.2.2.1, kx_a j_n cyI 12 u.2.2.2.2.2.2.2.2.2.2]) A) := by
  refine kx_stQ (ws := wsX4_overwrite) (cc := cX4_overwrite) (maxL := 6) (ret := (some .int)) (by decide) rfl (Nat.le_of_ble_eq_true rfl) ?_
  intro p e s m below meth c A ls hx hb hr hlocks hts hown hml hA hS hP hK hD hl
  have hown : s.vm.findClass RX4 = some m.cls := hown
  have hl : lv_has ls 6 [(0, .ref m_), (1, .ref q_t), (2, .int p0), (3, .int p1), (4, .int p2)] := hl
  have hf_12 := hts (.fieldLink RX4 12 "MajorityIndex" "row" "LMajorityIndex$Row;") (List.mem_of_getElem? (i := 1) rfl)
  have hi_4 : ∀ w ∈ u_ws RX4 TX4 9, w ∈ wsX4_overwrite := fun w h => List.mem_cons_of_mem _ (List.mem_append_left _ (List.mem_append_left _ (List.mem_append_left _ (List.mem_append_right _ h))))
  have hf_110 := hts (.fieldLink RX4 110 "MajorityIndex$Row" "cell" "[I") (List.mem_of_getElem? (i := 2) rfl)
  have hi_0 : ∀ w ∈ u_ws RX0 TX0 2, w ∈ wsX4_overwrite := fun w h => List.mem_cons_of_mem _ (List.mem_append_left _ (List.mem_append_left _ (List.mem_append_right _ h)))
  refine lv_iload_n hx hb dX4_overwrite_0 rfl (lv_at hl 2 rfl) ?_
  refine lv_istore (lv' := [(5, .int p0), (0, .ref m_), (1, .ref q_t), (2, .int p0), (3, .int p1), (4, .int p2)]) hx hb dX4_overwrite_1 hl (by decide) rfl (fun ls hl => ?_)
  have LP1 : ∀ (n : Nat) (i : Int32) (gc : Nat → Int32), (p0.toInt ≤ i.toInt) → (i.toInt ≤ p1.toInt) → (gc = mj_fill f p0.toNatClampNeg i.toNatClampNeg p2) → (p1.toInt - i.toInt).toNat < n → ∀ (H : Heap) (locs : List Loc), va_P (dC, dI) vwCl [kx_4 m_ q_row q_t t_ h0 k0 w_ z_ slots old, kx_2 q_t q_row q_joined q_from q_to q_size q_lossOf q_lessBy q_value q_number nodes here, kx_0 q_row q_cell len, kx_a q_cell cyI 160 gc, kx_a q_from cyI 319 ff, kx_a q_to cyI 319 ft, kx_a q_size cyI 319 fs, kx_a q_lossOf cyI 319 fo, kx_a q_lessBy cyI 319 fe, kx_a q_value cyI 1914 uv, kx_a q_number cyI 1914 un, kx_3 q_joined j_v j_n js jl je, kx_a j_v cyI 12 jv, kx_a j_n cyI 12 jn] H → va_D A [kx_4 m_ q_row q_t t_ h0 k0 w_ z_ slots old, kx_2 q_t q_row q_joined q_from q_to q_size q_lossOf q_lessBy q_value q_number nodes here, kx_0 q_row q_cell len, kx_a q_cell cyI 160 gc, kx_a q_from cyI 319 ff, kx_a q_to cyI 319 ft, kx_a q_size cyI 319 fs, kx_a q_lossOf cyI 319 fo, kx_a q_lessBy cyI 319 fe, kx_a q_value cyI 1914 uv, kx_a q_number cyI 1914 un, kx_3 q_joined j_v j_n js jl je, kx_a j_v cyI 12 jv, kx_a j_n cyI 12 jn] → va_S A s.heap H locs → ∀ (ls : Array Slot), lv_has ls 6 [(5, .int i), (0, .ref m_), (1, .ref q_t), (2, .int p0), (3, .int p1), (4, .int p2)] → W p l e (headSpec wsX4_overwrite ({ frames := 5, cells := 0, slots := 0, locals := 225 })).room s m ([.ref m_, .ref q_t, .int p0, .int p1, .int p2] : List Value).toArray below meth c H locs 0 0 (MQ below (va_Qi (fun (r : Int32) (u : (Nat → Int32) × (Nat → Int32) × (Nat → Int32) × (Nat → Int32) × (Nat → Int32) × (Nat → Int32) × Int32 × Int32 × Int32 × (Nat → Int32) × (Nat → Int32)) => u.1 = mj_fill f p0.toNatClampNeg p1.toNatClampNeg p2 ∧ sixes u.2.1) (fun (u : (Nat → Int32) × (Nat → Int32) × (Nat → Int32) × (Nat → Int32) × (Nat → Int32) × (Nat → Int32) × Int32 × Int32 × Int32 × (Nat → Int32) × (Nat → Int32)) (t : State) => va_P (dC, dI) vwCl [kx_4 m_ q_row q_t t_ h0 k0 w_ z_ slots old, kx_2 q_t q_row q_joined q_from q_to q_size q_lossOf q_lessBy q_value q_number nodes here, kx_0 q_row q_cell len, kx_a q_cell cyI 160 u.1, kx_a q_from cyI 319 ff, kx_a q_to cyI 319 ft, kx_a q_size cyI 319 u.2.1, kx_a q_lossOf cyI 319 u.2.2.1, kx_a q_lessBy cyI 319 u.2.2.2.1, kx_a q_value cyI 1914 u.2.2.2.2.1, kx_a q_number cyI 1914 u.2.2.2.2.2.1, kx_3 q_joined j_v j_n u.2.2.2.2.2.2.1 u.2.2.2.2.2.2.2.1 u.2.2.2.2.2.2.2.2.1, kx_a j_v cyI 12 u.2.2.2.2.2.2.2.2.2.1, kx_a j_n cyI 12 u.2.2.2.2.2.2.2.2.2.2] t.heap ∧ va_K (dC, dI) vwCl [(cyI, .int)] t ∧ va_D A [kx_4 m_ q_row q_t t_ h0 k0 w_ z_ slots old, kx_2 q_t q_row q_joined q_from q_to q_size q_lossOf q_lessBy q_value q_number nodes here, kx_0 q_row q_cell len, kx_a q_cell cyI 160 u.1, kx_a q_from cyI 319 ff, kx_a q_to cyI 319 ft, kx_a q_size cyI 319 u.2.1, kx_a q_lossOf cyI 319 u.2.2.1, kx_a q_lessBy cyI 319 u.2.2.2.1, kx_a q_value cyI 1914 u.2.2.2.2.1, kx_a q_number cyI 1914 u.2.2.2.2.2.1, kx_3 q_joined j_v j_n u.2.2.2.2.2.2.1 u.2.2.2.2.2.2.2.1 u.2.2.2.2.2.2.2.2.1, kx_a j_v cyI 12 u.2.2.2.2.2.2.2.2.2.1, kx_a j_n cyI 12 u.2.2.2.2.2.2.2.2.2.2]) A) ([.ref m_, .ref q_t, .int p0, .int p1, .int p2] : List Value).toArray s 0 0 A) (F0 m 3 ls []) := by
    intro n
    induction n with
    | zero => intro i gc LP1_h0 LP1_h1 LP1_h2 hn; exact absurd hn (Nat.not_lt_zero _)
    | succ n ih1 =>
      intro i gc LP1_h0 LP1_h1 LP1_h2 hn1 H locs hP hD hS ls hl
      have n_i := ki_nat i rfl (om_0 d0 LP1_h0)
      have n_p0 := ki_nat p0 rfl (om_10 d0)
      have n_p1 := ki_nat p1 rfl (om_21 d0 d2)
      refine lv_iload hx hb dX4_overwrite_3 (lv_at hl 0 rfl) ?_
      refine lv_iload_n hx hb dX4_overwrite_5 rfl (lv_at hl 4 rfl) ?_
      refine lv_icmp_ge (tgt := 27) hx hb dX4_overwrite_6 (by decide) (fun c_1 => ?_) (fun c_1 => ?_)
      · have i_1 : p1.toInt ≤ i.toInt := kc_le c_1
        refine lv_aload_n hx hb dX4_overwrite_27 rfl (lv_at hl 2 rfl) ?_
        refine lv_iload_n hx hb dX4_overwrite_28 rfl (lv_at hl 3 rfl) ?_
        refine lv_iload_n hx hb dX4_overwrite_29 rfl (lv_at hl 4 rfl) ?_
        obtain ⟨hPc, hDc, hFc, hCc⟩ := kx_preM (wc := [kx_2 q_t q_row q_joined q_from q_to q_size q_lossOf q_lessBy q_value q_number nodes here, kx_0 q_row q_cell len, kx_a q_cell cyI 160 gc, kx_a q_from cyI 319 ff, kx_a q_to cyI 319 ft, kx_a q_size cyI 319 fs, kx_a q_lossOf cyI 319 fo, kx_a q_lessBy cyI 319 fe, kx_a q_value cyI 1914 uv, kx_a q_number cyI 1914 un, kx_3 q_joined j_v j_n js jl je, kx_a j_v cyI 12 jv, kx_a j_n cyI 12 jn]) hP hD hS hA [false, true, true, true, true, true, true, true, true, true, true, true, true, true] rfl
        have hKc := hK
        refine va_calli (va_runV (As := [.int p0, .int p1]) (rest := []) ⟨hx, hb, hml, hown, hts⟩ (kx_un (c_X2_renew l dC dI q_t q_row q_joined q_from q_to q_size q_lossOf q_lessBy q_value q_number nodes here q_cell cyI len gc ff ft fs fo uv un fe j_v j_n js jl je jv jn p0 p1 H.size b0 c0 c1 s0 t0)) (cwV 2 hts gX4_overwrite_X2_renew rfl rfl rfl (by decide +kernel) ⟨Nat.le_of_ble_eq_true rfl, Nat.le_of_ble_eq_true rfl⟩) ⟨fun a U g mk q => by obtain ⟨q0, q1, qP, qK, qD⟩ := q; exact ⟨q0, q1, qP, va_K.moved (u := U) (U := U.calling g mk a) (Vm.Alike.refl U.vm) qK, qD⟩, kx_rc2 hKc hPc (q0 := 0) rfl, fun U hU hW => ⟨rfl, by rw [hU], by rw [hU]; exact hPc, va_K.moved hW.alike hKc, hDc.weaken (fun _ _ _ _ => trivial)⟩⟩ rfl rfl hl.1 rfl (lv_room (Nat.le_of_ble_eq_true rfl)) dX4_overwrite_30 ⟨Nat.le_of_ble_eq_true rfl, Nat.le_of_ble_eq_true rfl⟩) hS (fun q _ h => hFc q h) hFc (fun r_2 u t H1 locs ht hvm w_2 hB hz1 hk1 hS => ?_)
        obtain ⟨o_3, o_4, o_5, o_6, o_7, o_8, o_9, o_10, o_11, o_12⟩ := u
        dsimp only at w_2 hB
        obtain ⟨hP1, hK1, hD1⟩ := hB
        rw [ht] at hP1
        have hK1 := va_K.moved hvm.symm hK1
        obtain ⟨hP, hD⟩ := kx_joinM (w2 := [kx_4 m_ q_row q_t t_ h0 k0 w_ z_ slots old, kx_2 q_t q_row q_joined q_from q_to q_size q_lossOf q_lessBy q_value q_number nodes here, kx_0 q_row q_cell len, kx_a q_cell cyI 160 gc, kx_a q_from cyI 319 ff, kx_a q_to cyI 319 ft, kx_a q_size cyI 319 o_3, kx_a q_lossOf cyI 319 o_4, kx_a q_lessBy cyI 319 o_5, kx_a q_value cyI 1914 o_6, kx_a q_number cyI 1914 o_7, kx_3 q_joined j_v j_n o_8 o_9 o_10, kx_a j_v cyI 12 o_11, kx_a j_n cyI 12 o_12]) hP hD hP1 hD1 hk1 hFc [false, true, true, true, true, true, true, true, true, true, true, true, true, true] hCc rfl
        clear hP1 hD1 hK1 hk1 hz1 hFc hDc hPc hKc hCc
        generalize H1 = H at hP hS ⊢
        have w_2 : sixes o_3 := w_2
        have hP9 := hP
        have hD9 := hD
        have hK9 := hK
        exact W.iret (v := r_2) hx hb hr (hlocks := hlocks) (fun t ht hW => ⟨⟨r_2, (gc, o_3, o_4, o_5, o_6, o_7, o_8, o_9, o_10, o_11, o_12), rfl, ⟨(by (try dsimp only); rw [LP1_h2, show i.toNatClampNeg = p1.toNatClampNeg by omega]), w_2⟩, by rw [ht]; exact hP9, va_K.moved hW.alike hK9, hD9⟩, hS.F ht⟩) hS.2.2 dX4_overwrite_33
      · have i_1 : i.toInt < p1.toInt := kc_nle c_1
        refine lv_aload_n hx hb dX4_overwrite_9 rfl (lv_at hl 1 rfl) ?_
        refine va_get (D := (dC, dI)) (ci := 4) (v := .ref q_row) (C := RX4) (T := TX4) (N := 9) hx hb hts hi_4 hown hK hP 0 rfl rfl 0 (by decide) hf_12 (fun _ h9 => h9) rfl dX4_overwrite_10 ?_
        refine va_get (D := (dC, dI)) (ci := 0) (v := .ref q_cell) (C := RX0) (T := TX0) (N := 2) hx hb hts hi_0 hown hK hP 2 rfl rfl 0 (by decide) hf_110 (fun _ h9 => h9) rfl dX4_overwrite_13 ?_
        refine lv_iload hx hb dX4_overwrite_16 (lv_at hl 0 rfl) ?_
        refine lv_iload hx hb dX4_overwrite_18 (lv_at hl 5 rfl) ?_
        refine va_iast hx hb hK hP hD hS 3 0 rfl rfl (ki_in (om_0 d0 LP1_h0) (om_1 d1 i_1)) dX4_overwrite_20 (fun H locs hP hD hS => ?_)
        obtain ⟨hP, hD⟩ := kx_re (w2 := [kx_4 m_ q_row q_t t_ h0 k0 w_ z_ slots old, kx_2 q_t q_row q_joined q_from q_to q_size q_lossOf q_lessBy q_value q_number nodes here, kx_0 q_row q_cell len, kx_a q_cell cyI 160 (upd gc i.toNatClampNeg p2), kx_a q_from cyI 319 ff, kx_a q_to cyI 319 ft, kx_a q_size cyI 319 fs, kx_a q_lossOf cyI 319 fo, kx_a q_lessBy cyI 319 fe, kx_a q_value cyI 1914 uv, kx_a q_number cyI 1914 un, kx_3 q_joined j_v j_n js jl je, kx_a j_v cyI 12 jv, kx_a j_n cyI 12 jn]) hP hD rfl
        obtain ⟨x_13, ex_13⟩ : ∃ y : Int32, y = i + 1 := ⟨_, rfl⟩
        have i_13 : x_13.toInt = i.toInt + 1 := ki_add ex_13 rfl rfl (om_2 d0 LP1_h0) (om_238 d1 LP1_h1)
        refine lv_iinc (v := x_13) (lv' := [(5, .int x_13), (0, .ref m_), (1, .ref q_t), (2, .int p0), (3, .int p1), (4, .int p2)]) hx hb dX4_overwrite_21 hl (k := 0) rfl (by rw [ex_13]; rfl) (by decide) rfl (fun ls hl => ?_)
        refine lv_goto (tgt := 3) hx hb dX4_overwrite_24 (by decide) ?_
        have n_14 := ki_nat x_13 rfl (om_89 d0 LP1_h0 i_13)
        exact ih1 x_13 (upd gc i.toNatClampNeg p2) (om_4 LP1_h0 i_13) (om_54 i_1 i_13) (by rw [LP1_h2]; exact mj_fill_step (by omega) (by omega)) (om_mu hn1 (om_5 i_13) (om_6 i_1)) _ _ hP hD hS ls (lv_sub hl [0, 1, 2, 3, 4, 5] rfl)
  exact LP1 ((p1.toInt - p0.toInt : Int).toNat + 1) p0 f om_7 (om_414 d2) (mj_fill_0 _ _ (Nat.le_refl _)).symm (Nat.lt_succ_self _) _ _ hP hD hS ls (lv_sub hl [0, 1, 2, 3, 4, 5] rfl)

set_option maxHeartbeats 4000000 in
set_option maxRecDepth 100000 in
theorem c_X4_set_x (l : Launch) (dC : Nat → ClassId) (dI : Nat → Nat → Nat) (m_ : Nat) (q_row : Nat) (q_t : Nat) (t_ : Nat) (h0 : Nat) (k0 : Nat) (w_ : Nat) (z_ : Nat) (slots : Int32) (old : Int32) (q_joined : Nat) (q_from : Nat) (q_to : Nat) (q_size : Nat) (q_lossOf : Nat) (q_lessBy : Nat) (q_value : Nat) (q_number : Nat) (nodes : Int32) (here : Int32) (q_cell : Nat) (cyI : ClassId) (len : Int32) (f : Nat → Int32) (ff : Nat → Int32) (ft : Nat → Int32) (fs : Nat → Int32) (fo : Nat → Int32) (uv : Nat → Int32) (un : Nat → Int32) (fe : Nat → Int32) (j_v : Nat) (j_n : Nat) (js : Int32) (jl : Int32) (je : Int32) (jv : Nat → Int32) (jn : Nat → Int32) (p0 : Int32) (p1 : Int32) (sz : Nat) (a0 : 0 ≤ len.toInt) (a1 : len.toInt ≤ 160) (s0 : sixes fs) (l0 : laidP old ff ft nodes len) (s1 : shorts f) : kx_MQ l (dC, dI) yX4_set wsX4_set ({ frames := 6, cells := 0, slots := 0, locals := 270 }) [.ref m_, .int p0, .int p1] [kx_4 m_ q_row q_t t_ h0 k0 w_ z_ slots old, kx_2 q_t q_row q_joined q_from q_to q_size q_lossOf q_lessBy q_value q_number nodes here, kx_0 q_row q_cell len, kx_a q_cell cyI 160 f, kx_a q_from cyI 319 ff, kx_a q_to cyI 319 ft, kx_a q_size cyI 319 fs, kx_a q_lossOf cyI 319 fo, kx_a q_lessBy cyI 319 fe, kx_a q_value cyI 1914 uv, kx_a q_number cyI 1914 un, kx_3 q_joined j_v j_n js jl je, kx_a j_v cyI 12 jv, kx_a j_n cyI 12 jn] [(cyI, .int)] sz (fun A => va_Qi (fun (r : Int32) (u : Int32 × Int32 × Int32 × (Nat → Int32) × (Nat → Int32) × (Nat → Int32) × (Nat → Int32) × (Nat → Int32) × (Nat → Int32) × (Nat → Int32) × Int32 × Int32 × Int32 × (Nat → Int32) × (Nat → Int32) × (Nat → Int32)) => (((0 ≤ p0.toInt ∧ p0.toInt < len.toInt ∧ -32768 ≤ p1.toInt ∧ p1.toInt ≤ 32767) ∧ u.2.2.2.2.2.2.2.2.2.2.2.2.2.2.2 = upd f p0.toNatClampNeg p1) ∨ ((p0.toInt < 0 ∨ len.toInt ≤ p0.toInt ∨ p1.toInt < -32768 ∨ 32767 < p1.toInt) ∧ u.2.2.2.2.2.2.2.2.2.2.2.2.2.2.2 = f ∧ r = -1)) ∧ shorts u.2.2.2.2.2.2.2.2.2.2.2.2.2.2.2 ∧ laidP u.1 u.2.2.2.1 u.2.2.2.2.1 u.2.1 len ∧ sixes u.2.2.2.2.2.1) (fun (u : Int32 × Int32 × Int32 × (Nat → Int32) × (Nat → Int32) × (Nat → Int32) × (Nat → Int32) × (Nat → Int32) × (Nat → Int32) × (Nat → Int32) × Int32 × Int32 × Int32 × (Nat → Int32) × (Nat → Int32) × (Nat → Int32)) (t : State) => va_P (dC, dI) vwCl [kx_4 m_ q_row q_t t_ h0 k0 w_ z_ slots u.1, kx_2 q_t q_row q_joined q_from q_to q_size q_lossOf q_lessBy q_value q_number u.2.1 u.2.2.1, kx_0 q_row q_cell len, kx_a q_cell cyI 160 u.2.2.2.2.2.2.2.2.2.2.2.2.2.2.2, kx_a q_from cyI 319 u.2.2.2.1, kx_a q_to cyI 319 u.2.2.2.2.1, kx_a q_size cyI 319 u.2.2.2.2.2.1, kx_a q_lossOf cyI 319 u.2.2.2.2.2.2.1, kx_a q_lessBy cyI 319 u.2.2.2.2.2.2.2.1, kx_a q_value cyI 1914 u.2.2.2.2.2.2.2.2.1, kx_a q_number cyI 1914 u.2.2.2.2.2.2.2.2.2.1, kx_3 q_joined j_v j_n u.2.2.2.2.2.2.2.2.2.2.1 u.2.2.2.2.2.2.2.2.2.2.2.1 u.2.2.2.2.2.2.2.2.2.2.2.2.1, kx_a j_v cyI 12 u.2.2.2.2.2.2.2.2.2.2.2.2.2.1, kx_a j_n cyI 12 u.2.2.2.2.2.2.2.2.2.2.2.2.2.2.1] t.heap ∧ va_K (dC, dI) vwCl [(cyI, .int)] t ∧ va_D A [kx_4 m_ q_row q_t t_ h0 k0 w_ z_ slots u.1, kx_2 q_t q_row q_joined q_from q_to q_size q_lossOf q_lessBy q_value q_number u.2.1 u.2.2.1, kx_0 q_row q_cell len, kx_a q_cell cyI 160 u.2.2.2.2.2.2.2.2.2.2.2.2.2.2.2, kx_a q_from cyI 319 u.2.2.2.1, kx_a q_to cyI 319 u.2.2.2.2.1, kx_a q_size cyI 319 u.2.2.2.2.2.1, kx_a q_lossOf cyI 319 u.2.2.2.2.2.2.1, kx_a q_lessBy cyI 319 u.2.2.2.2.2.2.2.1, kx_a q_value cyI 1914 u.2.2.2.2.2.2.2.2.1, kx_a q_number cyI 1914 u.2.2.2.2.2.2.2.2.2.1, kx_3 q_joined j_v j_n u.2.2.2.2.2.2.2.2.2.2.1 u.2.2.2.2.2.2.2.2.2.2.2.1 u.2.2.2.2.2.2.2.2.2.2.2.2.1, kx_a j_v cyI 12 u.2.2.2.2.2.2.2.2.2.2.2.2.2.1, kx_a j_n cyI 12 u.2.2.2.2.2.2.2.2.2.2.2.2.2.2.1]) A) := by
  refine kx_stQ (ws := wsX4_set) (cc := cX4_set) (maxL := 3) (ret := (some .int)) (by decide) rfl (Nat.le_of_ble_eq_true rfl) ?_
  intro p e s m below meth c A ls hx hb hr hlocks hts hown hml hA hS hP hK hD hl
  have hown : s.vm.findClass RX4 = some m.cls := hown
  have hl : lv_has ls 3 [(0, .ref m_), (1, .int p0), (2, .int p1)] := hl
  have hf_12 := hts (.fieldLink RX4 12 "MajorityIndex" "row" "LMajorityIndex$Row;") (List.mem_of_getElem? (i := 1) rfl)
  have hi_4 : ∀ w ∈ u_ws RX4 TX4 9, w ∈ wsX4_set := fun w h => List.mem_cons_of_mem _ (List.mem_append_left _ (List.mem_append_left _ (List.mem_append_left _ (List.mem_append_right _ h))))
  refine lv_aload_n hx hb dX4_set_0 rfl (lv_at hl 0 rfl) ?_
  refine va_get (D := (dC, dI)) (ci := 4) (v := .ref q_row) (C := RX4) (T := TX4) (N := 9) hx hb hts hi_4 hown hK hP 0 rfl rfl 0 (by decide) hf_12 (fun _ h9 => h9) rfl dX4_set_1 ?_
  refine lv_iload_n hx hb dX4_set_4 rfl (lv_at hl 1 rfl) ?_
  have hPc := hP.sub (ws' := [kx_0 q_row q_cell len]) [2] rfl
  have hKc := hK.sub (tys' := []) [] rfl
  refine vp_callSi (W.runV (As := [.int p0]) (rest := []) ⟨hx, hb, hml, hown, hts⟩ (c_X0_hasPlace l dC dI q_row q_cell len p0) (cwV 1 hts gX4_set_X0_hasPlace rfl rfl rfl (by decide +kernel) ⟨Nat.le_of_ble_eq_true rfl, Nat.le_of_ble_eq_true rfl⟩) ⟨fun a U g mk q => by obtain ⟨q0, qP, qK⟩ := q; exact ⟨q0, qP, va_K.moved (u := U) (U := U.calling g mk a) (Vm.Alike.refl U.vm) qK⟩, kx_rc0 hKc hPc (q0 := 0) rfl, fun U hU hW => ⟨rfl, by rw [hU]; exact hPc, va_K.moved hW.alike hKc⟩⟩ rfl rfl hl.1 rfl (lv_room (Nat.le_of_ble_eq_true rfl)) dX4_set_5 ⟨Nat.le_of_ble_eq_true rfl, Nat.le_of_ble_eq_true rfl⟩) (fun r_1 w_1 => ?_)
  rcases w_1 with ⟨rfl, w_1⟩ | ⟨rfl, w_1⟩
  · have w_1 : (0 ≤ p0.toInt ∧ p0.toInt < len.toInt) := w_1
    refine lv_if_eq (tgt := 18) hx hb dX4_set_8 (by decide) (fun c_2 => ?_) (fun c_2 => ?_)
    · exact absurd c_2 (by decide)
    · refine lv_iload_n hx hb dX4_set_11 rfl (lv_at hl 2 rfl) ?_
      have hPc := hP.sub (ws' := []) [] rfl
      have hKc := hK.sub (tys' := []) [] rfl
      refine vp_callSi (W.runS (As := [.int p1]) (rest := []) ⟨hx, hb, hml, hown, hts⟩ (c_X4_isValue l dC dI p1) (va_cwS 1 hts gX4_set_X4_isValue rfl rfl rfl (by decide +kernel) ⟨Nat.le_of_ble_eq_true rfl, Nat.le_of_ble_eq_true rfl⟩) ⟨fun a U g mk q => by obtain ⟨q0, qP, qK⟩ := q; exact ⟨q0, qP, va_K.moved (u := U) (U := U.calling g mk a) (Vm.Alike.refl U.vm) qK⟩, fun U hU hW => ⟨rfl, by rw [hU]; exact hPc, va_K.moved hW.alike hKc⟩⟩ rfl rfl hl.1 rfl (lv_room (Nat.le_of_ble_eq_true rfl)) dX4_set_12 ⟨Nat.le_of_ble_eq_true rfl, Nat.le_of_ble_eq_true rfl⟩) (fun r_3 w_3 => ?_)
      rcases w_3 with ⟨rfl, w_3⟩ | ⟨rfl, w_3⟩
      · have w_3 : (-32768 ≤ p1.toInt ∧ p1.toInt ≤ 32767) := w_3
        refine lv_if_ne (tgt := 20) hx hb dX4_set_15 (by decide) (fun c_4 => ?_) (fun c_4 => ?_)
        · refine lv_aload_n hx hb dX4_set_20 rfl (lv_at hl 0 rfl) ?_
          refine lv_aload_n hx hb dX4_set_21 rfl (lv_at hl 0 rfl) ?_
          have hPc := hP
          have hKc := hK
          have hDc := hD
          have hFc := kx_free hD hS hA
          refine va_callr (va_runV (As := []) (rest := [.ref m_]) ⟨hx, hb, hml, hown, hts⟩ (kx_un (c_X4_laidTree l dC dI m_ q_row q_t t_ h0 k0 w_ z_ slots old q_joined q_from q_to q_size q_lossOf q_lessBy q_value q_number nodes here q_cell cyI len f ff ft fs fo uv un fe j_v j_n js jl je jv jn s.heap.size a0 a1 s0 l0)) (cwV 0 hts gX4_set_X4_laidTree rfl rfl rfl (by decide +kernel) ⟨Nat.le_of_ble_eq_true rfl, Nat.le_of_ble_eq_true rfl⟩) ⟨fun a U g mk q => by obtain ⟨q0, q1, qP, qK, qD⟩ := q; exact ⟨q0, q1, qP, va_K.moved (u := U) (U := U.calling g mk a) (Vm.Alike.refl U.vm) qK, qD⟩, kx_rc4 hKc hPc (q0 := 0) rfl, fun U hU hW => ⟨rfl, by rw [hU], by rw [hU]; exact hPc, va_K.moved hW.alike hKc, hDc.weaken (fun _ _ _ _ => trivial)⟩⟩ rfl rfl hl.1 rfl (lv_room (Nat.le_of_ble_eq_true rfl)) dX4_set_22 ⟨Nat.le_of_ble_eq_true rfl, Nat.le_of_ble_eq_true rfl⟩) hS (fun q _ h => hFc q h) hFc (fun u ra t H1 locs ht hvm w_5 hB hz1 hk1 hS => ?_)
          obtain ⟨o_6, o_7, o_8, o_9, o_10, o_11, o_12, o_13, o_14, o_15, o_16, o_17, o_18, o_19, o_20⟩ := u
          dsimp only at w_5 hB
          obtain ⟨er, hP1, hK1, hD1⟩ := hB
          rw [ht] at hP1
          have hK1 := va_K.moved hvm.symm hK1
          have hD := hD1.weaken (fun _ q _ h => hFc q.1 h)
          have hP := hP1
          clear hP1 hD1 hK1 hk1 hz1 hFc hDc hPc hKc
          generalize H1 = H at hP hS ⊢
          have w_5 : o_6.toInt = 0 ∧ 0 ≤ o_7.toInt ∧ o_7.toInt ≤ 319 ∧ sixes o_11 ∧ treeOk o_9 o_10 o_7.toInt len.toInt := w_5
          rw [er]
          refine lv_iload_n hx hb dX4_set_25 rfl (lv_at hl 1 rfl) ?_
          refine lv_iload_n hx hb dX4_set_26 rfl (lv_at hl 1 rfl) ?_
          refine lv_iconst (v := 1) hx hb dX4_set_27 (by decide) ?_
          refine lv_iadd hx hb dX4_set_28 ?_
          refine lv_topi (fun y_21 ey_21 => ?_)
          have i_21 : y_21.toInt = p0.toInt + 1 := ki_add ey_21 rfl rfl (om_13 w_1.1) (om_3 a1 w_1.2)
          refine lv_iload_n hx hb dX4_set_29 rfl (lv_at hl 2 rfl) ?_
          have hPc := hP
          have hKc := hK
          have hDc := hD
          have hFc := kx_free hD hS hA
          refine va_calli (va_runV (As := [.ref q_t, .int p0, .int y_21, .int p1]) (rest := []) ⟨hx, hb, hml, hown, hts⟩ (kx_un (c_X4_overwrite_x l dC dI m_ q_row q_t t_ h0 k0 w_ z_ slots o_6 q_joined q_from q_to q_size q_lossOf q_lessBy q_value q_number o_7 o_8 q_cell cyI len f o_9 o_10 o_11 o_12 o_14 o_15 o_13 j_v j_n o_16 o_17 o_18 o_19 o_20 p0 y_21 p1 H.size w_5.2.1 w_5.2.2.1 a1 w_5.2.2.2.1 w_5.2.2.2.2 (om_10 w_1.1) (om_188 a1 w_1.2 i_21) (om_301 i_21))) (cwV 4 hts gX4_set_X4_overwrite rfl rfl rfl (by decide +kernel) ⟨Nat.le_of_ble_eq_true rfl, Nat.le_of_ble_eq_true rfl⟩) ⟨fun a U g mk q => by obtain ⟨q0, q1, qP, qK, qD⟩ := q; exact ⟨q0, q1, qP, va_K.moved (u := U) (U := U.calling g mk a) (Vm.Alike.refl U.vm) qK, qD⟩, kx_rc4 hKc hPc (q0 := 0) rfl, fun U hU hW => ⟨rfl, by rw [hU], by rw [hU]; exact hPc, va_K.moved hW.alike hKc, hDc.weaken (fun _ _ _ _ => trivial)⟩⟩ rfl rfl hl.1 rfl (lv_room (Nat.le_of_ble_eq_true rfl)) dX4_set_30 ⟨Nat.le_of_ble_eq_true rfl, Nat.le_of_ble_eq_true rfl⟩) hS (fun q _ h => hFc q h) hFc (fun r_22 u t H1 locs ht hvm w_22 hB hz1 hk1 hS => ?_)
          obtain ⟨o_23, o_24, o_25, o_26, o_27, o_28, o_29, o_30, o_31, o_32, o_33⟩ := u
          dsimp only at w_22 hB
          obtain ⟨hP1, hK1, hD1⟩ := hB
          rw [ht] at hP1
          have hK1 := va_K.moved hvm.symm hK1
          have hD := hD1.weaken (fun _ q _ h => hFc q.1 h)
          have hP := hP1
          clear hP1 hD1 hK1 hk1 hz1 hFc hDc hPc hKc
          generalize H1 = H at hP hS ⊢
          have w_22 : o_23 = mj_fill f p0.toNatClampNeg y_21.toNatClampNeg p1 ∧ sixes o_24 := w_22
          have hP9 := hP
          have hD9 := hD
          have hK9 := hK
          have n_34 := ki_nat y_21 rfl (om_34 w_1.1 i_21)
          have n_p0 := ki_nat p0 rfl (om_10 w_1.1)
          have e_f : o_23 = upd f p0.toNatClampNeg p1 := w_22.1.trans (mj_fill_one f p1 (by omega))
          exact W.iret (v := r_22) hx hb hr (hlocks := hlocks) (fun t ht hW => ⟨⟨r_22, (o_6, o_7, o_8, o_9, o_10, o_24, o_25, o_26, o_27, o_28, o_29, o_30, o_31, o_32, o_33, o_23), rfl, ⟨Or.inl ⟨by omega, e_f⟩, (by (try dsimp only); rw [e_f]; exact shorts_upd s1 (by omega) (by omega)), (fun _ => ⟨(by (try dsimp only); omega), (by (try dsimp only); omega), w_5.2.2.2.2⟩), w_22.2⟩, by rw [ht]; exact hP9, va_K.moved hW.alike hK9, hD9⟩, hS.F ht⟩) hS.2.2 dX4_set_33
        · exact absurd c_4 (by decide)
      · have w_3 : (p1.toInt < -32768 ∨ 32767 < p1.toInt) := w_3
        refine lv_if_ne (tgt := 20) hx hb dX4_set_15 (by decide) (fun c_35 => ?_) (fun c_35 => ?_)
        · exact absurd c_35 (by decide)
        · refine lv_iconst (v := (-1)) hx hb dX4_set_18 (by decide) ?_
          have hP9 := hP
          have hD9 := hD
          have hK9 := hK
          exact W.iret (v := (-1)) hx hb hr (hlocks := hlocks) (fun t ht hW => ⟨⟨(-1), (old, nodes, here, ff, ft, fs, fo, fe, uv, un, js, jl, je, jv, jn, f), rfl, ⟨Or.inr ⟨by omega, rfl, rfl⟩, s1, l0, s0⟩, by rw [ht]; exact hP9, va_K.moved hW.alike hK9, hD9⟩, hS.F ht⟩) hS.2.2 dX4_set_19
  · have w_1 : (p0.toInt < 0 ∨ len.toInt ≤ p0.toInt) := w_1
    refine lv_if_eq (tgt := 18) hx hb dX4_set_8 (by decide) (fun c_36 => ?_) (fun c_36 => ?_)
    · refine lv_iconst (v := (-1)) hx hb dX4_set_18 (by decide) ?_
      have hP9 := hP
      have hD9 := hD
      have hK9 := hK
      exact W.iret (v := (-1)) hx hb hr (hlocks := hlocks) (fun t ht hW => ⟨⟨(-1), (old, nodes, here, ff, ft, fs, fo, fe, uv, un, js, jl, je, jv, jn, f), rfl, ⟨Or.inr ⟨by omega, rfl, rfl⟩, s1, l0, s0⟩, by rw [ht]; exact hP9, va_K.moved hW.alike hK9, hD9⟩, hS.F ht⟩) hS.2.2 dX4_set_19
    · exact absurd c_36 (by decide)

set_option maxHeartbeats 4000000 in
set_option maxRecDepth 100000 in
theorem c_X4_fill_x (l : Launch) (dC : Nat → ClassId) (dI : Nat → Nat → Nat) (m_ : Nat) (q_row : Nat) (q_t : Nat) (t_ : Nat) (h0 : Nat) (k0 : Nat) (w_ : Nat) (z_ : Nat) (slots : Int32) (old : Int32) (q_joined : Nat) (q_from : Nat) (q_to : Nat) (q_size : Nat) (q_lossOf : Nat) (q_lessBy : Nat) (q_value : Nat) (q_number : Nat) (nodes : Int32) (here : Int32) (q_cell : Nat) (cyI : ClassId) (len : Int32) (f : Nat → Int32) (ff : Nat → Int32) (ft : Nat → Int32) (fs : Nat → Int32) (fo : Nat → Int32) (uv : Nat → Int32) (un : Nat → Int32) (fe : Nat → Int32) (j_v : Nat) (j_n : Nat) (js : Int32) (jl : Int32) (je : Int32) (jv : Nat → Int32) (jn : Nat → Int32) (p0 : Int32) (p1 : Int32) (p2 : Int32) (sz : Nat) (a0 : 0 ≤ len.toInt) (a1 : len.toInt ≤ 160) (s0 : sixes fs) (l0 : laidP old ff ft nodes len) (s1 : shorts f) : kx_MQ l (dC, dI) yX4_fill wsX4_fill ({ frames := 6, cells := 0, slots := 0, locals := 270 }) [.ref m_, .int p0, .int p1, .int p2] [kx_4 m_ q_row q_t t_ h0 k0 w_ z_ slots old, kx_2 q_t q_row q_joined q_from q_to q_size q_lossOf q_lessBy q_value q_number nodes here, kx_0 q_row q_cell len, kx_a q_cell cyI 160 f, kx_a q_from cyI 319 ff, kx_a q_to cyI 319 ft, kx_a q_size cyI 319 fs, kx_a q_lossOf cyI 319 fo, kx_a q_lessBy cyI 319 fe, kx_a q_value cyI 1914 uv, kx_a q_number cyI 1914 un, kx_3 q_joined j_v j_n js jl je, kx_a j_v cyI 12 jv, kx_a j_n cyI 12 jn] [(cyI, .int)] sz (fun A => va_Qi (fun (r : Int32) (u : Int32 × Int32 × Int32 × (Nat → Int32) × (Nat → Int32) × (Nat → Int32) × (Nat → Int32) × (Nat → Int32) × (Nat → Int32) × (Nat → Int32) × Int32 × Int32 × Int32 × (Nat → Int32) × (Nat → Int32) × (Nat → Int32)) => (((0 ≤ p0.toInt ∧ p0.toInt < p1.toInt ∧ p1.toInt ≤ len.toInt ∧ -32768 ≤ p2.toInt ∧ p2.toInt ≤ 32767) ∧ u.2.2.2.2.2.2.2.2.2.2.2.2.2.2.2 = mj_fill f p0.toNatClampNeg p1.toNatClampNeg p2) ∨ ((p0.toInt < 0 ∨ p1.toInt ≤ p0.toInt ∨ len.toInt < p1.toInt ∨ p2.toInt < -32768 ∨ 32767 < p2.toInt) ∧ u.2.2.2.2.2.2.2.2.2.2.2.2.2.2.2 = f ∧ r = -1)) ∧ shorts u.2.2.2.2.2.2.2.2.2.2.2.2.2.2.2 ∧ laidP u.1 u.2.2.2.1 u.2.2.2.2.1 u.2.1 len ∧ sixes u.2.2.2.2.2.1) (fun (u : Int32 × Int32 × Int32 × (Nat → Int32) × (Nat → Int32) × (Nat → Int32) × (Nat → Int32) × (Nat → Int32) × (Nat → Int32) × (Nat → Int32) × Int32 × Int32 × Int32 × (Nat → Int32) × (Nat → Int32) × (Nat → Int32)) (t : State) => va_P (dC, dI) vwCl [kx_4 m_ q_row q_t t_ h0 k0 w_ z_ slots u.1, kx_2 q_t q_row q_joined q_from q_to q_size q_lossOf q_lessBy q_value q_number u.2.1 u.2.2.1, kx_0 q_row q_cell len, kx_a q_cell cyI 160 u.2.2.2.2.2.2.2.2.2.2.2.2.2.2.2, kx_a q_from cyI 319 u.2.2.2.1, kx_a q_to cyI 319 u.2.2.2.2.1, kx_a q_size cyI 319 u.2.2.2.2.2.1, kx_a q_lossOf cyI 319 u.2.2.2.2.2.2.1, kx_a q_lessBy cyI 319 u.2.2.2.2.2.2.2.1, kx_a q_value cyI 1914 u.2.2.2.2.2.2.2.2.1, kx_a q_number cyI 1914 u.2.2.2.2.2.2.2.2.2.1, kx_3 q_joined j_v j_n u.2.2.2.2.2.2.2.2.2.2.1 u.2.2.2.2.2.2.2.2.2.2.2.1 u.2.2.2.2.2.2.2.2.2.2.2.2.1, kx_a j_v cyI 12 u.2.2.2.2.2.2.2.2.2.2.2.2.2.1, kx_a j_n cyI 12 u.2.2.2.2.2.2.2.2.2.2.2.2.2.2.1] t.heap ∧ va_K (dC, dI) vwCl [(cyI, .int)] t ∧ va_D A [kx_4 m_ q_row q_t t_ h0 k0 w_ z_ slots u.1, kx_2 q_t q_row q_joined q_from q_to q_size q_lossOf q_lessBy q_value q_number u.2.1 u.2.2.1, kx_0 q_row q_cell len, kx_a q_cell cyI 160 u.2.2.2.2.2.2.2.2.2.2.2.2.2.2.2, kx_a q_from cyI 319 u.2.2.2.1, kx_a q_to cyI 319 u.2.2.2.2.1, kx_a q_size cyI 319 u.2.2.2.2.2.1, kx_a q_lossOf cyI 319 u.2.2.2.2.2.2.1, kx_a q_lessBy cyI 319 u.2.2.2.2.2.2.2.1, kx_a q_value cyI 1914 u.2.2.2.2.2.2.2.2.1, kx_a q_number cyI 1914 u.2.2.2.2.2.2.2.2.2.1, kx_3 q_joined j_v j_n u.2.2.2.2.2.2.2.2.2.2.1 u.2.2.2.2.2.2.2.2.2.2.2.1 u.2.2.2.2.2.2.2.2.2.2.2.2.1, kx_a j_v cyI 12 u.2.2.2.2.2.2.2.2.2.2.2.2.2.1, kx_a j_n cyI 12 u.2.2.2.2.2.2.2.2.2.2.2.2.2.2.1]) A) := by
  refine kx_stQ (ws := wsX4_fill) (cc := cX4_fill) (maxL := 4) (ret := (some .int)) (by decide) rfl (Nat.le_of_ble_eq_true rfl) ?_
  intro p e s m below meth c A ls hx hb hr hlocks hts hown hml hA hS hP hK hD hl
  have hown : s.vm.findClass RX4 = some m.cls := hown
  have hl : lv_has ls 4 [(0, .ref m_), (1, .int p0), (2, .int p1), (3, .int p2)] := hl
  have hf_12 := hts (.fieldLink RX4 12 "MajorityIndex" "row" "LMajorityIndex$Row;") (List.mem_of_getElem? (i := 1) rfl)
  have hi_4 : ∀ w ∈ u_ws RX4 TX4 9, w ∈ wsX4_fill := fun w h => List.mem_cons_of_mem _ (List.mem_append_left _ (List.mem_append_left _ (List.mem_append_left _ (List.mem_append_right _ h))))
  refine lv_aload_n hx hb dX4_fill_0 rfl (lv_at hl 0 rfl) ?_
  refine va_get (D := (dC, dI)) (ci := 4) (v := .ref q_row) (C := RX4) (T := TX4) (N := 9) hx hb hts hi_4 hown hK hP 0 rfl rfl 0 (by decide) hf_12 (fun _ h9 => h9) rfl dX4_fill_1 ?_
  refine lv_iload_n hx hb dX4_fill_4 rfl (lv_at hl 1 rfl) ?_
  refine lv_iload_n hx hb dX4_fill_5 rfl (lv_at hl 2 rfl) ?_
  have hPc := hP.sub (ws' := [kx_0 q_row q_cell len]) [2] rfl
  have hKc := hK.sub (tys' := []) [] rfl
  refine vp_callSi (W.runV (As := [.int p0, .int p1]) (rest := []) ⟨hx, hb, hml, hown, hts⟩ (c_X0_hasRange l dC dI q_row q_cell len p0 p1) (cwV 2 hts gX4_fill_X0_hasRange rfl rfl rfl (by decide +kernel) ⟨Nat.le_of_ble_eq_true rfl, Nat.le_of_ble_eq_true rfl⟩) ⟨fun a U g mk q => by obtain ⟨q0, qP, qK⟩ := q; exact ⟨q0, qP, va_K.moved (u := U) (U := U.calling g mk a) (Vm.Alike.refl U.vm) qK⟩, kx_rc0 hKc hPc (q0 := 0) rfl, fun U hU hW => ⟨rfl, by rw [hU]; exact hPc, va_K.moved hW.alike hKc⟩⟩ rfl rfl hl.1 rfl (lv_room (Nat.le_of_ble_eq_true rfl)) dX4_fill_6 ⟨Nat.le_of_ble_eq_true rfl, Nat.le_of_ble_eq_true rfl⟩) (fun r_1 w_1 => ?_)
  rcases w_1 with ⟨rfl, w_1⟩ | ⟨rfl, w_1⟩
  · have w_1 : (0 ≤ p0.toInt ∧ p0.toInt < p1.toInt ∧ p1.toInt ≤ len.toInt) := w_1
    refine lv_if_eq (tgt := 19) hx hb dX4_fill_9 (by decide) (fun c_2 => ?_) (fun c_2 => ?_)
    · exact absurd c_2 (by decide)
    · refine lv_iload_n hx hb dX4_fill_12 rfl (lv_at hl 3 rfl) ?_
      have hPc := hP.sub (ws' := []) [] rfl
      have hKc := hK.sub (tys' := []) [] rfl
      refine vp_callSi (W.runS (As := [.int p2]) (rest := []) ⟨hx, hb, hml, hown, hts⟩ (c_X4_isValue l dC dI p2) (va_cwS 1 hts gX4_fill_X4_isValue rfl rfl rfl (by decide +kernel) ⟨Nat.le_of_ble_eq_true rfl, Nat.le_of_ble_eq_true rfl⟩) ⟨fun a U g mk q => by obtain ⟨q0, qP, qK⟩ := q; exact ⟨q0, qP, va_K.moved (u := U) (U := U.calling g mk a) (Vm.Alike.refl U.vm) qK⟩, fun U hU hW => ⟨rfl, by rw [hU]; exact hPc, va_K.moved hW.alike hKc⟩⟩ rfl rfl hl.1 rfl (lv_room (Nat.le_of_ble_eq_true rfl)) dX4_fill_13 ⟨Nat.le_of_ble_eq_true rfl, Nat.le_of_ble_eq_true rfl⟩) (fun r_3 w_3 => ?_)
      rcases w_3 with ⟨rfl, w_3⟩ | ⟨rfl, w_3⟩
      · have w_3 : (-32768 ≤ p2.toInt ∧ p2.toInt ≤ 32767) := w_3
        refine lv_if_ne (tgt := 21) hx hb dX4_fill_16 (by decide) (fun c_4 => ?_) (fun c_4 => ?_)
        · refine lv_aload_n hx hb dX4_fill_21 rfl (lv_at hl 0 rfl) ?_
          refine lv_aload_n hx hb dX4_fill_22 rfl (lv_at hl 0 rfl) ?_
          have hPc := hP
          have hKc := hK
          have hDc := hD
          have hFc := kx_free hD hS hA
          refine va_callr (va_runV (As := []) (rest := [.ref m_]) ⟨hx, hb, hml, hown, hts⟩ (kx_un (c_X4_laidTree l dC dI m_ q_row q_t t_ h0 k0 w_ z_ slots old q_joined q_from q_to q_size q_lossOf q_lessBy q_value q_number nodes here q_cell cyI len f ff ft fs fo uv un fe j_v j_n js jl je jv jn s.heap.size a0 a1 s0 l0)) (cwV 0 hts gX4_fill_X4_laidTree rfl rfl rfl (by decide +kernel) ⟨Nat.le_of_ble_eq_true rfl, Nat.le_of_ble_eq_true rfl⟩) ⟨fun a U g mk q => by obtain ⟨q0, q1, qP, qK, qD⟩ := q; exact ⟨q0, q1, qP, va_K.moved (u := U) (U := U.calling g mk a) (Vm.Alike.refl U.vm) qK, qD⟩, kx_rc4 hKc hPc (q0 := 0) rfl, fun U hU hW => ⟨rfl, by rw [hU], by rw [hU]; exact hPc, va_K.moved hW.alike hKc, hDc.weaken (fun _ _ _ _ => trivial)⟩⟩ rfl rfl hl.1 rfl (lv_room (Nat.le_of_ble_eq_true rfl)) dX4_fill_23 ⟨Nat.le_of_ble_eq_true rfl, Nat.le_of_ble_eq_true rfl⟩) hS (fun q _ h => hFc q h) hFc (fun u ra t H1 locs ht hvm w_5 hB hz1 hk1 hS => ?_)
          obtain ⟨o_6, o_7, o_8, o_9, o_10, o_11, o_12, o_13, o_14, o_15, o_16, o_17, o_18, o_19, o_20⟩ := u
          dsimp only at w_5 hB
          obtain ⟨er, hP1, hK1, hD1⟩ := hB
          rw [ht] at hP1
          have hK1 := va_K.moved hvm.symm hK1
          have hD := hD1.weaken (fun _ q _ h => hFc q.1 h)
          have hP := hP1
          clear hP1 hD1 hK1 hk1 hz1 hFc hDc hPc hKc
          generalize H1 = H at hP hS ⊢
          have w_5 : o_6.toInt = 0 ∧ 0 ≤ o_7.toInt ∧ o_7.toInt ≤ 319 ∧ sixes o_11 ∧ treeOk o_9 o_10 o_7.toInt len.toInt := w_5
          rw [er]
          refine lv_iload_n hx hb dX4_fill_26 rfl (lv_at hl 1 rfl) ?_
          refine lv_iload_n hx hb dX4_fill_27 rfl (lv_at hl 2 rfl) ?_
          refine lv_iload_n hx hb dX4_fill_28 rfl (lv_at hl 3 rfl) ?_
          have hPc := hP
          have hKc := hK
          have hDc := hD
          have hFc := kx_free hD hS hA
          refine va_calli (va_runV (As := [.ref q_t, .int p0, .int p1, .int p2]) (rest := []) ⟨hx, hb, hml, hown, hts⟩ (kx_un (c_X4_overwrite_x l dC dI m_ q_row q_t t_ h0 k0 w_ z_ slots o_6 q_joined q_from q_to q_size q_lossOf q_lessBy q_value q_number o_7 o_8 q_cell cyI len f o_9 o_10 o_11 o_12 o_14 o_15 o_13 j_v j_n o_16 o_17 o_18 o_19 o_20 p0 p1 p2 H.size w_5.2.1 w_5.2.2.1 a1 w_5.2.2.2.1 w_5.2.2.2.2 (om_10 w_1.1) (om_167 a1 w_1.2.2) (om_11 w_1.2.1))) (cwV 4 hts gX4_fill_X4_overwrite rfl rfl rfl (by decide +kernel) ⟨Nat.le_of_ble_eq_true rfl, Nat.le_of_ble_eq_true rfl⟩) ⟨fun a U g mk q => by obtain ⟨q0, q1, qP, qK, qD⟩ := q; exact ⟨q0, q1, qP, va_K.moved (u := U) (U := U.calling g mk a) (Vm.Alike.refl U.vm) qK, qD⟩, kx_rc4 hKc hPc (q0 := 0) rfl, fun U hU hW => ⟨rfl, by rw [hU], by rw [hU]; exact hPc, va_K.moved hW.alike hKc, hDc.weaken (fun _ _ _ _ => trivial)⟩⟩ rfl rfl hl.1 rfl (lv_room (Nat.le_of_ble_eq_true rfl)) dX4_fill_29 ⟨Nat.le_of_ble_eq_true rfl, Nat.le_of_ble_eq_true rfl⟩) hS (fun q _ h => hFc q h) hFc (fun r_21 u t H1 locs ht hvm w_21 hB hz1 hk1 hS => ?_)
          obtain ⟨o_22, o_23, o_24, o_25, o_26, o_27, o_28, o_29, o_30, o_31, o_32⟩ := u
          dsimp only at w_21 hB
          obtain ⟨hP1, hK1, hD1⟩ := hB
          rw [ht] at hP1
          have hK1 := va_K.moved hvm.symm hK1
          have hD := hD1.weaken (fun _ q _ h => hFc q.1 h)
          have hP := hP1
          clear hP1 hD1 hK1 hk1 hz1 hFc hDc hPc hKc
          generalize H1 = H at hP hS ⊢
          have w_21 : o_22 = mj_fill f p0.toNatClampNeg p1.toNatClampNeg p2 ∧ sixes o_23 := w_21
          have hP9 := hP
          have hD9 := hD
          have hK9 := hK
          have e_f : o_22 = mj_fill f p0.toNatClampNeg p1.toNatClampNeg p2 := w_21.1
          exact W.iret (v := r_21) hx hb hr (hlocks := hlocks) (fun t ht hW => ⟨⟨r_21, (o_6, o_7, o_8, o_9, o_10, o_23, o_24, o_25, o_26, o_27, o_28, o_29, o_30, o_31, o_32, o_22), rfl, ⟨Or.inl ⟨by omega, e_f⟩, (by (try dsimp only); rw [e_f]; exact shorts_fill s1 (by omega) (by omega)), (fun _ => ⟨(by (try dsimp only); omega), (by (try dsimp only); omega), w_5.2.2.2.2⟩), w_21.2⟩, by rw [ht]; exact hP9, va_K.moved hW.alike hK9, hD9⟩, hS.F ht⟩) hS.2.2 dX4_fill_32
        · exact absurd c_4 (by decide)
      · have w_3 : (p2.toInt < -32768 ∨ 32767 < p2.toInt) := w_3
        refine lv_if_ne (tgt := 21) hx hb dX4_fill_16 (by decide) (fun c_33 => ?_) (fun c_33 => ?_)
        · exact absurd c_33 (by decide)
        · refine lv_iconst (v := (-1)) hx hb dX4_fill_19 (by decide) ?_
          have hP9 := hP
          have hD9 := hD
          have hK9 := hK
          exact W.iret (v := (-1)) hx hb hr (hlocks := hlocks) (fun t ht hW => ⟨⟨(-1), (old, nodes, here, ff, ft, fs, fo, fe, uv, un, js, jl, je, jv, jn, f), rfl, ⟨Or.inr ⟨by omega, rfl, rfl⟩, s1, l0, s0⟩, by rw [ht]; exact hP9, va_K.moved hW.alike hK9, hD9⟩, hS.F ht⟩) hS.2.2 dX4_fill_20
  · have w_1 : (p0.toInt < 0 ∨ p1.toInt ≤ p0.toInt ∨ len.toInt < p1.toInt) := w_1
    refine lv_if_eq (tgt := 19) hx hb dX4_fill_9 (by decide) (fun c_34 => ?_) (fun c_34 => ?_)
    · refine lv_iconst (v := (-1)) hx hb dX4_fill_19 (by decide) ?_
      have hP9 := hP
      have hD9 := hD
      have hK9 := hK
      exact W.iret (v := (-1)) hx hb hr (hlocks := hlocks) (fun t ht hW => ⟨⟨(-1), (old, nodes, here, ff, ft, fs, fo, fe, uv, un, js, jl, je, jv, jn, f), rfl, ⟨Or.inr ⟨by omega, rfl, rfl⟩, s1, l0, s0⟩, by rw [ht]; exact hP9, va_K.moved hW.alike hK9, hD9⟩, hS.F ht⟩) hS.2.2 dX4_fill_20
    · exact absurd c_34 (by decide)

set_option maxHeartbeats 4000000 in
set_option maxRecDepth 100000 in
theorem c_X4_turn_x (l : Launch) (dC : Nat → ClassId) (dI : Nat → Nat → Nat) (m_ : Nat) (q_row : Nat) (q_t : Nat) (t_ : Nat) (h0 : Nat) (k0 : Nat) (w_ : Nat) (z_ : Nat) (slots : Int32) (old : Int32) (q_joined : Nat) (q_from : Nat) (q_to : Nat) (q_size : Nat) (q_lossOf : Nat) (q_lessBy : Nat) (q_value : Nat) (q_number : Nat) (nodes : Int32) (here : Int32) (q_cell : Nat) (cyI : ClassId) (len : Int32) (f : Nat → Int32) (ff : Nat → Int32) (ft : Nat → Int32) (fs : Nat → Int32) (fo : Nat → Int32) (uv : Nat → Int32) (un : Nat → Int32) (fe : Nat → Int32) (j_v : Nat) (j_n : Nat) (js : Int32) (jl : Int32) (je : Int32) (jv : Nat → Int32) (jn : Nat → Int32) (p0 : Int32) (p1 : Int32) (sz : Nat) (a0 : 0 ≤ len.toInt) (a1 : len.toInt ≤ 160) (s0 : sixes fs) (l0 : laidP old ff ft nodes len) (s1 : shorts f) : kx_MQ l (dC, dI) yX4_turn wsX4_turn ({ frames := 6, cells := 0, slots := 0, locals := 270 }) [.ref m_, .int p0, .int p1] [kx_4 m_ q_row q_t t_ h0 k0 w_ z_ slots old, kx_2 q_t q_row q_joined q_from q_to q_size q_lossOf q_lessBy q_value q_number nodes here, kx_0 q_row q_cell len, kx_a q_cell cyI 160 f, kx_a q_from cyI 319 ff, kx_a q_to cyI 319 ft, kx_a q_size cyI 319 fs, kx_a q_lossOf cyI 319 fo, kx_a q_lessBy cyI 319 fe, kx_a q_value cyI 1914 uv, kx_a q_number cyI 1914 un, kx_3 q_joined j_v j_n js jl je, kx_a j_v cyI 12 jv, kx_a j_n cyI 12 jn] [(cyI, .int)] sz (fun A => va_Qi (fun (r : Int32) (u : Int32 × Int32 × Int32 × (Nat → Int32) × (Nat → Int32) × (Nat → Int32) × (Nat → Int32) × (Nat → Int32) × (Nat → Int32) × (Nat → Int32) × Int32 × Int32 × Int32 × (Nat → Int32) × (Nat → Int32) × (Nat → Int32)) => (((0 ≤ p0.toInt ∧ p0.toInt < p1.toInt ∧ p1.toInt ≤ len.toInt) ∧ u.2.2.2.2.2.2.2.2.2.2.2.2.2.2.2 = mj_turn f p0.toNatClampNeg p1.toNatClampNeg) ∨ ((p0.toInt < 0 ∨ p1.toInt ≤ p0.toInt ∨ len.toInt < p1.toInt) ∧ u.2.2.2.2.2.2.2.2.2.2.2.2.2.2.2 = f ∧ r = -1)) ∧ shorts u.2.2.2.2.2.2.2.2.2.2.2.2.2.2.2 ∧ laidP u.1 u.2.2.2.1 u.2.2.2.2.1 u.2.1 len ∧ sixes u.2.2.2.2.2.1) (fun (u : Int32 × Int32 × Int32 × (Nat → Int32) × (Nat → Int32) × (Nat → Int32) × (Nat → Int32) × (Nat → Int32) × (Nat → Int32) × (Nat → Int32) × Int32 × Int32 × Int32 × (Nat → Int32) × (Nat → Int32) × (Nat → Int32)) (t : State) => va_P (dC, dI) vwCl [kx_4 m_ q_row q_t t_ h0 k0 w_ z_ slots u.1, kx_2 q_t q_row q_joined q_from q_to q_size q_lossOf q_lessBy q_value q_number u.2.1 u.2.2.1, kx_0 q_row q_cell len, kx_a q_cell cyI 160 u.2.2.2.2.2.2.2.2.2.2.2.2.2.2.2, kx_a q_from cyI 319 u.2.2.2.1, kx_a q_to cyI 319 u.2.2.2.2.1, kx_a q_size cyI 319 u.2.2.2.2.2.1, kx_a q_lossOf cyI 319 u.2.2.2.2.2.2.1, kx_a q_lessBy cyI 319 u.2.2.2.2.2.2.2.1, kx_a q_value cyI 1914 u.2.2.2.2.2.2.2.2.1, kx_a q_number cyI 1914 u.2.2.2.2.2.2.2.2.2.1, kx_3 q_joined j_v j_n u.2.2.2.2.2.2.2.2.2.2.1 u.2.2.2.2.2.2.2.2.2.2.2.1 u.2.2.2.2.2.2.2.2.2.2.2.2.1, kx_a j_v cyI 12 u.2.2.2.2.2.2.2.2.2.2.2.2.2.1, kx_a j_n cyI 12 u.2.2.2.2.2.2.2.2.2.2.2.2.2.2.1] t.heap ∧ va_K (dC, dI) vwCl [(cyI, .int)] t ∧ va_D A [kx_4 m_ q_row q_t t_ h0 k0 w_ z_ slots u.1, kx_2 q_t q_row q_joined q_from q_to q_size q_lossOf q_lessBy q_value q_number u.2.1 u.2.2.1, kx_0 q_row q_cell len, kx_a q_cell cyI 160 u.2.2.2.2.2.2.2.2.2.2.2.2.2.2.2, kx_a q_from cyI 319 u.2.2.2.1, kx_a q_to cyI 319 u.2.2.2.2.1, kx_a q_size cyI 319 u.2.2.2.2.2.1, kx_a q_lossOf cyI 319 u.2.2.2.2.2.2.1, kx_a q_lessBy cyI 319 u.2.2.2.2.2.2.2.1, kx_a q_value cyI 1914 u.2.2.2.2.2.2.2.2.1, kx_a q_number cyI 1914 u.2.2.2.2.2.2.2.2.2.1, kx_3 q_joined j_v j_n u.2.2.2.2.2.2.2.2.2.2.1 u.2.2.2.2.2.2.2.2.2.2.2.1 u.2.2.2.2.2.2.2.2.2.2.2.2.1, kx_a j_v cyI 12 u.2.2.2.2.2.2.2.2.2.2.2.2.2.1, kx_a j_n cyI 12 u.2.2.2.2.2.2.2.2.2.2.2.2.2.2.1]) A) := by
  refine kx_stQ (ws := wsX4_turn) (cc := cX4_turn) (maxL := 6) (ret := (some .int)) (by decide) rfl (Nat.le_of_ble_eq_true rfl) ?_
  intro p e s m below meth c A ls hx hb hr hlocks hts hown hml hA hS hP hK hD hl
  have hown : s.vm.findClass RX4 = some m.cls := hown
  have hl : lv_has ls 6 [(0, .ref m_), (1, .int p0), (2, .int p1)] := hl
  have hf_12 := hts (.fieldLink RX4 12 "MajorityIndex" "row" "LMajorityIndex$Row;") (List.mem_of_getElem? (i := 1) rfl)
  have hi_4 : ∀ w ∈ u_ws RX4 TX4 9, w ∈ wsX4_turn := fun w h => List.mem_cons_of_mem _ (List.mem_append_left _ (List.mem_append_left _ (List.mem_append_left _ (List.mem_append_right _ h))))
  refine lv_aload_n hx hb dX4_turn_0 rfl (lv_at hl 0 rfl) ?_
  refine va_get (D := (dC, dI)) (ci := 4) (v := .ref q_row) (C := RX4) (T := TX4) (N := 9) hx hb hts hi_4 hown hK hP 0 rfl rfl 0 (by decide) hf_12 (fun _ h9 => h9) rfl dX4_turn_1 ?_
  refine lv_iload_n hx hb dX4_turn_4 rfl (lv_at hl 1 rfl) ?_
  refine lv_iload_n hx hb dX4_turn_5 rfl (lv_at hl 2 rfl) ?_
  have hPc := hP.sub (ws' := [kx_0 q_row q_cell len]) [2] rfl
  have hKc := hK.sub (tys' := []) [] rfl
  refine vp_callSi (W.runV (As := [.int p0, .int p1]) (rest := []) ⟨hx, hb, hml, hown, hts⟩ (c_X0_hasRange l dC dI q_row q_cell len p0 p1) (cwV 2 hts gX4_turn_X0_hasRange rfl rfl rfl (by decide +kernel) ⟨Nat.le_of_ble_eq_true rfl, Nat.le_of_ble_eq_true rfl⟩) ⟨fun a U g mk q => by obtain ⟨q0, qP, qK⟩ := q; exact ⟨q0, qP, va_K.moved (u := U) (U := U.calling g mk a) (Vm.Alike.refl U.vm) qK⟩, kx_rc0 hKc hPc (q0 := 0) rfl, fun U hU hW => ⟨rfl, by rw [hU]; exact hPc, va_K.moved hW.alike hKc⟩⟩ rfl rfl hl.1 rfl (lv_room (Nat.le_of_ble_eq_true rfl)) dX4_turn_6 ⟨Nat.le_of_ble_eq_true rfl, Nat.le_of_ble_eq_true rfl⟩) (fun r_1 w_1 => ?_)
  rcases w_1 with ⟨rfl, w_1⟩ | ⟨rfl, w_1⟩
  · have w_1 : (0 ≤ p0.toInt ∧ p0.toInt < p1.toInt ∧ p1.toInt ≤ len.toInt) := w_1
    refine lv_if_ne (tgt := 14) hx hb dX4_turn_9 (by decide) (fun c_2 => ?_) (fun c_2 => ?_)
    · refine lv_aload_n hx hb dX4_turn_14 rfl (lv_at hl 0 rfl) ?_
      have hPc := hP
      have hKc := hK
      have hDc := hD
      have hFc := kx_free hD hS hA
      refine va_callr (va_runV (As := []) (rest := []) ⟨hx, hb, hml, hown, hts⟩ (kx_un (c_X4_laidTree l dC dI m_ q_row q_t t_ h0 k0 w_ z_ slots old q_joined q_from q_to q_size q_lossOf q_lessBy q_value q_number nodes here q_cell cyI len f ff ft fs fo uv un fe j_v j_n js jl je jv jn s.heap.size a0 a1 s0 l0)) (cwV 0 hts gX4_turn_X4_laidTree rfl rfl rfl (by decide +kernel) ⟨Nat.le_of_ble_eq_true rfl, Nat.le_of_ble_eq_true rfl⟩) ⟨fun a U g mk q => by obtain ⟨q0, q1, qP, qK, qD⟩ := q; exact ⟨q0, q1, qP, va_K.moved (u := U) (U := U.calling g mk a) (Vm.Alike.refl U.vm) qK, qD⟩, kx_rc4 hKc hPc (q0 := 0) rfl, fun U hU hW => ⟨rfl, by rw [hU], by rw [hU]; exact hPc, va_K.moved hW.alike hKc, hDc.weaken (fun _ _ _ _ => trivial)⟩⟩ rfl rfl hl.1 rfl (lv_room (Nat.le_of_ble_eq_true rfl)) dX4_turn_15 ⟨Nat.le_of_ble_eq_true rfl, Nat.le_of_ble_eq_true rfl⟩) hS (fun q _ h => hFc q h) hFc (fun u ra t H1 locs ht hvm w_3 hB hz1 hk1 hS => ?_)
      obtain ⟨o_4, o_5, o_6, o_7, o_8, o_9, o_10, o_11, o_12, o_13, o_14, o_15, o_16, o_17, o_18⟩ := u
      dsimp only at w_3 hB
      obtain ⟨er, hP1, hK1, hD1⟩ := hB
      rw [ht] at hP1
      have hK1 := va_K.moved hvm.symm hK1
      have hD := hD1.weaken (fun _ q _ h => hFc q.1 h)
      have hP := hP1
      clear hP1 hD1 hK1 hk1 hz1 hFc hDc hPc hKc
      generalize H1 = H at hP hS ⊢
      have w_3 : o_4.toInt = 0 ∧ 0 ≤ o_5.toInt ∧ o_5.toInt ≤ 319 ∧ sixes o_9 ∧ treeOk o_7 o_8 o_5.toInt len.toInt := w_3
      rw [er]
      refine lv_astore_n (lv' := [(3, .ref q_t), (0, .ref m_), (1, .int p0), (2, .int p1)]) hx hb dX4_turn_18 rfl hl (by decide) rfl (fun ls hl => ?_)
      refine lv_iload_n hx hb dX4_turn_19 rfl (lv_at hl 2 rfl) ?_
      refine lv_istore (lv' := [(4, .int p0), (3, .ref q_t), (0, .ref m_), (1, .int p0), (2, .int p1)]) hx hb dX4_turn_20 hl (by decide) rfl (fun ls hl => ?_)
      refine lv_iload_n hx hb dX4_turn_22 rfl (lv_at hl 4 rfl) ?_
      refine lv_iconst (v := 1) hx hb dX4_turn_23 (by decide) ?_
      refine lv_isub hx hb dX4_turn_24 ?_
      refine lv_topi (fun y_19 ey_19 => ?_)
      have i_19 : y_19.toInt = p1.toInt - 1 := ki_sub ey_19 rfl rfl (om_17 w_1.1 w_1.2.1) (om_183 a1 w_1.2.2)
      refine lv_istore (lv' := [(5, .int y_19), (4, .int p0), (3, .ref q_t), (0, .ref m_), (1, .int p0), (2, .int p1)]) hx hb dX4_turn_25 hl (by decide) rfl (fun ls hl => ?_)
      have LP1 : ∀ (n : Nat) (lf : Int32) (rg : Int32) (gc : Nat → Int32), (p0.toInt ≤ lf.toInt) → (lf.toInt + rg.toInt = p0.toInt + p1.toInt - 1) → (lf.toInt ≤ rg.toInt + 1) → (-1 ≤ rg.toInt) → (gc = mj_tu f p0.toNatClampNeg p1.toNatClampNeg (lf.toNatClampNeg - p0.toNatClampNeg)) → (rg.toInt - lf.toInt).toNat < n → ∀ (H : Heap) (locs : List Loc), va_P (dC, dI) vwCl [kx_4 m_ q_row q_t t_ h0 k0 w_ z_ slots o_4, kx_2 q_t q_row q_joined q_from q_to q_size q_lossOf q_lessBy q_value q_number o_5 o_6, kx_0 q_row q_cell len, kx_a q_cell cyI 160 gc, kx_a q_from cyI 319 o_7, kx_a q_to cyI 319 o_8, kx_a q_size cyI 319 o_9, kx_a q_lossOf cyI 319 o_10, kx_a q_lessBy cyI 319 o_11, kx_a q_value cyI 1914 o_12, kx_a q_number cyI 1914 o_13, kx_3 q_joined j_v j_n o_14 o_15 o_16, kx_a j_v cyI 12 o_17, kx_a j_n cyI 12 o_18] H → va_D A [kx_4 m_ q_row q_t t_ h0 k0 w_ z_ slots o_4, kx_2 q_t q_row q_joined q_from q_to q_size q_lossOf q_lessBy q_value q_number o_5 o_6, kx_0 q_row q_cell len, kx_a q_cell cyI 160 gc, kx_a q_from cyI 319 o_7, kx_a q_to cyI 319 o_8, kx_a q_size cyI 319 o_9, kx_a q_lossOf cyI 319 o_10, kx_a q_lessBy cyI 319 o_11, kx_a q_value cyI 1914 o_12, kx_a q_number cyI 1914 o_13, kx_3 q_joined j_v j_n o_14 o_15 o_16, kx_a j_v cyI 12 o_17, kx_a j_n cyI 12 o_18] → va_S A s.heap H locs → ∀ (ls : Array Slot), lv_has ls 6 [(5, .int rg), (4, .int lf), (3, .ref q_t), (0, .ref m_), (1, .int p0), (2, .int p1)] → W p l e (headSpec wsX4_turn ({ frames := 6, cells := 0, slots := 0, locals := 270 })).room s m ([.ref m_, .int p0, .int p1] : List Value).toArray below meth c H locs 0 0 (MQ below (va_Qi (fun (r : Int32) (u : Int32 × Int32 × Int32 × (Nat → Int32) × (Nat → Int32) × (Nat → Int32) × (Nat → Int32) × (Nat → Int32) × (Nat → Int32) × (Nat → Int32) × Int32 × Int32 × Int32 × (Nat → Int32) × (Nat → Int32) × (Nat → Int32)) => (((0 ≤ p0.toInt ∧ p0.toInt < p1.toInt ∧ p1.toInt ≤ len.toInt) ∧ u.2.2.2.2.2.2.2.2.2.2.2.2.2.2.2 = mj_turn f p0.toNatClampNeg p1.toNatClampNeg) ∨ ((p0.toInt < 0 ∨ p1.toInt ≤ p0.toInt ∨ len.toInt < p1.toInt) ∧ u.2.2.2.2.2.2.2.2.2.2.2.2.2.2.2 = f ∧ r = -1)) ∧ shorts u.2.2.2.2.2.2.2.2.2.2.2.2.2.2.2 ∧ laidP u.1 u.2.2.2.1 u.2.2.2.2.1 u.2.1 len ∧ sixes u.2.2.2.2.2.1) (fun (u : Int32 × Int32 × Int32 × (Nat → Int32) × (Nat → Int32) × (Nat → Int32) × (Nat → Int32) × (Nat → Int32) × (Nat → Int32) × (Nat → Int32) × Int32 × Int32 × Int32 × (Nat → Int32) × (Nat → Int32) × (Nat → Int32)) (t : State) => va_P (dC, dI) vwCl [kx_4 m_ q_row q_t t_ h0 k0 w_ z_ slots u.1, kx_2 q_t q_row q_joined q_from q_to q_size q_lossOf q_lessBy q_value q_number u.2.1 u.2.2.1, kx_0 q_row q_cell len, kx_a q_cell cyI 160 u.2.2.2.2.2.2.2.2.2.2.2.2.2.2.2, kx_a q_from cyI 319 u.2.2.2.1, kx_a q_to cyI 319 u.2.2.2.2.1, kx_a q_size cyI 319 u.2.2.2.2.2.1, kx_a q_lossOf cyI 319 u.2.2.2.2.2.2.1, kx_a q_lessBy cyI 319 u.2.2.2.2.2.2.2.1, kx_a q_value cyI 1914 u.2.2.2.2.2.2.2.2.1, kx_a q_number cyI 1914 u.2.2.2.2.2.2.2.2.2.1, kx_3 q_joined j_v j_n u.2.2.2.2.2.2.2.2.2.2.1 u.2.2.2.2.2.2.2.2.2.2.2.1 u.2.2.2.2.2.2.2.2.2.2.2.2.1, kx_a j_v cyI 12 u.2.2.2.2.2.2.2.2.2.2.2.2.2.1, kx_a j_n cyI 12 u.2.2.2.2.2.2.2.2.2.2.2.2.2.2.1] t.heap ∧ va_K (dC, dI) vwCl [(cyI, .int)] t ∧ va_D A [kx_4 m_ q_row q_t t_ h0 k0 w_ z_ slots u.1, kx_2 q_t q_row q_joined q_from q_to q_size q_lossOf q_lessBy q_value q_number u.2.1 u.2.2.1, kx_0 q_row q_cell len, kx_a q_cell cyI 160 u.2.2.2.2.2.2.2.2.2.2.2.2.2.2.2, kx_a q_from cyI 319 u.2.2.2.1, kx_a q_to cyI 319 u.2.2.2.2.1, kx_a q_size cyI 319 u.2.2.2.2.2.1, kx_a q_lossOf cyI 319 u.2.2.2.2.2.2.1, kx_a q_lessBy cyI 319 u.2.2.2.2.2.2.2.1, kx_a q_value cyI 1914 u.2.2.2.2.2.2.2.2.1, kx_a q_number cyI 1914 u.2.2.2.2.2.2.2.2.2.1, kx_3 q_joined j_v j_n u.2.2.2.2.2.2.2.2.2.2.1 u.2.2.2.2.2.2.2.2.2.2.2.1 u.2.2.2.2.2.2.2.2.2.2.2.2.1, kx_a j_v cyI 12 u.2.2.2.2.2.2.2.2.2.2.2.2.2.1, kx_a j_n cyI 12 u.2.2.2.2.2.2.2.2.2.2.2.2.2.2.1]) A) ([.ref m_, .int p0, .int p1] : List Value).toArray s 0 0 A) (F0 m 27 ls []) := by
        intro n
        induction n with
        | zero => intro lf rg gc LP1_h0 LP1_h1 LP1_h2 LP1_h3 LP1_h4 hn; exact absurd hn (Nat.not_lt_zero _)
        | succ n ih1 =>
          intro lf rg gc LP1_h0 LP1_h1 LP1_h2 LP1_h3 LP1_h4 hn1 H locs hP hD hS ls hl
          have n_lf := ki_nat lf rfl (om_0 w_1.1 LP1_h0)
          have n_p0 := ki_nat p0 rfl (om_10 w_1.1)
          have n_p1 := ki_nat p1 rfl (om_21 w_1.1 w_1.2.1)
          refine lv_iload hx hb dX4_turn_27 (lv_at hl 1 rfl) ?_
          refine lv_iload hx hb dX4_turn_29 (lv_at hl 0 rfl) ?_
          refine lv_icmp_ge (tgt := 54) hx hb dX4_turn_31 (by decide) (fun c_20 => ?_) (fun c_20 => ?_)
          · have i_20 : rg.toInt ≤ lf.toInt := kc_le c_20
            refine lv_aload_n hx hb dX4_turn_54 rfl (lv_at hl 2 rfl) ?_
            refine lv_iload_n hx hb dX4_turn_55 rfl (lv_at hl 4 rfl) ?_
            refine lv_iload_n hx hb dX4_turn_56 rfl (lv_at hl 5 rfl) ?_
            obtain ⟨hPc, hDc, hFc, hCc⟩ := kx_preM (wc := [kx_2 q_t q_row q_joined q_from q_to q_size q_lossOf q_lessBy q_value q_number o_5 o_6, kx_0 q_row q_cell len, kx_a q_cell cyI 160 gc, kx_a q_from cyI 319 o_7, kx_a q_to cyI 319 o_8, kx_a q_size cyI 319 o_9, kx_a q_lossOf cyI 319 o_10, kx_a q_lessBy cyI 319 o_11, kx_a q_value cyI 1914 o_12, kx_a q_number cyI 1914 o_13, kx_3 q_joined j_v j_n o_14 o_15 o_16, kx_a j_v cyI 12 o_17, kx_a j_n cyI 12 o_18]) hP hD hS hA [false, true, true, true, true, true, true, true, true, true, true, true, true, true] rfl
            have hKc := hK
            refine va_calli (va_runV (As := [.int p0, .int p1]) (rest := []) ⟨hx, hb, hml, hown, hts⟩ (kx_un (c_X2_renew l dC dI q_t q_row q_joined q_from q_to q_size q_lossOf q_lessBy q_value q_number o_5 o_6 q_cell cyI len gc o_7 o_8 o_9 o_10 o_12 o_13 o_11 j_v j_n o_14 o_15 o_16 o_17 o_18 p0 p1 H.size w_3.2.1 w_3.2.2.1 a1 w_3.2.2.2.1 w_3.2.2.2.2)) (cwV 2 hts gX4_turn_X2_renew rfl rfl rfl (by decide +kernel) ⟨Nat.le_of_ble_eq_true rfl, Nat.le_of_ble_eq_true rfl⟩) ⟨fun a U g mk q => by obtain ⟨q0, q1, qP, qK, qD⟩ := q; exact ⟨q0, q1, qP, va_K.moved (u := U) (U := U.calling g mk a) (Vm.Alike.refl U.vm) qK, qD⟩, kx_rc2 hKc hPc (q0 := 0) rfl, fun U hU hW => ⟨rfl, by rw [hU], by rw [hU]; exact hPc, va_K.moved hW.alike hKc, hDc.weaken (fun _ _ _ _ => trivial)⟩⟩ rfl rfl hl.1 rfl (lv_room (Nat.le_of_ble_eq_true rfl)) dX4_turn_57 ⟨Nat.le_of_ble_eq_true rfl, Nat.le_of_ble_eq_true rfl⟩) hS (fun q _ h => hFc q h) hFc (fun r_21 u t H1 locs ht hvm w_21 hB hz1 hk1 hS => ?_)
            obtain ⟨o_22, o_23, o_24, o_25, o_26, o_27, o_28, o_29, o_30, o_31⟩ := u
            dsimp only at w_21 hB
            obtain ⟨hP1, hK1, hD1⟩ := hB
            rw [ht] at hP1
            have hK1 := va_K.moved hvm.symm hK1
            obtain ⟨hP, hD⟩ := kx_joinM (w2 := [kx_4 m_ q_row q_t t_ h0 k0 w_ z_ slots o_4, kx_2 q_t q_row q_joined q_from q_to q_size q_lossOf q_lessBy q_value q_number o_5 o_6, kx_0 q_row q_cell len, kx_a q_cell cyI 160 gc, kx_a q_from cyI 319 o_7, kx_a q_to cyI 319 o_8, kx_a q_size cyI 319 o_22, kx_a q_lossOf cyI 319 o_23, kx_a q_lessBy cyI 319 o_24, kx_a q_value cyI 1914 o_25, kx_a q_number cyI 1914 o_26, kx_3 q_joined j_v j_n o_27 o_28 o_29, kx_a j_v cyI 12 o_30, kx_a j_n cyI 12 o_31]) hP hD hP1 hD1 hk1 hFc [false, true, true, true, true, true, true, true, true, true, true, true, true, true] hCc rfl
            clear hP1 hD1 hK1 hk1 hz1 hFc hDc hPc hKc hCc
            generalize H1 = H at hP hS ⊢
            have w_21 : sixes o_22 := w_21
            have hP9 := hP
            have hD9 := hD
            have hK9 := hK
            have e_f : gc = mj_turn f p0.toNatClampNeg p1.toNatClampNeg := by rw [LP1_h4]; exact mj_tu_end (by omega) (by omega) (by omega)
            exact W.iret (v := r_21) hx hb hr (hlocks := hlocks) (fun t ht hW => ⟨⟨r_21, (o_4, o_5, o_6, o_7, o_8, o_22, o_23, o_24, o_25, o_26, o_27, o_28, o_29, o_30, o_31, gc), rfl, ⟨Or.inl ⟨by omega, e_f⟩, (by (try dsimp only); rw [e_f]; exact shorts_turn s1 (by omega)), (fun _ => ⟨(by (try dsimp only); omega), (by (try dsimp only); omega), w_3.2.2.2.2⟩), w_21⟩, by rw [ht]; exact hP9, va_K.moved hW.alike hK9, hD9⟩, hS.F ht⟩) hS.2.2 dX4_turn_60
          · have i_20 : lf.toInt < rg.toInt := kc_nle c_20
            refine lv_aload_n hx hb dX4_turn_34 rfl (lv_at hl 3 rfl) ?_
            refine va_get (D := (dC, dI)) (ci := 4) (v := .ref q_row) (C := RX4) (T := TX4) (N := 9) hx hb hts hi_4 hown hK hP 0 rfl rfl 0 (by decide) hf_12 (fun _ h9 => h9) rfl dX4_turn_35 ?_
            refine lv_iload hx hb dX4_turn_38 (lv_at hl 1 rfl) ?_
            refine lv_iload hx hb dX4_turn_40 (lv_at hl 0 rfl) ?_
            obtain ⟨hPc, hDc, hFc, hCc⟩ := kx_preM (wc := [kx_0 q_row q_cell len, kx_a q_cell cyI 160 gc]) hP hD hS hA [false, false, true, true, false, false, false, false, false, false, false, false, false, false] rfl
            have hKc := hK
            refine va_callv (va_runV (As := [.int lf, .int rg]) (rest := []) ⟨hx, hb, hml, hown, hts⟩ (kx_un (c_X0_exchange l dC dI q_row q_cell cyI len gc lf rg H.size (om_0 w_1.1 LP1_h0) (om_465 a1 w_1.2.1 w_1.2.2 LP1_h1 i_20) (om_466 w_1.1 w_1.2.1 LP1_h1 LP1_h3 i_20) (om_467 a1 w_1.2.2 LP1_h0 LP1_h1))) (cwV 2 hts gX4_turn_X0_exchange rfl rfl rfl (by decide +kernel) ⟨Nat.le_of_ble_eq_true rfl, Nat.le_of_ble_eq_true rfl⟩) ⟨fun a U g mk q => by obtain ⟨q0, q1, qP, qK, qD⟩ := q; exact ⟨q0, q1, qP, va_K.moved (u := U) (U := U.calling g mk a) (Vm.Alike.refl U.vm) qK, qD⟩, kx_rc0 hKc hPc (q0 := 0) rfl, fun U hU hW => ⟨rfl, by rw [hU], by rw [hU]; exact hPc, va_K.moved hW.alike hKc, hDc.weaken (fun _ _ _ _ => trivial)⟩⟩ rfl rfl hl.1 rfl (lv_room (Nat.le_of_ble_eq_true rfl)) dX4_turn_42 ⟨Nat.le_of_ble_eq_true rfl, Nat.le_of_ble_eq_true rfl⟩) hS (fun q _ h => hFc q h) hFc (fun u t H1 locs ht hvm w_32 hB hz1 hk1 hS => ?_)
            obtain ⟨o_33, rfl⟩ : ∃ z, z = u := ⟨_, rfl⟩
            obtain ⟨hP1, hK1, hD1⟩ := hB
            rw [ht] at hP1
            have hK1 := va_K.moved hvm.symm hK1
            obtain ⟨hP, hD⟩ := kx_joinM (w2 := [kx_4 m_ q_row q_t t_ h0 k0 w_ z_ slots o_4, kx_2 q_t q_row q_joined q_from q_to q_size q_lossOf q_lessBy q_value q_number o_5 o_6, kx_0 q_row q_cell len, kx_a q_cell cyI 160 o_33, kx_a q_from cyI 319 o_7, kx_a q_to cyI 319 o_8, kx_a q_size cyI 319 o_9, kx_a q_lossOf cyI 319 o_10, kx_a q_lessBy cyI 319 o_11, kx_a q_value cyI 1914 o_12, kx_a q_number cyI 1914 o_13, kx_3 q_joined j_v j_n o_14 o_15 o_16, kx_a j_v cyI 12 o_17, kx_a j_n cyI 12 o_18]) hP hD hP1 hD1 hk1 hFc [false, false, true, true, false, false, false, false, false, false, false, false, false, false] hCc rfl
            clear hP1 hD1 hK1 hk1 hz1 hFc hDc hPc hKc hCc
            generalize H1 = H at hP hS ⊢
            have w_32 : o_33 = upd (upd gc lf.toNatClampNeg (gc rg.toNatClampNeg)) rg.toNatClampNeg (gc lf.toNatClampNeg) := w_32
            obtain ⟨x_34, ex_34⟩ : ∃ y : Int32, y = lf + 1 := ⟨_, rfl⟩
            have i_34 : x_34.toInt = lf.toInt + 1 := ki_add ex_34 rfl rfl (om_2 w_1.1 LP1_h0) (om_468 a1 w_1.2.1 w_1.2.2 LP1_h1 i_20)
            refine lv_iinc (v := x_34) (lv' := [(4, .int x_34), (5, .int rg), (3, .ref q_t), (0, .ref m_), (1, .int p0), (2, .int p1)]) hx hb dX4_turn_45 hl (k := 1) rfl (by rw [ex_34]; rfl) (by decide) rfl (fun ls hl => ?_)
            obtain ⟨x_35, ex_35⟩ : ∃ y : Int32, y = rg + (-1) := ⟨_, rfl⟩
            have i_35 : x_35.toInt = rg.toInt + (-1) := ki_add ex_35 rfl rfl (om_193 LP1_h3) (om_469 a1 w_1.2.2 LP1_h0 LP1_h1)
            refine lv_iinc (v := x_35) (lv' := [(5, .int x_35), (4, .int x_34), (3, .ref q_t), (0, .ref m_), (1, .int p0), (2, .int p1)]) hx hb dX4_turn_48 hl (k := 1) rfl (by rw [ex_35]; rfl) (by decide) rfl (fun ls hl => ?_)
            refine lv_goto (tgt := 27) hx hb dX4_turn_51 (by decide) ?_
            have n_36 := ki_nat x_34 rfl (om_89 w_1.1 LP1_h0 i_34)
            have n_rg := ki_nat rg rfl (om_466 w_1.1 w_1.2.1 LP1_h1 LP1_h3 i_20)
            exact ih1 x_34 x_35 o_33 (om_4 LP1_h0 i_34) (om_470 LP1_h1 i_34 i_35) (om_471 i_20 i_34 i_35) (om_472 w_1.1 w_1.2.1 LP1_h1 LP1_h3 i_20 i_35) (by rw [w_32, LP1_h4]; exact mj_tu_step (by omega) (by omega) (by omega) (by omega) (by omega)) (om_mu hn1 (om_198 i_34 i_35) (om_6 i_20)) _ _ hP hD hS ls (lv_sub hl [0, 1, 2, 3, 4, 5] rfl)
      exact LP1 ((y_19.toInt - p0.toInt : Int).toNat + 1) p0 y_19 f om_7 (om_473 i_19) (om_474 w_1.2.1 i_19) (om_200 w_1.1 w_1.2.1 i_19) (mj_tu_0 _ _ _ (by omega)).symm (Nat.lt_succ_self _) _ _ hP hD hS ls (lv_sub hl [0, 1, 2, 3, 4, 5] rfl)
    · exact absurd c_2 (by decide)
  · have w_1 : (p0.toInt < 0 ∨ p1.toInt ≤ p0.toInt ∨ len.toInt < p1.toInt) := w_1
    refine lv_if_ne (tgt := 14) hx hb dX4_turn_9 (by decide) (fun c_37 => ?_) (fun c_37 => ?_)
    · exact absurd c_37 (by decide)
    · refine lv_iconst (v := (-1)) hx hb dX4_turn_12 (by decide) ?_
      have hP9 := hP
      have hD9 := hD
      have hK9 := hK
      exact W.iret (v := (-1)) hx hb hr (hlocks := hlocks) (fun t ht hW => ⟨⟨(-1), (old, nodes, here, ff, ft, fs, fo, fe, uv, un, js, jl, je, jv, jn, f), rfl, ⟨Or.inr ⟨by omega, rfl, rfl⟩, s1, l0, s0⟩, by rw [ht]; exact hP9, va_K.moved hW.alike hK9, hD9⟩, hS.F ht⟩) hS.2.2 dX4_turn_13

set_option maxHeartbeats 4000000 in
set_option maxRecDepth 100000 in
theorem c_X4_swap_x (l : Launch) (dC : Nat → ClassId) (dI : Nat → Nat → Nat) (m_ : Nat) (q_row : Nat) (q_t : Nat) (t_ : Nat) (h0 : Nat) (k0 : Nat) (w_ : Nat) (z_ : Nat) (slots : Int32) (old : Int32) (q_joined : Nat) (q_from : Nat) (q_to : Nat) (q_size : Nat) (q_lossOf : Nat) (q_lessBy : Nat) (q_value : Nat) (q_number : Nat) (nodes : Int32) (here : Int32) (q_cell : Nat) (cyI : ClassId) (len : Int32) (f : Nat → Int32) (ff : Nat → Int32) (ft : Nat → Int32) (fs : Nat → Int32) (fo : Nat → Int32) (uv : Nat → Int32) (un : Nat → Int32) (fe : Nat → Int32) (j_v : Nat) (j_n : Nat) (js : Int32) (jl : Int32) (je : Int32) (jv : Nat → Int32) (jn : Nat → Int32) (p0 : Int32) (p1 : Int32) (sz : Nat) (a0 : 0 ≤ len.toInt) (a1 : len.toInt ≤ 160) (s0 : sixes fs) (l0 : laidP old ff ft nodes len) (s1 : shorts f) : kx_MQ l (dC, dI) yX4_swap wsX4_swap ({ frames := 6, cells := 0, slots := 0, locals := 270 }) [.ref m_, .int p0, .int p1] [kx_4 m_ q_row q_t t_ h0 k0 w_ z_ slots old, kx_2 q_t q_row q_joined q_from q_to q_size q_lossOf q_lessBy q_value q_number nodes here, kx_0 q_row q_cell len, kx_a q_cell cyI 160 f, kx_a q_from cyI 319 ff, kx_a q_to cyI 319 ft, kx_a q_size cyI 319 fs, kx_a q_lossOf cyI 319 fo, kx_a q_lessBy cyI 319 fe, kx_a q_value cyI 1914 uv, kx_a q_number cyI 1914 un, kx_3 q_joined j_v j_n js jl je, kx_a j_v cyI 12 jv, kx_a j_n cyI 12 jn] [(cyI, .int)] sz (fun A => va_Qi (fun (r : Int32) (u : Int32 × Int32 × Int32 × (Nat → Int32) × (Nat → Int32) × (Nat → Int32) × (Nat → Int32) × (Nat → Int32) × (Nat → Int32) × (Nat → Int32) × Int32 × Int32 × Int32 × (Nat → Int32) × (Nat → Int32) × (Nat → Int32)) => (((0 ≤ p0.toInt ∧ p0.toInt < len.toInt ∧ 0 ≤ p1.toInt ∧ p1.toInt < len.toInt) ∧ u.2.2.2.2.2.2.2.2.2.2.2.2.2.2.2 = mj_ex f p0.toNatClampNeg p1.toNatClampNeg) ∨ ((p0.toInt < 0 ∨ len.toInt ≤ p0.toInt ∨ p1.toInt < 0 ∨ len.toInt ≤ p1.toInt) ∧ u.2.2.2.2.2.2.2.2.2.2.2.2.2.2.2 = f ∧ r = -1)) ∧ shorts u.2.2.2.2.2.2.2.2.2.2.2.2.2.2.2 ∧ laidP u.1 u.2.2.2.1 u.2.2.2.2.1 u.2.1 len ∧ sixes u.2.2.2.2.2.1) (fun (u : Int32 × Int32 × Int32 × (Nat → Int32) × (Nat → Int32) × (Nat → Int32) × (Nat → Int32) × (Nat → Int32) × (Nat → Int32) × (Nat → Int32) × Int32 × Int32 × Int32 × (Nat → Int32) × (Nat → Int32) × (Nat → Int32)) (t : State) => va_P (dC, dI) vwCl [kx_4 m_ q_row q_t t_ h0 k0 w_ z_ slots u.1, kx_2 q_t q_row q_joined q_from q_to q_size q_lossOf q_lessBy q_value q_number u.2.1 u.2.2.1, kx_0 q_row q_cell len, kx_a q_cell cyI 160 u.2.2.2.2.2.2.2.2.2.2.2.2.2.2.2, kx_a q_from cyI 319 u.2.2.2.1, kx_a q_to cyI 319 u.2.2.2.2.1, kx_a q_size cyI 319 u.2.2.2.2.2.1, kx_a q_lossOf cyI 319 u.2.2.2.2.2.2.1, kx_a q_lessBy cyI 319 u.2.2.2.2.2.2.2.1, kx_a q_value cyI 1914 u.2.2.2.2.2.2.2.2.1, kx_a q_number cyI 1914 u.2.2.2.2.2.2.2.2.2.1, kx_3 q_joined j_v j_n u.2.2.2.2.2.2.2.2.2.2.1 u.2.2.2.2.2.2.2.2.2.2.2.1 u.2.2.2.2.2.2.2.2.2.2.2.2.1, kx_a j_v cyI 12 u.2.2.2.2.2.2.2.2.2.2.2.2.2.1, kx_a j_n cyI 12 u.2.2.2.2.2.2.2.2.2.2.2.2.2.2.1] t.heap ∧ va_K (dC, dI) vwCl [(cyI, .int)] t ∧ va_D A [kx_4 m_ q_row q_t t_ h0 k0 w_ z_ slots u.1, kx_2 q_t q_row q_joined q_from q_to q_size q_lossOf q_lessBy q_value q_number u.2.1 u.2.2.1, kx_0 q_row q_cell len, kx_a q_cell cyI 160 u.2.2.2.2.2.2.2.2.2.2.2.2.2.2.2, kx_a q_from cyI 319 u.2.2.2.1, kx_a q_to cyI 319 u.2.2.2.2.1, kx_a q_size cyI 319 u.2.2.2.2.2.1, kx_a q_lossOf cyI 319 u.2.2.2.2.2.2.1, kx_a q_lessBy cyI 319 u.2.2.2.2.2.2.2.1, kx_a q_value cyI 1914 u.2.2.2.2.2.2.2.2.1, kx_a q_number cyI 1914 u.2.2.2.2.2.2.2.2.2.1, kx_3 q_joined j_v j_n u.2.2.2.2.2.2.2.2.2.2.1 u.2.2.2.2.2.2.2.2.2.2.2.1 u.2.2.2.2.2.2.2.2.2.2.2.2.1, kx_a j_v cyI 12 u.2.2.2.2.2.2.2.2.2.2.2.2.2.1, kx_a j_n cyI 12 u.2.2.2.2.2.2.2.2.2.2.2.2.2.2.1]) A) := by
  refine kx_stQ (ws := wsX4_swap) (cc := cX4_swap) (maxL := 4) (ret := (some .int)) (by decide) rfl (Nat.le_of_ble_eq_true rfl) ?_
  intro p e s m below meth c A ls hx hb hr hlocks hts hown hml hA hS hP hK hD hl
  have hown : s.vm.findClass RX4 = some m.cls := hown
  have hl : lv_has ls 4 [(0, .ref m_), (1, .int p0), (2, .int p1)] := hl
  have hf_12 := hts (.fieldLink RX4 12 "MajorityIndex" "row" "LMajorityIndex$Row;") (List.mem_of_getElem? (i := 1) rfl)
  have hi_4 : ∀ w ∈ u_ws RX4 TX4 9, w ∈ wsX4_swap := fun w h => List.mem_cons_of_mem _ (List.mem_append_left _ (List.mem_append_left _ (List.mem_append_left _ (List.mem_append_right _ h))))
  have hm_91 := hts (.methodLink RX4 91 Lib.Math.min.name) (List.mem_of_getElem? (i := 2) rfl)
  have hms_min := hts (.static Lib.Math.min.name) (List.mem_of_getElem? (i := 3) rfl)
  have hz_math := hts (.initialized "java/lang/Math") (List.mem_of_getElem? (i := 4) rfl)
  have hmc_min := hts (.code Lib.Math.min.name Lib.Math.min.code 2 (some .int)) (List.mem_of_getElem? (i := 5) rfl)
  have hm_96 := hts (.methodLink RX4 96 Lib.Math.max.name) (List.mem_of_getElem? (i := 6) rfl)
  have hms_max := hts (.static Lib.Math.max.name) (List.mem_of_getElem? (i := 7) rfl)
  have hmc_max := hts (.code Lib.Math.max.name Lib.Math.max.code 2 (some .int)) (List.mem_of_getElem? (i := 8) rfl)
  refine lv_aload_n hx hb dX4_swap_0 rfl (lv_at hl 0 rfl) ?_
  refine va_get (D := (dC, dI)) (ci := 4) (v := .ref q_row) (C := RX4) (T := TX4) (N := 9) hx hb hts hi_4 hown hK hP 0 rfl rfl 0 (by decide) hf_12 (fun _ h9 => h9) rfl dX4_swap_1 ?_
  refine lv_iload_n hx hb dX4_swap_4 rfl (lv_at hl 1 rfl) ?_
  have hPc := hP.sub (ws' := [kx_0 q_row q_cell len]) [2] rfl
  have hKc := hK.sub (tys' := []) [] rfl
  refine vp_callSi (W.runV (As := [.int p0]) (rest := []) ⟨hx, hb, hml, hown, hts⟩ (c_X0_hasPlace l dC dI q_row q_cell len p0) (cwV 1 hts gX4_swap_X0_hasPlace rfl rfl rfl (by decide +kernel) ⟨Nat.le_of_ble_eq_true rfl, Nat.le_of_ble_eq_true rfl⟩) ⟨fun a U g mk q => by obtain ⟨q0, qP, qK⟩ := q; exact ⟨q0, qP, va_K.moved (u := U) (U := U.calling g mk a) (Vm.Alike.refl U.vm) qK⟩, kx_rc0 hKc hPc (q0 := 0) rfl, fun U hU hW => ⟨rfl, by rw [hU]; exact hPc, va_K.moved hW.alike hKc⟩⟩ rfl rfl hl.1 rfl (lv_room (Nat.le_of_ble_eq_true rfl)) dX4_swap_5 ⟨Nat.le_of_ble_eq_true rfl, Nat.le_of_ble_eq_true rfl⟩) (fun r_1 w_1 => ?_)
  rcases w_1 with ⟨rfl, w_1⟩ | ⟨rfl, w_1⟩
  · have w_1 : (0 ≤ p0.toInt ∧ p0.toInt < len.toInt) := w_1
    refine lv_if_eq (tgt := 22) hx hb dX4_swap_8 (by decide) (fun c_2 => ?_) (fun c_2 => ?_)
    · exact absurd c_2 (by decide)
    · refine lv_aload_n hx hb dX4_swap_11 rfl (lv_at hl 0 rfl) ?_
      refine va_get (D := (dC, dI)) (ci := 4) (v := .ref q_row) (C := RX4) (T := TX4) (N := 9) hx hb hts hi_4 hown hK hP 0 rfl rfl 0 (by decide) hf_12 (fun _ h9 => h9) rfl dX4_swap_12 ?_
      refine lv_iload_n hx hb dX4_swap_15 rfl (lv_at hl 2 rfl) ?_
      have hPc := hP.sub (ws' := [kx_0 q_row q_cell len]) [2] rfl
      have hKc := hK.sub (tys' := []) [] rfl
      refine vp_callSi (W.runV (As := [.int p1]) (rest := []) ⟨hx, hb, hml, hown, hts⟩ (c_X0_hasPlace l dC dI q_row q_cell len p1) (cwV 1 hts gX4_swap_X0_hasPlace rfl rfl rfl (by decide +kernel) ⟨Nat.le_of_ble_eq_true rfl, Nat.le_of_ble_eq_true rfl⟩) ⟨fun a U g mk q => by obtain ⟨q0, qP, qK⟩ := q; exact ⟨q0, qP, va_K.moved (u := U) (U := U.calling g mk a) (Vm.Alike.refl U.vm) qK⟩, kx_rc0 hKc hPc (q0 := 0) rfl, fun U hU hW => ⟨rfl, by rw [hU]; exact hPc, va_K.moved hW.alike hKc⟩⟩ rfl rfl hl.1 rfl (lv_room (Nat.le_of_ble_eq_true rfl)) dX4_swap_16 ⟨Nat.le_of_ble_eq_true rfl, Nat.le_of_ble_eq_true rfl⟩) (fun r_3 w_3 => ?_)
      rcases w_3 with ⟨rfl, w_3⟩ | ⟨rfl, w_3⟩
      · have w_3 : (0 ≤ p1.toInt ∧ p1.toInt < len.toInt) := w_3
        refine lv_if_ne (tgt := 24) hx hb dX4_swap_19 (by decide) (fun c_4 => ?_) (fun c_4 => ?_)
        · refine lv_aload_n hx hb dX4_swap_24 rfl (lv_at hl 0 rfl) ?_
          have hPc := hP
          have hKc := hK
          have hDc := hD
          have hFc := kx_free hD hS hA
          refine va_callr (va_runV (As := []) (rest := []) ⟨hx, hb, hml, hown, hts⟩ (kx_un (c_X4_laidTree l dC dI m_ q_row q_t t_ h0 k0 w_ z_ slots old q_joined q_from q_to q_size q_lossOf q_lessBy q_value q_number nodes here q_cell cyI len f ff ft fs fo uv un fe j_v j_n js jl je jv jn s.heap.size a0 a1 s0 l0)) (cwV 0 hts gX4_swap_X4_laidTree rfl rfl rfl (by decide +kernel) ⟨Nat.le_of_ble_eq_true rfl, Nat.le_of_ble_eq_true rfl⟩) ⟨fun a U g mk q => by obtain ⟨q0, q1, qP, qK, qD⟩ := q; exact ⟨q0, q1, qP, va_K.moved (u := U) (U := U.calling g mk a) (Vm.Alike.refl U.vm) qK, qD⟩, kx_rc4 hKc hPc (q0 := 0) rfl, fun U hU hW => ⟨rfl, by rw [hU], by rw [hU]; exact hPc, va_K.moved hW.alike hKc, hDc.weaken (fun _ _ _ _ => trivial)⟩⟩ rfl rfl hl.1 rfl (lv_room (Nat.le_of_ble_eq_true rfl)) dX4_swap_25 ⟨Nat.le_of_ble_eq_true rfl, Nat.le_of_ble_eq_true rfl⟩) hS (fun q _ h => hFc q h) hFc (fun u ra t H1 locs ht hvm w_5 hB hz1 hk1 hS => ?_)
          obtain ⟨o_6, o_7, o_8, o_9, o_10, o_11, o_12, o_13, o_14, o_15, o_16, o_17, o_18, o_19, o_20⟩ := u
          dsimp only at w_5 hB
          obtain ⟨er, hP1, hK1, hD1⟩ := hB
          rw [ht] at hP1
          have hK1 := va_K.moved hvm.symm hK1
          have hD := hD1.weaken (fun _ q _ h => hFc q.1 h)
          have hP := hP1
          clear hP1 hD1 hK1 hk1 hz1 hFc hDc hPc hKc
          generalize H1 = H at hP hS ⊢
          have w_5 : o_6.toInt = 0 ∧ 0 ≤ o_7.toInt ∧ o_7.toInt ≤ 319 ∧ sixes o_11 ∧ treeOk o_9 o_10 o_7.toInt len.toInt := w_5
          rw [er]
          refine lv_astore_n (lv' := [(3, .ref q_t), (0, .ref m_), (1, .int p0), (2, .int p1)]) hx hb dX4_swap_28 rfl hl (by decide) rfl (fun ls hl => ?_)
          refine lv_aload_n hx hb dX4_swap_29 rfl (lv_at hl 1 rfl) ?_
          refine va_get (D := (dC, dI)) (ci := 4) (v := .ref q_row) (C := RX4) (T := TX4) (N := 9) hx hb hts hi_4 hown hK hP 0 rfl rfl 0 (by decide) hf_12 (fun _ h9 => h9) rfl dX4_swap_30 ?_
          refine lv_iload_n hx hb dX4_swap_33 rfl (lv_at hl 2 rfl) ?_
          refine lv_iload_n hx hb dX4_swap_34 rfl (lv_at hl 3 rfl) ?_
          obtain ⟨hPc, hDc, hFc, hCc⟩ := kx_preM (wc := [kx_0 q_row q_cell len, kx_a q_cell cyI 160 f]) hP hD hS hA [false, false, true, true, false, false, false, false, false, false, false, false, false, false] rfl
          have hKc := hK
          refine va_callv (va_runV (As := [.int p0, .int p1]) (rest := []) ⟨hx, hb, hml, hown, hts⟩ (kx_un (c_X0_exchange l dC dI q_row q_cell cyI len f p0 p1 H.size (om_10 w_1.1) (om_143 a1 w_1.2) (om_10 w_3.1) (om_143 a1 w_3.2))) (cwV 2 hts gX4_swap_X0_exchange rfl rfl rfl (by decide +kernel) ⟨Nat.le_of_ble_eq_true rfl, Nat.le_of_ble_eq_true rfl⟩) ⟨fun a U g mk q => by obtain ⟨q0, q1, qP, qK, qD⟩ := q; exact ⟨q0, q1, qP, va_K.moved (u := U) (U := U.calling g mk a) (Vm.Alike.refl U.vm) qK, qD⟩, kx_rc0 hKc hPc (q0 := 0) rfl, fun U hU hW => ⟨rfl, by rw [hU], by rw [hU]; exact hPc, va_K.moved hW.alike hKc, hDc.weaken (fun _ _ _ _ => trivial)⟩⟩ rfl rfl hl.1 rfl (lv_room (Nat.le_of_ble_eq_true rfl)) dX4_swap_35 ⟨Nat.le_of_ble_eq_true rfl, Nat.le_of_ble_eq_true rfl⟩) hS (fun q _ h => hFc q h) hFc (fun u t H1 locs ht hvm w_21 hB hz1 hk1 hS => ?_)
          obtain ⟨o_22, rfl⟩ : ∃ z, z = u := ⟨_, rfl⟩
          obtain ⟨hP1, hK1, hD1⟩ := hB
          rw [ht] at hP1
          have hK1 := va_K.moved hvm.symm hK1
          obtain ⟨hP, hD⟩ := kx_joinM (w2 := [kx_4 m_ q_row q_t t_ h0 k0 w_ z_ slots o_6, kx_2 q_t q_row q_joined q_from q_to q_size q_lossOf q_lessBy q_value q_number o_7 o_8, kx_0 q_row q_cell len, kx_a q_cell cyI 160 o_22, kx_a q_from cyI 319 o_9, kx_a q_to cyI 319 o_10, kx_a q_size cyI 319 o_11, kx_a q_lossOf cyI 319 o_12, kx_a q_lessBy cyI 319 o_13, kx_a q_value cyI 1914 o_14, kx_a q_number cyI 1914 o_15, kx_3 q_joined j_v j_n o_16 o_17 o_18, kx_a j_v cyI 12 o_19, kx_a j_n cyI 12 o_20]) hP hD hP1 hD1 hk1 hFc [false, false, true, true, false, false, false, false, false, false, false, false, false, false] hCc rfl
          clear hP1 hD1 hK1 hk1 hz1 hFc hDc hPc hKc hCc
          generalize H1 = H at hP hS ⊢
          have w_21 : o_22 = upd (upd f p0.toNatClampNeg (f p1.toNatClampNeg)) p1.toNatClampNeg (f p0.toNatClampNeg) := w_21
          refine lv_aload_n hx hb dX4_swap_38 rfl (lv_at hl 0 rfl) ?_
          refine lv_iload_n hx hb dX4_swap_39 rfl (lv_at hl 2 rfl) ?_
          refine lv_iload_n hx hb dX4_swap_40 rfl (lv_at hl 3 rfl) ?_
          refine va_mmin hx hb (hml.trans hl.1.symm) hown hm_91 hms_min hz_math hmc_min (Nat.le_of_ble_eq_true rfl) (Nat.le_of_ble_eq_true rfl) (Nat.le_of_ble_eq_true rfl) (Nat.le_of_ble_eq_true rfl) dX4_swap_41 ?_
          refine lv_topi (fun y_23 ey_23 => ?_)
          have i_24 : (p0.toInt ≤ p1.toInt ∧ y_23.toInt = p0.toInt) ∨ (p1.toInt < p0.toInt ∧ y_23.toInt = p1.toInt) := ki_min ey_23 rfl rfl
          refine lv_iload_n hx hb dX4_swap_44 rfl (lv_at hl 2 rfl) ?_
          refine lv_iload_n hx hb dX4_swap_45 rfl (lv_at hl 3 rfl) ?_
          refine va_mmax hx hb (hml.trans hl.1.symm) hown hm_96 hms_max hz_math hmc_max (Nat.le_of_ble_eq_true rfl) (Nat.le_of_ble_eq_true rfl) (Nat.le_of_ble_eq_true rfl) (Nat.le_of_ble_eq_true rfl) dX4_swap_46 ?_
          refine lv_topi (fun y_25 ey_25 => ?_)
          have i_26 : (p0.toInt ≤ p1.toInt ∧ y_25.toInt = p1.toInt) ∨ (p1.toInt < p0.toInt ∧ y_25.toInt = p0.toInt) := ki_max ey_25 rfl rfl
          refine lv_iconst (v := 1) hx hb dX4_swap_49 (by decide) ?_
          refine lv_iadd hx hb dX4_swap_50 ?_
          refine lv_topi (fun y_27 ey_27 => ?_)
          have i_27 : y_27.toInt = y_25.toInt + 1 := ki_add ey_27 rfl rfl (by omega) (by omega)
          obtain ⟨hPc, hDc, hFc, hCc⟩ := kx_preM (wc := [kx_2 q_t q_row q_joined q_from q_to q_size q_lossOf q_lessBy q_value q_number o_7 o_8, kx_0 q_row q_cell len, kx_a q_cell cyI 160 o_22, kx_a q_from cyI 319 o_9, kx_a q_to cyI 319 o_10, kx_a q_size cyI 319 o_11, kx_a q_lossOf cyI 319 o_12, kx_a q_lessBy cyI 319 o_13, kx_a q_value cyI 1914 o_14, kx_a q_number cyI 1914 o_15, kx_3 q_joined j_v j_n o_16 o_17 o_18, kx_a j_v cyI 12 o_19, kx_a j_n cyI 12 o_20]) hP hD hS hA [false, true, true, true, true, true, true, true, true, true, true, true, true, true] rfl
          have hKc := hK
          refine va_calli (va_runV (As := [.int y_23, .int y_27]) (rest := []) ⟨hx, hb, hml, hown, hts⟩ (kx_un (c_X2_renew l dC dI q_t q_row q_joined q_from q_to q_size q_lossOf q_lessBy q_value q_number o_7 o_8 q_cell cyI len o_22 o_9 o_10 o_11 o_12 o_14 o_15 o_13 j_v j_n o_16 o_17 o_18 o_19 o_20 y_23 y_27 H.size w_5.2.1 w_5.2.2.1 a1 w_5.2.2.2.1 w_5.2.2.2.2)) (cwV 2 hts gX4_swap_X2_renew rfl rfl rfl (by decide +kernel) ⟨Nat.le_of_ble_eq_true rfl, Nat.le_of_ble_eq_true rfl⟩) ⟨fun a U g mk q => by obtain ⟨q0, q1, qP, qK, qD⟩ := q; exact ⟨q0, q1, qP, va_K.moved (u := U) (U := U.calling g mk a) (Vm.Alike.refl U.vm) qK, qD⟩, kx_rc2 hKc hPc (q0 := 0) rfl, fun U hU hW => ⟨rfl, by rw [hU], by rw [hU]; exact hPc, va_K.moved hW.alike hKc, hDc.weaken (fun _ _ _ _ => trivial)⟩⟩ rfl rfl hl.1 rfl (lv_room (Nat.le_of_ble_eq_true rfl)) dX4_swap_51 ⟨Nat.le_of_ble_eq_true rfl, Nat.le_of_ble_eq_true rfl⟩) hS (fun q _ h => hFc q h) hFc (fun r_28 u t H1 locs ht hvm w_28 hB hz1 hk1 hS => ?_)
          obtain ⟨o_29, o_30, o_31, o_32, o_33, o_34, o_35, o_36, o_37, o_38⟩ := u
          dsimp only at w_28 hB
          obtain ⟨hP1, hK1, hD1⟩ := hB
          rw [ht] at hP1
          have hK1 := va_K.moved hvm.symm hK1
          obtain ⟨hP, hD⟩ := kx_joinM (w2 := [kx_4 m_ q_row q_t t_ h0 k0 w_ z_ slots o_6, kx_2 q_t q_row q_joined q_from q_to q_size q_lossOf q_lessBy q_value q_number o_7 o_8, kx_0 q_row q_cell len, kx_a q_cell cyI 160 o_22, kx_a q_from cyI 319 o_9, kx_a q_to cyI 319 o_10, kx_a q_size cyI 319 o_29, kx_a q_lossOf cyI 319 o_30, kx_a q_lessBy cyI 319 o_31, kx_a q_value cyI 1914 o_32, kx_a q_number cyI 1914 o_33, kx_3 q_joined j_v j_n o_34 o_35 o_36, kx_a j_v cyI 12 o_37, kx_a j_n cyI 12 o_38]) hP hD hP1 hD1 hk1 hFc [false, true, true, true, true, true, true, true, true, true, true, true, true, true] hCc rfl
          clear hP1 hD1 hK1 hk1 hz1 hFc hDc hPc hKc hCc
          generalize H1 = H at hP hS ⊢
          have w_28 : sixes o_29 := w_28
          have hP9 := hP
          have hD9 := hD
          have hK9 := hK
          have n_p0 := ki_nat p0 rfl (om_10 w_1.1)
          have n_p1 := ki_nat p1 rfl (om_10 w_3.1)
          have e_f : o_22 = mj_ex f p0.toNatClampNeg p1.toNatClampNeg := w_21
          exact W.iret (v := r_28) hx hb hr (hlocks := hlocks) (fun t ht hW => ⟨⟨r_28, (o_6, o_7, o_8, o_9, o_10, o_29, o_30, o_31, o_32, o_33, o_34, o_35, o_36, o_37, o_38, o_22), rfl, ⟨Or.inl ⟨by omega, e_f⟩, (by (try dsimp only); rw [e_f]; exact shorts_mex s1 (by omega) (by omega)), (fun _ => ⟨(by (try dsimp only); omega), (by (try dsimp only); omega), w_5.2.2.2.2⟩), w_28⟩, by rw [ht]; exact hP9, va_K.moved hW.alike hK9, hD9⟩, hS.F ht⟩) hS.2.2 dX4_swap_54
        · exact absurd c_4 (by decide)
      · have w_3 : (p1.toInt < 0 ∨ len.toInt ≤ p1.toInt) := w_3
        refine lv_if_ne (tgt := 24) hx hb dX4_swap_19 (by decide) (fun c_39 => ?_) (fun c_39 => ?_)
        · exact absurd c_39 (by decide)
        · refine lv_iconst (v := (-1)) hx hb dX4_swap_22 (by decide) ?_
          have hP9 := hP
          have hD9 := hD
          have hK9 := hK
          exact W.iret (v := (-1)) hx hb hr (hlocks := hlocks) (fun t ht hW => ⟨⟨(-1), (old, nodes, here, ff, ft, fs, fo, fe, uv, un, js, jl, je, jv, jn, f), rfl, ⟨Or.inr ⟨by omega, rfl, rfl⟩, s1, l0, s0⟩, by rw [ht]; exact hP9, va_K.moved hW.alike hK9, hD9⟩, hS.F ht⟩) hS.2.2 dX4_swap_23
  · have w_1 : (p0.toInt < 0 ∨ len.toInt ≤ p0.toInt) := w_1
    refine lv_if_eq (tgt := 22) hx hb dX4_swap_8 (by decide) (fun c_40 => ?_) (fun c_40 => ?_)
    · refine lv_iconst (v := (-1)) hx hb dX4_swap_22 (by decide) ?_
      have hP9 := hP
      have hD9 := hD
      have hK9 := hK
      exact W.iret (v := (-1)) hx hb hr (hlocks := hlocks) (fun t ht hW => ⟨⟨(-1), (old, nodes, here, ff, ft, fs, fo, fe, uv, un, js, jl, je, jv, jn, f), rfl, ⟨Or.inr ⟨by omega, rfl, rfl⟩, s1, l0, s0⟩, by rw [ht]; exact hP9, va_K.moved hW.alike hK9, hD9⟩, hS.F ht⟩) hS.2.2 dX4_swap_23
    · exact absurd c_40 (by decide)


