set_option maxHeartbeats 4000000 in
set_option maxRecDepth 100000 in
theorem c_X2_joinNode (l : Launch) (dC : Nat → ClassId) (dI : Nat → Nat → Nat) (q_t : Nat) (q_row : Nat) (q_joined : Nat) (q_from : Nat) (q_to : Nat) (q_size : Nat) (q_lossOf : Nat) (q_lessBy : Nat) (q_value : Nat) (q_number : Nat) (nodes : Int32) (here : Int32) (h0 : Nat) (a_v : Nat) (a_n : Nat) (cyI : ClassId) (vs : Int32) (lo : Int32) (le : Int32) (fv : Nat → Int32) (fn : Nat → Int32) (fs : Nat → Int32) (fo : Nat → Int32) (uv : Nat → Int32) (un : Nat → Int32) (p0 : Int32) (sz : Nat) (a0 : 0 ≤ vs.toInt) (a1 : vs.toInt ≤ 12) (b0 : 0 ≤ p0.toInt) (b1 : p0.toInt < 319) (s0 : sixes fs) : kx_MQ l (dC, dI) yX2_joinNode wsX2_joinNode ({ frames := 1, cells := 0, slots := 0, locals := 45 }) [.ref q_t, .ref h0, .int p0] [kx_2 q_t q_row q_joined q_from q_to q_size q_lossOf q_lessBy q_value q_number nodes here, kx_a q_size cyI 319 fs, kx_a q_lossOf cyI 319 fo, kx_a q_value cyI 1914 uv, kx_a q_number cyI 1914 un, kx_3 h0 a_v a_n vs lo le, kx_a a_v cyI 12 fv, kx_a a_n cyI 12 fn] [(cyI, .int)] sz (fun A => va_Qv (fun u : Int32 × Int32 × (Nat → Int32) × (Nat → Int32) => 0 ≤ u.1.toInt ∧ u.1.toInt ≤ 12) (fun (u : Int32 × Int32 × (Nat → Int32) × (Nat → Int32)) (t : State) => va_P (dC, dI) vwCl [kx_2 q_t q_row q_joined q_from q_to q_size q_lossOf q_lessBy q_value q_number nodes here, kx_a q_size cyI 319 fs, kx_a q_lossOf cyI 319 fo, kx_a q_value cyI 1914 uv, kx_a q_number cyI 1914 un, kx_3 h0 a_v a_n u.1 u.2.1 le, kx_a a_v cyI 12 u.2.2.1, kx_a a_n cyI 12 u.2.2.2] t.heap ∧ va_K (dC, dI) vwCl [(cyI, .int)] t ∧ va_D A [kx_2 q_t q_row q_joined q_from q_to q_size q_lossOf q_lessBy q_value q_number nodes here, kx_a q_size cyI 319 fs, kx_a q_lossOf cyI 319 fo, kx_a q_value cyI 1914 uv, kx_a q_number cyI 1914 un, kx_3 h0 a_v a_n u.1 u.2.1 le, kx_a a_v cyI 12 u.2.2.1, kx_a a_n cyI 12 u.2.2.2]) A) := by
  refine kx_stQ (ws := wsX2_joinNode) (cc := cX2_joinNode) (maxL := 5) (ret := none) (by decide) rfl (Nat.le_of_ble_eq_true rfl) ?_
  intro p e s m below meth c A ls hx hb hr hlocks hts hown hml hA hS hP hK hD hl
  have hown : s.vm.findClass RX2 = some m.cls := hown
  have hl : lv_has ls 5 [(0, .ref q_t), (1, .ref h0), (2, .int p0)] := hl
  have hf_25 := hts (.fieldLink RX2 25 "MajorityIndex$Tree" "size" "[I") (List.mem_of_getElem? (i := 1) rfl)
  have hi_2 : ∀ w ∈ u_ws RX2 TX2 11, w ∈ wsX2_joinNode := fun w h => List.mem_cons_of_mem _ (List.mem_append_left _ (List.mem_append_right _ h))
  have hf_91 := hts (.fieldLink RX2 91 "MajorityIndex$Votes" "lost" "I") (List.mem_of_getElem? (i := 4) rfl)
  have hi_3 : ∀ w ∈ u_ws RX3 TX3 5, w ∈ wsX2_joinNode := fun w h => List.mem_cons_of_mem _ (List.mem_append_right _ h)
  have hf_28 := hts (.fieldLink RX2 28 "MajorityIndex$Tree" "lossOf" "[I") (List.mem_of_getElem? (i := 5) rfl)
  have hf_34 := hts (.fieldLink RX2 34 "MajorityIndex$Tree" "value" "[I") (List.mem_of_getElem? (i := 2) rfl)
  have hf_37 := hts (.fieldLink RX2 37 "MajorityIndex$Tree" "number" "[I") (List.mem_of_getElem? (i := 3) rfl)
  refine lv_iload_n hx hb dX2_joinNode_0 rfl (lv_at hl 2 rfl) ?_
  refine lv_bipush (v := 6) hx hb dX2_joinNode_1 (by decide) ?_
  refine lv_imul hx hb dX2_joinNode_3 ?_
  refine lv_topi (fun y_1 ey_1 => ?_)
  have i_1 : y_1.toInt = p0.toInt * 6 := ki_mul ey_1 rfl rfl (om_95 b0) (om_96 b1)
  refine lv_istore_n (lv' := [(3, .int y_1), (0, .ref q_t), (1, .ref h0), (2, .int p0)]) hx hb dX2_joinNode_4 rfl hl (by decide) rfl (fun ls hl => ?_)
  refine lv_iconst (v := 0) hx hb dX2_joinNode_5 (by decide) ?_
  refine lv_istore (lv' := [(4, .int 0), (3, .int y_1), (0, .ref q_t), (1, .ref h0), (2, .int p0)]) hx hb dX2_joinNode_6 hl (by decide) rfl (fun ls hl => ?_)
  have LP1 : ∀ (n : Nat) (i : Int32) (zz : Int32) (yv : Nat → Int32) (yn : Nat → Int32), (0 ≤ i.toInt) → (0 ≤ zz.toInt) → (zz.toInt ≤ 12) → (6 - i.toInt).toNat < n → ∀ (H : Heap) (locs : List Loc), va_P (dC, dI) vwCl [kx_2 q_t q_row q_joined q_from q_to q_size q_lossOf q_lessBy q_value q_number nodes here, kx_a q_size cyI 319 fs, kx_a q_lossOf cyI 319 fo, kx_a q_value cyI 1914 uv, kx_a q_number cyI 1914 un, kx_3 h0 a_v a_n zz lo le, kx_a a_v cyI 12 yv, kx_a a_n cyI 12 yn] H → va_D A [kx_2 q_t q_row q_joined q_from q_to q_size q_lossOf q_lessBy q_value q_number nodes here, kx_a q_size cyI 319 fs, kx_a q_lossOf cyI 319 fo, kx_a q_value cyI 1914 uv, kx_a q_number cyI 1914 un, kx_3 h0 a_v a_n zz lo le, kx_a a_v cyI 12 yv, kx_a a_n cyI 12 yn] → va_S A s.heap H locs → ∀ (ls : Array Slot), lv_has ls 5 [(4, .int i), (3, .int y_1), (0, .ref q_t), (1, .ref h0), (2, .int p0)] → W p l e (headSpec wsX2_joinNode ({ frames := 1, cells := 0, slots := 0, locals := 45 })).room s m ([.ref q_t, .ref h0, .int p0] : List Value).toArray below meth c H locs 0 0 (MQ below (va_Qv (fun u : Int32 × Int32 × (Nat → Int32) × (Nat → Int32) => 0 ≤ u.1.toInt ∧ u.1.toInt ≤ 12) (fun (u : Int32 × Int32 × (Nat → Int32) × (Nat → Int32)) (t : State) => va_P (dC, dI) vwCl [kx_2 q_t q_row q_joined q_from q_to q_size q_lossOf q_lessBy q_value q_number nodes here, kx_a q_size cyI 319 fs, kx_a q_lossOf cyI 319 fo, kx_a q_value cyI 1914 uv, kx_a q_number cyI 1914 un, kx_3 h0 a_v a_n u.1 u.2.1 le, kx_a a_v cyI 12 u.2.2.1, kx_a a_n cyI 12 u.2.2.2] t.heap ∧ va_K (dC, dI) vwCl [(cyI, .int)] t ∧ va_D A [kx_2 q_t q_row q_joined q_from q_to q_size q_lossOf q_lessBy q_value q_number nodes here, kx_a q_size cyI 319 fs, kx_a q_lossOf cyI 319 fo, kx_a q_value cyI 1914 uv, kx_a q_number cyI 1914 un, kx_3 h0 a_v a_n u.1 u.2.1 le, kx_a a_v cyI 12 u.2.2.1, kx_a a_n cyI 12 u.2.2.2]) A) ([.ref q_t, .ref h0, .int p0] : List Value).toArray s 0 0 A) (F0 m 8 ls []) := by
    intro n
    induction n with
    | zero => intro i zz yv yn LP1_h0 LP1_h1 LP1_h2 hn; exact absurd hn (Nat.not_lt_zero _)
    | succ n ih1 =>
      intro i zz yv yn LP1_h0 LP1_h1 LP1_h2 hn1 H locs hP hD hS ls hl
      refine lv_iload hx hb dX2_joinNode_8 (lv_at hl 0 rfl) ?_
      refine lv_aload_n hx hb dX2_joinNode_10 rfl (lv_at hl 2 rfl) ?_
      refine va_get (D := (dC, dI)) (ci := 2) (v := .ref q_size) (C := RX2) (T := TX2) (N := 11) hx hb hts hi_2 hown hK hP 0 rfl rfl 4 (by decide) hf_25 (fun _ h9 => h9) rfl dX2_joinNode_11 ?_
      refine lv_iload_n hx hb dX2_joinNode_14 rfl (lv_at hl 4 rfl) ?_
      refine va_iald hx hb hK hP 1 0 rfl rfl (ki_in (om_10 b0) (om_61 b1)) dX2_joinNode_15 ?_
      refine lv_topi (fun y_2 ey_2 => ?_)
      have j_2 : y_2.toInt = (fs p0.toNatClampNeg).toInt := congrArg Int32.toInt ey_2
      have n_3 : (p0.toNatClampNeg : Int) = p0.toInt := ki_nat _ rfl (om_10 b0)
      have i_4 := s0 p0.toNatClampNeg (om_ln n_3 (om_61 b1))
      refine lv_icmp_ge (tgt := 47) hx hb dX2_joinNode_16 (by decide) (fun c_5 => ?_) (fun c_5 => ?_)
      · have i_5 : y_2.toInt ≤ i.toInt := kc_le c_5
        refine lv_aload_n hx hb dX2_joinNode_47 rfl (lv_at hl 3 rfl) ?_
        refine lv_dup hx hb dX2_joinNode_48 rfl ?_
        refine va_get (D := (dC, dI)) (ci := 3) (v := .int lo) (C := RX3) (T := TX3) (N := 5) hx hb hts hi_3 hown hK hP 5 rfl rfl 3 (by decide) hf_91 (fun _ h9 => h9) rfl dX2_joinNode_49 ?_
        refine lv_aload_n hx hb dX2_joinNode_52 rfl (lv_at hl 2 rfl) ?_
        refine va_get (D := (dC, dI)) (ci := 2) (v := .ref q_lossOf) (C := RX2) (T := TX2) (N := 11) hx hb hts hi_2 hown hK hP 0 rfl rfl 5 (by decide) hf_28 (fun _ h9 => h9) rfl dX2_joinNode_53 ?_
        refine lv_iload_n hx hb dX2_joinNode_56 rfl (lv_at hl 4 rfl) ?_
        refine va_iald hx hb hK hP 2 0 rfl rfl (ki_in (om_10 b0) (om_61 b1)) dX2_joinNode_57 ?_
        refine lv_topi (fun y_6 ey_6 => ?_)
        have j_6 : y_6.toInt = (fo p0.toNatClampNeg).toInt := congrArg Int32.toInt ey_6
        refine lv_iadd hx hb dX2_joinNode_58 ?_
        refine lv_topi (fun y_7 ey_7 => ?_)
        refine va_put (D := (dC, dI)) (ci := 3) (v := .int y_7) (ty := .int) (C := RX3) (T := TX3) (N := 5) hx hb hts hi_3 tyX3 tyX3_ok nmX3 hown hK hP hD hS 5 rfl rfl 3 (by decide) hf_91 (fun _ h9 => h9) rfl (by decide +kernel) rfl rfl (Nat.le_of_ble_eq_true rfl) dX2_joinNode_59 (fun H locs hP hD hS => ?_)
        obtain ⟨hP, hD⟩ := kx_re (w2 := [kx_2 q_t q_row q_joined q_from q_to q_size q_lossOf q_lessBy q_value q_number nodes here, kx_a q_size cyI 319 fs, kx_a q_lossOf cyI 319 fo, kx_a q_value cyI 1914 uv, kx_a q_number cyI 1914 un, kx_3 h0 a_v a_n zz y_7 le, kx_a a_v cyI 12 yv, kx_a a_n cyI 12 yn]) hP hD rfl
        have hP9 := hP
        have hD9 := hD
        have hK9 := hK
        exact W.vret hx hb hr (hlocks := hlocks) (fun t ht hW => ⟨⟨(zz, y_7, yv, yn), rfl, (by (try dsimp only); omega), by rw [ht]; exact hP9, va_K.moved hW.alike hK9, hD9⟩, hS.F ht⟩) hS.2.2 dX2_joinNode_62
      · have i_5 : i.toInt < y_2.toInt := kc_nle c_5
        refine lv_aload_n hx hb dX2_joinNode_19 rfl (lv_at hl 3 rfl) ?_
        refine lv_aload_n hx hb dX2_joinNode_20 rfl (lv_at hl 2 rfl) ?_
        refine va_get (D := (dC, dI)) (ci := 2) (v := .ref q_value) (C := RX2) (T := TX2) (N := 11) hx hb hts hi_2 hown hK hP 0 rfl rfl 7 (by decide) hf_34 (fun _ h9 => h9) rfl dX2_joinNode_21 ?_
        refine lv_iload_n hx hb dX2_joinNode_24 rfl (lv_at hl 1 rfl) ?_
        refine lv_iload hx hb dX2_joinNode_25 (lv_at hl 0 rfl) ?_
        refine lv_iadd hx hb dX2_joinNode_27 ?_
        refine lv_topi (fun y_8 ey_8 => ?_)
        have i_8 : y_8.toInt = y_1.toInt + i.toInt := ki_add ey_8 rfl rfl (om_97 b0 i_1 LP1_h0) (om_98 b1 i_1 j_2 i_4.2 i_5)
        refine va_iald hx hb hK hP 3 0 rfl rfl (ki_in (om_99 b0 i_1 LP1_h0 i_8) (om_100 b1 i_1 j_2 i_4.2 i_5 i_8)) dX2_joinNode_28 ?_
        refine lv_topi (fun y_9 ey_9 => ?_)
        have j_9 : y_9.toInt = (uv y_8.toNatClampNeg).toInt := congrArg Int32.toInt ey_9
        refine lv_aload_n hx hb dX2_joinNode_29 rfl (lv_at hl 2 rfl) ?_
        refine va_get (D := (dC, dI)) (ci := 2) (v := .ref q_number) (C := RX2) (T := TX2) (N := 11) hx hb hts hi_2 hown hK hP 0 rfl rfl 8 (by decide) hf_37 (fun _ h9 => h9) rfl dX2_joinNode_30 ?_
        refine lv_iload_n hx hb dX2_joinNode_33 rfl (lv_at hl 1 rfl) ?_
        refine lv_iload hx hb dX2_joinNode_34 (lv_at hl 0 rfl) ?_
        refine lv_iadd hx hb dX2_joinNode_36 ?_
        refine lv_topi (fun y_10 ey_10 => ?_)
        have i_10 : y_10.toInt = y_1.toInt + i.toInt := ki_add ey_10 rfl rfl (om_97 b0 i_1 LP1_h0) (om_98 b1 i_1 j_2 i_4.2 i_5)
        refine va_iald hx hb hK hP 4 0 rfl rfl (ki_in (om_99 b0 i_1 LP1_h0 i_10) (om_100 b1 i_1 j_2 i_4.2 i_5 i_10)) dX2_joinNode_37 ?_
        refine lv_topi (fun y_11 ey_11 => ?_)
        have j_11 : y_11.toInt = (un y_10.toNatClampNeg).toInt := congrArg Int32.toInt ey_11
        obtain ⟨hPc, hDc, hFc, hCc⟩ := kx_preM (wc := [kx_3 h0 a_v a_n zz lo le, kx_a a_v cyI 12 yv, kx_a a_n cyI 12 yn]) hP hD hS hA [false, false, false, false, false, true, true, true] rfl
        have hKc := hK
        refine va_callv (va_runV (As := [.int y_9, .int y_11]) (rest := []) ⟨hx, hb, hml, hown, hts⟩ (kx_un (c_X3_add l dC dI h0 a_v a_n cyI zz lo le yv yn y_9 y_11 H.size LP1_h1 LP1_h2)) (cwV 2 hts gX2_joinNode_X3_add rfl rfl rfl (by decide +kernel) ⟨Nat.le_of_ble_eq_true rfl, Nat.le_of_ble_eq_true rfl⟩) ⟨fun a U g mk q => by obtain ⟨q0, q1, qP, qK, qD⟩ := q; exact ⟨q0, q1, qP, va_K.moved (u := U) (U := U.calling g mk a) (Vm.Alike.refl U.vm) qK, qD⟩, kx_rc3 hKc hPc (q0 := 0) rfl, fun U hU hW => ⟨rfl, by rw [hU], by rw [hU]; exact hPc, va_K.moved hW.alike hKc, hDc.weaken (fun _ _ _ _ => trivial)⟩⟩ rfl rfl hl.1 rfl (lv_room (Nat.le_of_ble_eq_true rfl)) dX2_joinNode_38 ⟨Nat.le_of_ble_eq_true rfl, Nat.le_of_ble_eq_true rfl⟩) hS (fun q _ h => hFc q h) hFc (fun u t H1 locs ht hvm w_12 hB hz1 hk1 hS => ?_)
        obtain ⟨o_13, o_14, o_15⟩ := u
        dsimp only at w_12 hB
        obtain ⟨hP1, hK1, hD1⟩ := hB
        rw [ht] at hP1
        have hK1 := va_K.moved hvm.symm hK1
        obtain ⟨hP, hD⟩ := kx_joinM (w2 := [kx_2 q_t q_row q_joined q_from q_to q_size q_lossOf q_lessBy q_value q_number nodes here, kx_a q_size cyI 319 fs, kx_a q_lossOf cyI 319 fo, kx_a q_value cyI 1914 uv, kx_a q_number cyI 1914 un, kx_3 h0 a_v a_n o_13 lo le, kx_a a_v cyI 12 o_14, kx_a a_n cyI 12 o_15]) hP hD hP1 hD1 hk1 hFc [false, false, false, false, false, true, true, true] hCc rfl
        clear hP1 hD1 hK1 hk1 hz1 hFc hDc hPc hKc hCc
        generalize H1 = H at hP hS ⊢
        have w_12 : zz.toInt ≤ o_13.toInt ∧ o_13.toInt ≤ zz.toInt + 1 ∧ o_13.toInt ≤ 12 := w_12
        obtain ⟨x_16, ex_16⟩ : ∃ y : Int32, y = i + 1 := ⟨_, rfl⟩
        have i_16 : x_16.toInt = i.toInt + 1 := ki_add ex_16 rfl rfl (om_13 LP1_h0) (om_101 j_2 i_4.2 i_5)
        refine lv_iinc (v := x_16) (lv' := [(4, .int x_16), (3, .int y_1), (0, .ref q_t), (1, .ref h0), (2, .int p0)]) hx hb dX2_joinNode_41 hl (k := 0) rfl (by rw [ex_16]; rfl) (by decide) rfl (fun ls hl => ?_)
        refine lv_goto (tgt := 8) hx hb dX2_joinNode_44 (by decide) ?_
        exact ih1 x_16 o_13 o_14 o_15 (om_34 LP1_h0 i_16) (om_0 LP1_h1 w_12.1) (om_60 w_12.2.2) (om_mu hn1 (om_102 i_16) (om_103 j_2 i_4.2 i_5)) _ _ hP hD hS ls (lv_sub hl [0, 1, 2, 3, 4] rfl)
  have k_17 : (0 : Int32).toInt = 0 := rfl
  exact LP1 ((6 - 0 : Int).toNat + 1) 0 vs fv fn om_35 (om_10 a0) (om_60 a1) (Nat.lt_succ_self _) _ _ hP hD hS ls (lv_sub hl [0, 1, 2, 3, 4] rfl)

set_option maxHeartbeats 4000000 in
set_option maxRecDepth 100000 in
theorem c_X2_copyTo (l : Launch) (dC : Nat → ClassId) (dI : Nat → Nat → Nat) (q_t : Nat) (q_row : Nat) (q_joined : Nat) (q_from : Nat) (q_to : Nat) (q_size : Nat) (q_lossOf : Nat) (q_lessBy : Nat) (q_value : Nat) (q_number : Nat) (nodes : Int32) (here : Int32) (h0 : Nat) (a_v : Nat) (a_n : Nat) (cyI : ClassId) (vs : Int32) (lo : Int32) (le : Int32) (fv : Nat → Int32) (fn : Nat → Int32) (fs : Nat → Int32) (fo : Nat → Int32) (uv : Nat → Int32) (un : Nat → Int32) (p0 : Int32) (sz : Nat) (b0 : 0 ≤ p0.toInt) (b1 : p0.toInt < 319) (s0 : sixes fs) : kx_MQ l (dC, dI) yX2_copyTo wsX2_copyTo ({ frames := 2, cells := 0, slots := 0, locals := 90 }) [.ref q_t, .ref h0, .int p0] [kx_2 q_t q_row q_joined q_from q_to q_size q_lossOf q_lessBy q_value q_number nodes here, kx_a q_size cyI 319 fs, kx_a q_lossOf cyI 319 fo, kx_a q_value cyI 1914 uv, kx_a q_number cyI 1914 un, kx_3 h0 a_v a_n vs lo le, kx_a a_v cyI 12 fv, kx_a a_n cyI 12 fn] [(cyI, .int)] sz (fun A => va_Qv (fun u : Int32 × Int32 × (Nat → Int32) × (Nat → Int32) => 0 ≤ u.1.toInt ∧ u.1.toInt ≤ 12) (fun (u : Int32 × Int32 × (Nat → Int32) × (Nat → Int32)) (t : State) => va_P (dC, dI) vwCl [kx_2 q_t q_row q_joined q_from q_to q_size q_lossOf q_lessBy q_value q_number nodes here, kx_a q_size cyI 319 fs, kx_a q_lossOf cyI 319 fo, kx_a q_value cyI 1914 uv, kx_a q_number cyI 1914 un, kx_3 h0 a_v a_n u.1 u.2.1 0, kx_a a_v cyI 12 u.2.2.1, kx_a a_n cyI 12 u.2.2.2] t.heap ∧ va_K (dC, dI) vwCl [(cyI, .int)] t ∧ va_D A [kx_2 q_t q_row q_joined q_from q_to q_size q_lossOf q_lessBy q_value q_number nodes here, kx_a q_size cyI 319 fs, kx_a q_lossOf cyI 319 fo, kx_a q_value cyI 1914 uv, kx_a q_number cyI 1914 un, kx_3 h0 a_v a_n u.1 u.2.1 0, kx_a a_v cyI 12 u.2.2.1, kx_a a_n cyI 12 u.2.2.2]) A) := by
  refine kx_stQ (ws := wsX2_copyTo) (cc := cX2_copyTo) (maxL := 3) (ret := none) (by decide) rfl (Nat.le_of_ble_eq_true rfl) ?_
  intro p e s m below meth c A ls hx hb hr hlocks hts hown hml hA hS hP hK hD hl
  have hown : s.vm.findClass RX2 = some m.cls := hown
  have hl : lv_has ls 3 [(0, .ref q_t), (1, .ref h0), (2, .int p0)] := hl
  refine lv_aload_n hx hb dX2_copyTo_0 rfl (lv_at hl 1 rfl) ?_
  obtain ⟨hPc, hDc, hFc, hCc⟩ := kx_preM (wc := [kx_3 h0 a_v a_n vs lo le]) hP hD hS hA [false, false, false, false, false, true, false, false] rfl
  have hKc := hK.sub (tys' := []) [] rfl
  refine va_callv (va_runV (As := []) (rest := []) ⟨hx, hb, hml, hown, hts⟩ (kx_un (c_X3_clear l dC dI h0 a_v a_n vs lo le s.heap.size)) (cwV 0 hts gX2_copyTo_X3_clear rfl rfl rfl (by decide +kernel) ⟨Nat.le_of_ble_eq_true rfl, Nat.le_of_ble_eq_true rfl⟩) ⟨fun a U g mk q => by obtain ⟨q0, q1, qP, qK, qD⟩ := q; exact ⟨q0, q1, qP, va_K.moved (u := U) (U := U.calling g mk a) (Vm.Alike.refl U.vm) qK, qD⟩, kx_rc3 hKc hPc (q0 := 0) rfl, fun U hU hW => ⟨rfl, by rw [hU], by rw [hU]; exact hPc, va_K.moved hW.alike hKc, hDc.weaken (fun _ _ _ _ => trivial)⟩⟩ rfl rfl hl.1 rfl (lv_room (Nat.le_of_ble_eq_true rfl)) dX2_copyTo_1 ⟨Nat.le_of_ble_eq_true rfl, Nat.le_of_ble_eq_true rfl⟩) hS (fun q _ h => hFc q h) hFc (fun u t H1 locs ht hvm w_1 hB hz1 hk1 hS => ?_)
  obtain ⟨hP1, hK1, hD1⟩ := hB
  rw [ht] at hP1
  have hK1 := va_K.moved hvm.symm hK1
  obtain ⟨hP, hD⟩ := kx_joinM (w2 := [kx_2 q_t q_row q_joined q_from q_to q_size q_lossOf q_lessBy q_value q_number nodes here, kx_a q_size cyI 319 fs, kx_a q_lossOf cyI 319 fo, kx_a q_value cyI 1914 uv, kx_a q_number cyI 1914 un, kx_3 h0 a_v a_n 0 0 0, kx_a a_v cyI 12 fv, kx_a a_n cyI 12 fn]) hP hD hP1 hD1 hk1 hFc [false, false, false, false, false, true, false, false] hCc rfl
  clear hP1 hD1 hK1 hk1 hz1 hFc hDc hPc hKc hCc
  generalize H1 = H at hP hS ⊢
  have k_0 : (0 : Int32).toInt = 0 := rfl
  refine lv_aload_n hx hb dX2_copyTo_4 rfl (lv_at hl 0 rfl) ?_
  refine lv_aload_n hx hb dX2_copyTo_5 rfl (lv_at hl 1 rfl) ?_
  refine lv_iload_n hx hb dX2_copyTo_6 rfl (lv_at hl 2 rfl) ?_
  have hPc := hP
  have hKc := hK
  have hDc := hD
  have hFc := kx_free hD hS hA
  refine va_callv (va_runV (As := [.ref h0, .int p0]) (rest := []) ⟨hx, hb, hml, hown, hts⟩ (kx_un (c_X2_joinNode l dC dI q_t q_row q_joined q_from q_to q_size q_lossOf q_lessBy q_value q_number nodes here h0 a_v a_n cyI 0 0 0 fv fn fs fo uv un p0 H.size om_35 om_104 b0 b1 s0)) (cwV 2 hts gX2_copyTo_X2_joinNode rfl rfl rfl (by decide +kernel) ⟨Nat.le_of_ble_eq_true rfl, Nat.le_of_ble_eq_true rfl⟩) ⟨fun a U g mk q => by obtain ⟨q0, q1, qP, qK, qD⟩ := q; exact ⟨q0, q1, qP, va_K.moved (u := U) (U := U.calling g mk a) (Vm.Alike.refl U.vm) qK, qD⟩, kx_rc2 hKc hPc (q0 := 0) rfl, fun U hU hW => ⟨rfl, by rw [hU], by rw [hU]; exact hPc, va_K.moved hW.alike hKc, hDc.weaken (fun _ _ _ _ => trivial)⟩⟩ rfl rfl hl.1 rfl (lv_room (Nat.le_of_ble_eq_true rfl)) dX2_copyTo_7 ⟨Nat.le_of_ble_eq_true rfl, Nat.le_of_ble_eq_true rfl⟩) hS (fun q _ h => hFc q h) hFc (fun u t H1 locs ht hvm w_2 hB hz1 hk1 hS => ?_)
  obtain ⟨o_3, o_4, o_5, o_6⟩ := u
  dsimp only at w_2 hB
  obtain ⟨hP1, hK1, hD1⟩ := hB
  rw [ht] at hP1
  have hK1 := va_K.moved hvm.symm hK1
  have hD := hD1.weaken (fun _ q _ h => hFc q.1 h)
  have hP := hP1
  clear hP1 hD1 hK1 hk1 hz1 hFc hDc hPc hKc
  generalize H1 = H at hP hS ⊢
  have w_2 : 0 ≤ o_3.toInt ∧ o_3.toInt ≤ 12 := w_2
  have hP9 := hP
  have hD9 := hD
  have hK9 := hK
  exact W.vret hx hb hr (hlocks := hlocks) (fun t ht hW => ⟨⟨(o_3, o_4, o_5, o_6), rfl, (by (try dsimp only); omega), by rw [ht]; exact hP9, va_K.moved hW.alike hK9, hD9⟩, hS.F ht⟩) hS.2.2 dX2_copyTo_10

set_option maxHeartbeats 4000000 in
set_option maxRecDepth 100000 in
theorem c_X2_isJoined (l : Launch) (dC : Nat → ClassId) (dI : Nat → Nat → Nat) (q_t : Nat) (q_row : Nat) (q_joined : Nat) (q_from : Nat) (q_to : Nat) (q_size : Nat) (q_lossOf : Nat) (q_lessBy : Nat) (q_value : Nat) (q_number : Nat) (nodes : Int32) (here : Int32) (cyI : ClassId) (fs : Nat → Int32) (fo : Nat → Int32) (uv : Nat → Int32) (un : Nat → Int32) (j_v : Nat) (j_n : Nat) (js : Int32) (jl : Int32) (je : Int32) (jv : Nat → Int32) (jn : Nat → Int32) (p0 : Int32) (b0 : 0 ≤ p0.toInt) (b1 : p0.toInt < 319) (j0 : 0 ≤ js.toInt) (j1 : js.toInt ≤ 12) : Met l yX2_isJoined wsX2_isJoined ({ frames := 0, cells := 0, slots := 0, locals := 0 }) (va_Pc [.ref q_t, .int p0] (fun U => va_P (dC, dI) vwCl [kx_2 q_t q_row q_joined q_from q_to q_size q_lossOf q_lessBy q_value q_number nodes here, kx_a q_size cyI 319 fs, kx_a q_lossOf cyI 319 fo, kx_a q_value cyI 1914 uv, kx_a q_number cyI 1914 un, kx_3 q_joined j_v j_n js jl je, kx_a j_v cyI 12 jv, kx_a j_n cyI 12 jn] U.heap ∧ va_K (dC, dI) vwCl [(cyI, .int)] U)) (vp_Si (fun r : Int32 => (r = 1 ∧ (0 : Int) ≤ 1) ∨ (r = 0 ∧ (0 : Int) ≤ 1))) 0 0 (fun _ => False) := by
  refine kx_stS (ws := wsX2_isJoined) (cc := cX2_isJoined) (maxL := 4) (ret := (some .boolean)) (by decide) rfl (Nat.le_of_ble_eq_true rfl) ?_
  intro p e s m below meth c ls hx hb hr hlocks hts hown hml hP hK hl
  have hown : s.vm.findClass RX2 = some m.cls := hown
  have hl : lv_has ls 4 [(0, .ref q_t), (1, .int p0)] := hl
  have hf_25 := hts (.fieldLink RX2 25 "MajorityIndex$Tree" "size" "[I") (List.mem_of_getElem? (i := 1) rfl)
  have hi_2 : ∀ w ∈ u_ws RX2 TX2 11, w ∈ wsX2_isJoined := fun w h => List.mem_cons_of_mem _ (List.mem_append_left _ (List.mem_append_right _ h))
  have hf_12 := hts (.fieldLink RX2 12 "MajorityIndex$Tree" "joined" "LMajorityIndex$Votes;") (List.mem_of_getElem? (i := 2) rfl)
  have hf_94 := hts (.fieldLink RX2 94 "MajorityIndex$Votes" "size" "I") (List.mem_of_getElem? (i := 3) rfl)
  have hi_3 : ∀ w ∈ u_ws RX3 TX3 5, w ∈ wsX2_isJoined := fun w h => List.mem_cons_of_mem _ (List.mem_append_right _ h)
  have hf_28 := hts (.fieldLink RX2 28 "MajorityIndex$Tree" "lossOf" "[I") (List.mem_of_getElem? (i := 4) rfl)
  have hf_91 := hts (.fieldLink RX2 91 "MajorityIndex$Votes" "lost" "I") (List.mem_of_getElem? (i := 5) rfl)
  have hf_34 := hts (.fieldLink RX2 34 "MajorityIndex$Tree" "value" "[I") (List.mem_of_getElem? (i := 6) rfl)
  have hf_96 := hts (.fieldLink RX2 96 "MajorityIndex$Votes" "value" "[I") (List.mem_of_getElem? (i := 7) rfl)
  have hf_37 := hts (.fieldLink RX2 37 "MajorityIndex$Tree" "number" "[I") (List.mem_of_getElem? (i := 8) rfl)
  have hf_97 := hts (.fieldLink RX2 97 "MajorityIndex$Votes" "number" "[I") (List.mem_of_getElem? (i := 9) rfl)
  refine lv_aload_n hx hb dX2_isJoined_0 rfl (lv_at hl 0 rfl) ?_
  refine va_get (D := (dC, dI)) (ci := 2) (v := .ref q_size) (C := RX2) (T := TX2) (N := 11) hx hb hts hi_2 hown hK hP 0 rfl rfl 4 (by decide) hf_25 (fun _ h9 => h9) rfl dX2_isJoined_1 ?_
  refine lv_iload_n hx hb dX2_isJoined_4 rfl (lv_at hl 1 rfl) ?_
  refine va_iald hx hb hK hP 1 0 rfl rfl (ki_in (om_10 b0) (om_61 b1)) dX2_isJoined_5 ?_
  refine lv_topi (fun y_1 ey_1 => ?_)
  have j_1 : y_1.toInt = (fs p0.toNatClampNeg).toInt := congrArg Int32.toInt ey_1
  refine lv_aload_n hx hb dX2_isJoined_6 rfl (lv_at hl 0 rfl) ?_
  refine va_get (D := (dC, dI)) (ci := 2) (v := .ref q_joined) (C := RX2) (T := TX2) (N := 11) hx hb hts hi_2 hown hK hP 0 rfl rfl 1 (by decide) hf_12 (fun _ h9 => h9) rfl dX2_isJoined_7 ?_
  refine va_get (D := (dC, dI)) (ci := 3) (v := .int js) (C := RX3) (T := TX3) (N := 5) hx hb hts hi_3 hown hK hP 5 rfl rfl 2 (by decide) hf_94 (fun _ h9 => h9) rfl dX2_isJoined_10 ?_
  refine lv_icmp_ne (tgt := 32) hx hb dX2_isJoined_13 (by decide) (fun c_2 => ?_) (fun c_2 => ?_)
  · have i_2 : ¬ y_1.toInt = js.toInt := kc_ne c_2
    refine lv_iconst (v := 0) hx hb dX2_isJoined_32 (by decide) ?_
    exact W.zret (v := 0) hx hb hr (by decide) (hlocks := hlocks) (fun t ht hW => ⟨0, rfl, Or.inr (⟨rfl, om_29⟩), ht⟩) (fun q hq => by cases hq) dX2_isJoined_33
  · have i_2 : y_1.toInt = js.toInt := kc_eq c_2
    refine lv_aload_n hx hb dX2_isJoined_16 rfl (lv_at hl 0 rfl) ?_
    refine va_get (D := (dC, dI)) (ci := 2) (v := .ref q_lossOf) (C := RX2) (T := TX2) (N := 11) hx hb hts hi_2 hown hK hP 0 rfl rfl 5 (by decide) hf_28 (fun _ h9 => h9) rfl dX2_isJoined_17 ?_
    refine lv_iload_n hx hb dX2_isJoined_20 rfl (lv_at hl 1 rfl) ?_
    refine va_iald hx hb hK hP 2 0 rfl rfl (ki_in (om_10 b0) (om_61 b1)) dX2_isJoined_21 ?_
    refine lv_topi (fun y_3 ey_3 => ?_)
    have j_3 : y_3.toInt = (fo p0.toNatClampNeg).toInt := congrArg Int32.toInt ey_3
    refine lv_aload_n hx hb dX2_isJoined_22 rfl (lv_at hl 0 rfl) ?_
    refine va_get (D := (dC, dI)) (ci := 2) (v := .ref q_joined) (C := RX2) (T := TX2) (N := 11) hx hb hts hi_2 hown hK hP 0 rfl rfl 1 (by decide) hf_12 (fun _ h9 => h9) rfl dX2_isJoined_23 ?_
    refine va_get (D := (dC, dI)) (ci := 3) (v := .int jl) (C := RX3) (T := TX3) (N := 5) hx hb hts hi_3 hown hK hP 5 rfl rfl 3 (by decide) hf_91 (fun _ h9 => h9) rfl dX2_isJoined_26 ?_
    refine lv_icmp_eq (tgt := 34) hx hb dX2_isJoined_29 (by decide) (fun c_4 => ?_) (fun c_4 => ?_)
    · have i_4 : y_3.toInt = jl.toInt := kc_eq c_4
      refine lv_iload_n hx hb dX2_isJoined_34 rfl (lv_at hl 1 rfl) ?_
      refine lv_bipush (v := 6) hx hb dX2_isJoined_35 (by decide) ?_
      refine lv_imul hx hb dX2_isJoined_37 ?_
      refine lv_topi (fun y_5 ey_5 => ?_)
      have i_5 : y_5.toInt = p0.toInt * 6 := ki_mul ey_5 rfl rfl (om_95 b0) (om_96 b1)
      refine lv_istore_n (lv' := [(2, .int y_5), (0, .ref q_t), (1, .int p0)]) hx hb dX2_isJoined_38 rfl hl (by decide) rfl (fun ls hl => ?_)
      refine lv_iconst (v := 0) hx hb dX2_isJoined_39 (by decide) ?_
      refine lv_istore_n (lv' := [(3, .int 0), (2, .int y_5), (0, .ref q_t), (1, .int p0)]) hx hb dX2_isJoined_40 rfl hl (by decide) rfl (fun ls hl => ?_)
      have LP1 : ∀ (n : Nat) (i : Int32), (0 ≤ i.toInt) → (6 - i.toInt).toNat < n → ∀ (ls : Array Slot), lv_has ls 4 [(3, .int i), (2, .int y_5), (0, .ref q_t), (1, .int p0)] → W p l e (headSpec wsX2_isJoined ({ frames := 0, cells := 0, slots := 0, locals := 0 })).room s m ([.ref q_t, .int p0] : List Value).toArray below meth c s.heap [] 0 0 (MQ below (vp_Si (fun r : Int32 => (r = 1 ∧ (0 : Int) ≤ 1) ∨ (r = 0 ∧ (0 : Int) ≤ 1))) ([.ref q_t, .int p0] : List Value).toArray s 0 0 (fun _ => False)) (F0 m 41 ls []) := by
        intro n
        induction n with
        | zero => intro i LP1_h0 hn; exact absurd hn (Nat.not_lt_zero _)
        | succ n ih1 =>
          intro i LP1_h0 hn1 ls hl
          refine lv_iload_n hx hb dX2_isJoined_41 rfl (lv_at hl 0 rfl) ?_
          refine lv_aload_n hx hb dX2_isJoined_42 rfl (lv_at hl 2 rfl) ?_
          refine va_get (D := (dC, dI)) (ci := 2) (v := .ref q_joined) (C := RX2) (T := TX2) (N := 11) hx hb hts hi_2 hown hK hP 0 rfl rfl 1 (by decide) hf_12 (fun _ h9 => h9) rfl dX2_isJoined_43 ?_
          refine va_get (D := (dC, dI)) (ci := 3) (v := .int js) (C := RX3) (T := TX3) (N := 5) hx hb hts hi_3 hown hK hP 5 rfl rfl 2 (by decide) hf_94 (fun _ h9 => h9) rfl dX2_isJoined_46 ?_
          refine lv_icmp_ge (tgt := 106) hx hb dX2_isJoined_49 (by decide) (fun c_6 => ?_) (fun c_6 => ?_)
          · have i_6 : js.toInt ≤ i.toInt := kc_le c_6
            refine lv_iconst (v := 1) hx hb dX2_isJoined_106 (by decide) ?_
            exact W.zret (v := 1) hx hb hr (by decide) (hlocks := hlocks) (fun t ht hW => ⟨1, rfl, Or.inl ⟨rfl, om_29⟩, ht⟩) (fun q hq => by cases hq) dX2_isJoined_107
          · have i_6 : i.toInt < js.toInt := kc_nle c_6
            refine lv_iload_n hx hb dX2_isJoined_52 rfl (lv_at hl 0 rfl) ?_
            refine lv_bipush (v := 6) hx hb dX2_isJoined_53 (by decide) ?_
            refine lv_icmp_ge (tgt := 106) hx hb dX2_isJoined_55 (by decide) (fun c_7 => ?_) (fun c_7 => ?_)
            · have i_7 : 6 ≤ i.toInt := kc_le c_7
              refine lv_iconst (v := 1) hx hb dX2_isJoined_106 (by decide) ?_
              exact W.zret (v := 1) hx hb hr (by decide) (hlocks := hlocks) (fun t ht hW => ⟨1, rfl, Or.inl ⟨rfl, om_29⟩, ht⟩) (fun q hq => by cases hq) dX2_isJoined_107
            · have i_7 : i.toInt < 6 := kc_nle c_7
              refine lv_aload_n hx hb dX2_isJoined_58 rfl (lv_at hl 2 rfl) ?_
              refine va_get (D := (dC, dI)) (ci := 2) (v := .ref q_value) (C := RX2) (T := TX2) (N := 11) hx hb hts hi_2 hown hK hP 0 rfl rfl 7 (by decide) hf_34 (fun _ h9 => h9) rfl dX2_isJoined_59 ?_
              refine lv_iload_n hx hb dX2_isJoined_62 rfl (lv_at hl 1 rfl) ?_
              refine lv_iload_n hx hb dX2_isJoined_63 rfl (lv_at hl 0 rfl) ?_
              refine lv_iadd hx hb dX2_isJoined_64 ?_
              refine lv_topi (fun y_8 ey_8 => ?_)
              have i_8 : y_8.toInt = y_5.toInt + i.toInt := ki_add ey_8 rfl rfl (om_97 b0 i_5 LP1_h0) (om_105 b1 i_5 i_7)
              refine va_iald hx hb hK hP 3 0 rfl rfl (ki_in (om_99 b0 i_5 LP1_h0 i_8) (om_106 b1 i_5 i_7 i_8)) dX2_isJoined_65 ?_
              refine lv_topi (fun y_9 ey_9 => ?_)
              have j_9 : y_9.toInt = (uv y_8.toNatClampNeg).toInt := congrArg Int32.toInt ey_9
              refine lv_aload_n hx hb dX2_isJoined_66 rfl (lv_at hl 2 rfl) ?_
              refine va_get (D := (dC, dI)) (ci := 2) (v := .ref q_joined) (C := RX2) (T := TX2) (N := 11) hx hb hts hi_2 hown hK hP 0 rfl rfl 1 (by decide) hf_12 (fun _ h9 => h9) rfl dX2_isJoined_67 ?_
              refine va_get (D := (dC, dI)) (ci := 3) (v := .ref j_v) (C := RX3) (T := TX3) (N := 5) hx hb hts hi_3 hown hK hP 5 rfl rfl 0 (by decide) hf_96 (fun _ h9 => h9) rfl dX2_isJoined_70 ?_
              refine lv_iload_n hx hb dX2_isJoined_73 rfl (lv_at hl 0 rfl) ?_
              refine va_iald hx hb hK hP 6 0 rfl rfl (ki_in (om_10 LP1_h0) (om_107 i_7)) dX2_isJoined_74 ?_
              refine lv_topi (fun y_10 ey_10 => ?_)
              have j_10 : y_10.toInt = (jv i.toNatClampNeg).toInt := congrArg Int32.toInt ey_10
              refine lv_icmp_ne (tgt := 98) hx hb dX2_isJoined_75 (by decide) (fun c_11 => ?_) (fun c_11 => ?_)
              · have i_11 : ¬ y_9.toInt = y_10.toInt := kc_ne c_11
                refine lv_iconst (v := 0) hx hb dX2_isJoined_98 (by decide) ?_
                exact W.zret (v := 0) hx hb hr (by decide) (hlocks := hlocks) (fun t ht hW => ⟨0, rfl, Or.inr (⟨rfl, om_29⟩), ht⟩) (fun q hq => by cases hq) dX2_isJoined_99
              · have i_11 : y_9.toInt = y_10.toInt := kc_eq c_11
                refine lv_aload_n hx hb dX2_isJoined_78 rfl (lv_at hl 2 rfl) ?_
                refine va_get (D := (dC, dI)) (ci := 2) (v := .ref q_number) (C := RX2) (T := TX2) (N := 11) hx hb hts hi_2 hown hK hP 0 rfl rfl 8 (by decide) hf_37 (fun _ h9 => h9) rfl dX2_isJoined_79 ?_
                refine lv_iload_n hx hb dX2_isJoined_82 rfl (lv_at hl 1 rfl) ?_
                refine lv_iload_n hx hb dX2_isJoined_83 rfl (lv_at hl 0 rfl) ?_
                refine lv_iadd hx hb dX2_isJoined_84 ?_
                refine lv_topi (fun y_12 ey_12 => ?_)
                have i_12 : y_12.toInt = y_5.toInt + i.toInt := ki_add ey_12 rfl rfl (om_97 b0 i_5 LP1_h0) (om_105 b1 i_5 i_7)
                refine va_iald hx hb hK hP 4 0 rfl rfl (ki_in (om_99 b0 i_5 LP1_h0 i_12) (om_106 b1 i_5 i_7 i_12)) dX2_isJoined_85 ?_
                refine lv_topi (fun y_13 ey_13 => ?_)
                have j_13 : y_13.toInt = (un y_12.toNatClampNeg).toInt := congrArg Int32.toInt ey_13
                refine lv_aload_n hx hb dX2_isJoined_86 rfl (lv_at hl 2 rfl) ?_
                refine va_get (D := (dC, dI)) (ci := 2) (v := .ref q_joined) (C := RX2) (T := TX2) (N := 11) hx hb hts hi_2 hown hK hP 0 rfl rfl 1 (by decide) hf_12 (fun _ h9 => h9) rfl dX2_isJoined_87 ?_
                refine va_get (D := (dC, dI)) (ci := 3) (v := .ref j_n) (C := RX3) (T := TX3) (N := 5) hx hb hts hi_3 hown hK hP 5 rfl rfl 1 (by decide) hf_97 (fun _ h9 => h9) rfl dX2_isJoined_90 ?_
                refine lv_iload_n hx hb dX2_isJoined_93 rfl (lv_at hl 0 rfl) ?_
                refine va_iald hx hb hK hP 7 0 rfl rfl (ki_in (om_10 LP1_h0) (om_107 i_7)) dX2_isJoined_94 ?_
                refine lv_topi (fun y_14 ey_14 => ?_)
                have j_14 : y_14.toInt = (jn i.toNatClampNeg).toInt := congrArg Int32.toInt ey_14
                refine lv_icmp_eq (tgt := 100) hx hb dX2_isJoined_95 (by decide) (fun c_15 => ?_) (fun c_15 => ?_)
                · have i_15 : y_13.toInt = y_14.toInt := kc_eq c_15
                  obtain ⟨x_16, ex_16⟩ : ∃ y : Int32, y = i + 1 := ⟨_, rfl⟩
                  have i_16 : x_16.toInt = i.toInt + 1 := ki_add ex_16 rfl rfl (om_13 LP1_h0) (om_108 i_7)
                  refine lv_iinc (v := x_16) (lv' := [(3, .int x_16), (2, .int y_5), (0, .ref q_t), (1, .int p0)]) hx hb dX2_isJoined_100 hl (k := 0) rfl (by rw [ex_16]; rfl) (by decide) rfl (fun ls hl => ?_)
                  refine lv_goto (tgt := 41) hx hb dX2_isJoined_103 (by decide) ?_
                  exact ih1 x_16 (om_34 LP1_h0 i_16) (om_mu hn1 (om_102 i_16) (om_109 i_7)) ls (lv_sub hl [0, 1, 2, 3] rfl)
                · have i_15 : ¬ y_13.toInt = y_14.toInt := kc_ne c_15
                  refine lv_iconst (v := 0) hx hb dX2_isJoined_98 (by decide) ?_
                  exact W.zret (v := 0) hx hb hr (by decide) (hlocks := hlocks) (fun t ht hW => ⟨0, rfl, Or.inr (⟨rfl, om_29⟩), ht⟩) (fun q hq => by cases hq) dX2_isJoined_99
      have k_17 : (0 : Int32).toInt = 0 := rfl
      exact LP1 ((6 - 0 : Int).toNat + 1) 0 om_35 (Nat.lt_succ_self _) ls (lv_sub hl [0, 1, 2, 3] rfl)
    · have i_4 : ¬ y_3.toInt = jl.toInt := kc_ne c_4
      refine lv_iconst (v := 0) hx hb dX2_isJoined_32 (by decide) ?_
      exact W.zret (v := 0) hx hb hr (by decide) (hlocks := hlocks) (fun t ht hW => ⟨0, rfl, Or.inr (⟨rfl, om_29⟩), ht⟩) (fun q hq => by cases hq) dX2_isJoined_33

set_option maxHeartbeats 4000000 in
set_option maxRecDepth 100000 in
theorem c_X2_keepJoined (l : Launch) (dC : Nat → ClassId) (dI : Nat → Nat → Nat) (q_t : Nat) (q_row : Nat) (q_joined : Nat) (q_from : Nat) (q_to : Nat) (q_size : Nat) (q_lossOf : Nat) (q_lessBy : Nat) (q_value : Nat) (q_number : Nat) (nodes : Int32) (here : Int32) (cyI : ClassId) (fs : Nat → Int32) (fo : Nat → Int32) (uv : Nat → Int32) (un : Nat → Int32) (fe : Nat → Int32) (j_v : Nat) (j_n : Nat) (js : Int32) (jl : Int32) (je : Int32) (jv : Nat → Int32) (jn : Nat → Int32) (p0 : Int32) (sz : Nat) (b0 : 0 ≤ p0.toInt) (b1 : p0.toInt < 319) (j0 : 0 ≤ js.toInt) (j1 : js.toInt ≤ 12) (s0 : sixes fs) : kx_MQ l (dC, dI) yX2_keepJoined wsX2_keepJoined ({ frames := 1, cells := 0, slots := 0, locals := 45 }) [.ref q_t, .int p0] [kx_2 q_t q_row q_joined q_from q_to q_size q_lossOf q_lessBy q_value q_number nodes here, kx_a q_size cyI 319 fs, kx_a q_lossOf cyI 319 fo, kx_a q_lessBy cyI 319 fe, kx_a q_value cyI 1914 uv, kx_a q_number cyI 1914 un, kx_3 q_joined j_v j_n js jl je, kx_a j_v cyI 12 jv, kx_a j_n cyI 12 jn] [(cyI, .int)] sz (fun A => va_Qv (fun u : (Nat → Int32) × (Nat → Int32) × (Nat → Int32) × (Nat → Int32) × (Nat → Int32) => sixes u.1) (fun (u : (Nat → Int32) × (Nat → Int32) × (Nat → Int32) × (Nat → Int32) × (Nat → Int32)) (t : State) => va_P (dC, dI) vwCl [kx_2 q_t q_row q_joined q_from q_to q_size q_lossOf q_lessBy q_value q_number nodes here, kx_a q_size cyI 319 u.1, kx_a q_lossOf cyI 319 u.2.1, kx_a q_lessBy cyI 319 u.2.2.1, kx_a q_value cyI 1914 u.2.2.2.1, kx_a q_number cyI 1914 u.2.2.2.2, kx_3 q_joined j_v j_n js jl je, kx_a j_v cyI 12 jv, kx_a j_n cyI 12 jn] t.heap ∧ va_K (dC, dI) vwCl [(cyI, .int)] t ∧ va_D A [kx_2 q_t q_row q_joined q_from q_to q_size q_lossOf q_lessBy q_value q_number nodes here, kx_a q_size cyI 319 u.1, kx_a q_lossOf cyI 319 u.2.1, kx_a q_lessBy cyI 319 u.2.2.1, kx_a q_value cyI 1914 u.2.2.2.1, kx_a q_number cyI 1914 u.2.2.2.2, kx_3 q_joined j_v j_n js jl je, kx_a j_v cyI 12 jv, kx_a j_n cyI 12 jn]) A) := by
  refine kx_stQ (ws := wsX2_keepJoined) (cc := cX2_keepJoined) (maxL := 4) (ret := none) (by decide) rfl (Nat.le_of_ble_eq_true rfl) ?_
  intro p e s m below meth c A ls hx hb hr hlocks hts hown hml hA hS hP hK hD hl
  have hown : s.vm.findClass RX2 = some m.cls := hown
  have hl : lv_has ls 4 [(0, .ref q_t), (1, .int p0)] := hl
  have hf_12 := hts (.fieldLink RX2 12 "MajorityIndex$Tree" "joined" "LMajorityIndex$Votes;") (List.mem_of_getElem? (i := 1) rfl)
  have hi_2 : ∀ w ∈ u_ws RX2 TX2 11, w ∈ wsX2_keepJoined := fun w h => List.mem_cons_of_mem _ (List.mem_append_left _ (List.mem_append_right _ h))
  have hf_94 := hts (.fieldLink RX2 94 "MajorityIndex$Votes" "size" "I") (List.mem_of_getElem? (i := 2) rfl)
  have hi_3 : ∀ w ∈ u_ws RX3 TX3 5, w ∈ wsX2_keepJoined := fun w h => List.mem_cons_of_mem _ (List.mem_append_right _ h)
  have hf_25 := hts (.fieldLink RX2 25 "MajorityIndex$Tree" "size" "[I") (List.mem_of_getElem? (i := 7) rfl)
  have hm_98 := hts (.methodLink RX2 98 Lib.Math.min.name) (List.mem_of_getElem? (i := 8) rfl)
  have hms_min := hts (.static Lib.Math.min.name) (List.mem_of_getElem? (i := 9) rfl)
  have hz_math := hts (.initialized "java/lang/Math") (List.mem_of_getElem? (i := 10) rfl)
  have hmc_min := hts (.code Lib.Math.min.name Lib.Math.min.code 2 (some .int)) (List.mem_of_getElem? (i := 11) rfl)
  have hf_28 := hts (.fieldLink RX2 28 "MajorityIndex$Tree" "lossOf" "[I") (List.mem_of_getElem? (i := 12) rfl)
  have hf_91 := hts (.fieldLink RX2 91 "MajorityIndex$Votes" "lost" "I") (List.mem_of_getElem? (i := 13) rfl)
  have hf_31 := hts (.fieldLink RX2 31 "MajorityIndex$Tree" "lessBy" "[I") (List.mem_of_getElem? (i := 14) rfl)
  have hf_104 := hts (.fieldLink RX2 104 "MajorityIndex$Votes" "lessBy" "I") (List.mem_of_getElem? (i := 15) rfl)
  have hf_34 := hts (.fieldLink RX2 34 "MajorityIndex$Tree" "value" "[I") (List.mem_of_getElem? (i := 3) rfl)
  have hf_96 := hts (.fieldLink RX2 96 "MajorityIndex$Votes" "value" "[I") (List.mem_of_getElem? (i := 4) rfl)
  have hf_37 := hts (.fieldLink RX2 37 "MajorityIndex$Tree" "number" "[I") (List.mem_of_getElem? (i := 5) rfl)
  have hf_97 := hts (.fieldLink RX2 97 "MajorityIndex$Votes" "number" "[I") (List.mem_of_getElem? (i := 6) rfl)
  refine lv_iload_n hx hb dX2_keepJoined_0 rfl (lv_at hl 1 rfl) ?_
  refine lv_bipush (v := 6) hx hb dX2_keepJoined_1 (by decide) ?_
  refine lv_imul hx hb dX2_keepJoined_3 ?_
  refine lv_topi (fun y_1 ey_1 => ?_)
  have i_1 : y_1.toInt = p0.toInt * 6 := ki_mul ey_1 rfl rfl (om_95 b0) (om_96 b1)
  refine lv_istore_n (lv' := [(2, .int y_1), (0, .ref q_t), (1, .int p0)]) hx hb dX2_keepJoined_4 rfl hl (by decide) rfl (fun ls hl => ?_)
  refine lv_iconst (v := 0) hx hb dX2_keepJoined_5 (by decide) ?_
  refine lv_istore_n (lv' := [(3, .int 0), (2, .int y_1), (0, .ref q_t), (1, .int p0)]) hx hb dX2_keepJoined_6 rfl hl (by decide) rfl (fun ls hl => ?_)
  have LP1 : ∀ (n : Nat) (i : Int32) (wv : Nat → Int32) (wn : Nat → Int32), (0 ≤ i.toInt) → (6 - i.toInt).toNat < n → ∀ (H : Heap) (locs : List Loc), va_P (dC, dI) vwCl [kx_2 q_t q_row q_joined q_from q_to q_size q_lossOf q_lessBy q_value q_number nodes here, kx_a q_size cyI 319 fs, kx_a q_lossOf cyI 319 fo, kx_a q_lessBy cyI 319 fe, kx_a q_value cyI 1914 wv, kx_a q_number cyI 1914 wn, kx_3 q_joined j_v j_n js jl je, kx_a j_v cyI 12 jv, kx_a j_n cyI 12 jn] H → va_D A [kx_2 q_t q_row q_joined q_from q_to q_size q_lossOf q_lessBy q_value q_number nodes here, kx_a q_size cyI 319 fs, kx_a q_lossOf cyI 319 fo, kx_a q_lessBy cyI 319 fe, kx_a q_value cyI 1914 wv, kx_a q_number cyI 1914 wn, kx_3 q_joined j_v j_n js jl je, kx_a j_v cyI 12 jv, kx_a j_n cyI 12 jn] → va_S A s.heap H locs → ∀ (ls : Array Slot), lv_has ls 4 [(3, .int i), (2, .int y_1), (0, .ref q_t), (1, .int p0)] → W p l e (headSpec wsX2_keepJoined ({ frames := 1, cells := 0, slots := 0, locals := 45 })).room s m ([.ref q_t, .int p0] : List Value).toArray below meth c H locs 0 0 (MQ below (va_Qv (fun u : (Nat → Int32) × (Nat → Int32) × (Nat → Int32) × (Nat → Int32) × (Nat → Int32) => sixes u.1) (fun (u : (Nat → Int32) × (Nat → Int32) × (Nat → Int32) × (Nat → Int32) × (Nat → Int32)) (t : State) => va_P (dC, dI) vwCl [kx_2 q_t q_row q_joined q_from q_to q_size q_lossOf q_lessBy q_value q_number nodes here, kx_a q_size cyI 319 u.1, kx_a q_lossOf cyI 319 u.2.1, kx_a q_lessBy cyI 319 u.2.2.1, kx_a q_value cyI 1914 u.2.2.2.1, kx_a q_number cyI 1914 u.2.2.2.2, kx_3 q_joined j_v j_n js jl je, kx_a j_v cyI 12 jv, kx_a j_n cyI 12 jn] t.heap ∧ va_K (dC, dI) vwCl [(cyI, .int)] t ∧ va_D A [kx_2 q_t q_row q_joined q_from q_to q_size q_lossOf q_lessBy q_value q_number nodes here, kx_a q_size cyI 319 u.1, kx_a q_lossOf cyI 319 u.2.1, kx_a q_lessBy cyI 319 u.2.2.1, kx_a q_value cyI 1914 u.2.2.2.1, kx_a q_number cyI 1914 u.2.2.2.2, kx_3 q_joined j_v j_n js jl je, kx_a j_v cyI 12 jv, kx_a j_n cyI 12 jn]) A) ([.ref q_t, .int p0] : List Value).toArray s 0 0 A) (F0 m 7 ls []) := by
    intro n
    induction n with
    | zero => intro i wv wn LP1_h0 hn; exact absurd hn (Nat.not_lt_zero _)
    | succ n ih1 =>
      intro i wv wn LP1_h0 hn1 H locs hP hD hS ls hl
      refine lv_iload_n hx hb dX2_keepJoined_7 rfl (lv_at hl 0 rfl) ?_
      refine lv_aload_n hx hb dX2_keepJoined_8 rfl (lv_at hl 2 rfl) ?_
      refine va_get (D := (dC, dI)) (ci := 2) (v := .ref q_joined) (C := RX2) (T := TX2) (N := 11) hx hb hts hi_2 hown hK hP 0 rfl rfl 1 (by decide) hf_12 (fun _ h9 => h9) rfl dX2_keepJoined_9 ?_
      refine va_get (D := (dC, dI)) (ci := 3) (v := .int js) (C := RX3) (T := TX3) (N := 5) hx hb hts hi_3 hown hK hP 6 rfl rfl 2 (by decide) hf_94 (fun _ h9 => h9) rfl dX2_keepJoined_12 ?_
      refine lv_icmp_ge (tgt := 64) hx hb dX2_keepJoined_15 (by decide) (fun c_2 => ?_) (fun c_2 => ?_)
      · have i_2 : js.toInt ≤ i.toInt := kc_le c_2
        refine lv_aload_n hx hb dX2_keepJoined_64 rfl (lv_at hl 2 rfl) ?_
        refine va_get (D := (dC, dI)) (ci := 2) (v := .ref q_size) (C := RX2) (T := TX2) (N := 11) hx hb hts hi_2 hown hK hP 0 rfl rfl 4 (by decide) hf_25 (fun _ h9 => h9) rfl dX2_keepJoined_65 ?_
        refine lv_iload_n hx hb dX2_keepJoined_68 rfl (lv_at hl 3 rfl) ?_
        refine lv_aload_n hx hb dX2_keepJoined_69 rfl (lv_at hl 2 rfl) ?_
        refine va_get (D := (dC, dI)) (ci := 2) (v := .ref q_joined) (C := RX2) (T := TX2) (N := 11) hx hb hts hi_2 hown hK hP 0 rfl rfl 1 (by decide) hf_12 (fun _ h9 => h9) rfl dX2_keepJoined_70 ?_
        refine va_get (D := (dC, dI)) (ci := 3) (v := .int js) (C := RX3) (T := TX3) (N := 5) hx hb hts hi_3 hown hK hP 6 rfl rfl 2 (by decide) hf_94 (fun _ h9 => h9) rfl dX2_keepJoined_73 ?_
        refine lv_bipush (v := 6) hx hb dX2_keepJoined_76 (by decide) ?_
        refine va_mmin hx hb (hml.trans hl.1.symm) hown hm_98 hms_min hz_math hmc_min (Nat.le_of_ble_eq_true rfl) (Nat.le_of_ble_eq_true rfl) (Nat.le_of_ble_eq_true rfl) (Nat.le_of_ble_eq_true rfl) dX2_keepJoined_78 ?_
        refine lv_topi (fun y_3 ey_3 => ?_)
        have i_4 : (js.toInt ≤ 6 ∧ y_3.toInt = js.toInt) ∨ (6 < js.toInt ∧ y_3.toInt = 6) := ki_min ey_3 rfl rfl
        refine va_iast hx hb hK hP hD hS 1 0 rfl rfl (ki_in (om_10 b0) (om_61 b1)) dX2_keepJoined_81 (fun H locs hP hD hS => ?_)
        obtain ⟨hP, hD⟩ := kx_re (w2 := [kx_2 q_t q_row q_joined q_from q_to q_size q_lossOf q_lessBy q_value q_number nodes here, kx_a q_size cyI 319 (upd fs p0.toNatClampNeg y_3), kx_a q_lossOf cyI 319 fo, kx_a q_lessBy cyI 319 fe, kx_a q_value cyI 1914 wv, kx_a q_number cyI 1914 wn, kx_3 q_joined j_v j_n js jl je, kx_a j_v cyI 12 jv, kx_a j_n cyI 12 jn]) hP hD rfl
        refine lv_aload_n hx hb dX2_keepJoined_82 rfl (lv_at hl 2 rfl) ?_
        refine va_get (D := (dC, dI)) (ci := 2) (v := .ref q_lossOf) (C := RX2) (T := TX2) (N := 11) hx hb hts hi_2 hown hK hP 0 rfl rfl 5 (by decide) hf_28 (fun _ h9 => h9) rfl dX2_keepJoined_83 ?_
        refine lv_iload_n hx hb dX2_keepJoined_86 rfl (lv_at hl 3 rfl) ?_
        refine lv_aload_n hx hb dX2_keepJoined_87 rfl (lv_at hl 2 rfl) ?_
        refine va_get (D := (dC, dI)) (ci := 2) (v := .ref q_joined) (C := RX2) (T := TX2) (N := 11) hx hb hts hi_2 hown hK hP 0 rfl rfl 1 (by decide) hf_12 (fun _ h9 => h9) rfl dX2_keepJoined_88 ?_
        refine va_get (D := (dC, dI)) (ci := 3) (v := .int jl) (C := RX3) (T := TX3) (N := 5) hx hb hts hi_3 hown hK hP 6 rfl rfl 3 (by decide) hf_91 (fun _ h9 => h9) rfl dX2_keepJoined_91 ?_
        refine va_iast hx hb hK hP hD hS 2 0 rfl rfl (ki_in (om_10 b0) (om_61 b1)) dX2_keepJoined_94 (fun H locs hP hD hS => ?_)
        obtain ⟨hP, hD⟩ := kx_re (w2 := [kx_2 q_t q_row q_joined q_from q_to q_size q_lossOf q_lessBy q_value q_number nodes here, kx_a q_size cyI 319 (upd fs p0.toNatClampNeg y_3), kx_a q_lossOf cyI 319 (upd fo p0.toNatClampNeg jl), kx_a q_lessBy cyI 319 fe, kx_a q_value cyI 1914 wv, kx_a q_number cyI 1914 wn, kx_3 q_joined j_v j_n js jl je, kx_a j_v cyI 12 jv, kx_a j_n cyI 12 jn]) hP hD rfl
        refine lv_aload_n hx hb dX2_keepJoined_95 rfl (lv_at hl 2 rfl) ?_
        refine va_get (D := (dC, dI)) (ci := 2) (v := .ref q_lessBy) (C := RX2) (T := TX2) (N := 11) hx hb hts hi_2 hown hK hP 0 rfl rfl 6 (by decide) hf_31 (fun _ h9 => h9) rfl dX2_keepJoined_96 ?_
        refine lv_iload_n hx hb dX2_keepJoined_99 rfl (lv_at hl 3 rfl) ?_
        refine lv_aload_n hx hb dX2_keepJoined_100 rfl (lv_at hl 2 rfl) ?_
        refine va_get (D := (dC, dI)) (ci := 2) (v := .ref q_joined) (C := RX2) (T := TX2) (N := 11) hx hb hts hi_2 hown hK hP 0 rfl rfl 1 (by decide) hf_12 (fun _ h9 => h9) rfl dX2_keepJoined_101 ?_
        refine va_get (D := (dC, dI)) (ci := 3) (v := .int je) (C := RX3) (T := TX3) (N := 5) hx hb hts hi_3 hown hK hP 6 rfl rfl 4 (by decide) hf_104 (fun _ h9 => h9) rfl dX2_keepJoined_104 ?_
        refine va_iast hx hb hK hP hD hS 3 0 rfl rfl (ki_in (om_10 b0) (om_61 b1)) dX2_keepJoined_107 (fun H locs hP hD hS => ?_)
        obtain ⟨hP, hD⟩ := kx_re (w2 := [kx_2 q_t q_row q_joined q_from q_to q_size q_lossOf q_lessBy q_value q_number nodes here, kx_a q_size cyI 319 (upd fs p0.toNatClampNeg y_3), kx_a q_lossOf cyI 319 (upd fo p0.toNatClampNeg jl), kx_a q_lessBy cyI 319 (upd fe p0.toNatClampNeg je), kx_a q_value cyI 1914 wv, kx_a q_number cyI 1914 wn, kx_3 q_joined j_v j_n js jl je, kx_a j_v cyI 12 jv, kx_a j_n cyI 12 jn]) hP hD rfl
        have hP9 := hP
        have hD9 := hD
        have hK9 := hK
        exact W.vret hx hb hr (hlocks := hlocks) (fun t ht hW => ⟨⟨((upd fs p0.toNatClampNeg y_3), (upd fo p0.toNatClampNeg jl), (upd fe p0.toNatClampNeg je), wv, wn), rfl, (sixes_upd s0 (by (try dsimp only); omega) (by (try dsimp only); omega)), by rw [ht]; exact hP9, va_K.moved hW.alike hK9, hD9⟩, hS.F ht⟩) hS.2.2 dX2_keepJoined_108
      · have i_2 : i.toInt < js.toInt := kc_nle c_2
        refine lv_iload_n hx hb dX2_keepJoined_18 rfl (lv_at hl 0 rfl) ?_
        refine lv_bipush (v := 6) hx hb dX2_keepJoined_19 (by decide) ?_
        refine lv_icmp_ge (tgt := 64) hx hb dX2_keepJoined_21 (by decide) (fun c_5 => ?_) (fun c_5 => ?_)
        · have i_5 : 6 ≤ i.toInt := kc_le c_5
          refine lv_aload_n hx hb dX2_keepJoined_64 rfl (lv_at hl 2 rfl) ?_
          refine va_get (D := (dC, dI)) (ci := 2) (v := .ref q_size) (C := RX2) (T := TX2) (N := 11) hx hb hts hi_2 hown hK hP 0 rfl rfl 4 (by decide) hf_25 (fun _ h9 => h9) rfl dX2_keepJoined_65 ?_
          refine lv_iload_n hx hb dX2_keepJoined_68 rfl (lv_at hl 3 rfl) ?_
          refine lv_aload_n hx hb dX2_keepJoined_69 rfl (lv_at hl 2 rfl) ?_
          refine va_get (D := (dC, dI)) (ci := 2) (v := .ref q_joined) (C := RX2) (T := TX2) (N := 11) hx hb hts hi_2 hown hK hP 0 rfl rfl 1 (by decide) hf_12 (fun _ h9 => h9) rfl dX2_keepJoined_70 ?_
          refine va_get (D := (dC, dI)) (ci := 3) (v := .int js) (C := RX3) (T := TX3) (N := 5) hx hb hts hi_3 hown hK hP 6 rfl rfl 2 (by decide) hf_94 (fun _ h9 => h9) rfl dX2_keepJoined_73 ?_
          refine lv_bipush (v := 6) hx hb dX2_keepJoined_76 (by decide) ?_
          refine va_mmin hx hb (hml.trans hl.1.symm) hown hm_98 hms_min hz_math hmc_min (Nat.le_of_ble_eq_true rfl) (Nat.le_of_ble_eq_true rfl) (Nat.le_of_ble_eq_true rfl) (Nat.le_of_ble_eq_true rfl) dX2_keepJoined_78 ?_
          refine lv_topi (fun y_6 ey_6 => ?_)
          have i_7 : (js.toInt ≤ 6 ∧ y_6.toInt = js.toInt) ∨ (6 < js.toInt ∧ y_6.toInt = 6) := ki_min ey_6 rfl rfl
          refine va_iast hx hb hK hP hD hS 1 0 rfl rfl (ki_in (om_10 b0) (om_61 b1)) dX2_keepJoined_81 (fun H locs hP hD hS => ?_)
          obtain ⟨hP, hD⟩ := kx_re (w2 := [kx_2 q_t q_row q_joined q_from q_to q_size q_lossOf q_lessBy q_value q_number nodes here, kx_a q_size cyI 319 (upd fs p0.toNatClampNeg y_6), kx_a q_lossOf cyI 319 fo, kx_a q_lessBy cyI 319 fe, kx_a q_value cyI 1914 wv, kx_a q_number cyI 1914 wn, kx_3 q_joined j_v j_n js jl je, kx_a j_v cyI 12 jv, kx_a j_n cyI 12 jn]) hP hD rfl
          refine lv_aload_n hx hb dX2_keepJoined_82 rfl (lv_at hl 2 rfl) ?_
          refine va_get (D := (dC, dI)) (ci := 2) (v := .ref q_lossOf) (C := RX2) (T := TX2) (N := 11) hx hb hts hi_2 hown hK hP 0 rfl rfl 5 (by decide) hf_28 (fun _ h9 => h9) rfl dX2_keepJoined_83 ?_
          refine lv_iload_n hx hb dX2_keepJoined_86 rfl (lv_at hl 3 rfl) ?_
          refine lv_aload_n hx hb dX2_keepJoined_87 rfl (lv_at hl 2 rfl) ?_
          refine va_get (D := (dC, dI)) (ci := 2) (v := .ref q_joined) (C := RX2) (T := TX2) (N := 11) hx hb hts hi_2 hown hK hP 0 rfl rfl 1 (by decide) hf_12 (fun _ h9 => h9) rfl dX2_keepJoined_88 ?_
          refine va_get (D := (dC, dI)) (ci := 3) (v := .int jl) (C := RX3) (T := TX3) (N := 5) hx hb hts hi_3 hown hK hP 6 rfl rfl 3 (by decide) hf_91 (fun _ h9 => h9) rfl dX2_keepJoined_91 ?_
          refine va_iast hx hb hK hP hD hS 2 0 rfl rfl (ki_in (om_10 b0) (om_61 b1)) dX2_keepJoined_94 (fun H locs hP hD hS => ?_)
          obtain ⟨hP, hD⟩ := kx_re (w2 := [kx_2 q_t q_row q_joined q_from q_to q_size q_lossOf q_lessBy q_value q_number nodes here, kx_a q_size cyI 319 (upd fs p0.toNatClampNeg y_6), kx_a q_lossOf cyI 319 (upd fo p0.toNatClampNeg jl), kx_a q_lessBy cyI 319 fe, kx_a q_value cyI 1914 wv, kx_a q_number cyI 1914 wn, kx_3 q_joined j_v j_n js jl je, kx_a j_v cyI 12 jv, kx_a j_n cyI 12 jn]) hP hD rfl
          refine lv_aload_n hx hb dX2_keepJoined_95 rfl (lv_at hl 2 rfl) ?_
          refine va_get (D := (dC, dI)) (ci := 2) (v := .ref q_lessBy) (C := RX2) (T := TX2) (N := 11) hx hb hts hi_2 hown hK hP 0 rfl rfl 6 (by decide) hf_31 (fun _ h9 => h9) rfl dX2_keepJoined_96 ?_
          refine lv_iload_n hx hb dX2_keepJoined_99 rfl (lv_at hl 3 rfl) ?_
          refine lv_aload_n hx hb dX2_keepJoined_100 rfl (lv_at hl 2 rfl) ?_
          refine va_get (D := (dC, dI)) (ci := 2) (v := .ref q_joined) (C := RX2) (T := TX2) (N := 11) hx hb hts hi_2 hown hK hP 0 rfl rfl 1 (by decide) hf_12 (fun _ h9 => h9) rfl dX2_keepJoined_101 ?_
          refine va_get (D := (dC, dI)) (ci := 3) (v := .int je) (C := RX3) (T := TX3) (N := 5) hx hb hts hi_3 hown hK hP 6 rfl rfl 4 (by decide) hf_104 (fun _ h9 => h9) rfl dX2_keepJoined_104 ?_
          refine va_iast hx hb hK hP hD hS 3 0 rfl rfl (ki_in (om_10 b0) (om_61 b1)) dX2_keepJoined_107 (fun H locs hP hD hS => ?_)
          obtain ⟨hP, hD⟩ := kx_re (w2 := [kx_2 q_t q_row q_joined q_from q_to q_size q_lossOf q_lessBy q_value q_number nodes here, kx_a q_size cyI 319 (upd fs p0.toNatClampNeg y_6), kx_a q_lossOf cyI 319 (upd fo p0.toNatClampNeg jl), kx_a q_lessBy cyI 319 (upd fe p0.toNatClampNeg je), kx_a q_value cyI 1914 wv, kx_a q_number cyI 1914 wn, kx_3 q_joined j_v j_n js jl je, kx_a j_v cyI 12 jv, kx_a j_n cyI 12 jn]) hP hD rfl
          have hP9 := hP
          have hD9 := hD
          have hK9 := hK
          exact W.vret hx hb hr (hlocks := hlocks) (fun t ht hW => ⟨⟨((upd fs p0.toNatClampNeg y_6), (upd fo p0.toNatClampNeg jl), (upd fe p0.toNatClampNeg je), wv, wn), rfl, (sixes_upd s0 (by (try dsimp only); omega) (by (try dsimp only); omega)), by rw [ht]; exact hP9, va_K.moved hW.alike hK9, hD9⟩, hS.F ht⟩) hS.2.2 dX2_keepJoined_108
        · have i_5 : i.toInt < 6 := kc_nle c_5
          refine lv_aload_n hx hb dX2_keepJoined_24 rfl (lv_at hl 2 rfl) ?_
          refine va_get (D := (dC, dI)) (ci := 2) (v := .ref q_value) (C := RX2) (T := TX2) (N := 11) hx hb hts hi_2 hown hK hP 0 rfl rfl 7 (by decide) hf_34 (fun _ h9 => h9) rfl dX2_keepJoined_25 ?_
          refine lv_iload_n hx hb dX2_keepJoined_28 rfl (lv_at hl 1 rfl) ?_
          refine lv_iload_n hx hb dX2_keepJoined_29 rfl (lv_at hl 0 rfl) ?_
          refine lv_iadd hx hb dX2_keepJoined_30 ?_
          refine lv_topi (fun y_8 ey_8 => ?_)
          have i_8 : y_8.toInt = y_1.toInt + i.toInt := ki_add ey_8 rfl rfl (om_97 b0 i_1 LP1_h0) (om_105 b1 i_1 i_5)
          refine lv_aload_n hx hb dX2_keepJoined_31 rfl (lv_at hl 2 rfl) ?_
          refine va_get (D := (dC, dI)) (ci := 2) (v := .ref q_joined) (C := RX2) (T := TX2) (N := 11) hx hb hts hi_2 hown hK hP 0 rfl rfl 1 (by decide) hf_12 (fun _ h9 => h9) rfl dX2_keepJoined_32 ?_
          refine va_get (D := (dC, dI)) (ci := 3) (v := .ref j_v) (C := RX3) (T := TX3) (N := 5) hx hb hts hi_3 hown hK hP 6 rfl rfl 0 (by decide) hf_96 (fun _ h9 => h9) rfl dX2_keepJoined_35 ?_
          refine lv_iload_n hx hb dX2_keepJoined_38 rfl (lv_at hl 0 rfl) ?_
          refine va_iald hx hb hK hP 7 0 rfl rfl (ki_in (om_10 LP1_h0) (om_107 i_5)) dX2_keepJoined_39 ?_
          refine lv_topi (fun y_9 ey_9 => ?_)
          have j_9 : y_9.toInt = (jv i.toNatClampNeg).toInt := congrArg Int32.toInt ey_9
          refine va_iast hx hb hK hP hD hS 4 0 rfl rfl (ki_in (om_99 b0 i_1 LP1_h0 i_8) (om_106 b1 i_1 i_5 i_8)) dX2_keepJoined_40 (fun H locs hP hD hS => ?_)
          obtain ⟨hP, hD⟩ := kx_re (w2 := [kx_2 q_t q_row q_joined q_from q_to q_size q_lossOf q_lessBy q_value q_number nodes here, kx_a q_size cyI 319 fs, kx_a q_lossOf cyI 319 fo, kx_a q_lessBy cyI 319 fe, kx_a q_value cyI 1914 (upd wv y_8.toNatClampNeg y_9), kx_a q_number cyI 1914 wn, kx_3 q_joined j_v j_n js jl je, kx_a j_v cyI 12 jv, kx_a j_n cyI 12 jn]) hP hD rfl
          refine lv_aload_n hx hb dX2_keepJoined_41 rfl (lv_at hl 2 rfl) ?_
          refine va_get (D := (dC, dI)) (ci := 2) (v := .ref q_number) (C := RX2) (T := TX2) (N := 11) hx hb hts hi_2 hown hK hP 0 rfl rfl 8 (by decide) hf_37 (fun _ h9 => h9) rfl dX2_keepJoined_42 ?_
          refine lv_iload_n hx hb dX2_keepJoined_45 rfl (lv_at hl 1 rfl) ?_
          refine lv_iload_n hx hb dX2_keepJoined_46 rfl (lv_at hl 0 rfl) ?_
          refine lv_iadd hx hb dX2_keepJoined_47 ?_
          refine lv_topi (fun y_10 ey_10 => ?_)
          have i_10 : y_10.toInt = y_1.toInt + i.toInt := ki_add ey_10 rfl rfl (om_97 b0 i_1 LP1_h0) (om_105 b1 i_1 i_5)
          refine lv_aload_n hx hb dX2_keepJoined_48 rfl (lv_at hl 2 rfl) ?_
          refine va_get (D := (dC, dI)) (ci := 2) (v := .ref q_joined) (C := RX2) (T := TX2) (N := 11) hx hb hts hi_2 hown hK hP 0 rfl rfl 1 (by decide) hf_12 (fun _ h9 => h9) rfl dX2_keepJoined_49 ?_
          refine va_get (D := (dC, dI)) (ci := 3) (v := .ref j_n) (C := RX3) (T := TX3) (N := 5) hx hb hts hi_3 hown hK hP 6 rfl rfl 1 (by decide) hf_97 (fun _ h9 => h9) rfl dX2_keepJoined_52 ?_
          refine lv_iload_n hx hb dX2_keepJoined_55 rfl (lv_at hl 0 rfl) ?_
          refine va_iald hx hb hK hP 8 0 rfl rfl (ki_in (om_10 LP1_h0) (om_107 i_5)) dX2_keepJoined_56 ?_
          refine lv_topi (fun y_11 ey_11 => ?_)
          have j_11 : y_11.toInt = (jn i.toNatClampNeg).toInt := congrArg Int32.toInt ey_11
          refine va_iast hx hb hK hP hD hS 5 0 rfl rfl (ki_in (om_99 b0 i_1 LP1_h0 i_10) (om_106 b1 i_1 i_5 i_10)) dX2_keepJoined_57 (fun H locs hP hD hS => ?_)
          obtain ⟨hP, hD⟩ := kx_re (w2 := [kx_2 q_t q_row q_joined q_from q_to q_size q_lossOf q_lessBy q_value q_number nodes here, kx_a q_size cyI 319 fs, kx_a q_lossOf cyI 319 fo, kx_a q_lessBy cyI 319 fe, kx_a q_value cyI 1914 (upd wv y_8.toNatClampNeg y_9), kx_a q_number cyI 1914 (upd wn y_10.toNatClampNeg y_11), kx_3 q_joined j_v j_n js jl je, kx_a j_v cyI 12 jv, kx_a j_n cyI 12 jn]) hP hD rfl
          obtain ⟨x_12, ex_12⟩ : ∃ y : Int32, y = i + 1 := ⟨_, rfl⟩
          have i_12 : x_12.toInt = i.toInt + 1 := ki_add ex_12 rfl rfl (om_13 LP1_h0) (om_108 i_5)
          refine lv_iinc (v := x_12) (lv' := [(3, .int x_12), (2, .int y_1), (0, .ref q_t), (1, .int p0)]) hx hb dX2_keepJoined_58 hl (k := 0) rfl (by rw [ex_12]; rfl) (by decide) rfl (fun ls hl => ?_)
          refine lv_goto (tgt := 7) hx hb dX2_keepJoined_61 (by decide) ?_
          exact ih1 x_12 (upd wv y_8.toNatClampNeg y_9) (upd wn y_10.toNatClampNeg y_11) (om_34 LP1_h0 i_12) (om_mu hn1 (om_102 i_12) (om_109 i_5)) _ _ hP hD hS ls (lv_sub hl [0, 1, 2, 3] rfl)
  have k_13 : (0 : Int32).toInt = 0 := rfl
  exact LP1 ((6 - 0 : Int).toNat + 1) 0 uv un om_35 (Nat.lt_succ_self _) _ _ hP hD hS ls (lv_sub hl [0, 1, 2, 3] rfl)

set_option maxHeartbeats 4000000 in
set_option maxRecDepth 100000 in
theorem c_X2_putTogether (l : Launch) (dC : Nat → ClassId) (dI : Nat → Nat → Nat) (q_t : Nat) (q_row : Nat) (q_joined : Nat) (q_from : Nat) (q_to : Nat) (q_size : Nat) (q_lossOf : Nat) (q_lessBy : Nat) (q_value : Nat) (q_number : Nat) (nodes : Int32) (here : Int32) (q_cell : Nat) (cyI : ClassId) (len : Int32) (f : Nat → Int32) (ff : Nat → Int32) (ft : Nat → Int32) (fs : Nat → Int32) (fo : Nat → Int32) (uv : Nat → Int32) (un : Nat → Int32) (j_v : Nat) (j_n : Nat) (js : Int32) (jl : Int32) (je : Int32) (jv : Nat → Int32) (jn : Nat → Int32) (p0 : Int32) (sz : Nat) (b0 : 0 ≤ p0.toInt) (b1 : p0.toInt < nodes.toInt) (c0 : nodes.toInt ≤ 319) (c1 : len.toInt ≤ 160) (s0 : sixes fs) (t0 : treeOk ff ft nodes.toInt len.toInt) : kx_MQ l (dC, dI) yX2_putTogether wsX2_putTogether ({ frames := 3, cells := 0, slots := 0, locals := 135 }) [.ref q_t, .int p0] [kx_2 q_t q_row q_joined q_from q_to q_size q_lossOf q_lessBy q_value q_number nodes here, kx_0 q_row q_cell len, kx_a q_cell cyI 160 f, kx_a q_from cyI 319 ff, kx_a q_to cyI 319 ft, kx_a q_size cyI 319 fs, kx_a q_lossOf cyI 319 fo, kx_a q_value cyI 1914 uv, kx_a q_number cyI 1914 un, kx_3 q_joined j_v j_n js jl je, kx_a j_v cyI 12 jv, kx_a j_n cyI 12 jn] [(cyI, .int)] sz (fun A => va_Qv (fun u : Int32 × Int32 × Int32 × (Nat → Int32) × (Nat → Int32) => 0 ≤ u.1.toInt ∧ u.1.toInt ≤ 12) (fun (u : Int32 × Int32 × Int32 × (Nat → Int32) × (Nat → Int32)) (t : State) => va_P (dC, dI) vwCl [kx_2 q_t q_row q_joined q_from q_to q_size q_lossOf q_lessBy q_value q_number nodes here, kx_0 q_row q_cell len, kx_a q_cell cyI 160 f, kx_a q_from cyI 319 ff, kx_a q_to cyI 319 ft, kx_a q_size cyI 319 fs, kx_a q_lossOf cyI 319 fo, kx_a q_value cyI 1914 uv, kx_a q_number cyI 1914 un, kx_3 q_joined j_v j_n u.1 u.2.1 u.2.2.1, kx_a j_v cyI 12 u.2.2.2.1, kx_a j_n cyI 12 u.2.2.2.2] t.heap ∧ va_K (dC, dI) vwCl [(cyI, .int)] t ∧ va_D A [kx_2 q_t q_row q_joined q_from q_to q_size q_lossOf q_lessBy q_value q_number nodes here, kx_0 q_row q_cell len, kx_a q_cell cyI 160 f, kx_a q_from cyI 319 ff, kx_a q_to cyI 319 ft, kx_a q_size cyI 319 fs, kx_a q_lossOf cyI 319 fo, kx_a q_value cyI 1914 uv, kx_a q_number cyI 1914 un, kx_3 q_joined j_v j_n u.1 u.2.1 u.2.2.1, kx_a j_v cyI 12 u.2.2.2.1, kx_a j_n cyI 12 u.2.2.2.2]) A) := by
  refine kx_stQ (ws := wsX2_putTogether) (cc := cX2_putTogether) (maxL := 2) (ret := none) (by decide) rfl (Nat.le_of_ble_eq_true rfl) ?_
  intro p e s m below meth c A ls hx hb hr hlocks hts hown hml hA hS hP hK hD hl
  have hown : s.vm.findClass RX2 = some m.cls := hown
  have hl : lv_has ls 2 [(0, .ref q_t), (1, .int p0)] := hl
  have hf_12 := hts (.fieldLink RX2 12 "MajorityIndex$Tree" "joined" "LMajorityIndex$Votes;") (List.mem_of_getElem? (i := 1) rfl)
  have hi_2 : ∀ w ∈ u_ws RX2 TX2 11, w ∈ wsX2_putTogether := fun w h => List.mem_cons_of_mem _ (List.mem_append_left _ (List.mem_append_left _ (List.mem_append_right _ h)))
  have hf_22 := hts (.fieldLink RX2 22 "MajorityIndex$Tree" "to" "[I") (List.mem_of_getElem? (i := 2) rfl)
  have hf_18 := hts (.fieldLink RX2 18 "MajorityIndex$Tree" "from" "[I") (List.mem_of_getElem? (i := 3) rfl)
  have hf_85 := hts (.fieldLink RX2 85 "MajorityIndex$Tree" "slotsHere" "I") (List.mem_of_getElem? (i := 6) rfl)
  have hf_40 := hts (.fieldLink RX2 40 "MajorityIndex$Tree" "row" "LMajorityIndex$Row;") (List.mem_of_getElem? (i := 4) rfl)
  have hf_74 := hts (.fieldLink RX2 74 "MajorityIndex$Row" "cell" "[I") (List.mem_of_getElem? (i := 5) rfl)
  have hi_0 : ∀ w ∈ u_ws RX0 TX0 2, w ∈ wsX2_putTogether := fun w h => List.mem_cons_of_mem _ (List.mem_append_left _ (List.mem_append_right _ h))
  refine lv_aload_n hx hb dX2_putTogether_0 rfl (lv_at hl 0 rfl) ?_
  refine va_get (D := (dC, dI)) (ci := 2) (v := .ref q_joined) (C := RX2) (T := TX2) (N := 11) hx hb hts hi_2 hown hK hP 0 rfl rfl 1 (by decide) hf_12 (fun _ h9 => h9) rfl dX2_putTogether_1 ?_
  obtain ⟨hPc, hDc, hFc, hCc⟩ := kx_preM (wc := [kx_3 q_joined j_v j_n js jl je]) hP hD hS hA [false, false, false, false, false, false, false, false, false, true, false, false] rfl
  have hKc := hK.sub (tys' := []) [] rfl
  refine va_callv (va_runV (As := []) (rest := []) ⟨hx, hb, hml, hown, hts⟩ (kx_un (c_X3_clear l dC dI q_joined j_v j_n js jl je s.heap.size)) (cwV 0 hts gX2_putTogether_X3_clear rfl rfl rfl (by decide +kernel) ⟨Nat.le_of_ble_eq_true rfl, Nat.le_of_ble_eq_true rfl⟩) ⟨fun a U g mk q => by obtain ⟨q0, q1, qP, qK, qD⟩ := q; exact ⟨q0, q1, qP, va_K.moved (u := U) (U := U.calling g mk a) (Vm.Alike.refl U.vm) qK, qD⟩, kx_rc3 hKc hPc (q0 := 0) rfl, fun U hU hW => ⟨rfl, by rw [hU], by rw [hU]; exact hPc, va_K.moved hW.alike hKc, hDc.weaken (fun _ _ _ _ => trivial)⟩⟩ rfl rfl hl.1 rfl (lv_room (Nat.le_of_ble_eq_true rfl)) dX2_putTogether_4 ⟨Nat.le_of_ble_eq_true rfl, Nat.le_of_ble_eq_true rfl⟩) hS (fun q _ h => hFc q h) hFc (fun u t H1 locs ht hvm w_1 hB hz1 hk1 hS => ?_)
  obtain ⟨hP1, hK1, hD1⟩ := hB
  rw [ht] at hP1
  have hK1 := va_K.moved hvm.symm hK1
  obtain ⟨hP, hD⟩ := kx_joinM (w2 := [kx_2 q_t q_row q_joined q_from q_to q_size q_lossOf q_lessBy q_value q_number nodes here, kx_0 q_row q_cell len, kx_a q_cell cyI 160 f, kx_a q_from cyI 319 ff, kx_a q_to cyI 319 ft, kx_a q_size cyI 319 fs, kx_a q_lossOf cyI 319 fo, kx_a q_value cyI 1914 uv, kx_a q_number cyI 1914 un, kx_3 q_joined j_v j_n 0 0 0, kx_a j_v cyI 12 jv, kx_a j_n cyI 12 jn]) hP hD hP1 hD1 hk1 hFc [false, false, false, false, false, false, false, false, false, true, false, false] hCc rfl
  clear hP1 hD1 hK1 hk1 hz1 hFc hDc hPc hKc hCc
  generalize H1 = H at hP hS ⊢
  have k_0 : (0 : Int32).toInt = 0 := rfl
  refine lv_aload_n hx hb dX2_putTogether_7 rfl (lv_at hl 0 rfl) ?_
  refine va_get (D := (dC, dI)) (ci := 2) (v := .ref q_to) (C := RX2) (T := TX2) (N := 11) hx hb hts hi_2 hown hK hP 0 rfl rfl 3 (by decide) hf_22 (fun _ h9 => h9) rfl dX2_putTogether_8 ?_
  refine lv_iload_n hx hb dX2_putTogether_11 rfl (lv_at hl 1 rfl) ?_
  refine va_iald hx hb hK hP 4 0 rfl rfl (ki_in (om_10 b0) (om_110 b1 c0)) dX2_putTogether_12 ?_
  refine lv_topi (fun y_2 ey_2 => ?_)
  have j_2 : y_2.toInt = (ft p0.toNatClampNeg).toInt := congrArg Int32.toInt ey_2
  have n_3 : (p0.toNatClampNeg : Int) = p0.toInt := ki_nat _ rfl (om_10 b0)
  have i_4 := t0 p0.toNatClampNeg (by omega)
  unfold okAt at i_4
  refine lv_aload_n hx hb dX2_putTogether_13 rfl (lv_at hl 0 rfl) ?_
  refine va_get (D := (dC, dI)) (ci := 2) (v := .ref q_from) (C := RX2) (T := TX2) (N := 11) hx hb hts hi_2 hown hK hP 0 rfl rfl 2 (by decide) hf_18 (fun _ h9 => h9) rfl dX2_putTogether_14 ?_
  refine lv_iload_n hx hb dX2_putTogether_17 rfl (lv_at hl 1 rfl) ?_
  refine va_iald hx hb hK hP 3 0 rfl rfl (ki_in (om_10 b0) (om_110 b1 c0)) dX2_putTogether_18 ?_
  refine lv_topi (fun y_5 ey_5 => ?_)
  have j_5 : y_5.toInt = (ff p0.toNatClampNeg).toInt := congrArg Int32.toInt ey_5
  have n_6 : (p0.toNatClampNeg : Int) = p0.toInt := ki_nat _ rfl (om_10 b0)
  have i_7 := t0 p0.toNatClampNeg (by omega)
  unfold okAt at i_7
  refine lv_isub hx hb dX2_putTogether_19 ?_
  refine lv_topi (fun y_8 ey_8 => ?_)
  have i_8 : y_8.toInt = y_2.toInt - y_5.toInt := ki_sub ey_8 rfl rfl (by omega) (by omega)
  refine lv_iconst (v := 1) hx hb dX2_putTogether_20 (by decide) ?_
  refine lv_icmp_ne (tgt := 49) hx hb dX2_putTogether_21 (by decide) (fun c_9 => ?_) (fun c_9 => ?_)
  · have i_9 : ¬ y_8.toInt = 1 := kc_ne c_9
    refine lv_aload_n hx hb dX2_putTogether_49 rfl (lv_at hl 0 rfl) ?_
    refine lv_aload_n hx hb dX2_putTogether_50 rfl (lv_at hl 0 rfl) ?_
    refine va_get (D := (dC, dI)) (ci := 2) (v := .ref q_joined) (C := RX2) (T := TX2) (N := 11) hx hb hts hi_2 hown hK hP 0 rfl rfl 1 (by decide) hf_12 (fun _ h9 => h9) rfl dX2_putTogether_51 ?_
    refine lv_iload_n hx hb dX2_putTogether_54 rfl (lv_at hl 1 rfl) ?_
    refine lv_iconst (v := 1) hx hb dX2_putTogether_55 (by decide) ?_
    refine lv_iadd hx hb dX2_putTogether_56 ?_
    refine lv_topi (fun y_10 ey_10 => ?_)
    have i_10 : y_10.toInt = p0.toInt + 1 := ki_add ey_10 rfl rfl (om_13 b0) (om_111 b1 c0)
    obtain ⟨hPc, hDc, hFc, hCc⟩ := kx_preM (wc := [kx_2 q_t q_row q_joined q_from q_to q_size q_lossOf q_lessBy q_value q_number nodes here, kx_a q_size cyI 319 fs, kx_a q_lossOf cyI 319 fo, kx_a q_value cyI 1914 uv, kx_a q_number cyI 1914 un, kx_3 q_joined j_v j_n 0 0 0, kx_a j_v cyI 12 jv, kx_a j_n cyI 12 jn]) hP hD hS hA [true, false, false, false, false, true, true, true, true, true, true, true] rfl
    have hKc := hK
    refine va_callv (va_runV (As := [.ref q_joined, .int y_10]) (rest := []) ⟨hx, hb, hml, hown, hts⟩ (kx_un (c_X2_joinNode l dC dI q_t q_row q_joined q_from q_to q_size q_lossOf q_lessBy q_value q_number nodes here q_joined j_v j_n cyI 0 0 0 jv jn fs fo uv un y_10 H.size om_35 om_104 (om_34 b0 i_10) (by omega) s0)) (cwV 2 hts gX2_putTogether_X2_joinNode rfl rfl rfl (by decide +kernel) ⟨Nat.le_of_ble_eq_true rfl, Nat.le_of_ble_eq_true rfl⟩) ⟨fun a U g mk q => by obtain ⟨q0, q1, qP, qK, qD⟩ := q; exact ⟨q0, q1, qP, va_K.moved (u := U) (U := U.calling g mk a) (Vm.Alike.refl U.vm) qK, qD⟩, kx_rc2 hKc hPc (q0 := 0) rfl, fun U hU hW => ⟨rfl, by rw [hU], by rw [hU]; exact hPc, va_K.moved hW.alike hKc, hDc.weaken (fun _ _ _ _ => trivial)⟩⟩ rfl rfl hl.1 rfl (lv_room (Nat.le_of_ble_eq_true rfl)) dX2_putTogether_57 ⟨Nat.le_of_ble_eq_true rfl, Nat.le_of_ble_eq_true rfl⟩) hS (fun q _ h => hFc q h) hFc (fun u t H1 locs ht hvm w_11 hB hz1 hk1 hS => ?_)
    obtain ⟨o_12, o_13, o_14, o_15⟩ := u
    dsimp only at w_11 hB
    obtain ⟨hP1, hK1, hD1⟩ := hB
    rw [ht] at hP1
    have hK1 := va_K.moved hvm.symm hK1
    obtain ⟨hP, hD⟩ := kx_joinM (w2 := [kx_2 q_t q_row q_joined q_from q_to q_size q_lossOf q_lessBy q_value q_number nodes here, kx_0 q_row q_cell len, kx_a q_cell cyI 160 f, kx_a q_from cyI 319 ff, kx_a q_to cyI 319 ft, kx_a q_size cyI 319 fs, kx_a q_lossOf cyI 319 fo, kx_a q_value cyI 1914 uv, kx_a q_number cyI 1914 un, kx_3 q_joined j_v j_n o_12 o_13 0, kx_a j_v cyI 12 o_14, kx_a j_n cyI 12 o_15]) hP hD hP1 hD1 hk1 hFc [true, false, false, false, false, true, true, true, true, true, true, true] hCc rfl
    clear hP1 hD1 hK1 hk1 hz1 hFc hDc hPc hKc hCc
    generalize H1 = H at hP hS ⊢
    have w_11 : 0 ≤ o_12.toInt ∧ o_12.toInt ≤ 12 := w_11
    refine lv_aload_n hx hb dX2_putTogether_60 rfl (lv_at hl 0 rfl) ?_
    refine lv_aload_n hx hb dX2_putTogether_61 rfl (lv_at hl 0 rfl) ?_
    refine va_get (D := (dC, dI)) (ci := 2) (v := .ref q_joined) (C := RX2) (T := TX2) (N := 11) hx hb hts hi_2 hown hK hP 0 rfl rfl 1 (by decide) hf_12 (fun _ h9 => h9) rfl dX2_putTogether_62 ?_
    refine lv_aload_n hx hb dX2_putTogether_65 rfl (lv_at hl 0 rfl) ?_
    refine lv_iload_n hx hb dX2_putTogether_66 rfl (lv_at hl 1 rfl) ?_
    have hPc := hP.sub (ws' := [kx_2 q_t q_row q_joined q_from q_to q_size q_lossOf q_lessBy q_value q_number nodes here, kx_a q_from cyI 319 ff, kx_a q_to cyI 319 ft]) [0, 3, 4] rfl
    have hKc := hK
    refine vp_callSi (W.runV (As := [.int p0]) (rest := [.ref q_joined, .ref q_t]) ⟨hx, hb, hml, hown, hts⟩ (c_X2_rightBelow l dC dI q_t q_row q_joined q_from q_to q_size q_lossOf q_lessBy q_value q_number nodes here cyI ff ft p0 b0 (om_112 b1 c0) (by omega) (by omega) (by omega)) (cwV 1 hts gX2_putTogether_X2_rightBelow rfl rfl rfl (by decide +kernel) ⟨Nat.le_of_ble_eq_true rfl, Nat.le_of_ble_eq_true rfl⟩) ⟨fun a U g mk q => by obtain ⟨q0, qP, qK⟩ := q; exact ⟨q0, qP, va_K.moved (u := U) (U := U.calling g mk a) (Vm.Alike.refl U.vm) qK⟩, kx_rc2 hKc hPc (q0 := 0) rfl, fun U hU hW => ⟨rfl, by rw [hU]; exact hPc, va_K.moved hW.alike hKc⟩⟩ rfl rfl hl.1 rfl (lv_room (Nat.le_of_ble_eq_true rfl)) dX2_putTogether_67 ⟨Nat.le_of_ble_eq_true rfl, Nat.le_of_ble_eq_true rfl⟩) (fun r_16 w_16 => ?_)
    have w_16 : r_16.toInt = p0.toInt + 2 * (((ff p0.toNatClampNeg).toInt + (ft p0.toNatClampNeg).toInt) / 2 - (ff p0.toNatClampNeg).toInt) := w_16
    obtain ⟨hPc, hDc, hFc, hCc⟩ := kx_preM (wc := [kx_2 q_t q_row q_joined q_from q_to q_size q_lossOf q_lessBy q_value q_number nodes here, kx_a q_size cyI 319 fs, kx_a q_lossOf cyI 319 fo, kx_a q_value cyI 1914 uv, kx_a q_number cyI 1914 un, kx_3 q_joined j_v j_n o_12 o_13 0, kx_a j_v cyI 12 o_14, kx_a j_n cyI 12 o_15]) hP hD hS hA [true, false, false, false, false, true, true, true, true, true, true, true] rfl
    have hKc := hK
    refine va_callv (va_runV (As := [.ref q_joined, .int r_16]) (rest := []) ⟨hx, hb, hml, hown, hts⟩ (kx_un (c_X2_joinNode l dC dI q_t q_row q_joined q_from q_to q_size q_lossOf q_lessBy q_value q_number nodes here q_joined j_v j_n cyI o_12 o_13 0 o_14 o_15 fs fo uv un r_16 H.size w_11.1 w_11.2 (by omega) (by omega) s0)) (cwV 2 hts gX2_putTogether_X2_joinNode rfl rfl rfl (by decide +kernel) ⟨Nat.le_of_ble_eq_true rfl, Nat.le_of_ble_eq_true rfl⟩) ⟨fun a U g mk q => by obtain ⟨q0, q1, qP, qK, qD⟩ := q; exact ⟨q0, q1, qP, va_K.moved (u := U) (U := U.calling g mk a) (Vm.Alike.refl U.vm) qK, qD⟩, kx_rc2 hKc hPc (q0 := 0) rfl, fun U hU hW => ⟨rfl, by rw [hU], by rw [hU]; exact hPc, va_K.moved hW.alike hKc, hDc.weaken (fun _ _ _ _ => trivial)⟩⟩ rfl rfl hl.1 rfl (lv_room (Nat.le_of_ble_eq_true rfl)) dX2_putTogether_70 ⟨Nat.le_of_ble_eq_true rfl, Nat.le_of_ble_eq_true rfl⟩) hS (fun q _ h => hFc q h) hFc (fun u t H1 locs ht hvm w_17 hB hz1 hk1 hS => ?_)
    obtain ⟨o_18, o_19, o_20, o_21⟩ := u
    dsimp only at w_17 hB
    obtain ⟨hP1, hK1, hD1⟩ := hB
    rw [ht] at hP1
    have hK1 := va_K.moved hvm.symm hK1
    obtain ⟨hP, hD⟩ := kx_joinM (w2 := [kx_2 q_t q_row q_joined q_from q_to q_size q_lossOf q_lessBy q_value q_number nodes here, kx_0 q_row q_cell len, kx_a q_cell cyI 160 f, kx_a q_from cyI 319 ff, kx_a q_to cyI 319 ft, kx_a q_size cyI 319 fs, kx_a q_lossOf cyI 319 fo, kx_a q_value cyI 1914 uv, kx_a q_number cyI 1914 un, kx_3 q_joined j_v j_n o_18 o_19 0, kx_a j_v cyI 12 o_20, kx_a j_n cyI 12 o_21]) hP hD hP1 hD1 hk1 hFc [true, false, false, false, false, true, true, true, true, true, true, true] hCc rfl
    clear hP1 hD1 hK1 hk1 hz1 hFc hDc hPc hKc hCc
    generalize H1 = H at hP hS ⊢
    have w_17 : 0 ≤ o_18.toInt ∧ o_18.toInt ≤ 12 := w_17
    refine lv_aload_n hx hb dX2_putTogether_73 rfl (lv_at hl 0 rfl) ?_
    refine va_get (D := (dC, dI)) (ci := 2) (v := .ref q_joined) (C := RX2) (T := TX2) (N := 11) hx hb hts hi_2 hown hK hP 0 rfl rfl 1 (by decide) hf_12 (fun _ h9 => h9) rfl dX2_putTogether_74 ?_
    refine lv_aload_n hx hb dX2_putTogether_77 rfl (lv_at hl 0 rfl) ?_
    refine va_get (D := (dC, dI)) (ci := 2) (v := .int here) (C := RX2) (T := TX2) (N := 11) hx hb hts hi_2 hown hK hP 0 rfl rfl 10 (by decide) hf_85 (fun _ h9 => h9) rfl dX2_putTogether_78 ?_
    obtain ⟨hPc, hDc, hFc, hCc⟩ := kx_preM (wc := [kx_3 q_joined j_v j_n o_18 o_19 0, kx_a j_v cyI 12 o_20, kx_a j_n cyI 12 o_21]) hP hD hS hA [false, false, false, false, false, false, false, false, false, true, true, true] rfl
    have hKc := hK
    refine va_callv (va_runV (As := [.int here]) (rest := []) ⟨hx, hb, hml, hown, hts⟩ (kx_un (c_X3_cancel l dC dI q_joined j_v j_n cyI o_18 o_19 0 o_20 o_21 here H.size w_17.1 w_17.2)) (cwV 1 hts gX2_putTogether_X3_cancel rfl rfl rfl (by decide +kernel) ⟨Nat.le_of_ble_eq_true rfl, Nat.le_of_ble_eq_true rfl⟩) ⟨fun a U g mk q => by obtain ⟨q0, q1, qP, qK, qD⟩ := q; exact ⟨q0, q1, qP, va_K.moved (u := U) (U := U.calling g mk a) (Vm.Alike.refl U.vm) qK, qD⟩, kx_rc3 hKc hPc (q0 := 0) rfl, fun U hU hW => ⟨rfl, by rw [hU], by rw [hU]; exact hPc, va_K.moved hW.alike hKc, hDc.weaken (fun _ _ _ _ => trivial)⟩⟩ rfl rfl hl.1 rfl (lv_room (Nat.le_of_ble_eq_true rfl)) dX2_putTogether_81 ⟨Nat.le_of_ble_eq_true rfl, Nat.le_of_ble_eq_true rfl⟩) hS (fun q _ h => hFc q h) hFc (fun u t H1 locs ht hvm w_22 hB hz1 hk1 hS => ?_)
    obtain ⟨o_23, o_24, o_25, o_26, o_27⟩ := u
    dsimp only at w_22 hB
    obtain ⟨hP1, hK1, hD1⟩ := hB
    rw [ht] at hP1
    have hK1 := va_K.moved hvm.symm hK1
    obtain ⟨hP, hD⟩ := kx_joinM (w2 := [kx_2 q_t q_row q_joined q_from q_to q_size q_lossOf q_lessBy q_value q_number nodes here, kx_0 q_row q_cell len, kx_a q_cell cyI 160 f, kx_a q_from cyI 319 ff, kx_a q_to cyI 319 ft, kx_a q_size cyI 319 fs, kx_a q_lossOf cyI 319 fo, kx_a q_value cyI 1914 uv, kx_a q_number cyI 1914 un, kx_3 q_joined j_v j_n o_23 o_24 o_25, kx_a j_v cyI 12 o_26, kx_a j_n cyI 12 o_27]) hP hD hP1 hD1 hk1 hFc [false, false, false, false, false, false, false, false, false, true, true, true] hCc rfl
    clear hP1 hD1 hK1 hk1 hz1 hFc hDc hPc hKc hCc
    generalize H1 = H at hP hS ⊢
    have w_22 : 0 ≤ o_23.toInt ∧ o_23.toInt ≤ o_18.toInt := w_22
    have hP9 := hP
    have hD9 := hD
    have hK9 := hK
    exact W.vret hx hb hr (hlocks := hlocks) (fun t ht hW => ⟨⟨(o_23, o_24, o_25, o_26, o_27), rfl, (by (try dsimp only); omega), by rw [ht]; exact hP9, va_K.moved hW.alike hK9, hD9⟩, hS.F ht⟩) hS.2.2 dX2_putTogether_84
  · have i_9 : y_8.toInt = 1 := kc_eq c_9
    refine lv_aload_n hx hb dX2_putTogether_24 rfl (lv_at hl 0 rfl) ?_
    refine va_get (D := (dC, dI)) (ci := 2) (v := .ref q_joined) (C := RX2) (T := TX2) (N := 11) hx hb hts hi_2 hown hK hP 0 rfl rfl 1 (by decide) hf_12 (fun _ h9 => h9) rfl dX2_putTogether_25 ?_
    refine lv_aload_n hx hb dX2_putTogether_28 rfl (lv_at hl 0 rfl) ?_
    refine va_get (D := (dC, dI)) (ci := 2) (v := .ref q_row) (C := RX2) (T := TX2) (N := 11) hx hb hts hi_2 hown hK hP 0 rfl rfl 0 (by decide) hf_40 (fun _ h9 => h9) rfl dX2_putTogether_29 ?_
    refine va_get (D := (dC, dI)) (ci := 0) (v := .ref q_cell) (C := RX0) (T := TX0) (N := 2) hx hb hts hi_0 hown hK hP 1 rfl rfl 0 (by decide) hf_74 (fun _ h9 => h9) rfl dX2_putTogether_32 ?_
    refine lv_aload_n hx hb dX2_putTogether_35 rfl (lv_at hl 0 rfl) ?_
    refine va_get (D := (dC, dI)) (ci := 2) (v := .ref q_from) (C := RX2) (T := TX2) (N := 11) hx hb hts hi_2 hown hK hP 0 rfl rfl 2 (by decide) hf_18 (fun _ h9 => h9) rfl dX2_putTogether_36 ?_
    refine lv_iload_n hx hb dX2_putTogether_39 rfl (lv_at hl 1 rfl) ?_
    refine va_iald hx hb hK hP 3 0 rfl rfl (ki_in (om_10 b0) (om_110 b1 c0)) dX2_putTogether_40 ?_
    refine lv_topi (fun y_28 ey_28 => ?_)
    have j_28 : y_28.toInt = (ff p0.toNatClampNeg).toInt := congrArg Int32.toInt ey_28
    have n_29 : (p0.toNatClampNeg : Int) = p0.toInt := ki_nat _ rfl (om_10 b0)
    have i_30 := t0 p0.toNatClampNeg (by omega)
    unfold okAt at i_30
    refine va_iald hx hb hK hP 2 0 rfl rfl (ki_in (by omega) (by omega)) dX2_putTogether_41 ?_
    refine lv_topi (fun y_31 ey_31 => ?_)
    have j_31 : y_31.toInt = (f y_28.toNatClampNeg).toInt := congrArg Int32.toInt ey_31
    refine lv_iconst (v := 1) hx hb dX2_putTogether_42 (by decide) ?_
    obtain ⟨hPc, hDc, hFc, hCc⟩ := kx_preM (wc := [kx_3 q_joined j_v j_n 0 0 0, kx_a j_v cyI 12 jv, kx_a j_n cyI 12 jn]) hP hD hS hA [false, false, false, false, false, false, false, false, false, true, true, true] rfl
    have hKc := hK
    have k_32 : (1 : Int32).toInt = 1 := rfl
    refine va_callv (va_runV (As := [.int y_31, .int 1]) (rest := []) ⟨hx, hb, hml, hown, hts⟩ (kx_un (c_X3_add l dC dI q_joined j_v j_n cyI 0 0 0 jv jn y_31 1 H.size om_35 om_104)) (cwV 2 hts gX2_putTogether_X3_add rfl rfl rfl (by decide +kernel) ⟨Nat.le_of_ble_eq_true rfl, Nat.le_of_ble_eq_true rfl⟩) ⟨fun a U g mk q => by obtain ⟨q0, q1, qP, qK, qD⟩ := q; exact ⟨q0, q1, qP, va_K.moved (u := U) (U := U.calling g mk a) (Vm.Alike.refl U.vm) qK, qD⟩, kx_rc3 hKc hPc (q0 := 0) rfl, fun U hU hW => ⟨rfl, by rw [hU], by rw [hU]; exact hPc, va_K.moved hW.alike hKc, hDc.weaken (fun _ _ _ _ => trivial)⟩⟩ rfl rfl hl.1 rfl (lv_room (Nat.le_of_ble_eq_true rfl)) dX2_putTogether_43 ⟨Nat.le_of_ble_eq_true rfl, Nat.le_of_ble_eq_true rfl⟩) hS (fun q _ h => hFc q h) hFc (fun u t H1 locs ht hvm w_33 hB hz1 hk1 hS => ?_)
    obtain ⟨o_34, o_35, o_36⟩ := u
    dsimp only at w_33 hB
    obtain ⟨hP1, hK1, hD1⟩ := hB
    rw [ht] at hP1
    have hK1 := va_K.moved hvm.symm hK1
    obtain ⟨hP, hD⟩ := kx_joinM (w2 := [kx_2 q_t q_row q_joined q_from q_to q_size q_lossOf q_lessBy q_value q_number nodes here, kx_0 q_row q_cell len, kx_a q_cell cyI 160 f, kx_a q_from cyI 319 ff, kx_a q_to cyI 319 ft, kx_a q_size cyI 319 fs, kx_a q_lossOf cyI 319 fo, kx_a q_value cyI 1914 uv, kx_a q_number cyI 1914 un, kx_3 q_joined j_v j_n o_34 0 0, kx_a j_v cyI 12 o_35, kx_a j_n cyI 12 o_36]) hP hD hP1 hD1 hk1 hFc [false, false, false, false, false, false, false, false, false, true, true, true] hCc rfl
    clear hP1 hD1 hK1 hk1 hz1 hFc hDc hPc hKc hCc
    generalize H1 = H at hP hS ⊢
    have w_33 : 0 ≤ o_34.toInt ∧ o_34.toInt ≤ 0 + 1 ∧ o_34.toInt ≤ 12 := w_33
    refine lv_goto (tgt := 84) hx hb dX2_putTogether_46 (by decide) ?_
    have hP9 := hP
    have hD9 := hD
    have hK9 := hK
    exact W.vret hx hb hr (hlocks := hlocks) (fun t ht hW => ⟨⟨(o_34, 0, 0, o_35, o_36), rfl, (by (try dsimp only); omega), by rw [ht]; exact hP9, va_K.moved hW.alike hK9, hD9⟩, hS.F ht⟩) hS.2.2 dX2_putTogether_84

set_option maxHeartbeats 4000000 in
set_option maxRecDepth 100000 in
theorem c_X2_renew (l : Launch) (dC : Nat → ClassId) (dI : Nat → Nat → Nat) (q_t : Nat) (q_row : Nat) (q_joined : Nat) (q_from : Nat) (q_to : Nat) (q_size : Nat) (q_lossOf : Nat) (q_lessBy : Nat) (q_value : Nat) (q_number : Nat) (nodes : Int32) (here : Int32) (q_cell : Nat) (cyI : ClassId) (len : Int32) (f : Nat → Int32) (ff : Nat → Int32) (ft : Nat → Int32) (fs : Nat → Int32) (fo : Nat → Int32) (uv : Nat → Int32) (un : Nat → Int32) (fe : Nat → Int32) (j_v : Nat) (j_n : Nat) (js : Int32) (jl : Int32) (je : Int32) (jv : Nat → Int32) (jn : Nat → Int32) (p0 : Int32) (p1 : Int32) (sz : Nat) (b0 : 0 ≤ nodes.toInt) (c0 : nodes.toInt ≤ 319) (c1 : len.toInt ≤ 160) (s0 : sixes fs) (t0 : treeOk ff ft nodes.toInt len.toInt) : kx_MQ l (dC, dI) yX2_renew wsX2_renew ({ frames := 4, cells := 0, slots := 0, locals := 180 }) [.ref q_t, .int p0, .int p1] [kx_2 q_t q_row q_joined q_from q_to q_size q_lossOf q_lessBy q_value q_number nodes here, kx_0 q_row q_cell len, kx_a q_cell cyI 160 f, kx_a q_from cyI 319 ff, kx_a q_to cyI 319 ft, kx_a q_size cyI 319 fs, kx_a q_lossOf cyI 319 fo, kx_a q_lessBy cyI 319 fe, kx_a q_value cyI 1914 uv, kx_a q_number cyI 1914 un, kx_3 q_joined j_v j_n js jl je, kx_a j_v cyI 12 jv, kx_a j_n cyI 12 jn] [(cyI, .int)] sz (fun A => va_Qi (fun (r : Int32) (u : (Nat → Int32) × (Nat → Int32) × (Nat → Int32) × (Nat → Int32) × (Nat → Int32) × Int32 × Int32 × Int32 × (Nat → Int32) × (Nat → Int32)) => sixes u.1) (fun (u : (Nat → Int32) × (Nat → Int32) × (Nat → Int32) × (Nat → Int32) × (Nat → Int32) × Int32 × Int32 × Int32 × (Nat → Int32) × (Nat → Int32)) (t : State) => va_P (dC, dI) vwCl [kx_2 q_t q_row q_joined q_from q_to q_size q_lossOf q_lessBy q_value q_number nodes here, kx_0 q_row q_cell len, kx_a q_cell cyI 160 f, kx_a q_from cyI 319 ff, kx_a q_to cyI 319 ft, kx_a q_size cyI 319 u.1, kx_a q_lossOf cyI 319 u.2.1, kx_a q_lessBy cyI 319 u.2.2.1, kx_a q_value cyI 1914 u.2.2.2.1, kx_a q_number cyI 1914 u.2.2.2.2.1, kx_3 q_joined j_v j_n u.2.2.2.2.2.1 u.2.2.2.2.2.2.1 u.2.2.2.2.2.2.2.1, kx_a j_v cyI 12 u.2.2.2.2.2.2.2.2.1, kx_a j_n cyI 12 u.2.2.2.2.2.2.2.2.2] t.heap ∧ va_K (dC, dI) vwCl [(cyI, .int)] t ∧ va_D A [kx_2 q_t q_row q_joined q_from q_to q_size q_lossOf q_lessBy q_value q_number nodes here, kx_0 q_row q_cell len, kx_a q_cell cyI 160 f, kx_a q_from cyI 319 ff, kx_a q_to cyI 319 ft, kx_a q_size cyI 319 u.1, kx_a q_lossOf cyI 319 u.2.1, kx_a q_lessBy cyI 319 u.2.2.1, kx_a q_value cyI 1914 u.2.2.2.1, kx_a q_number cyI 1914 u.2.2.2.2.1, kx_3 q_joined j_v j_n u.2.2.2.2.2.1 u.2.2.2.2.2.2.1 u.2.2.2.2.2.2.2.1, kx_a j_v cyI 12 u.2.2.2.2.2.2.2.2.1, kx_a j_n cyI 12 u.2.2.2.2.2.2.2.2.2]) A) := by
  refine kx_stQ (ws := wsX2_renew) (cc := cX2_renew) (maxL := 5) (ret := (some .int)) (by decide) rfl (Nat.le_of_ble_eq_true rfl) ?_
  intro p e s m below meth c A ls hx hb hr hlocks hts hown hml hA hS hP hK hD hl
  have hown : s.vm.findClass RX2 = some m.cls := hown
  have hl : lv_has ls 5 [(0, .ref q_t), (1, .int p0), (2, .int p1)] := hl
  have hf_50 := hts (.fieldLink RX2 50 "MajorityIndex$Tree" "nodes" "I") (List.mem_of_getElem? (i := 1) rfl)
  have hi_2 : ∀ w ∈ u_ws RX2 TX2 11, w ∈ wsX2_renew := fun w h => List.mem_cons_of_mem _ (List.mem_append_left _ (List.mem_append_left _ (List.mem_append_right _ h)))
  have hf_18 := hts (.fieldLink RX2 18 "MajorityIndex$Tree" "from" "[I") (List.mem_of_getElem? (i := 2) rfl)
  have hf_22 := hts (.fieldLink RX2 22 "MajorityIndex$Tree" "to" "[I") (List.mem_of_getElem? (i := 3) rfl)
  refine lv_iconst (v := 0) hx hb dX2_renew_0 (by decide) ?_
  refine lv_istore_n (lv' := [(3, .int 0), (0, .ref q_t), (1, .int p0), (2, .int p1)]) hx hb dX2_renew_1 rfl hl (by decide) rfl (fun ls hl => ?_)
  refine lv_aload_n hx hb dX2_renew_2 rfl (lv_at hl 1 rfl) ?_
  refine va_get (D := (dC, dI)) (ci := 2) (v := .int nodes) (C := RX2) (T := TX2) (N := 11) hx hb hts hi_2 hown hK hP 0 rfl rfl 9 (by decide) hf_50 (fun _ h9 => h9) rfl dX2_renew_3 ?_
  refine lv_iconst (v := 1) hx hb dX2_renew_6 (by decide) ?_
  refine lv_isub hx hb dX2_renew_7 ?_
  refine lv_topi (fun y_1 ey_1 => ?_)
  have i_1 : y_1.toInt = nodes.toInt - 1 := ki_sub ey_1 rfl rfl (om_113 b0) (om_114 c0)
  refine lv_istore (lv' := [(4, .int y_1), (3, .int 0), (0, .ref q_t), (1, .int p0), (2, .int p1)]) hx hb dX2_renew_8 hl (by decide) rfl (fun ls hl => ?_)
  have LP1 : ∀ (n : Nat) (oth : Int32) (i : Int32) (ks : Nat → Int32) (ko : Nat → Int32) (ke : Nat → Int32) (kv : Nat → Int32) (kn : Nat → Int32) (kj : Int32) (kl : Int32) (kb : Int32) (kjv : Nat → Int32) (kjn : Nat → Int32), (i.toInt < nodes.toInt) → (-1 ≤ i.toInt) → (sixes ks) → (i.toInt + 1).toNat < n → ∀ (H : Heap) (locs : List Loc), va_P (dC, dI) vwCl [kx_2 q_t q_row q_joined q_from q_to q_size q_lossOf q_lessBy q_value q_number nodes here, kx_0 q_row q_cell len, kx_a q_cell cyI 160 f, kx_a q_from cyI 319 ff, kx_a q_to cyI 319 ft, kx_a q_size cyI 319 ks, kx_a q_lossOf cyI 319 ko, kx_a q_lessBy cyI 319 ke, kx_a q_value cyI 1914 kv, kx_a q_number cyI 1914 kn, kx_3 q_joined j_v j_n kj kl kb, kx_a j_v cyI 12 kjv, kx_a j_n cyI 12 kjn] H → va_D A [kx_2 q_t q_row q_joined q_from q_to q_size q_lossOf q_lessBy q_value q_number nodes here, kx_0 q_row q_cell len, kx_a q_cell cyI 160 f, kx_a q_from cyI 319 ff, kx_a q_to cyI 319 ft, kx_a q_size cyI 319 ks, kx_a q_lossOf cyI 319 ko, kx_a q_lessBy cyI 319 ke, kx_a q_value cyI 1914 kv, kx_a q_number cyI 1914 kn, kx_3 q_joined j_v j_n kj kl kb, kx_a j_v cyI 12 kjv, kx_a j_n cyI 12 kjn] → va_S A s.heap H locs → ∀ (ls : Array Slot), lv_has ls 5 [(4, .int i), (3, .int oth), (0, .ref q_t), (1, .int p0), (2, .int p1)] → W p l e (headSpec wsX2_renew ({ frames := 4, cells := 0, slots := 0, locals := 180 })).room s m ([.ref q_t, .int p0, .int p1] : List Value).toArray below meth c H locs 0 0 (MQ below (va_Qi (fun (r : Int32) (u : (Nat → Int32) × (Nat → Int32) × (Nat → Int32) × (Nat → Int32) × (Nat → Int32) × Int32 × Int32 × Int32 × (Nat → Int32) × (Nat → Int32)) => sixes u.1) (fun (u : (Nat → Int32) × (Nat → Int32) × (Nat → Int32) × (Nat → Int32) × (Nat → Int32) × Int32 × Int32 × Int32 × (Nat → Int32) × (Nat → Int32)) (t : State) => va_P (dC, dI) vwCl [kx_2 q_t q_row q_joined q_from q_to q_size q_lossOf q_lessBy q_value q_number nodes here, kx_0 q_row q_cell len, kx_a q_cell cyI 160 f, kx_a q_from cyI 319 ff, kx_a q_to cyI 319 ft, kx_a q_size cyI 319 u.1, kx_a q_lossOf cyI 319 u.2.1, kx_a q_lessBy cyI 319 u.2.2.1, kx_a q_value cyI 1914 u.2.2.2.1, kx_a q_number cyI 1914 u.2.2.2.2.1, kx_3 q_joined j_v j_n u.2.2.2.2.2.1 u.2.2.2.2.2.2.1 u.2.2.2.2.2.2.2.1, kx_a j_v cyI 12 u.2.2.2.2.2.2.2.2.1, kx_a j_n cyI 12 u.2.2.2.2.2.2.2.2.2] t.heap ∧ va_K (dC, dI) vwCl [(cyI, .int)] t ∧ va_D A [kx_2 q_t q_row q_joined q_from q_to q_size q_lossOf q_lessBy q_value q_number nodes here, kx_0 q_row q_cell len, kx_a q_cell cyI 160 f, kx_a q_from cyI 319 ff, kx_a q_to cyI 319 ft, kx_a q_size cyI 319 u.1, kx_a q_lossOf cyI 319 u.2.1, kx_a q_lessBy cyI 319 u.2.2.1, kx_a q_value cyI 1914 u.2.2.2.1, kx_a q_number cyI 1914 u.2.2.2.2.1, kx_3 q_joined j_v j_n u.2.2.2.2.2.1 u.2.2.2.2.2.2.1 u.2.2.2.2.2.2.2.1, kx_a j_v cyI 12 u.2.2.2.2.2.2.2.2.1, kx_a j_n cyI 12 u.2.2.2.2.2.2.2.2.2]) A) ([.ref q_t, .int p0, .int p1] : List Value).toArray s 0 0 A) (F0 m 10 ls []) := by
    intro n
    induction n with
    | zero => intro oth i ks ko ke kv kn kj kl kb kjv kjn LP1_h0 LP1_h1 LP1_h2 hn; exact absurd hn (Nat.not_lt_zero _)
    | succ n ih1 =>
      intro oth i ks ko ke kv kn kj kl kb kjv kjn LP1_h0 LP1_h1 LP1_h2 hn1 H locs hP hD hS ls hl
      refine lv_iload hx hb dX2_renew_10 (lv_at hl 0 rfl) ?_
      refine lv_if_lt (tgt := 67) hx hb dX2_renew_12 (by decide) (fun c_2 => ?_) (fun c_2 => ?_)
      · have i_2 : i.toInt < 0 := kc_lt c_2
        refine lv_iload_n hx hb dX2_renew_67 rfl (lv_at hl 1 rfl) ?_
        have hP9 := hP
        have hD9 := hD
        have hK9 := hK
        exact W.iret (v := oth) hx hb hr (hlocks := hlocks) (fun t ht hW => ⟨⟨oth, (ks, ko, ke, kv, kn, kj, kl, kb, kjv, kjn), rfl, LP1_h2, by rw [ht]; exact hP9, va_K.moved hW.alike hK9, hD9⟩, hS.F ht⟩) hS.2.2 dX2_renew_68
      · have i_2 : 0 ≤ i.toInt := kc_nlt c_2
        refine lv_aload_n hx hb dX2_renew_15 rfl (lv_at hl 2 rfl) ?_
        refine va_get (D := (dC, dI)) (ci := 2) (v := .ref q_from) (C := RX2) (T := TX2) (N := 11) hx hb hts hi_2 hown hK hP 0 rfl rfl 2 (by decide) hf_18 (fun _ h9 => h9) rfl dX2_renew_16 ?_
        refine lv_iload hx hb dX2_renew_19 (lv_at hl 0 rfl) ?_
        refine va_iald hx hb hK hP 3 0 rfl rfl (ki_in (om_10 i_2) (om_115 c0 LP1_h0)) dX2_renew_21 ?_
        refine lv_topi (fun y_3 ey_3 => ?_)
        have j_3 : y_3.toInt = (ff i.toNatClampNeg).toInt := congrArg Int32.toInt ey_3
        refine lv_iload_n hx hb dX2_renew_22 rfl (lv_at hl 4 rfl) ?_
        refine lv_icmp_ge (tgt := 61) hx hb dX2_renew_23 (by decide) (fun c_4 => ?_) (fun c_4 => ?_)
        · have i_4 : p1.toInt ≤ y_3.toInt := kc_le c_4
          obtain ⟨x_5, ex_5⟩ : ∃ y : Int32, y = i + (-1) := ⟨_, rfl⟩
          have i_5 : x_5.toInt = i.toInt + (-1) := ki_add ex_5 rfl rfl (om_116 i_2) (om_117 c0 LP1_h0)
          refine lv_iinc (v := x_5) (lv' := [(4, .int x_5), (3, .int oth), (0, .ref q_t), (1, .int p0), (2, .int p1)]) hx hb dX2_renew_61 hl (k := 0) rfl (by rw [ex_5]; rfl) (by decide) rfl (fun ls hl => ?_)
          refine lv_goto (tgt := 10) hx hb dX2_renew_64 (by decide) ?_
          exact ih1 oth x_5 ks ko ke kv kn kj kl kb kjv kjn (om_118 LP1_h0 i_5) (om_119 i_2 i_5) LP1_h2 (om_mu hn1 (om_120 i_5) (om_121 i_2)) _ _ hP hD hS ls (lv_sub hl [0, 1, 2, 3, 4] rfl)
        · have i_4 : y_3.toInt < p1.toInt := kc_nle c_4
          refine lv_iload_n hx hb dX2_renew_26 rfl (lv_at hl 3 rfl) ?_
          refine lv_aload_n hx hb dX2_renew_27 rfl (lv_at hl 2 rfl) ?_
          refine va_get (D := (dC, dI)) (ci := 2) (v := .ref q_to) (C := RX2) (T := TX2) (N := 11) hx hb hts hi_2 hown hK hP 0 rfl rfl 3 (by decide) hf_22 (fun _ h9 => h9) rfl dX2_renew_28 ?_
          refine lv_iload hx hb dX2_renew_31 (lv_at hl 0 rfl) ?_
          refine va_iald hx hb hK hP 4 0 rfl rfl (ki_in (om_10 i_2) (om_115 c0 LP1_h0)) dX2_renew_33 ?_
          refine lv_topi (fun y_6 ey_6 => ?_)
          have j_6 : y_6.toInt = (ft i.toNatClampNeg).toInt := congrArg Int32.toInt ey_6
          refine lv_icmp_ge (tgt := 61) hx hb dX2_renew_34 (by decide) (fun c_7 => ?_) (fun c_7 => ?_)
          · have i_7 : y_6.toInt ≤ p0.toInt := kc_le c_7
            obtain ⟨x_8, ex_8⟩ : ∃ y : Int32, y = i + (-1) := ⟨_, rfl⟩
            have i_8 : x_8.toInt = i.toInt + (-1) := ki_add ex_8 rfl rfl (om_116 i_2) (om_117 c0 LP1_h0)
            refine lv_iinc (v := x_8) (lv' := [(4, .int x_8), (3, .int oth), (0, .ref q_t), (1, .int p0), (2, .int p1)]) hx hb dX2_renew_61 hl (k := 0) rfl (by rw [ex_8]; rfl) (by decide) rfl (fun ls hl => ?_)
            refine lv_goto (tgt := 10) hx hb dX2_renew_64 (by decide) ?_
            exact ih1 oth x_8 ks ko ke kv kn kj kl kb kjv kjn (om_118 LP1_h0 i_8) (om_119 i_2 i_8) LP1_h2 (om_mu hn1 (om_120 i_8) (om_121 i_2)) _ _ hP hD hS ls (lv_sub hl [0, 1, 2, 3, 4] rfl)
          · have i_7 : p0.toInt < y_6.toInt := kc_nle c_7
            refine lv_aload_n hx hb dX2_renew_37 rfl (lv_at hl 2 rfl) ?_
            refine lv_iload hx hb dX2_renew_38 (lv_at hl 0 rfl) ?_
            obtain ⟨hPc, hDc, hFc, hCc⟩ := kx_preM (wc := [kx_2 q_t q_row q_joined q_from q_to q_size q_lossOf q_lessBy q_value q_number nodes here, kx_0 q_row q_cell len, kx_a q_cell cyI 160 f, kx_a q_from cyI 319 ff, kx_a q_to cyI 319 ft, kx_a q_size cyI 319 ks, kx_a q_lossOf cyI 319 ko, kx_a q_value cyI 1914 kv, kx_a q_number cyI 1914 kn, kx_3 q_joined j_v j_n kj kl kb, kx_a j_v cyI 12 kjv, kx_a j_n cyI 12 kjn]) hP hD hS hA [true, true, true, true, true, true, true, false, true, true, true, true, true] rfl
            have hKc := hK
            refine va_callv (va_runV (As := [.int i]) (rest := []) ⟨hx, hb, hml, hown, hts⟩ (kx_un (c_X2_putTogether l dC dI q_t q_row q_joined q_from q_to q_size q_lossOf q_lessBy q_value q_number nodes here q_cell cyI len f ff ft ks ko kv kn j_v j_n kj kl kb kjv kjn i H.size i_2 LP1_h0 c0 c1 LP1_h2 t0)) (cwV 1 hts gX2_renew_X2_putTogether rfl rfl rfl (by decide +kernel) ⟨Nat.le_of_ble_eq_true rfl, Nat.le_of_ble_eq_true rfl⟩) ⟨fun a U g mk q => by obtain ⟨q0, q1, qP, qK, qD⟩ := q; exact ⟨q0, q1, qP, va_K.moved (u := U) (U := U.calling g mk a) (Vm.Alike.refl U.vm) qK, qD⟩, kx_rc2 hKc hPc (q0 := 0) rfl, fun U hU hW => ⟨rfl, by rw [hU], by rw [hU]; exact hPc, va_K.moved hW.alike hKc, hDc.weaken (fun _ _ _ _ => trivial)⟩⟩ rfl rfl hl.1 rfl (lv_room (Nat.le_of_ble_eq_true rfl)) dX2_renew_40 ⟨Nat.le_of_ble_eq_true rfl, Nat.le_of_ble_eq_true rfl⟩) hS (fun q _ h => hFc q h) hFc (fun u t H1 locs ht hvm w_9 hB hz1 hk1 hS => ?_)
            obtain ⟨o_10, o_11, o_12, o_13, o_14⟩ := u
            dsimp only at w_9 hB
            obtain ⟨hP1, hK1, hD1⟩ := hB
            rw [ht] at hP1
            have hK1 := va_K.moved hvm.symm hK1
            obtain ⟨hP, hD⟩ := kx_joinM (w2 := [kx_2 q_t q_row q_joined q_from q_to q_size q_lossOf q_lessBy q_value q_number nodes here, kx_0 q_row q_cell len, kx_a q_cell cyI 160 f, kx_a q_from cyI 319 ff, kx_a q_to cyI 319 ft, kx_a q_size cyI 319 ks, kx_a q_lossOf cyI 319 ko, kx_a q_lessBy cyI 319 ke, kx_a q_value cyI 1914 kv, kx_a q_number cyI 1914 kn, kx_3 q_joined j_v j_n o_10 o_11 o_12, kx_a j_v cyI 12 o_13, kx_a j_n cyI 12 o_14]) hP hD hP1 hD1 hk1 hFc [true, true, true, true, true, true, true, false, true, true, true, true, true] hCc rfl
            clear hP1 hD1 hK1 hk1 hz1 hFc hDc hPc hKc hCc
            generalize H1 = H at hP hS ⊢
            have w_9 : 0 ≤ o_10.toInt ∧ o_10.toInt ≤ 12 := w_9
            refine lv_aload_n hx hb dX2_renew_43 rfl (lv_at hl 2 rfl) ?_
            refine lv_iload hx hb dX2_renew_44 (lv_at hl 0 rfl) ?_
            have hPc := kx_selP (ws' := [kx_2 q_t q_row q_joined q_from q_to q_size q_lossOf q_lessBy q_value q_number nodes here, kx_a q_size cyI 319 ks, kx_a q_lossOf cyI 319 ko, kx_a q_value cyI 1914 kv, kx_a q_number cyI 1914 kn, kx_3 q_joined j_v j_n o_10 o_11 o_12, kx_a j_v cyI 12 o_13, kx_a j_n cyI 12 o_14]) hP [true, false, false, false, false, true, true, false, true, true, true, true, true] rfl
            have hKc := hK
            refine vp_callSi (W.runV (As := [.int i]) (rest := []) ⟨hx, hb, hml, hown, hts⟩ (c_X2_isJoined l dC dI q_t q_row q_joined q_from q_to q_size q_lossOf q_lessBy q_value q_number nodes here cyI ks ko kv kn j_v j_n o_10 o_11 o_12 o_13 o_14 i i_2 (om_122 c0 LP1_h0) w_9.1 w_9.2) (cwV 1 hts gX2_renew_X2_isJoined rfl rfl rfl (by decide +kernel) ⟨Nat.le_of_ble_eq_true rfl, Nat.le_of_ble_eq_true rfl⟩) ⟨fun a U g mk q => by obtain ⟨q0, qP, qK⟩ := q; exact ⟨q0, qP, va_K.moved (u := U) (U := U.calling g mk a) (Vm.Alike.refl U.vm) qK⟩, kx_rc2 hKc hPc (q0 := 0) rfl, fun U hU hW => ⟨rfl, by rw [hU]; exact hPc, va_K.moved hW.alike hKc⟩⟩ rfl rfl hl.1 rfl (lv_room (Nat.le_of_ble_eq_true rfl)) dX2_renew_46 ⟨Nat.le_of_ble_eq_true rfl, Nat.le_of_ble_eq_true rfl⟩) (fun r_15 w_15 => ?_)
            rcases w_15 with ⟨rfl, w_15⟩ | ⟨rfl, w_15⟩
            · have w_15 : (0 : Int) ≤ 1 := w_15
              refine lv_if_ne (tgt := 55) hx hb dX2_renew_49 (by decide) (fun c_16 => ?_) (fun c_16 => ?_)
              · refine lv_aload_n hx hb dX2_renew_55 rfl (lv_at hl 2 rfl) ?_
                refine lv_iload hx hb dX2_renew_56 (lv_at hl 0 rfl) ?_
                obtain ⟨hPc, hDc, hFc, hCc⟩ := kx_preM (wc := [kx_2 q_t q_row q_joined q_from q_to q_size q_lossOf q_lessBy q_value q_number nodes here, kx_a q_size cyI 319 ks, kx_a q_lossOf cyI 319 ko, kx_a q_lessBy cyI 319 ke, kx_a q_value cyI 1914 kv, kx_a q_number cyI 1914 kn, kx_3 q_joined j_v j_n o_10 o_11 o_12, kx_a j_v cyI 12 o_13, kx_a j_n cyI 12 o_14]) hP hD hS hA [true, false, false, false, false, true, true, true, true, true, true, true, true] rfl
                have hKc := hK
                refine va_callv (va_runV (As := [.int i]) (rest := []) ⟨hx, hb, hml, hown, hts⟩ (kx_un (c_X2_keepJoined l dC dI q_t q_row q_joined q_from q_to q_size q_lossOf q_lessBy q_value q_number nodes here cyI ks ko kv kn ke j_v j_n o_10 o_11 o_12 o_13 o_14 i H.size i_2 (om_122 c0 LP1_h0) w_9.1 w_9.2 LP1_h2)) (cwV 1 hts gX2_renew_X2_keepJoined rfl rfl rfl (by decide +kernel) ⟨Nat.le_of_ble_eq_true rfl, Nat.le_of_ble_eq_true rfl⟩) ⟨fun a U g mk q => by obtain ⟨q0, q1, qP, qK, qD⟩ := q; exact ⟨q0, q1, qP, va_K.moved (u := U) (U := U.calling g mk a) (Vm.Alike.refl U.vm) qK, qD⟩, kx_rc2 hKc hPc (q0 := 0) rfl, fun U hU hW => ⟨rfl, by rw [hU], by rw [hU]; exact hPc, va_K.moved hW.alike hKc, hDc.weaken (fun _ _ _ _ => trivial)⟩⟩ rfl rfl hl.1 rfl (lv_room (Nat.le_of_ble_eq_true rfl)) dX2_renew_58 ⟨Nat.le_of_ble_eq_true rfl, Nat.le_of_ble_eq_true rfl⟩) hS (fun q _ h => hFc q h) hFc (fun u t H1 locs ht hvm w_17 hB hz1 hk1 hS => ?_)
                obtain ⟨o_18, o_19, o_20, o_21, o_22⟩ := u
                dsimp only at w_17 hB
                obtain ⟨hP1, hK1, hD1⟩ := hB
                rw [ht] at hP1
                have hK1 := va_K.moved hvm.symm hK1
                obtain ⟨hP, hD⟩ := kx_joinM (w2 := [kx_2 q_t q_row q_joined q_from q_to q_size q_lossOf q_lessBy q_value q_number nodes here, kx_0 q_row q_cell len, kx_a q_cell cyI 160 f, kx_a q_from cyI 319 ff, kx_a q_to cyI 319 ft, kx_a q_size cyI 319 o_18, kx_a q_lossOf cyI 319 o_19, kx_a q_lessBy cyI 319 o_20, kx_a q_value cyI 1914 o_21, kx_a q_number cyI 1914 o_22, kx_3 q_joined j_v j_n o_10 o_11 o_12, kx_a j_v cyI 12 o_13, kx_a j_n cyI 12 o_14]) hP hD hP1 hD1 hk1 hFc [true, false, false, false, false, true, true, true, true, true, true, true, true] hCc rfl
                clear hP1 hD1 hK1 hk1 hz1 hFc hDc hPc hKc hCc
                generalize H1 = H at hP hS ⊢
                have w_17 : sixes o_18 := w_17
                obtain ⟨x_23, ex_23⟩ : ∃ y : Int32, y = i + (-1) := ⟨_, rfl⟩
                have i_23 : x_23.toInt = i.toInt + (-1) := ki_add ex_23 rfl rfl (om_116 i_2) (om_117 c0 LP1_h0)
                refine lv_iinc (v := x_23) (lv' := [(4, .int x_23), (3, .int oth), (0, .ref q_t), (1, .int p0), (2, .int p1)]) hx hb dX2_renew_61 hl (k := 0) rfl (by rw [ex_23]; rfl) (by decide) rfl (fun ls hl => ?_)
                refine lv_goto (tgt := 10) hx hb dX2_renew_64 (by decide) ?_
                exact ih1 oth x_23 o_18 o_19 o_20 o_21 o_22 o_10 o_11 o_12 o_13 o_14 (om_118 LP1_h0 i_23) (om_119 i_2 i_23) w_17 (om_mu hn1 (om_120 i_23) (om_121 i_2)) _ _ hP hD hS ls (lv_sub hl [0, 1, 2, 3, 4] rfl)
              · exact absurd c_16 (by decide)
            · have w_15 : (0 : Int) ≤ 1 := w_15
              refine lv_if_ne (tgt := 55) hx hb dX2_renew_49 (by decide) (fun c_24 => ?_) (fun c_24 => ?_)
              · exact absurd c_24 (by decide)
              · obtain ⟨x_25, ex_25⟩ : ∃ y : Int32, y = oth + 1 := ⟨_, rfl⟩
                refine lv_iinc (v := x_25) (lv' := [(3, .int x_25), (4, .int i), (0, .ref q_t), (1, .int p0), (2, .int p1)]) hx hb dX2_renew_52 hl (k := 1) rfl (by rw [ex_25]; rfl) (by decide) rfl (fun ls hl => ?_)
                refine lv_aload_n hx hb dX2_renew_55 rfl (lv_at hl 2 rfl) ?_
                refine lv_iload hx hb dX2_renew_56 (lv_at hl 1 rfl) ?_
                obtain ⟨hPc, hDc, hFc, hCc⟩ := kx_preM (wc := [kx_2 q_t q_row q_joined q_from q_to q_size q_lossOf q_lessBy q_value q_number nodes here, kx_a q_size cyI 319 ks, kx_a q_lossOf cyI 319 ko, kx_a q_lessBy cyI 319 ke, kx_a q_value cyI 1914 kv, kx_a q_number cyI 1914 kn, kx_3 q_joined j_v j_n o_10 o_11 o_12, kx_a j_v cyI 12 o_13, kx_a j_n cyI 12 o_14]) hP hD hS hA [true, false, false, false, false, true, true, true, true, true, true, true, true] rfl
                have hKc := hK
                refine va_callv (va_runV (As := [.int i]) (rest := []) ⟨hx, hb, hml, hown, hts⟩ (kx_un (c_X2_keepJoined l dC dI q_t q_row q_joined q_from q_to q_size q_lossOf q_lessBy q_value q_number nodes here cyI ks ko kv kn ke j_v j_n o_10 o_11 o_12 o_13 o_14 i H.size i_2 (om_122 c0 LP1_h0) w_9.1 w_9.2 LP1_h2)) (cwV 1 hts gX2_renew_X2_keepJoined rfl rfl rfl (by decide +kernel) ⟨Nat.le_of_ble_eq_true rfl, Nat.le_of_ble_eq_true rfl⟩) ⟨fun a U g mk q => by obtain ⟨q0, q1, qP, qK, qD⟩ := q; exact ⟨q0, q1, qP, va_K.moved (u := U) (U := U.calling g mk a) (Vm.Alike.refl U.vm) qK, qD⟩, kx_rc2 hKc hPc (q0 := 0) rfl, fun U hU hW => ⟨rfl, by rw [hU], by rw [hU]; exact hPc, va_K.moved hW.alike hKc, hDc.weaken (fun _ _ _ _ => trivial)⟩⟩ rfl rfl hl.1 rfl (lv_room (Nat.le_of_ble_eq_true rfl)) dX2_renew_58 ⟨Nat.le_of_ble_eq_true rfl, Nat.le_of_ble_eq_true rfl⟩) hS (fun q _ h => hFc q h) hFc (fun u t H1 locs ht hvm w_26 hB hz1 hk1 hS => ?_)
                obtain ⟨o_27, o_28, o_29, o_30, o_31⟩ := u
                dsimp only at w_26 hB
                obtain ⟨hP1, hK1, hD1⟩ := hB
                rw [ht] at hP1
                have hK1 := va_K.moved hvm.symm hK1
                obtain ⟨hP, hD⟩ := kx_joinM (w2 := [kx_2 q_t q_row q_joined q_from q_to q_size q_lossOf q_lessBy q_value q_number nodes here, kx_0 q_row q_cell len, kx_a q_cell cyI 160 f, kx_a q_from cyI 319 ff, kx_a q_to cyI 319 ft, kx_a q_size cyI 319 o_27, kx_a q_lossOf cyI 319 o_28, kx_a q_lessBy cyI 319 o_29, kx_a q_value cyI 1914 o_30, kx_a q_number cyI 1914 o_31, kx_3 q_joined j_v j_n o_10 o_11 o_12, kx_a j_v cyI 12 o_13, kx_a j_n cyI 12 o_14]) hP hD hP1 hD1 hk1 hFc [true, false, false, false, false, true, true, true, true, true, true, true, true] hCc rfl
                clear hP1 hD1 hK1 hk1 hz1 hFc hDc hPc hKc hCc
                generalize H1 = H at hP hS ⊢
                have w_26 : sixes o_27 := w_26
                obtain ⟨x_32, ex_32⟩ : ∃ y : Int32, y = i + (-1) := ⟨_, rfl⟩
                have i_32 : x_32.toInt = i.toInt + (-1) := ki_add ex_32 rfl rfl (om_116 i_2) (om_117 c0 LP1_h0)
                refine lv_iinc (v := x_32) (lv' := [(4, .int x_32), (3, .int x_25), (0, .ref q_t), (1, .int p0), (2, .int p1)]) hx hb dX2_renew_61 hl (k := 1) rfl (by rw [ex_32]; rfl) (by decide) rfl (fun ls hl => ?_)
                refine lv_goto (tgt := 10) hx hb dX2_renew_64 (by decide) ?_
                exact ih1 x_25 x_32 o_27 o_28 o_29 o_30 o_31 o_10 o_11 o_12 o_13 o_14 (om_118 LP1_h0 i_32) (om_119 i_2 i_32) w_26 (om_mu hn1 (om_120 i_32) (om_121 i_2)) _ _ hP hD hS ls (lv_sub hl [0, 1, 2, 3, 4] rfl)
  have k_33 : (0 : Int32).toInt = 0 := rfl
  exact LP1 ((y_1.toInt + 1 : Int).toNat + 1) 0 y_1 fs fo fe uv un js jl je jv jn (om_123 i_1) (om_124 b0 i_1) s0 (Nat.lt_succ_self _) _ _ hP hD hS ls (lv_sub hl [0, 1, 2, 3, 4] rfl)

set_option maxHeartbeats 4000000 in
set_option maxRecDepth 100000 in
theorem c_X2_find (l : Launch) (dC : Nat → ClassId) (dI : Nat → Nat → Nat) (q_t : Nat) (q_row : Nat) (q_joined : Nat) (q_from : Nat) (q_to : Nat) (q_size : Nat) (q_lossOf : Nat) (q_lessBy : Nat) (q_value : Nat) (q_number : Nat) (nodes : Int32) (here : Int32) (cyI : ClassId) (ff : Nat → Int32) (ft : Nat → Int32) (p0 : Int32) (p1 : Int32) (b0 : 0 ≤ nodes.toInt) (c0 : nodes.toInt ≤ 319) : Met l yX2_find wsX2_find ({ frames := 0, cells := 0, slots := 0, locals := 0 }) (va_Pc [.ref q_t, .int p0, .int p1] (fun U => va_P (dC, dI) vwCl [kx_2 q_t q_row q_joined q_from q_to q_size q_lossOf q_lessBy q_value q_number nodes here, kx_a q_from cyI 319 ff, kx_a q_to cyI 319 ft] U.heap ∧ va_K (dC, dI) vwCl [(cyI, .int)] U)) (vp_Si (fun r : Int32 => (r.toInt = -1 ∨ (0 ≤ r.toInt ∧ r.toInt < nodes.toInt)))) 0 0 (fun _ => False) := by
  refine kx_stS (ws := wsX2_find) (cc := cX2_find) (maxL := 4) (ret := (some .int)) (by decide) rfl (Nat.le_of_ble_eq_true rfl) ?_
  intro p e s m below meth c ls hx hb hr hlocks hts hown hml hP hK hl
  have hown : s.vm.findClass RX2 = some m.cls := hown
  have hl : lv_has ls 4 [(0, .ref q_t), (1, .int p0), (2, .int p1)] := hl
  have hf_50 := hts (.fieldLink RX2 50 "MajorityIndex$Tree" "nodes" "I") (List.mem_of_getElem? (i := 1) rfl)
  have hi_2 : ∀ w ∈ u_ws RX2 TX2 11, w ∈ wsX2_find := fun w h => List.mem_cons_of_mem _ (List.mem_append_right _ h)
  have hf_18 := hts (.fieldLink RX2 18 "MajorityIndex$Tree" "from" "[I") (List.mem_of_getElem? (i := 2) rfl)
  have hf_22 := hts (.fieldLink RX2 22 "MajorityIndex$Tree" "to" "[I") (List.mem_of_getElem? (i := 3) rfl)
  refine lv_iconst (v := 0) hx hb dX2_find_0 (by decide) ?_
  refine lv_istore_n (lv' := [(3, .int 0), (0, .ref q_t), (1, .int p0), (2, .int p1)]) hx hb dX2_find_1 rfl hl (by decide) rfl (fun ls hl => ?_)
  have LP1 : ∀ (n : Nat) (i : Int32), (0 ≤ i.toInt) → (nodes.toInt - i.toInt).toNat < n → ∀ (ls : Array Slot), lv_has ls 4 [(3, .int i), (0, .ref q_t), (1, .int p0), (2, .int p1)] → W p l e (headSpec wsX2_find ({ frames := 0, cells := 0, slots := 0, locals := 0 })).room s m ([.ref q_t, .int p0, .int p1] : List Value).toArray below meth c s.heap [] 0 0 (MQ below (vp_Si (fun r : Int32 => (r.toInt = -1 ∨ (0 ≤ r.toInt ∧ r.toInt < nodes.toInt)))) ([.ref q_t, .int p0, .int p1] : List Value).toArray s 0 0 (fun _ => False)) (F0 m 2 ls []) := by
    intro n
    induction n with
    | zero => intro i LP1_h0 hn; exact absurd hn (Nat.not_lt_zero _)
    | succ n ih1 =>
      intro i LP1_h0 hn1 ls hl
      refine lv_iload_n hx hb dX2_find_2 rfl (lv_at hl 0 rfl) ?_
      refine lv_aload_n hx hb dX2_find_3 rfl (lv_at hl 1 rfl) ?_
      refine va_get (D := (dC, dI)) (ci := 2) (v := .int nodes) (C := RX2) (T := TX2) (N := 11) hx hb hts hi_2 hown hK hP 0 rfl rfl 9 (by decide) hf_50 (fun _ h9 => h9) rfl dX2_find_4 ?_
      refine lv_icmp_ge (tgt := 38) hx hb dX2_find_7 (by decide) (fun c_1 => ?_) (fun c_1 => ?_)
      · have i_1 : nodes.toInt ≤ i.toInt := kc_le c_1
        refine lv_iconst (v := (-1)) hx hb dX2_find_38 (by decide) ?_
        exact W.iret (v := (-1)) hx hb hr (hlocks := hlocks) (fun t ht hW => ⟨(-1), rfl, (Or.inl rfl), ht⟩) (fun q hq => by cases hq) dX2_find_39
      · have i_1 : i.toInt < nodes.toInt := kc_nle c_1
        refine lv_aload_n hx hb dX2_find_10 rfl (lv_at hl 1 rfl) ?_
        refine va_get (D := (dC, dI)) (ci := 2) (v := .ref q_from) (C := RX2) (T := TX2) (N := 11) hx hb hts hi_2 hown hK hP 0 rfl rfl 2 (by decide) hf_18 (fun _ h9 => h9) rfl dX2_find_11 ?_
        refine lv_iload_n hx hb dX2_find_14 rfl (lv_at hl 0 rfl) ?_
        refine va_iald hx hb hK hP 1 0 rfl rfl (ki_in (om_10 LP1_h0) (om_115 c0 i_1)) dX2_find_15 ?_
        refine lv_topi (fun y_2 ey_2 => ?_)
        have j_2 : y_2.toInt = (ff i.toNatClampNeg).toInt := congrArg Int32.toInt ey_2
        refine lv_iload_n hx hb dX2_find_16 rfl (lv_at hl 2 rfl) ?_
        refine lv_icmp_ne (tgt := 32) hx hb dX2_find_17 (by decide) (fun c_3 => ?_) (fun c_3 => ?_)
        · have i_3 : ¬ y_2.toInt = p0.toInt := kc_ne c_3
          obtain ⟨x_4, ex_4⟩ : ∃ y : Int32, y = i + 1 := ⟨_, rfl⟩
          have i_4 : x_4.toInt = i.toInt + 1 := ki_add ex_4 rfl rfl (om_13 LP1_h0) (om_125 c0 i_1)
          refine lv_iinc (v := x_4) (lv' := [(3, .int x_4), (0, .ref q_t), (1, .int p0), (2, .int p1)]) hx hb dX2_find_32 hl (k := 0) rfl (by rw [ex_4]; rfl) (by decide) rfl (fun ls hl => ?_)
          refine lv_goto (tgt := 2) hx hb dX2_find_35 (by decide) ?_
          exact ih1 x_4 (om_34 LP1_h0 i_4) (om_mu hn1 (om_5 i_4) (om_6 i_1)) ls (lv_sub hl [0, 1, 2, 3] rfl)
        · have i_3 : y_2.toInt = p0.toInt := kc_eq c_3
          refine lv_aload_n hx hb dX2_find_20 rfl (lv_at hl 1 rfl) ?_
          refine va_get (D := (dC, dI)) (ci := 2) (v := .ref q_to) (C := RX2) (T := TX2) (N := 11) hx hb hts hi_2 hown hK hP 0 rfl rfl 3 (by decide) hf_22 (fun _ h9 => h9) rfl dX2_find_21 ?_
          refine lv_iload_n hx hb dX2_find_24 rfl (lv_at hl 0 rfl) ?_
          refine va_iald hx hb hK hP 2 0 rfl rfl (ki_in (om_10 LP1_h0) (om_115 c0 i_1)) dX2_find_25 ?_
          refine lv_topi (fun y_5 ey_5 => ?_)
          have j_5 : y_5.toInt = (ft i.toNatClampNeg).toInt := congrArg Int32.toInt ey_5
          refine lv_iload_n hx hb dX2_find_26 rfl (lv_at hl 3 rfl) ?_
          refine lv_icmp_ne (tgt := 32) hx hb dX2_find_27 (by decide) (fun c_6 => ?_) (fun c_6 => ?_)
          · have i_6 : ¬ y_5.toInt = p1.toInt := kc_ne c_6
            obtain ⟨x_7, ex_7⟩ : ∃ y : Int32, y = i + 1 := ⟨_, rfl⟩
            have i_7 : x_7.toInt = i.toInt + 1 := ki_add ex_7 rfl rfl (om_13 LP1_h0) (om_125 c0 i_1)
            refine lv_iinc (v := x_7) (lv' := [(3, .int x_7), (0, .ref q_t), (1, .int p0), (2, .int p1)]) hx hb dX2_find_32 hl (k := 0) rfl (by rw [ex_7]; rfl) (by decide) rfl (fun ls hl => ?_)
            refine lv_goto (tgt := 2) hx hb dX2_find_35 (by decide) ?_
            exact ih1 x_7 (om_34 LP1_h0 i_7) (om_mu hn1 (om_5 i_7) (om_6 i_1)) ls (lv_sub hl [0, 1, 2, 3] rfl)
          · have i_6 : y_5.toInt = p1.toInt := kc_eq c_6
            refine lv_iload_n hx hb dX2_find_30 rfl (lv_at hl 0 rfl) ?_
            exact W.iret (v := i) hx hb hr (hlocks := hlocks) (fun t ht hW => ⟨i, rfl, (by (try dsimp only); omega), ht⟩) (fun q hq => by cases hq) dX2_find_31
  have k_8 : (0 : Int32).toInt = 0 := rfl
  exact LP1 ((nodes.toInt - 0 : Int).toNat + 1) 0 om_35 (Nat.lt_succ_self _) ls (lv_sub hl [0, 1, 2, 3] rfl)

set_option maxHeartbeats 4000000 in
set_option maxRecDepth 100000 in
theorem c_X2_isPart (l : Launch) (dC : Nat → ClassId) (dI : Nat → Nat → Nat) (q_t : Nat) (q_row : Nat) (q_joined : Nat) (q_from : Nat) (q_to : Nat) (q_size : Nat) (q_lossOf : Nat) (q_lessBy : Nat) (q_value : Nat) (q_number : Nat) (nodes : Int32) (here : Int32) (cyI : ClassId) (ff : Nat → Int32) (ft : Nat → Int32) (p0 : Int32) (p1 : Int32) (p2 : Int32) (b0 : 0 ≤ p0.toInt) (b1 : p0.toInt < 319) : Met l yX2_isPart wsX2_isPart ({ frames := 0, cells := 0, slots := 0, locals := 0 }) (va_Pc [.ref q_t, .int p0, .int p1, .int p2] (fun U => va_P (dC, dI) vwCl [kx_2 q_t q_row q_joined q_from q_to q_size q_lossOf q_lessBy q_value q_number nodes here, kx_a q_from cyI 319 ff, kx_a q_to cyI 319 ft] U.heap ∧ va_K (dC, dI) vwCl [(cyI, .int)] U)) (vp_Si (fun r : Int32 => (r = 1 ∧ ((ff p0.toNatClampNeg).toInt = p1.toInt ∧ (ft p0.toNatClampNeg).toInt ≤ p2.toInt)) ∨ (r = 0 ∧ (¬ (ff p0.toNatClampNeg).toInt = p1.toInt ∨ p2.toInt < (ft p0.toNatClampNeg).toInt)))) 0 0 (fun _ => False) := by
  refine kx_stS (ws := wsX2_isPart) (cc := cX2_isPart) (maxL := 4) (ret := (some .boolean)) (by decide) rfl (Nat.le_of_ble_eq_true rfl) ?_
  intro p e s m below meth c ls hx hb hr hlocks hts hown hml hP hK hl
  have hown : s.vm.findClass RX2 = some m.cls := hown
  have hl : lv_has ls 4 [(0, .ref q_t), (1, .int p0), (2, .int p1), (3, .int p2)] := hl
  have hf_18 := hts (.fieldLink RX2 18 "MajorityIndex$Tree" "from" "[I") (List.mem_of_getElem? (i := 1) rfl)
  have hi_2 : ∀ w ∈ u_ws RX2 TX2 11, w ∈ wsX2_isPart := fun w h => List.mem_cons_of_mem _ (List.mem_append_right _ h)
  have hf_22 := hts (.fieldLink RX2 22 "MajorityIndex$Tree" "to" "[I") (List.mem_of_getElem? (i := 2) rfl)
  refine lv_aload_n hx hb dX2_isPart_0 rfl (lv_at hl 0 rfl) ?_
  refine va_get (D := (dC, dI)) (ci := 2) (v := .ref q_from) (C := RX2) (T := TX2) (N := 11) hx hb hts hi_2 hown hK hP 0 rfl rfl 2 (by decide) hf_18 (fun _ h9 => h9) rfl dX2_isPart_1 ?_
  refine lv_iload_n hx hb dX2_isPart_4 rfl (lv_at hl 1 rfl) ?_
  refine va_iald hx hb hK hP 1 0 rfl rfl (ki_in (om_10 b0) (om_61 b1)) dX2_isPart_5 ?_
  refine lv_topi (fun y_1 ey_1 => ?_)
  have j_1 : y_1.toInt = (ff p0.toNatClampNeg).toInt := congrArg Int32.toInt ey_1
  refine lv_iload_n hx hb dX2_isPart_6 rfl (lv_at hl 2 rfl) ?_
  refine lv_icmp_ne (tgt := 24) hx hb dX2_isPart_7 (by decide) (fun c_2 => ?_) (fun c_2 => ?_)
  · have i_2 : ¬ y_1.toInt = p1.toInt := kc_ne c_2
    refine lv_iconst (v := 0) hx hb dX2_isPart_24 (by decide) ?_
    exact W.zret (v := 0) hx hb hr (by decide) (hlocks := hlocks) (fun t ht hW => ⟨0, rfl, Or.inr (⟨rfl, by omega⟩), ht⟩) (fun q hq => by cases hq) dX2_isPart_25
  · have i_2 : y_1.toInt = p1.toInt := kc_eq c_2
    refine lv_aload_n hx hb dX2_isPart_10 rfl (lv_at hl 0 rfl) ?_
    refine va_get (D := (dC, dI)) (ci := 2) (v := .ref q_to) (C := RX2) (T := TX2) (N := 11) hx hb hts hi_2 hown hK hP 0 rfl rfl 3 (by decide) hf_22 (fun _ h9 => h9) rfl dX2_isPart_11 ?_
    refine lv_iload_n hx hb dX2_isPart_14 rfl (lv_at hl 1 rfl) ?_
    refine va_iald hx hb hK hP 2 0 rfl rfl (ki_in (om_10 b0) (om_61 b1)) dX2_isPart_15 ?_
    refine lv_topi (fun y_3 ey_3 => ?_)
    have j_3 : y_3.toInt = (ft p0.toNatClampNeg).toInt := congrArg Int32.toInt ey_3
    refine lv_iload_n hx hb dX2_isPart_16 rfl (lv_at hl 3 rfl) ?_
    refine lv_icmp_gt (tgt := 24) hx hb dX2_isPart_17 (by decide) (fun c_4 => ?_) (fun c_4 => ?_)
    · have i_4 : p2.toInt < y_3.toInt := kc_lt c_4
      refine lv_iconst (v := 0) hx hb dX2_isPart_24 (by decide) ?_
      exact W.zret (v := 0) hx hb hr (by decide) (hlocks := hlocks) (fun t ht hW => ⟨0, rfl, Or.inr (⟨rfl, (Or.inr (om_126 j_3 i_4))⟩), ht⟩) (fun q hq => by cases hq) dX2_isPart_25
    · have i_4 : y_3.toInt ≤ p2.toInt := kc_nlt c_4
      refine lv_iconst (v := 1) hx hb dX2_isPart_20 (by decide) ?_
      refine lv_goto (tgt := 25) hx hb dX2_isPart_21 (by decide) ?_
      exact W.zret (v := 1) hx hb hr (by decide) (hlocks := hlocks) (fun t ht hW => ⟨1, rfl, Or.inl ⟨rfl, ⟨(om_127 j_1 i_2), (om_128 j_3 i_4)⟩⟩, ht⟩) (fun q hq => by cases hq) dX2_isPart_25

set_option maxHeartbeats 4000000 in
set_option maxRecDepth 100000 in
theorem c_X2_hasPlace (l : Launch) (dC : Nat → ClassId) (dI : Nat → Nat → Nat) (q_t : Nat) (q_row : Nat) (q_joined : Nat) (q_from : Nat) (q_to : Nat) (q_size : Nat) (q_lossOf : Nat) (q_lessBy : Nat) (q_value : Nat) (q_number : Nat) (nodes : Int32) (here : Int32) (cyI : ClassId) (ff : Nat → Int32) (ft : Nat → Int32) (p0 : Int32) (p1 : Int32) (b0 : 0 ≤ p0.toInt) (b1 : p0.toInt < 319) : Met l yX2_hasPlace wsX2_hasPlace ({ frames := 0, cells := 0, slots := 0, locals := 0 }) (va_Pc [.ref q_t, .int p0, .int p1] (fun U => va_P (dC, dI) vwCl [kx_2 q_t q_row q_joined q_from q_to q_size q_lossOf q_lessBy q_value q_number nodes here, kx_a q_from cyI 319 ff, kx_a q_to cyI 319 ft] U.heap ∧ va_K (dC, dI) vwCl [(cyI, .int)] U)) (vp_Si (fun r : Int32 => (r = 1 ∧ ((ff p0.toNatClampNeg).toInt ≤ p1.toInt ∧ p1.toInt < (ft p0.toNatClampNeg).toInt)) ∨ (r = 0 ∧ (p1.toInt < (ff p0.toNatClampNeg).toInt ∨ (ft p0.toNatClampNeg).toInt ≤ p1.toInt)))) 0 0 (fun _ => False) := by
  refine kx_stS (ws := wsX2_hasPlace) (cc := cX2_hasPlace) (maxL := 3) (ret := (some .boolean)) (by decide) rfl (Nat.le_of_ble_eq_true rfl) ?_
  intro p e s m below meth c ls hx hb hr hlocks hts hown hml hP hK hl
  have hown : s.vm.findClass RX2 = some m.cls := hown
  have hl : lv_has ls 3 [(0, .ref q_t), (1, .int p0), (2, .int p1)] := hl
  have hf_18 := hts (.fieldLink RX2 18 "MajorityIndex$Tree" "from" "[I") (List.mem_of_getElem? (i := 1) rfl)
  have hi_2 : ∀ w ∈ u_ws RX2 TX2 11, w ∈ wsX2_hasPlace := fun w h => List.mem_cons_of_mem _ (List.mem_append_right _ h)
  have hf_22 := hts (.fieldLink RX2 22 "MajorityIndex$Tree" "to" "[I") (List.mem_of_getElem? (i := 2) rfl)
  refine lv_aload_n hx hb dX2_hasPlace_0 rfl (lv_at hl 0 rfl) ?_
  refine va_get (D := (dC, dI)) (ci := 2) (v := .ref q_from) (C := RX2) (T := TX2) (N := 11) hx hb hts hi_2 hown hK hP 0 rfl rfl 2 (by decide) hf_18 (fun _ h9 => h9) rfl dX2_hasPlace_1 ?_
  refine lv_iload_n hx hb dX2_hasPlace_4 rfl (lv_at hl 1 rfl) ?_
  refine va_iald hx hb hK hP 1 0 rfl rfl (ki_in (om_10 b0) (om_61 b1)) dX2_hasPlace_5 ?_
  refine lv_topi (fun y_1 ey_1 => ?_)
  have j_1 : y_1.toInt = (ff p0.toNatClampNeg).toInt := congrArg Int32.toInt ey_1
  refine lv_iload_n hx hb dX2_hasPlace_6 rfl (lv_at hl 2 rfl) ?_
  refine lv_icmp_gt (tgt := 24) hx hb dX2_hasPlace_7 (by decide) (fun c_2 => ?_) (fun c_2 => ?_)
  · have i_2 : p1.toInt < y_1.toInt := kc_lt c_2
    refine lv_iconst (v := 0) hx hb dX2_hasPlace_24 (by decide) ?_
    exact W.zret (v := 0) hx hb hr (by decide) (hlocks := hlocks) (fun t ht hW => ⟨0, rfl, Or.inr (⟨rfl, (Or.inl (om_126 j_1 i_2))⟩), ht⟩) (fun q hq => by cases hq) dX2_hasPlace_25
  · have i_2 : y_1.toInt ≤ p1.toInt := kc_nlt c_2
    refine lv_iload_n hx hb dX2_hasPlace_10 rfl (lv_at hl 2 rfl) ?_
    refine lv_aload_n hx hb dX2_hasPlace_11 rfl (lv_at hl 0 rfl) ?_
    refine va_get (D := (dC, dI)) (ci := 2) (v := .ref q_to) (C := RX2) (T := TX2) (N := 11) hx hb hts hi_2 hown hK hP 0 rfl rfl 3 (by decide) hf_22 (fun _ h9 => h9) rfl dX2_hasPlace_12 ?_
    refine lv_iload_n hx hb dX2_hasPlace_15 rfl (lv_at hl 1 rfl) ?_
    refine va_iald hx hb hK hP 2 0 rfl rfl (ki_in (om_10 b0) (om_61 b1)) dX2_hasPlace_16 ?_
    refine lv_topi (fun y_3 ey_3 => ?_)
    have j_3 : y_3.toInt = (ft p0.toNatClampNeg).toInt := congrArg Int32.toInt ey_3
    refine lv_icmp_ge (tgt := 24) hx hb dX2_hasPlace_17 (by decide) (fun c_4 => ?_) (fun c_4 => ?_)
    · have i_4 : y_3.toInt ≤ p1.toInt := kc_le c_4
      refine lv_iconst (v := 0) hx hb dX2_hasPlace_24 (by decide) ?_
      exact W.zret (v := 0) hx hb hr (by decide) (hlocks := hlocks) (fun t ht hW => ⟨0, rfl, Or.inr (⟨rfl, (Or.inr (om_128 j_3 i_4))⟩), ht⟩) (fun q hq => by cases hq) dX2_hasPlace_25
    · have i_4 : p1.toInt < y_3.toInt := kc_nle c_4
      refine lv_iconst (v := 1) hx hb dX2_hasPlace_20 (by decide) ?_
      refine lv_goto (tgt := 25) hx hb dX2_hasPlace_21 (by decide) ?_
      exact W.zret (v := 1) hx hb hr (by decide) (hlocks := hlocks) (fun t ht hW => ⟨1, rfl, Or.inl ⟨rfl, ⟨(om_128 j_1 i_2), (om_126 j_3 i_4)⟩⟩, ht⟩) (fun q hq => by cases hq) dX2_hasPlace_25

set_option maxHeartbeats 4000000 in
set_option maxRecDepth 100000 in
theorem c_X2_gather (l : Launch) (dC : Nat → ClassId) (dI : Nat → Nat → Nat) (q_t : Nat) (q_row : Nat) (q_joined : Nat) (q_from : Nat) (q_to : Nat) (q_size : Nat) (q_lossOf : Nat) (q_lessBy : Nat) (q_value : Nat) (q_number : Nat) (nodes : Int32) (here : Int32) (h0 : Nat) (a_v : Nat) (a_n : Nat) (cyI : ClassId) (vs : Int32) (lo : Int32) (le : Int32) (fv : Nat → Int32) (fn : Nat → Int32) (ff : Nat → Int32) (ft : Nat → Int32) (fs : Nat → Int32) (fo : Nat → Int32) (uv : Nat → Int32) (un : Nat → Int32) (p0 : Int32) (p1 : Int32) (sz : Nat) (b0 : 0 ≤ nodes.toInt) (c0 : nodes.toInt ≤ 319) (s0 : sixes fs) : kx_MQ l (dC, dI) yX2_gather wsX2_gather ({ frames := 3, cells := 0, slots := 0, locals := 135 }) [.ref q_t, .ref h0, .int p0, .int p1] [kx_2 q_t q_row q_joined q_from q_to q_size q_lossOf q_lessBy q_value q_number nodes here, kx_a q_from cyI 319 ff, kx_a q_to cyI 319 ft, kx_a q_size cyI 319 fs, kx_a q_lossOf cyI 319 fo, kx_a q_value cyI 1914 uv, kx_a q_number cyI 1914 un, kx_3 h0 a_v a_n vs lo le, kx_a a_v cyI 12 fv, kx_a a_n cyI 12 fn] [(cyI, .int)] sz (fun A => va_Qv (fun u : Int32 × Int32 × Int32 × (Nat → Int32) × (Nat → Int32) => 0 ≤ u.1.toInt ∧ u.1.toInt ≤ 12) (fun (u : Int32 × Int32 × Int32 × (Nat → Int32) × (Nat → Int32)) (t : State) => va_P (dC, dI) vwCl [kx_2 q_t q_row q_joined q_from q_to q_size q_lossOf q_lessBy q_value q_number nodes here, kx_a q_from cyI 319 ff, kx_a q_to cyI 319 ft, kx_a q_size cyI 319 fs, kx_a q_lossOf cyI 319 fo, kx_a q_value cyI 1914 uv, kx_a q_number cyI 1914 un, kx_3 h0 a_v a_n u.1 u.2.1 u.2.2.1, kx_a a_v cyI 12 u.2.2.2.1, kx_a a_n cyI 12 u.2.2.2.2] t.heap ∧ va_K (dC, dI) vwCl [(cyI, .int)] t ∧ va_D A [kx_2 q_t q_row q_joined q_from q_to q_size q_lossOf q_lessBy q_value q_number nodes here, kx_a q_from cyI 319 ff, kx_a q_to cyI 319 ft, kx_a q_size cyI 319 fs, kx_a q_lossOf cyI 319 fo, kx_a q_value cyI 1914 uv, kx_a q_number cyI 1914 un, kx_3 h0 a_v a_n u.1 u.2.1 u.2.2.1, kx_a a_v cyI 12 u.2.2.2.1, kx_a a_n cyI 12 u.2.2.2.2]) A) := by
  refine kx_stQ (ws := wsX2_gather) (cc := cX2_gather) (maxL := 6) (ret := none) (by decide) rfl (Nat.le_of_ble_eq_true rfl) ?_
  intro p e s m below meth c A ls hx hb hr hlocks hts hown hml hA hS hP hK hD hl
  have hown : s.vm.findClass RX2 = some m.cls := hown
  have hl : lv_has ls 6 [(0, .ref q_t), (1, .ref h0), (2, .int p0), (3, .int p1)] := hl
  have hf_50 := hts (.fieldLink RX2 50 "MajorityIndex$Tree" "nodes" "I") (List.mem_of_getElem? (i := 1) rfl)
  have hi_2 : ∀ w ∈ u_ws RX2 TX2 11, w ∈ wsX2_gather := fun w h => List.mem_cons_of_mem _ (List.mem_append_left _ (List.mem_append_right _ h))
  have hf_22 := hts (.fieldLink RX2 22 "MajorityIndex$Tree" "to" "[I") (List.mem_of_getElem? (i := 2) rfl)
  have hf_85 := hts (.fieldLink RX2 85 "MajorityIndex$Tree" "slotsHere" "I") (List.mem_of_getElem? (i := 3) rfl)
  refine lv_aload_n hx hb dX2_gather_0 rfl (lv_at hl 1 rfl) ?_
  obtain ⟨hPc, hDc, hFc, hCc⟩ := kx_preM (wc := [kx_3 h0 a_v a_n vs lo le]) hP hD hS hA [false, false, false, false, false, false, false, true, false, false] rfl
  have hKc := hK.sub (tys' := []) [] rfl
  refine va_callv (va_runV (As := []) (rest := []) ⟨hx, hb, hml, hown, hts⟩ (kx_un (c_X3_clear l dC dI h0 a_v a_n vs lo le s.heap.size)) (cwV 0 hts gX2_gather_X3_clear rfl rfl rfl (by decide +kernel) ⟨Nat.le_of_ble_eq_true rfl, Nat.le_of_ble_eq_true rfl⟩) ⟨fun a U g mk q => by obtain ⟨q0, q1, qP, qK, qD⟩ := q; exact ⟨q0, q1, qP, va_K.moved (u := U) (U := U.calling g mk a) (Vm.Alike.refl U.vm) qK, qD⟩, kx_rc3 hKc hPc (q0 := 0) rfl, fun U hU hW => ⟨rfl, by rw [hU], by rw [hU]; exact hPc, va_K.moved hW.alike hKc, hDc.weaken (fun _ _ _ _ => trivial)⟩⟩ rfl rfl hl.1 rfl (lv_room (Nat.le_of_ble_eq_true rfl)) dX2_gather_1 ⟨Nat.le_of_ble_eq_true rfl, Nat.le_of_ble_eq_true rfl⟩) hS (fun q _ h => hFc q h) hFc (fun u t H1 locs ht hvm w_1 hB hz1 hk1 hS => ?_)
  obtain ⟨hP1, hK1, hD1⟩ := hB
  rw [ht] at hP1
  have hK1 := va_K.moved hvm.symm hK1
  obtain ⟨hP, hD⟩ := kx_joinM (w2 := [kx_2 q_t q_row q_joined q_from q_to q_size q_lossOf q_lessBy q_value q_number nodes here, kx_a q_from cyI 319 ff, kx_a q_to cyI 319 ft, kx_a q_size cyI 319 fs, kx_a q_lossOf cyI 319 fo, kx_a q_value cyI 1914 uv, kx_a q_number cyI 1914 un, kx_3 h0 a_v a_n 0 0 0, kx_a a_v cyI 12 fv, kx_a a_n cyI 12 fn]) hP hD hP1 hD1 hk1 hFc [false, false, false, false, false, false, false, true, false, false] hCc rfl
  clear hP1 hD1 hK1 hk1 hz1 hFc hDc hPc hKc hCc
  generalize H1 = H at hP hS ⊢
  refine lv_iload_n hx hb dX2_gather_4 rfl (lv_at hl 2 rfl) ?_
  refine lv_istore (lv' := [(4, .int p0), (0, .ref q_t), (1, .ref h0), (2, .int p0), (3, .int p1)]) hx hb dX2_gather_5 hl (by decide) rfl (fun ls hl => ?_)
  refine lv_iconst (v := 0) hx hb dX2_gather_7 (by decide) ?_
  refine lv_istore (lv' := [(5, .int 0), (4, .int p0), (0, .ref q_t), (1, .ref h0), (2, .int p0), (3, .int p1)]) hx hb dX2_gather_8 hl (by decide) rfl (fun ls hl => ?_)
  have LP1 : ∀ (n : Nat) (i : Int32) (nxt : Int32) (zz : Int32) (zl : Int32) (zb : Int32) (yv : Nat → Int32) (yn : Nat → Int32), (0 ≤ i.toInt) → (0 ≤ zz.toInt) → (zz.toInt ≤ 12) → (nodes.toInt - i.toInt).toNat < n → ∀ (H : Heap) (locs : List Loc), va_P (dC, dI) vwCl [kx_2 q_t q_row q_joined q_from q_to q_size q_lossOf q_lessBy q_value q_number nodes here, kx_a q_from cyI 319 ff, kx_a q_to cyI 319 ft, kx_a q_size cyI 319 fs, kx_a q_lossOf cyI 319 fo, kx_a q_value cyI 1914 uv, kx_a q_number cyI 1914 un, kx_3 h0 a_v a_n zz zl zb, kx_a a_v cyI 12 yv, kx_a a_n cyI 12 yn] H → va_D A [kx_2 q_t q_row q_joined q_from q_to q_size q_lossOf q_lessBy q_value q_number nodes here, kx_a q_from cyI 319 ff, kx_a q_to cyI 319 ft, kx_a q_size cyI 319 fs, kx_a q_lossOf cyI 319 fo, kx_a q_value cyI 1914 uv, kx_a q_number cyI 1914 un, kx_3 h0 a_v a_n zz zl zb, kx_a a_v cyI 12 yv, kx_a a_n cyI 12 yn] → va_S A s.heap H locs → ∀ (ls : Array Slot), lv_has ls 6 [(5, .int i), (4, .int nxt), (0, .ref q_t), (1, .ref h0), (2, .int p0), (3, .int p1)] → W p l e (headSpec wsX2_gather ({ frames := 3, cells := 0, slots := 0, locals := 135 })).room s m ([.ref q_t, .ref h0, .int p0, .int p1] : List Value).toArray below meth c H locs 0 0 (MQ below (va_Qv (fun u : Int32 × Int32 × Int32 × (Nat → Int32) × (Nat → Int32) => 0 ≤ u.1.toInt ∧ u.1.toInt ≤ 12) (fun (u : Int32 × Int32 × Int32 × (Nat → Int32) × (Nat → Int32)) (t : State) => va_P (dC, dI) vwCl [kx_2 q_t q_row q_joined q_from q_to q_size q_lossOf q_lessBy q_value q_number nodes here, kx_a q_from cyI 319 ff, kx_a q_to cyI 319 ft, kx_a q_size cyI 319 fs, kx_a q_lossOf cyI 319 fo, kx_a q_value cyI 1914 uv, kx_a q_number cyI 1914 un, kx_3 h0 a_v a_n u.1 u.2.1 u.2.2.1, kx_a a_v cyI 12 u.2.2.2.1, kx_a a_n cyI 12 u.2.2.2.2] t.heap ∧ va_K (dC, dI) vwCl [(cyI, .int)] t ∧ va_D A [kx_2 q_t q_row q_joined q_from q_to q_size q_lossOf q_lessBy q_value q_number nodes here, kx_a q_from cyI 319 ff, kx_a q_to cyI 319 ft, kx_a q_size cyI 319 fs, kx_a q_lossOf cyI 319 fo, kx_a q_value cyI 1914 uv, kx_a q_number cyI 1914 un, kx_3 h0 a_v a_n u.1 u.2.1 u.2.2.1, kx_a a_v cyI 12 u.2.2.2.1, kx_a a_n cyI 12 u.2.2.2.2]) A) ([.ref q_t, .ref h0, .int p0, .int p1] : List Value).toArray s 0 0 A) (F0 m 10 ls []) := by
    intro n
    induction n with
    | zero => intro i nxt zz zl zb yv yn LP1_h0 LP1_h1 LP1_h2 hn; exact absurd hn (Nat.not_lt_zero _)
    | succ n ih1 =>
      intro i nxt zz zl zb yv yn LP1_h0 LP1_h1 LP1_h2 hn1 H locs hP hD hS ls hl
      refine lv_iload hx hb dX2_gather_10 (lv_at hl 0 rfl) ?_
      refine lv_aload_n hx hb dX2_gather_12 rfl (lv_at hl 2 rfl) ?_
      refine va_get (D := (dC, dI)) (ci := 2) (v := .int nodes) (C := RX2) (T := TX2) (N := 11) hx hb hts hi_2 hown hK hP 0 rfl rfl 9 (by decide) hf_50 (fun _ h9 => h9) rfl dX2_gather_13 ?_
      refine lv_icmp_ge (tgt := 61) hx hb dX2_gather_16 (by decide) (fun c_2 => ?_) (fun c_2 => ?_)
      · have i_2 : nodes.toInt ≤ i.toInt := kc_le c_2
        have hP9 := hP
        have hD9 := hD
        have hK9 := hK
        exact W.vret hx hb hr (hlocks := hlocks) (fun t ht hW => ⟨⟨(zz, zl, zb, yv, yn), rfl, (by (try dsimp only); omega), by rw [ht]; exact hP9, va_K.moved hW.alike hK9, hD9⟩, hS.F ht⟩) hS.2.2 dX2_gather_61
      · have i_2 : i.toInt < nodes.toInt := kc_nle c_2
        refine lv_aload_n hx hb dX2_gather_19 rfl (lv_at hl 2 rfl) ?_
        refine lv_iload hx hb dX2_gather_20 (lv_at hl 0 rfl) ?_
        refine lv_iload hx hb dX2_gather_22 (lv_at hl 1 rfl) ?_
        refine lv_iload_n hx hb dX2_gather_24 rfl (lv_at hl 5 rfl) ?_
        have hPc := hP.sub (ws' := [kx_2 q_t q_row q_joined q_from q_to q_size q_lossOf q_lessBy q_value q_number nodes here, kx_a q_from cyI 319 ff, kx_a q_to cyI 319 ft]) [0, 1, 2] rfl
        have hKc := hK
        refine vp_callSi (W.runV (As := [.int i, .int nxt, .int p1]) (rest := []) ⟨hx, hb, hml, hown, hts⟩ (c_X2_isPart l dC dI q_t q_row q_joined q_from q_to q_size q_lossOf q_lessBy q_value q_number nodes here cyI ff ft i nxt p1 LP1_h0 (om_122 c0 i_2)) (cwV 3 hts gX2_gather_X2_isPart rfl rfl rfl (by decide +kernel) ⟨Nat.le_of_ble_eq_true rfl, Nat.le_of_ble_eq_true rfl⟩) ⟨fun a U g mk q => by obtain ⟨q0, qP, qK⟩ := q; exact ⟨q0, qP, va_K.moved (u := U) (U := U.calling g mk a) (Vm.Alike.refl U.vm) qK⟩, kx_rc2 hKc hPc (q0 := 0) rfl, fun U hU hW => ⟨rfl, by rw [hU]; exact hPc, va_K.moved hW.alike hKc⟩⟩ rfl rfl hl.1 rfl (lv_room (Nat.le_of_ble_eq_true rfl)) dX2_gather_25 ⟨Nat.le_of_ble_eq_true rfl, Nat.le_of_ble_eq_true rfl⟩) (fun r_3 w_3 => ?_)
        rcases w_3 with ⟨rfl, w_3⟩ | ⟨rfl, w_3⟩
        · have w_3 : ((ff i.toNatClampNeg).toInt = nxt.toInt ∧ (ft i.toNatClampNeg).toInt ≤ p1.toInt) := w_3
          refine lv_if_eq (tgt := 55) hx hb dX2_gather_28 (by decide) (fun c_4 => ?_) (fun c_4 => ?_)
          · exact absurd c_4 (by decide)
          · refine lv_aload_n hx hb dX2_gather_31 rfl (lv_at hl 2 rfl) ?_
            refine va_get (D := (dC, dI)) (ci := 2) (v := .ref q_to) (C := RX2) (T := TX2) (N := 11) hx hb hts hi_2 hown hK hP 0 rfl rfl 3 (by decide) hf_22 (fun _ h9 => h9) rfl dX2_gather_32 ?_
            refine lv_iload hx hb dX2_gather_35 (lv_at hl 0 rfl) ?_
            refine va_iald hx hb hK hP 2 0 rfl rfl (ki_in (om_10 LP1_h0) (om_115 c0 i_2)) dX2_gather_37 ?_
            refine lv_topi (fun y_5 ey_5 => ?_)
            have j_5 : y_5.toInt = (ft i.toNatClampNeg).toInt := congrArg Int32.toInt ey_5
            refine lv_istore (lv' := [(4, .int y_5), (5, .int i), (0, .ref q_t), (1, .ref h0), (2, .int p0), (3, .int p1)]) hx hb dX2_gather_38 hl (by decide) rfl (fun ls hl => ?_)
            refine lv_aload_n hx hb dX2_gather_40 rfl (lv_at hl 2 rfl) ?_
            refine lv_aload_n hx hb dX2_gather_41 rfl (lv_at hl 3 rfl) ?_
            refine lv_iload hx hb dX2_gather_42 (lv_at hl 1 rfl) ?_
            obtain ⟨hPc, hDc, hFc, hCc⟩ := kx_preM (wc := [kx_2 q_t q_row q_joined q_from q_to q_size q_lossOf q_lessBy q_value q_number nodes here, kx_a q_size cyI 319 fs, kx_a q_lossOf cyI 319 fo, kx_a q_value cyI 1914 uv, kx_a q_number cyI 1914 un, kx_3 h0 a_v a_n zz zl zb, kx_a a_v cyI 12 yv, kx_a a_n cyI 12 yn]) hP hD hS hA [true, false, false, true, true, true, true, true, true, true] rfl
            have hKc := hK
            refine va_callv (va_runV (As := [.ref h0, .int i]) (rest := []) ⟨hx, hb, hml, hown, hts⟩ (kx_un (c_X2_joinNode l dC dI q_t q_row q_joined q_from q_to q_size q_lossOf q_lessBy q_value q_number nodes here h0 a_v a_n cyI zz zl zb yv yn fs fo uv un i H.size LP1_h1 LP1_h2 LP1_h0 (om_122 c0 i_2) s0)) (cwV 2 hts gX2_gather_X2_joinNode rfl rfl rfl (by decide +kernel) ⟨Nat.le_of_ble_eq_true rfl, Nat.le_of_ble_eq_true rfl⟩) ⟨fun a U g mk q => by obtain ⟨q0, q1, qP, qK, qD⟩ := q; exact ⟨q0, q1, qP, va_K.moved (u := U) (U := U.calling g mk a) (Vm.Alike.refl U.vm) qK, qD⟩, kx_rc2 hKc hPc (q0 := 0) rfl, fun U hU hW => ⟨rfl, by rw [hU], by rw [hU]; exact hPc, va_K.moved hW.alike hKc, hDc.weaken (fun _ _ _ _ => trivial)⟩⟩ rfl rfl hl.1 rfl (lv_room (Nat.le_of_ble_eq_true rfl)) dX2_gather_44 ⟨Nat.le_of_ble_eq_true rfl, Nat.le_of_ble_eq_true rfl⟩) hS (fun q _ h => hFc q h) hFc (fun u t H1 locs ht hvm w_6 hB hz1 hk1 hS => ?_)
            obtain ⟨o_7, o_8, o_9, o_10⟩ := u
            dsimp only at w_6 hB
            obtain ⟨hP1, hK1, hD1⟩ := hB
            rw [ht] at hP1
            have hK1 := va_K.moved hvm.symm hK1
            obtain ⟨hP, hD⟩ := kx_joinM (w2 := [kx_2 q_t q_row q_joined q_from q_to q_size q_lossOf q_lessBy q_value q_number nodes here, kx_a q_from cyI 319 ff, kx_a q_to cyI 319 ft, kx_a q_size cyI 319 fs, kx_a q_lossOf cyI 319 fo, kx_a q_value cyI 1914 uv, kx_a q_number cyI 1914 un, kx_3 h0 a_v a_n o_7 o_8 zb, kx_a a_v cyI 12 o_9, kx_a a_n cyI 12 o_10]) hP hD hP1 hD1 hk1 hFc [true, false, false, true, true, true, true, true, true, true] hCc rfl
            clear hP1 hD1 hK1 hk1 hz1 hFc hDc hPc hKc hCc
            generalize H1 = H at hP hS ⊢
            have w_6 : 0 ≤ o_7.toInt ∧ o_7.toInt ≤ 12 := w_6
            refine lv_aload_n hx hb dX2_gather_47 rfl (lv_at hl 3 rfl) ?_
            refine lv_aload_n hx hb dX2_gather_48 rfl (lv_at hl 2 rfl) ?_
            refine va_get (D := (dC, dI)) (ci := 2) (v := .int here) (C := RX2) (T := TX2) (N := 11) hx hb hts hi_2 hown hK hP 0 rfl rfl 10 (by decide) hf_85 (fun _ h9 => h9) rfl dX2_gather_49 ?_
            obtain ⟨hPc, hDc, hFc, hCc⟩ := kx_preM (wc := [kx_3 h0 a_v a_n o_7 o_8 zb, kx_a a_v cyI 12 o_9, kx_a a_n cyI 12 o_10]) hP hD hS hA [false, false, false, false, false, false, false, true, true, true] rfl
            have hKc := hK
            refine va_callv (va_runV (As := [.int here]) (rest := []) ⟨hx, hb, hml, hown, hts⟩ (kx_un (c_X3_cancel l dC dI h0 a_v a_n cyI o_7 o_8 zb o_9 o_10 here H.size w_6.1 w_6.2)) (cwV 1 hts gX2_gather_X3_cancel rfl rfl rfl (by decide +kernel) ⟨Nat.le_of_ble_eq_true rfl, Nat.le_of_ble_eq_true rfl⟩) ⟨fun a U g mk q => by obtain ⟨q0, q1, qP, qK, qD⟩ := q; exact ⟨q0, q1, qP, va_K.moved (u := U) (U := U.calling g mk a) (Vm.Alike.refl U.vm) qK, qD⟩, kx_rc3 hKc hPc (q0 := 0) rfl, fun U hU hW => ⟨rfl, by rw [hU], by rw [hU]; exact hPc, va_K.moved hW.alike hKc, hDc.weaken (fun _ _ _ _ => trivial)⟩⟩ rfl rfl hl.1 rfl (lv_room (Nat.le_of_ble_eq_true rfl)) dX2_gather_52 ⟨Nat.le_of_ble_eq_true rfl, Nat.le_of_ble_eq_true rfl⟩) hS (fun q _ h => hFc q h) hFc (fun u t H1 locs ht hvm w_11 hB hz1 hk1 hS => ?_)
            obtain ⟨o_12, o_13, o_14, o_15, o_16⟩ := u
            dsimp only at w_11 hB
            obtain ⟨hP1, hK1, hD1⟩ := hB
            rw [ht] at hP1
            have hK1 := va_K.moved hvm.symm hK1
            obtain ⟨hP, hD⟩ := kx_joinM (w2 := [kx_2 q_t q_row q_joined q_from q_to q_size q_lossOf q_lessBy q_value q_number nodes here, kx_a q_from cyI 319 ff, kx_a q_to cyI 319 ft, kx_a q_size cyI 319 fs, kx_a q_lossOf cyI 319 fo, kx_a q_value cyI 1914 uv, kx_a q_number cyI 1914 un, kx_3 h0 a_v a_n o_12 o_13 o_14, kx_a a_v cyI 12 o_15, kx_a a_n cyI 12 o_16]) hP hD hP1 hD1 hk1 hFc [false, false, false, false, false, false, false, true, true, true] hCc rfl
            clear hP1 hD1 hK1 hk1 hz1 hFc hDc hPc hKc hCc
            generalize H1 = H at hP hS ⊢
            have w_11 : 0 ≤ o_12.toInt ∧ o_12.toInt ≤ o_7.toInt := w_11
            obtain ⟨x_17, ex_17⟩ : ∃ y : Int32, y = i + 1 := ⟨_, rfl⟩
            have i_17 : x_17.toInt = i.toInt + 1 := ki_add ex_17 rfl rfl (om_13 LP1_h0) (om_125 c0 i_2)
            refine lv_iinc (v := x_17) (lv' := [(5, .int x_17), (4, .int y_5), (0, .ref q_t), (1, .ref h0), (2, .int p0), (3, .int p1)]) hx hb dX2_gather_55 hl (k := 1) rfl (by rw [ex_17]; rfl) (by decide) rfl (fun ls hl => ?_)
            refine lv_goto (tgt := 10) hx hb dX2_gather_58 (by decide) ?_
            exact ih1 x_17 y_5 o_12 o_13 o_14 o_15 o_16 (om_34 LP1_h0 i_17) (om_10 w_11.1) (om_129 w_6.2 w_11.2) (om_mu hn1 (om_5 i_17) (om_6 i_2)) _ _ hP hD hS ls (lv_sub hl [0, 1, 2, 3, 4, 5] rfl)
        · have w_3 : (¬ (ff i.toNatClampNeg).toInt = nxt.toInt ∨ p1.toInt < (ft i.toNatClampNeg).toInt) := w_3
          refine lv_if_eq (tgt := 55) hx hb dX2_gather_28 (by decide) (fun c_18 => ?_) (fun c_18 => ?_)
          · obtain ⟨x_19, ex_19⟩ : ∃ y : Int32, y = i + 1 := ⟨_, rfl⟩
            have i_19 : x_19.toInt = i.toInt + 1 := ki_add ex_19 rfl rfl (om_13 LP1_h0) (om_125 c0 i_2)
            refine lv_iinc (v := x_19) (lv' := [(5, .int x_19), (4, .int nxt), (0, .ref q_t), (1, .ref h0), (2, .int p0), (3, .int p1)]) hx hb dX2_gather_55 hl (k := 0) rfl (by rw [ex_19]; rfl) (by decide) rfl (fun ls hl => ?_)
            refine lv_goto (tgt := 10) hx hb dX2_gather_58 (by decide) ?_
            exact ih1 x_19 nxt zz zl zb yv yn (om_34 LP1_h0 i_19) (om_10 LP1_h1) (om_60 LP1_h2) (om_mu hn1 (om_5 i_19) (om_6 i_2)) _ _ hP hD hS ls (lv_sub hl [0, 1, 2, 3, 4, 5] rfl)
          · exact absurd c_18 (by decide)
  have k_20 : (0 : Int32).toInt = 0 := rfl
  have k_21 : (0 : Int32).toInt = 0 := rfl
  have k_22 : (0 : Int32).toInt = 0 := rfl
  have k_23 : (0 : Int32).toInt = 0 := rfl
  exact LP1 ((nodes.toInt - 0 : Int).toNat + 1) 0 p0 0 0 0 fv fn om_35 om_35 om_104 (Nat.lt_succ_self _) _ _ hP hD hS ls (lv_sub hl [0, 1, 2, 3, 4, 5] rfl)

set_option maxHeartbeats 4000000 in
set_option maxRecDepth 100000 in
theorem c_X2_depthAt (l : Launch) (dC : Nat → ClassId) (dI : Nat → Nat → Nat) (q_t : Nat) (q_row : Nat) (q_joined : Nat) (q_from : Nat) (q_to : Nat) (q_size : Nat) (q_lossOf : Nat) (q_lessBy : Nat) (q_value : Nat) (q_number : Nat) (nodes : Int32) (here : Int32) (cyI : ClassId) (ff : Nat → Int32) (ft : Nat → Int32) (p0 : Int32) (b0 : 0 ≤ nodes.toInt) (c0 : nodes.toInt ≤ 319) : Met l yX2_depthAt wsX2_depthAt ({ frames := 1, cells := 0, slots := 0, locals := 45 }) (va_Pc [.ref q_t, .int p0] (fun U => va_P (dC, dI) vwCl [kx_2 q_t q_row q_joined q_from q_to q_size q_lossOf q_lessBy q_value q_number nodes here, kx_a q_from cyI 319 ff, kx_a q_to cyI 319 ft] U.heap ∧ va_K (dC, dI) vwCl [(cyI, .int)] U)) (vp_Si (fun r : Int32 => True)) 0 0 (fun _ => False) := by
  refine kx_stS (ws := wsX2_depthAt) (cc := cX2_depthAt) (maxL := 4) (ret := (some .int)) (by decide) rfl (Nat.le_of_ble_eq_true rfl) ?_
  intro p e s m below meth c ls hx hb hr hlocks hts hown hml hP hK hl
  have hown : s.vm.findClass RX2 = some m.cls := hown
  have hl : lv_has ls 4 [(0, .ref q_t), (1, .int p0)] := hl
  have hf_50 := hts (.fieldLink RX2 50 "MajorityIndex$Tree" "nodes" "I") (List.mem_of_getElem? (i := 1) rfl)
  have hi_2 : ∀ w ∈ u_ws RX2 TX2 11, w ∈ wsX2_depthAt := fun w h => List.mem_cons_of_mem _ (List.mem_append_right _ h)
  refine lv_iconst (v := 0) hx hb dX2_depthAt_0 (by decide) ?_
  refine lv_istore_n (lv' := [(2, .int 0), (0, .ref q_t), (1, .int p0)]) hx hb dX2_depthAt_1 rfl hl (by decide) rfl (fun ls hl => ?_)
  refine lv_iconst (v := 0) hx hb dX2_depthAt_2 (by decide) ?_
  refine lv_istore_n (lv' := [(3, .int 0), (2, .int 0), (0, .ref q_t), (1, .int p0)]) hx hb dX2_depthAt_3 rfl hl (by decide) rfl (fun ls hl => ?_)
  have LP1 : ∀ (n : Nat) (i : Int32) (deep : Int32), (0 ≤ i.toInt) → (nodes.toInt - i.toInt).toNat < n → ∀ (ls : Array Slot), lv_has ls 4 [(3, .int i), (2, .int deep), (0, .ref q_t), (1, .int p0)] → W p l e (headSpec wsX2_depthAt ({ frames := 1, cells := 0, slots := 0, locals := 45 })).room s m ([.ref q_t, .int p0] : List Value).toArray below meth c s.heap [] 0 0 (MQ below (vp_Si (fun r : Int32 => True)) ([.ref q_t, .int p0] : List Value).toArray s 0 0 (fun _ => False)) (F0 m 4 ls []) := by
    intro n
    induction n with
    | zero => intro i deep LP1_h0 hn; exact absurd hn (Nat.not_lt_zero _)
    | succ n ih1 =>
      intro i deep LP1_h0 hn1 ls hl
      refine lv_iload_n hx hb dX2_depthAt_4 rfl (lv_at hl 0 rfl) ?_
      refine lv_aload_n hx hb dX2_depthAt_5 rfl (lv_at hl 2 rfl) ?_
      refine va_get (D := (dC, dI)) (ci := 2) (v := .int nodes) (C := RX2) (T := TX2) (N := 11) hx hb hts hi_2 hown hK hP 0 rfl rfl 9 (by decide) hf_50 (fun _ h9 => h9) rfl dX2_depthAt_6 ?_
      refine lv_icmp_ge (tgt := 30) hx hb dX2_depthAt_9 (by decide) (fun c_1 => ?_) (fun c_1 => ?_)
      · have i_1 : nodes.toInt ≤ i.toInt := kc_le c_1
        refine lv_iload_n hx hb dX2_depthAt_30 rfl (lv_at hl 1 rfl) ?_
        exact W.iret (v := deep) hx hb hr (hlocks := hlocks) (fun t ht hW => ⟨deep, rfl, trivial, ht⟩) (fun q hq => by cases hq) dX2_depthAt_31
      · have i_1 : i.toInt < nodes.toInt := kc_nle c_1
        refine lv_aload_n hx hb dX2_depthAt_12 rfl (lv_at hl 2 rfl) ?_
        refine lv_iload_n hx hb dX2_depthAt_13 rfl (lv_at hl 0 rfl) ?_
        refine lv_iload_n hx hb dX2_depthAt_14 rfl (lv_at hl 3 rfl) ?_
        have hPc := hP
        have hKc := hK
        refine vp_callSi (W.runV (As := [.int i, .int p0]) (rest := []) ⟨hx, hb, hml, hown, hts⟩ (c_X2_hasPlace l dC dI q_t q_row q_joined q_from q_to q_size q_lossOf q_lessBy q_value q_number nodes here cyI ff ft i p0 LP1_h0 (om_122 c0 i_1)) (cwV 2 hts gX2_depthAt_X2_hasPlace rfl rfl rfl (by decide +kernel) ⟨Nat.le_of_ble_eq_true rfl, Nat.le_of_ble_eq_true rfl⟩) ⟨fun a U g mk q => by obtain ⟨q0, qP, qK⟩ := q; exact ⟨q0, qP, va_K.moved (u := U) (U := U.calling g mk a) (Vm.Alike.refl U.vm) qK⟩, kx_rc2 hKc hPc (q0 := 0) rfl, fun U hU hW => ⟨rfl, by rw [hU]; exact hPc, va_K.moved hW.alike hKc⟩⟩ rfl rfl hl.1 rfl (lv_room (Nat.le_of_ble_eq_true rfl)) dX2_depthAt_15 ⟨Nat.le_of_ble_eq_true rfl, Nat.le_of_ble_eq_true rfl⟩) (fun r_2 w_2 => ?_)
        rcases w_2 with ⟨rfl, w_2⟩ | ⟨rfl, w_2⟩
        · have w_2 : ((ff i.toNatClampNeg).toInt ≤ p0.toInt ∧ p0.toInt < (ft i.toNatClampNeg).toInt) := w_2
          refine lv_if_eq (tgt := 24) hx hb dX2_depthAt_18 (by decide) (fun c_3 => ?_) (fun c_3 => ?_)
          · exact absurd c_3 (by decide)
          · obtain ⟨x_4, ex_4⟩ : ∃ y : Int32, y = deep + 1 := ⟨_, rfl⟩
            refine lv_iinc (v := x_4) (lv' := [(2, .int x_4), (3, .int i), (0, .ref q_t), (1, .int p0)]) hx hb dX2_depthAt_21 hl (k := 1) rfl (by rw [ex_4]; rfl) (by decide) rfl (fun ls hl => ?_)
            obtain ⟨x_5, ex_5⟩ : ∃ y : Int32, y = i + 1 := ⟨_, rfl⟩
            have i_5 : x_5.toInt = i.toInt + 1 := ki_add ex_5 rfl rfl (om_13 LP1_h0) (om_125 c0 i_1)
            refine lv_iinc (v := x_5) (lv' := [(3, .int x_5), (2, .int x_4), (0, .ref q_t), (1, .int p0)]) hx hb dX2_depthAt_24 hl (k := 1) rfl (by rw [ex_5]; rfl) (by decide) rfl (fun ls hl => ?_)
            refine lv_goto (tgt := 4) hx hb dX2_depthAt_27 (by decide) ?_
            exact ih1 x_5 x_4 (om_34 LP1_h0 i_5) (om_mu hn1 (om_5 i_5) (om_6 i_1)) ls (lv_sub hl [0, 1, 2, 3] rfl)
        · have w_2 : (p0.toInt < (ff i.toNatClampNeg).toInt ∨ (ft i.toNatClampNeg).toInt ≤ p0.toInt) := w_2
          refine lv_if_eq (tgt := 24) hx hb dX2_depthAt_18 (by decide) (fun c_6 => ?_) (fun c_6 => ?_)
          · obtain ⟨x_7, ex_7⟩ : ∃ y : Int32, y = i + 1 := ⟨_, rfl⟩
            have i_7 : x_7.toInt = i.toInt + 1 := ki_add ex_7 rfl rfl (om_13 LP1_h0) (om_125 c0 i_1)
            refine lv_iinc (v := x_7) (lv' := [(3, .int x_7), (2, .int deep), (0, .ref q_t), (1, .int p0)]) hx hb dX2_depthAt_24 hl (k := 0) rfl (by rw [ex_7]; rfl) (by decide) rfl (fun ls hl => ?_)
            refine lv_goto (tgt := 4) hx hb dX2_depthAt_27 (by decide) ?_
            exact ih1 x_7 deep (om_34 LP1_h0 i_7) (om_mu hn1 (om_5 i_7) (om_6 i_1)) ls (lv_sub hl [0, 1, 2, 3] rfl)
          · exact absurd c_6 (by decide)
  have k_8 : (0 : Int32).toInt = 0 := rfl
  have k_9 : (0 : Int32).toInt = 0 := rfl
  exact LP1 ((nodes.toInt - 0 : Int).toNat + 1) 0 0 om_35 (Nat.lt_succ_self _) ls (lv_sub hl [0, 1, 2, 3] rfl)

set_option maxHeartbeats 4000000 in
set_option maxRecDepth 100000 in
theorem c_X2_onPath (l : Launch) (dC : Nat → ClassId) (dI : Nat → Nat → Nat) (q_t : Nat) (q_row : Nat) (q_joined : Nat) (q_from : Nat) (q_to : Nat) (q_size : Nat) (q_lossOf : Nat) (q_lessBy : Nat) (q_value : Nat) (q_number : Nat) (nodes : Int32) (here : Int32) (cyI : ClassId) (ff : Nat → Int32) (ft : Nat → Int32) (p0 : Int32) (p1 : Int32) (b0 : 0 ≤ nodes.toInt) (c0 : nodes.toInt ≤ 319) : Met l yX2_onPath wsX2_onPath ({ frames := 1, cells := 0, slots := 0, locals := 45 }) (va_Pc [.ref q_t, .int p0, .int p1] (fun U => va_P (dC, dI) vwCl [kx_2 q_t q_row q_joined q_from q_to q_size q_lossOf q_lessBy q_value q_number nodes here, kx_a q_from cyI 319 ff, kx_a q_to cyI 319 ft] U.heap ∧ va_K (dC, dI) vwCl [(cyI, .int)] U)) (vp_Si (fun r : Int32 => (r.toInt = -1 ∨ (0 ≤ r.toInt ∧ r.toInt < nodes.toInt)))) 0 0 (fun _ => False) := by
  refine kx_stS (ws := wsX2_onPath) (cc := cX2_onPath) (maxL := 5) (ret := (some .int)) (by decide) rfl (Nat.le_of_ble_eq_true rfl) ?_
  intro p e s m below meth c ls hx hb hr hlocks hts hown hml hP hK hl
  have hown : s.vm.findClass RX2 = some m.cls := hown
  have hl : lv_has ls 5 [(0, .ref q_t), (1, .int p0), (2, .int p1)] := hl
  have hf_50 := hts (.fieldLink RX2 50 "MajorityIndex$Tree" "nodes" "I") (List.mem_of_getElem? (i := 1) rfl)
  have hi_2 : ∀ w ∈ u_ws RX2 TX2 11, w ∈ wsX2_onPath := fun w h => List.mem_cons_of_mem _ (List.mem_append_right _ h)
  refine lv_iconst (v := 0) hx hb dX2_onPath_0 (by decide) ?_
  refine lv_istore_n (lv' := [(3, .int 0), (0, .ref q_t), (1, .int p0), (2, .int p1)]) hx hb dX2_onPath_1 rfl hl (by decide) rfl (fun ls hl => ?_)
  refine lv_iconst (v := 0) hx hb dX2_onPath_2 (by decide) ?_
  refine lv_istore (lv' := [(4, .int 0), (3, .int 0), (0, .ref q_t), (1, .int p0), (2, .int p1)]) hx hb dX2_onPath_3 hl (by decide) rfl (fun ls hl => ?_)
  have LP1 : ∀ (n : Nat) (i : Int32) (seen : Int32), (0 ≤ i.toInt) → (nodes.toInt - i.toInt).toNat < n → ∀ (ls : Array Slot), lv_has ls 5 [(4, .int i), (3, .int seen), (0, .ref q_t), (1, .int p0), (2, .int p1)] → W p l e (headSpec wsX2_onPath ({ frames := 1, cells := 0, slots := 0, locals := 45 })).room s m ([.ref q_t, .int p0, .int p1] : List Value).toArray below meth c s.heap [] 0 0 (MQ below (vp_Si (fun r : Int32 => (r.toInt = -1 ∨ (0 ≤ r.toInt ∧ r.toInt < nodes.toInt)))) ([.ref q_t, .int p0, .int p1] : List Value).toArray s 0 0 (fun _ => False)) (F0 m 5 ls []) := by
    intro n
    induction n with
    | zero => intro i seen LP1_h0 hn; exact absurd hn (Nat.not_lt_zero _)
    | succ n ih1 =>
      intro i seen LP1_h0 hn1 ls hl
      refine lv_iload hx hb dX2_onPath_5 (lv_at hl 0 rfl) ?_
      refine lv_aload_n hx hb dX2_onPath_7 rfl (lv_at hl 2 rfl) ?_
      refine va_get (D := (dC, dI)) (ci := 2) (v := .int nodes) (C := RX2) (T := TX2) (N := 11) hx hb hts hi_2 hown hK hP 0 rfl rfl 9 (by decide) hf_50 (fun _ h9 => h9) rfl dX2_onPath_8 ?_
      refine lv_icmp_ge (tgt := 41) hx hb dX2_onPath_11 (by decide) (fun c_1 => ?_) (fun c_1 => ?_)
      · have i_1 : nodes.toInt ≤ i.toInt := kc_le c_1
        refine lv_iconst (v := (-1)) hx hb dX2_onPath_41 (by decide) ?_
        exact W.iret (v := (-1)) hx hb hr (hlocks := hlocks) (fun t ht hW => ⟨(-1), rfl, (Or.inl rfl), ht⟩) (fun q hq => by cases hq) dX2_onPath_42
      · have i_1 : i.toInt < nodes.toInt := kc_nle c_1
        refine lv_aload_n hx hb dX2_onPath_14 rfl (lv_at hl 2 rfl) ?_
        refine lv_iload hx hb dX2_onPath_15 (lv_at hl 0 rfl) ?_
        refine lv_iload_n hx hb dX2_onPath_17 rfl (lv_at hl 3 rfl) ?_
        have hPc := hP
        have hKc := hK
        refine vp_callSi (W.runV (As := [.int i, .int p0]) (rest := []) ⟨hx, hb, hml, hown, hts⟩ (c_X2_hasPlace l dC dI q_t q_row q_joined q_from q_to q_size q_lossOf q_lessBy q_value q_number nodes here cyI ff ft i p0 LP1_h0 (om_122 c0 i_1)) (cwV 2 hts gX2_onPath_X2_hasPlace rfl rfl rfl (by decide +kernel) ⟨Nat.le_of_ble_eq_true rfl, Nat.le_of_ble_eq_true rfl⟩) ⟨fun a U g mk q => by obtain ⟨q0, qP, qK⟩ := q; exact ⟨q0, qP, va_K.moved (u := U) (U := U.calling g mk a) (Vm.Alike.refl U.vm) qK⟩, kx_rc2 hKc hPc (q0 := 0) rfl, fun U hU hW => ⟨rfl, by rw [hU]; exact hPc, va_K.moved hW.alike hKc⟩⟩ rfl rfl hl.1 rfl (lv_room (Nat.le_of_ble_eq_true rfl)) dX2_onPath_18 ⟨Nat.le_of_ble_eq_true rfl, Nat.le_of_ble_eq_true rfl⟩) (fun r_2 w_2 => ?_)
        rcases w_2 with ⟨rfl, w_2⟩ | ⟨rfl, w_2⟩
        · have w_2 : ((ff i.toNatClampNeg).toInt ≤ p0.toInt ∧ p0.toInt < (ft i.toNatClampNeg).toInt) := w_2
          refine lv_if_eq (tgt := 35) hx hb dX2_onPath_21 (by decide) (fun c_3 => ?_) (fun c_3 => ?_)
          · exact absurd c_3 (by decide)
          · refine lv_iload_n hx hb dX2_onPath_24 rfl (lv_at hl 1 rfl) ?_
            refine lv_iload_n hx hb dX2_onPath_25 rfl (lv_at hl 4 rfl) ?_
            refine lv_icmp_ne (tgt := 32) hx hb dX2_onPath_26 (by decide) (fun c_4 => ?_) (fun c_4 => ?_)
            · have i_4 : ¬ seen.toInt = p1.toInt := kc_ne c_4
              obtain ⟨x_5, ex_5⟩ : ∃ y : Int32, y = seen + 1 := ⟨_, rfl⟩
              refine lv_iinc (v := x_5) (lv' := [(3, .int x_5), (4, .int i), (0, .ref q_t), (1, .int p0), (2, .int p1)]) hx hb dX2_onPath_32 hl (k := 1) rfl (by rw [ex_5]; rfl) (by decide) rfl (fun ls hl => ?_)
              obtain ⟨x_6, ex_6⟩ : ∃ y : Int32, y = i + 1 := ⟨_, rfl⟩
              have i_6 : x_6.toInt = i.toInt + 1 := ki_add ex_6 rfl rfl (om_13 LP1_h0) (om_125 c0 i_1)
              refine lv_iinc (v := x_6) (lv' := [(4, .int x_6), (3, .int x_5), (0, .ref q_t), (1, .int p0), (2, .int p1)]) hx hb dX2_onPath_35 hl (k := 1) rfl (by rw [ex_6]; rfl) (by decide) rfl (fun ls hl => ?_)
              refine lv_goto (tgt := 5) hx hb dX2_onPath_38 (by decide) ?_
              exact ih1 x_6 x_5 (om_34 LP1_h0 i_6) (om_mu hn1 (om_5 i_6) (om_6 i_1)) ls (lv_sub hl [0, 1, 2, 3, 4] rfl)
            · have i_4 : seen.toInt = p1.toInt := kc_eq c_4
              refine lv_iload hx hb dX2_onPath_29 (lv_at hl 0 rfl) ?_
              exact W.iret (v := i) hx hb hr (hlocks := hlocks) (fun t ht hW => ⟨i, rfl, (by (try dsimp only); omega), ht⟩) (fun q hq => by cases hq) dX2_onPath_31
        · have w_2 : (p0.toInt < (ff i.toNatClampNeg).toInt ∨ (ft i.toNatClampNeg).toInt ≤ p0.toInt) := w_2
          refine lv_if_eq (tgt := 35) hx hb dX2_onPath_21 (by decide) (fun c_7 => ?_) (fun c_7 => ?_)
          · obtain ⟨x_8, ex_8⟩ : ∃ y : Int32, y = i + 1 := ⟨_, rfl⟩
            have i_8 : x_8.toInt = i.toInt + 1 := ki_add ex_8 rfl rfl (om_13 LP1_h0) (om_125 c0 i_1)
            refine lv_iinc (v := x_8) (lv' := [(4, .int x_8), (3, .int seen), (0, .ref q_t), (1, .int p0), (2, .int p1)]) hx hb dX2_onPath_35 hl (k := 0) rfl (by rw [ex_8]; rfl) (by decide) rfl (fun ls hl => ?_)
            refine lv_goto (tgt := 5) hx hb dX2_onPath_38 (by decide) ?_
            exact ih1 x_8 seen (om_34 LP1_h0 i_8) (om_mu hn1 (om_5 i_8) (om_6 i_1)) ls (lv_sub hl [0, 1, 2, 3, 4] rfl)
          · exact absurd c_7 (by decide)
  have k_9 : (0 : Int32).toInt = 0 := rfl
  have k_10 : (0 : Int32).toInt = 0 := rfl
  exact LP1 ((nodes.toInt - 0 : Int).toNat + 1) 0 0 om_35 (Nat.lt_succ_self _) ls (lv_sub hl [0, 1, 2, 3, 4] rfl)

set_option maxHeartbeats 4000000 in
set_option maxRecDepth 100000 in
theorem c_X2_numberIn (l : Launch) (dC : Nat → ClassId) (dI : Nat → Nat → Nat) (q_t : Nat) (q_row : Nat) (q_joined : Nat) (q_from : Nat) (q_to : Nat) (q_size : Nat) (q_lossOf : Nat) (q_lessBy : Nat) (q_value : Nat) (q_number : Nat) (nodes : Int32) (here : Int32) (cyI : ClassId) (fs : Nat → Int32) (uv : Nat → Int32) (un : Nat → Int32) (p0 : Int32) (p1 : Int32) (b0 : 0 ≤ p0.toInt) (b1 : p0.toInt < 319) (s0 : sixes fs) : Met l yX2_numberIn wsX2_numberIn ({ frames := 0, cells := 0, slots := 0, locals := 0 }) (va_Pc [.ref q_t, .int p0, .int p1] (fun U => va_P (dC, dI) vwCl [kx_2 q_t q_row q_joined q_from q_to q_size q_lossOf q_lessBy q_value q_number nodes here, kx_a q_size cyI 319 fs, kx_a q_value cyI 1914 uv, kx_a q_number cyI 1914 un] U.heap ∧ va_K (dC, dI) vwCl [(cyI, .int)] U)) (vp_Si (fun r : Int32 => True)) 0 0 (fun _ => False) := by
  refine kx_stS (ws := wsX2_numberIn) (cc := cX2_numberIn) (maxL := 5) (ret := (some .int)) (by decide) rfl (Nat.le_of_ble_eq_true rfl) ?_
  intro p e s m below meth c ls hx hb hr hlocks hts hown hml hP hK hl
  have hown : s.vm.findClass RX2 = some m.cls := hown
  have hl : lv_has ls 5 [(0, .ref q_t), (1, .int p0), (2, .int p1)] := hl
  have hf_25 := hts (.fieldLink RX2 25 "MajorityIndex$Tree" "size" "[I") (List.mem_of_getElem? (i := 1) rfl)
  have hi_2 : ∀ w ∈ u_ws RX2 TX2 11, w ∈ wsX2_numberIn := fun w h => List.mem_cons_of_mem _ (List.mem_append_right _ h)
  have hf_34 := hts (.fieldLink RX2 34 "MajorityIndex$Tree" "value" "[I") (List.mem_of_getElem? (i := 2) rfl)
  have hf_37 := hts (.fieldLink RX2 37 "MajorityIndex$Tree" "number" "[I") (List.mem_of_getElem? (i := 3) rfl)
  refine lv_iload_n hx hb dX2_numberIn_0 rfl (lv_at hl 1 rfl) ?_
  refine lv_bipush (v := 6) hx hb dX2_numberIn_1 (by decide) ?_
  refine lv_imul hx hb dX2_numberIn_3 ?_
  refine lv_topi (fun y_1 ey_1 => ?_)
  have i_1 : y_1.toInt = p0.toInt * 6 := ki_mul ey_1 rfl rfl (om_95 b0) (om_96 b1)
  refine lv_istore_n (lv' := [(3, .int y_1), (0, .ref q_t), (1, .int p0), (2, .int p1)]) hx hb dX2_numberIn_4 rfl hl (by decide) rfl (fun ls hl => ?_)
  refine lv_iconst (v := 0) hx hb dX2_numberIn_5 (by decide) ?_
  refine lv_istore (lv' := [(4, .int 0), (3, .int y_1), (0, .ref q_t), (1, .int p0), (2, .int p1)]) hx hb dX2_numberIn_6 hl (by decide) rfl (fun ls hl => ?_)
  have LP1 : ∀ (n : Nat) (i : Int32), (0 ≤ i.toInt) → (6 - i.toInt).toNat < n → ∀ (ls : Array Slot), lv_has ls 5 [(4, .int i), (3, .int y_1), (0, .ref q_t), (1, .int p0), (2, .int p1)] → W p l e (headSpec wsX2_numberIn ({ frames := 0, cells := 0, slots := 0, locals := 0 })).room s m ([.ref q_t, .int p0, .int p1] : List Value).toArray below meth c s.heap [] 0 0 (MQ below (vp_Si (fun r : Int32 => True)) ([.ref q_t, .int p0, .int p1] : List Value).toArray s 0 0 (fun _ => False)) (F0 m 8 ls []) := by
    intro n
    induction n with
    | zero => intro i LP1_h0 hn; exact absurd hn (Nat.not_lt_zero _)
    | succ n ih1 =>
      intro i LP1_h0 hn1 ls hl
      refine lv_iload hx hb dX2_numberIn_8 (lv_at hl 0 rfl) ?_
      refine lv_aload_n hx hb dX2_numberIn_10 rfl (lv_at hl 2 rfl) ?_
      refine va_get (D := (dC, dI)) (ci := 2) (v := .ref q_size) (C := RX2) (T := TX2) (N := 11) hx hb hts hi_2 hown hK hP 0 rfl rfl 4 (by decide) hf_25 (fun _ h9 => h9) rfl dX2_numberIn_11 ?_
      refine lv_iload_n hx hb dX2_numberIn_14 rfl (lv_at hl 3 rfl) ?_
      refine va_iald hx hb hK hP 1 0 rfl rfl (ki_in (om_10 b0) (om_61 b1)) dX2_numberIn_15 ?_
      refine lv_topi (fun y_2 ey_2 => ?_)
      have j_2 : y_2.toInt = (fs p0.toNatClampNeg).toInt := congrArg Int32.toInt ey_2
      have n_3 : (p0.toNatClampNeg : Int) = p0.toInt := ki_nat _ rfl (om_10 b0)
      have i_4 := s0 p0.toNatClampNeg (om_ln n_3 (om_61 b1))
      refine lv_icmp_ge (tgt := 48) hx hb dX2_numberIn_16 (by decide) (fun c_5 => ?_) (fun c_5 => ?_)
      · have i_5 : y_2.toInt ≤ i.toInt := kc_le c_5
        refine lv_iconst (v := 0) hx hb dX2_numberIn_48 (by decide) ?_
        exact W.iret (v := 0) hx hb hr (hlocks := hlocks) (fun t ht hW => ⟨0, rfl, trivial, ht⟩) (fun q hq => by cases hq) dX2_numberIn_49
      · have i_5 : i.toInt < y_2.toInt := kc_nle c_5
        refine lv_aload_n hx hb dX2_numberIn_19 rfl (lv_at hl 2 rfl) ?_
        refine va_get (D := (dC, dI)) (ci := 2) (v := .ref q_value) (C := RX2) (T := TX2) (N := 11) hx hb hts hi_2 hown hK hP 0 rfl rfl 7 (by decide) hf_34 (fun _ h9 => h9) rfl dX2_numberIn_20 ?_
        refine lv_iload_n hx hb dX2_numberIn_23 rfl (lv_at hl 1 rfl) ?_
        refine lv_iload hx hb dX2_numberIn_24 (lv_at hl 0 rfl) ?_
        refine lv_iadd hx hb dX2_numberIn_26 ?_
        refine lv_topi (fun y_6 ey_6 => ?_)
        have i_6 : y_6.toInt = y_1.toInt + i.toInt := ki_add ey_6 rfl rfl (om_97 b0 i_1 LP1_h0) (om_98 b1 i_1 j_2 i_4.2 i_5)
        refine va_iald hx hb hK hP 2 0 rfl rfl (ki_in (om_99 b0 i_1 LP1_h0 i_6) (om_100 b1 i_1 j_2 i_4.2 i_5 i_6)) dX2_numberIn_27 ?_
        refine lv_topi (fun y_7 ey_7 => ?_)
        have j_7 : y_7.toInt = (uv y_6.toNatClampNeg).toInt := congrArg Int32.toInt ey_7
        refine lv_iload_n hx hb dX2_numberIn_28 rfl (lv_at hl 4 rfl) ?_
        refine lv_icmp_ne (tgt := 42) hx hb dX2_numberIn_29 (by decide) (fun c_8 => ?_) (fun c_8 => ?_)
        · have i_8 : ¬ y_7.toInt = p1.toInt := kc_ne c_8
          obtain ⟨x_9, ex_9⟩ : ∃ y : Int32, y = i + 1 := ⟨_, rfl⟩
          have i_9 : x_9.toInt = i.toInt + 1 := ki_add ex_9 rfl rfl (om_13 LP1_h0) (om_101 j_2 i_4.2 i_5)
          refine lv_iinc (v := x_9) (lv' := [(4, .int x_9), (3, .int y_1), (0, .ref q_t), (1, .int p0), (2, .int p1)]) hx hb dX2_numberIn_42 hl (k := 0) rfl (by rw [ex_9]; rfl) (by decide) rfl (fun ls hl => ?_)
          refine lv_goto (tgt := 8) hx hb dX2_numberIn_45 (by decide) ?_
          exact ih1 x_9 (om_34 LP1_h0 i_9) (om_mu hn1 (om_102 i_9) (om_103 j_2 i_4.2 i_5)) ls (lv_sub hl [0, 1, 2, 3, 4] rfl)
        · have i_8 : y_7.toInt = p1.toInt := kc_eq c_8
          refine lv_aload_n hx hb dX2_numberIn_32 rfl (lv_at hl 2 rfl) ?_
          refine va_get (D := (dC, dI)) (ci := 2) (v := .ref q_number) (C := RX2) (T := TX2) (N := 11) hx hb hts hi_2 hown hK hP 0 rfl rfl 8 (by decide) hf_37 (fun _ h9 => h9) rfl dX2_numberIn_33 ?_
          refine lv_iload_n hx hb dX2_numberIn_36 rfl (lv_at hl 1 rfl) ?_
          refine lv_iload hx hb dX2_numberIn_37 (lv_at hl 0 rfl) ?_
          refine lv_iadd hx hb dX2_numberIn_39 ?_
          refine lv_topi (fun y_10 ey_10 => ?_)
          have i_10 : y_10.toInt = y_1.toInt + i.toInt := ki_add ey_10 rfl rfl (om_97 b0 i_1 LP1_h0) (om_98 b1 i_1 j_2 i_4.2 i_5)
          refine va_iald hx hb hK hP 3 0 rfl rfl (ki_in (om_99 b0 i_1 LP1_h0 i_10) (om_100 b1 i_1 j_2 i_4.2 i_5 i_10)) dX2_numberIn_40 ?_
          refine lv_topi (fun y_11 ey_11 => ?_)
          have j_11 : y_11.toInt = (un y_10.toNatClampNeg).toInt := congrArg Int32.toInt ey_11
          exact W.iret (v := y_11) hx hb hr (hlocks := hlocks) (fun t ht hW => ⟨y_11, rfl, trivial, ht⟩) (fun q hq => by cases hq) dX2_numberIn_41
  have k_12 : (0 : Int32).toInt = 0 := rfl
  exact LP1 ((6 - 0 : Int).toNat + 1) 0 om_35 (Nat.lt_succ_self _) ls (lv_sub hl [0, 1, 2, 3, 4] rfl)

set_option maxHeartbeats 4000000 in
set_option maxRecDepth 100000 in
theorem c_X2_holding (l : Launch) (dC : Nat → ClassId) (dI : Nat → Nat → Nat) (q_t : Nat) (q_row : Nat) (q_joined : Nat) (q_from : Nat) (q_to : Nat) (q_size : Nat) (q_lossOf : Nat) (q_lessBy : Nat) (q_value : Nat) (q_number : Nat) (nodes : Int32) (here : Int32) (q_cell : Nat) (cyI : ClassId) (len : Int32) (f : Nat → Int32) (ff : Nat → Int32) (ft : Nat → Int32) (fs : Nat → Int32) (uv : Nat → Int32) (un : Nat → Int32) (p0 : Int32) (b0 : 0 ≤ nodes.toInt) (c0 : nodes.toInt ≤ 319) (s0 : sixes fs) (d0 : 0 ≤ p0.toInt) (d1 : p0.toInt < 160) : Met l yX2_holding wsX2_holding ({ frames := 1, cells := 0, slots := 0, locals := 45 }) (va_Pc [.ref q_t, .int p0] (fun U => va_P (dC, dI) vwCl [kx_2 q_t q_row q_joined q_from q_to q_size q_lossOf q_lessBy q_value q_number nodes here, kx_0 q_row q_cell len, kx_a q_cell cyI 160 f, kx_a q_from cyI 319 ff, kx_a q_to cyI 319 ft, kx_a q_size cyI 319 fs, kx_a q_value cyI 1914 uv, kx_a q_number cyI 1914 un] U.heap ∧ va_K (dC, dI) vwCl [(cyI, .int)] U)) (vp_Si (fun r : Int32 => True)) 0 0 (fun _ => False) := by
  refine kx_stS (ws := wsX2_holding) (cc := cX2_holding) (maxL := 4) (ret := (some .int)) (by decide) rfl (Nat.le_of_ble_eq_true rfl) ?_
  intro p e s m below meth c ls hx hb hr hlocks hts hown hml hP hK hl
  have hown : s.vm.findClass RX2 = some m.cls := hown
  have hl : lv_has ls 4 [(0, .ref q_t), (1, .int p0)] := hl
  have hf_50 := hts (.fieldLink RX2 50 "MajorityIndex$Tree" "nodes" "I") (List.mem_of_getElem? (i := 1) rfl)
  have hi_2 : ∀ w ∈ u_ws RX2 TX2 11, w ∈ wsX2_holding := fun w h => List.mem_cons_of_mem _ (List.mem_append_left _ (List.mem_append_right _ h))
  have hf_40 := hts (.fieldLink RX2 40 "MajorityIndex$Tree" "row" "LMajorityIndex$Row;") (List.mem_of_getElem? (i := 2) rfl)
  have hf_74 := hts (.fieldLink RX2 74 "MajorityIndex$Row" "cell" "[I") (List.mem_of_getElem? (i := 3) rfl)
  have hi_0 : ∀ w ∈ u_ws RX0 TX0 2, w ∈ wsX2_holding := fun w h => List.mem_cons_of_mem _ (List.mem_append_right _ h)
  refine lv_iconst (v := 0) hx hb dX2_holding_0 (by decide) ?_
  refine lv_istore_n (lv' := [(2, .int 0), (0, .ref q_t), (1, .int p0)]) hx hb dX2_holding_1 rfl hl (by decide) rfl (fun ls hl => ?_)
  refine lv_aload_n hx hb dX2_holding_2 rfl (lv_at hl 1 rfl) ?_
  refine va_get (D := (dC, dI)) (ci := 2) (v := .int nodes) (C := RX2) (T := TX2) (N := 11) hx hb hts hi_2 hown hK hP 0 rfl rfl 9 (by decide) hf_50 (fun _ h9 => h9) rfl dX2_holding_3 ?_
  refine lv_iconst (v := 1) hx hb dX2_holding_6 (by decide) ?_
  refine lv_isub hx hb dX2_holding_7 ?_
  refine lv_topi (fun y_1 ey_1 => ?_)
  have i_1 : y_1.toInt = nodes.toInt - 1 := ki_sub ey_1 rfl rfl (om_113 b0) (om_114 c0)
  refine lv_istore_n (lv' := [(3, .int y_1), (2, .int 0), (0, .ref q_t), (1, .int p0)]) hx hb dX2_holding_8 rfl hl (by decide) rfl (fun ls hl => ?_)
  have LP1 : ∀ (n : Nat) (many : Int32) (i : Int32), (i.toInt < nodes.toInt) → (-1 ≤ i.toInt) → (i.toInt + 1).toNat < n → ∀ (ls : Array Slot), lv_has ls 4 [(3, .int i), (2, .int many), (0, .ref q_t), (1, .int p0)] → W p l e (headSpec wsX2_holding ({ frames := 1, cells := 0, slots := 0, locals := 45 })).room s m ([.ref q_t, .int p0] : List Value).toArray below meth c s.heap [] 0 0 (MQ below (vp_Si (fun r : Int32 => True)) ([.ref q_t, .int p0] : List Value).toArray s 0 0 (fun _ => False)) (F0 m 9 ls []) := by
    intro n
    induction n with
    | zero => intro many i LP1_h0 LP1_h1 hn; exact absurd hn (Nat.not_lt_zero _)
    | succ n ih1 =>
      intro many i LP1_h0 LP1_h1 hn1 ls hl
      refine lv_iload_n hx hb dX2_holding_9 rfl (lv_at hl 0 rfl) ?_
      refine lv_if_lt (tgt := 50) hx hb dX2_holding_10 (by decide) (fun c_2 => ?_) (fun c_2 => ?_)
      · have i_2 : i.toInt < 0 := kc_lt c_2
        refine lv_iload_n hx hb dX2_holding_50 rfl (lv_at hl 1 rfl) ?_
        exact W.iret (v := many) hx hb hr (hlocks := hlocks) (fun t ht hW => ⟨many, rfl, trivial, ht⟩) (fun q hq => by cases hq) dX2_holding_51
      · have i_2 : 0 ≤ i.toInt := kc_nlt c_2
        refine lv_aload_n hx hb dX2_holding_13 rfl (lv_at hl 2 rfl) ?_
        refine lv_iload_n hx hb dX2_holding_14 rfl (lv_at hl 0 rfl) ?_
        refine lv_iload_n hx hb dX2_holding_15 rfl (lv_at hl 3 rfl) ?_
        have hPc := hP.sub (ws' := [kx_2 q_t q_row q_joined q_from q_to q_size q_lossOf q_lessBy q_value q_number nodes here, kx_a q_from cyI 319 ff, kx_a q_to cyI 319 ft]) [0, 3, 4] rfl
        have hKc := hK
        refine vp_callSi (W.runV (As := [.int i, .int p0]) (rest := []) ⟨hx, hb, hml, hown, hts⟩ (c_X2_hasPlace l dC dI q_t q_row q_joined q_from q_to q_size q_lossOf q_lessBy q_value q_number nodes here cyI ff ft i p0 i_2 (om_122 c0 LP1_h0)) (cwV 2 hts gX2_holding_X2_hasPlace rfl rfl rfl (by decide +kernel) ⟨Nat.le_of_ble_eq_true rfl, Nat.le_of_ble_eq_true rfl⟩) ⟨fun a U g mk q => by obtain ⟨q0, qP, qK⟩ := q; exact ⟨q0, qP, va_K.moved (u := U) (U := U.calling g mk a) (Vm.Alike.refl U.vm) qK⟩, kx_rc2 hKc hPc (q0 := 0) rfl, fun U hU hW => ⟨rfl, by rw [hU]; exact hPc, va_K.moved hW.alike hKc⟩⟩ rfl rfl hl.1 rfl (lv_room (Nat.le_of_ble_eq_true rfl)) dX2_holding_16 ⟨Nat.le_of_ble_eq_true rfl, Nat.le_of_ble_eq_true rfl⟩) (fun r_3 w_3 => ?_)
        rcases w_3 with ⟨rfl, w_3⟩ | ⟨rfl, w_3⟩
        · have w_3 : ((ff i.toNatClampNeg).toInt ≤ p0.toInt ∧ p0.toInt < (ft i.toNatClampNeg).toInt) := w_3
          refine lv_if_eq (tgt := 44) hx hb dX2_holding_19 (by decide) (fun c_4 => ?_) (fun c_4 => ?_)
          · exact absurd c_4 (by decide)
          · refine lv_aload_n hx hb dX2_holding_22 rfl (lv_at hl 2 rfl) ?_
            refine lv_iload_n hx hb dX2_holding_23 rfl (lv_at hl 0 rfl) ?_
            refine lv_aload_n hx hb dX2_holding_24 rfl (lv_at hl 2 rfl) ?_
            refine va_get (D := (dC, dI)) (ci := 2) (v := .ref q_row) (C := RX2) (T := TX2) (N := 11) hx hb hts hi_2 hown hK hP 0 rfl rfl 0 (by decide) hf_40 (fun _ h9 => h9) rfl dX2_holding_25 ?_
            refine va_get (D := (dC, dI)) (ci := 0) (v := .ref q_cell) (C := RX0) (T := TX0) (N := 2) hx hb hts hi_0 hown hK hP 1 rfl rfl 0 (by decide) hf_74 (fun _ h9 => h9) rfl dX2_holding_28 ?_
            refine lv_iload_n hx hb dX2_holding_31 rfl (lv_at hl 3 rfl) ?_
            refine va_iald hx hb hK hP 2 0 rfl rfl (ki_in (om_10 d0) (om_12 d1)) dX2_holding_32 ?_
            refine lv_topi (fun y_5 ey_5 => ?_)
            have j_5 : y_5.toInt = (f p0.toNatClampNeg).toInt := congrArg Int32.toInt ey_5
            have hPc := kx_selP (ws' := [kx_2 q_t q_row q_joined q_from q_to q_size q_lossOf q_lessBy q_value q_number nodes here, kx_a q_size cyI 319 fs, kx_a q_value cyI 1914 uv, kx_a q_number cyI 1914 un]) hP [true, false, false, false, false, true, true, true] rfl
            have hKc := hK
            refine vp_callSi (W.runV (As := [.int i, .int y_5]) (rest := []) ⟨hx, hb, hml, hown, hts⟩ (c_X2_numberIn l dC dI q_t q_row q_joined q_from q_to q_size q_lossOf q_lessBy q_value q_number nodes here cyI fs uv un i y_5 i_2 (om_122 c0 LP1_h0) s0) (cwV 2 hts gX2_holding_X2_numberIn rfl rfl rfl (by decide +kernel) ⟨Nat.le_of_ble_eq_true rfl, Nat.le_of_ble_eq_true rfl⟩) ⟨fun a U g mk q => by obtain ⟨q0, qP, qK⟩ := q; exact ⟨q0, qP, va_K.moved (u := U) (U := U.calling g mk a) (Vm.Alike.refl U.vm) qK⟩, kx_rc2 hKc hPc (q0 := 0) rfl, fun U hU hW => ⟨rfl, by rw [hU]; exact hPc, va_K.moved hW.alike hKc⟩⟩ rfl rfl hl.1 rfl (lv_room (Nat.le_of_ble_eq_true rfl)) dX2_holding_33 ⟨Nat.le_of_ble_eq_true rfl, Nat.le_of_ble_eq_true rfl⟩) (fun r_6 w_6 => ?_)
            refine lv_if_ne (tgt := 41) hx hb dX2_holding_36 (by decide) (fun c_7 => ?_) (fun c_7 => ?_)
            · have i_7 : ¬ r_6.toInt = 0 := kc_ne c_7
              obtain ⟨x_8, ex_8⟩ : ∃ y : Int32, y = many + 1 := ⟨_, rfl⟩
              refine lv_iinc (v := x_8) (lv' := [(2, .int x_8), (3, .int i), (0, .ref q_t), (1, .int p0)]) hx hb dX2_holding_41 hl (k := 1) rfl (by rw [ex_8]; rfl) (by decide) rfl (fun ls hl => ?_)
              obtain ⟨x_9, ex_9⟩ : ∃ y : Int32, y = i + (-1) := ⟨_, rfl⟩
              have i_9 : x_9.toInt = i.toInt + (-1) := ki_add ex_9 rfl rfl (om_116 i_2) (om_117 c0 LP1_h0)
              refine lv_iinc (v := x_9) (lv' := [(3, .int x_9), (2, .int x_8), (0, .ref q_t), (1, .int p0)]) hx hb dX2_holding_44 hl (k := 1) rfl (by rw [ex_9]; rfl) (by decide) rfl (fun ls hl => ?_)
              refine lv_goto (tgt := 9) hx hb dX2_holding_47 (by decide) ?_
              exact ih1 x_8 x_9 (om_118 LP1_h0 i_9) (om_119 i_2 i_9) (om_mu hn1 (om_120 i_9) (om_121 i_2)) ls (lv_sub hl [0, 1, 2, 3] rfl)
            · have i_7 : r_6.toInt = 0 := kc_eq c_7
              refine lv_iload_n hx hb dX2_holding_39 rfl (lv_at hl 1 rfl) ?_
              exact W.iret (v := many) hx hb hr (hlocks := hlocks) (fun t ht hW => ⟨many, rfl, trivial, ht⟩) (fun q hq => by cases hq) dX2_holding_40
        · have w_3 : (p0.toInt < (ff i.toNatClampNeg).toInt ∨ (ft i.toNatClampNeg).toInt ≤ p0.toInt) := w_3
          refine lv_if_eq (tgt := 44) hx hb dX2_holding_19 (by decide) (fun c_10 => ?_) (fun c_10 => ?_)
          · obtain ⟨x_11, ex_11⟩ : ∃ y : Int32, y = i + (-1) := ⟨_, rfl⟩
            have i_11 : x_11.toInt = i.toInt + (-1) := ki_add ex_11 rfl rfl (om_116 i_2) (om_117 c0 LP1_h0)
            refine lv_iinc (v := x_11) (lv' := [(3, .int x_11), (2, .int many), (0, .ref q_t), (1, .int p0)]) hx hb dX2_holding_44 hl (k := 0) rfl (by rw [ex_11]; rfl) (by decide) rfl (fun ls hl => ?_)
            refine lv_goto (tgt := 9) hx hb dX2_holding_47 (by decide) ?_
            exact ih1 many x_11 (om_118 LP1_h0 i_11) (om_119 i_2 i_11) (om_mu hn1 (om_120 i_11) (om_121 i_2)) ls (lv_sub hl [0, 1, 2, 3] rfl)
          · exact absurd c_10 (by decide)
  have k_12 : (0 : Int32).toInt = 0 := rfl
  exact LP1 ((y_1.toInt + 1 : Int).toNat + 1) 0 y_1 (om_123 i_1) (om_124 b0 i_1) (Nat.lt_succ_self _) ls (lv_sub hl [0, 1, 2, 3] rfl)

set_option maxHeartbeats 4000000 in
set_option maxRecDepth 100000 in
theorem c_X2_nodesWithMajority (l : Launch) (dC : Nat → ClassId) (dI : Nat → Nat → Nat) (q_t : Nat) (q_row : Nat) (q_joined : Nat) (q_from : Nat) (q_to : Nat) (q_size : Nat) (q_lossOf : Nat) (q_lessBy : Nat) (q_value : Nat) (q_number : Nat) (nodes : Int32) (here : Int32) (q_cell : Nat) (cyI : ClassId) (len : Int32) (f : Nat → Int32) (ff : Nat → Int32) (ft : Nat → Int32) (b0 : 0 ≤ nodes.toInt) (c0 : nodes.toInt ≤ 319) (c1 : len.toInt ≤ 160) (t0 : treeOk ff ft nodes.toInt len.toInt) : Met l yX2_nodesWithMajority wsX2_nodesWithMajority ({ frames := 2, cells := 0, slots := 0, locals := 90 }) (va_Pc [.ref q_t] (fun U => va_P (dC, dI) vwCl [kx_2 q_t q_row q_joined q_from q_to q_size q_lossOf q_lessBy q_value q_number nodes here, kx_0 q_row q_cell len, kx_a q_cell cyI 160 f, kx_a q_from cyI 319 ff, kx_a q_to cyI 319 ft] U.heap ∧ va_K (dC, dI) vwCl [(cyI, .int)] U ∧ va_Nw (.methodLinkNest RX0 28 yX4_isHeavy RX4) U)) (vp_Si (fun r : Int32 => True)) 0 0 (fun _ => False) := by
  refine Met.ofW (cc := cX2_nodesWithMajority) (maxL := 3) (ret := (some .int)) (by decide) rfl ?_
  intro p e s m args below meth c s₁ B hml hv
  obtain ⟨rfl, hP, hK, hN0⟩ := hv
  have hx := B.exec
  have hb := B.bytes
  have hr := B.returns
  have hts := atoms_spec (ws := wsX2_nodesWithMajority) B.pre
  have hown : s.vm.findClass RX2 = some m.cls := findClass_of_methodNamed B.named
  have hlocks := B.notSynchronized
  have hP : va_P (dC, dI) vwCl [kx_2 q_t q_row q_joined q_from q_to q_size q_lossOf q_lessBy q_value q_number nodes here, kx_0 q_row q_cell len, kx_a q_cell cyI 160 f, kx_a q_from cyI 319 ff, kx_a q_to cyI 319 ft] s.heap := hP
  have hl := lv_entry ([.ref q_t]) (n := 3) (Nat.le_of_ble_eq_true rfl)
  rw [lg_entry_eq]
  generalize (lg_sl ([.ref q_t]) ++ List.replicate (3 - (lg_sl ([.ref q_t])).length) Slot.unset).toArray = ls at hl ⊢
  have hl : lv_has ls 3 [(0, .ref q_t)] := hl
  have hf_50 := hts (.fieldLink RX2 50 "MajorityIndex$Tree" "nodes" "I") (List.mem_of_getElem? (i := 1) rfl)
  have hi_2 : ∀ w ∈ u_ws RX2 TX2 11, w ∈ wsX2_nodesWithMajority := fun w h => List.mem_cons_of_mem _ (List.mem_append_left _ (List.mem_append_right _ h))
  have hf_40 := hts (.fieldLink RX2 40 "MajorityIndex$Tree" "row" "LMajorityIndex$Row;") (List.mem_of_getElem? (i := 2) rfl)
  have hf_18 := hts (.fieldLink RX2 18 "MajorityIndex$Tree" "from" "[I") (List.mem_of_getElem? (i := 3) rfl)
  have hf_22 := hts (.fieldLink RX2 22 "MajorityIndex$Tree" "to" "[I") (List.mem_of_getElem? (i := 4) rfl)
  have hk_120 := hts (.constant RX2 120 (-40000)) (List.mem_of_getElem? (i := 5) rfl)
  refine lv_iconst (v := 0) hx hb dX2_nodesWithMajority_0 (by decide) ?_
  refine lv_istore_n (lv' := [(1, .int 0), (0, .ref q_t)]) hx hb dX2_nodesWithMajority_1 rfl hl (by decide) rfl (fun ls hl => ?_)
  refine lv_iconst (v := 0) hx hb dX2_nodesWithMajority_2 (by decide) ?_
  refine lv_istore_n (lv' := [(2, .int 0), (1, .int 0), (0, .ref q_t)]) hx hb dX2_nodesWithMajority_3 rfl hl (by decide) rfl (fun ls hl => ?_)
  have LP1 : ∀ (n : Nat) (i : Int32) (many : Int32), (0 ≤ i.toInt) → (nodes.toInt - i.toInt).toNat < n → ∀ (ls : Array Slot), lv_has ls 3 [(2, .int i), (1, .int many), (0, .ref q_t)] → W p l e (headSpec wsX2_nodesWithMajority ({ frames := 2, cells := 0, slots := 0, locals := 90 })).room s m ([.ref q_t] : List Value).toArray below meth c s.heap [] 0 0 (MQ below (vp_Si (fun r : Int32 => True)) ([.ref q_t] : List Value).toArray s 0 0 (fun _ => False)) (F0 m 4 ls []) := by
    intro n
    induction n with
    | zero => intro i many LP1_h0 hn; exact absurd hn (Nat.not_lt_zero _)
    | succ n ih1 =>
      intro i many LP1_h0 hn1 ls hl
      refine lv_iload_n hx hb dX2_nodesWithMajority_4 rfl (lv_at hl 0 rfl) ?_
      refine lv_aload_n hx hb dX2_nodesWithMajority_5 rfl (lv_at hl 2 rfl) ?_
      refine va_get (D := (dC, dI)) (ci := 2) (v := .int nodes) (C := RX2) (T := TX2) (N := 11) hx hb hts hi_2 hown hK hP 0 rfl rfl 9 (by decide) hf_50 (fun _ h9 => h9) rfl dX2_nodesWithMajority_6 ?_
      refine lv_icmp_ge (tgt := 45) hx hb dX2_nodesWithMajority_9 (by decide) (fun c_1 => ?_) (fun c_1 => ?_)
      · have i_1 : nodes.toInt ≤ i.toInt := kc_le c_1
        refine lv_iload_n hx hb dX2_nodesWithMajority_45 rfl (lv_at hl 1 rfl) ?_
        exact W.iret (v := many) hx hb hr (hlocks := hlocks) (fun t ht hW => ⟨many, rfl, trivial, ht⟩) (fun q hq => by cases hq) dX2_nodesWithMajority_46
      · have i_1 : i.toInt < nodes.toInt := kc_nle c_1
        refine lv_aload_n hx hb dX2_nodesWithMajority_12 rfl (lv_at hl 2 rfl) ?_
        refine va_get (D := (dC, dI)) (ci := 2) (v := .ref q_row) (C := RX2) (T := TX2) (N := 11) hx hb hts hi_2 hown hK hP 0 rfl rfl 0 (by decide) hf_40 (fun _ h9 => h9) rfl dX2_nodesWithMajority_13 ?_
        refine lv_aload_n hx hb dX2_nodesWithMajority_16 rfl (lv_at hl 2 rfl) ?_
        refine va_get (D := (dC, dI)) (ci := 2) (v := .ref q_from) (C := RX2) (T := TX2) (N := 11) hx hb hts hi_2 hown hK hP 0 rfl rfl 2 (by decide) hf_18 (fun _ h9 => h9) rfl dX2_nodesWithMajority_17 ?_
        refine lv_iload_n hx hb dX2_nodesWithMajority_20 rfl (lv_at hl 0 rfl) ?_
        refine va_iald hx hb hK hP 3 0 rfl rfl (ki_in (om_10 LP1_h0) (om_115 c0 i_1)) dX2_nodesWithMajority_21 ?_
        refine lv_topi (fun y_2 ey_2 => ?_)
        have j_2 : y_2.toInt = (ff i.toNatClampNeg).toInt := congrArg Int32.toInt ey_2
        have n_3 : (i.toNatClampNeg : Int) = i.toInt := ki_nat _ rfl (om_10 LP1_h0)
        have i_4 := t0 i.toNatClampNeg (by omega)
        unfold okAt at i_4
        refine lv_aload_n hx hb dX2_nodesWithMajority_22 rfl (lv_at hl 2 rfl) ?_
        refine va_get (D := (dC, dI)) (ci := 2) (v := .ref q_to) (C := RX2) (T := TX2) (N := 11) hx hb hts hi_2 hown hK hP 0 rfl rfl 3 (by decide) hf_22 (fun _ h9 => h9) rfl dX2_nodesWithMajority_23 ?_
        refine lv_iload_n hx hb dX2_nodesWithMajority_26 rfl (lv_at hl 0 rfl) ?_
        refine va_iald hx hb hK hP 4 0 rfl rfl (ki_in (om_10 LP1_h0) (om_115 c0 i_1)) dX2_nodesWithMajority_27 ?_
        refine lv_topi (fun y_5 ey_5 => ?_)
        have j_5 : y_5.toInt = (ft i.toNatClampNeg).toInt := congrArg Int32.toInt ey_5
        have n_6 : (i.toNatClampNeg : Int) = i.toInt := ki_nat _ rfl (om_10 LP1_h0)
        have i_7 := t0 i.toNatClampNeg (by omega)
        unfold okAt at i_7
        have hPc := hP.sub (ws' := [kx_0 q_row q_cell len, kx_a q_cell cyI 160 f]) [1, 2] rfl
        have hKc := hK
        refine vp_callSi (W.runV (As := [.int y_2, .int y_5]) (rest := []) ⟨hx, hb, hml, hown, hts⟩ (c_X0_leader l dC dI q_row q_cell cyI len f y_2 y_5 (by omega) (by omega)) (cwV 2 hts gX2_nodesWithMajority_X0_leader rfl rfl rfl (by decide +kernel) ⟨Nat.le_of_ble_eq_true rfl, Nat.le_of_ble_eq_true rfl⟩) ⟨fun a U g mk q => by obtain ⟨q0, qP, qK, qn0⟩ := q; exact ⟨q0, qP, va_K.moved (u := U) (U := U.calling g mk a) (Vm.Alike.refl U.vm) qK, va_Nw.same (u := U) (U := U.calling g mk a) rfl rfl qn0⟩, kx_rc0 hKc hPc (q0 := 0) rfl, fun U hU hW => ⟨rfl, by rw [hU]; exact hPc, va_K.moved hW.alike hKc, va_Nw.warmM hW hN0⟩⟩ rfl rfl hl.1 rfl (lv_room (Nat.le_of_ble_eq_true rfl)) dX2_nodesWithMajority_28 ⟨Nat.le_of_ble_eq_true rfl, Nat.le_of_ble_eq_true rfl⟩) (fun r_8 w_8 => ?_)
        refine lv_ldc (v := (-40000)) hx hb hown hk_120 dX2_nodesWithMajority_31 ?_
        refine lv_icmp_eq (tgt := 39) hx hb dX2_nodesWithMajority_33 (by decide) (fun c_9 => ?_) (fun c_9 => ?_)
        · have i_9 : r_8.toInt = (-40000) := kc_eq c_9
          obtain ⟨x_10, ex_10⟩ : ∃ y : Int32, y = i + 1 := ⟨_, rfl⟩
          have i_10 : x_10.toInt = i.toInt + 1 := ki_add ex_10 rfl rfl (om_13 LP1_h0) (om_125 c0 i_1)
          refine lv_iinc (v := x_10) (lv' := [(2, .int x_10), (1, .int many), (0, .ref q_t)]) hx hb dX2_nodesWithMajority_39 hl (k := 0) rfl (by rw [ex_10]; rfl) (by decide) rfl (fun ls hl => ?_)
          refine lv_goto (tgt := 4) hx hb dX2_nodesWithMajority_42 (by decide) ?_
          exact ih1 x_10 many (om_34 LP1_h0 i_10) (om_mu hn1 (om_5 i_10) (om_6 i_1)) ls (lv_sub hl [0, 1, 2] rfl)
        · have i_9 : ¬ r_8.toInt = (-40000) := kc_ne c_9
          obtain ⟨x_11, ex_11⟩ : ∃ y : Int32, y = many + 1 := ⟨_, rfl⟩
          refine lv_iinc (v := x_11) (lv' := [(1, .int x_11), (2, .int i), (0, .ref q_t)]) hx hb dX2_nodesWithMajority_36 hl (k := 1) rfl (by rw [ex_11]; rfl) (by decide) rfl (fun ls hl => ?_)
          obtain ⟨x_12, ex_12⟩ : ∃ y : Int32, y = i + 1 := ⟨_, rfl⟩
          have i_12 : x_12.toInt = i.toInt + 1 := ki_add ex_12 rfl rfl (om_13 LP1_h0) (om_125 c0 i_1)
          refine lv_iinc (v := x_12) (lv' := [(2, .int x_12), (1, .int x_11), (0, .ref q_t)]) hx hb dX2_nodesWithMajority_39 hl (k := 1) rfl (by rw [ex_12]; rfl) (by decide) rfl (fun ls hl => ?_)
          refine lv_goto (tgt := 4) hx hb dX2_nodesWithMajority_42 (by decide) ?_
          exact ih1 x_12 x_11 (om_34 LP1_h0 i_12) (om_mu hn1 (om_5 i_12) (om_6 i_1)) ls (lv_sub hl [0, 1, 2] rfl)
  have k_13 : (0 : Int32).toInt = 0 := rfl
  have k_14 : (0 : Int32).toInt = 0 := rfl
  exact LP1 ((nodes.toInt - 0 : Int).toNat + 1) 0 0 om_35 (Nat.lt_succ_self _) ls (lv_sub hl [0, 1, 2] rfl)

set_option maxHeartbeats 4000000 in
set_option maxRecDepth 100000 in
theorem c_X2_deepest (l : Launch) (dC : Nat → ClassId) (dI : Nat → Nat → Nat) (q_t : Nat) (q_row : Nat) (q_joined : Nat) (q_from : Nat) (q_to : Nat) (q_size : Nat) (q_lossOf : Nat) (q_lessBy : Nat) (q_value : Nat) (q_number : Nat) (nodes : Int32) (here : Int32) (q_cell : Nat) (len : Int32) (a0 : 0 ≤ len.toInt) (a1 : len.toInt ≤ 160) : Met l yX2_deepest wsX2_deepest ({ frames := 0, cells := 0, slots := 0, locals := 0 }) (va_Pc [.ref q_t] (fun U => va_P (dC, dI) vwCl [kx_2 q_t q_row q_joined q_from q_to q_size q_lossOf q_lessBy q_value q_number nodes here, kx_0 q_row q_cell len] U.heap ∧ va_K (dC, dI) vwCl [] U)) (vp_Si (fun r : Int32 => True)) 0 0 (fun _ => False) := by
  refine kx_stS (ws := wsX2_deepest) (cc := cX2_deepest) (maxL := 3) (ret := (some .int)) (by decide) rfl (Nat.le_of_ble_eq_true rfl) ?_
  intro p e s m below meth c ls hx hb hr hlocks hts hown hml hP hK hl
  have hown : s.vm.findClass RX2 = some m.cls := hown
  have hl : lv_has ls 3 [(0, .ref q_t)] := hl
  have hf_50 := hts (.fieldLink RX2 50 "MajorityIndex$Tree" "nodes" "I") (List.mem_of_getElem? (i := 1) rfl)
  have hi_2 : ∀ w ∈ u_ws RX2 TX2 11, w ∈ wsX2_deepest := fun w h => List.mem_cons_of_mem _ (List.mem_append_left _ (List.mem_append_right _ h))
  have hf_40 := hts (.fieldLink RX2 40 "MajorityIndex$Tree" "row" "LMajorityIndex$Row;") (List.mem_of_getElem? (i := 2) rfl)
  have hf_44 := hts (.fieldLink RX2 44 "MajorityIndex$Row" "length" "I") (List.mem_of_getElem? (i := 3) rfl)
  have hi_0 : ∀ w ∈ u_ws RX0 TX0 2, w ∈ wsX2_deepest := fun w h => List.mem_cons_of_mem _ (List.mem_append_right _ h)
  refine lv_aload_n hx hb dX2_deepest_0 rfl (lv_at hl 0 rfl) ?_
  refine va_get (D := (dC, dI)) (ci := 2) (v := .int nodes) (C := RX2) (T := TX2) (N := 11) hx hb hts hi_2 hown hK hP 0 rfl rfl 9 (by decide) hf_50 (fun _ h9 => h9) rfl dX2_deepest_1 ?_
  refine lv_if_ne (tgt := 11) hx hb dX2_deepest_4 (by decide) (fun c_1 => ?_) (fun c_1 => ?_)
  · have i_1 : ¬ nodes.toInt = 0 := kc_ne c_1
    refine lv_iconst (v := 1) hx hb dX2_deepest_11 (by decide) ?_
    refine lv_istore_n (lv' := [(1, .int 1), (0, .ref q_t)]) hx hb dX2_deepest_12 rfl hl (by decide) rfl (fun ls hl => ?_)
    refine lv_aload_n hx hb dX2_deepest_13 rfl (lv_at hl 1 rfl) ?_
    refine va_get (D := (dC, dI)) (ci := 2) (v := .ref q_row) (C := RX2) (T := TX2) (N := 11) hx hb hts hi_2 hown hK hP 0 rfl rfl 0 (by decide) hf_40 (fun _ h9 => h9) rfl dX2_deepest_14 ?_
    refine va_get (D := (dC, dI)) (ci := 0) (v := .int len) (C := RX0) (T := TX0) (N := 2) hx hb hts hi_0 hown hK hP 1 rfl rfl 1 (by decide) hf_44 (fun _ h9 => h9) rfl dX2_deepest_17 ?_
    refine lv_istore_n (lv' := [(2, .int len), (1, .int 1), (0, .ref q_t)]) hx hb dX2_deepest_20 rfl hl (by decide) rfl (fun ls hl => ?_)
    have LP1 : ∀ (n : Nat) (deep : Int32) (pl : Int32), (0 ≤ pl.toInt) → (pl.toInt ≤ 160) → (pl.toInt).toNat < n → ∀ (ls : Array Slot), lv_has ls 3 [(2, .int pl), (1, .int deep), (0, .ref q_t)] → W p l e (headSpec wsX2_deepest ({ frames := 0, cells := 0, slots := 0, locals := 0 })).room s m ([.ref q_t] : List Value).toArray below meth c s.heap [] 0 0 (MQ below (vp_Si (fun r : Int32 => True)) ([.ref q_t] : List Value).toArray s 0 0 (fun _ => False)) (F0 m 21 ls []) := by
      intro n
      induction n with
      | zero => intro deep pl LP1_h0 LP1_h1 hn; exact absurd hn (Nat.not_lt_zero _)
      | succ n ih1 =>
        intro deep pl LP1_h0 LP1_h1 hn1 ls hl
        refine lv_iload_n hx hb dX2_deepest_21 rfl (lv_at hl 0 rfl) ?_
        refine lv_iconst (v := 1) hx hb dX2_deepest_22 (by decide) ?_
        refine lv_icmp_le (tgt := 38) hx hb dX2_deepest_23 (by decide) (fun c_2 => ?_) (fun c_2 => ?_)
        · have i_2 : pl.toInt ≤ 1 := kc_le c_2
          refine lv_iload_n hx hb dX2_deepest_38 rfl (lv_at hl 1 rfl) ?_
          exact W.iret (v := deep) hx hb hr (hlocks := hlocks) (fun t ht hW => ⟨deep, rfl, trivial, ht⟩) (fun q hq => by cases hq) dX2_deepest_39
        · have i_2 : 1 < pl.toInt := kc_nle c_2
          obtain ⟨x_3, ex_3⟩ : ∃ y : Int32, y = deep + 1 := ⟨_, rfl⟩
          refine lv_iinc (v := x_3) (lv' := [(1, .int x_3), (2, .int pl), (0, .ref q_t)]) hx hb dX2_deepest_26 hl (k := 1) rfl (by rw [ex_3]; rfl) (by decide) rfl (fun ls hl => ?_)
          refine lv_iload_n hx hb dX2_deepest_29 rfl (lv_at hl 1 rfl) ?_
          refine lv_iload_n hx hb dX2_deepest_30 rfl (lv_at hl 1 rfl) ?_
          refine lv_iconst (v := 2) hx hb dX2_deepest_31 (by decide) ?_
          refine lv_idiv hx hb dX2_deepest_32 (by decide) ?_
          refine lv_topi (fun y_4 ey_4 => ?_)
          have i_4 : y_4.toInt = pl.toInt / 2 := ki_div2 ey_4 rfl (om_130 i_2)
          have d_5 := om_dv i_4
          refine lv_isub hx hb dX2_deepest_33 ?_
          refine lv_topi (fun y_6 ey_6 => ?_)
          have i_6 : y_6.toInt = pl.toInt - y_4.toInt := ki_sub ey_6 rfl rfl (om_131 i_2 d_5.1) (om_132 LP1_h1 d_5.2)
          refine lv_istore_n (lv' := [(2, .int y_6), (1, .int x_3), (0, .ref q_t)]) hx hb dX2_deepest_34 rfl hl (by decide) rfl (fun ls hl => ?_)
          refine lv_goto (tgt := 21) hx hb dX2_deepest_35 (by decide) ?_
          exact ih1 x_3 y_6 (om_133 i_2 d_5.1 i_6) (om_134 LP1_h1 d_5.2 i_6) (by omega) ls (lv_sub hl [0, 1, 2] rfl)
    have k_7 : (1 : Int32).toInt = 1 := rfl
    exact LP1 ((len.toInt : Int).toNat + 1) 1 len (om_10 a0) (om_136 a1) (Nat.lt_succ_self _) ls (lv_sub hl [0, 1, 2] rfl)
  · have i_1 : nodes.toInt = 0 := kc_eq c_1
    refine lv_iconst (v := 0) hx hb dX2_deepest_7 (by decide) ?_
    refine lv_goto (tgt := 12) hx hb dX2_deepest_8 (by decide) ?_
    refine lv_istore_n (lv' := [(1, .int 0), (0, .ref q_t)]) hx hb dX2_deepest_12 rfl hl (by decide) rfl (fun ls hl => ?_)
    refine lv_aload_n hx hb dX2_deepest_13 rfl (lv_at hl 1 rfl) ?_
    refine va_get (D := (dC, dI)) (ci := 2) (v := .ref q_row) (C := RX2) (T := TX2) (N := 11) hx hb hts hi_2 hown hK hP 0 rfl rfl 0 (by decide) hf_40 (fun _ h9 => h9) rfl dX2_deepest_14 ?_
    refine va_get (D := (dC, dI)) (ci := 0) (v := .int len) (C := RX0) (T := TX0) (N := 2) hx hb hts hi_0 hown hK hP 1 rfl rfl 1 (by decide) hf_44 (fun _ h9 => h9) rfl dX2_deepest_17 ?_
    refine lv_istore_n (lv' := [(2, .int len), (1, .int 0), (0, .ref q_t)]) hx hb dX2_deepest_20 rfl hl (by decide) rfl (fun ls hl => ?_)
    have LP2 : ∀ (n : Nat) (deep : Int32) (pl : Int32), (0 ≤ pl.toInt) → (pl.toInt ≤ 160) → (pl.toInt).toNat < n → ∀ (ls : Array Slot), lv_has ls 3 [(2, .int pl), (1, .int deep), (0, .ref q_t)] → W p l e (headSpec wsX2_deepest ({ frames := 0, cells := 0, slots := 0, locals := 0 })).room s m ([.ref q_t] : List Value).toArray below meth c s.heap [] 0 0 (MQ below (vp_Si (fun r : Int32 => True)) ([.ref q_t] : List Value).toArray s 0 0 (fun _ => False)) (F0 m 21 ls []) := by
      intro n
      induction n with
      | zero => intro deep pl LP2_h0 LP2_h1 hn; exact absurd hn (Nat.not_lt_zero _)
      | succ n ih2 =>
        intro deep pl LP2_h0 LP2_h1 hn2 ls hl
        refine lv_iload_n hx hb dX2_deepest_21 rfl (lv_at hl 0 rfl) ?_
        refine lv_iconst (v := 1) hx hb dX2_deepest_22 (by decide) ?_
        refine lv_icmp_le (tgt := 38) hx hb dX2_deepest_23 (by decide) (fun c_8 => ?_) (fun c_8 => ?_)
        · have i_8 : pl.toInt ≤ 1 := kc_le c_8
          refine lv_iload_n hx hb dX2_deepest_38 rfl (lv_at hl 1 rfl) ?_
          exact W.iret (v := deep) hx hb hr (hlocks := hlocks) (fun t ht hW => ⟨deep, rfl, trivial, ht⟩) (fun q hq => by cases hq) dX2_deepest_39
        · have i_8 : 1 < pl.toInt := kc_nle c_8
          obtain ⟨x_9, ex_9⟩ : ∃ y : Int32, y = deep + 1 := ⟨_, rfl⟩
          refine lv_iinc (v := x_9) (lv' := [(1, .int x_9), (2, .int pl), (0, .ref q_t)]) hx hb dX2_deepest_26 hl (k := 1) rfl (by rw [ex_9]; rfl) (by decide) rfl (fun ls hl => ?_)
          refine lv_iload_n hx hb dX2_deepest_29 rfl (lv_at hl 1 rfl) ?_
          refine lv_iload_n hx hb dX2_deepest_30 rfl (lv_at hl 1 rfl) ?_
          refine lv_iconst (v := 2) hx hb dX2_deepest_31 (by decide) ?_
          refine lv_idiv hx hb dX2_deepest_32 (by decide) ?_
          refine lv_topi (fun y_10 ey_10 => ?_)
          have i_10 : y_10.toInt = pl.toInt / 2 := ki_div2 ey_10 rfl (om_130 i_8)
          have d_11 := om_dv i_10
          refine lv_isub hx hb dX2_deepest_33 ?_
          refine lv_topi (fun y_12 ey_12 => ?_)
          have i_12 : y_12.toInt = pl.toInt - y_10.toInt := ki_sub ey_12 rfl rfl (om_131 i_8 d_11.1) (om_132 LP2_h1 d_11.2)
          refine lv_istore_n (lv' := [(2, .int y_12), (1, .int x_9), (0, .ref q_t)]) hx hb dX2_deepest_34 rfl hl (by decide) rfl (fun ls hl => ?_)
          refine lv_goto (tgt := 21) hx hb dX2_deepest_35 (by decide) ?_
          exact ih2 x_9 y_12 (om_133 i_8 d_11.1 i_12) (om_134 LP2_h1 d_11.2 i_12) (by omega) ls (lv_sub hl [0, 1, 2] rfl)
    have k_13 : (0 : Int32).toInt = 0 := rfl
    exact LP2 ((len.toInt : Int).toNat + 1) 0 len (om_10 a0) (om_136 a1) (Nat.lt_succ_self _) ls (lv_sub hl [0, 1, 2] rfl)

set_option maxHeartbeats 4000000 in
set_option maxRecDepth 100000 in
theorem c_X2_allLosses (l : Launch) (dC : Nat → ClassId) (dI : Nat → Nat → Nat) (q_t : Nat) (q_row : Nat) (q_joined : Nat) (q_from : Nat) (q_to : Nat) (q_size : Nat) (q_lossOf : Nat) (q_lessBy : Nat) (q_value : Nat) (q_number : Nat) (nodes : Int32) (here : Int32) (cyI : ClassId) (fo : Nat → Int32) (b0 : 0 ≤ nodes.toInt) (c0 : nodes.toInt ≤ 319) : Met l yX2_allLosses wsX2_allLosses ({ frames := 0, cells := 0, slots := 0, locals := 0 }) (va_Pc [.ref q_t] (fun U => va_P (dC, dI) vwCl [kx_2 q_t q_row q_joined q_from q_to q_size q_lossOf q_lessBy q_value q_number nodes here, kx_a q_lossOf cyI 319 fo] U.heap ∧ va_K (dC, dI) vwCl [(cyI, .int)] U)) (vp_Si (fun r : Int32 => True)) 0 0 (fun _ => False) := by
  refine kx_stS (ws := wsX2_allLosses) (cc := cX2_allLosses) (maxL := 3) (ret := (some .int)) (by decide) rfl (Nat.le_of_ble_eq_true rfl) ?_
  intro p e s m below meth c ls hx hb hr hlocks hts hown hml hP hK hl
  have hown : s.vm.findClass RX2 = some m.cls := hown
  have hl : lv_has ls 3 [(0, .ref q_t)] := hl
  have hf_50 := hts (.fieldLink RX2 50 "MajorityIndex$Tree" "nodes" "I") (List.mem_of_getElem? (i := 1) rfl)
  have hi_2 : ∀ w ∈ u_ws RX2 TX2 11, w ∈ wsX2_allLosses := fun w h => List.mem_cons_of_mem _ (List.mem_append_right _ h)
  have hf_28 := hts (.fieldLink RX2 28 "MajorityIndex$Tree" "lossOf" "[I") (List.mem_of_getElem? (i := 2) rfl)
  refine lv_iconst (v := 0) hx hb dX2_allLosses_0 (by decide) ?_
  refine lv_istore_n (lv' := [(1, .int 0), (0, .ref q_t)]) hx hb dX2_allLosses_1 rfl hl (by decide) rfl (fun ls hl => ?_)
  refine lv_iconst (v := 0) hx hb dX2_allLosses_2 (by decide) ?_
  refine lv_istore_n (lv' := [(2, .int 0), (1, .int 0), (0, .ref q_t)]) hx hb dX2_allLosses_3 rfl hl (by decide) rfl (fun ls hl => ?_)
  have LP1 : ∀ (n : Nat) (i : Int32) (all : Int32), (0 ≤ i.toInt) → (nodes.toInt - i.toInt).toNat < n → ∀ (ls : Array Slot), lv_has ls 3 [(2, .int i), (1, .int all), (0, .ref q_t)] → W p l e (headSpec wsX2_allLosses ({ frames := 0, cells := 0, slots := 0, locals := 0 })).room s m ([.ref q_t] : List Value).toArray below meth c s.heap [] 0 0 (MQ below (vp_Si (fun r : Int32 => True)) ([.ref q_t] : List Value).toArray s 0 0 (fun _ => False)) (F0 m 4 ls []) := by
    intro n
    induction n with
    | zero => intro i all LP1_h0 hn; exact absurd hn (Nat.not_lt_zero _)
    | succ n ih1 =>
      intro i all LP1_h0 hn1 ls hl
      refine lv_iload_n hx hb dX2_allLosses_4 rfl (lv_at hl 0 rfl) ?_
      refine lv_aload_n hx hb dX2_allLosses_5 rfl (lv_at hl 2 rfl) ?_
      refine va_get (D := (dC, dI)) (ci := 2) (v := .int nodes) (C := RX2) (T := TX2) (N := 11) hx hb hts hi_2 hown hK hP 0 rfl rfl 9 (by decide) hf_50 (fun _ h9 => h9) rfl dX2_allLosses_6 ?_
      refine lv_icmp_ge (tgt := 27) hx hb dX2_allLosses_9 (by decide) (fun c_1 => ?_) (fun c_1 => ?_)
      · have i_1 : nodes.toInt ≤ i.toInt := kc_le c_1
        refine lv_iload_n hx hb dX2_allLosses_27 rfl (lv_at hl 1 rfl) ?_
        exact W.iret (v := all) hx hb hr (hlocks := hlocks) (fun t ht hW => ⟨all, rfl, trivial, ht⟩) (fun q hq => by cases hq) dX2_allLosses_28
      · have i_1 : i.toInt < nodes.toInt := kc_nle c_1
        refine lv_iload_n hx hb dX2_allLosses_12 rfl (lv_at hl 1 rfl) ?_
        refine lv_aload_n hx hb dX2_allLosses_13 rfl (lv_at hl 2 rfl) ?_
        refine va_get (D := (dC, dI)) (ci := 2) (v := .ref q_lossOf) (C := RX2) (T := TX2) (N := 11) hx hb hts hi_2 hown hK hP 0 rfl rfl 5 (by decide) hf_28 (fun _ h9 => h9) rfl dX2_allLosses_14 ?_
        refine lv_iload_n hx hb dX2_allLosses_17 rfl (lv_at hl 0 rfl) ?_
        refine va_iald hx hb hK hP 1 0 rfl rfl (ki_in (om_10 LP1_h0) (om_115 c0 i_1)) dX2_allLosses_18 ?_
        refine lv_topi (fun y_2 ey_2 => ?_)
        have j_2 : y_2.toInt = (fo i.toNatClampNeg).toInt := congrArg Int32.toInt ey_2
        refine lv_iadd hx hb dX2_allLosses_19 ?_
        refine lv_topi (fun y_3 ey_3 => ?_)
        refine lv_istore_n (lv' := [(1, .int y_3), (2, .int i), (0, .ref q_t)]) hx hb dX2_allLosses_20 rfl hl (by decide) rfl (fun ls hl => ?_)
        obtain ⟨x_4, ex_4⟩ : ∃ y : Int32, y = i + 1 := ⟨_, rfl⟩
        have i_4 : x_4.toInt = i.toInt + 1 := ki_add ex_4 rfl rfl (om_13 LP1_h0) (om_125 c0 i_1)
        refine lv_iinc (v := x_4) (lv' := [(2, .int x_4), (1, .int y_3), (0, .ref q_t)]) hx hb dX2_allLosses_21 hl (k := 1) rfl (by rw [ex_4]; rfl) (by decide) rfl (fun ls hl => ?_)
        refine lv_goto (tgt := 4) hx hb dX2_allLosses_24 (by decide) ?_
        exact ih1 x_4 y_3 (om_34 LP1_h0 i_4) (om_mu hn1 (om_5 i_4) (om_6 i_1)) ls (lv_sub hl [0, 1, 2] rfl)
  have k_5 : (0 : Int32).toInt = 0 := rfl
  have k_6 : (0 : Int32).toInt = 0 := rfl
  exact LP1 ((nodes.toInt - 0 : Int).toNat + 1) 0 0 om_35 (Nat.lt_succ_self _) ls (lv_sub hl [0, 1, 2] rfl)



abbrev wsX10 : List Cond := u_ws RX1 TX1 4
theorem nmX1 : ∀ a, a < 4 → ∀ b, b < 4 → a ≠ b → (TX1 a).2.1 ≠ (TX1 b).2.1 := by decide +kernel
theorem tyX1_ok : ∀ k, k < 4 → parseFieldDescriptor (TX1 k).2.2.1 = some (tyX1 k) := by decide +kernel
abbrev cX1_learn : ByteArray := prog_3_method_2_code
def yX1_learn : MethodName := ⟨RX1, "learn", "(LMajorityIndex$Row;)V"⟩
abbrev cX1_clear : ByteArray := prog_3_method_3_code
def yX1_clear : MethodName := ⟨RX1, "clear", "()V"⟩
abbrev cX1_take : ByteArray := prog_3_method_4_code
def yX1_take : MethodName := ⟨RX1, "take", "(I)V"⟩
abbrev cX1_drop : ByteArray := prog_3_method_5_code
def yX1_drop : MethodName := ⟨RX1, "drop", "(I)V"⟩
abbrev cX1_hasMajority : ByteArray := prog_3_method_6_code
def yX1_hasMajority : MethodName := ⟨RX1, "hasMajority", "()Z"⟩
def RJ7 : String := "java/util/Arrays"
abbrev cJ7_fill_53178 : ByteArray := prog_13_method_103_code
def yJ7_fill_53178 : MethodName := ⟨RJ7, "fill", "([II)V"⟩
def wsX1_learn : List Cond := .code yX1_learn cX1_learn 3 none :: ([.fieldLink RX1 18 "MajorityIndex$Row" "length" "I", .fieldLink RX1 9 "MajorityIndex$Tally" "kind" "[I", .methodLink RX1 24 yX0_firstLike, .instanceMethod yX0_firstLike, .selects RX0 yX0_firstLike yX0_firstLike, .initialized RX0, .code yX0_firstLike cX0_firstLike 3 (some .int), .fieldLink RX0 9 "MajorityIndex$Row" "cell" "[I"] ++ wsX00 ++ wsX10)
def wsJ7_fill_53178 : List Cond := .code yJ7_fill_53178 cJ7_fill_53178 4 none :: ([])
def wsX1_clear : List Cond := .code yX1_clear cX1_clear 1 none :: ([.fieldLink RX1 15 "MajorityIndex$Tally" "often" "[I", .fieldLink RX1 34 "MajorityIndex$Tally" "taken" "I", .fieldLink RX1 37 "MajorityIndex$Tally" "most" "I", .methodLink RX1 28 yJ7_fill_53178, .static yJ7_fill_53178, .initialized RJ7, .code yJ7_fill_53178 cJ7_fill_53178 4 none] ++ wsX10)
def wsX1_take : List Cond := .code yX1_take cX1_take 3 none :: ([.fieldLink RX1 15 "MajorityIndex$Tally" "often" "[I", .fieldLink RX1 9 "MajorityIndex$Tally" "kind" "[I", .fieldLink RX1 34 "MajorityIndex$Tally" "taken" "I", .fieldLink RX1 37 "MajorityIndex$Tally" "most" "I"] ++ wsX10)
def wsX1_drop : List Cond := .code yX1_drop cX1_drop 2 none :: ([.fieldLink RX1 15 "MajorityIndex$Tally" "often" "[I", .fieldLink RX1 9 "MajorityIndex$Tally" "kind" "[I", .fieldLink RX1 34 "MajorityIndex$Tally" "taken" "I"] ++ wsX10)
def wsX1_hasMajority : List Cond := .code yX1_hasMajority cX1_hasMajority 1 (some .boolean) :: ([.fieldLink RX1 37 "MajorityIndex$Tally" "most" "I", .fieldLink RX1 34 "MajorityIndex$Tally" "taken" "I"] ++ wsX10)
set_option maxRecDepth 20000 in
theorem ggX1_learn_X0_firstLike : GoodIn wsX1_learn wsX0_firstLike := goodIn_r _ [7, 8, 9, 10] rfl (by decide +kernel)
set_option maxRecDepth 20000 in
theorem gX1_learn_X0_firstLike : GoodIn wsX1_learn (wsV RX1 24 RX0 yX0_firstLike wsX0_firstLike) := goodIn_app (goodIn_r _ [3, 4, 5, 6] rfl (by decide +kernel)) ggX1_learn_X0_firstLike
def dt_cX1_learn_0 : List (Nat × Nat × Nat × Nat) := [(0, 3, 0, 0), (1, 61, 0, 0), (2, 28, 0, 0), (3, 43, 0, 0), (4, 180, 2, 18), (7, 162, 2, 20), (10, 42, 0, 0), (11, 180, 2, 9), (14, 28, 0, 0), (15, 43, 0, 0), (16, 28, 0, 0), (17, 182, 2, 24), (20, 79, 0, 0), (21, 132, 2, 513), (24, 167, 2, 65514), (27, 177, 0, 0)]
theorem da_cX1_learn_0 : fw dt_cX1_learn_0 0 cX1_learn.data.toList = true := by decide +kernel
theorem dX1_learn_0 : decode cX1_learn 0 = .ok (.iconst 0, 1) := fo_3 (fw_get da_cX1_learn_0 0 rfl)
theorem dX1_learn_1 : decode cX1_learn 1 = .ok (.istore_n 2, 1) := fo_61 (fw_get da_cX1_learn_0 1 rfl)
theorem dX1_learn_2 : decode cX1_learn 2 = .ok (.iload_n 2, 1) := fo_28 (fw_get da_cX1_learn_0 2 rfl)
theorem dX1_learn_3 : decode cX1_learn 3 = .ok (.aload_n 1, 1) := fo_43 (fw_get da_cX1_learn_0 3 rfl)
theorem dX1_learn_4 : decode cX1_learn 4 = .ok (.getfield 18, 3) := fo_180 (fw_get da_cX1_learn_0 4 rfl)
theorem dX1_learn_7 : decode cX1_learn 7 = .ok (.if_icmp .ge 20, 3) := fo_162 (fw_get da_cX1_learn_0 5 rfl) (by decide +kernel)
theorem dX1_learn_10 : decode cX1_learn 10 = .ok (.aload_n 0, 1) := fo_42 (fw_get da_cX1_learn_0 6 rfl)
theorem dX1_learn_11 : decode cX1_learn 11 = .ok (.getfield 9, 3) := fo_180 (fw_get da_cX1_learn_0 7 rfl)
theorem dX1_learn_14 : decode cX1_learn 14 = .ok (.iload_n 2, 1) := fo_28 (fw_get da_cX1_learn_0 8 rfl)
theorem dX1_learn_15 : decode cX1_learn 15 = .ok (.aload_n 1, 1) := fo_43 (fw_get da_cX1_learn_0 9 rfl)
theorem dX1_learn_16 : decode cX1_learn 16 = .ok (.iload_n 2, 1) := fo_28 (fw_get da_cX1_learn_0 10 rfl)
theorem dX1_learn_17 : decode cX1_learn 17 = .ok (.invokevirtual 24, 3) := fo_182 (fw_get da_cX1_learn_0 11 rfl)
theorem dX1_learn_20 : decode cX1_learn 20 = .ok (.iastore, 1) := fo_79 (fw_get da_cX1_learn_0 12 rfl)
theorem dX1_learn_21 : decode cX1_learn 21 = .ok (.iinc 2 1, 3) := fo_132 (fw_get da_cX1_learn_0 13 rfl) rfl (by decide +kernel)
theorem dX1_learn_24 : decode cX1_learn 24 = .ok (.goto (-22), 3) := fo_167 (fw_get da_cX1_learn_0 14 rfl) (by decide +kernel)
theorem dX1_learn_27 : decode cX1_learn 27 = .ok (.return_, 1) := fo_177 (fw_get da_cX1_learn_0 15 rfl)
set_option maxRecDepth 20000 in
theorem ggX1_clear_J7_fill_53178 : GoodIn wsX1_clear wsJ7_fill_53178 := goodIn_r _ [7] rfl (by decide +kernel)
set_option maxRecDepth 20000 in
theorem gX1_clear_J7_fill_53178 : GoodIn wsX1_clear (va_wsS RX1 28 yJ7_fill_53178 wsJ7_fill_53178) := goodIn_app (goodIn_r _ [4, 5, 6] rfl (by decide +kernel)) ggX1_clear_J7_fill_53178
def dt_cX1_clear_0 : List (Nat × Nat × Nat × Nat) := [(0, 42, 0, 0), (1, 180, 2, 15), (4, 3, 0, 0), (5, 184, 2, 28), (8, 42, 0, 0), (9, 3, 0, 0), (10, 181, 2, 34), (13, 42, 0, 0), (14, 3, 0, 0), (15, 181, 2, 37), (18, 177, 0, 0)]
theorem da_cX1_clear_0 : fw dt_cX1_clear_0 0 cX1_clear.data.toList = true := by decide +kernel
theorem dX1_clear_0 : decode cX1_clear 0 = .ok (.aload_n 0, 1) := fo_42 (fw_get da_cX1_clear_0 0 rfl)
theorem dX1_clear_1 : decode cX1_clear 1 = .ok (.getfield 15, 3) := fo_180 (fw_get da_cX1_clear_0 1 rfl)
theorem dX1_clear_4 : decode cX1_clear 4 = .ok (.iconst 0, 1) := fo_3 (fw_get da_cX1_clear_0 2 rfl)
theorem dX1_clear_5 : decode cX1_clear 5 = .ok (.invokestatic 28, 3) := fo_184 (fw_get da_cX1_clear_0 3 rfl)
theorem dX1_clear_8 : decode cX1_clear 8 = .ok (.aload_n 0, 1) := fo_42 (fw_get da_cX1_clear_0 4 rfl)
theorem dX1_clear_9 : decode cX1_clear 9 = .ok (.iconst 0, 1) := fo_3 (fw_get da_cX1_clear_0 5 rfl)
theorem dX1_clear_10 : decode cX1_clear 10 = .ok (.putfield 34, 3) := fo_181 (fw_get da_cX1_clear_0 6 rfl)
theorem dX1_clear_13 : decode cX1_clear 13 = .ok (.aload_n 0, 1) := fo_42 (fw_get da_cX1_clear_0 7 rfl)
theorem dX1_clear_14 : decode cX1_clear 14 = .ok (.iconst 0, 1) := fo_3 (fw_get da_cX1_clear_0 8 rfl)
theorem dX1_clear_15 : decode cX1_clear 15 = .ok (.putfield 37, 3) := fo_181 (fw_get da_cX1_clear_0 9 rfl)
theorem dX1_clear_18 : decode cX1_clear 18 = .ok (.return_, 1) := fo_177 (fw_get da_cX1_clear_0 10 rfl)
def dt_cX1_take_0 : List (Nat × Nat × Nat × Nat) := [(0, 42, 0, 0), (1, 180, 2, 15), (4, 42, 0, 0), (5, 180, 2, 9), (8, 27, 0, 0), (9, 46, 0, 0), (10, 46, 0, 0), (11, 4, 0, 0), (12, 96, 0, 0), (13, 61, 0, 0), (14, 42, 0, 0), (15, 180, 2, 15), (18, 42, 0, 0), (19, 180, 2, 9), (22, 27, 0, 0), (23, 46, 0, 0), (24, 28, 0, 0), (25, 79, 0, 0), (26, 42, 0, 0), (27, 89, 0, 0)]
theorem da_cX1_take_0 : fw dt_cX1_take_0 0 cX1_take.data.toList = true := by decide +kernel
theorem dX1_take_0 : decode cX1_take 0 = .ok (.aload_n 0, 1) := fo_42 (fw_get da_cX1_take_0 0 rfl)
theorem dX1_take_1 : decode cX1_take 1 = .ok (.getfield 15, 3) := fo_180 (fw_get da_cX1_take_0 1 rfl)
theorem dX1_take_4 : decode cX1_take 4 = .ok (.aload_n 0, 1) := fo_42 (fw_get da_cX1_take_0 2 rfl)
theorem dX1_take_5 : decode cX1_take 5 = .ok (.getfield 9, 3) := fo_180 (fw_get da_cX1_take_0 3 rfl)
theorem dX1_take_8 : decode cX1_take 8 = .ok (.iload_n 1, 1) := fo_27 (fw_get da_cX1_take_0 4 rfl)
theorem dX1_take_9 : decode cX1_take 9 = .ok (.iaload, 1) := fo_46 (fw_get da_cX1_take_0 5 rfl)
theorem dX1_take_10 : decode cX1_take 10 = .ok (.iaload, 1) := fo_46 (fw_get da_cX1_take_0 6 rfl)
theorem dX1_take_11 : decode cX1_take 11 = .ok (.iconst 1, 1) := fo_4 (fw_get da_cX1_take_0 7 rfl)
theorem dX1_take_12 : decode cX1_take 12 = .ok (.iadd, 1) := fo_96 (fw_get da_cX1_take_0 8 rfl)
theorem dX1_take_13 : decode cX1_take 13 = .ok (.istore_n 2, 1) := fo_61 (fw_get da_cX1_take_0 9 rfl)
theorem dX1_take_14 : decode cX1_take 14 = .ok (.aload_n 0, 1) := fo_42 (fw_get da_cX1_take_0 10 rfl)
theorem dX1_take_15 : decode cX1_take 15 = .ok (.getfield 15, 3) := fo_180 (fw_get da_cX1_take_0 11 rfl)
theorem dX1_take_18 : decode cX1_take 18 = .ok (.aload_n 0, 1) := fo_42 (fw_get da_cX1_take_0 12 rfl)
theorem dX1_take_19 : decode cX1_take 19 = .ok (.getfield 9, 3) := fo_180 (fw_get da_cX1_take_0 13 rfl)
theorem dX1_take_22 : decode cX1_take 22 = .ok (.iload_n 1, 1) := fo_27 (fw_get da_cX1_take_0 14 rfl)
theorem dX1_take_23 : decode cX1_take 23 = .ok (.iaload, 1) := fo_46 (fw_get da_cX1_take_0 15 rfl)
theorem dX1_take_24 : decode cX1_take 24 = .ok (.iload_n 2, 1) := fo_28 (fw_get da_cX1_take_0 16 rfl)
theorem dX1_take_25 : decode cX1_take 25 = .ok (.iastore, 1) := fo_79 (fw_get da_cX1_take_0 17 rfl)
theorem dX1_take_26 : decode cX1_take 26 = .ok (.aload_n 0, 1) := fo_42 (fw_get da_cX1_take_0 18 rfl)
theorem dX1_take_27 : decode cX1_take 27 = .ok (.dup, 1) := fo_89 (fw_get da_cX1_take_0 19 rfl)
def dt_cX1_take_1 : List (Nat × Nat × Nat × Nat) := [(28, 180, 2, 34), (31, 4, 0, 0), (32, 96, 0, 0), (33, 181, 2, 34), (36, 28, 0, 0), (37, 42, 0, 0), (38, 180, 2, 37), (41, 164, 2, 8), (44, 42, 0, 0), (45, 28, 0, 0), (46, 181, 2, 37), (49, 177, 0, 0)]
theorem da_cX1_take_1 : fw dt_cX1_take_1 0 cX1_take.data.toList = true := by decide +kernel
theorem dX1_take_28 : decode cX1_take 28 = .ok (.getfield 34, 3) := fo_180 (fw_get da_cX1_take_1 0 rfl)
theorem dX1_take_31 : decode cX1_take 31 = .ok (.iconst 1, 1) := fo_4 (fw_get da_cX1_take_1 1 rfl)
theorem dX1_take_32 : decode cX1_take 32 = .ok (.iadd, 1) := fo_96 (fw_get da_cX1_take_1 2 rfl)
theorem dX1_take_33 : decode cX1_take 33 = .ok (.putfield 34, 3) := fo_181 (fw_get da_cX1_take_1 3 rfl)
theorem dX1_take_36 : decode cX1_take 36 = .ok (.iload_n 2, 1) := fo_28 (fw_get da_cX1_take_1 4 rfl)
theorem dX1_take_37 : decode cX1_take 37 = .ok (.aload_n 0, 1) := fo_42 (fw_get da_cX1_take_1 5 rfl)
theorem dX1_take_38 : decode cX1_take 38 = .ok (.getfield 37, 3) := fo_180 (fw_get da_cX1_take_1 6 rfl)
theorem dX1_take_41 : decode cX1_take 41 = .ok (.if_icmp .le 8, 3) := fo_164 (fw_get da_cX1_take_1 7 rfl) (by decide +kernel)
theorem dX1_take_44 : decode cX1_take 44 = .ok (.aload_n 0, 1) := fo_42 (fw_get da_cX1_take_1 8 rfl)
theorem dX1_take_45 : decode cX1_take 45 = .ok (.iload_n 2, 1) := fo_28 (fw_get da_cX1_take_1 9 rfl)
theorem dX1_take_46 : decode cX1_take 46 = .ok (.putfield 37, 3) := fo_181 (fw_get da_cX1_take_1 10 rfl)
theorem dX1_take_49 : decode cX1_take 49 = .ok (.return_, 1) := fo_177 (fw_get da_cX1_take_1 11 rfl)
def dt_cX1_drop_0 : List (Nat × Nat × Nat × Nat) := [(0, 42, 0, 0), (1, 180, 2, 15), (4, 42, 0, 0), (5, 180, 2, 9), (8, 27, 0, 0), (9, 46, 0, 0), (10, 92, 0, 0), (11, 46, 0, 0), (12, 4, 0, 0), (13, 100, 0, 0), (14, 79, 0, 0), (15, 42, 0, 0), (16, 89, 0, 0), (17, 180, 2, 34), (20, 4, 0, 0), (21, 100, 0, 0), (22, 181, 2, 34), (25, 177, 0, 0)]
theorem da_cX1_drop_0 : fw dt_cX1_drop_0 0 cX1_drop.data.toList = true := by decide +kernel
theorem dX1_drop_0 : decode cX1_drop 0 = .ok (.aload_n 0, 1) := fo_42 (fw_get da_cX1_drop_0 0 rfl)
theorem dX1_drop_1 : decode cX1_drop 1 = .ok (.getfield 15, 3) := fo_180 (fw_get da_cX1_drop_0 1 rfl)
theorem dX1_drop_4 : decode cX1_drop 4 = .ok (.aload_n 0, 1) := fo_42 (fw_get da_cX1_drop_0 2 rfl)
theorem dX1_drop_5 : decode cX1_drop 5 = .ok (.getfield 9, 3) := fo_180 (fw_get da_cX1_drop_0 3 rfl)
theorem dX1_drop_8 : decode cX1_drop 8 = .ok (.iload_n 1, 1) := fo_27 (fw_get da_cX1_drop_0 4 rfl)
theorem dX1_drop_9 : decode cX1_drop 9 = .ok (.iaload, 1) := fo_46 (fw_get da_cX1_drop_0 5 rfl)
theorem dX1_drop_10 : decode cX1_drop 10 = .ok (.dup2, 1) := fo_92 (fw_get da_cX1_drop_0 6 rfl)
theorem dX1_drop_11 : decode cX1_drop 11 = .ok (.iaload, 1) := fo_46 (fw_get da_cX1_drop_0 7 rfl)
theorem dX1_drop_12 : decode cX1_drop 12 = .ok (.iconst 1, 1) := fo_4 (fw_get da_cX1_drop_0 8 rfl)
theorem dX1_drop_13 : decode cX1_drop 13 = .ok (.isub, 1) := fo_100 (fw_get da_cX1_drop_0 9 rfl)
theorem dX1_drop_14 : decode cX1_drop 14 = .ok (.iastore, 1) := fo_79 (fw_get da_cX1_drop_0 10 rfl)
theorem dX1_drop_15 : decode cX1_drop 15 = .ok (.aload_n 0, 1) := fo_42 (fw_get da_cX1_drop_0 11 rfl)
theorem dX1_drop_16 : decode cX1_drop 16 = .ok (.dup, 1) := fo_89 (fw_get da_cX1_drop_0 12 rfl)
theorem dX1_drop_17 : decode cX1_drop 17 = .ok (.getfield 34, 3) := fo_180 (fw_get da_cX1_drop_0 13 rfl)
theorem dX1_drop_20 : decode cX1_drop 20 = .ok (.iconst 1, 1) := fo_4 (fw_get da_cX1_drop_0 14 rfl)
theorem dX1_drop_21 : decode cX1_drop 21 = .ok (.isub, 1) := fo_100 (fw_get da_cX1_drop_0 15 rfl)
theorem dX1_drop_22 : decode cX1_drop 22 = .ok (.putfield 34, 3) := fo_181 (fw_get da_cX1_drop_0 16 rfl)
theorem dX1_drop_25 : decode cX1_drop 25 = .ok (.return_, 1) := fo_177 (fw_get da_cX1_drop_0 17 rfl)
def dt_cX1_hasMajority_0 : List (Nat × Nat × Nat × Nat) := [(0, 5, 0, 0), (1, 42, 0, 0), (2, 180, 2, 37), (5, 104, 0, 0), (6, 42, 0, 0), (7, 180, 2, 34), (10, 164, 2, 7), (13, 4, 0, 0), (14, 167, 2, 4), (17, 3, 0, 0), (18, 172, 0, 0)]
theorem da_cX1_hasMajority_0 : fw dt_cX1_hasMajority_0 0 cX1_hasMajority.data.toList = true := by decide +kernel
theorem dX1_hasMajority_0 : decode cX1_hasMajority 0 = .ok (.iconst 2, 1) := fo_5 (fw_get da_cX1_hasMajority_0 0 rfl)
theorem dX1_hasMajority_1 : decode cX1_hasMajority 1 = .ok (.aload_n 0, 1) := fo_42 (fw_get da_cX1_hasMajority_0 1 rfl)
theorem dX1_hasMajority_2 : decode cX1_hasMajority 2 = .ok (.getfield 37, 3) := fo_180 (fw_get da_cX1_hasMajority_0 2 rfl)
theorem dX1_hasMajority_5 : decode cX1_hasMajority 5 = .ok (.imul, 1) := fo_104 (fw_get da_cX1_hasMajority_0 3 rfl)
theorem dX1_hasMajority_6 : decode cX1_hasMajority 6 = .ok (.aload_n 0, 1) := fo_42 (fw_get da_cX1_hasMajority_0 4 rfl)
theorem dX1_hasMajority_7 : decode cX1_hasMajority 7 = .ok (.getfield 34, 3) := fo_180 (fw_get da_cX1_hasMajority_0 5 rfl)
theorem dX1_hasMajority_10 : decode cX1_hasMajority 10 = .ok (.if_icmp .le 7, 3) := fo_164 (fw_get da_cX1_hasMajority_0 6 rfl) (by decide +kernel)
theorem dX1_hasMajority_13 : decode cX1_hasMajority 13 = .ok (.iconst 1, 1) := fo_4 (fw_get da_cX1_hasMajority_0 7 rfl)
theorem dX1_hasMajority_14 : decode cX1_hasMajority 14 = .ok (.goto 4, 3) := fo_167 (fw_get da_cX1_hasMajority_0 8 rfl) (by decide +kernel)
theorem dX1_hasMajority_17 : decode cX1_hasMajority 17 = .ok (.iconst 0, 1) := fo_3 (fw_get da_cX1_hasMajority_0 9 rfl)
theorem dX1_hasMajority_18 : decode cX1_hasMajority 18 = .ok (.ireturn, 1) := fo_172 (fw_get da_cX1_hasMajority_0 10 rfl)
def dt_cJ7_fill_53178_0 : List (Nat × Nat × Nat × Nat) := [(0, 3, 0, 0), (1, 61, 0, 0), (2, 42, 0, 0), (3, 190, 0, 0), (4, 62, 0, 0), (5, 28, 0, 0), (6, 29, 0, 0), (7, 162, 2, 13), (10, 42, 0, 0), (11, 28, 0, 0), (12, 27, 0, 0), (13, 79, 0, 0), (14, 132, 2, 513), (17, 167, 2, 65524), (20, 177, 0, 0)]
theorem da_cJ7_fill_53178_0 : fw dt_cJ7_fill_53178_0 0 cJ7_fill_53178.data.toList = true := by decide +kernel
theorem dJ7_fill_53178_0 : decode cJ7_fill_53178 0 = .ok (.iconst 0, 1) := fo_3 (fw_get da_cJ7_fill_53178_0 0 rfl)
theorem dJ7_fill_53178_1 : decode cJ7_fill_53178 1 = .ok (.istore_n 2, 1) := fo_61 (fw_get da_cJ7_fill_53178_0 1 rfl)
theorem dJ7_fill_53178_2 : decode cJ7_fill_53178 2 = .ok (.aload_n 0, 1) := fo_42 (fw_get da_cJ7_fill_53178_0 2 rfl)
theorem dJ7_fill_53178_3 : decode cJ7_fill_53178 3 = .ok (.arraylength, 1) := fo_190 (fw_get da_cJ7_fill_53178_0 3 rfl)
theorem dJ7_fill_53178_4 : decode cJ7_fill_53178 4 = .ok (.istore_n 3, 1) := fo_62 (fw_get da_cJ7_fill_53178_0 4 rfl)
theorem dJ7_fill_53178_5 : decode cJ7_fill_53178 5 = .ok (.iload_n 2, 1) := fo_28 (fw_get da_cJ7_fill_53178_0 5 rfl)
theorem dJ7_fill_53178_6 : decode cJ7_fill_53178 6 = .ok (.iload_n 3, 1) := fo_29 (fw_get da_cJ7_fill_53178_0 6 rfl)
theorem dJ7_fill_53178_7 : decode cJ7_fill_53178 7 = .ok (.if_icmp .ge 13, 3) := fo_162 (fw_get da_cJ7_fill_53178_0 7 rfl) (by decide +kernel)
theorem dJ7_fill_53178_10 : decode cJ7_fill_53178 10 = .ok (.aload_n 0, 1) := fo_42 (fw_get da_cJ7_fill_53178_0 8 rfl)
theorem dJ7_fill_53178_11 : decode cJ7_fill_53178 11 = .ok (.iload_n 2, 1) := fo_28 (fw_get da_cJ7_fill_53178_0 9 rfl)
theorem dJ7_fill_53178_12 : decode cJ7_fill_53178 12 = .ok (.iload_n 1, 1) := fo_27 (fw_get da_cJ7_fill_53178_0 10 rfl)
theorem dJ7_fill_53178_13 : decode cJ7_fill_53178 13 = .ok (.iastore, 1) := fo_79 (fw_get da_cJ7_fill_53178_0 11 rfl)
theorem dJ7_fill_53178_14 : decode cJ7_fill_53178 14 = .ok (.iinc 2 1, 3) := fo_132 (fw_get da_cJ7_fill_53178_0 12 rfl) rfl (by decide +kernel)
theorem dJ7_fill_53178_17 : decode cJ7_fill_53178 17 = .ok (.goto (-12), 3) := fo_167 (fw_get da_cJ7_fill_53178_0 13 rfl) (by decide +kernel)
theorem dJ7_fill_53178_20 : decode cJ7_fill_53178 20 = .ok (.return_, 1) := fo_177 (fw_get da_cJ7_fill_53178_0 14 rfl)


def kindOk (f : Nat → Int32) (n : Int) : Prop := ∀ k : Nat, (k : Int) < n → 0 ≤ (f k).toInt ∧ (f k).toInt ≤ (k : Int)
theorem kindOk_0 (f : Nat → Int32) {n : Int} (h : n ≤ 0) : kindOk f n := fun k hk => absurd hk (by omega)
theorem kindOk_upd {f : Nat → Int32} {n n2 : Int} {k : Nat} {x : Int32} (h : kindOk f n) (hk : (k : Int) = n) (h2 : n2 = n + 1) (h0 : 0 ≤ x.toInt) (h1 : x.toInt ≤ n) : kindOk (upd f k x) n2 := by
  intro j hj
  unfold upd
  split
  · omega
  · exact h j (by omega)

set_option maxHeartbeats 4000000 in
set_option maxRecDepth 100000 in
theorem c_J7_fill_160 (l : Launch) (dC : Nat → ClassId) (dI : Nat → Nat → Nat) (a_ : Nat) (cyI : ClassId) (f : Nat → Int32) (p0 : Int32) (sz : Nat) : kx_MQ l (dC, dI) yJ7_fill_53178 wsJ7_fill_53178 ({ frames := 0, cells := 0, slots := 0, locals := 0 }) [.ref a_, .int p0] [kx_a a_ cyI 160 f] [(cyI, .int)] sz (fun A => va_Qv (fun u : (Nat → Int32) => ∀ k : Nat, k < 160 → u k = p0) (fun (u : (Nat → Int32)) (t : State) => va_P (dC, dI) vwCl [kx_a a_ cyI 160 u] t.heap ∧ va_K (dC, dI) vwCl [(cyI, .int)] t ∧ va_D A [kx_a a_ cyI 160 u]) A) := by
  refine kx_stQ (ws := wsJ7_fill_53178) (cc := cJ7_fill_53178) (maxL := 4) (ret := none) (by decide) rfl (Nat.le_of_ble_eq_true rfl) ?_
  intro p e s m below meth c A ls hx hb hr hlocks hts hown hml hA hS hP hK hD hl
  have hown : s.vm.findClass RJ7 = some m.cls := hown
  have hl : lv_has ls 4 [(0, .ref a_), (1, .int p0)] := hl
  refine lv_iconst (v := 0) hx hb dJ7_fill_53178_0 (by decide) ?_
  refine lv_istore_n (lv' := [(2, .int 0), (0, .ref a_), (1, .int p0)]) hx hb dJ7_fill_53178_1 rfl hl (by decide) rfl (fun ls hl => ?_)
  refine lv_aload_n hx hb dJ7_fill_53178_2 rfl (lv_at hl 1 rfl) ?_
  refine va_alen (v := 160) hx hb hK hP 0 0 rfl rfl rfl dJ7_fill_53178_3 ?_
  refine lv_istore_n (lv' := [(3, .int 160), (2, .int 0), (0, .ref a_), (1, .int p0)]) hx hb dJ7_fill_53178_4 rfl hl (by decide) rfl (fun ls hl => ?_)
  have LP1 : ∀ (n : Nat) (i : Int32) (g : Nat → Int32), (0 ≤ i.toInt) → (∀ k : Nat, k < i.toNatClampNeg → g k = p0) → (160 - i.toInt).toNat < n → ∀ (H : Heap) (locs : List Loc), va_P (dC, dI) vwCl [kx_a a_ cyI 160 g] H → va_D A [kx_a a_ cyI 160 g] → va_S A s.heap H locs → ∀ (ls : Array Slot), lv_has ls 4 [(3, .int 160), (2, .int i), (0, .ref a_), (1, .int p0)] → W p l e (headSpec wsJ7_fill_53178 ({ frames := 0, cells := 0, slots := 0, locals := 0 })).room s m ([.ref a_, .int p0] : List Value).toArray below meth c H locs 0 0 (MQ below (va_Qv (fun u : (Nat → Int32) => ∀ k : Nat, k < 160 → u k = p0) (fun (u : (Nat → Int32)) (t : State) => va_P (dC, dI) vwCl [kx_a a_ cyI 160 u] t.heap ∧ va_K (dC, dI) vwCl [(cyI, .int)] t ∧ va_D A [kx_a a_ cyI 160 u]) A) ([.ref a_, .int p0] : List Value).toArray s 0 0 A) (F0 m 5 ls []) := by
    intro n
    induction n with
    | zero => intro i g LP1_h0 LP1_h1 hn; exact absurd hn (Nat.not_lt_zero _)
    | succ n ih1 =>
      intro i g LP1_h0 LP1_h1 hn1 H locs hP hD hS ls hl
      have n_i := ki_nat i rfl (by omega)
      refine lv_iload_n hx hb dJ7_fill_53178_5 rfl (lv_at hl 1 rfl) ?_
      refine lv_iload_n hx hb dJ7_fill_53178_6 rfl (lv_at hl 0 rfl) ?_
      refine lv_icmp_ge (tgt := 20) hx hb dJ7_fill_53178_7 (by decide) (fun c_1 => ?_) (fun c_1 => ?_)
      · have i_1 : 160 ≤ i.toInt := kc_le c_1
        have hP9 := hP
        have hD9 := hD
        have hK9 := hK
        exact W.vret hx hb hr (hlocks := hlocks) (fun t ht hW => ⟨⟨(g), rfl, (fun k hk => LP1_h1 k (by (try dsimp only); omega)), by rw [ht]; exact hP9, va_K.moved hW.alike hK9, hD9⟩, hS.F ht⟩) hS.2.2 dJ7_fill_53178_20
      · have i_1 : i.toInt < 160 := kc_nle c_1
        refine lv_aload_n hx hb dJ7_fill_53178_10 rfl (lv_at hl 2 rfl) ?_
        refine lv_iload_n hx hb dJ7_fill_53178_11 rfl (lv_at hl 1 rfl) ?_
        refine lv_iload_n hx hb dJ7_fill_53178_12 rfl (lv_at hl 3 rfl) ?_
        refine va_iast hx hb hK hP hD hS 0 0 rfl rfl (ki_in (om_10 LP1_h0) (om_12 i_1)) dJ7_fill_53178_13 (fun H locs hP hD hS => ?_)
        obtain ⟨hP, hD⟩ := kx_re (w2 := [kx_a a_ cyI 160 (upd g i.toNatClampNeg p0)]) hP hD rfl
        obtain ⟨x_2, ex_2⟩ : ∃ y : Int32, y = i + 1 := ⟨_, rfl⟩
        have i_2 : x_2.toInt = i.toInt + 1 := ki_add ex_2 rfl rfl (om_13 LP1_h0) (om_14 i_1)
        refine lv_iinc (v := x_2) (lv' := [(2, .int x_2), (3, .int 160), (0, .ref a_), (1, .int p0)]) hx hb dJ7_fill_53178_14 hl (k := 1) rfl (by rw [ex_2]; rfl) (by decide) rfl (fun ls hl => ?_)
        refine lv_goto (tgt := 5) hx hb dJ7_fill_53178_17 (by decide) ?_
        have n_x := ki_nat x_2 rfl (by omega)
        exact ih1 x_2 (upd g i.toNatClampNeg p0) (om_34 LP1_h0 i_2) (fun k hk => by unfold upd; split <;> first | rfl | exact LP1_h1 k (by omega)) (om_mu hn1 (om_137 i_2) (om_138 i_1)) _ _ hP hD hS ls (lv_sub hl [1, 0, 2, 3] rfl)
  have k_3 : (0 : Int32).toInt = 0 := rfl
  exact LP1 ((160 - 0 : Int).toNat + 1) 0 f om_35 (fun k hk => absurd hk (Nat.not_lt_zero k)) (Nat.lt_succ_self _) _ _ hP hD hS ls (lv_sub hl [0, 1, 2, 3] rfl)

set_option maxHeartbeats 4000000 in
set_option maxRecDepth 100000 in
theorem c_J7_fill_161 (l : Launch) (dC : Nat → ClassId) (dI : Nat → Nat → Nat) (a_ : Nat) (cyI : ClassId) (f : Nat → Int32) (p0 : Int32) (sz : Nat) : kx_MQ l (dC, dI) yJ7_fill_53178 wsJ7_fill_53178 ({ frames := 0, cells := 0, slots := 0, locals := 0 }) [.ref a_, .int p0] [kx_a a_ cyI 161 f] [(cyI, .int)] sz (fun A => va_Qv (fun u : (Nat → Int32) => ∀ k : Nat, k < 161 → u k = p0) (fun (u : (Nat → Int32)) (t : State) => va_P (dC, dI) vwCl [kx_a a_ cyI 161 u] t.heap ∧ va_K (dC, dI) vwCl [(cyI, .int)] t ∧ va_D A [kx_a a_ cyI 161 u]) A) := by
  refine kx_stQ (ws := wsJ7_fill_53178) (cc := cJ7_fill_53178) (maxL := 4) (ret := none) (by decide) rfl (Nat.le_of_ble_eq_true rfl) ?_
  intro p e s m below meth c A ls hx hb hr hlocks hts hown hml hA hS hP hK hD hl
  have hown : s.vm.findClass RJ7 = some m.cls := hown
  have hl : lv_has ls 4 [(0, .ref a_), (1, .int p0)] := hl
  refine lv_iconst (v := 0) hx hb dJ7_fill_53178_0 (by decide) ?_
  refine lv_istore_n (lv' := [(2, .int 0), (0, .ref a_), (1, .int p0)]) hx hb dJ7_fill_53178_1 rfl hl (by decide) rfl (fun ls hl => ?_)
  refine lv_aload_n hx hb dJ7_fill_53178_2 rfl (lv_at hl 1 rfl) ?_
  refine va_alen (v := 161) hx hb hK hP 0 0 rfl rfl rfl dJ7_fill_53178_3 ?_
  refine lv_istore_n (lv' := [(3, .int 161), (2, .int 0), (0, .ref a_), (1, .int p0)]) hx hb dJ7_fill_53178_4 rfl hl (by decide) rfl (fun ls hl => ?_)
  have LP1 : ∀ (n : Nat) (i : Int32) (g : Nat → Int32), (0 ≤ i.toInt) → (∀ k : Nat, k < i.toNatClampNeg → g k = p0) → (161 - i.toInt).toNat < n → ∀ (H : Heap) (locs : List Loc), va_P (dC, dI) vwCl [kx_a a_ cyI 161 g] H → va_D A [kx_a a_ cyI 161 g] → va_S A s.heap H locs → ∀ (ls : Array Slot), lv_has ls 4 [(3, .int 161), (2, .int i), (0, .ref a_), (1, .int p0)] → W p l e (headSpec wsJ7_fill_53178 ({ frames := 0, cells := 0, slots := 0, locals := 0 })).room s m ([.ref a_, .int p0] : List Value).toArray below meth c H locs 0 0 (MQ below (va_Qv (fun u : (Nat → Int32) => ∀ k : Nat, k < 161 → u k = p0) (fun (u : (Nat → Int32)) (t : State) => va_P (dC, dI) vwCl [kx_a a_ cyI 161 u] t.heap ∧ va_K (dC, dI) vwCl [(cyI, .int)] t ∧ va_D A [kx_a a_ cyI 161 u]) A) ([.ref a_, .int p0] : List Value).toArray s 0 0 A) (F0 m 5 ls []) := by
    intro n
    induction n with
    | zero => intro i g LP1_h0 LP1_h1 hn; exact absurd hn (Nat.not_lt_zero _)
    | succ n ih1 =>
      intro i g LP1_h0 LP1_h1 hn1 H locs hP hD hS ls hl
      have n_i := ki_nat i rfl (by omega)
      refine lv_iload_n hx hb dJ7_fill_53178_5 rfl (lv_at hl 1 rfl) ?_
      refine lv_iload_n hx hb dJ7_fill_53178_6 rfl (lv_at hl 0 rfl) ?_
      refine lv_icmp_ge (tgt := 20) hx hb dJ7_fill_53178_7 (by decide) (fun c_1 => ?_) (fun c_1 => ?_)
      · have i_1 : 161 ≤ i.toInt := kc_le c_1
        have hP9 := hP
        have hD9 := hD
        have hK9 := hK
        exact W.vret hx hb hr (hlocks := hlocks) (fun t ht hW => ⟨⟨(g), rfl, (fun k hk => LP1_h1 k (by (try dsimp only); omega)), by rw [ht]; exact hP9, va_K.moved hW.alike hK9, hD9⟩, hS.F ht⟩) hS.2.2 dJ7_fill_53178_20
      · have i_1 : i.toInt < 161 := kc_nle c_1
        refine lv_aload_n hx hb dJ7_fill_53178_10 rfl (lv_at hl 2 rfl) ?_
        refine lv_iload_n hx hb dJ7_fill_53178_11 rfl (lv_at hl 1 rfl) ?_
        refine lv_iload_n hx hb dJ7_fill_53178_12 rfl (lv_at hl 3 rfl) ?_
        refine va_iast hx hb hK hP hD hS 0 0 rfl rfl (ki_in (om_10 LP1_h0) (om_139 i_1)) dJ7_fill_53178_13 (fun H locs hP hD hS => ?_)
        obtain ⟨hP, hD⟩ := kx_re (w2 := [kx_a a_ cyI 161 (upd g i.toNatClampNeg p0)]) hP hD rfl
        obtain ⟨x_2, ex_2⟩ : ∃ y : Int32, y = i + 1 := ⟨_, rfl⟩
        have i_2 : x_2.toInt = i.toInt + 1 := ki_add ex_2 rfl rfl (om_13 LP1_h0) (om_140 i_1)
        refine lv_iinc (v := x_2) (lv' := [(2, .int x_2), (3, .int 161), (0, .ref a_), (1, .int p0)]) hx hb dJ7_fill_53178_14 hl (k := 1) rfl (by rw [ex_2]; rfl) (by decide) rfl (fun ls hl => ?_)
        refine lv_goto (tgt := 5) hx hb dJ7_fill_53178_17 (by decide) ?_
        have n_x := ki_nat x_2 rfl (by omega)
        exact ih1 x_2 (upd g i.toNatClampNeg p0) (om_34 LP1_h0 i_2) (fun k hk => by unfold upd; split <;> first | rfl | exact LP1_h1 k (by omega)) (om_mu hn1 (om_141 i_2) (om_142 i_1)) _ _ hP hD hS ls (lv_sub hl [1, 0, 2, 3] rfl)
  have k_3 : (0 : Int32).toInt = 0 := rfl
  exact LP1 ((161 - 0 : Int).toNat + 1) 0 f om_35 (fun k hk => absurd hk (Nat.not_lt_zero k)) (Nat.lt_succ_self _) _ _ hP hD hS ls (lv_sub hl [0, 1, 2, 3] rfl)

set_option maxHeartbeats 4000000 in
set_option maxRecDepth 100000 in
theorem c_X1_learn (l : Launch) (dC : Nat → ClassId) (dI : Nat → Nat → Nat) (t_ : Nat) (t_k : Nat) (t_o : Nat) (cyI : ClassId) (tk : Int32) (mo : Int32) (fk : Nat → Int32) (q_row : Nat) (q_cell : Nat) (len : Int32) (f : Nat → Int32) (sz : Nat) (a0 : 0 ≤ len.toInt) (a1 : len.toInt ≤ 160) : kx_MQ l (dC, dI) yX1_learn wsX1_learn ({ frames := 1, cells := 0, slots := 0, locals := 45 }) [.ref t_, .ref q_row] [kx_1 t_ t_k t_o tk mo, kx_a t_k cyI 160 fk, kx_0 q_row q_cell len, kx_a q_cell cyI 160 f] [(cyI, .int)] sz (fun A => va_Qv (fun u : (Nat → Int32) => kindOk u len.toInt) (fun (u : (Nat → Int32)) (t : State) => va_P (dC, dI) vwCl [kx_1 t_ t_k t_o tk mo, kx_a t_k cyI 160 u, kx_0 q_row q_cell len, kx_a q_cell cyI 160 f] t.heap ∧ va_K (dC, dI) vwCl [(cyI, .int)] t ∧ va_D A [kx_1 t_ t_k t_o tk mo, kx_a t_k cyI 160 u, kx_0 q_row q_cell len, kx_a q_cell cyI 160 f]) A) := by
  refine kx_stQ (ws := wsX1_learn) (cc := cX1_learn) (maxL := 3) (ret := none) (by decide) rfl (Nat.le_of_ble_eq_true rfl) ?_
  intro p e s m below meth c A ls hx hb hr hlocks hts hown hml hA hS hP hK hD hl
  have hown : s.vm.findClass RX1 = some m.cls := hown
  have hl : lv_has ls 3 [(0, .ref t_), (1, .ref q_row)] := hl
  have hf_18 := hts (.fieldLink RX1 18 "MajorityIndex$Row" "length" "I") (List.mem_of_getElem? (i := 1) rfl)
  have hi_0 : ∀ w ∈ u_ws RX0 TX0 2, w ∈ wsX1_learn := fun w h => List.mem_cons_of_mem _ (List.mem_append_left _ (List.mem_append_right _ h))
  have hf_9 := hts (.fieldLink RX1 9 "MajorityIndex$Tally" "kind" "[I") (List.mem_of_getElem? (i := 2) rfl)
  have hi_1 : ∀ w ∈ u_ws RX1 TX1 4, w ∈ wsX1_learn := fun w h => List.mem_cons_of_mem _ (List.mem_append_right _ h)
  refine lv_iconst (v := 0) hx hb dX1_learn_0 (by decide) ?_
  refine lv_istore_n (lv' := [(2, .int 0), (0, .ref t_), (1, .ref q_row)]) hx hb dX1_learn_1 rfl hl (by decide) rfl (fun ls hl => ?_)
  have LP1 : ∀ (n : Nat) (i : Int32) (gk : Nat → Int32), (0 ≤ i.toInt) → (kindOk gk i.toInt) → (len.toInt - i.toInt).toNat < n → ∀ (H : Heap) (locs : List Loc), va_P (dC, dI) vwCl [kx_1 t_ t_k t_o tk mo, kx_a t_k cyI 160 gk, kx_0 q_row q_cell len, kx_a q_cell cyI 160 f] H → va_D A [kx_1 t_ t_k t_o tk mo, kx_a t_k cyI 160 gk, kx_0 q_row q_cell len, kx_a q_cell cyI 160 f] → va_S A s.heap H locs → ∀ (ls : Array Slot), lv_has ls 3 [(2, .int i), (0, .ref t_), (1, .ref q_row)] → W p l e (headSpec wsX1_learn ({ frames := 1, cells := 0, slots := 0, locals := 45 })).room s m ([.ref t_, .ref q_row] : List Value).toArray below meth c H locs 0 0 (MQ below (va_Qv (fun u : (Nat → Int32) => kindOk u len.toInt) (fun (u : (Nat → Int32)) (t : State) => va_P (dC, dI) vwCl [kx_1 t_ t_k t_o tk mo, kx_a t_k cyI 160 u, kx_0 q_row q_cell len, kx_a q_cell cyI 160 f] t.heap ∧ va_K (dC, dI) vwCl [(cyI, .int)] t ∧ va_D A [kx_1 t_ t_k t_o tk mo, kx_a t_k cyI 160 u, kx_0 q_row q_cell len, kx_a q_cell cyI 160 f]) A) ([.ref t_, .ref q_row] : List Value).toArray s 0 0 A) (F0 m 2 ls []) := by
    intro n
    induction n with
    | zero => intro i gk LP1_h0 LP1_h1 hn; exact absurd hn (Nat.not_lt_zero _)
    | succ n ih1 =>
      intro i gk LP1_h0 LP1_h1 hn1 H locs hP hD hS ls hl
      refine lv_iload_n hx hb dX1_learn_2 rfl (lv_at hl 0 rfl) ?_
      refine lv_aload_n hx hb dX1_learn_3 rfl (lv_at hl 2 rfl) ?_
      refine va_get (D := (dC, dI)) (ci := 0) (v := .int len) (C := RX0) (T := TX0) (N := 2) hx hb hts hi_0 hown hK hP 2 rfl rfl 1 (by decide) hf_18 (fun _ h9 => h9) rfl dX1_learn_4 ?_
      refine lv_icmp_ge (tgt := 27) hx hb dX1_learn_7 (by decide) (fun c_1 => ?_) (fun c_1 => ?_)
      · have i_1 : len.toInt ≤ i.toInt := kc_le c_1
        have hP9 := hP
        have hD9 := hD
        have hK9 := hK
        exact W.vret hx hb hr (hlocks := hlocks) (fun t ht hW => ⟨⟨(gk), rfl, (fun k hk => LP1_h1 k (by (try dsimp only); omega)), by rw [ht]; exact hP9, va_K.moved hW.alike hK9, hD9⟩, hS.F ht⟩) hS.2.2 dX1_learn_27
      · have i_1 : i.toInt < len.toInt := kc_nle c_1
        refine lv_aload_n hx hb dX1_learn_10 rfl (lv_at hl 1 rfl) ?_
        refine va_get (D := (dC, dI)) (ci := 1) (v := .ref t_k) (C := RX1) (T := TX1) (N := 4) hx hb hts hi_1 hown hK hP 0 rfl rfl 0 (by decide) hf_9 (fun _ h9 => h9) rfl dX1_learn_11 ?_
        refine lv_iload_n hx hb dX1_learn_14 rfl (lv_at hl 0 rfl) ?_
        refine lv_aload_n hx hb dX1_learn_15 rfl (lv_at hl 2 rfl) ?_
        refine lv_iload_n hx hb dX1_learn_16 rfl (lv_at hl 0 rfl) ?_
        have hPc := hP.sub (ws' := [kx_0 q_row q_cell len, kx_a q_cell cyI 160 f]) [2, 3] rfl
        have hKc := hK
        refine vp_callSi (W.runV (As := [.int i]) (rest := [.int i, .ref t_k]) ⟨hx, hb, hml, hown, hts⟩ (c_X0_firstLike l dC dI q_row q_cell cyI len f i LP1_h0 (om_143 a1 i_1)) (cwV 1 hts gX1_learn_X0_firstLike rfl rfl rfl (by decide +kernel) ⟨Nat.le_of_ble_eq_true rfl, Nat.le_of_ble_eq_true rfl⟩) ⟨fun a U g mk q => by obtain ⟨q0, qP, qK⟩ := q; exact ⟨q0, qP, va_K.moved (u := U) (U := U.calling g mk a) (Vm.Alike.refl U.vm) qK⟩, kx_rc0 hKc hPc (q0 := 0) rfl, fun U hU hW => ⟨rfl, by rw [hU]; exact hPc, va_K.moved hW.alike hKc⟩⟩ rfl rfl hl.1 rfl (lv_room (Nat.le_of_ble_eq_true rfl)) dX1_learn_17 ⟨Nat.le_of_ble_eq_true rfl, Nat.le_of_ble_eq_true rfl⟩) (fun r_2 w_2 => ?_)
        have w_2 : 0 ≤ r_2.toInt ∧ r_2.toInt ≤ i.toInt := w_2
        refine va_iast hx hb hK hP hD hS 1 0 rfl rfl (ki_in (om_10 LP1_h0) (om_1 a1 i_1)) dX1_learn_20 (fun H locs hP hD hS => ?_)
        obtain ⟨hP, hD⟩ := kx_re (w2 := [kx_1 t_ t_k t_o tk mo, kx_a t_k cyI 160 (upd gk i.toNatClampNeg r_2), kx_0 q_row q_cell len, kx_a q_cell cyI 160 f]) hP hD rfl
        obtain ⟨x_3, ex_3⟩ : ∃ y : Int32, y = i + 1 := ⟨_, rfl⟩
        have i_3 : x_3.toInt = i.toInt + 1 := ki_add ex_3 rfl rfl (om_13 LP1_h0) (om_3 a1 i_1)
        refine lv_iinc (v := x_3) (lv' := [(2, .int x_3), (0, .ref t_), (1, .ref q_row)]) hx hb dX1_learn_21 hl (k := 0) rfl (by rw [ex_3]; rfl) (by decide) rfl (fun ls hl => ?_)
        refine lv_goto (tgt := 2) hx hb dX1_learn_24 (by decide) ?_
        have n_i := ki_nat i rfl (by omega)
        exact ih1 x_3 (upd gk i.toNatClampNeg r_2) (om_34 LP1_h0 i_3) (kindOk_upd LP1_h1 (by omega) (by omega) (by omega) (by omega)) (om_mu hn1 (om_5 i_3) (om_6 i_1)) _ _ hP hD hS ls (lv_sub hl [0, 1, 2] rfl)
  have k_4 : (0 : Int32).toInt = 0 := rfl
  exact LP1 ((len.toInt - 0 : Int).toNat + 1) 0 fk om_35 (kindOk_0 _ (by omega)) (Nat.lt_succ_self _) _ _ hP hD hS ls (lv_sub hl [0, 1, 2] rfl)

set_option maxHeartbeats 4000000 in
set_option maxRecDepth 100000 in
theorem c_X1_clear (l : Launch) (dC : Nat → ClassId) (dI : Nat → Nat → Nat) (t_ : Nat) (t_k : Nat) (t_o : Nat) (cyI : ClassId) (tk : Int32) (mo : Int32) (fq : Nat → Int32) (sz : Nat) : kx_MQ l (dC, dI) yX1_clear wsX1_clear ({ frames := 1, cells := 0, slots := 0, locals := 45 }) [.ref t_] [kx_1 t_ t_k t_o tk mo, kx_a t_o cyI 160 fq] [(cyI, .int)] sz (fun A => va_Qv (fun u : (Nat → Int32) => ∀ k : Nat, k < 160 → u k = 0) (fun (u : (Nat → Int32)) (t : State) => va_P (dC, dI) vwCl [kx_1 t_ t_k t_o 0 0, kx_a t_o cyI 160 u] t.heap ∧ va_K (dC, dI) vwCl [(cyI, .int)] t ∧ va_D A [kx_1 t_ t_k t_o 0 0, kx_a t_o cyI 160 u]) A) := by
  refine kx_stQ (ws := wsX1_clear) (cc := cX1_clear) (maxL := 1) (ret := none) (by decide) rfl (Nat.le_of_ble_eq_true rfl) ?_
  intro p e s m below meth c A ls hx hb hr hlocks hts hown hml hA hS hP hK hD hl
  have hown : s.vm.findClass RX1 = some m.cls := hown
  have hl : lv_has ls 1 [(0, .ref t_)] := hl
  have hf_15 := hts (.fieldLink RX1 15 "MajorityIndex$Tally" "often" "[I") (List.mem_of_getElem? (i := 1) rfl)
  have hi_1 : ∀ w ∈ u_ws RX1 TX1 4, w ∈ wsX1_clear := fun w h => List.mem_cons_of_mem _ (List.mem_append_right _ h)
  have hf_34 := hts (.fieldLink RX1 34 "MajorityIndex$Tally" "taken" "I") (List.mem_of_getElem? (i := 2) rfl)
  have hf_37 := hts (.fieldLink RX1 37 "MajorityIndex$Tally" "most" "I") (List.mem_of_getElem? (i := 3) rfl)
  refine lv_aload_n hx hb dX1_clear_0 rfl (lv_at hl 0 rfl) ?_
  refine va_get (D := (dC, dI)) (ci := 1) (v := .ref t_o) (C := RX1) (T := TX1) (N := 4) hx hb hts hi_1 hown hK hP 0 rfl rfl 1 (by decide) hf_15 (fun _ h9 => h9) rfl dX1_clear_1 ?_
  refine lv_iconst (v := 0) hx hb dX1_clear_4 (by decide) ?_
  obtain ⟨hPc, hDc, hFc, hCc⟩ := kx_preM (wc := [kx_a t_o cyI 160 fq]) hP hD hS hA [false, true] rfl
  have hKc := hK
  refine va_callv (va_runS (As := [.ref t_o, .int 0]) (rest := []) ⟨hx, hb, hml, hown, hts⟩ (kx_un (c_J7_fill_160 l dC dI t_o cyI fq 0 s.heap.size)) (va_cwS 2 hts gX1_clear_J7_fill_53178 rfl rfl rfl (by decide +kernel) ⟨Nat.le_of_ble_eq_true rfl, Nat.le_of_ble_eq_true rfl⟩) ⟨fun a U g mk q => by obtain ⟨q0, q1, qP, qK, qD⟩ := q; exact ⟨q0, q1, qP, va_K.moved (u := U) (U := U.calling g mk a) (Vm.Alike.refl U.vm) qK, qD⟩, fun U hU hW => ⟨rfl, by rw [hU], by rw [hU]; exact hPc, va_K.moved hW.alike hKc, hDc.weaken (fun _ _ _ _ => trivial)⟩⟩ rfl rfl hl.1 rfl (lv_room (Nat.le_of_ble_eq_true rfl)) dX1_clear_5 ⟨Nat.le_of_ble_eq_true rfl, Nat.le_of_ble_eq_true rfl⟩) hS (fun q _ h => hFc q h) hFc (fun u t H1 locs ht hvm w_1 hB hz1 hk1 hS => ?_)
  obtain ⟨o_2, rfl⟩ : ∃ z, z = u := ⟨_, rfl⟩
  obtain ⟨hP1, hK1, hD1⟩ := hB
  rw [ht] at hP1
  have hK1 := va_K.moved hvm.symm hK1
  obtain ⟨hP, hD⟩ := kx_joinM (w2 := [kx_1 t_ t_k t_o tk mo, kx_a t_o cyI 160 o_2]) hP hD hP1 hD1 hk1 hFc [false, true] hCc rfl
  clear hP1 hD1 hK1 hk1 hz1 hFc hDc hPc hKc hCc
  generalize H1 = H at hP hS ⊢
  have w_1 : ∀ k : Nat, k < 160 → o_2 k = 0 := w_1
  refine lv_aload_n hx hb dX1_clear_8 rfl (lv_at hl 0 rfl) ?_
  refine lv_iconst (v := 0) hx hb dX1_clear_9 (by decide) ?_
  refine va_put (D := (dC, dI)) (ci := 1) (v := .int 0) (ty := .int) (C := RX1) (T := TX1) (N := 4) hx hb hts hi_1 tyX1 tyX1_ok nmX1 hown hK hP hD hS 0 rfl rfl 2 (by decide) hf_34 (fun _ h9 => h9) rfl (by decide +kernel) rfl rfl (Nat.le_of_ble_eq_true rfl) dX1_clear_10 (fun H locs hP hD hS => ?_)
  obtain ⟨hP, hD⟩ := kx_re (w2 := [kx_1 t_ t_k t_o 0 mo, kx_a t_o cyI 160 o_2]) hP hD rfl
  refine lv_aload_n hx hb dX1_clear_13 rfl (lv_at hl 0 rfl) ?_
  refine lv_iconst (v := 0) hx hb dX1_clear_14 (by decide) ?_
  refine va_put (D := (dC, dI)) (ci := 1) (v := .int 0) (ty := .int) (C := RX1) (T := TX1) (N := 4) hx hb hts hi_1 tyX1 tyX1_ok nmX1 hown hK hP hD hS 0 rfl rfl 3 (by decide) hf_37 (fun _ h9 => h9) rfl (by decide +kernel) rfl rfl (Nat.le_of_ble_eq_true rfl) dX1_clear_15 (fun H locs hP hD hS => ?_)
  obtain ⟨hP, hD⟩ := kx_re (w2 := [kx_1 t_ t_k t_o 0 0, kx_a t_o cyI 160 o_2]) hP hD rfl
  have hP9 := hP
  have hD9 := hD
  have hK9 := hK
  exact W.vret hx hb hr (hlocks := hlocks) (fun t ht hW => ⟨⟨(o_2), rfl, w_1, by rw [ht]; exact hP9, va_K.moved hW.alike hK9, hD9⟩, hS.F ht⟩) hS.2.2 dX1_clear_18

set_option maxHeartbeats 4000000 in
set_option maxRecDepth 100000 in
theorem c_X1_take (l : Launch) (dC : Nat → ClassId) (dI : Nat → Nat → Nat) (t_ : Nat) (t_k : Nat) (t_o : Nat) (cyI : ClassId) (tk : Int32) (mo : Int32) (fk : Nat → Int32) (fq : Nat → Int32) (nn : Int) (p0 : Int32) (sz : Nat) (k0 : kindOk fk nn) (b0 : 0 ≤ p0.toInt) (b1 : p0.toInt < nn) (b2 : nn ≤ 160) : kx_MQ l (dC, dI) yX1_take wsX1_take ({ frames := 0, cells := 0, slots := 0, locals := 0 }) [.ref t_, .int p0] [kx_1 t_ t_k t_o tk mo, kx_a t_k cyI 160 fk, kx_a t_o cyI 160 fq] [(cyI, .int)] sz (fun A => va_Qv (fun u : Int32 × Int32 × (Nat → Int32) => True) (fun (u : Int32 × Int32 × (Nat → Int32)) (t : State) => va_P (dC, dI) vwCl [kx_1 t_ t_k t_o u.1 u.2.1, kx_a t_k cyI 160 fk, kx_a t_o cyI 160 u.2.2] t.heap ∧ va_K (dC, dI) vwCl [(cyI, .int)] t ∧ va_D A [kx_1 t_ t_k t_o u.1 u.2.1, kx_a t_k cyI 160 fk, kx_a t_o cyI 160 u.2.2]) A) := by
  refine kx_stQ (ws := wsX1_take) (cc := cX1_take) (maxL := 3) (ret := none) (by decide) rfl (Nat.le_of_ble_eq_true rfl) ?_
  intro p e s m below meth c A ls hx hb hr hlocks hts hown hml hA hS hP hK hD hl
  have hown : s.vm.findClass RX1 = some m.cls := hown
  have hl : lv_has ls 3 [(0, .ref t_), (1, .int p0)] := hl
  have hf_15 := hts (.fieldLink RX1 15 "MajorityIndex$Tally" "often" "[I") (List.mem_of_getElem? (i := 1) rfl)
  have hi_1 : ∀ w ∈ u_ws RX1 TX1 4, w ∈ wsX1_take := fun w h => List.mem_cons_of_mem _ (List.mem_append_right _ h)
  have hf_9 := hts (.fieldLink RX1 9 "MajorityIndex$Tally" "kind" "[I") (List.mem_of_getElem? (i := 2) rfl)
  have hf_34 := hts (.fieldLink RX1 34 "MajorityIndex$Tally" "taken" "I") (List.mem_of_getElem? (i := 3) rfl)
  have hf_37 := hts (.fieldLink RX1 37 "MajorityIndex$Tally" "most" "I") (List.mem_of_getElem? (i := 4) rfl)
  refine lv_aload_n hx hb dX1_take_0 rfl (lv_at hl 0 rfl) ?_
  refine va_get (D := (dC, dI)) (ci := 1) (v := .ref t_o) (C := RX1) (T := TX1) (N := 4) hx hb hts hi_1 hown hK hP 0 rfl rfl 1 (by decide) hf_15 (fun _ h9 => h9) rfl dX1_take_1 ?_
  refine lv_aload_n hx hb dX1_take_4 rfl (lv_at hl 0 rfl) ?_
  refine va_get (D := (dC, dI)) (ci := 1) (v := .ref t_k) (C := RX1) (T := TX1) (N := 4) hx hb hts hi_1 hown hK hP 0 rfl rfl 0 (by decide) hf_9 (fun _ h9 => h9) rfl dX1_take_5 ?_
  refine lv_iload_n hx hb dX1_take_8 rfl (lv_at hl 1 rfl) ?_
  refine va_iald hx hb hK hP 1 0 rfl rfl (ki_in (om_10 b0) (by omega)) dX1_take_9 ?_
  refine lv_topi (fun y_1 ey_1 => ?_)
  have j_1 : y_1.toInt = (fk p0.toNatClampNeg).toInt := congrArg Int32.toInt ey_1
  have n_2 : (p0.toNatClampNeg : Int) = p0.toInt := ki_nat _ rfl (om_10 b0)
  have i_3 := k0 p0.toNatClampNeg (by omega)
  refine va_iald hx hb hK hP 2 0 rfl rfl (ki_in (om_144 j_1 i_3.1) (by omega)) dX1_take_10 ?_
  refine lv_topi (fun y_4 ey_4 => ?_)
  have j_4 : y_4.toInt = (fq y_1.toNatClampNeg).toInt := congrArg Int32.toInt ey_4
  refine lv_iconst (v := 1) hx hb dX1_take_11 (by decide) ?_
  refine lv_iadd hx hb dX1_take_12 ?_
  refine lv_topi (fun y_5 ey_5 => ?_)
  refine lv_istore_n (lv' := [(2, .int y_5), (0, .ref t_), (1, .int p0)]) hx hb dX1_take_13 rfl hl (by decide) rfl (fun ls hl => ?_)
  refine lv_aload_n hx hb dX1_take_14 rfl (lv_at hl 1 rfl) ?_
  refine va_get (D := (dC, dI)) (ci := 1) (v := .ref t_o) (C := RX1) (T := TX1) (N := 4) hx hb hts hi_1 hown hK hP 0 rfl rfl 1 (by decide) hf_15 (fun _ h9 => h9) rfl dX1_take_15 ?_
  refine lv_aload_n hx hb dX1_take_18 rfl (lv_at hl 1 rfl) ?_
  refine va_get (D := (dC, dI)) (ci := 1) (v := .ref t_k) (C := RX1) (T := TX1) (N := 4) hx hb hts hi_1 hown hK hP 0 rfl rfl 0 (by decide) hf_9 (fun _ h9 => h9) rfl dX1_take_19 ?_
  refine lv_iload_n hx hb dX1_take_22 rfl (lv_at hl 2 rfl) ?_
  refine va_iald hx hb hK hP 1 0 rfl rfl (ki_in (om_10 b0) (by omega)) dX1_take_23 ?_
  refine lv_topi (fun y_6 ey_6 => ?_)
  have j_6 : y_6.toInt = (fk p0.toNatClampNeg).toInt := congrArg Int32.toInt ey_6
  have n_7 : (p0.toNatClampNeg : Int) = p0.toInt := ki_nat _ rfl (om_10 b0)
  have i_8 := k0 p0.toNatClampNeg (by omega)
  refine lv_iload_n hx hb dX1_take_24 rfl (lv_at hl 0 rfl) ?_
  refine va_iast hx hb hK hP hD hS 2 0 rfl rfl (ki_in (om_144 j_6 i_8.1) (by omega)) dX1_take_25 (fun H locs hP hD hS => ?_)
  obtain ⟨hP, hD⟩ := kx_re (w2 := [kx_1 t_ t_k t_o tk mo, kx_a t_k cyI 160 fk, kx_a t_o cyI 160 (upd fq y_6.toNatClampNeg y_5)]) hP hD rfl
  refine lv_aload_n hx hb dX1_take_26 rfl (lv_at hl 1 rfl) ?_
  refine lv_dup hx hb dX1_take_27 rfl ?_
  refine va_get (D := (dC, dI)) (ci := 1) (v := .int tk) (C := RX1) (T := TX1) (N := 4) hx hb hts hi_1 hown hK hP 0 rfl rfl 2 (by decide) hf_34 (fun _ h9 => h9) rfl dX1_take_28 ?_
  refine lv_iconst (v := 1) hx hb dX1_take_31 (by decide) ?_
  refine lv_iadd hx hb dX1_take_32 ?_
  refine lv_topi (fun y_9 ey_9 => ?_)
  refine va_put (D := (dC, dI)) (ci := 1) (v := .int y_9) (ty := .int) (C := RX1) (T := TX1) (N := 4) hx hb hts hi_1 tyX1 tyX1_ok nmX1 hown hK hP hD hS 0 rfl rfl 2 (by decide) hf_34 (fun _ h9 => h9) rfl (by decide +kernel) rfl rfl (Nat.le_of_ble_eq_true rfl) dX1_take_33 (fun H locs hP hD hS => ?_)
  obtain ⟨hP, hD⟩ := kx_re (w2 := [kx_1 t_ t_k t_o y_9 mo, kx_a t_k cyI 160 fk, kx_a t_o cyI 160 (upd fq y_6.toNatClampNeg y_5)]) hP hD rfl
  refine lv_iload_n hx hb dX1_take_36 rfl (lv_at hl 0 rfl) ?_
  refine lv_aload_n hx hb dX1_take_37 rfl (lv_at hl 1 rfl) ?_
  refine va_get (D := (dC, dI)) (ci := 1) (v := .int mo) (C := RX1) (T := TX1) (N := 4) hx hb hts hi_1 hown hK hP 0 rfl rfl 3 (by decide) hf_37 (fun _ h9 => h9) rfl dX1_take_38 ?_
  refine lv_icmp_le (tgt := 49) hx hb dX1_take_41 (by decide) (fun c_10 => ?_) (fun c_10 => ?_)
  · have i_10 : y_5.toInt ≤ mo.toInt := kc_le c_10
    have hP9 := hP
    have hD9 := hD
    have hK9 := hK
    exact W.vret hx hb hr (hlocks := hlocks) (fun t ht hW => ⟨⟨(y_9, mo, (upd fq y_6.toNatClampNeg y_5)), rfl, trivial, by rw [ht]; exact hP9, va_K.moved hW.alike hK9, hD9⟩, hS.F ht⟩) hS.2.2 dX1_take_49
  · have i_10 : mo.toInt < y_5.toInt := kc_nle c_10
    refine lv_aload_n hx hb dX1_take_44 rfl (lv_at hl 1 rfl) ?_
    refine lv_iload_n hx hb dX1_take_45 rfl (lv_at hl 0 rfl) ?_
    refine va_put (D := (dC, dI)) (ci := 1) (v := .int y_5) (ty := .int) (C := RX1) (T := TX1) (N := 4) hx hb hts hi_1 tyX1 tyX1_ok nmX1 hown hK hP hD hS 0 rfl rfl 3 (by decide) hf_37 (fun _ h9 => h9) rfl (by decide +kernel) rfl rfl (Nat.le_of_ble_eq_true rfl) dX1_take_46 (fun H locs hP hD hS => ?_)
    obtain ⟨hP, hD⟩ := kx_re (w2 := [kx_1 t_ t_k t_o y_9 y_5, kx_a t_k cyI 160 fk, kx_a t_o cyI 160 (upd fq y_6.toNatClampNeg y_5)]) hP hD rfl
    have hP9 := hP
    have hD9 := hD
    have hK9 := hK
    exact W.vret hx hb hr (hlocks := hlocks) (fun t ht hW => ⟨⟨(y_9, y_5, (upd fq y_6.toNatClampNeg y_5)), rfl, trivial, by rw [ht]; exact hP9, va_K.moved hW.alike hK9, hD9⟩, hS.F ht⟩) hS.2.2 dX1_take_49

set_option maxHeartbeats 4000000 in
set_option maxRecDepth 100000 in
theorem c_X1_drop (l : Launch) (dC : Nat → ClassId) (dI : Nat → Nat → Nat) (t_ : Nat) (t_k : Nat) (t_o : Nat) (cyI : ClassId) (tk : Int32) (mo : Int32) (fk : Nat → Int32) (fq : Nat → Int32) (nn : Int) (p0 : Int32) (sz : Nat) (k0 : kindOk fk nn) (b0 : 0 ≤ p0.toInt) (b1 : p0.toInt < nn) (b2 : nn ≤ 160) : kx_MQ l (dC, dI) yX1_drop wsX1_drop ({ frames := 0, cells := 0, slots := 0, locals := 0 }) [.ref t_, .int p0] [kx_1 t_ t_k t_o tk mo, kx_a t_k cyI 160 fk, kx_a t_o cyI 160 fq] [(cyI, .int)] sz (fun A => va_Qv (fun u : Int32 × (Nat → Int32) => True) (fun (u : Int32 × (Nat → Int32)) (t : State) => va_P (dC, dI) vwCl [kx_1 t_ t_k t_o u.1 mo, kx_a t_k cyI 160 fk, kx_a t_o cyI 160 u.2] t.heap ∧ va_K (dC, dI) vwCl [(cyI, .int)] t ∧ va_D A [kx_1 t_ t_k t_o u.1 mo, kx_a t_k cyI 160 fk, kx_a t_o cyI 160 u.2]) A) := by
  refine kx_stQ (ws := wsX1_drop) (cc := cX1_drop) (maxL := 2) (ret := none) (by decide) rfl (Nat.le_of_ble_eq_true rfl) ?_
  intro p e s m below meth c A ls hx hb hr hlocks hts hown hml hA hS hP hK hD hl
  have hown : s.vm.findClass RX1 = some m.cls := hown
  have hl : lv_has ls 2 [(0, .ref t_), (1, .int p0)] := hl
  have hf_15 := hts (.fieldLink RX1 15 "MajorityIndex$Tally" "often" "[I") (List.mem_of_getElem? (i := 1) rfl)
  have hi_1 : ∀ w ∈ u_ws RX1 TX1 4, w ∈ wsX1_drop := fun w h => List.mem_cons_of_mem _ (List.mem_append_right _ h)
  have hf_9 := hts (.fieldLink RX1 9 "MajorityIndex$Tally" "kind" "[I") (List.mem_of_getElem? (i := 2) rfl)
  have hf_34 := hts (.fieldLink RX1 34 "MajorityIndex$Tally" "taken" "I") (List.mem_of_getElem? (i := 3) rfl)
  refine lv_aload_n hx hb dX1_drop_0 rfl (lv_at hl 0 rfl) ?_
  refine va_get (D := (dC, dI)) (ci := 1) (v := .ref t_o) (C := RX1) (T := TX1) (N := 4) hx hb hts hi_1 hown hK hP 0 rfl rfl 1 (by decide) hf_15 (fun _ h9 => h9) rfl dX1_drop_1 ?_
  refine lv_aload_n hx hb dX1_drop_4 rfl (lv_at hl 0 rfl) ?_
  refine va_get (D := (dC, dI)) (ci := 1) (v := .ref t_k) (C := RX1) (T := TX1) (N := 4) hx hb hts hi_1 hown hK hP 0 rfl rfl 0 (by decide) hf_9 (fun _ h9 => h9) rfl dX1_drop_5 ?_
  refine lv_iload_n hx hb dX1_drop_8 rfl (lv_at hl 1 rfl) ?_
  refine va_iald hx hb hK hP 1 0 rfl rfl (ki_in (om_10 b0) (by omega)) dX1_drop_9 ?_
  refine lv_topi (fun y_1 ey_1 => ?_)
  have j_1 : y_1.toInt = (fk p0.toNatClampNeg).toInt := congrArg Int32.toInt ey_1
  have n_2 : (p0.toNatClampNeg : Int) = p0.toInt := ki_nat _ rfl (om_10 b0)
  have i_3 := k0 p0.toNatClampNeg (by omega)
  refine lv_dup2_11 hx hb dX1_drop_10 rfl rfl ?_
  refine va_iald hx hb hK hP 2 0 rfl rfl (ki_in (om_144 j_1 i_3.1) (by omega)) dX1_drop_11 ?_
  refine lv_topi (fun y_4 ey_4 => ?_)
  have j_4 : y_4.toInt = (fq y_1.toNatClampNeg).toInt := congrArg Int32.toInt ey_4
  refine lv_iconst (v := 1) hx hb dX1_drop_12 (by decide) ?_
  refine lv_isub hx hb dX1_drop_13 ?_
  refine lv_topi (fun y_5 ey_5 => ?_)
  refine va_iast hx hb hK hP hD hS 2 0 rfl rfl (ki_in (om_144 j_1 i_3.1) (by omega)) dX1_drop_14 (fun H locs hP hD hS => ?_)
  obtain ⟨hP, hD⟩ := kx_re (w2 := [kx_1 t_ t_k t_o tk mo, kx_a t_k cyI 160 fk, kx_a t_o cyI 160 (upd fq y_1.toNatClampNeg y_5)]) hP hD rfl
  refine lv_aload_n hx hb dX1_drop_15 rfl (lv_at hl 0 rfl) ?_
  refine lv_dup hx hb dX1_drop_16 rfl ?_
  refine va_get (D := (dC, dI)) (ci := 1) (v := .int tk) (C := RX1) (T := TX1) (N := 4) hx hb hts hi_1 hown hK hP 0 rfl rfl 2 (by decide) hf_34 (fun _ h9 => h9) rfl dX1_drop_17 ?_
  refine lv_iconst (v := 1) hx hb dX1_drop_20 (by decide) ?_
  refine lv_isub hx hb dX1_drop_21 ?_
  refine lv_topi (fun y_6 ey_6 => ?_)
  refine va_put (D := (dC, dI)) (ci := 1) (v := .int y_6) (ty := .int) (C := RX1) (T := TX1) (N := 4) hx hb hts hi_1 tyX1 tyX1_ok nmX1 hown hK hP hD hS 0 rfl rfl 2 (by decide) hf_34 (fun _ h9 => h9) rfl (by decide +kernel) rfl rfl (Nat.le_of_ble_eq_true rfl) dX1_drop_22 (fun H locs hP hD hS => ?_)
  obtain ⟨hP, hD⟩ := kx_re (w2 := [kx_1 t_ t_k t_o y_6 mo, kx_a t_k cyI 160 fk, kx_a t_o cyI 160 (upd fq y_1.toNatClampNeg y_5)]) hP hD rfl
  have hP9 := hP
  have hD9 := hD
  have hK9 := hK
  exact W.vret hx hb hr (hlocks := hlocks) (fun t ht hW => ⟨⟨(y_6, (upd fq y_1.toNatClampNeg y_5)), rfl, trivial, by rw [ht]; exact hP9, va_K.moved hW.alike hK9, hD9⟩, hS.F ht⟩) hS.2.2 dX1_drop_25

set_option maxHeartbeats 4000000 in
set_option maxRecDepth 100000 in
theorem c_X1_hasMajority (l : Launch) (dC : Nat → ClassId) (dI : Nat → Nat → Nat) (t_ : Nat) (t_k : Nat) (t_o : Nat) (tk : Int32) (mo : Int32) : Met l yX1_hasMajority wsX1_hasMajority ({ frames := 0, cells := 0, slots := 0, locals := 0 }) (va_Pc [.ref t_] (fun U => va_P (dC, dI) vwCl [kx_1 t_ t_k t_o tk mo] U.heap ∧ va_K (dC, dI) vwCl [] U)) (vp_Si (fun r : Int32 => (r = 1 ∧ (0 : Int) ≤ 1) ∨ (r = 0 ∧ (0 : Int) ≤ 1))) 0 0 (fun _ => False) := by
  refine kx_stS (ws := wsX1_hasMajority) (cc := cX1_hasMajority) (maxL := 1) (ret := (some .boolean)) (by decide) rfl (Nat.le_of_ble_eq_true rfl) ?_
  intro p e s m below meth c ls hx hb hr hlocks hts hown hml hP hK hl
  have hown : s.vm.findClass RX1 = some m.cls := hown
  have hl : lv_has ls 1 [(0, .ref t_)] := hl
  have hf_37 := hts (.fieldLink RX1 37 "MajorityIndex$Tally" "most" "I") (List.mem_of_getElem? (i := 1) rfl)
  have hi_1 : ∀ w ∈ u_ws RX1 TX1 4, w ∈ wsX1_hasMajority := fun w h => List.mem_cons_of_mem _ (List.mem_append_right _ h)
  have hf_34 := hts (.fieldLink RX1 34 "MajorityIndex$Tally" "taken" "I") (List.mem_of_getElem? (i := 2) rfl)
  refine lv_iconst (v := 2) hx hb dX1_hasMajority_0 (by decide) ?_
  refine lv_aload_n hx hb dX1_hasMajority_1 rfl (lv_at hl 0 rfl) ?_
  refine va_get (D := (dC, dI)) (ci := 1) (v := .int mo) (C := RX1) (T := TX1) (N := 4) hx hb hts hi_1 hown hK hP 0 rfl rfl 3 (by decide) hf_37 (fun _ h9 => h9) rfl dX1_hasMajority_2 ?_
  refine lv_imul hx hb dX1_hasMajority_5 ?_
  refine lv_topi (fun y_1 ey_1 => ?_)
  refine lv_aload_n hx hb dX1_hasMajority_6 rfl (lv_at hl 0 rfl) ?_
  refine va_get (D := (dC, dI)) (ci := 1) (v := .int tk) (C := RX1) (T := TX1) (N := 4) hx hb hts hi_1 hown hK hP 0 rfl rfl 2 (by decide) hf_34 (fun _ h9 => h9) rfl dX1_hasMajority_7 ?_
  refine lv_icmp_le (tgt := 17) hx hb dX1_hasMajority_10 (by decide) (fun c_2 => ?_) (fun c_2 => ?_)
  · have i_2 : y_1.toInt ≤ tk.toInt := kc_le c_2
    refine lv_iconst (v := 0) hx hb dX1_hasMajority_17 (by decide) ?_
    exact W.zret (v := 0) hx hb hr (by decide) (hlocks := hlocks) (fun t ht hW => ⟨0, rfl, Or.inr (⟨rfl, om_29⟩), ht⟩) (fun q hq => by cases hq) dX1_hasMajority_18
  · have i_2 : tk.toInt < y_1.toInt := kc_nle c_2
    refine lv_iconst (v := 1) hx hb dX1_hasMajority_13 (by decide) ?_
    refine lv_goto (tgt := 18) hx hb dX1_hasMajority_14 (by decide) ?_
    exact W.zret (v := 1) hx hb hr (by decide) (hlocks := hlocks) (fun t ht hW => ⟨1, rfl, Or.inl ⟨rfl, om_29⟩, ht⟩) (fun q hq => by cases hq) dX1_hasMajority_18



abbrev wsX40 : List Cond := u_ws RX4 TX4 9
theorem nmX4 : ∀ a, a < 9 → ∀ b, b < 9 → a ≠ b → (TX4 a).2.1 ≠ (TX4 b).2.1 := by decide +kernel
theorem tyX4_ok : ∀ k, k < 9 → parseFieldDescriptor (TX4 k).2.2.1 = some (tyX4 k) := by decide +kernel
abbrev cX4_feed : ByteArray := prog_1_method_2_code
def yX4_feed : MethodName := ⟨RX4, "feed", "(II)I"⟩
abbrev cX4_end : ByteArray := prog_1_method_3_code
def yX4_end : MethodName := ⟨RX4, "end", "(I)I"⟩
abbrev cX4_slots : ByteArray := prog_1_method_4_code
def yX4_slots : MethodName := ⟨RX4, "slots", "(I)I"⟩
abbrev cX4_insert : ByteArray := prog_1_method_9_code
def yX4_insert : MethodName := ⟨RX4, "insert", "(II)I"⟩
abbrev cX4_remove : ByteArray := prog_1_method_10_code
def yX4_remove : MethodName := ⟨RX4, "remove", "(I)I"⟩
abbrev cX4_isValue : ByteArray := prog_1_method_46_code
def yX4_isValue : MethodName := ⟨RX4, "isValue", "(I)Z"⟩
abbrev cX4_isShare : ByteArray := prog_1_method_47_code
def yX4_isShare : MethodName := ⟨RX4, "isShare", "(II)Z"⟩
abbrev cX4_laidTree : ByteArray := prog_1_method_51_code
def yX4_laidTree : MethodName := ⟨RX4, "laidTree", "()LMajorityIndex$Tree;"⟩
def wsX4_feed : List Cond := .code yX4_feed cX4_feed 3 (some .int) :: ([.fieldLink RX4 12 "MajorityIndex" "row" "LMajorityIndex$Row;", .fieldLink RX4 57 "MajorityIndex$Row" "length" "I", .fieldLink RX4 53 "MajorityIndex" "treeIsOld" "Z", .methodLink RX4 60 yX0_append, .instanceMethod yX0_append, .selects RX0 yX0_append yX0_append, .initialized RX0, .code yX0_append cX0_append 2 none, .fieldLink RX0 15 "MajorityIndex$Row" "length" "I", .fieldLink RX0 9 "MajorityIndex$Row" "cell" "[I"] ++ wsX40 ++ wsX00)
def wsX4_end : List Cond := .code yX4_end cX4_end 2 (some .int) :: ([.fieldLink RX4 12 "MajorityIndex" "row" "LMajorityIndex$Row;", .fieldLink RX4 57 "MajorityIndex$Row" "length" "I", .fieldLink RX4 53 "MajorityIndex" "treeIsOld" "Z"] ++ wsX40 ++ wsX00)
def wsX4_slots : List Cond := .code yX4_slots cX4_slots 3 (some .int) :: ([.fieldLink RX4 49 "MajorityIndex" "slotsNow" "I", .fieldLink RX4 53 "MajorityIndex" "treeIsOld" "Z"] ++ wsX40)
def wsX4_isValue : List Cond := .code yX4_isValue cX4_isValue 1 (some .boolean) :: ([])
def wsX4_laidTree_r1 : List Cond := [Cond.fieldLink RX4 53 "MajorityIndex" "treeIsOld" "Z", Cond.fieldLink RX4 21 "MajorityIndex" "tree" "LMajorityIndex$Tree;", Cond.fieldLink RX4 49 "MajorityIndex" "slotsNow" "I", Cond.fieldLink RX4 204 "MajorityIndex$Tree" "slotsHere" "I", Cond.fieldLink RX4 12 "MajorityIndex" "row" "LMajorityIndex$Row;", Cond.fieldLink RX4 57 "MajorityIndex$Row" "length" "I", Cond.methodLink RX4 259 yX2_layRanges, Cond.instanceMethod yX2_layRanges, Cond.selects RX2 yX2_layRanges yX2_layRanges, Cond.initialized RX2, Cond.code yX2_layRanges cX2_layRanges 2 none, Cond.fieldLink RX2 40 "MajorityIndex$Tree" "row" "LMajorityIndex$Row;", Cond.fieldLink RX2 44 "MajorityIndex$Row" "length" "I", Cond.fieldLink RX2 50 "MajorityIndex$Tree" "nodes" "I", Cond.fieldLink RX2 18 "MajorityIndex$Tree" "from" "[I", Cond.fieldLink RX2 22 "MajorityIndex$Tree" "to" "[I", Cond.methodLink RX2 53 yX2_layBelow, Cond.instanceMethod yX2_layBelow, Cond.selects RX2 yX2_layBelow yX2_layBelow, Cond.code yX2_layBelow cX2_layBelow 4 none, Cond.methodLink RX2 57 yX2_rightBelow, Cond.instanceMethod yX2_rightBelow, Cond.selects RX2 yX2_rightBelow yX2_rightBelow, Cond.code yX2_rightBelow cX2_rightBelow 3 (some .int)]
def wsX4_laidTree_r2 : List Cond := [Cond.methodLink RX4 87 yX2_renew, Cond.instanceMethod yX2_renew, Cond.selects RX2 yX2_renew yX2_renew, Cond.code yX2_renew cX2_renew 5 (some .int), Cond.methodLink RX2 61 yX2_putTogether, Cond.instanceMethod yX2_putTogether, Cond.selects RX2 yX2_putTogether yX2_putTogether, Cond.code yX2_putTogether cX2_putTogether 2 none, Cond.fieldLink RX2 12 "MajorityIndex$Tree" "joined" "LMajorityIndex$Votes;", Cond.fieldLink RX2 74 "MajorityIndex$Row" "cell" "[I", Cond.fieldLink RX2 85 "MajorityIndex$Tree" "slotsHere" "I", Cond.methodLink RX2 71 yX3_clear, Cond.instanceMethod yX3_clear, Cond.selects RX3 yX3_clear yX3_clear, Cond.initialized RX3, Cond.code yX3_clear cX3_clear 1 none, Cond.fieldLink RX3 18 "MajorityIndex$Votes" "size" "I", Cond.fieldLink RX3 22 "MajorityIndex$Votes" "lost" "I", Cond.fieldLink RX3 25 "MajorityIndex$Votes" "lessBy" "I", Cond.methodLink RX2 77 yX3_add, Cond.instanceMethod yX3_add, Cond.selects RX3 yX3_add yX3_add, Cond.code yX3_add cX3_add 4 none, Cond.fieldLink RX3 9 "MajorityIndex$Votes" "value" "[I"]
def wsX4_laidTree_r3 : List Cond := [Cond.fieldLink RX3 15 "MajorityIndex$Votes" "number" "[I", Cond.methodLink RX2 81 yX2_joinNode, Cond.instanceMethod yX2_joinNode, Cond.selects RX2 yX2_joinNode yX2_joinNode, Cond.code yX2_joinNode cX2_joinNode 5 none, Cond.fieldLink RX2 25 "MajorityIndex$Tree" "size" "[I", Cond.fieldLink RX2 34 "MajorityIndex$Tree" "value" "[I", Cond.fieldLink RX2 37 "MajorityIndex$Tree" "number" "[I", Cond.fieldLink RX2 91 "MajorityIndex$Votes" "lost" "I", Cond.fieldLink RX2 28 "MajorityIndex$Tree" "lossOf" "[I", Cond.methodLink RX2 88 yX3_cancel, Cond.instanceMethod yX3_cancel, Cond.selects RX3 yX3_cancel yX3_cancel, Cond.code yX3_cancel cX3_cancel 4 none, Cond.methodLink RX3 32 yX3_order, Cond.instanceMethod yX3_order, Cond.selects RX3 yX3_order yX3_order, Cond.code yX3_order cX3_order 3 none, Cond.methodLink RX3 35 yX3_isAhead, Cond.instanceMethod yX3_isAhead, Cond.selects RX3 yX3_isAhead yX3_isAhead, Cond.code yX3_isAhead cX3_isAhead 3 (some .boolean), Cond.methodLink RX3 39 yX3_exchange, Cond.instanceMethod yX3_exchange]
def wsX4_laidTree_r4 : List Cond := [Cond.selects RX3 yX3_exchange yX3_exchange, Cond.code yX3_exchange cX3_exchange 5 none, Cond.methodLink RX2 64 yX2_isJoined, Cond.instanceMethod yX2_isJoined, Cond.selects RX2 yX2_isJoined yX2_isJoined, Cond.code yX2_isJoined cX2_isJoined 4 (some .boolean), Cond.fieldLink RX2 94 "MajorityIndex$Votes" "size" "I", Cond.fieldLink RX2 96 "MajorityIndex$Votes" "value" "[I", Cond.fieldLink RX2 97 "MajorityIndex$Votes" "number" "[I", Cond.methodLink RX2 68 yX2_keepJoined, Cond.instanceMethod yX2_keepJoined, Cond.selects RX2 yX2_keepJoined yX2_keepJoined, Cond.code yX2_keepJoined cX2_keepJoined 4 none, Cond.methodLink RX2 98 Lib.Math.min.name, Cond.static Lib.Math.min.name, Cond.initialized "java/lang/Math", Cond.code Lib.Math.min.name Lib.Math.min.code 2 (some .int), Cond.fieldLink RX2 31 "MajorityIndex$Tree" "lessBy" "[I", Cond.fieldLink RX2 104 "MajorityIndex$Votes" "lessBy" "I"]
def wsX4_laidTree : List Cond := .code yX4_laidTree cX4_laidTree 1 (some (.object "MajorityIndex$Tree")) :: ((wsX4_laidTree_r1 ++ (wsX4_laidTree_r2 ++ (wsX4_laidTree_r3 ++ wsX4_laidTree_r4))) ++ wsX40 ++ wsX20 ++ wsX00 ++ wsX30)
def wsX4_insert : List Cond := .code yX4_insert cX4_insert 3 (some .int) :: ([.fieldLink RX4 12 "MajorityIndex" "row" "LMajorityIndex$Row;", .fieldLink RX4 57 "MajorityIndex$Row" "length" "I", .fieldLink RX4 53 "MajorityIndex" "treeIsOld" "Z", .methodLink RX4 68 yX4_isValue, .static yX4_isValue, .initialized RX4, .code yX4_isValue cX4_isValue 1 (some .boolean), .methodLink RX4 99 yX0_putIn, .instanceMethod yX0_putIn, .selects RX0 yX0_putIn yX0_putIn, .initialized RX0, .code yX0_putIn cX0_putIn 4 none, .fieldLink RX0 15 "MajorityIndex$Row" "length" "I", .fieldLink RX0 9 "MajorityIndex$Row" "cell" "[I"] ++ wsX40 ++ wsX00)
def wsX4_remove : List Cond := .code yX4_remove cX4_remove 3 (some .int) :: ([.fieldLink RX4 12 "MajorityIndex" "row" "LMajorityIndex$Row;", .constant RX4 102 (-40000), .fieldLink RX4 53 "MajorityIndex" "treeIsOld" "Z", .methodLink RX4 64 yX0_hasPlace, .instanceMethod yX0_hasPlace, .selects RX0 yX0_hasPlace yX0_hasPlace, .initialized RX0, .code yX0_hasPlace cX0_hasPlace 2 (some .boolean), .fieldLink RX0 15 "MajorityIndex$Row" "length" "I", .methodLink RX4 103 yX0_takeOut, .instanceMethod yX0_takeOut, .selects RX0 yX0_takeOut yX0_takeOut, .code yX0_takeOut cX0_takeOut 4 (some .int), .constant RX0 23 (-40000), .fieldLink RX0 9 "MajorityIndex$Row" "cell" "[I", .methodLink RX0 19 yX0_hasPlace] ++ wsX40 ++ wsX00)
def wsX4_isShare : List Cond := .code yX4_isShare cX4_isShare 2 (some .boolean) :: ([])
set_option maxRecDepth 20000 in
theorem ggX4_feed_X0_append : GoodIn wsX4_feed wsX0_append := goodIn_r _ [8, 9, 10, 20, 21] rfl (by decide +kernel)
set_option maxRecDepth 20000 in
theorem gX4_feed_X0_append : GoodIn wsX4_feed (wsV RX4 60 RX0 yX0_append wsX0_append) := goodIn_app (goodIn_r _ [4, 5, 6, 7] rfl (by decide +kernel)) ggX4_feed_X0_append
def dt_cX4_feed_0 : List (Nat × Nat × Nat × Nat) := [(0, 42, 0, 0), (1, 180, 2, 12), (4, 180, 2, 57), (7, 7, 0, 0), (8, 96, 0, 0), (9, 17, 2, 160), (12, 164, 2, 5), (15, 2, 0, 0), (16, 172, 0, 0), (17, 42, 0, 0), (18, 180, 2, 12), (21, 27, 0, 0), (22, 16, 1, 16), (24, 122, 0, 0), (25, 182, 2, 60), (28, 42, 0, 0), (29, 180, 2, 12), (32, 27, 0, 0), (33, 147, 0, 0), (34, 182, 2, 60)]
theorem da_cX4_feed_0 : fw dt_cX4_feed_0 0 cX4_feed.data.toList = true := by decide +kernel
theorem dX4_feed_0 : decode cX4_feed 0 = .ok (.aload_n 0, 1) := fo_42 (fw_get da_cX4_feed_0 0 rfl)
theorem dX4_feed_1 : decode cX4_feed 1 = .ok (.getfield 12, 3) := fo_180 (fw_get da_cX4_feed_0 1 rfl)
theorem dX4_feed_4 : decode cX4_feed 4 = .ok (.getfield 57, 3) := fo_180 (fw_get da_cX4_feed_0 2 rfl)
theorem dX4_feed_7 : decode cX4_feed 7 = .ok (.iconst 4, 1) := fo_7 (fw_get da_cX4_feed_0 3 rfl)
theorem dX4_feed_8 : decode cX4_feed 8 = .ok (.iadd, 1) := fo_96 (fw_get da_cX4_feed_0 4 rfl)
theorem dX4_feed_9 : decode cX4_feed 9 = .ok (.sipush 160, 3) := fo_17 (fw_get da_cX4_feed_0 5 rfl) (by decide +kernel)
theorem dX4_feed_12 : decode cX4_feed 12 = .ok (.if_icmp .le 5, 3) := fo_164 (fw_get da_cX4_feed_0 6 rfl) (by decide +kernel)
theorem dX4_feed_15 : decode cX4_feed 15 = .ok (.iconst (-1), 1) := fo_2 (fw_get da_cX4_feed_0 7 rfl)
theorem dX4_feed_16 : decode cX4_feed 16 = .ok (.ireturn, 1) := fo_172 (fw_get da_cX4_feed_0 8 rfl)
theorem dX4_feed_17 : decode cX4_feed 17 = .ok (.aload_n 0, 1) := fo_42 (fw_get da_cX4_feed_0 9 rfl)
theorem dX4_feed_18 : decode cX4_feed 18 = .ok (.getfield 12, 3) := fo_180 (fw_get da_cX4_feed_0 10 rfl)
theorem dX4_feed_21 : decode cX4_feed 21 = .ok (.iload_n 1, 1) := fo_27 (fw_get da_cX4_feed_0 11 rfl)
theorem dX4_feed_22 : decode cX4_feed 22 = .ok (.bipush 16, 2) := fo_16 (fw_get da_cX4_feed_0 12 rfl) (by decide +kernel)
theorem dX4_feed_24 : decode cX4_feed 24 = .ok (.ishr, 1) := fo_122 (fw_get da_cX4_feed_0 13 rfl)
theorem dX4_feed_25 : decode cX4_feed 25 = .ok (.invokevirtual 60, 3) := fo_182 (fw_get da_cX4_feed_0 14 rfl)
theorem dX4_feed_28 : decode cX4_feed 28 = .ok (.aload_n 0, 1) := fo_42 (fw_get da_cX4_feed_0 15 rfl)
theorem dX4_feed_29 : decode cX4_feed 29 = .ok (.getfield 12, 3) := fo_180 (fw_get da_cX4_feed_0 16 rfl)
theorem dX4_feed_32 : decode cX4_feed 32 = .ok (.iload_n 1, 1) := fo_27 (fw_get da_cX4_feed_0 17 rfl)
theorem dX4_feed_33 : decode cX4_feed 33 = .ok (.i2s, 1) := fo_147 (fw_get da_cX4_feed_0 18 rfl)
theorem dX4_feed_34 : decode cX4_feed 34 = .ok (.invokevirtual 60, 3) := fo_182 (fw_get da_cX4_feed_0 19 rfl)
def dt_cX4_feed_1 : List (Nat × Nat × Nat × Nat) := [(37, 42, 0, 0), (38, 180, 2, 12), (41, 28, 0, 0), (42, 16, 1, 16), (44, 122, 0, 0), (45, 182, 2, 60), (48, 42, 0, 0), (49, 180, 2, 12), (52, 28, 0, 0), (53, 147, 0, 0), (54, 182, 2, 60), (57, 42, 0, 0), (58, 4, 0, 0), (59, 181, 2, 53), (62, 42, 0, 0), (63, 180, 2, 12), (66, 180, 2, 57), (69, 172, 0, 0)]
theorem da_cX4_feed_1 : fw dt_cX4_feed_1 0 cX4_feed.data.toList = true := by decide +kernel
theorem dX4_feed_37 : decode cX4_feed 37 = .ok (.aload_n 0, 1) := fo_42 (fw_get da_cX4_feed_1 0 rfl)
theorem dX4_feed_38 : decode cX4_feed 38 = .ok (.getfield 12, 3) := fo_180 (fw_get da_cX4_feed_1 1 rfl)
theorem dX4_feed_41 : decode cX4_feed 41 = .ok (.iload_n 2, 1) := fo_28 (fw_get da_cX4_feed_1 2 rfl)
theorem dX4_feed_42 : decode cX4_feed 42 = .ok (.bipush 16, 2) := fo_16 (fw_get da_cX4_feed_1 3 rfl) (by decide +kernel)
theorem dX4_feed_44 : decode cX4_feed 44 = .ok (.ishr, 1) := fo_122 (fw_get da_cX4_feed_1 4 rfl)
theorem dX4_feed_45 : decode cX4_feed 45 = .ok (.invokevirtual 60, 3) := fo_182 (fw_get da_cX4_feed_1 5 rfl)
theorem dX4_feed_48 : decode cX4_feed 48 = .ok (.aload_n 0, 1) := fo_42 (fw_get da_cX4_feed_1 6 rfl)
theorem dX4_feed_49 : decode cX4_feed 49 = .ok (.getfield 12, 3) := fo_180 (fw_get da_cX4_feed_1 7 rfl)
theorem dX4_feed_52 : decode cX4_feed 52 = .ok (.iload_n 2, 1) := fo_28 (fw_get da_cX4_feed_1 8 rfl)
theorem dX4_feed_53 : decode cX4_feed 53 = .ok (.i2s, 1) := fo_147 (fw_get da_cX4_feed_1 9 rfl)
theorem dX4_feed_54 : decode cX4_feed 54 = .ok (.invokevirtual 60, 3) := fo_182 (fw_get da_cX4_feed_1 10 rfl)
theorem dX4_feed_57 : decode cX4_feed 57 = .ok (.aload_n 0, 1) := fo_42 (fw_get da_cX4_feed_1 11 rfl)
theorem dX4_feed_58 : decode cX4_feed 58 = .ok (.iconst 1, 1) := fo_4 (fw_get da_cX4_feed_1 12 rfl)
theorem dX4_feed_59 : decode cX4_feed 59 = .ok (.putfield 53, 3) := fo_181 (fw_get da_cX4_feed_1 13 rfl)
theorem dX4_feed_62 : decode cX4_feed 62 = .ok (.aload_n 0, 1) := fo_42 (fw_get da_cX4_feed_1 14 rfl)
theorem dX4_feed_63 : decode cX4_feed 63 = .ok (.getfield 12, 3) := fo_180 (fw_get da_cX4_feed_1 15 rfl)
theorem dX4_feed_66 : decode cX4_feed 66 = .ok (.getfield 57, 3) := fo_180 (fw_get da_cX4_feed_1 16 rfl)
theorem dX4_feed_69 : decode cX4_feed 69 = .ok (.ireturn, 1) := fo_172 (fw_get da_cX4_feed_1 17 rfl)
def dt_cX4_end_0 : List (Nat × Nat × Nat × Nat) := [(0, 27, 0, 0), (1, 155, 2, 14), (4, 27, 0, 0), (5, 42, 0, 0), (6, 180, 2, 12), (9, 180, 2, 57), (12, 164, 2, 5), (15, 2, 0, 0), (16, 172, 0, 0), (17, 42, 0, 0), (18, 180, 2, 12), (21, 27, 0, 0), (22, 181, 2, 57), (25, 42, 0, 0), (26, 4, 0, 0), (27, 181, 2, 53), (30, 27, 0, 0), (31, 172, 0, 0)]
theorem da_cX4_end_0 : fw dt_cX4_end_0 0 cX4_end.data.toList = true := by decide +kernel
theorem dX4_end_0 : decode cX4_end 0 = .ok (.iload_n 1, 1) := fo_27 (fw_get da_cX4_end_0 0 rfl)
theorem dX4_end_1 : decode cX4_end 1 = .ok (.ifCond .lt 14, 3) := fo_155 (fw_get da_cX4_end_0 1 rfl) (by decide +kernel)
theorem dX4_end_4 : decode cX4_end 4 = .ok (.iload_n 1, 1) := fo_27 (fw_get da_cX4_end_0 2 rfl)
theorem dX4_end_5 : decode cX4_end 5 = .ok (.aload_n 0, 1) := fo_42 (fw_get da_cX4_end_0 3 rfl)
theorem dX4_end_6 : decode cX4_end 6 = .ok (.getfield 12, 3) := fo_180 (fw_get da_cX4_end_0 4 rfl)
theorem dX4_end_9 : decode cX4_end 9 = .ok (.getfield 57, 3) := fo_180 (fw_get da_cX4_end_0 5 rfl)
theorem dX4_end_12 : decode cX4_end 12 = .ok (.if_icmp .le 5, 3) := fo_164 (fw_get da_cX4_end_0 6 rfl) (by decide +kernel)
theorem dX4_end_15 : decode cX4_end 15 = .ok (.iconst (-1), 1) := fo_2 (fw_get da_cX4_end_0 7 rfl)
theorem dX4_end_16 : decode cX4_end 16 = .ok (.ireturn, 1) := fo_172 (fw_get da_cX4_end_0 8 rfl)
theorem dX4_end_17 : decode cX4_end 17 = .ok (.aload_n 0, 1) := fo_42 (fw_get da_cX4_end_0 9 rfl)
theorem dX4_end_18 : decode cX4_end 18 = .ok (.getfield 12, 3) := fo_180 (fw_get da_cX4_end_0 10 rfl)
theorem dX4_end_21 : decode cX4_end 21 = .ok (.iload_n 1, 1) := fo_27 (fw_get da_cX4_end_0 11 rfl)
theorem dX4_end_22 : decode cX4_end 22 = .ok (.putfield 57, 3) := fo_181 (fw_get da_cX4_end_0 12 rfl)
theorem dX4_end_25 : decode cX4_end 25 = .ok (.aload_n 0, 1) := fo_42 (fw_get da_cX4_end_0 13 rfl)
theorem dX4_end_26 : decode cX4_end 26 = .ok (.iconst 1, 1) := fo_4 (fw_get da_cX4_end_0 14 rfl)
theorem dX4_end_27 : decode cX4_end 27 = .ok (.putfield 53, 3) := fo_181 (fw_get da_cX4_end_0 15 rfl)
theorem dX4_end_30 : decode cX4_end 30 = .ok (.iload_n 1, 1) := fo_27 (fw_get da_cX4_end_0 16 rfl)
theorem dX4_end_31 : decode cX4_end 31 = .ok (.ireturn, 1) := fo_172 (fw_get da_cX4_end_0 17 rfl)
def dt_cX4_slots_0 : List (Nat × Nat × Nat × Nat) := [(0, 27, 0, 0), (1, 4, 0, 0), (2, 161, 2, 9), (5, 27, 0, 0), (6, 16, 1, 6), (8, 164, 2, 5), (11, 2, 0, 0), (12, 172, 0, 0), (13, 42, 0, 0), (14, 180, 2, 49), (17, 61, 0, 0), (18, 42, 0, 0), (19, 27, 0, 0), (20, 181, 2, 49), (23, 42, 0, 0), (24, 4, 0, 0), (25, 181, 2, 53), (28, 28, 0, 0), (29, 172, 0, 0)]
theorem da_cX4_slots_0 : fw dt_cX4_slots_0 0 cX4_slots.data.toList = true := by decide +kernel
theorem dX4_slots_0 : decode cX4_slots 0 = .ok (.iload_n 1, 1) := fo_27 (fw_get da_cX4_slots_0 0 rfl)
theorem dX4_slots_1 : decode cX4_slots 1 = .ok (.iconst 1, 1) := fo_4 (fw_get da_cX4_slots_0 1 rfl)
theorem dX4_slots_2 : decode cX4_slots 2 = .ok (.if_icmp .lt 9, 3) := fo_161 (fw_get da_cX4_slots_0 2 rfl) (by decide +kernel)
theorem dX4_slots_5 : decode cX4_slots 5 = .ok (.iload_n 1, 1) := fo_27 (fw_get da_cX4_slots_0 3 rfl)
theorem dX4_slots_6 : decode cX4_slots 6 = .ok (.bipush 6, 2) := fo_16 (fw_get da_cX4_slots_0 4 rfl) (by decide +kernel)
theorem dX4_slots_8 : decode cX4_slots 8 = .ok (.if_icmp .le 5, 3) := fo_164 (fw_get da_cX4_slots_0 5 rfl) (by decide +kernel)
theorem dX4_slots_11 : decode cX4_slots 11 = .ok (.iconst (-1), 1) := fo_2 (fw_get da_cX4_slots_0 6 rfl)
theorem dX4_slots_12 : decode cX4_slots 12 = .ok (.ireturn, 1) := fo_172 (fw_get da_cX4_slots_0 7 rfl)
theorem dX4_slots_13 : decode cX4_slots 13 = .ok (.aload_n 0, 1) := fo_42 (fw_get da_cX4_slots_0 8 rfl)
theorem dX4_slots_14 : decode cX4_slots 14 = .ok (.getfield 49, 3) := fo_180 (fw_get da_cX4_slots_0 9 rfl)
theorem dX4_slots_17 : decode cX4_slots 17 = .ok (.istore_n 2, 1) := fo_61 (fw_get da_cX4_slots_0 10 rfl)
theorem dX4_slots_18 : decode cX4_slots 18 = .ok (.aload_n 0, 1) := fo_42 (fw_get da_cX4_slots_0 11 rfl)
theorem dX4_slots_19 : decode cX4_slots 19 = .ok (.iload_n 1, 1) := fo_27 (fw_get da_cX4_slots_0 12 rfl)
theorem dX4_slots_20 : decode cX4_slots 20 = .ok (.putfield 49, 3) := fo_181 (fw_get da_cX4_slots_0 13 rfl)
theorem dX4_slots_23 : decode cX4_slots 23 = .ok (.aload_n 0, 1) := fo_42 (fw_get da_cX4_slots_0 14 rfl)
theorem dX4_slots_24 : decode cX4_slots 24 = .ok (.iconst 1, 1) := fo_4 (fw_get da_cX4_slots_0 15 rfl)
theorem dX4_slots_25 : decode cX4_slots 25 = .ok (.putfield 53, 3) := fo_181 (fw_get da_cX4_slots_0 16 rfl)
theorem dX4_slots_28 : decode cX4_slots 28 = .ok (.iload_n 2, 1) := fo_28 (fw_get da_cX4_slots_0 17 rfl)
theorem dX4_slots_29 : decode cX4_slots 29 = .ok (.ireturn, 1) := fo_172 (fw_get da_cX4_slots_0 18 rfl)
set_option maxRecDepth 20000 in
theorem ggX4_insert_X4_isValue : GoodIn wsX4_insert wsX4_isValue := goodIn_r _ [7] rfl (by decide +kernel)
set_option maxRecDepth 20000 in
theorem gX4_insert_X4_isValue : GoodIn wsX4_insert (va_wsS RX4 68 yX4_isValue wsX4_isValue) := goodIn_app (goodIn_r _ [4, 5, 6] rfl (by decide +kernel)) ggX4_insert_X4_isValue
set_option maxRecDepth 20000 in
theorem ggX4_insert_X0_putIn : GoodIn wsX4_insert wsX0_putIn := goodIn_r _ [12, 13, 14, 24, 25] rfl (by decide +kernel)
set_option maxRecDepth 20000 in
theorem gX4_insert_X0_putIn : GoodIn wsX4_insert (wsV RX4 99 RX0 yX0_putIn wsX0_putIn) := goodIn_app (goodIn_r _ [8, 9, 10, 11] rfl (by decide +kernel)) ggX4_insert_X0_putIn
def dt_cX4_insert_0 : List (Nat × Nat × Nat × Nat) := [(0, 27, 0, 0), (1, 155, 2, 34), (4, 27, 0, 0), (5, 42, 0, 0), (6, 180, 2, 12), (9, 180, 2, 57), (12, 163, 2, 23), (15, 28, 0, 0), (16, 184, 2, 68), (19, 153, 2, 16), (22, 42, 0, 0), (23, 180, 2, 12), (26, 180, 2, 57), (29, 17, 2, 160), (32, 161, 2, 5), (35, 2, 0, 0), (36, 172, 0, 0), (37, 42, 0, 0), (38, 180, 2, 12), (41, 27, 0, 0)]
theorem da_cX4_insert_0 : fw dt_cX4_insert_0 0 cX4_insert.data.toList = true := by decide +kernel
theorem dX4_insert_0 : decode cX4_insert 0 = .ok (.iload_n 1, 1) := fo_27 (fw_get da_cX4_insert_0 0 rfl)
theorem dX4_insert_1 : decode cX4_insert 1 = .ok (.ifCond .lt 34, 3) := fo_155 (fw_get da_cX4_insert_0 1 rfl) (by decide +kernel)
theorem dX4_insert_4 : decode cX4_insert 4 = .ok (.iload_n 1, 1) := fo_27 (fw_get da_cX4_insert_0 2 rfl)
theorem dX4_insert_5 : decode cX4_insert 5 = .ok (.aload_n 0, 1) := fo_42 (fw_get da_cX4_insert_0 3 rfl)
theorem dX4_insert_6 : decode cX4_insert 6 = .ok (.getfield 12, 3) := fo_180 (fw_get da_cX4_insert_0 4 rfl)
theorem dX4_insert_9 : decode cX4_insert 9 = .ok (.getfield 57, 3) := fo_180 (fw_get da_cX4_insert_0 5 rfl)
theorem dX4_insert_12 : decode cX4_insert 12 = .ok (.if_icmp .gt 23, 3) := fo_163 (fw_get da_cX4_insert_0 6 rfl) (by decide +kernel)
theorem dX4_insert_15 : decode cX4_insert 15 = .ok (.iload_n 2, 1) := fo_28 (fw_get da_cX4_insert_0 7 rfl)
theorem dX4_insert_16 : decode cX4_insert 16 = .ok (.invokestatic 68, 3) := fo_184 (fw_get da_cX4_insert_0 8 rfl)
theorem dX4_insert_19 : decode cX4_insert 19 = .ok (.ifCond .eq 16, 3) := fo_153 (fw_get da_cX4_insert_0 9 rfl) (by decide +kernel)
theorem dX4_insert_22 : decode cX4_insert 22 = .ok (.aload_n 0, 1) := fo_42 (fw_get da_cX4_insert_0 10 rfl)
theorem dX4_insert_23 : decode cX4_insert 23 = .ok (.getfield 12, 3) := fo_180 (fw_get da_cX4_insert_0 11 rfl)
theorem dX4_insert_26 : decode cX4_insert 26 = .ok (.getfield 57, 3) := fo_180 (fw_get da_cX4_insert_0 12 rfl)
theorem dX4_insert_29 : decode cX4_insert 29 = .ok (.sipush 160, 3) := fo_17 (fw_get da_cX4_insert_0 13 rfl) (by decide +kernel)
theorem dX4_insert_32 : decode cX4_insert 32 = .ok (.if_icmp .lt 5, 3) := fo_161 (fw_get da_cX4_insert_0 14 rfl) (by decide +kernel)
theorem dX4_insert_35 : decode cX4_insert 35 = .ok (.iconst (-1), 1) := fo_2 (fw_get da_cX4_insert_0 15 rfl)
theorem dX4_insert_36 : decode cX4_insert 36 = .ok (.ireturn, 1) := fo_172 (fw_get da_cX4_insert_0 16 rfl)
theorem dX4_insert_37 : decode cX4_insert 37 = .ok (.aload_n 0, 1) := fo_42 (fw_get da_cX4_insert_0 17 rfl)
theorem dX4_insert_38 : decode cX4_insert 38 = .ok (.getfield 12, 3) := fo_180 (fw_get da_cX4_insert_0 18 rfl)
theorem dX4_insert_41 : decode cX4_insert 41 = .ok (.iload_n 1, 1) := fo_27 (fw_get da_cX4_insert_0 19 rfl)
def dt_cX4_insert_1 : List (Nat × Nat × Nat × Nat) := [(42, 28, 0, 0), (43, 182, 2, 99), (46, 42, 0, 0), (47, 4, 0, 0), (48, 181, 2, 53), (51, 42, 0, 0), (52, 180, 2, 12), (55, 180, 2, 57), (58, 172, 0, 0)]
theorem da_cX4_insert_1 : fw dt_cX4_insert_1 0 cX4_insert.data.toList = true := by decide +kernel
theorem dX4_insert_42 : decode cX4_insert 42 = .ok (.iload_n 2, 1) := fo_28 (fw_get da_cX4_insert_1 0 rfl)
theorem dX4_insert_43 : decode cX4_insert 43 = .ok (.invokevirtual 99, 3) := fo_182 (fw_get da_cX4_insert_1 1 rfl)
theorem dX4_insert_46 : decode cX4_insert 46 = .ok (.aload_n 0, 1) := fo_42 (fw_get da_cX4_insert_1 2 rfl)
theorem dX4_insert_47 : decode cX4_insert 47 = .ok (.iconst 1, 1) := fo_4 (fw_get da_cX4_insert_1 3 rfl)
theorem dX4_insert_48 : decode cX4_insert 48 = .ok (.putfield 53, 3) := fo_181 (fw_get da_cX4_insert_1 4 rfl)
theorem dX4_insert_51 : decode cX4_insert 51 = .ok (.aload_n 0, 1) := fo_42 (fw_get da_cX4_insert_1 5 rfl)
theorem dX4_insert_52 : decode cX4_insert 52 = .ok (.getfield 12, 3) := fo_180 (fw_get da_cX4_insert_1 6 rfl)
theorem dX4_insert_55 : decode cX4_insert 55 = .ok (.getfield 57, 3) := fo_180 (fw_get da_cX4_insert_1 7 rfl)
theorem dX4_insert_58 : decode cX4_insert 58 = .ok (.ireturn, 1) := fo_172 (fw_get da_cX4_insert_1 8 rfl)
set_option maxRecDepth 20000 in
theorem ggX4_remove_X0_hasPlace : GoodIn wsX4_remove wsX0_hasPlace := goodIn_r _ [8, 9, 26, 27] rfl (by decide +kernel)
set_option maxRecDepth 20000 in
theorem gX4_remove_X0_hasPlace : GoodIn wsX4_remove (wsV RX4 64 RX0 yX0_hasPlace wsX0_hasPlace) := goodIn_app (goodIn_r _ [4, 5, 6, 7] rfl (by decide +kernel)) ggX4_remove_X0_hasPlace
set_option maxRecDepth 20000 in
theorem ggX4_remove_X0_takeOut : GoodIn wsX4_remove wsX0_takeOut := goodIn_r _ [13, 14, 15, 9, 16, 5, 6, 7, 8, 26, 27] rfl (by decide +kernel)
set_option maxRecDepth 20000 in
theorem gX4_remove_X0_takeOut : GoodIn wsX4_remove (wsV RX4 103 RX0 yX0_takeOut wsX0_takeOut) := goodIn_app (goodIn_r _ [10, 11, 12, 7] rfl (by decide +kernel)) ggX4_remove_X0_takeOut
def dt_cX4_remove_0 : List (Nat × Nat × Nat × Nat) := [(0, 42, 0, 0), (1, 180, 2, 12), (4, 27, 0, 0), (5, 182, 2, 64), (8, 154, 2, 6), (11, 18, 1, 102), (13, 172, 0, 0), (14, 42, 0, 0), (15, 180, 2, 12), (18, 27, 0, 0), (19, 182, 2, 103), (22, 61, 0, 0), (23, 42, 0, 0), (24, 4, 0, 0), (25, 181, 2, 53), (28, 28, 0, 0), (29, 172, 0, 0)]
theorem da_cX4_remove_0 : fw dt_cX4_remove_0 0 cX4_remove.data.toList = true := by decide +kernel
theorem dX4_remove_0 : decode cX4_remove 0 = .ok (.aload_n 0, 1) := fo_42 (fw_get da_cX4_remove_0 0 rfl)
theorem dX4_remove_1 : decode cX4_remove 1 = .ok (.getfield 12, 3) := fo_180 (fw_get da_cX4_remove_0 1 rfl)
theorem dX4_remove_4 : decode cX4_remove 4 = .ok (.iload_n 1, 1) := fo_27 (fw_get da_cX4_remove_0 2 rfl)
theorem dX4_remove_5 : decode cX4_remove 5 = .ok (.invokevirtual 64, 3) := fo_182 (fw_get da_cX4_remove_0 3 rfl)
theorem dX4_remove_8 : decode cX4_remove 8 = .ok (.ifCond .ne 6, 3) := fo_154 (fw_get da_cX4_remove_0 4 rfl) (by decide +kernel)
theorem dX4_remove_11 : decode cX4_remove 11 = .ok (.ldc 102, 2) := fo_18 (fw_get da_cX4_remove_0 5 rfl)
theorem dX4_remove_13 : decode cX4_remove 13 = .ok (.ireturn, 1) := fo_172 (fw_get da_cX4_remove_0 6 rfl)
theorem dX4_remove_14 : decode cX4_remove 14 = .ok (.aload_n 0, 1) := fo_42 (fw_get da_cX4_remove_0 7 rfl)
theorem dX4_remove_15 : decode cX4_remove 15 = .ok (.getfield 12, 3) := fo_180 (fw_get da_cX4_remove_0 8 rfl)
theorem dX4_remove_18 : decode cX4_remove 18 = .ok (.iload_n 1, 1) := fo_27 (fw_get da_cX4_remove_0 9 rfl)
theorem dX4_remove_19 : decode cX4_remove 19 = .ok (.invokevirtual 103, 3) := fo_182 (fw_get da_cX4_remove_0 10 rfl)
theorem dX4_remove_22 : decode cX4_remove 22 = .ok (.istore_n 2, 1) := fo_61 (fw_get da_cX4_remove_0 11 rfl)
theorem dX4_remove_23 : decode cX4_remove 23 = .ok (.aload_n 0, 1) := fo_42 (fw_get da_cX4_remove_0 12 rfl)
theorem dX4_remove_24 : decode cX4_remove 24 = .ok (.iconst 1, 1) := fo_4 (fw_get da_cX4_remove_0 13 rfl)
theorem dX4_remove_25 : decode cX4_remove 25 = .ok (.putfield 53, 3) := fo_181 (fw_get da_cX4_remove_0 14 rfl)
theorem dX4_remove_28 : decode cX4_remove 28 = .ok (.iload_n 2, 1) := fo_28 (fw_get da_cX4_remove_0 15 rfl)
theorem dX4_remove_29 : decode cX4_remove 29 = .ok (.ireturn, 1) := fo_172 (fw_get da_cX4_remove_0 16 rfl)
def dt_cX4_isValue_0 : List (Nat × Nat × Nat × Nat) := [(0, 26, 0, 0), (1, 17, 2, 32768), (4, 161, 2, 14), (7, 26, 0, 0), (8, 17, 2, 32767), (11, 163, 2, 7), (14, 4, 0, 0), (15, 167, 2, 4), (18, 3, 0, 0), (19, 172, 0, 0)]
theorem da_cX4_isValue_0 : fw dt_cX4_isValue_0 0 cX4_isValue.data.toList = true := by decide +kernel
theorem dX4_isValue_0 : decode cX4_isValue 0 = .ok (.iload_n 0, 1) := fo_26 (fw_get da_cX4_isValue_0 0 rfl)
theorem dX4_isValue_1 : decode cX4_isValue 1 = .ok (.sipush (-32768), 3) := fo_17 (fw_get da_cX4_isValue_0 1 rfl) (by decide +kernel)
theorem dX4_isValue_4 : decode cX4_isValue 4 = .ok (.if_icmp .lt 14, 3) := fo_161 (fw_get da_cX4_isValue_0 2 rfl) (by decide +kernel)
theorem dX4_isValue_7 : decode cX4_isValue 7 = .ok (.iload_n 0, 1) := fo_26 (fw_get da_cX4_isValue_0 3 rfl)
theorem dX4_isValue_8 : decode cX4_isValue 8 = .ok (.sipush 32767, 3) := fo_17 (fw_get da_cX4_isValue_0 4 rfl) (by decide +kernel)
theorem dX4_isValue_11 : decode cX4_isValue 11 = .ok (.if_icmp .gt 7, 3) := fo_163 (fw_get da_cX4_isValue_0 5 rfl) (by decide +kernel)
theorem dX4_isValue_14 : decode cX4_isValue 14 = .ok (.iconst 1, 1) := fo_4 (fw_get da_cX4_isValue_0 6 rfl)
theorem dX4_isValue_15 : decode cX4_isValue 15 = .ok (.goto 4, 3) := fo_167 (fw_get da_cX4_isValue_0 7 rfl) (by decide +kernel)
theorem dX4_isValue_18 : decode cX4_isValue 18 = .ok (.iconst 0, 1) := fo_3 (fw_get da_cX4_isValue_0 8 rfl)
theorem dX4_isValue_19 : decode cX4_isValue 19 = .ok (.ireturn, 1) := fo_172 (fw_get da_cX4_isValue_0 9 rfl)
def dt_cX4_isShare_0 : List (Nat × Nat × Nat × Nat) := [(0, 26, 0, 0), (1, 4, 0, 0), (2, 161, 2, 19), (5, 27, 0, 0), (6, 26, 0, 0), (7, 161, 2, 14), (10, 27, 0, 0), (11, 17, 2, 999), (14, 163, 2, 7), (17, 4, 0, 0), (18, 167, 2, 4), (21, 3, 0, 0), (22, 172, 0, 0)]
theorem da_cX4_isShare_0 : fw dt_cX4_isShare_0 0 cX4_isShare.data.toList = true := by decide +kernel
theorem dX4_isShare_0 : decode cX4_isShare 0 = .ok (.iload_n 0, 1) := fo_26 (fw_get da_cX4_isShare_0 0 rfl)
theorem dX4_isShare_1 : decode cX4_isShare 1 = .ok (.iconst 1, 1) := fo_4 (fw_get da_cX4_isShare_0 1 rfl)
theorem dX4_isShare_2 : decode cX4_isShare 2 = .ok (.if_icmp .lt 19, 3) := fo_161 (fw_get da_cX4_isShare_0 2 rfl) (by decide +kernel)
theorem dX4_isShare_5 : decode cX4_isShare 5 = .ok (.iload_n 1, 1) := fo_27 (fw_get da_cX4_isShare_0 3 rfl)
theorem dX4_isShare_6 : decode cX4_isShare 6 = .ok (.iload_n 0, 1) := fo_26 (fw_get da_cX4_isShare_0 4 rfl)
theorem dX4_isShare_7 : decode cX4_isShare 7 = .ok (.if_icmp .lt 14, 3) := fo_161 (fw_get da_cX4_isShare_0 5 rfl) (by decide +kernel)
theorem dX4_isShare_10 : decode cX4_isShare 10 = .ok (.iload_n 1, 1) := fo_27 (fw_get da_cX4_isShare_0 6 rfl)
theorem dX4_isShare_11 : decode cX4_isShare 11 = .ok (.sipush 999, 3) := fo_17 (fw_get da_cX4_isShare_0 7 rfl) (by decide +kernel)
theorem dX4_isShare_14 : decode cX4_isShare 14 = .ok (.if_icmp .gt 7, 3) := fo_163 (fw_get da_cX4_isShare_0 8 rfl) (by decide +kernel)
theorem dX4_isShare_17 : decode cX4_isShare 17 = .ok (.iconst 1, 1) := fo_4 (fw_get da_cX4_isShare_0 9 rfl)
theorem dX4_isShare_18 : decode cX4_isShare 18 = .ok (.goto 4, 3) := fo_167 (fw_get da_cX4_isShare_0 10 rfl) (by decide +kernel)
theorem dX4_isShare_21 : decode cX4_isShare 21 = .ok (.iconst 0, 1) := fo_3 (fw_get da_cX4_isShare_0 11 rfl)
theorem dX4_isShare_22 : decode cX4_isShare 22 = .ok (.ireturn, 1) := fo_172 (fw_get da_cX4_isShare_0 12 rfl)
theorem mi_wsX4_laidTree_wsX4_laidTree_r1 : ∀ w ∈ wsX4_laidTree_r1, w ∈ wsX4_laidTree := fun _ h => (List.mem_cons_of_mem _ (List.mem_append_left _ (List.mem_append_left _ (List.mem_append_left _ (List.mem_append_left _ (List.mem_append_left _ h))))))
theorem mi_wsX4_laidTree_wsX20 : ∀ w ∈ wsX20, w ∈ wsX4_laidTree := fun _ h => (List.mem_cons_of_mem _ (List.mem_append_left _ (List.mem_append_left _ (List.mem_append_right _ h))))
theorem mi_wsX4_laidTree_wsX00 : ∀ w ∈ wsX00, w ∈ wsX4_laidTree := fun _ h => (List.mem_cons_of_mem _ (List.mem_append_left _ (List.mem_append_right _ h)))
set_option maxRecDepth 20000 in
theorem ggX4_laidTree_X2_layRanges : GoodIn wsX4_laidTree wsX2_layRanges := goodIn_m _ [(wsX4_laidTree_r1, [false, false, false, false, false, false, false, false, false, false, true, true, true, true, true, true, true, true, true]), (wsX4_laidTree_r1, [false, false, false, false, false, false, false, false, false, true, false, false, false, false, false, false, false, false, false, true, true, true, true, true]), (wsX20, [true, true, true, true, true, true, true, true, true, true, true]), (wsX00, [true, true])] (gm_c mi_wsX4_laidTree_wsX4_laidTree_r1 (gm_c mi_wsX4_laidTree_wsX4_laidTree_r1 (gm_c mi_wsX4_laidTree_wsX20 (gm_c mi_wsX4_laidTree_wsX00 gm_n)))) rfl (by decide +kernel)
set_option maxRecDepth 20000 in
theorem gX4_laidTree_X2_layRanges : GoodIn wsX4_laidTree (wsV RX4 259 RX2 yX2_layRanges wsX2_layRanges) := goodIn_app (goodIn_m _ [(wsX4_laidTree_r1, [false, false, false, false, false, false, true, true, true, true])] (gm_c mi_wsX4_laidTree_wsX4_laidTree_r1 gm_n) rfl (by decide +kernel)) ggX4_laidTree_X2_layRanges
theorem mi_wsX4_laidTree_wsX4_laidTree_r2 : ∀ w ∈ wsX4_laidTree_r2, w ∈ wsX4_laidTree := fun _ h => (List.mem_cons_of_mem _ (List.mem_append_left _ (List.mem_append_left _ (List.mem_append_left _ (List.mem_append_left _ (List.mem_append_right _ (List.mem_append_left _ h)))))))
theorem mi_wsX4_laidTree_wsX4_laidTree_r3 : ∀ w ∈ wsX4_laidTree_r3, w ∈ wsX4_laidTree := fun _ h => (List.mem_cons_of_mem _ (List.mem_append_left _ (List.mem_append_left _ (List.mem_append_left _ (List.mem_append_left _ (List.mem_append_right _ (List.mem_append_right _ (List.mem_append_left _ h))))))))
theorem mi_wsX4_laidTree_wsX4_laidTree_r4 : ∀ w ∈ wsX4_laidTree_r4, w ∈ wsX4_laidTree := fun _ h => (List.mem_cons_of_mem _ (List.mem_append_left _ (List.mem_append_left _ (List.mem_append_left _ (List.mem_append_left _ (List.mem_append_right _ (List.mem_append_right _ (List.mem_append_right _ h))))))))
theorem mi_wsX4_laidTree_wsX30 : ∀ w ∈ wsX30, w ∈ wsX4_laidTree := fun _ h => (List.mem_cons_of_mem _ (List.mem_append_right _ h))
set_option maxRecDepth 20000 in
theorem ggX4_laidTree_X2_renew : GoodIn wsX4_laidTree wsX2_renew := goodIn_m _ [(wsX4_laidTree_r2, [false, false, false, true]), (wsX4_laidTree_r1, [false, false, false, false, false, false, false, false, false, false, false, false, false, true, true, true]), (wsX4_laidTree_r2, [false, false, false, false, true, true, true]), (wsX4_laidTree_r1, [false, false, false, false, false, false, false, false, false, true]), (wsX4_laidTree_r2, [false, false, false, false, false, false, false, true, true]), (wsX4_laidTree_r1, [false, false, false, false, false, false, false, false, false, false, false, true]), (wsX4_laidTree_r2, [false, false, false, false, false, false, false, false, false, true, true, true, true, true, true, true, true, true, true, true, true, true, true, true]), (wsX4_laidTree_r3, [true, true, true, true, true, true, true, true, true, true]), (wsX4_laidTree_r1, [false, false, false, false, false, false, false, false, false, false, false, false, false, false, false, false, false, false, false, false, true, true, true, true]), (wsX4_laidTree_r3, [false, false, false, false, false, false, false, false, false, false, true, true, true, true, true, true, true, true, true, true, true, true, true, true]), (wsX4_laidTree_r4, [true, true, true, true, true, true, true, true, true, true, true, true, true, true, true, true, true, true, true]), (wsX20, [true, true, true, true, true, true, true, true, true, true, true]), (wsX00, [true, true]), (wsX30, [true, true, true, true, true])] (gm_c mi_wsX4_laidTree_wsX4_laidTree_r2 (gm_c mi_wsX4_laidTree_wsX4_laidTree_r1 (gm_c mi_wsX4_laidTree_wsX4_laidTree_r2 (gm_c mi_wsX4_laidTree_wsX4_laidTree_r1 (gm_c mi_wsX4_laidTree_wsX4_laidTree_r2 (gm_c mi_wsX4_laidTree_wsX4_laidTree_r1 (gm_c mi_wsX4_laidTree_wsX4_laidTree_r2 (gm_c mi_wsX4_laidTree_wsX4_laidTree_r3 (gm_c mi_wsX4_laidTree_wsX4_laidTree_r1 (gm_c mi_wsX4_laidTree_wsX4_laidTree_r3 (gm_c mi_wsX4_laidTree_wsX4_laidTree_r4 (gm_c mi_wsX4_laidTree_wsX20 (gm_c mi_wsX4_laidTree_wsX00 (gm_c mi_wsX4_laidTree_wsX30 gm_n)))))))))))))) rfl (by decide +kernel)
set_option maxRecDepth 20000 in
theorem gX4_laidTree_X2_renew : GoodIn wsX4_laidTree (wsV RX4 87 RX2 yX2_renew wsX2_renew) := goodIn_app (goodIn_m _ [(wsX4_laidTree_r2, [true, true, true]), (wsX4_laidTree_r1, [false, false, false, false, false, false, false, false, false, true])] (gm_c mi_wsX4_laidTree_wsX4_laidTree_r2 (gm_c mi_wsX4_laidTree_wsX4_laidTree_r1 gm_n)) rfl (by decide +kernel)) ggX4_laidTree_X2_renew
def dt_cX4_laidTree_0 : List (Nat × Nat × Nat × Nat) := [(0, 42, 0, 0), (1, 180, 2, 53), (4, 153, 2, 42), (7, 42, 0, 0), (8, 180, 2, 21), (11, 182, 2, 259), (14, 42, 0, 0), (15, 180, 2, 21), (18, 42, 0, 0), (19, 180, 2, 49), (22, 181, 2, 204), (25, 42, 0, 0), (26, 180, 2, 21), (29, 3, 0, 0), (30, 42, 0, 0), (31, 180, 2, 12), (34, 180, 2, 57), (37, 182, 2, 87), (40, 87, 0, 0), (41, 42, 0, 0)]
theorem da_cX4_laidTree_0 : fw dt_cX4_laidTree_0 0 cX4_laidTree.data.toList = true := by decide +kernel
theorem dX4_laidTree_0 : decode cX4_laidTree 0 = .ok (.aload_n 0, 1) := fo_42 (fw_get da_cX4_laidTree_0 0 rfl)
theorem dX4_laidTree_1 : decode cX4_laidTree 1 = .ok (.getfield 53, 3) := fo_180 (fw_get da_cX4_laidTree_0 1 rfl)
theorem dX4_laidTree_4 : decode cX4_laidTree 4 = .ok (.ifCond .eq 42, 3) := fo_153 (fw_get da_cX4_laidTree_0 2 rfl) (by decide +kernel)
theorem dX4_laidTree_7 : decode cX4_laidTree 7 = .ok (.aload_n 0, 1) := fo_42 (fw_get da_cX4_laidTree_0 3 rfl)
theorem dX4_laidTree_8 : decode cX4_laidTree 8 = .ok (.getfield 21, 3) := fo_180 (fw_get da_cX4_laidTree_0 4 rfl)
theorem dX4_laidTree_11 : decode cX4_laidTree 11 = .ok (.invokevirtual 259, 3) := fo_182 (fw_get da_cX4_laidTree_0 5 rfl)
theorem dX4_laidTree_14 : decode cX4_laidTree 14 = .ok (.aload_n 0, 1) := fo_42 (fw_get da_cX4_laidTree_0 6 rfl)
theorem dX4_laidTree_15 : decode cX4_laidTree 15 = .ok (.getfield 21, 3) := fo_180 (fw_get da_cX4_laidTree_0 7 rfl)
theorem dX4_laidTree_18 : decode cX4_laidTree 18 = .ok (.aload_n 0, 1) := fo_42 (fw_get da_cX4_laidTree_0 8 rfl)
theorem dX4_laidTree_19 : decode cX4_laidTree 19 = .ok (.getfield 49, 3) := fo_180 (fw_get da_cX4_laidTree_0 9 rfl)
theorem dX4_laidTree_22 : decode cX4_laidTree 22 = .ok (.putfield 204, 3) := fo_181 (fw_get da_cX4_laidTree_0 10 rfl)
theorem dX4_laidTree_25 : decode cX4_laidTree 25 = .ok (.aload_n 0, 1) := fo_42 (fw_get da_cX4_laidTree_0 11 rfl)
theorem dX4_laidTree_26 : decode cX4_laidTree 26 = .ok (.getfield 21, 3) := fo_180 (fw_get da_cX4_laidTree_0 12 rfl)
theorem dX4_laidTree_29 : decode cX4_laidTree 29 = .ok (.iconst 0, 1) := fo_3 (fw_get da_cX4_laidTree_0 13 rfl)
theorem dX4_laidTree_30 : decode cX4_laidTree 30 = .ok (.aload_n 0, 1) := fo_42 (fw_get da_cX4_laidTree_0 14 rfl)
theorem dX4_laidTree_31 : decode cX4_laidTree 31 = .ok (.getfield 12, 3) := fo_180 (fw_get da_cX4_laidTree_0 15 rfl)
theorem dX4_laidTree_34 : decode cX4_laidTree 34 = .ok (.getfield 57, 3) := fo_180 (fw_get da_cX4_laidTree_0 16 rfl)
theorem dX4_laidTree_37 : decode cX4_laidTree 37 = .ok (.invokevirtual 87, 3) := fo_182 (fw_get da_cX4_laidTree_0 17 rfl)
theorem dX4_laidTree_40 : decode cX4_laidTree 40 = .ok (.pop, 1) := fo_87 (fw_get da_cX4_laidTree_0 18 rfl)
theorem dX4_laidTree_41 : decode cX4_laidTree 41 = .ok (.aload_n 0, 1) := fo_42 (fw_get da_cX4_laidTree_0 19 rfl)
def dt_cX4_laidTree_1 : List (Nat × Nat × Nat × Nat) := [(42, 3, 0, 0), (43, 181, 2, 53), (46, 42, 0, 0), (47, 180, 2, 21), (50, 176, 0, 0)]
theorem da_cX4_laidTree_1 : fw dt_cX4_laidTree_1 0 cX4_laidTree.data.toList = true := by decide +kernel
theorem dX4_laidTree_42 : decode cX4_laidTree 42 = .ok (.iconst 0, 1) := fo_3 (fw_get da_cX4_laidTree_1 0 rfl)
theorem dX4_laidTree_43 : decode cX4_laidTree 43 = .ok (.putfield 53, 3) := fo_181 (fw_get da_cX4_laidTree_1 1 rfl)
theorem dX4_laidTree_46 : decode cX4_laidTree 46 = .ok (.aload_n 0, 1) := fo_42 (fw_get da_cX4_laidTree_1 2 rfl)
theorem dX4_laidTree_47 : decode cX4_laidTree 47 = .ok (.getfield 21, 3) := fo_180 (fw_get da_cX4_laidTree_1 3 rfl)
theorem dX4_laidTree_50 : decode cX4_laidTree 50 = .ok (.areturn, 1) := fo_176 (fw_get da_cX4_laidTree_1 4 rfl)


theorem shorts_shR {f : Nat → Int32} {n i : Nat} (h : shorts f) : shorts (shR f n i) := by
  intro k hk
  unfold shR
  split
  · exact h (k - 1) (by omega)
  · exact h k hk
theorem shorts_shL {f : Nat → Int32} {n i : Nat} (h : shorts f) (hi : i < 160) : shorts (shL f n i) := by
  intro k hk
  unfold shL
  split
  · exact h (k + 1) (by omega)
  · exact h k hk
def laidP (old : Int32) (ff ft : Nat → Int32) (nodes len : Int32) : Prop := old.toInt = 0 → (0 ≤ nodes.toInt ∧ nodes.toInt ≤ 319 ∧ treeOk ff ft nodes.toInt len.toInt)

set_option maxHeartbeats 4000000 in
set_option maxRecDepth 100000 in
theorem c_X4_isValue (l : Launch) (dC : Nat → ClassId) (dI : Nat → Nat → Nat) (p0 : Int32) : Met l yX4_isValue wsX4_isValue ({ frames := 0, cells := 0, slots := 0, locals := 0 }) (va_Pc [.int p0] (fun U => va_P (dC, dI) vwCl [] U.heap ∧ va_K (dC, dI) vwCl [] U)) (vp_Si (fun r : Int32 => (r = 1 ∧ (-32768 ≤ p0.toInt ∧ p0.toInt ≤ 32767)) ∨ (r = 0 ∧ (p0.toInt < -32768 ∨ 32767 < p0.toInt)))) 0 0 (fun _ => False) := by
  refine kx_stS (ws := wsX4_isValue) (cc := cX4_isValue) (maxL := 1) (ret := (some .boolean)) (by decide) rfl (Nat.le_of_ble_eq_true rfl) ?_
  intro p e s m below meth c ls hx hb hr hlocks hts hown hml hP hK hl
  have hown : s.vm.findClass RX4 = some m.cls := hown
  have hl : lv_has ls 1 [(0, .int p0)] := hl
  refine lv_iload_n hx hb dX4_isValue_0 rfl (lv_at hl 0 rfl) ?_
  refine lv_sipush (v := (-32768)) hx hb dX4_isValue_1 (by decide) ?_
  refine lv_icmp_lt (tgt := 18) hx hb dX4_isValue_4 (by decide) (fun c_1 => ?_) (fun c_1 => ?_)
  · have i_1 : p0.toInt < (-32768) := kc_lt c_1
    refine lv_iconst (v := 0) hx hb dX4_isValue_18 (by decide) ?_
    exact W.zret (v := 0) hx hb hr (by decide) (hlocks := hlocks) (fun t ht hW => ⟨0, rfl, Or.inr (⟨rfl, (Or.inl (om_145 i_1))⟩), ht⟩) (fun q hq => by cases hq) dX4_isValue_19
  · have i_1 : (-32768) ≤ p0.toInt := kc_nlt c_1
    refine lv_iload_n hx hb dX4_isValue_7 rfl (lv_at hl 0 rfl) ?_
    refine lv_sipush (v := 32767) hx hb dX4_isValue_8 (by decide) ?_
    refine lv_icmp_gt (tgt := 18) hx hb dX4_isValue_11 (by decide) (fun c_2 => ?_) (fun c_2 => ?_)
    · have i_2 : 32767 < p0.toInt := kc_lt c_2
      refine lv_iconst (v := 0) hx hb dX4_isValue_18 (by decide) ?_
      exact W.zret (v := 0) hx hb hr (by decide) (hlocks := hlocks) (fun t ht hW => ⟨0, rfl, Or.inr (⟨rfl, (Or.inr (om_146 i_2))⟩), ht⟩) (fun q hq => by cases hq) dX4_isValue_19
    · have i_2 : p0.toInt ≤ 32767 := kc_nlt c_2
      refine lv_iconst (v := 1) hx hb dX4_isValue_14 (by decide) ?_
      refine lv_goto (tgt := 19) hx hb dX4_isValue_15 (by decide) ?_
      exact W.zret (v := 1) hx hb hr (by decide) (hlocks := hlocks) (fun t ht hW => ⟨1, rfl, Or.inl ⟨rfl, ⟨(om_147 i_1), (om_148 i_2)⟩⟩, ht⟩) (fun q hq => by cases hq) dX4_isValue_19

set_option maxHeartbeats 4000000 in
set_option maxRecDepth 100000 in
theorem c_X4_isShare (l : Launch) (dC : Nat → ClassId) (dI : Nat → Nat → Nat) (p0 : Int32) (p1 : Int32) : Met l yX4_isShare wsX4_isShare ({ frames := 0, cells := 0, slots := 0, locals := 0 }) (va_Pc [.int p0, .int p1] (fun U => va_P (dC, dI) vwCl [] U.heap ∧ va_K (dC, dI) vwCl [] U)) (vp_Si (fun r : Int32 => (r = 1 ∧ (1 ≤ p0.toInt ∧ p0.toInt ≤ p1.toInt ∧ p1.toInt ≤ 999)) ∨ (r = 0 ∧ (p0.toInt < 1 ∨ p1.toInt < p0.toInt ∨ 999 < p1.toInt)))) 0 0 (fun _ => False) := by
  refine kx_stS (ws := wsX4_isShare) (cc := cX4_isShare) (maxL := 2) (ret := (some .boolean)) (by decide) rfl (Nat.le_of_ble_eq_true rfl) ?_
  intro p e s m below meth c ls hx hb hr hlocks hts hown hml hP hK hl
  have hown : s.vm.findClass RX4 = some m.cls := hown
  have hl : lv_has ls 2 [(0, .int p0), (1, .int p1)] := hl
  refine lv_iload_n hx hb dX4_isShare_0 rfl (lv_at hl 0 rfl) ?_
  refine lv_iconst (v := 1) hx hb dX4_isShare_1 (by decide) ?_
  refine lv_icmp_lt (tgt := 21) hx hb dX4_isShare_2 (by decide) (fun c_1 => ?_) (fun c_1 => ?_)
  · have i_1 : p0.toInt < 1 := kc_lt c_1
    refine lv_iconst (v := 0) hx hb dX4_isShare_21 (by decide) ?_
    exact W.zret (v := 0) hx hb hr (by decide) (hlocks := hlocks) (fun t ht hW => ⟨0, rfl, Or.inr (⟨rfl, (Or.inl (om_149 i_1))⟩), ht⟩) (fun q hq => by cases hq) dX4_isShare_22
  · have i_1 : 1 ≤ p0.toInt := kc_nlt c_1
    refine lv_iload_n hx hb dX4_isShare_5 rfl (lv_at hl 1 rfl) ?_
    refine lv_iload_n hx hb dX4_isShare_6 rfl (lv_at hl 0 rfl) ?_
    refine lv_icmp_lt (tgt := 21) hx hb dX4_isShare_7 (by decide) (fun c_2 => ?_) (fun c_2 => ?_)
    · have i_2 : p1.toInt < p0.toInt := kc_lt c_2
      refine lv_iconst (v := 0) hx hb dX4_isShare_21 (by decide) ?_
      exact W.zret (v := 0) hx hb hr (by decide) (hlocks := hlocks) (fun t ht hW => ⟨0, rfl, Or.inr (⟨rfl, (Or.inr (Or.inl (om_11 i_2)))⟩), ht⟩) (fun q hq => by cases hq) dX4_isShare_22
    · have i_2 : p0.toInt ≤ p1.toInt := kc_nlt c_2
      refine lv_iload_n hx hb dX4_isShare_10 rfl (lv_at hl 1 rfl) ?_
      refine lv_sipush (v := 999) hx hb dX4_isShare_11 (by decide) ?_
      refine lv_icmp_gt (tgt := 21) hx hb dX4_isShare_14 (by decide) (fun c_3 => ?_) (fun c_3 => ?_)
      · have i_3 : 999 < p1.toInt := kc_lt c_3
        refine lv_iconst (v := 0) hx hb dX4_isShare_21 (by decide) ?_
        exact W.zret (v := 0) hx hb hr (by decide) (hlocks := hlocks) (fun t ht hW => ⟨0, rfl, Or.inr (⟨rfl, (Or.inr (Or.inr (om_150 i_3)))⟩), ht⟩) (fun q hq => by cases hq) dX4_isShare_22
      · have i_3 : p1.toInt ≤ 999 := kc_nlt c_3
        refine lv_iconst (v := 1) hx hb dX4_isShare_17 (by decide) ?_
        refine lv_goto (tgt := 22) hx hb dX4_isShare_18 (by decide) ?_
        exact W.zret (v := 1) hx hb hr (by decide) (hlocks := hlocks) (fun t ht hW => ⟨1, rfl, Or.inl ⟨rfl, ⟨(om_151 i_1), (om_9 i_2), (om_152 i_3)⟩⟩, ht⟩) (fun q hq => by cases hq) dX4_isShare_22

set_option maxHeartbeats 4000000 in
set_option maxRecDepth 100000 in
theorem c_X4_end (l : Launch) (dC : Nat → ClassId) (dI : Nat → Nat → Nat) (m_ : Nat) (q_row : Nat) (q_t : Nat) (t_ : Nat) (h0 : Nat) (k0 : Nat) (w_ : Nat) (z_ : Nat) (slots : Int32) (old : Int32) (q_cell : Nat) (len : Int32) (p0 : Int32) (sz : Nat) : kx_MQ l (dC, dI) yX4_end wsX4_end ({ frames := 0, cells := 0, slots := 0, locals := 0 }) [.ref m_, .int p0] [kx_4 m_ q_row q_t t_ h0 k0 w_ z_ slots old, kx_0 q_row q_cell len] [] sz (fun A => va_Qi (fun (r : Int32) (u : Int32 × Int32) => ((0 ≤ p0.toInt ∧ p0.toInt ≤ len.toInt ∧ r = p0 ∧ u.2 = p0 ∧ u.1 = 1) ∨ ((p0.toInt < 0 ∨ len.toInt < p0.toInt) ∧ r = -1 ∧ u.2 = len ∧ u.1 = old))) (fun (u : Int32 × Int32) (t : State) => va_P (dC, dI) vwCl [kx_4 m_ q_row q_t t_ h0 k0 w_ z_ slots u.1, kx_0 q_row q_cell u.2] t.heap ∧ va_K (dC, dI) vwCl [] t ∧ va_D A [kx_4 m_ q_row q_t t_ h0 k0 w_ z_ slots u.1, kx_0 q_row q_cell u.2]) A) := by
  refine kx_stQ (ws := wsX4_end) (cc := cX4_end) (maxL := 2) (ret := (some .int)) (by decide) rfl (Nat.le_of_ble_eq_true rfl) ?_
  intro p e s m below meth c A ls hx hb hr hlocks hts hown hml hA hS hP hK hD hl
  have hown : s.vm.findClass RX4 = some m.cls := hown
  have hl : lv_has ls 2 [(0, .ref m_), (1, .int p0)] := hl
  have hf_12 := hts (.fieldLink RX4 12 "MajorityIndex" "row" "LMajorityIndex$Row;") (List.mem_of_getElem? (i := 1) rfl)
  have hi_4 : ∀ w ∈ u_ws RX4 TX4 9, w ∈ wsX4_end := fun w h => List.mem_cons_of_mem _ (List.mem_append_left _ (List.mem_append_right _ h))
  have hf_57 := hts (.fieldLink RX4 57 "MajorityIndex$Row" "length" "I") (List.mem_of_getElem? (i := 2) rfl)
  have hi_0 : ∀ w ∈ u_ws RX0 TX0 2, w ∈ wsX4_end := fun w h => List.mem_cons_of_mem _ (List.mem_append_right _ h)
  have hf_53 := hts (.fieldLink RX4 53 "MajorityIndex" "treeIsOld" "Z") (List.mem_of_getElem? (i := 3) rfl)
  refine lv_iload_n hx hb dX4_end_0 rfl (lv_at hl 1 rfl) ?_
  refine lv_if_lt (tgt := 15) hx hb dX4_end_1 (by decide) (fun c_1 => ?_) (fun c_1 => ?_)
  · have i_1 : p0.toInt < 0 := kc_lt c_1
    refine lv_iconst (v := (-1)) hx hb dX4_end_15 (by decide) ?_
    have hP9 := hP
    have hD9 := hD
    have hK9 := hK
    exact W.iret (v := (-1)) hx hb hr (hlocks := hlocks) (fun t ht hW => ⟨⟨(-1), (old, len), rfl, Or.inr ⟨by omega, rfl, rfl, rfl⟩, by rw [ht]; exact hP9, va_K.moved hW.alike hK9, hD9⟩, hS.F ht⟩) hS.2.2 dX4_end_16
  · have i_1 : 0 ≤ p0.toInt := kc_nlt c_1
    refine lv_iload_n hx hb dX4_end_4 rfl (lv_at hl 1 rfl) ?_
    refine lv_aload_n hx hb dX4_end_5 rfl (lv_at hl 0 rfl) ?_
    refine va_get (D := (dC, dI)) (ci := 4) (v := .ref q_row) (C := RX4) (T := TX4) (N := 9) hx hb hts hi_4 hown hK hP 0 rfl rfl 0 (by decide) hf_12 (fun _ h9 => h9) rfl dX4_end_6 ?_
    refine va_get (D := (dC, dI)) (ci := 0) (v := .int len) (C := RX0) (T := TX0) (N := 2) hx hb hts hi_0 hown hK hP 1 rfl rfl 1 (by decide) hf_57 (fun _ h9 => h9) rfl dX4_end_9 ?_
    refine lv_icmp_le (tgt := 17) hx hb dX4_end_12 (by decide) (fun c_2 => ?_) (fun c_2 => ?_)
    · have i_2 : p0.toInt ≤ len.toInt := kc_le c_2
      refine lv_aload_n hx hb dX4_end_17 rfl (lv_at hl 0 rfl) ?_
      refine va_get (D := (dC, dI)) (ci := 4) (v := .ref q_row) (C := RX4) (T := TX4) (N := 9) hx hb hts hi_4 hown hK hP 0 rfl rfl 0 (by decide) hf_12 (fun _ h9 => h9) rfl dX4_end_18 ?_
      refine lv_iload_n hx hb dX4_end_21 rfl (lv_at hl 1 rfl) ?_
      refine va_put (D := (dC, dI)) (ci := 0) (v := .int p0) (ty := .int) (C := RX0) (T := TX0) (N := 2) hx hb hts hi_0 tyX0 tyX0_ok nmX0 hown hK hP hD hS 1 rfl rfl 1 (by decide) hf_57 (fun _ h9 => h9) rfl (by decide +kernel) rfl rfl (Nat.le_of_ble_eq_true rfl) dX4_end_22 (fun H locs hP hD hS => ?_)
      obtain ⟨hP, hD⟩ := kx_re (w2 := [kx_4 m_ q_row q_t t_ h0 k0 w_ z_ slots old, kx_0 q_row q_cell p0]) hP hD rfl
      refine lv_aload_n hx hb dX4_end_25 rfl (lv_at hl 0 rfl) ?_
      refine lv_iconst (v := 1) hx hb dX4_end_26 (by decide) ?_
      refine va_put (D := (dC, dI)) (ci := 4) (v := .int 1) (ty := .boolean) (C := RX4) (T := TX4) (N := 9) hx hb hts hi_4 tyX4 tyX4_ok nmX4 hown hK hP hD hS 0 rfl rfl 8 (by decide) hf_53 (fun _ h9 => h9) rfl (by decide +kernel) (by decide) (by decide) (Nat.le_of_ble_eq_true rfl) dX4_end_27 (fun H locs hP hD hS => ?_)
      obtain ⟨hP, hD⟩ := kx_re (w2 := [kx_4 m_ q_row q_t t_ h0 k0 w_ z_ slots 1, kx_0 q_row q_cell p0]) hP hD rfl
      refine lv_iload_n hx hb dX4_end_30 rfl (lv_at hl 1 rfl) ?_
      have hP9 := hP
      have hD9 := hD
      have hK9 := hK
      exact W.iret (v := p0) hx hb hr (hlocks := hlocks) (fun t ht hW => ⟨⟨p0, (1, p0), rfl, Or.inl ⟨by omega, by omega, rfl, rfl, rfl⟩, by rw [ht]; exact hP9, va_K.moved hW.alike hK9, hD9⟩, hS.F ht⟩) hS.2.2 dX4_end_31
    · have i_2 : len.toInt < p0.toInt := kc_nle c_2
      refine lv_iconst (v := (-1)) hx hb dX4_end_15 (by decide) ?_
      have hP9 := hP
      have hD9 := hD
      have hK9 := hK
      exact W.iret (v := (-1)) hx hb hr (hlocks := hlocks) (fun t ht hW => ⟨⟨(-1), (old, len), rfl, Or.inr ⟨by omega, rfl, rfl, rfl⟩, by rw [ht]; exact hP9, va_K.moved hW.alike hK9, hD9⟩, hS.F ht⟩) hS.2.2 dX4_end_16

set_option maxHeartbeats 4000000 in
set_option maxRecDepth 100000 in
theorem c_X4_slots (l : Launch) (dC : Nat → ClassId) (dI : Nat → Nat → Nat) (m_ : Nat) (q_row : Nat) (q_t : Nat) (t_ : Nat) (h0 : Nat) (k0 : Nat) (w_ : Nat) (z_ : Nat) (slots : Int32) (old : Int32) (p0 : Int32) (sz : Nat) : kx_MQ l (dC, dI) yX4_slots wsX4_slots ({ frames := 0, cells := 0, slots := 0, locals := 0 }) [.ref m_, .int p0] [kx_4 m_ q_row q_t t_ h0 k0 w_ z_ slots old] [] sz (fun A => va_Qi (fun (r : Int32) (u : Int32 × Int32) => ((1 ≤ p0.toInt ∧ p0.toInt ≤ 6 ∧ r = slots ∧ u.1 = p0 ∧ u.2 = 1) ∨ ((p0.toInt < 1 ∨ 6 < p0.toInt) ∧ r = -1 ∧ u.1 = slots ∧ u.2 = old))) (fun (u : Int32 × Int32) (t : State) => va_P (dC, dI) vwCl [kx_4 m_ q_row q_t t_ h0 k0 w_ z_ u.1 u.2] t.heap ∧ va_K (dC, dI) vwCl [] t ∧ va_D A [kx_4 m_ q_row q_t t_ h0 k0 w_ z_ u.1 u.2]) A) := by
  refine kx_stQ (ws := wsX4_slots) (cc := cX4_slots) (maxL := 3) (ret := (some .int)) (by decide) rfl (Nat.le_of_ble_eq_true rfl) ?_
  intro p e s m below meth c A ls hx hb hr hlocks hts hown hml hA hS hP hK hD hl
  have hown : s.vm.findClass RX4 = some m.cls := hown
  have hl : lv_has ls 3 [(0, .ref m_), (1, .int p0)] := hl
  have hf_49 := hts (.fieldLink RX4 49 "MajorityIndex" "slotsNow" "I") (List.mem_of_getElem? (i := 1) rfl)
  have hi_4 : ∀ w ∈ u_ws RX4 TX4 9, w ∈ wsX4_slots := fun w h => List.mem_cons_of_mem _ (List.mem_append_right _ h)
  have hf_53 := hts (.fieldLink RX4 53 "MajorityIndex" "treeIsOld" "Z") (List.mem_of_getElem? (i := 2) rfl)
  refine lv_iload_n hx hb dX4_slots_0 rfl (lv_at hl 1 rfl) ?_
  refine lv_iconst (v := 1) hx hb dX4_slots_1 (by decide) ?_
  refine lv_icmp_lt (tgt := 11) hx hb dX4_slots_2 (by decide) (fun c_1 => ?_) (fun c_1 => ?_)
  · have i_1 : p0.toInt < 1 := kc_lt c_1
    refine lv_iconst (v := (-1)) hx hb dX4_slots_11 (by decide) ?_
    have hP9 := hP
    have hD9 := hD
    have hK9 := hK
    exact W.iret (v := (-1)) hx hb hr (hlocks := hlocks) (fun t ht hW => ⟨⟨(-1), (slots, old), rfl, Or.inr ⟨by omega, rfl, rfl, rfl⟩, by rw [ht]; exact hP9, va_K.moved hW.alike hK9, hD9⟩, hS.F ht⟩) hS.2.2 dX4_slots_12
  · have i_1 : 1 ≤ p0.toInt := kc_nlt c_1
    refine lv_iload_n hx hb dX4_slots_5 rfl (lv_at hl 1 rfl) ?_
    refine lv_bipush (v := 6) hx hb dX4_slots_6 (by decide) ?_
    refine lv_icmp_le (tgt := 13) hx hb dX4_slots_8 (by decide) (fun c_2 => ?_) (fun c_2 => ?_)
    · have i_2 : p0.toInt ≤ 6 := kc_le c_2
      refine lv_aload_n hx hb dX4_slots_13 rfl (lv_at hl 0 rfl) ?_
      refine va_get (D := (dC, dI)) (ci := 4) (v := .int slots) (C := RX4) (T := TX4) (N := 9) hx hb hts hi_4 hown hK hP 0 rfl rfl 7 (by decide) hf_49 (fun _ h9 => h9) rfl dX4_slots_14 ?_
      refine lv_istore_n (lv' := [(2, .int slots), (0, .ref m_), (1, .int p0)]) hx hb dX4_slots_17 rfl hl (by decide) rfl (fun ls hl => ?_)
      refine lv_aload_n hx hb dX4_slots_18 rfl (lv_at hl 1 rfl) ?_
      refine lv_iload_n hx hb dX4_slots_19 rfl (lv_at hl 2 rfl) ?_
      refine va_put (D := (dC, dI)) (ci := 4) (v := .int p0) (ty := .int) (C := RX4) (T := TX4) (N := 9) hx hb hts hi_4 tyX4 tyX4_ok nmX4 hown hK hP hD hS 0 rfl rfl 7 (by decide) hf_49 (fun _ h9 => h9) rfl (by decide +kernel) rfl rfl (Nat.le_of_ble_eq_true rfl) dX4_slots_20 (fun H locs hP hD hS => ?_)
      obtain ⟨hP, hD⟩ := kx_re (w2 := [kx_4 m_ q_row q_t t_ h0 k0 w_ z_ p0 old]) hP hD rfl
      refine lv_aload_n hx hb dX4_slots_23 rfl (lv_at hl 1 rfl) ?_
      refine lv_iconst (v := 1) hx hb dX4_slots_24 (by decide) ?_
      refine va_put (D := (dC, dI)) (ci := 4) (v := .int 1) (ty := .boolean) (C := RX4) (T := TX4) (N := 9) hx hb hts hi_4 tyX4 tyX4_ok nmX4 hown hK hP hD hS 0 rfl rfl 8 (by decide) hf_53 (fun _ h9 => h9) rfl (by decide +kernel) (by decide) (by decide) (Nat.le_of_ble_eq_true rfl) dX4_slots_25 (fun H locs hP hD hS => ?_)
      obtain ⟨hP, hD⟩ := kx_re (w2 := [kx_4 m_ q_row q_t t_ h0 k0 w_ z_ p0 1]) hP hD rfl
      refine lv_iload_n hx hb dX4_slots_28 rfl (lv_at hl 0 rfl) ?_
      have hP9 := hP
      have hD9 := hD
      have hK9 := hK
      exact W.iret (v := slots) hx hb hr (hlocks := hlocks) (fun t ht hW => ⟨⟨slots, (p0, 1), rfl, Or.inl ⟨by omega, by omega, rfl, rfl, rfl⟩, by rw [ht]; exact hP9, va_K.moved hW.alike hK9, hD9⟩, hS.F ht⟩) hS.2.2 dX4_slots_29
    · have i_2 : 6 < p0.toInt := kc_nle c_2
      refine lv_iconst (v := (-1)) hx hb dX4_slots_11 (by decide) ?_
      have hP9 := hP
      have hD9 := hD
      have hK9 := hK
      exact W.iret (v := (-1)) hx hb hr (hlocks := hlocks) (fun t ht hW => ⟨⟨(-1), (slots, old), rfl, Or.inr ⟨by omega, rfl, rfl, rfl⟩, by rw [ht]; exact hP9, va_K.moved hW.alike hK9, hD9⟩, hS.F ht⟩) hS.2.2 dX4_slots_12

set_option maxHeartbeats 4000000 in
set_option maxRecDepth 100000 in
theorem c_X4_insert (l : Launch) (dC : Nat → ClassId) (dI : Nat → Nat → Nat) (m_ : Nat) (q_row : Nat) (q_t : Nat) (t_ : Nat) (h0 : Nat) (k0 : Nat) (w_ : Nat) (z_ : Nat) (slots : Int32) (old : Int32) (q_cell : Nat) (cyI : ClassId) (len : Int32) (f : Nat → Int32) (p0 : Int32) (p1 : Int32) (sz : Nat) (a0 : 0 ≤ len.toInt) (a1 : len.toInt ≤ 160) (s1 : shorts f) : kx_MQ l (dC, dI) yX4_insert wsX4_insert ({ frames := 1, cells := 0, slots := 0, locals := 45 }) [.ref m_, .int p0, .int p1] [kx_4 m_ q_row q_t t_ h0 k0 w_ z_ slots old, kx_0 q_row q_cell len, kx_a q_cell cyI 160 f] [(cyI, .int)] sz (fun A => va_Qi (fun (r : Int32) (u : Int32 × Int32 × (Nat → Int32)) => ((0 ≤ p0.toInt ∧ p0.toInt ≤ len.toInt ∧ -32768 ≤ p1.toInt ∧ p1.toInt ≤ 32767 ∧ len.toInt < 160 ∧ r = u.2.1 ∧ u.2.1.toInt = len.toInt + 1 ∧ u.1 = 1 ∧ u.2.2 = upd (shR f len.toNatClampNeg p0.toNatClampNeg) p0.toNatClampNeg p1) ∨ ((p0.toInt < 0 ∨ len.toInt < p0.toInt ∨ p1.toInt < -32768 ∨ 32767 < p1.toInt ∨ 160 ≤ len.toInt) ∧ r = -1 ∧ u.2.1 = len ∧ u.1 = old ∧ u.2.2 = f)) ∧ shorts u.2.2) (fun (u : Int32 × Int32 × (Nat → Int32)) (t : State) => va_P (dC, dI) vwCl [kx_4 m_ q_row q_t t_ h0 k0 w_ z_ slots u.1, kx_0 q_row q_cell u.2.1, kx_a q_cell cyI 160 u.2.2] t.heap ∧ va_K (dC, dI) vwCl [(cyI, .int)] t ∧ va_D A [kx_4 m_ q_row q_t t_ h0 k0 w_ z_ slots u.1, kx_0 q_row q_cell u.2.1, kx_a q_cell cyI 160 u.2.2]) A) := by
  refine kx_stQ (ws := wsX4_insert) (cc := cX4_insert) (maxL := 3) (ret := (some .int)) (by decide) rfl (Nat.le_of_ble_eq_true rfl) ?_
  intro p e s m below meth c A ls hx hb hr hlocks hts hown hml hA hS hP hK hD hl
  have hown : s.vm.findClass RX4 = some m.cls := hown
  have hl : lv_has ls 3 [(0, .ref m_), (1, .int p0), (2, .int p1)] := hl
  have hf_12 := hts (.fieldLink RX4 12 "MajorityIndex" "row" "LMajorityIndex$Row;") (List.mem_of_getElem? (i := 1) rfl)
  have hi_4 : ∀ w ∈ u_ws RX4 TX4 9, w ∈ wsX4_insert := fun w h => List.mem_cons_of_mem _ (List.mem_append_left _ (List.mem_append_right _ h))
  have hf_57 := hts (.fieldLink RX4 57 "MajorityIndex$Row" "length" "I") (List.mem_of_getElem? (i := 2) rfl)
  have hi_0 : ∀ w ∈ u_ws RX0 TX0 2, w ∈ wsX4_insert := fun w h => List.mem_cons_of_mem _ (List.mem_append_right _ h)
  have hf_53 := hts (.fieldLink RX4 53 "MajorityIndex" "treeIsOld" "Z") (List.mem_of_getElem? (i := 3) rfl)
  refine lv_iload_n hx hb dX4_insert_0 rfl (lv_at hl 1 rfl) ?_
  refine lv_if_lt (tgt := 35) hx hb dX4_insert_1 (by decide) (fun c_1 => ?_) (fun c_1 => ?_)
  · have i_1 : p0.toInt < 0 := kc_lt c_1
    refine lv_iconst (v := (-1)) hx hb dX4_insert_35 (by decide) ?_
    have hP9 := hP
    have hD9 := hD
    have hK9 := hK
    exact W.iret (v := (-1)) hx hb hr (hlocks := hlocks) (fun t ht hW => ⟨⟨(-1), (old, len, f), rfl, ⟨Or.inr ⟨by omega, rfl, rfl, rfl, rfl⟩, s1⟩, by rw [ht]; exact hP9, va_K.moved hW.alike hK9, hD9⟩, hS.F ht⟩) hS.2.2 dX4_insert_36
  · have i_1 : 0 ≤ p0.toInt := kc_nlt c_1
    refine lv_iload_n hx hb dX4_insert_4 rfl (lv_at hl 1 rfl) ?_
    refine lv_aload_n hx hb dX4_insert_5 rfl (lv_at hl 0 rfl) ?_
    refine va_get (D := (dC, dI)) (ci := 4) (v := .ref q_row) (C := RX4) (T := TX4) (N := 9) hx hb hts hi_4 hown hK hP 0 rfl rfl 0 (by decide) hf_12 (fun _ h9 => h9) rfl dX4_insert_6 ?_
    refine va_get (D := (dC, dI)) (ci := 0) (v := .int len) (C := RX0) (T := TX0) (N := 2) hx hb hts hi_0 hown hK hP 1 rfl rfl 1 (by decide) hf_57 (fun _ h9 => h9) rfl dX4_insert_9 ?_
    refine lv_icmp_gt (tgt := 35) hx hb dX4_insert_12 (by decide) (fun c_2 => ?_) (fun c_2 => ?_)
    · have i_2 : len.toInt < p0.toInt := kc_lt c_2
      refine lv_iconst (v := (-1)) hx hb dX4_insert_35 (by decide) ?_
      have hP9 := hP
      have hD9 := hD
      have hK9 := hK
      exact W.iret (v := (-1)) hx hb hr (hlocks := hlocks) (fun t ht hW => ⟨⟨(-1), (old, len, f), rfl, ⟨Or.inr ⟨by omega, rfl, rfl, rfl, rfl⟩, s1⟩, by rw [ht]; exact hP9, va_K.moved hW.alike hK9, hD9⟩, hS.F ht⟩) hS.2.2 dX4_insert_36
    · have i_2 : p0.toInt ≤ len.toInt := kc_nlt c_2
      refine lv_iload_n hx hb dX4_insert_15 rfl (lv_at hl 2 rfl) ?_
      have hPc := hP.sub (ws' := []) [] rfl
      have hKc := hK.sub (tys' := []) [] rfl
      refine vp_callSi (W.runS (As := [.int p1]) (rest := []) ⟨hx, hb, hml, hown, hts⟩ (c_X4_isValue l dC dI p1) (va_cwS 1 hts gX4_insert_X4_isValue rfl rfl rfl (by decide +kernel) ⟨Nat.le_of_ble_eq_true rfl, Nat.le_of_ble_eq_true rfl⟩) ⟨fun a U g mk q => by obtain ⟨q0, qP, qK⟩ := q; exact ⟨q0, qP, va_K.moved (u := U) (U := U.calling g mk a) (Vm.Alike.refl U.vm) qK⟩, fun U hU hW => ⟨rfl, by rw [hU]; exact hPc, va_K.moved hW.alike hKc⟩⟩ rfl rfl hl.1 rfl (lv_room (Nat.le_of_ble_eq_true rfl)) dX4_insert_16 ⟨Nat.le_of_ble_eq_true rfl, Nat.le_of_ble_eq_true rfl⟩) (fun r_3 w_3 => ?_)
      rcases w_3 with ⟨rfl, w_3⟩ | ⟨rfl, w_3⟩
      · have w_3 : (-32768 ≤ p1.toInt ∧ p1.toInt ≤ 32767) := w_3
        refine lv_if_eq (tgt := 35) hx hb dX4_insert_19 (by decide) (fun c_4 => ?_) (fun c_4 => ?_)
        · exact absurd c_4 (by decide)
        · refine lv_aload_n hx hb dX4_insert_22 rfl (lv_at hl 0 rfl) ?_
          refine va_get (D := (dC, dI)) (ci := 4) (v := .ref q_row) (C := RX4) (T := TX4) (N := 9) hx hb hts hi_4 hown hK hP 0 rfl rfl 0 (by decide) hf_12 (fun _ h9 => h9) rfl dX4_insert_23 ?_
          refine va_get (D := (dC, dI)) (ci := 0) (v := .int len) (C := RX0) (T := TX0) (N := 2) hx hb hts hi_0 hown hK hP 1 rfl rfl 1 (by decide) hf_57 (fun _ h9 => h9) rfl dX4_insert_26 ?_
          refine lv_sipush (v := 160) hx hb dX4_insert_29 (by decide) ?_
          refine lv_icmp_lt (tgt := 37) hx hb dX4_insert_32 (by decide) (fun c_5 => ?_) (fun c_5 => ?_)
          · have i_5 : len.toInt < 160 := kc_lt c_5
            refine lv_aload_n hx hb dX4_insert_37 rfl (lv_at hl 0 rfl) ?_
            refine va_get (D := (dC, dI)) (ci := 4) (v := .ref q_row) (C := RX4) (T := TX4) (N := 9) hx hb hts hi_4 hown hK hP 0 rfl rfl 0 (by decide) hf_12 (fun _ h9 => h9) rfl dX4_insert_38 ?_
            refine lv_iload_n hx hb dX4_insert_41 rfl (lv_at hl 1 rfl) ?_
            refine lv_iload_n hx hb dX4_insert_42 rfl (lv_at hl 2 rfl) ?_
            obtain ⟨hPc, hDc, hFc, hCc⟩ := kx_preM (wc := [kx_0 q_row q_cell len, kx_a q_cell cyI 160 f]) hP hD hS hA [false, true, true] rfl
            have hKc := hK
            refine va_callv (va_runV (As := [.int p0, .int p1]) (rest := []) ⟨hx, hb, hml, hown, hts⟩ (kx_un (c_X0_putIn l dC dI q_row q_cell cyI len f p0 p1 s.heap.size i_1 i_2 i_5)) (cwV 2 hts gX4_insert_X0_putIn rfl rfl rfl (by decide +kernel) ⟨Nat.le_of_ble_eq_true rfl, Nat.le_of_ble_eq_true rfl⟩) ⟨fun a U g mk q => by obtain ⟨q0, q1, qP, qK, qD⟩ := q; exact ⟨q0, q1, qP, va_K.moved (u := U) (U := U.calling g mk a) (Vm.Alike.refl U.vm) qK, qD⟩, kx_rc0 hKc hPc (q0 := 0) rfl, fun U hU hW => ⟨rfl, by rw [hU], by rw [hU]; exact hPc, va_K.moved hW.alike hKc, hDc.weaken (fun _ _ _ _ => trivial)⟩⟩ rfl rfl hl.1 rfl (lv_room (Nat.le_of_ble_eq_true rfl)) dX4_insert_43 ⟨Nat.le_of_ble_eq_true rfl, Nat.le_of_ble_eq_true rfl⟩) hS (fun q _ h => hFc q h) hFc (fun u t H1 locs ht hvm w_6 hB hz1 hk1 hS => ?_)
            obtain ⟨o_7, o_8⟩ := u
            dsimp only at w_6 hB
            obtain ⟨hP1, hK1, hD1⟩ := hB
            rw [ht] at hP1
            have hK1 := va_K.moved hvm.symm hK1
            obtain ⟨hP, hD⟩ := kx_joinM (w2 := [kx_4 m_ q_row q_t t_ h0 k0 w_ z_ slots old, kx_0 q_row q_cell o_7, kx_a q_cell cyI 160 o_8]) hP hD hP1 hD1 hk1 hFc [false, true, true] hCc rfl
            clear hP1 hD1 hK1 hk1 hz1 hFc hDc hPc hKc hCc
            generalize H1 = H at hP hS ⊢
            have w_6 : o_7.toInt = len.toInt + 1 ∧ o_8 = upd (shR f len.toNatClampNeg p0.toNatClampNeg) p0.toNatClampNeg p1 := w_6
            refine lv_aload_n hx hb dX4_insert_46 rfl (lv_at hl 0 rfl) ?_
            refine lv_iconst (v := 1) hx hb dX4_insert_47 (by decide) ?_
            refine va_put (D := (dC, dI)) (ci := 4) (v := .int 1) (ty := .boolean) (C := RX4) (T := TX4) (N := 9) hx hb hts hi_4 tyX4 tyX4_ok nmX4 hown hK hP hD hS 0 rfl rfl 8 (by decide) hf_53 (fun _ h9 => h9) rfl (by decide +kernel) (by decide) (by decide) (Nat.le_of_ble_eq_true rfl) dX4_insert_48 (fun H locs hP hD hS => ?_)
            obtain ⟨hP, hD⟩ := kx_re (w2 := [kx_4 m_ q_row q_t t_ h0 k0 w_ z_ slots 1, kx_0 q_row q_cell o_7, kx_a q_cell cyI 160 o_8]) hP hD rfl
            refine lv_aload_n hx hb dX4_insert_51 rfl (lv_at hl 0 rfl) ?_
            refine va_get (D := (dC, dI)) (ci := 4) (v := .ref q_row) (C := RX4) (T := TX4) (N := 9) hx hb hts hi_4 hown hK hP 0 rfl rfl 0 (by decide) hf_12 (fun _ h9 => h9) rfl dX4_insert_52 ?_
            refine va_get (D := (dC, dI)) (ci := 0) (v := .int o_7) (C := RX0) (T := TX0) (N := 2) hx hb hts hi_0 hown hK hP 1 rfl rfl 1 (by decide) hf_57 (fun _ h9 => h9) rfl dX4_insert_55 ?_
            have hP9 := hP
            have hD9 := hD
            have hK9 := hK
            exact W.iret (v := o_7) hx hb hr (hlocks := hlocks) (fun t ht hW => ⟨⟨o_7, (1, o_7, o_8), rfl, ⟨Or.inl ⟨by omega, by omega, by omega, by omega, by omega, rfl, w_6.1, rfl, w_6.2⟩, (by (try dsimp only); rw [w_6.2]; exact shorts_upd (shorts_shR s1) (by omega) (by omega))⟩, by rw [ht]; exact hP9, va_K.moved hW.alike hK9, hD9⟩, hS.F ht⟩) hS.2.2 dX4_insert_58
          · have i_5 : 160 ≤ len.toInt := kc_nlt c_5
            refine lv_iconst (v := (-1)) hx hb dX4_insert_35 (by decide) ?_
            have hP9 := hP
            have hD9 := hD
            have hK9 := hK
            exact W.iret (v := (-1)) hx hb hr (hlocks := hlocks) (fun t ht hW => ⟨⟨(-1), (old, len, f), rfl, ⟨Or.inr ⟨by omega, rfl, rfl, rfl, rfl⟩, s1⟩, by rw [ht]; exact hP9, va_K.moved hW.alike hK9, hD9⟩, hS.F ht⟩) hS.2.2 dX4_insert_36
      · have w_3 : (p1.toInt < -32768 ∨ 32767 < p1.toInt) := w_3
        refine lv_if_eq (tgt := 35) hx hb dX4_insert_19 (by decide) (fun c_9 => ?_) (fun c_9 => ?_)
        · refine lv_iconst (v := (-1)) hx hb dX4_insert_35 (by decide) ?_
          have hP9 := hP
          have hD9 := hD
          have hK9 := hK
          exact W.iret (v := (-1)) hx hb hr (hlocks := hlocks) (fun t ht hW => ⟨⟨(-1), (old, len, f), rfl, ⟨Or.inr ⟨by omega, rfl, rfl, rfl, rfl⟩, s1⟩, by rw [ht]; exact hP9, va_K.moved hW.alike hK9, hD9⟩, hS.F ht⟩) hS.2.2 dX4_insert_36
        · exact absurd c_9 (by decide)

set_option maxHeartbeats 4000000 in
set_option maxRecDepth 100000 in
theorem c_X4_remove (l : Launch) (dC : Nat → ClassId) (dI : Nat → Nat → Nat) (m_ : Nat) (q_row : Nat) (q_t : Nat) (t_ : Nat) (h0 : Nat) (k0 : Nat) (w_ : Nat) (z_ : Nat) (slots : Int32) (old : Int32) (q_cell : Nat) (cyI : ClassId) (len : Int32) (f : Nat → Int32) (p0 : Int32) (sz : Nat) (a0 : 0 ≤ len.toInt) (a1 : len.toInt ≤ 160) (s1 : shorts f) : kx_MQ l (dC, dI) yX4_remove wsX4_remove ({ frames := 2, cells := 0, slots := 0, locals := 90 }) [.ref m_, .int p0] [kx_4 m_ q_row q_t t_ h0 k0 w_ z_ slots old, kx_0 q_row q_cell len, kx_a q_cell cyI 160 f] [(cyI, .int)] sz (fun A => va_Qi (fun (r : Int32) (u : Int32 × Int32 × (Nat → Int32)) => ((0 ≤ p0.toInt ∧ p0.toInt < len.toInt ∧ r = f p0.toNatClampNeg ∧ u.2.1.toInt = len.toInt - 1 ∧ u.1 = 1 ∧ u.2.2 = shL f p0.toNatClampNeg u.2.1.toNatClampNeg) ∨ ((p0.toInt < 0 ∨ len.toInt ≤ p0.toInt) ∧ r = -40000 ∧ u.2.1 = len ∧ u.1 = old ∧ u.2.2 = f)) ∧ shorts u.2.2) (fun (u : Int32 × Int32 × (Nat → Int32)) (t : State) => va_P (dC, dI) vwCl [kx_4 m_ q_row q_t t_ h0 k0 w_ z_ slots u.1, kx_0 q_row q_cell u.2.1, kx_a q_cell cyI 160 u.2.2] t.heap ∧ va_K (dC, dI) vwCl [(cyI, .int)] t ∧ va_D A [kx_4 m_ q_row q_t t_ h0 k0 w_ z_ slots u.1, kx_0 q_row q_cell u.2.1, kx_a q_cell cyI 160 u.2.2]) A) := by
  refine kx_stQ (ws := wsX4_remove) (cc := cX4_remove) (maxL := 3) (ret := (some .int)) (by decide) rfl (Nat.le_of_ble_eq_true rfl) ?_
  intro p e s m below meth c A ls hx hb hr hlocks hts hown hml hA hS hP hK hD hl
  have hown : s.vm.findClass RX4 = some m.cls := hown
  have hl : lv_has ls 3 [(0, .ref m_), (1, .int p0)] := hl
  have hf_12 := hts (.fieldLink RX4 12 "MajorityIndex" "row" "LMajorityIndex$Row;") (List.mem_of_getElem? (i := 1) rfl)
  have hi_4 : ∀ w ∈ u_ws RX4 TX4 9, w ∈ wsX4_remove := fun w h => List.mem_cons_of_mem _ (List.mem_append_left _ (List.mem_append_right _ h))
  have hf_53 := hts (.fieldLink RX4 53 "MajorityIndex" "treeIsOld" "Z") (List.mem_of_getElem? (i := 3) rfl)
  have hk_102 := hts (.constant RX4 102 (-40000)) (List.mem_of_getElem? (i := 2) rfl)
  refine lv_aload_n hx hb dX4_remove_0 rfl (lv_at hl 0 rfl) ?_
  refine va_get (D := (dC, dI)) (ci := 4) (v := .ref q_row) (C := RX4) (T := TX4) (N := 9) hx hb hts hi_4 hown hK hP 0 rfl rfl 0 (by decide) hf_12 (fun _ h9 => h9) rfl dX4_remove_1 ?_
  refine lv_iload_n hx hb dX4_remove_4 rfl (lv_at hl 1 rfl) ?_
  have hPc := hP.sub (ws' := [kx_0 q_row q_cell len]) [1] rfl
  have hKc := hK.sub (tys' := []) [] rfl
  refine vp_callSi (W.runV (As := [.int p0]) (rest := []) ⟨hx, hb, hml, hown, hts⟩ (c_X0_hasPlace l dC dI q_row q_cell len p0) (cwV 1 hts gX4_remove_X0_hasPlace rfl rfl rfl (by decide +kernel) ⟨Nat.le_of_ble_eq_true rfl, Nat.le_of_ble_eq_true rfl⟩) ⟨fun a U g mk q => by obtain ⟨q0, qP, qK⟩ := q; exact ⟨q0, qP, va_K.moved (u := U) (U := U.calling g mk a) (Vm.Alike.refl U.vm) qK⟩, kx_rc0 hKc hPc (q0 := 0) rfl, fun U hU hW => ⟨rfl, by rw [hU]; exact hPc, va_K.moved hW.alike hKc⟩⟩ rfl rfl hl.1 rfl (lv_room (Nat.le_of_ble_eq_true rfl)) dX4_remove_5 ⟨Nat.le_of_ble_eq_true rfl, Nat.le_of_ble_eq_true rfl⟩) (fun r_1 w_1 => ?_)
  rcases w_1 with ⟨rfl, w_1⟩ | ⟨rfl, w_1⟩
  · have w_1 : (0 ≤ p0.toInt ∧ p0.toInt < len.toInt) := w_1
    refine lv_if_ne (tgt := 14) hx hb dX4_remove_8 (by decide) (fun c_2 => ?_) (fun c_2 => ?_)
    · refine lv_aload_n hx hb dX4_remove_14 rfl (lv_at hl 0 rfl) ?_
      refine va_get (D := (dC, dI)) (ci := 4) (v := .ref q_row) (C := RX4) (T := TX4) (N := 9) hx hb hts hi_4 hown hK hP 0 rfl rfl 0 (by decide) hf_12 (fun _ h9 => h9) rfl dX4_remove_15 ?_
      refine lv_iload_n hx hb dX4_remove_18 rfl (lv_at hl 1 rfl) ?_
      obtain ⟨hPc, hDc, hFc, hCc⟩ := kx_preM (wc := [kx_0 q_row q_cell len, kx_a q_cell cyI 160 f]) hP hD hS hA [false, true, true] rfl
      have hKc := hK
      refine va_calli (va_runV (As := [.int p0]) (rest := []) ⟨hx, hb, hml, hown, hts⟩ (kx_un (c_X0_takeOut l dC dI q_row q_cell cyI len f p0 s.heap.size (om_10 w_1.1) (om_11 w_1.2) a1)) (cwV 1 hts gX4_remove_X0_takeOut rfl rfl rfl (by decide +kernel) ⟨Nat.le_of_ble_eq_true rfl, Nat.le_of_ble_eq_true rfl⟩) ⟨fun a U g mk q => by obtain ⟨q0, q1, qP, qK, qD⟩ := q; exact ⟨q0, q1, qP, va_K.moved (u := U) (U := U.calling g mk a) (Vm.Alike.refl U.vm) qK, qD⟩, kx_rc0 hKc hPc (q0 := 0) rfl, fun U hU hW => ⟨rfl, by rw [hU], by rw [hU]; exact hPc, va_K.moved hW.alike hKc, hDc.weaken (fun _ _ _ _ => trivial)⟩⟩ rfl rfl hl.1 rfl (lv_room (Nat.le_of_ble_eq_true rfl)) dX4_remove_19 ⟨Nat.le_of_ble_eq_true rfl, Nat.le_of_ble_eq_true rfl⟩) hS (fun q _ h => hFc q h) hFc (fun r_3 u t H1 locs ht hvm w_3 hB hz1 hk1 hS => ?_)
      obtain ⟨o_4, o_5⟩ := u
      dsimp only at w_3 hB
      obtain ⟨hP1, hK1, hD1⟩ := hB
      rw [ht] at hP1
      have hK1 := va_K.moved hvm.symm hK1
      obtain ⟨hP, hD⟩ := kx_joinM (w2 := [kx_4 m_ q_row q_t t_ h0 k0 w_ z_ slots old, kx_0 q_row q_cell o_4, kx_a q_cell cyI 160 o_5]) hP hD hP1 hD1 hk1 hFc [false, true, true] hCc rfl
      clear hP1 hD1 hK1 hk1 hz1 hFc hDc hPc hKc hCc
      generalize H1 = H at hP hS ⊢
      have w_3 : o_4.toInt = len.toInt - 1 ∧ o_5 = shL f p0.toNatClampNeg o_4.toNatClampNeg ∧ r_3 = f p0.toNatClampNeg := w_3
      refine lv_istore_n (lv' := [(2, .int r_3), (0, .ref m_), (1, .int p0)]) hx hb dX4_remove_22 rfl hl (by decide) rfl (fun ls hl => ?_)
      refine lv_aload_n hx hb dX4_remove_23 rfl (lv_at hl 1 rfl) ?_
      refine lv_iconst (v := 1) hx hb dX4_remove_24 (by decide) ?_
      refine va_put (D := (dC, dI)) (ci := 4) (v := .int 1) (ty := .boolean) (C := RX4) (T := TX4) (N := 9) hx hb hts hi_4 tyX4 tyX4_ok nmX4 hown hK hP hD hS 0 rfl rfl 8 (by decide) hf_53 (fun _ h9 => h9) rfl (by decide +kernel) (by decide) (by decide) (Nat.le_of_ble_eq_true rfl) dX4_remove_25 (fun H locs hP hD hS => ?_)
      obtain ⟨hP, hD⟩ := kx_re (w2 := [kx_4 m_ q_row q_t t_ h0 k0 w_ z_ slots 1, kx_0 q_row q_cell o_4, kx_a q_cell cyI 160 o_5]) hP hD rfl
      refine lv_iload_n hx hb dX4_remove_28 rfl (lv_at hl 0 rfl) ?_
      have hP9 := hP
      have hD9 := hD
      have hK9 := hK
      have n_l := ki_nat o_4 rfl (by omega)
      exact W.iret (v := r_3) hx hb hr (hlocks := hlocks) (fun t ht hW => ⟨⟨r_3, (1, o_4, o_5), rfl, ⟨Or.inl ⟨by omega, by omega, w_3.2.2, w_3.1, rfl, w_3.2.1⟩, (by (try dsimp only); rw [w_3.2.1]; exact shorts_shL s1 (by omega))⟩, by rw [ht]; exact hP9, va_K.moved hW.alike hK9, hD9⟩, hS.F ht⟩) hS.2.2 dX4_remove_29
    · exact absurd c_2 (by decide)
  · have w_1 : (p0.toInt < 0 ∨ len.toInt ≤ p0.toInt) := w_1
    refine lv_if_ne (tgt := 14) hx hb dX4_remove_8 (by decide) (fun c_6 => ?_) (fun c_6 => ?_)
    · exact absurd c_6 (by decide)
    · refine lv_ldc (v := (-40000)) hx hb hown hk_102 dX4_remove_11 ?_
      have hP9 := hP
      have hD9 := hD
      have hK9 := hK
      exact W.iret (v := (-40000)) hx hb hr (hlocks := hlocks) (fun t ht hW => ⟨⟨(-40000), (old, len, f), rfl, ⟨Or.inr ⟨by omega, rfl, rfl, rfl, rfl⟩, s1⟩, by rw [ht]; exact hP9, va_K.moved hW.alike hK9, hD9⟩, hS.F ht⟩) hS.2.2 dX4_remove_13

set_option maxHeartbeats 4000000 in
set_option maxRecDepth 100000 in
theorem c_X4_laidTree (l : Launch) (dC : Nat → ClassId) (dI : Nat → Nat → Nat) (m_ : Nat) (q_row : Nat) (q_t : Nat) (t_ : Nat) (h0 : Nat) (k0 : Nat) (w_ : Nat) (z_ : Nat) (slots : Int32) (old : Int32) (q_joined : Nat) (q_from : Nat) (q_to : Nat) (q_size : Nat) (q_lossOf : Nat) (q_lessBy : Nat) (q_value : Nat) (q_number : Nat) (nodes : Int32) (here : Int32) (q_cell : Nat) (cyI : ClassId) (len : Int32) (f : Nat → Int32) (ff : Nat → Int32) (ft : Nat → Int32) (fs : Nat → Int32) (fo : Nat → Int32) (uv : Nat → Int32) (un : Nat → Int32) (fe : Nat → Int32) (j_v : Nat) (j_n : Nat) (js : Int32) (jl : Int32) (je : Int32) (jv : Nat → Int32) (jn : Nat → Int32) (sz : Nat) (a0 : 0 ≤ len.toInt) (a1 : len.toInt ≤ 160) (s0 : sixes fs) (l0 : laidP old ff ft nodes len) : kx_MQ l (dC, dI) yX4_laidTree wsX4_laidTree ({ frames := 5, cells := 0, slots := 0, locals := 225 }) [.ref m_] [kx_4 m_ q_row q_t t_ h0 k0 w_ z_ slots old, kx_2 q_t q_row q_joined q_from q_to q_size q_lossOf q_lessBy q_value q_number nodes here, kx_0 q_row q_cell len, kx_a q_cell cyI 160 f, kx_a q_from cyI 319 ff, kx_a q_to cyI 319 ft, kx_a q_size cyI 319 fs, kx_a q_lossOf cyI 319 fo, kx_a q_lessBy cyI 319 fe, kx_a q_value cyI 1914 uv, kx_a q_number cyI 1914 un, kx_3 q_joined j_v j_n js jl je, kx_a j_v cyI 12 jv, kx_a j_n cyI 12 jn] [(cyI, .int)] sz (fun A => va_Qr (fun u : Int32 × Int32 × Int32 × (Nat → Int32) × (Nat → Int32) × (Nat → Int32) × (Nat → Int32) × (Nat → Int32) × (Nat → Int32) × (Nat → Int32) × Int32 × Int32 × Int32 × (Nat → Int32) × (Nat → Int32) => u.1.toInt = 0 ∧ 0 ≤ u.2.1.toInt ∧ u.2.1.toInt ≤ 319 ∧ sixes u.2.2.2.2.2.1 ∧ treeOk u.2.2.2.1 u.2.2.2.2.1 u.2.1.toInt len.toInt) (fun (u : Int32 × Int32 × Int32 × (Nat → Int32) × (Nat → Int32) × (Nat → Int32) × (Nat → Int32) × (Nat → Int32) × (Nat → Int32) × (Nat → Int32) × Int32 × Int32 × Int32 × (Nat → Int32) × (Nat → Int32)) (ra : Nat) (t : State) => ra = q_t ∧ va_P (dC, dI) vwCl [kx_4 m_ q_row q_t t_ h0 k0 w_ z_ slots u.1, kx_2 q_t q_row q_joined q_from q_to q_size q_lossOf q_lessBy q_value q_number u.2.1 u.2.2.1, kx_0 q_row q_cell len, kx_a q_cell cyI 160 f, kx_a q_from cyI 319 u.2.2.2.1, kx_a q_to cyI 319 u.2.2.2.2.1, kx_a q_size cyI 319 u.2.2.2.2.2.1, kx_a q_lossOf cyI 319 u.2.2.2.2.2.2.1, kx_a q_lessBy cyI 319 u.2.2.2.2.2.2.2.1, kx_a q_value cyI 1914 u.2.2.2.2.2.2.2.2.1, kx_a q_number cyI 1914 u.2.2.2.2.2.2.2.2.2.1, kx_3 q_joined j_v j_n u.2.2.2.2.2.2.2.2.2.2.1 u.2.2.2.2.2.2.2.2.2.2.2.1 u.2.2.2.2.2.2.2.2.2.2.2.2.1, kx_a j_v cyI 12 u.2.2.2.2.2.2.2.2.2.2.2.2.2.1, kx_a j_n cyI 12 u.2.2.2.2.2.2.2.2.2.2.2.2.2.2] t.heap ∧ va_K (dC, dI) vwCl [(cyI, .int)] t ∧ va_D A [kx_4 m_ q_row q_t t_ h0 k0 w_ z_ slots u.1, kx_2 q_t q_row q_joined q_from q_to q_size q_lossOf q_lessBy q_value q_number u.2.1 u.2.2.1, kx_0 q_row q_cell len, kx_a q_cell cyI 160 f, kx_a q_from cyI 319 u.2.2.2.1, kx_a q_to cyI 319 u.2.2.2.2.1, kx_a q_size cyI 319 u.2.2.2.2.2.1, kx_a q_lossOf cyI 319 u.2.2.2.2.2.2.1, kx_a q_lessBy cyI 319 u.2.2.2.2.2.2.2.1, kx_a q_value cyI 1914 u.2.2.2.2.2.2.2.2.1, kx_a q_number cyI 1914 u.2.2.2.2.2.2.2.2.2.1, kx_3 q_joined j_v j_n u.2.2.2.2.2.2.2.2.2.2.1 u.2.2.2.2.2.2.2.2.2.2.2.1 u.2.2.2.2.2.2.2.2.2.2.2.2.1, kx_a j_v cyI 12 u.2.2.2.2.2.2.2.2.2.2.2.2.2.1, kx_a j_n cyI 12 u.2.2.2.2.2.2.2.2.2.2.2.2.2.2]) A) := by
  refine kx_stQ (ws := wsX4_laidTree) (cc := cX4_laidTree) (maxL := 1) (ret := (some (.object "MajorityIndex$Tree"))) (by decide) rfl (Nat.le_of_ble_eq_true rfl) ?_
  intro p e s m below meth c A ls hx hb hr hlocks hts hown hml hA hS hP hK hD hl
  have hown : s.vm.findClass RX4 = some m.cls := hown
  have hl : lv_has ls 1 [(0, .ref m_)] := hl
  have hf_53 := hts (.fieldLink RX4 53 "MajorityIndex" "treeIsOld" "Z") (List.mem_of_getElem? (i := 1) rfl)
  have hi_4 : ∀ w ∈ u_ws RX4 TX4 9, w ∈ wsX4_laidTree := fun w h => List.mem_cons_of_mem _ (List.mem_append_left _ (List.mem_append_left _ (List.mem_append_left _ (List.mem_append_right _ h))))
  have hf_21 := hts (.fieldLink RX4 21 "MajorityIndex" "tree" "LMajorityIndex$Tree;") (List.mem_of_getElem? (i := 2) rfl)
  have hf_49 := hts (.fieldLink RX4 49 "MajorityIndex" "slotsNow" "I") (List.mem_of_getElem? (i := 3) rfl)
  have hf_204 := hts (.fieldLink RX4 204 "MajorityIndex$Tree" "slotsHere" "I") (List.mem_of_getElem? (i := 4) rfl)
  have hi_2 : ∀ w ∈ u_ws RX2 TX2 11, w ∈ wsX4_laidTree := fun w h => List.mem_cons_of_mem _ (List.mem_append_left _ (List.mem_append_left _ (List.mem_append_right _ h)))
  have hf_12 := hts (.fieldLink RX4 12 "MajorityIndex" "row" "LMajorityIndex$Row;") (List.mem_of_getElem? (i := 5) rfl)
  have hf_57 := hts (.fieldLink RX4 57 "MajorityIndex$Row" "length" "I") (List.mem_of_getElem? (i := 6) rfl)
  have hi_0 : ∀ w ∈ u_ws RX0 TX0 2, w ∈ wsX4_laidTree := fun w h => List.mem_cons_of_mem _ (List.mem_append_left _ (List.mem_append_right _ h))
  refine lv_aload_n hx hb dX4_laidTree_0 rfl (lv_at hl 0 rfl) ?_
  refine va_get (D := (dC, dI)) (ci := 4) (v := .int old) (C := RX4) (T := TX4) (N := 9) hx hb hts hi_4 hown hK hP 0 rfl rfl 8 (by decide) hf_53 (fun _ h9 => h9) rfl dX4_laidTree_1 ?_
  refine lv_if_eq (tgt := 46) hx hb dX4_laidTree_4 (by decide) (fun c_1 => ?_) (fun c_1 => ?_)
  · have i_1 : old.toInt = 0 := kc_eq c_1
    refine lv_aload_n hx hb dX4_laidTree_46 rfl (lv_at hl 0 rfl) ?_
    refine va_get (D := (dC, dI)) (ci := 4) (v := .ref q_t) (C := RX4) (T := TX4) (N := 9) hx hb hts hi_4 hown hK hP 0 rfl rfl 1 (by decide) hf_21 (fun _ h9 => h9) rfl dX4_laidTree_47 ?_
    have hP9 := hP
    have hD9 := hD
    have hK9 := hK
    exact W.aret hx hb hr (Or.inl ⟨_, rfl⟩) (Or.inr ⟨_, rfl⟩) (hlocks := hlocks) (fun t ht hW => ⟨⟨(old, nodes, here, ff, ft, fs, fo, fe, uv, un, js, jl, je, jv, jn), q_t, rfl, ⟨by omega, (l0 (by (try dsimp only); omega)).1, (l0 (by (try dsimp only); omega)).2.1, s0, (l0 (by (try dsimp only); omega)).2.2⟩, rfl, by rw [ht]; exact hP9, va_K.moved hW.alike hK9, hD9⟩, hS.F ht⟩) hS.2.2 dX4_laidTree_50
  · have i_1 : ¬ old.toInt = 0 := kc_ne c_1
    refine lv_aload_n hx hb dX4_laidTree_7 rfl (lv_at hl 0 rfl) ?_
    refine va_get (D := (dC, dI)) (ci := 4) (v := .ref q_t) (C := RX4) (T := TX4) (N := 9) hx hb hts hi_4 hown hK hP 0 rfl rfl 1 (by decide) hf_21 (fun _ h9 => h9) rfl dX4_laidTree_8 ?_
    obtain ⟨hPc, hDc, hFc, hCc⟩ := kx_preM (wc := [kx_2 q_t q_row q_joined q_from q_to q_size q_lossOf q_lessBy q_value q_number nodes here, kx_0 q_row q_cell len, kx_a q_from cyI 319 ff, kx_a q_to cyI 319 ft]) hP hD hS hA [false, true, true, false, true, true, false, false, false, false, false, false, false, false] rfl
    have hKc := hK
    refine va_callv (va_runV (As := []) (rest := []) ⟨hx, hb, hml, hown, hts⟩ (kx_un (c_X2_layRanges l dC dI q_t q_row q_joined q_from q_to q_size q_lossOf q_lessBy q_value q_number nodes here q_cell cyI len ff ft s.heap.size a0 a1)) (cwV 0 hts gX4_laidTree_X2_layRanges rfl rfl rfl (by decide +kernel) ⟨Nat.le_of_ble_eq_true rfl, Nat.le_of_ble_eq_true rfl⟩) ⟨fun a U g mk q => by obtain ⟨q0, q1, qP, qK, qD⟩ := q; exact ⟨q0, q1, qP, va_K.moved (u := U) (U := U.calling g mk a) (Vm.Alike.refl U.vm) qK, qD⟩, kx_rc2 hKc hPc (q0 := 0) rfl, fun U hU hW => ⟨rfl, by rw [hU], by rw [hU]; exact hPc, va_K.moved hW.alike hKc, hDc.weaken (fun _ _ _ _ => trivial)⟩⟩ rfl rfl hl.1 rfl (lv_room (Nat.le_of_ble_eq_true rfl)) dX4_laidTree_11 ⟨Nat.le_of_ble_eq_true rfl, Nat.le_of_ble_eq_true rfl⟩) hS (fun q _ h => hFc q h) hFc (fun u t H1 locs ht hvm w_2 hB hz1 hk1 hS => ?_)
    obtain ⟨o_3, o_4, o_5⟩ := u
    dsimp only at w_2 hB
    obtain ⟨hP1, hK1, hD1⟩ := hB
    rw [ht] at hP1
    have hK1 := va_K.moved hvm.symm hK1
    obtain ⟨hP, hD⟩ := kx_joinM (w2 := [kx_4 m_ q_row q_t t_ h0 k0 w_ z_ slots old, kx_2 q_t q_row q_joined q_from q_to q_size q_lossOf q_lessBy q_value q_number o_3 here, kx_0 q_row q_cell len, kx_a q_cell cyI 160 f, kx_a q_from cyI 319 o_4, kx_a q_to cyI 319 o_5, kx_a q_size cyI 319 fs, kx_a q_lossOf cyI 319 fo, kx_a q_lessBy cyI 319 fe, kx_a q_value cyI 1914 uv, kx_a q_number cyI 1914 un, kx_3 q_joined j_v j_n js jl je, kx_a j_v cyI 12 jv, kx_a j_n cyI 12 jn]) hP hD hP1 hD1 hk1 hFc [false, true, true, false, true, true, false, false, false, false, false, false, false, false] hCc rfl
    clear hP1 hD1 hK1 hk1 hz1 hFc hDc hPc hKc hCc
    generalize H1 = H at hP hS ⊢
    have w_2 : ((len.toInt = 0 ∧ o_3.toInt = 0) ∨ (0 < len.toInt ∧ o_3.toInt = 2 * len.toInt - 1)) ∧ treeOk o_4 o_5 o_3.toInt len.toInt := w_2
    refine lv_aload_n hx hb dX4_laidTree_14 rfl (lv_at hl 0 rfl) ?_
    refine va_get (D := (dC, dI)) (ci := 4) (v := .ref q_t) (C := RX4) (T := TX4) (N := 9) hx hb hts hi_4 hown hK hP 0 rfl rfl 1 (by decide) hf_21 (fun _ h9 => h9) rfl dX4_laidTree_15 ?_
    refine lv_aload_n hx hb dX4_laidTree_18 rfl (lv_at hl 0 rfl) ?_
    refine va_get (D := (dC, dI)) (ci := 4) (v := .int slots) (C := RX4) (T := TX4) (N := 9) hx hb hts hi_4 hown hK hP 0 rfl rfl 7 (by decide) hf_49 (fun _ h9 => h9) rfl dX4_laidTree_19 ?_
    refine va_put (D := (dC, dI)) (ci := 2) (v := .int slots) (ty := .int) (C := RX2) (T := TX2) (N := 11) hx hb hts hi_2 tyX2 tyX2_ok nmX2 hown hK hP hD hS 1 rfl rfl 10 (by decide) hf_204 (fun _ h9 => h9) rfl (by decide +kernel) rfl rfl (Nat.le_of_ble_eq_true rfl) dX4_laidTree_22 (fun H locs hP hD hS => ?_)
    obtain ⟨hP, hD⟩ := kx_re (w2 := [kx_4 m_ q_row q_t t_ h0 k0 w_ z_ slots old, kx_2 q_t q_row q_joined q_from q_to q_size q_lossOf q_lessBy q_value q_number o_3 slots, kx_0 q_row q_cell len, kx_a q_cell cyI 160 f, kx_a q_from cyI 319 o_4, kx_a q_to cyI 319 o_5, kx_a q_size cyI 319 fs, kx_a q_lossOf cyI 319 fo, kx_a q_lessBy cyI 319 fe, kx_a q_value cyI 1914 uv, kx_a q_number cyI 1914 un, kx_3 q_joined j_v j_n js jl je, kx_a j_v cyI 12 jv, kx_a j_n cyI 12 jn]) hP hD rfl
    refine lv_aload_n hx hb dX4_laidTree_25 rfl (lv_at hl 0 rfl) ?_
    refine va_get (D := (dC, dI)) (ci := 4) (v := .ref q_t) (C := RX4) (T := TX4) (N := 9) hx hb hts hi_4 hown hK hP 0 rfl rfl 1 (by decide) hf_21 (fun _ h9 => h9) rfl dX4_laidTree_26 ?_
    refine lv_iconst (v := 0) hx hb dX4_laidTree_29 (by decide) ?_
    refine lv_aload_n hx hb dX4_laidTree_30 rfl (lv_at hl 0 rfl) ?_
    refine va_get (D := (dC, dI)) (ci := 4) (v := .ref q_row) (C := RX4) (T := TX4) (N := 9) hx hb hts hi_4 hown hK hP 0 rfl rfl 0 (by decide) hf_12 (fun _ h9 => h9) rfl dX4_laidTree_31 ?_
    refine va_get (D := (dC, dI)) (ci := 0) (v := .int len) (C := RX0) (T := TX0) (N := 2) hx hb hts hi_0 hown hK hP 2 rfl rfl 1 (by decide) hf_57 (fun _ h9 => h9) rfl dX4_laidTree_34 ?_
    obtain ⟨hPc, hDc, hFc, hCc⟩ := kx_preM (wc := [kx_2 q_t q_row q_joined q_from q_to q_size q_lossOf q_lessBy q_value q_number o_3 slots, kx_0 q_row q_cell len, kx_a q_cell cyI 160 f, kx_a q_from cyI 319 o_4, kx_a q_to cyI 319 o_5, kx_a q_size cyI 319 fs, kx_a q_lossOf cyI 319 fo, kx_a q_lessBy cyI 319 fe, kx_a q_value cyI 1914 uv, kx_a q_number cyI 1914 un, kx_3 q_joined j_v j_n js jl je, kx_a j_v cyI 12 jv, kx_a j_n cyI 12 jn]) hP hD hS hA [false, true, true, true, true, true, true, true, true, true, true, true, true, true] rfl
    have hKc := hK
    have k_6 : (0 : Int32).toInt = 0 := rfl
    refine va_calli (va_runV (As := [.int 0, .int len]) (rest := []) ⟨hx, hb, hml, hown, hts⟩ (kx_un (c_X2_renew l dC dI q_t q_row q_joined q_from q_to q_size q_lossOf q_lessBy q_value q_number o_3 slots q_cell cyI len f o_4 o_5 fs fo uv un fe j_v j_n js jl je jv jn 0 len H.size (by omega) (by omega) a1 s0 w_2.2)) (cwV 2 hts gX4_laidTree_X2_renew rfl rfl rfl (by decide +kernel) ⟨Nat.le_of_ble_eq_true rfl, Nat.le_of_ble_eq_true rfl⟩) ⟨fun a U g mk q => by obtain ⟨q0, q1, qP, qK, qD⟩ := q; exact ⟨q0, q1, qP, va_K.moved (u := U) (U := U.calling g mk a) (Vm.Alike.refl U.vm) qK, qD⟩, kx_rc2 hKc hPc (q0 := 0) rfl, fun U hU hW => ⟨rfl, by rw [hU], by rw [hU]; exact hPc, va_K.moved hW.alike hKc, hDc.weaken (fun _ _ _ _ => trivial)⟩⟩ rfl rfl hl.1 rfl (lv_room (Nat.le_of_ble_eq_true rfl)) dX4_laidTree_37 ⟨Nat.le_of_ble_eq_true rfl, Nat.le_of_ble_eq_true rfl⟩) hS (fun q _ h => hFc q h) hFc (fun r_7 u t H1 locs ht hvm w_7 hB hz1 hk1 hS => ?_)
    obtain ⟨o_8, o_9, o_10, o_11, o_12, o_13, o_14, o_15, o_16, o_17⟩ := u
    dsimp only at w_7 hB
    obtain ⟨hP1, hK1, hD1⟩ := hB
    rw [ht] at hP1
    have hK1 := va_K.moved hvm.symm hK1
    obtain ⟨hP, hD⟩ := kx_joinM (w2 := [kx_4 m_ q_row q_t t_ h0 k0 w_ z_ slots old, kx_2 q_t q_row q_joined q_from q_to q_size q_lossOf q_lessBy q_value q_number o_3 slots, kx_0 q_row q_cell len, kx_a q_cell cyI 160 f, kx_a q_from cyI 319 o_4, kx_a q_to cyI 319 o_5, kx_a q_size cyI 319 o_8, kx_a q_lossOf cyI 319 o_9, kx_a q_lessBy cyI 319 o_10, kx_a q_value cyI 1914 o_11, kx_a q_number cyI 1914 o_12, kx_3 q_joined j_v j_n o_13 o_14 o_15, kx_a j_v cyI 12 o_16, kx_a j_n cyI 12 o_17]) hP hD hP1 hD1 hk1 hFc [false, true, true, true, true, true, true, true, true, true, true, true, true, true] hCc rfl
    clear hP1 hD1 hK1 hk1 hz1 hFc hDc hPc hKc hCc
    generalize H1 = H at hP hS ⊢
    have w_7 : sixes o_8 := w_7
    refine lv_pop hx hb dX4_laidTree_40 rfl ?_
    refine lv_aload_n hx hb dX4_laidTree_41 rfl (lv_at hl 0 rfl) ?_
    refine lv_iconst (v := 0) hx hb dX4_laidTree_42 (by decide) ?_
    refine va_put (D := (dC, dI)) (ci := 4) (v := .int 0) (ty := .boolean) (C := RX4) (T := TX4) (N := 9) hx hb hts hi_4 tyX4 tyX4_ok nmX4 hown hK hP hD hS 0 rfl rfl 8 (by decide) hf_53 (fun _ h9 => h9) rfl (by decide +kernel) (by decide) (by decide) (Nat.le_of_ble_eq_true rfl) dX4_laidTree_43 (fun H locs hP hD hS => ?_)
    obtain ⟨hP, hD⟩ := kx_re (w2 := [kx_4 m_ q_row q_t t_ h0 k0 w_ z_ slots 0, kx_2 q_t q_row q_joined q_from q_to q_size q_lossOf q_lessBy q_value q_number o_3 slots, kx_0 q_row q_cell len, kx_a q_cell cyI 160 f, kx_a q_from cyI 319 o_4, kx_a q_to cyI 319 o_5, kx_a q_size cyI 319 o_8, kx_a q_lossOf cyI 319 o_9, kx_a q_lessBy cyI 319 o_10, kx_a q_value cyI 1914 o_11, kx_a q_number cyI 1914 o_12, kx_3 q_joined j_v j_n o_13 o_14 o_15, kx_a j_v cyI 12 o_16, kx_a j_n cyI 12 o_17]) hP hD rfl
    refine lv_aload_n hx hb dX4_laidTree_46 rfl (lv_at hl 0 rfl) ?_
    refine va_get (D := (dC, dI)) (ci := 4) (v := .ref q_t) (C := RX4) (T := TX4) (N := 9) hx hb hts hi_4 hown hK hP 0 rfl rfl 1 (by decide) hf_21 (fun _ h9 => h9) rfl dX4_laidTree_47 ?_
    have hP9 := hP
    have hD9 := hD
    have hK9 := hK
    exact W.aret hx hb hr (Or.inl ⟨_, rfl⟩) (Or.inr ⟨_, rfl⟩) (hlocks := hlocks) (fun t ht hW => ⟨⟨(0, o_3, slots, o_4, o_5, o_8, o_9, o_10, o_11, o_12, o_13, o_14, o_15, o_16, o_17), q_t, rfl, ⟨rfl, (by (try dsimp only); omega), (by (try dsimp only); omega), w_7, w_2.2⟩, rfl, by rw [ht]; exact hP9, va_K.moved hW.alike hK9, hD9⟩, hS.F ht⟩) hS.2.2 dX4_laidTree_50


