set_option maxHeartbeats 4000000 in
set_option maxRecDepth 100000 in
theorem c_X2_putTogether_x (l : Launch) (dC : Nat → ClassId) (dI : Nat → Nat → Nat) (q_t : Nat) (q_row : Nat) (q_joined : Nat) (q_from : Nat) (q_to : Nat) (q_size : Nat) (q_lossOf : Nat) (q_lessBy : Nat) (q_value : Nat) (q_number : Nat) (nodes : Int32) (here : Int32) (q_cell : Nat) (cyI : ClassId) (len : Int32) (f : Nat → Int32) (ff : Nat → Int32) (ft : Nat → Int32) (fs : Nat → Int32) (fo : Nat → Int32) (uv : Nat → Int32) (un : Nat → Int32) (fe : Nat → Int32) (j_v : Nat) (j_n : Nat) (js : Int32) (jl : Int32) (je : Int32) (jv : Nat → Int32) (jn : Nat → Int32) (p0 : Int32) (sz : Nat) (b0 : 0 ≤ p0.toInt) (b1 : p0.toInt < nodes.toInt) (c0 : nodes.toInt ≤ 319) (c1 : len.toInt ≤ 160) (t0 : treeOk ff ft nodes.toInt len.toInt) (k0 : 1 ≤ here.toInt) (k1 : here.toInt ≤ 6) (hc : mj_ch here.toNatClampNeg f ff ft fs fo fe uv un p0.toNatClampNeg) : Met l yX2_putTogether wsX2_putTogether ({ frames := 3, cells := 0, slots := 0, locals := 135 }) (va_Pc [.ref q_t, .int p0] (fun U => U.heap.size = sz ∧ va_P (dC, dI) vwCl [kx_2 q_t q_row q_joined q_from q_to q_size q_lossOf q_lessBy q_value q_number nodes here, kx_0 q_row q_cell len, kx_a q_cell cyI 160 f, kx_a q_from cyI 319 ff, kx_a q_to cyI 319 ft, kx_a q_size cyI 319 fs, kx_a q_lossOf cyI 319 fo, kx_a q_value cyI 1914 uv, kx_a q_number cyI 1914 un, kx_3 q_joined j_v j_n js jl je, kx_a j_v cyI 12 jv, kx_a j_n cyI 12 jn] U.heap ∧ va_K (dC, dI) vwCl [(cyI, .int)] U ∧ va_D (fun _ => True) [kx_2 q_t q_row q_joined q_from q_to q_size q_lossOf q_lessBy q_value q_number nodes here, kx_0 q_row q_cell len, kx_a q_cell cyI 160 f, kx_a q_from cyI 319 ff, kx_a q_to cyI 319 ft, kx_a q_size cyI 319 fs, kx_a q_lossOf cyI 319 fo, kx_a q_value cyI 1914 uv, kx_a q_number cyI 1914 un, kx_3 q_joined j_v j_n js jl je, kx_a j_v cyI 12 jv, kx_a j_n cyI 12 jn])) (va_Qv (fun u : Int32 × Int32 × Int32 × (Nat → Int32) × (Nat → Int32) × (Int32 → Int) => mj_jn here.toNatClampNeg f ff ft fs fo fe uv un p0.toNatClampNeg u.2.2.2.2.2 u.2.1 u.2.2.1 ∧ mj_vs u.2.2.2.1 u.2.2.2.2.1 0 u.1.toNatClampNeg u.2.2.2.2.2 ∧ mj_srt u.2.2.2.1 u.2.2.2.2.1 0 u.1.toNatClampNeg ∧ 0 ≤ u.1.toInt ∧ u.1.toInt ≤ here.toInt) (fun (u : Int32 × Int32 × Int32 × (Nat → Int32) × (Nat → Int32) × (Int32 → Int)) (t : State) => va_P (dC, dI) vwCl [kx_2 q_t q_row q_joined q_from q_to q_size q_lossOf q_lessBy q_value q_number nodes here, kx_0 q_row q_cell len, kx_a q_cell cyI 160 f, kx_a q_from cyI 319 ff, kx_a q_to cyI 319 ft, kx_a q_size cyI 319 fs, kx_a q_lossOf cyI 319 fo, kx_a q_value cyI 1914 uv, kx_a q_number cyI 1914 un, kx_3 q_joined j_v j_n u.1 u.2.1 u.2.2.1, kx_a j_v cyI 12 u.2.2.2.1, kx_a j_n cyI 12 u.2.2.2.2.1] t.heap ∧ va_K (dC, dI) vwCl [(cyI, .int)] t ∧ va_D (va_A [kx_2 q_t q_row q_joined q_from q_to q_size q_lossOf q_lessBy q_value q_number nodes here, kx_0 q_row q_cell len, kx_a q_cell cyI 160 f, kx_a q_from cyI 319 ff, kx_a q_to cyI 319 ft, kx_a q_size cyI 319 fs, kx_a q_lossOf cyI 319 fo, kx_a q_value cyI 1914 uv, kx_a q_number cyI 1914 un, kx_3 q_joined j_v j_n js jl je, kx_a j_v cyI 12 jv, kx_a j_n cyI 12 jn] sz) [kx_2 q_t q_row q_joined q_from q_to q_size q_lossOf q_lessBy q_value q_number nodes here, kx_0 q_row q_cell len, kx_a q_cell cyI 160 f, kx_a q_from cyI 319 ff, kx_a q_to cyI 319 ft, kx_a q_size cyI 319 fs, kx_a q_lossOf cyI 319 fo, kx_a q_value cyI 1914 uv, kx_a q_number cyI 1914 un, kx_3 q_joined j_v j_n u.1 u.2.1 u.2.2.1, kx_a j_v cyI 12 u.2.2.2.1, kx_a j_n cyI 12 u.2.2.2.2.1]) (va_A [kx_2 q_t q_row q_joined q_from q_to q_size q_lossOf q_lessBy q_value q_number nodes here, kx_0 q_row q_cell len, kx_a q_cell cyI 160 f, kx_a q_from cyI 319 ff, kx_a q_to cyI 319 ft, kx_a q_size cyI 319 fs, kx_a q_lossOf cyI 319 fo, kx_a q_value cyI 1914 uv, kx_a q_number cyI 1914 un, kx_3 q_joined j_v j_n js jl je, kx_a j_v cyI 12 jv, kx_a j_n cyI 12 jn] sz)) 0 0 (va_A [kx_2 q_t q_row q_joined q_from q_to q_size q_lossOf q_lessBy q_value q_number nodes here, kx_0 q_row q_cell len, kx_a q_cell cyI 160 f, kx_a q_from cyI 319 ff, kx_a q_to cyI 319 ft, kx_a q_size cyI 319 fs, kx_a q_lossOf cyI 319 fo, kx_a q_value cyI 1914 uv, kx_a q_number cyI 1914 un, kx_3 q_joined j_v j_n js jl je, kx_a j_v cyI 12 jv, kx_a j_n cyI 12 jn] sz) := by
  refine Met.ofW (cc := cX2_putTogether) (maxL := 2) (ret := none) (by decide) rfl ?_
  intro p e s m args below meth c s₁ B hml hv
  obtain ⟨rfl, hsz, hP, hK, hD0⟩ := hv
  have hx := B.exec
  have hb := B.bytes
  have hr := B.returns
  have hts := atoms_spec (ws := wsX2_putTogether) B.pre
  have hown : s.vm.findClass RX2 = some m.cls := findClass_of_methodNamed B.named
  have hlocks := B.notSynchronized
  subst hsz
  have hD := hD0.self (sz := s.heap.size)
  generalize hAe : va_A [kx_2 q_t q_row q_joined q_from q_to q_size q_lossOf q_lessBy q_value q_number nodes here, kx_0 q_row q_cell len, kx_a q_cell cyI 160 f, kx_a q_from cyI 319 ff, kx_a q_to cyI 319 ft, kx_a q_size cyI 319 fs, kx_a q_lossOf cyI 319 fo, kx_a q_value cyI 1914 uv, kx_a q_number cyI 1914 un, kx_3 q_joined j_v j_n js jl je, kx_a j_v cyI 12 jv, kx_a j_n cyI 12 jn] s.heap.size = A at hD ⊢
  have hA : ∀ q : Nat, s.heap.size ≤ q → A q := fun q h => by rw [← hAe]; exact Or.inr h
  have hS : va_S A s.heap s.heap [] := va_S.rf
  have hP : va_P (dC, dI) vwCl [kx_2 q_t q_row q_joined q_from q_to q_size q_lossOf q_lessBy q_value q_number nodes here, kx_0 q_row q_cell len, kx_a q_cell cyI 160 f, kx_a q_from cyI 319 ff, kx_a q_to cyI 319 ft, kx_a q_size cyI 319 fs, kx_a q_lossOf cyI 319 fo, kx_a q_value cyI 1914 uv, kx_a q_number cyI 1914 un, kx_3 q_joined j_v j_n js jl je, kx_a j_v cyI 12 jv, kx_a j_n cyI 12 jn] s.heap := hP
  have hl := lv_entry ([.ref q_t, .int p0]) (n := 2) (Nat.le_of_ble_eq_true rfl)
  rw [lg_entry_eq]
  generalize (lg_sl ([.ref q_t, .int p0]) ++ List.replicate (2 - (lg_sl ([.ref q_t, .int p0])).length) Slot.unset).toArray = ls at hl ⊢
  have hl : lv_has ls 2 [(0, .ref q_t), (1, .int p0)] := hl
  have hf_12 := hts (.fieldLink RX2 12 "MajorityIndex$Tree" "joined" "LMajorityIndex$Votes;") (List.mem_of_getElem? (i := 1) rfl)
  have hi_2 : ∀ w ∈ u_ws RX2 TX2 11, w ∈ wsX2_putTogether := fun w h => List.mem_cons_of_mem _ (List.mem_append_left _ (List.mem_append_left _ (List.mem_append_right _ h)))
  have hf_22 := hts (.fieldLink RX2 22 "MajorityIndex$Tree" "to" "[I") (List.mem_of_getElem? (i := 2) rfl)
  have hf_18 := hts (.fieldLink RX2 18 "MajorityIndex$Tree" "from" "[I") (List.mem_of_getElem? (i := 3) rfl)
  have hf_85 := hts (.fieldLink RX2 85 "MajorityIndex$Tree" "slotsHere" "I") (List.mem_of_getElem? (i := 6) rfl)
  have hf_40 := hts (.fieldLink RX2 40 "MajorityIndex$Tree" "row" "LMajorityIndex$Row;") (List.mem_of_getElem? (i := 4) rfl)
  have hf_74 := hts (.fieldLink RX2 74 "MajorityIndex$Row" "cell" "[I") (List.mem_of_getElem? (i := 5) rfl)
  have hi_0 : ∀ w ∈ u_ws RX0 TX0 2, w ∈ wsX2_putTogether := fun w h => List.mem_cons_of_mem _ (List.mem_append_left _ (List.mem_append_right _ h))
  refine lv_aload_n hx hb dX2_putTogether_0 rfl (lv_at hl 0 rfl) ?_
  refine va_get (D := (dC, dI)) (ci := 2) (v := .ref q_joined) (C := RX2) (T := TX2) (N := 11) hx hb hts hi_2 hown hK hP 0 rfl rfl 1 (by decide) hf_12 (fun _ h9 => h9) rfl dX2_putTogether_1 ?_
  have hPc := hP.sub (ws' := [kx_3 q_joined j_v j_n js jl je]) [9] rfl
  have hKc := hK.sub (tys' := []) [] rfl
  have hDc := hD.sub (ws' := [kx_3 q_joined j_v j_n js jl je]) [9] (by decide) rfl
  have hFc := va_free (wc := [kx_3 q_joined j_v j_n js jl je]) hD hS hA [9] rfl
  refine va_callv (va_runV (As := []) (rest := []) ⟨hx, hb, hml, hown, hts⟩ (c_X3_clear l dC dI q_joined j_v j_n js jl je s.heap.size) (cwV 0 hts gX2_putTogether_X3_clear rfl rfl rfl (by decide +kernel) ⟨Nat.le_of_ble_eq_true rfl, Nat.le_of_ble_eq_true rfl⟩) ⟨fun a U g mk q => by obtain ⟨q0, q1, qP, qK, qD⟩ := q; exact ⟨q0, q1, qP, va_K.moved (u := U) (U := U.calling g mk a) (Vm.Alike.refl U.vm) qK, qD⟩, va_recv hKc hPc (ci := 3) (q0 := 0) rfl rfl, fun U hU hW => ⟨rfl, by rw [hU], by rw [hU]; exact hPc, va_K.moved hW.alike hKc, hDc.weaken (fun _ _ _ _ => trivial)⟩⟩ rfl rfl hl.1 rfl (lv_room (Nat.le_of_ble_eq_true rfl)) dX2_putTogether_4 ⟨Nat.le_of_ble_eq_true rfl, Nat.le_of_ble_eq_true rfl⟩) hS (fun q _ h => hFc q h) hFc (fun u t H1 locs ht hvm w_1 hB hz1 hk1 hS => ?_)
  obtain ⟨hP1, hK1, hD1⟩ := hB
  rw [ht] at hP1
  have hK1 := va_K.moved hvm.symm hK1
  obtain ⟨hP, hD⟩ := va_join (wr := [kx_2 q_t q_row q_joined q_from q_to q_size q_lossOf q_lessBy q_value q_number nodes here, kx_0 q_row q_cell len, kx_a q_cell cyI 160 f, kx_a q_from cyI 319 ff, kx_a q_to cyI 319 ft, kx_a q_size cyI 319 fs, kx_a q_lossOf cyI 319 fo, kx_a q_value cyI 1914 uv, kx_a q_number cyI 1914 un, kx_a j_v cyI 12 jv, kx_a j_n cyI 12 jn]) (w1 := [kx_3 q_joined j_v j_n 0 0 0]) hP hD [9] [0, 1, 2, 3, 4, 5, 6, 7, 8, 10, 11] rfl rfl (by decide) (by decide) hk1 hFc hP1 hD1
  clear hP1 hD1 hK1 hk1 hz1 hFc hDc hPc hKc
  generalize H1 = H at hP hS ⊢
  have hP : va_P (dC, dI) vwCl [kx_2 q_t q_row q_joined q_from q_to q_size q_lossOf q_lessBy q_value q_number nodes here, kx_0 q_row q_cell len, kx_a q_cell cyI 160 f, kx_a q_from cyI 319 ff, kx_a q_to cyI 319 ft, kx_a q_size cyI 319 fs, kx_a q_lossOf cyI 319 fo, kx_a q_value cyI 1914 uv, kx_a q_number cyI 1914 un, kx_a j_v cyI 12 jv, kx_a j_n cyI 12 jn, kx_3 q_joined j_v j_n 0 0 0] H := hP
  have hD : va_D A [kx_2 q_t q_row q_joined q_from q_to q_size q_lossOf q_lessBy q_value q_number nodes here, kx_0 q_row q_cell len, kx_a q_cell cyI 160 f, kx_a q_from cyI 319 ff, kx_a q_to cyI 319 ft, kx_a q_size cyI 319 fs, kx_a q_lossOf cyI 319 fo, kx_a q_value cyI 1914 uv, kx_a q_number cyI 1914 un, kx_a j_v cyI 12 jv, kx_a j_n cyI 12 jn, kx_3 q_joined j_v j_n 0 0 0] := hD
  have k_0 : (0 : Int32).toInt = 0 := rfl
  refine lv_aload_n hx hb dX2_putTogether_7 rfl (lv_at hl 0 rfl) ?_
  refine va_get (D := (dC, dI)) (ci := 2) (v := .ref q_to) (C := RX2) (T := TX2) (N := 11) hx hb hts hi_2 hown hK hP 0 rfl rfl 3 (by decide) hf_22 (fun _ h9 => h9) rfl dX2_putTogether_8 ?_
  refine lv_iload_n hx hb dX2_putTogether_11 rfl (lv_at hl 1 rfl) ?_
  refine va_iald hx hb hK hP 4 0 rfl rfl (ki_in (om_8 b0) (om_87 b1 c0)) dX2_putTogether_12 ?_
  refine lv_topi (fun y_2 ey_2 => ?_)
  have j_2 : y_2.toInt = (ft p0.toNatClampNeg).toInt := congrArg Int32.toInt ey_2
  have n_3 : (p0.toNatClampNeg : Int) = p0.toInt := ki_nat _ rfl (om_8 b0)
  have i_4 := t0 p0.toNatClampNeg (by omega)
  unfold okAt at i_4
  refine lv_aload_n hx hb dX2_putTogether_13 rfl (lv_at hl 0 rfl) ?_
  refine va_get (D := (dC, dI)) (ci := 2) (v := .ref q_from) (C := RX2) (T := TX2) (N := 11) hx hb hts hi_2 hown hK hP 0 rfl rfl 2 (by decide) hf_18 (fun _ h9 => h9) rfl dX2_putTogether_14 ?_
  refine lv_iload_n hx hb dX2_putTogether_17 rfl (lv_at hl 1 rfl) ?_
  refine va_iald hx hb hK hP 3 0 rfl rfl (ki_in (om_8 b0) (om_87 b1 c0)) dX2_putTogether_18 ?_
  refine lv_topi (fun y_5 ey_5 => ?_)
  have j_5 : y_5.toInt = (ff p0.toNatClampNeg).toInt := congrArg Int32.toInt ey_5
  have n_6 : (p0.toNatClampNeg : Int) = p0.toInt := ki_nat _ rfl (om_8 b0)
  have i_7 := t0 p0.toNatClampNeg (by omega)
  unfold okAt at i_7
  refine lv_isub hx hb dX2_putTogether_19 ?_
  refine lv_topi (fun y_8 ey_8 => ?_)
  have i_8 : y_8.toInt = y_2.toInt - y_5.toInt := ki_sub ey_8 rfl rfl (by omega) (by omega)
  refine lv_iconst (v := 1) hx hb dX2_putTogether_20 (by decide) ?_
  refine lv_icmp_ne (tgt := 49) hx hb dX2_putTogether_21 (by decide) (fun c_9 => ?_) (fun c_9 => ?_)
  · have i_9 : ¬ y_8.toInt = 1 := kc_ne c_9
    have n_p0 := ki_nat p0 rfl (om_8 b0)
    have n_f := ki_nat (ff p0.toNatClampNeg) rfl (by omega)
    have n_t := ki_nat (ft p0.toNatClampNeg) rfl (by omega)
    obtain ⟨hc0, d, mua, La, ca, mub, Lb, cb, tA, tB⟩ := Or.resolve_left hc (by omega)
    have nA := mj_T_nd tA
    have nB := mj_T_nd tB
    have lA := mj_T_le _ _ _ _ _ _ _ tA
    have lB := mj_T_le _ _ _ _ _ _ _ tB
    have hm : mj_mid ff ft p0.toNatClampNeg = ((ff p0.toNatClampNeg).toNatClampNeg + (ft p0.toNatClampNeg).toNatClampNeg) / 2 := rfl
    refine lv_aload_n hx hb dX2_putTogether_49 rfl (lv_at hl 0 rfl) ?_
    refine lv_aload_n hx hb dX2_putTogether_50 rfl (lv_at hl 0 rfl) ?_
    refine va_get (D := (dC, dI)) (ci := 2) (v := .ref q_joined) (C := RX2) (T := TX2) (N := 11) hx hb hts hi_2 hown hK hP 0 rfl rfl 1 (by decide) hf_12 (fun _ h9 => h9) rfl dX2_putTogether_51 ?_
    refine lv_iload_n hx hb dX2_putTogether_54 rfl (lv_at hl 1 rfl) ?_
    refine lv_iconst (v := 1) hx hb dX2_putTogether_55 (by decide) ?_
    refine lv_iadd hx hb dX2_putTogether_56 ?_
    refine lv_topi (fun y_10 ey_10 => ?_)
    have i_10 : y_10.toInt = p0.toInt + 1 := ki_add ey_10 rfl rfl (om_10 b0) (om_88 b1 c0)
    have n_11 := ki_nat y_10 rfl (om_31 b0 i_10)
    have q_56 : y_10.toNatClampNeg = p0.toNatClampNeg + 1 := by omega
    have hPc := hP.sub (ws' := [kx_2 q_t q_row q_joined q_from q_to q_size q_lossOf q_lessBy q_value q_number nodes here, kx_a q_size cyI 319 fs, kx_a q_lossOf cyI 319 fo, kx_a q_value cyI 1914 uv, kx_a q_number cyI 1914 un, kx_3 q_joined j_v j_n 0 0 0, kx_a j_v cyI 12 jv, kx_a j_n cyI 12 jn]) [0, 5, 6, 7, 8, 11, 9, 10] rfl
    have hKc := hK
    have hDc := hD.sub (ws' := [kx_2 q_t q_row q_joined q_from q_to q_size q_lossOf q_lessBy q_value q_number nodes here, kx_a q_size cyI 319 fs, kx_a q_lossOf cyI 319 fo, kx_a q_value cyI 1914 uv, kx_a q_number cyI 1914 un, kx_3 q_joined j_v j_n 0 0 0, kx_a j_v cyI 12 jv, kx_a j_n cyI 12 jn]) [0, 5, 6, 7, 8, 11, 9, 10] (by decide) rfl
    have hFc := va_free (wc := [kx_2 q_t q_row q_joined q_from q_to q_size q_lossOf q_lessBy q_value q_number nodes here, kx_a q_size cyI 319 fs, kx_a q_lossOf cyI 319 fo, kx_a q_value cyI 1914 uv, kx_a q_number cyI 1914 un, kx_3 q_joined j_v j_n 0 0 0, kx_a j_v cyI 12 jv, kx_a j_n cyI 12 jn]) hD hS hA [0, 5, 6, 7, 8, 11, 9, 10] rfl
    refine va_callv (va_runV (As := [.ref q_joined, .int y_10]) (rest := []) ⟨hx, hb, hml, hown, hts⟩ (c_X2_joinNode_x l dC dI q_t q_row q_joined q_from q_to q_size q_lossOf q_lessBy q_value q_number nodes here q_joined j_v j_n cyI 0 0 0 jv jn fs fo uv un mj_z mua y_10 H.size (by omega) (by omega) (by omega) (by omega) (by rw [q_56]; exact nA.2.2.1) (by rw [q_56]; exact nA.2.2.2.1) (mj_vs_zero _ _ _) (by rw [q_56]; exact nA.2.2.2.2.2.2.2.1) (fun v => by have h1 := lA v; show (0 : Int) + _ ≤ _; omega)) (cwV 2 hts gX2_putTogether_X2_joinNode rfl rfl rfl (by decide +kernel) ⟨Nat.le_of_ble_eq_true rfl, Nat.le_of_ble_eq_true rfl⟩) ⟨fun a U g mk q => by obtain ⟨q0, q1, qP, qK, qD⟩ := q; exact ⟨q0, q1, qP, va_K.moved (u := U) (U := U.calling g mk a) (Vm.Alike.refl U.vm) qK, qD⟩, va_recv hKc hPc (ci := 2) (q0 := 0) rfl rfl, fun U hU hW => ⟨rfl, by rw [hU], by rw [hU]; exact hPc, va_K.moved hW.alike hKc, hDc.weaken (fun _ _ _ _ => trivial)⟩⟩ rfl rfl hl.1 rfl (lv_room (Nat.le_of_ble_eq_true rfl)) dX2_putTogether_57 ⟨Nat.le_of_ble_eq_true rfl, Nat.le_of_ble_eq_true rfl⟩) hS (fun q _ h => hFc q h) hFc (fun u t H1 locs ht hvm w_12 hB hz1 hk1 hS => ?_)
    obtain ⟨o_13, o_14, o_15, o_16⟩ := u
    dsimp only at w_12 hB
    obtain ⟨hP1, hK1, hD1⟩ := hB
    rw [ht] at hP1
    have hK1 := va_K.moved hvm.symm hK1
    obtain ⟨hP, hD⟩ := va_join (wr := [kx_0 q_row q_cell len, kx_a q_cell cyI 160 f, kx_a q_from cyI 319 ff, kx_a q_to cyI 319 ft]) (w1 := [kx_2 q_t q_row q_joined q_from q_to q_size q_lossOf q_lessBy q_value q_number nodes here, kx_a q_size cyI 319 fs, kx_a q_lossOf cyI 319 fo, kx_a q_value cyI 1914 uv, kx_a q_number cyI 1914 un, kx_3 q_joined j_v j_n o_13 o_14 0, kx_a j_v cyI 12 o_15, kx_a j_n cyI 12 o_16]) hP hD [0, 5, 6, 7, 8, 11, 9, 10] [1, 2, 3, 4] rfl rfl (by decide) (by decide) hk1 hFc hP1 hD1
    clear hP1 hD1 hK1 hk1 hz1 hFc hDc hPc hKc
    generalize H1 = H at hP hS ⊢
    have hP : va_P (dC, dI) vwCl [kx_0 q_row q_cell len, kx_a q_cell cyI 160 f, kx_a q_from cyI 319 ff, kx_a q_to cyI 319 ft, kx_2 q_t q_row q_joined q_from q_to q_size q_lossOf q_lessBy q_value q_number nodes here, kx_a q_size cyI 319 fs, kx_a q_lossOf cyI 319 fo, kx_a q_value cyI 1914 uv, kx_a q_number cyI 1914 un, kx_3 q_joined j_v j_n o_13 o_14 0, kx_a j_v cyI 12 o_15, kx_a j_n cyI 12 o_16] H := hP
    have hD : va_D A [kx_0 q_row q_cell len, kx_a q_cell cyI 160 f, kx_a q_from cyI 319 ff, kx_a q_to cyI 319 ft, kx_2 q_t q_row q_joined q_from q_to q_size q_lossOf q_lessBy q_value q_number nodes here, kx_a q_size cyI 319 fs, kx_a q_lossOf cyI 319 fo, kx_a q_value cyI 1914 uv, kx_a q_number cyI 1914 un, kx_3 q_joined j_v j_n o_13 o_14 0, kx_a j_v cyI 12 o_15, kx_a j_n cyI 12 o_16] := hD
    have w_12 : mj_vs o_15 o_16 0 o_13.toNatClampNeg (fun w => mj_z w + mua w) ∧ o_14 = 0 + fo y_10.toNatClampNeg ∧ 0 ≤ o_13.toInt ∧ o_13.toInt ≤ 0 + (fs y_10.toNatClampNeg).toInt := w_12
    refine lv_aload_n hx hb dX2_putTogether_60 rfl (lv_at hl 0 rfl) ?_
    refine lv_aload_n hx hb dX2_putTogether_61 rfl (lv_at hl 0 rfl) ?_
    refine va_get (D := (dC, dI)) (ci := 2) (v := .ref q_joined) (C := RX2) (T := TX2) (N := 11) hx hb hts hi_2 hown hK hP 4 rfl rfl 1 (by decide) hf_12 (fun _ h9 => h9) rfl dX2_putTogether_62 ?_
    refine lv_aload_n hx hb dX2_putTogether_65 rfl (lv_at hl 0 rfl) ?_
    refine lv_iload_n hx hb dX2_putTogether_66 rfl (lv_at hl 1 rfl) ?_
    have hPc := hP.sub (ws' := [kx_2 q_t q_row q_joined q_from q_to q_size q_lossOf q_lessBy q_value q_number nodes here, kx_a q_from cyI 319 ff, kx_a q_to cyI 319 ft]) [4, 2, 3] rfl
    have hKc := hK
    refine vp_callSi (W.runV (As := [.int p0]) (rest := [.ref q_joined, .ref q_t]) ⟨hx, hb, hml, hown, hts⟩ (c_X2_rightBelow l dC dI q_t q_row q_joined q_from q_to q_size q_lossOf q_lessBy q_value q_number nodes here cyI ff ft p0 b0 (om_89 b1 c0) (by omega) (by omega) (by omega)) (cwV 1 hts gX2_putTogether_X2_rightBelow rfl rfl rfl (by decide +kernel) ⟨Nat.le_of_ble_eq_true rfl, Nat.le_of_ble_eq_true rfl⟩) ⟨fun a U g mk q => by obtain ⟨q0, qP, qK⟩ := q; exact ⟨q0, qP, va_K.moved (u := U) (U := U.calling g mk a) (Vm.Alike.refl U.vm) qK⟩, va_recv hKc hPc (ci := 2) (q0 := 0) rfl rfl, fun U hU hW => ⟨rfl, by rw [hU]; exact hPc, va_K.moved hW.alike hKc⟩⟩ rfl rfl hl.1 rfl (lv_room (Nat.le_of_ble_eq_true rfl)) dX2_putTogether_67 ⟨Nat.le_of_ble_eq_true rfl, Nat.le_of_ble_eq_true rfl⟩) (fun r_17 w_17 => ?_)
    have w_17 : r_17.toInt = p0.toInt + 2 * (((ff p0.toNatClampNeg).toInt + (ft p0.toNatClampNeg).toInt) / 2 - (ff p0.toNatClampNeg).toInt) := w_17
    have n_18 := ki_nat r_17 rfl (by omega)
    have q_67 : r_17.toNatClampNeg = p0.toNatClampNeg + 2 * (mj_mid ff ft p0.toNatClampNeg - (ff p0.toNatClampNeg).toNatClampNeg) := by rw [hm]; omega
    have hPc := hP.sub (ws' := [kx_2 q_t q_row q_joined q_from q_to q_size q_lossOf q_lessBy q_value q_number nodes here, kx_a q_size cyI 319 fs, kx_a q_lossOf cyI 319 fo, kx_a q_value cyI 1914 uv, kx_a q_number cyI 1914 un, kx_3 q_joined j_v j_n o_13 o_14 0, kx_a j_v cyI 12 o_15, kx_a j_n cyI 12 o_16]) [4, 5, 6, 7, 8, 9, 10, 11] rfl
    have hKc := hK
    have hDc := hD.sub (ws' := [kx_2 q_t q_row q_joined q_from q_to q_size q_lossOf q_lessBy q_value q_number nodes here, kx_a q_size cyI 319 fs, kx_a q_lossOf cyI 319 fo, kx_a q_value cyI 1914 uv, kx_a q_number cyI 1914 un, kx_3 q_joined j_v j_n o_13 o_14 0, kx_a j_v cyI 12 o_15, kx_a j_n cyI 12 o_16]) [4, 5, 6, 7, 8, 9, 10, 11] (by decide) rfl
    have hFc := va_free (wc := [kx_2 q_t q_row q_joined q_from q_to q_size q_lossOf q_lessBy q_value q_number nodes here, kx_a q_size cyI 319 fs, kx_a q_lossOf cyI 319 fo, kx_a q_value cyI 1914 uv, kx_a q_number cyI 1914 un, kx_3 q_joined j_v j_n o_13 o_14 0, kx_a j_v cyI 12 o_15, kx_a j_n cyI 12 o_16]) hD hS hA [4, 5, 6, 7, 8, 9, 10, 11] rfl
    refine va_callv (va_runV (As := [.ref q_joined, .int r_17]) (rest := []) ⟨hx, hb, hml, hown, hts⟩ (c_X2_joinNode_x l dC dI q_t q_row q_joined q_from q_to q_size q_lossOf q_lessBy q_value q_number nodes here q_joined j_v j_n cyI o_13 o_14 0 o_15 o_16 fs fo uv un (fun w => mj_z w + mua w) mub r_17 H.size (by omega) (by omega) (by omega) (by have h1 := w_12.2.2.2; rw [q_56] at h1; have h2 := nA.2.2.2.1; omega) (by rw [q_67]; exact nB.2.2.1) (by rw [q_67]; exact nB.2.2.2.1) w_12.1 (by rw [q_67]; exact nB.2.2.2.2.2.2.2.1) (fun v => by have h1 := lA v; have h2 := lB v; show (0 : Int) + _ + _ ≤ _; omega)) (cwV 2 hts gX2_putTogether_X2_joinNode rfl rfl rfl (by decide +kernel) ⟨Nat.le_of_ble_eq_true rfl, Nat.le_of_ble_eq_true rfl⟩) ⟨fun a U g mk q => by obtain ⟨q0, q1, qP, qK, qD⟩ := q; exact ⟨q0, q1, qP, va_K.moved (u := U) (U := U.calling g mk a) (Vm.Alike.refl U.vm) qK, qD⟩, va_recv hKc hPc (ci := 2) (q0 := 0) rfl rfl, fun U hU hW => ⟨rfl, by rw [hU], by rw [hU]; exact hPc, va_K.moved hW.alike hKc, hDc.weaken (fun _ _ _ _ => trivial)⟩⟩ rfl rfl hl.1 rfl (lv_room (Nat.le_of_ble_eq_true rfl)) dX2_putTogether_70 ⟨Nat.le_of_ble_eq_true rfl, Nat.le_of_ble_eq_true rfl⟩) hS (fun q _ h => hFc q h) hFc (fun u t H1 locs ht hvm w_19 hB hz1 hk1 hS => ?_)
    obtain ⟨o_20, o_21, o_22, o_23⟩ := u
    dsimp only at w_19 hB
    obtain ⟨hP1, hK1, hD1⟩ := hB
    rw [ht] at hP1
    have hK1 := va_K.moved hvm.symm hK1
    obtain ⟨hP, hD⟩ := va_join (wr := [kx_0 q_row q_cell len, kx_a q_cell cyI 160 f, kx_a q_from cyI 319 ff, kx_a q_to cyI 319 ft]) (w1 := [kx_2 q_t q_row q_joined q_from q_to q_size q_lossOf q_lessBy q_value q_number nodes here, kx_a q_size cyI 319 fs, kx_a q_lossOf cyI 319 fo, kx_a q_value cyI 1914 uv, kx_a q_number cyI 1914 un, kx_3 q_joined j_v j_n o_20 o_21 0, kx_a j_v cyI 12 o_22, kx_a j_n cyI 12 o_23]) hP hD [4, 5, 6, 7, 8, 9, 10, 11] [0, 1, 2, 3] rfl rfl (by decide) (by decide) hk1 hFc hP1 hD1
    clear hP1 hD1 hK1 hk1 hz1 hFc hDc hPc hKc
    generalize H1 = H at hP hS ⊢
    have hP : va_P (dC, dI) vwCl [kx_0 q_row q_cell len, kx_a q_cell cyI 160 f, kx_a q_from cyI 319 ff, kx_a q_to cyI 319 ft, kx_2 q_t q_row q_joined q_from q_to q_size q_lossOf q_lessBy q_value q_number nodes here, kx_a q_size cyI 319 fs, kx_a q_lossOf cyI 319 fo, kx_a q_value cyI 1914 uv, kx_a q_number cyI 1914 un, kx_3 q_joined j_v j_n o_20 o_21 0, kx_a j_v cyI 12 o_22, kx_a j_n cyI 12 o_23] H := hP
    have hD : va_D A [kx_0 q_row q_cell len, kx_a q_cell cyI 160 f, kx_a q_from cyI 319 ff, kx_a q_to cyI 319 ft, kx_2 q_t q_row q_joined q_from q_to q_size q_lossOf q_lessBy q_value q_number nodes here, kx_a q_size cyI 319 fs, kx_a q_lossOf cyI 319 fo, kx_a q_value cyI 1914 uv, kx_a q_number cyI 1914 un, kx_3 q_joined j_v j_n o_20 o_21 0, kx_a j_v cyI 12 o_22, kx_a j_n cyI 12 o_23] := hD
    have w_19 : mj_vs o_22 o_23 0 o_20.toNatClampNeg (fun w => (fun w => mj_z w + mua w) w + mub w) ∧ o_21 = o_14 + fo r_17.toNatClampNeg ∧ 0 ≤ o_20.toInt ∧ o_20.toInt ≤ o_13.toInt + (fs r_17.toNatClampNeg).toInt := w_19
    refine lv_aload_n hx hb dX2_putTogether_73 rfl (lv_at hl 0 rfl) ?_
    refine va_get (D := (dC, dI)) (ci := 2) (v := .ref q_joined) (C := RX2) (T := TX2) (N := 11) hx hb hts hi_2 hown hK hP 4 rfl rfl 1 (by decide) hf_12 (fun _ h9 => h9) rfl dX2_putTogether_74 ?_
    refine lv_aload_n hx hb dX2_putTogether_77 rfl (lv_at hl 0 rfl) ?_
    refine va_get (D := (dC, dI)) (ci := 2) (v := .int here) (C := RX2) (T := TX2) (N := 11) hx hb hts hi_2 hown hK hP 4 rfl rfl 10 (by decide) hf_85 (fun _ h9 => h9) rfl dX2_putTogether_78 ?_
    have hPc := hP.sub (ws' := [kx_3 q_joined j_v j_n o_20 o_21 0, kx_a j_v cyI 12 o_22, kx_a j_n cyI 12 o_23]) [9, 10, 11] rfl
    have hKc := hK
    have hDc := hD.sub (ws' := [kx_3 q_joined j_v j_n o_20 o_21 0, kx_a j_v cyI 12 o_22, kx_a j_n cyI 12 o_23]) [9, 10, 11] (by decide) rfl
    have hFc := va_free (wc := [kx_3 q_joined j_v j_n o_20 o_21 0, kx_a j_v cyI 12 o_22, kx_a j_n cyI 12 o_23]) hD hS hA [9, 10, 11] rfl
    refine va_callv (va_runV (As := [.int here]) (rest := []) ⟨hx, hb, hml, hown, hts⟩ (c_X3_cancel_x l dC dI q_joined j_v j_n cyI o_20 o_21 0 o_22 o_23 (fun w => (fun w => mj_z w + mua w) w + mub w) here H.size (by omega) (by have h1 := w_12.2.2.2; rw [q_56] at h1; have h2 := nA.2.2.2.1; have h3 := w_19.2.2.2; rw [q_67] at h3; have h4 := nB.2.2.2.1; omega) (by omega) (by omega) w_19.1 (fun v => by have h1 := lA v; have h2 := lB v; show (0 : Int) + _ + _ ≤ _; omega)) (cwV 1 hts gX2_putTogether_X3_cancel rfl rfl rfl (by decide +kernel) ⟨Nat.le_of_ble_eq_true rfl, Nat.le_of_ble_eq_true rfl⟩) ⟨fun a U g mk q => by obtain ⟨q0, q1, qP, qK, qD⟩ := q; exact ⟨q0, q1, qP, va_K.moved (u := U) (U := U.calling g mk a) (Vm.Alike.refl U.vm) qK, qD⟩, va_recv hKc hPc (ci := 3) (q0 := 0) rfl rfl, fun U hU hW => ⟨rfl, by rw [hU], by rw [hU]; exact hPc, va_K.moved hW.alike hKc, hDc.weaken (fun _ _ _ _ => trivial)⟩⟩ rfl rfl hl.1 rfl (lv_room (Nat.le_of_ble_eq_true rfl)) dX2_putTogether_81 ⟨Nat.le_of_ble_eq_true rfl, Nat.le_of_ble_eq_true rfl⟩) hS (fun q _ h => hFc q h) hFc (fun u t H1 locs ht hvm w_24 hB hz1 hk1 hS => ?_)
    obtain ⟨o_25, o_26, o_27, o_28, o_29, o_30⟩ := u
    dsimp only at w_24 hB
    obtain ⟨hP1, hK1, hD1⟩ := hB
    rw [ht] at hP1
    have hK1 := va_K.moved hvm.symm hK1
    obtain ⟨hP, hD⟩ := va_join (wr := [kx_0 q_row q_cell len, kx_a q_cell cyI 160 f, kx_a q_from cyI 319 ff, kx_a q_to cyI 319 ft, kx_2 q_t q_row q_joined q_from q_to q_size q_lossOf q_lessBy q_value q_number nodes here, kx_a q_size cyI 319 fs, kx_a q_lossOf cyI 319 fo, kx_a q_value cyI 1914 uv, kx_a q_number cyI 1914 un]) (w1 := [kx_3 q_joined j_v j_n o_25 o_26 o_27, kx_a j_v cyI 12 o_28, kx_a j_n cyI 12 o_29]) hP hD [9, 10, 11] [0, 1, 2, 3, 4, 5, 6, 7, 8] rfl rfl (by decide) (by decide) hk1 hFc hP1 hD1
    clear hP1 hD1 hK1 hk1 hz1 hFc hDc hPc hKc
    generalize H1 = H at hP hS ⊢
    have hP : va_P (dC, dI) vwCl [kx_0 q_row q_cell len, kx_a q_cell cyI 160 f, kx_a q_from cyI 319 ff, kx_a q_to cyI 319 ft, kx_2 q_t q_row q_joined q_from q_to q_size q_lossOf q_lessBy q_value q_number nodes here, kx_a q_size cyI 319 fs, kx_a q_lossOf cyI 319 fo, kx_a q_value cyI 1914 uv, kx_a q_number cyI 1914 un, kx_3 q_joined j_v j_n o_25 o_26 o_27, kx_a j_v cyI 12 o_28, kx_a j_n cyI 12 o_29] H := hP
    have hD : va_D A [kx_0 q_row q_cell len, kx_a q_cell cyI 160 f, kx_a q_from cyI 319 ff, kx_a q_to cyI 319 ft, kx_2 q_t q_row q_joined q_from q_to q_size q_lossOf q_lessBy q_value q_number nodes here, kx_a q_size cyI 319 fs, kx_a q_lossOf cyI 319 fo, kx_a q_value cyI 1914 uv, kx_a q_number cyI 1914 un, kx_3 q_joined j_v j_n o_25 o_26 o_27, kx_a j_v cyI 12 o_28, kx_a j_n cyI 12 o_29] := hD
    have w_24 : mj_can here.toNatClampNeg (fun w => (fun w => mj_z w + mua w) w + mub w) o_30 o_27 ∧ o_26 = o_21 + o_27 ∧ 0 ≤ o_25.toInt ∧ o_25.toInt ≤ here.toInt ∧ mj_vs o_28 o_29 0 o_25.toNatClampNeg o_30 ∧ mj_srt o_28 o_29 0 o_25.toNatClampNeg ∧ 0 ≤ o_27.toInt := w_24
    have hP9 := hP.sub (ws' := [kx_2 q_t q_row q_joined q_from q_to q_size q_lossOf q_lessBy q_value q_number nodes here, kx_0 q_row q_cell len, kx_a q_cell cyI 160 f, kx_a q_from cyI 319 ff, kx_a q_to cyI 319 ft, kx_a q_size cyI 319 fs, kx_a q_lossOf cyI 319 fo, kx_a q_value cyI 1914 uv, kx_a q_number cyI 1914 un, kx_3 q_joined j_v j_n o_25 o_26 o_27, kx_a j_v cyI 12 o_28, kx_a j_n cyI 12 o_29]) [4, 0, 1, 2, 3, 5, 6, 7, 8, 9, 10, 11] rfl
    have hD9 := hD.sub (ws' := [kx_2 q_t q_row q_joined q_from q_to q_size q_lossOf q_lessBy q_value q_number nodes here, kx_0 q_row q_cell len, kx_a q_cell cyI 160 f, kx_a q_from cyI 319 ff, kx_a q_to cyI 319 ft, kx_a q_size cyI 319 fs, kx_a q_lossOf cyI 319 fo, kx_a q_value cyI 1914 uv, kx_a q_number cyI 1914 un, kx_3 q_joined j_v j_n o_25 o_26 o_27, kx_a j_v cyI 12 o_28, kx_a j_n cyI 12 o_29]) [4, 0, 1, 2, 3, 5, 6, 7, 8, 9, 10, 11] (by decide) rfl
    have hK9 := hK
    exact W.vret hx hb hr (fun t ht hW => ⟨⟨(o_25, o_26, o_27, o_28, o_29, o_30), rfl, ⟨Or.inr ⟨hc0, d, mua, La, ca, mub, Lb, cb, tA, tB, mj_can_tog w_24.1 (fun v => by show (0 : Int) + _ + _ = _; omega), (by (try dsimp only); rw [w_24.2.1, w_19.2.1, w_12.2.1, q_56, q_67, nA.2.2.2.2.2.1, nB.2.2.2.2.2.1, Int32.zero_add])⟩, w_24.2.2.2.2.1, w_24.2.2.2.2.2.1, (by (try dsimp only); omega), (by (try dsimp only); omega)⟩, by rw [ht]; exact hP9, va_K.moved hW.alike hK9, hD9⟩, hS.F ht⟩) hS.2.2 dX2_putTogether_84
  · have i_9 : y_8.toInt = 1 := kc_eq c_9
    refine lv_aload_n hx hb dX2_putTogether_24 rfl (lv_at hl 0 rfl) ?_
    refine va_get (D := (dC, dI)) (ci := 2) (v := .ref q_joined) (C := RX2) (T := TX2) (N := 11) hx hb hts hi_2 hown hK hP 0 rfl rfl 1 (by decide) hf_12 (fun _ h9 => h9) rfl dX2_putTogether_25 ?_
    refine lv_aload_n hx hb dX2_putTogether_28 rfl (lv_at hl 0 rfl) ?_
    refine va_get (D := (dC, dI)) (ci := 2) (v := .ref q_row) (C := RX2) (T := TX2) (N := 11) hx hb hts hi_2 hown hK hP 0 rfl rfl 0 (by decide) hf_40 (fun _ h9 => h9) rfl dX2_putTogether_29 ?_
    refine va_get (D := (dC, dI)) (ci := 0) (v := .ref q_cell) (C := RX0) (T := TX0) (N := 2) hx hb hts hi_0 hown hK hP 1 rfl rfl 0 (by decide) hf_74 (fun _ h9 => h9) rfl dX2_putTogether_32 ?_
    refine lv_aload_n hx hb dX2_putTogether_35 rfl (lv_at hl 0 rfl) ?_
    refine va_get (D := (dC, dI)) (ci := 2) (v := .ref q_from) (C := RX2) (T := TX2) (N := 11) hx hb hts hi_2 hown hK hP 0 rfl rfl 2 (by decide) hf_18 (fun _ h9 => h9) rfl dX2_putTogether_36 ?_
    refine lv_iload_n hx hb dX2_putTogether_39 rfl (lv_at hl 1 rfl) ?_
    refine va_iald hx hb hK hP 3 0 rfl rfl (ki_in (om_8 b0) (om_87 b1 c0)) dX2_putTogether_40 ?_
    refine lv_topi (fun y_31 ey_31 => ?_)
    have j_31 : y_31.toInt = (ff p0.toNatClampNeg).toInt := congrArg Int32.toInt ey_31
    have n_32 : (p0.toNatClampNeg : Int) = p0.toInt := ki_nat _ rfl (om_8 b0)
    have i_33 := t0 p0.toNatClampNeg (by omega)
    unfold okAt at i_33
    refine va_iald hx hb hK hP 2 0 rfl rfl (ki_in (by omega) (by omega)) dX2_putTogether_41 ?_
    refine lv_topi (fun y_34 ey_34 => ?_)
    have j_34 : y_34.toInt = (f y_31.toNatClampNeg).toInt := congrArg Int32.toInt ey_34
    refine lv_iconst (v := 1) hx hb dX2_putTogether_42 (by decide) ?_
    have hPc := hP.sub (ws' := [kx_3 q_joined j_v j_n 0 0 0, kx_a j_v cyI 12 jv, kx_a j_n cyI 12 jn]) [11, 9, 10] rfl
    have hKc := hK
    have k_35 : (1 : Int32).toInt = 1 := rfl
    have hDc := hD.sub (ws' := [kx_3 q_joined j_v j_n 0 0 0, kx_a j_v cyI 12 jv, kx_a j_n cyI 12 jn]) [11, 9, 10] (by decide) rfl
    have hFc := va_free (wc := [kx_3 q_joined j_v j_n 0 0 0, kx_a j_v cyI 12 jv, kx_a j_n cyI 12 jn]) hD hS hA [11, 9, 10] rfl
    refine va_callv (va_runV (As := [.int y_34, .int 1]) (rest := []) ⟨hx, hb, hml, hown, hts⟩ (c_X3_add_x l dC dI q_joined j_v j_n cyI 0 0 0 jv jn y_34 1 H.size om_32 om_331) (cwV 2 hts gX2_putTogether_X3_add rfl rfl rfl (by decide +kernel) ⟨Nat.le_of_ble_eq_true rfl, Nat.le_of_ble_eq_true rfl⟩) ⟨fun a U g mk q => by obtain ⟨q0, q1, qP, qK, qD⟩ := q; exact ⟨q0, q1, qP, va_K.moved (u := U) (U := U.calling g mk a) (Vm.Alike.refl U.vm) qK, qD⟩, va_recv hKc hPc (ci := 3) (q0 := 0) rfl rfl, fun U hU hW => ⟨rfl, by rw [hU], by rw [hU]; exact hPc, va_K.moved hW.alike hKc, hDc.weaken (fun _ _ _ _ => trivial)⟩⟩ rfl rfl hl.1 rfl (lv_room (Nat.le_of_ble_eq_true rfl)) dX2_putTogether_43 ⟨Nat.le_of_ble_eq_true rfl, Nat.le_of_ble_eq_true rfl⟩) hS (fun q _ h => hFc q h) hFc (fun u t H1 locs ht hvm w_36 hB hz1 hk1 hS => ?_)
    obtain ⟨o_37, o_38, o_39⟩ := u
    dsimp only at w_36 hB
    obtain ⟨hP1, hK1, hD1⟩ := hB
    rw [ht] at hP1
    have hK1 := va_K.moved hvm.symm hK1
    obtain ⟨hP, hD⟩ := va_join (wr := [kx_2 q_t q_row q_joined q_from q_to q_size q_lossOf q_lessBy q_value q_number nodes here, kx_0 q_row q_cell len, kx_a q_cell cyI 160 f, kx_a q_from cyI 319 ff, kx_a q_to cyI 319 ft, kx_a q_size cyI 319 fs, kx_a q_lossOf cyI 319 fo, kx_a q_value cyI 1914 uv, kx_a q_number cyI 1914 un]) (w1 := [kx_3 q_joined j_v j_n o_37 0 0, kx_a j_v cyI 12 o_38, kx_a j_n cyI 12 o_39]) hP hD [11, 9, 10] [0, 1, 2, 3, 4, 5, 6, 7, 8] rfl rfl (by decide) (by decide) hk1 hFc hP1 hD1
    clear hP1 hD1 hK1 hk1 hz1 hFc hDc hPc hKc
    generalize H1 = H at hP hS ⊢
    have hP : va_P (dC, dI) vwCl [kx_2 q_t q_row q_joined q_from q_to q_size q_lossOf q_lessBy q_value q_number nodes here, kx_0 q_row q_cell len, kx_a q_cell cyI 160 f, kx_a q_from cyI 319 ff, kx_a q_to cyI 319 ft, kx_a q_size cyI 319 fs, kx_a q_lossOf cyI 319 fo, kx_a q_value cyI 1914 uv, kx_a q_number cyI 1914 un, kx_3 q_joined j_v j_n o_37 0 0, kx_a j_v cyI 12 o_38, kx_a j_n cyI 12 o_39] H := hP
    have hD : va_D A [kx_2 q_t q_row q_joined q_from q_to q_size q_lossOf q_lessBy q_value q_number nodes here, kx_0 q_row q_cell len, kx_a q_cell cyI 160 f, kx_a q_from cyI 319 ff, kx_a q_to cyI 319 ft, kx_a q_size cyI 319 fs, kx_a q_lossOf cyI 319 fo, kx_a q_value cyI 1914 uv, kx_a q_number cyI 1914 un, kx_3 q_joined j_v j_n o_37 0 0, kx_a j_v cyI 12 o_38, kx_a j_n cyI 12 o_39] := hD
    have w_36 : mj_addR jv jn (0 : Int32).toNatClampNeg y_34 1 o_38 o_39 o_37.toNatClampNeg ∧ 0 ≤ o_37.toInt ∧ o_37.toInt ≤ 0 + 1 := w_36
    refine lv_goto (tgt := 84) hx hb dX2_putTogether_46 (by decide) ?_
    have hP9 := hP
    have hD9 := hD
    have hK9 := hK
    have q_v : y_34 = f (ff p0.toNatClampNeg).toNatClampNeg := by rw [ey_34, ey_31]
    have h_v := mj_vs_add (mj_vs_zero jv jn 0) (show 0 < (1 : Int32).toInt by decide) (show (0 : Int) + (1 : Int32).toInt ≤ 2147483647 by decide) w_36.1
    rw [q_v] at h_v
    have n_40 := ki_nat o_37 rfl (om_8 w_36.2.1)
    exact W.vret hx hb hr (fun t ht hW => ⟨⟨(o_37, 0, 0, o_38, o_39, (mj_one (f (ff p0.toNatClampNeg).toNatClampNeg))), rfl, ⟨Or.inl ⟨(by (try dsimp only); omega), rfl, rfl, rfl⟩, mj_vs_congr h_v (fun w => Int.zero_add _), mj_srt_1 _ _ (by (try dsimp only); omega), (by (try dsimp only); omega), (by (try dsimp only); omega)⟩, by rw [ht]; exact hP9, va_K.moved hW.alike hK9, hD9⟩, hS.F ht⟩) hS.2.2 dX2_putTogether_84

set_option maxHeartbeats 4000000 in
set_option maxRecDepth 100000 in
theorem c_X2_keepJoined_x (l : Launch) (dC : Nat → ClassId) (dI : Nat → Nat → Nat) (q_t : Nat) (q_row : Nat) (q_joined : Nat) (q_from : Nat) (q_to : Nat) (q_size : Nat) (q_lossOf : Nat) (q_lessBy : Nat) (q_value : Nat) (q_number : Nat) (nodes : Int32) (here : Int32) (cyI : ClassId) (fs : Nat → Int32) (fo : Nat → Int32) (uv : Nat → Int32) (un : Nat → Int32) (fe : Nat → Int32) (j_v : Nat) (j_n : Nat) (js : Int32) (jl : Int32) (je : Int32) (jv : Nat → Int32) (jn : Nat → Int32) (p0 : Int32) (sz : Nat) (b0 : 0 ≤ p0.toInt) (b1 : p0.toInt < 319) (j0 : 0 ≤ js.toInt) (j1 : js.toInt ≤ 6) : Met l yX2_keepJoined wsX2_keepJoined ({ frames := 1, cells := 0, slots := 0, locals := 45 }) (va_Pc [.ref q_t, .int p0] (fun U => U.heap.size = sz ∧ va_P (dC, dI) vwCl [kx_2 q_t q_row q_joined q_from q_to q_size q_lossOf q_lessBy q_value q_number nodes here, kx_a q_size cyI 319 fs, kx_a q_lossOf cyI 319 fo, kx_a q_lessBy cyI 319 fe, kx_a q_value cyI 1914 uv, kx_a q_number cyI 1914 un, kx_3 q_joined j_v j_n js jl je, kx_a j_v cyI 12 jv, kx_a j_n cyI 12 jn] U.heap ∧ va_K (dC, dI) vwCl [(cyI, .int)] U ∧ va_D (fun _ => True) [kx_2 q_t q_row q_joined q_from q_to q_size q_lossOf q_lessBy q_value q_number nodes here, kx_a q_size cyI 319 fs, kx_a q_lossOf cyI 319 fo, kx_a q_lessBy cyI 319 fe, kx_a q_value cyI 1914 uv, kx_a q_number cyI 1914 un, kx_3 q_joined j_v j_n js jl je, kx_a j_v cyI 12 jv, kx_a j_n cyI 12 jn])) (va_Qv (fun u : (Nat → Int32) × (Nat → Int32) × (Nat → Int32) × (Nat → Int32) × (Nat → Int32) => u.1 = upd fs p0.toNatClampNeg js ∧ u.2.1 = upd fo p0.toNatClampNeg jl ∧ u.2.2.1 = upd fe p0.toNatClampNeg je ∧ mj_kp jv jn uv un u.2.2.2.1 u.2.2.2.2 p0.toNatClampNeg js.toNatClampNeg) (fun (u : (Nat → Int32) × (Nat → Int32) × (Nat → Int32) × (Nat → Int32) × (Nat → Int32)) (t : State) => va_P (dC, dI) vwCl [kx_2 q_t q_row q_joined q_from q_to q_size q_lossOf q_lessBy q_value q_number nodes here, kx_a q_size cyI 319 u.1, kx_a q_lossOf cyI 319 u.2.1, kx_a q_lessBy cyI 319 u.2.2.1, kx_a q_value cyI 1914 u.2.2.2.1, kx_a q_number cyI 1914 u.2.2.2.2, kx_3 q_joined j_v j_n js jl je, kx_a j_v cyI 12 jv, kx_a j_n cyI 12 jn] t.heap ∧ va_K (dC, dI) vwCl [(cyI, .int)] t ∧ va_D (va_A [kx_2 q_t q_row q_joined q_from q_to q_size q_lossOf q_lessBy q_value q_number nodes here, kx_a q_size cyI 319 fs, kx_a q_lossOf cyI 319 fo, kx_a q_lessBy cyI 319 fe, kx_a q_value cyI 1914 uv, kx_a q_number cyI 1914 un, kx_3 q_joined j_v j_n js jl je, kx_a j_v cyI 12 jv, kx_a j_n cyI 12 jn] sz) [kx_2 q_t q_row q_joined q_from q_to q_size q_lossOf q_lessBy q_value q_number nodes here, kx_a q_size cyI 319 u.1, kx_a q_lossOf cyI 319 u.2.1, kx_a q_lessBy cyI 319 u.2.2.1, kx_a q_value cyI 1914 u.2.2.2.1, kx_a q_number cyI 1914 u.2.2.2.2, kx_3 q_joined j_v j_n js jl je, kx_a j_v cyI 12 jv, kx_a j_n cyI 12 jn]) (va_A [kx_2 q_t q_row q_joined q_from q_to q_size q_lossOf q_lessBy q_value q_number nodes here, kx_a q_size cyI 319 fs, kx_a q_lossOf cyI 319 fo, kx_a q_lessBy cyI 319 fe, kx_a q_value cyI 1914 uv, kx_a q_number cyI 1914 un, kx_3 q_joined j_v j_n js jl je, kx_a j_v cyI 12 jv, kx_a j_n cyI 12 jn] sz)) 0 0 (va_A [kx_2 q_t q_row q_joined q_from q_to q_size q_lossOf q_lessBy q_value q_number nodes here, kx_a q_size cyI 319 fs, kx_a q_lossOf cyI 319 fo, kx_a q_lessBy cyI 319 fe, kx_a q_value cyI 1914 uv, kx_a q_number cyI 1914 un, kx_3 q_joined j_v j_n js jl je, kx_a j_v cyI 12 jv, kx_a j_n cyI 12 jn] sz) := by
  refine Met.ofW (cc := cX2_keepJoined) (maxL := 4) (ret := none) (by decide) rfl ?_
  intro p e s m args below meth c s₁ B hml hv
  obtain ⟨rfl, hsz, hP, hK, hD0⟩ := hv
  have hx := B.exec
  have hb := B.bytes
  have hr := B.returns
  have hts := atoms_spec (ws := wsX2_keepJoined) B.pre
  have hown : s.vm.findClass RX2 = some m.cls := findClass_of_methodNamed B.named
  have hlocks := B.notSynchronized
  subst hsz
  have hD := hD0.self (sz := s.heap.size)
  generalize hAe : va_A [kx_2 q_t q_row q_joined q_from q_to q_size q_lossOf q_lessBy q_value q_number nodes here, kx_a q_size cyI 319 fs, kx_a q_lossOf cyI 319 fo, kx_a q_lessBy cyI 319 fe, kx_a q_value cyI 1914 uv, kx_a q_number cyI 1914 un, kx_3 q_joined j_v j_n js jl je, kx_a j_v cyI 12 jv, kx_a j_n cyI 12 jn] s.heap.size = A at hD ⊢
  have hA : ∀ q : Nat, s.heap.size ≤ q → A q := fun q h => by rw [← hAe]; exact Or.inr h
  have hS : va_S A s.heap s.heap [] := va_S.rf
  have hP : va_P (dC, dI) vwCl [kx_2 q_t q_row q_joined q_from q_to q_size q_lossOf q_lessBy q_value q_number nodes here, kx_a q_size cyI 319 fs, kx_a q_lossOf cyI 319 fo, kx_a q_lessBy cyI 319 fe, kx_a q_value cyI 1914 uv, kx_a q_number cyI 1914 un, kx_3 q_joined j_v j_n js jl je, kx_a j_v cyI 12 jv, kx_a j_n cyI 12 jn] s.heap := hP
  have hl := lv_entry ([.ref q_t, .int p0]) (n := 4) (Nat.le_of_ble_eq_true rfl)
  rw [lg_entry_eq]
  generalize (lg_sl ([.ref q_t, .int p0]) ++ List.replicate (4 - (lg_sl ([.ref q_t, .int p0])).length) Slot.unset).toArray = ls at hl ⊢
  have hl : lv_has ls 4 [(0, .ref q_t), (1, .int p0)] := hl
  have hf_12 := hts (.fieldLink RX2 12 "MajorityIndex$Tree" "joined" "LMajorityIndex$Votes;") (List.mem_of_getElem? (i := 1) rfl)
  have hi_2 : ∀ w ∈ u_ws RX2 TX2 11, w ∈ wsX2_keepJoined := fun w h => List.mem_cons_of_mem _ (List.mem_append_left _ (List.mem_append_right _ h))
  have hf_94 := hts (.fieldLink RX2 94 "MajorityIndex$Votes" "size" "I") (List.mem_of_getElem? (i := 2) rfl)
  have hi_3 : ∀ w ∈ u_ws RX3 TX3 5, w ∈ wsX2_keepJoined := fun w h => List.mem_cons_of_mem _ (List.mem_append_right _ h)
  have hf_25 := hts (.fieldLink RX2 25 "MajorityIndex$Tree" "size" "[I") (List.mem_of_getElem? (i := 7) rfl)
  have hm_98 := hts (.methodLink RX2 98 Lib.Math.min.name) (List.mem_of_getElem? (i := 8) rfl)
  have hms_min := hts (.static Lib.Math.min.name) (List.mem_of_getElem? (i := 9) rfl)
  have hz_math := hts (.initialized "java/lang/Math") (List.mem_of_getElem? (i := 10) rfl)
  have hmc_min := hts (.code Lib.Math.min.name Lib.Math.min.code 2 (some .int)) (List.mem_of_getElem? (i := 11) rfl)
  have hf_28 := hts (.fieldLink RX2 28 "MajorityIndex$Tree" "lossOf" "[I") (List.mem_of_getElem? (i := 12) rfl)
  have hf_91 := hts (.fieldLink RX2 91 "MajorityIndex$Votes" "lost" "I") (List.mem_of_getElem? (i := 13) rfl)
  have hf_31 := hts (.fieldLink RX2 31 "MajorityIndex$Tree" "lessBy" "[I") (List.mem_of_getElem? (i := 14) rfl)
  have hf_104 := hts (.fieldLink RX2 104 "MajorityIndex$Votes" "lessBy" "I") (List.mem_of_getElem? (i := 15) rfl)
  have hf_34 := hts (.fieldLink RX2 34 "MajorityIndex$Tree" "value" "[I") (List.mem_of_getElem? (i := 3) rfl)
  have hf_96 := hts (.fieldLink RX2 96 "MajorityIndex$Votes" "value" "[I") (List.mem_of_getElem? (i := 4) rfl)
  have hf_37 := hts (.fieldLink RX2 37 "MajorityIndex$Tree" "number" "[I") (List.mem_of_getElem? (i := 5) rfl)
  have hf_97 := hts (.fieldLink RX2 97 "MajorityIndex$Votes" "number" "[I") (List.mem_of_getElem? (i := 6) rfl)
  have n_p0 := ki_nat p0 rfl (om_8 b0)
  refine lv_iload_n hx hb dX2_keepJoined_0 rfl (lv_at hl 1 rfl) ?_
  refine lv_bipush (v := 6) hx hb dX2_keepJoined_1 (by decide) ?_
  refine lv_imul hx hb dX2_keepJoined_3 ?_
  refine lv_topi (fun y_1 ey_1 => ?_)
  have i_1 : y_1.toInt = p0.toInt * 6 := ki_mul ey_1 rfl rfl (om_76 b0) (om_77 b1)
  refine lv_istore_n (lv' := [(2, .int y_1), (0, .ref q_t), (1, .int p0)]) hx hb dX2_keepJoined_4 rfl hl (by decide) rfl (fun ls hl => ?_)
  refine lv_iconst (v := 0) hx hb dX2_keepJoined_5 (by decide) ?_
  refine lv_istore_n (lv' := [(3, .int 0), (2, .int y_1), (0, .ref q_t), (1, .int p0)]) hx hb dX2_keepJoined_6 rfl hl (by decide) rfl (fun ls hl => ?_)
  have LP1 : ∀ (n : Nat) (i : Int32) (wv : Nat → Int32) (wn : Nat → Int32), (0 ≤ i.toInt) → (i.toInt ≤ js.toInt) → (mj_kp jv jn uv un wv wn p0.toNatClampNeg i.toNatClampNeg) → (6 - i.toInt).toNat < n → ∀ (H : Heap) (locs : List Loc), va_P (dC, dI) vwCl [kx_2 q_t q_row q_joined q_from q_to q_size q_lossOf q_lessBy q_value q_number nodes here, kx_a q_size cyI 319 fs, kx_a q_lossOf cyI 319 fo, kx_a q_lessBy cyI 319 fe, kx_a q_value cyI 1914 wv, kx_a q_number cyI 1914 wn, kx_3 q_joined j_v j_n js jl je, kx_a j_v cyI 12 jv, kx_a j_n cyI 12 jn] H → va_D A [kx_2 q_t q_row q_joined q_from q_to q_size q_lossOf q_lessBy q_value q_number nodes here, kx_a q_size cyI 319 fs, kx_a q_lossOf cyI 319 fo, kx_a q_lessBy cyI 319 fe, kx_a q_value cyI 1914 wv, kx_a q_number cyI 1914 wn, kx_3 q_joined j_v j_n js jl je, kx_a j_v cyI 12 jv, kx_a j_n cyI 12 jn] → va_S A s.heap H locs → ∀ (ls : Array Slot), lv_has ls 4 [(3, .int i), (2, .int y_1), (0, .ref q_t), (1, .int p0)] → W p l e (headSpec wsX2_keepJoined ({ frames := 1, cells := 0, slots := 0, locals := 45 })).room s m ([.ref q_t, .int p0] : List Value).toArray below meth c H locs 0 0 (MQ below (va_Qv (fun u : (Nat → Int32) × (Nat → Int32) × (Nat → Int32) × (Nat → Int32) × (Nat → Int32) => u.1 = upd fs p0.toNatClampNeg js ∧ u.2.1 = upd fo p0.toNatClampNeg jl ∧ u.2.2.1 = upd fe p0.toNatClampNeg je ∧ mj_kp jv jn uv un u.2.2.2.1 u.2.2.2.2 p0.toNatClampNeg js.toNatClampNeg) (fun (u : (Nat → Int32) × (Nat → Int32) × (Nat → Int32) × (Nat → Int32) × (Nat → Int32)) (t : State) => va_P (dC, dI) vwCl [kx_2 q_t q_row q_joined q_from q_to q_size q_lossOf q_lessBy q_value q_number nodes here, kx_a q_size cyI 319 u.1, kx_a q_lossOf cyI 319 u.2.1, kx_a q_lessBy cyI 319 u.2.2.1, kx_a q_value cyI 1914 u.2.2.2.1, kx_a q_number cyI 1914 u.2.2.2.2, kx_3 q_joined j_v j_n js jl je, kx_a j_v cyI 12 jv, kx_a j_n cyI 12 jn] t.heap ∧ va_K (dC, dI) vwCl [(cyI, .int)] t ∧ va_D A [kx_2 q_t q_row q_joined q_from q_to q_size q_lossOf q_lessBy q_value q_number nodes here, kx_a q_size cyI 319 u.1, kx_a q_lossOf cyI 319 u.2.1, kx_a q_lessBy cyI 319 u.2.2.1, kx_a q_value cyI 1914 u.2.2.2.1, kx_a q_number cyI 1914 u.2.2.2.2, kx_3 q_joined j_v j_n js jl je, kx_a j_v cyI 12 jv, kx_a j_n cyI 12 jn]) A) ([.ref q_t, .int p0] : List Value).toArray s 0 0 A) (F0 m 7 ls []) := by
    intro n
    induction n with
    | zero => intro i wv wn LP1_h0 LP1_h1 LP1_h2 hn; exact absurd hn (Nat.not_lt_zero _)
    | succ n ih1 =>
      intro i wv wn LP1_h0 LP1_h1 LP1_h2 hn1 H locs hP hD hS ls hl
      have n_i := ki_nat i rfl (om_8 LP1_h0)
      refine lv_iload_n hx hb dX2_keepJoined_7 rfl (lv_at hl 0 rfl) ?_
      refine lv_aload_n hx hb dX2_keepJoined_8 rfl (lv_at hl 2 rfl) ?_
      refine va_get (D := (dC, dI)) (ci := 2) (v := .ref q_joined) (C := RX2) (T := TX2) (N := 11) hx hb hts hi_2 hown hK hP 0 rfl rfl 1 (by decide) hf_12 (fun _ h9 => h9) rfl dX2_keepJoined_9 ?_
      refine va_get (D := (dC, dI)) (ci := 3) (v := .int js) (C := RX3) (T := TX3) (N := 5) hx hb hts hi_3 hown hK hP 6 rfl rfl 2 (by decide) hf_94 (fun _ h9 => h9) rfl dX2_keepJoined_12 ?_
      refine lv_icmp_ge (tgt := 64) hx hb dX2_keepJoined_15 (by decide) (fun c_2 => ?_) (fun c_2 => ?_)
      · have i_2 : js.toInt ≤ i.toInt := kc_le c_2
        refine lv_aload_n hx hb dX2_keepJoined_64 rfl (lv_at hl 2 rfl) ?_
        refine va_get (D := (dC, dI)) (ci := 2) (v := .ref q_size) (C := RX2) (T := TX2) (N := 11) hx hb hts hi_2 hown hK hP 0 rfl rfl 4 (by decide) hf_25 (fun _ h9 => h9) rfl dX2_keepJoined_65 ?_
        refine lv_iload_n hx hb dX2_keepJoined_68 rfl (lv_at hl 3 rfl) ?_
        refine lv_aload_n hx hb dX2_keepJoined_69 rfl (lv_at hl 2 rfl) ?_
        refine va_get (D := (dC, dI)) (ci := 2) (v := .ref q_joined) (C := RX2) (T := TX2) (N := 11) hx hb hts hi_2 hown hK hP 0 rfl rfl 1 (by decide) hf_12 (fun _ h9 => h9) rfl dX2_keepJoined_70 ?_
        refine va_get (D := (dC, dI)) (ci := 3) (v := .int js) (C := RX3) (T := TX3) (N := 5) hx hb hts hi_3 hown hK hP 6 rfl rfl 2 (by decide) hf_94 (fun _ h9 => h9) rfl dX2_keepJoined_73 ?_
        refine lv_bipush (v := 6) hx hb dX2_keepJoined_76 (by decide) ?_
        refine va_mmin hx hb (hml.trans hl.1.symm) hown hm_98 hms_min hz_math hmc_min (Nat.le_of_ble_eq_true rfl) (Nat.le_of_ble_eq_true rfl) (Nat.le_of_ble_eq_true rfl) (Nat.le_of_ble_eq_true rfl) dX2_keepJoined_78 ?_
        refine lv_topi (fun y_3 ey_3 => ?_)
        have i_4 : (js.toInt ≤ 6 ∧ y_3.toInt = js.toInt) ∨ (6 < js.toInt ∧ y_3.toInt = 6) := ki_min ey_3 rfl rfl
        refine va_iast hx hb hK hP hD hS 1 0 rfl rfl (ki_in (om_8 b0) (om_54 b1)) dX2_keepJoined_81 (fun H locs hP hD hS => ?_)
        have hP : va_P (dC, dI) vwCl [kx_2 q_t q_row q_joined q_from q_to q_size q_lossOf q_lessBy q_value q_number nodes here, kx_a q_size cyI 319 (upd fs p0.toNatClampNeg y_3), kx_a q_lossOf cyI 319 fo, kx_a q_lessBy cyI 319 fe, kx_a q_value cyI 1914 wv, kx_a q_number cyI 1914 wn, kx_3 q_joined j_v j_n js jl je, kx_a j_v cyI 12 jv, kx_a j_n cyI 12 jn] H := hP
        have hD : va_D A [kx_2 q_t q_row q_joined q_from q_to q_size q_lossOf q_lessBy q_value q_number nodes here, kx_a q_size cyI 319 (upd fs p0.toNatClampNeg y_3), kx_a q_lossOf cyI 319 fo, kx_a q_lessBy cyI 319 fe, kx_a q_value cyI 1914 wv, kx_a q_number cyI 1914 wn, kx_3 q_joined j_v j_n js jl je, kx_a j_v cyI 12 jv, kx_a j_n cyI 12 jn] := hD
        refine lv_aload_n hx hb dX2_keepJoined_82 rfl (lv_at hl 2 rfl) ?_
        refine va_get (D := (dC, dI)) (ci := 2) (v := .ref q_lossOf) (C := RX2) (T := TX2) (N := 11) hx hb hts hi_2 hown hK hP 0 rfl rfl 5 (by decide) hf_28 (fun _ h9 => h9) rfl dX2_keepJoined_83 ?_
        refine lv_iload_n hx hb dX2_keepJoined_86 rfl (lv_at hl 3 rfl) ?_
        refine lv_aload_n hx hb dX2_keepJoined_87 rfl (lv_at hl 2 rfl) ?_
        refine va_get (D := (dC, dI)) (ci := 2) (v := .ref q_joined) (C := RX2) (T := TX2) (N := 11) hx hb hts hi_2 hown hK hP 0 rfl rfl 1 (by decide) hf_12 (fun _ h9 => h9) rfl dX2_keepJoined_88 ?_
        refine va_get (D := (dC, dI)) (ci := 3) (v := .int jl) (C := RX3) (T := TX3) (N := 5) hx hb hts hi_3 hown hK hP 6 rfl rfl 3 (by decide) hf_91 (fun _ h9 => h9) rfl dX2_keepJoined_91 ?_
        refine va_iast hx hb hK hP hD hS 2 0 rfl rfl (ki_in (om_8 b0) (om_54 b1)) dX2_keepJoined_94 (fun H locs hP hD hS => ?_)
        have hP : va_P (dC, dI) vwCl [kx_2 q_t q_row q_joined q_from q_to q_size q_lossOf q_lessBy q_value q_number nodes here, kx_a q_size cyI 319 (upd fs p0.toNatClampNeg y_3), kx_a q_lossOf cyI 319 (upd fo p0.toNatClampNeg jl), kx_a q_lessBy cyI 319 fe, kx_a q_value cyI 1914 wv, kx_a q_number cyI 1914 wn, kx_3 q_joined j_v j_n js jl je, kx_a j_v cyI 12 jv, kx_a j_n cyI 12 jn] H := hP
        have hD : va_D A [kx_2 q_t q_row q_joined q_from q_to q_size q_lossOf q_lessBy q_value q_number nodes here, kx_a q_size cyI 319 (upd fs p0.toNatClampNeg y_3), kx_a q_lossOf cyI 319 (upd fo p0.toNatClampNeg jl), kx_a q_lessBy cyI 319 fe, kx_a q_value cyI 1914 wv, kx_a q_number cyI 1914 wn, kx_3 q_joined j_v j_n js jl je, kx_a j_v cyI 12 jv, kx_a j_n cyI 12 jn] := hD
        refine lv_aload_n hx hb dX2_keepJoined_95 rfl (lv_at hl 2 rfl) ?_
        refine va_get (D := (dC, dI)) (ci := 2) (v := .ref q_lessBy) (C := RX2) (T := TX2) (N := 11) hx hb hts hi_2 hown hK hP 0 rfl rfl 6 (by decide) hf_31 (fun _ h9 => h9) rfl dX2_keepJoined_96 ?_
        refine lv_iload_n hx hb dX2_keepJoined_99 rfl (lv_at hl 3 rfl) ?_
        refine lv_aload_n hx hb dX2_keepJoined_100 rfl (lv_at hl 2 rfl) ?_
        refine va_get (D := (dC, dI)) (ci := 2) (v := .ref q_joined) (C := RX2) (T := TX2) (N := 11) hx hb hts hi_2 hown hK hP 0 rfl rfl 1 (by decide) hf_12 (fun _ h9 => h9) rfl dX2_keepJoined_101 ?_
        refine va_get (D := (dC, dI)) (ci := 3) (v := .int je) (C := RX3) (T := TX3) (N := 5) hx hb hts hi_3 hown hK hP 6 rfl rfl 4 (by decide) hf_104 (fun _ h9 => h9) rfl dX2_keepJoined_104 ?_
        refine va_iast hx hb hK hP hD hS 3 0 rfl rfl (ki_in (om_8 b0) (om_54 b1)) dX2_keepJoined_107 (fun H locs hP hD hS => ?_)
        have hP : va_P (dC, dI) vwCl [kx_2 q_t q_row q_joined q_from q_to q_size q_lossOf q_lessBy q_value q_number nodes here, kx_a q_size cyI 319 (upd fs p0.toNatClampNeg y_3), kx_a q_lossOf cyI 319 (upd fo p0.toNatClampNeg jl), kx_a q_lessBy cyI 319 (upd fe p0.toNatClampNeg je), kx_a q_value cyI 1914 wv, kx_a q_number cyI 1914 wn, kx_3 q_joined j_v j_n js jl je, kx_a j_v cyI 12 jv, kx_a j_n cyI 12 jn] H := hP
        have hD : va_D A [kx_2 q_t q_row q_joined q_from q_to q_size q_lossOf q_lessBy q_value q_number nodes here, kx_a q_size cyI 319 (upd fs p0.toNatClampNeg y_3), kx_a q_lossOf cyI 319 (upd fo p0.toNatClampNeg jl), kx_a q_lessBy cyI 319 (upd fe p0.toNatClampNeg je), kx_a q_value cyI 1914 wv, kx_a q_number cyI 1914 wn, kx_3 q_joined j_v j_n js jl je, kx_a j_v cyI 12 jv, kx_a j_n cyI 12 jn] := hD
        have hP9 := hP
        have hD9 := hD
        have hK9 := hK
        have n_js := ki_nat js rfl (om_8 j0)
        have q_y : y_3 = js := Int32.toInt_inj.mp (by omega)
        exact W.vret hx hb hr (fun t ht hW => ⟨⟨((upd fs p0.toNatClampNeg y_3), (upd fo p0.toNatClampNeg jl), (upd fe p0.toNatClampNeg je), wv, wn), rfl, ⟨(by (try dsimp only); rw [q_y]), rfl, rfl, (by (try dsimp only); rw [show js.toNatClampNeg = i.toNatClampNeg by omega]; exact LP1_h2)⟩, by rw [ht]; exact hP9, va_K.moved hW.alike hK9, hD9⟩, hS.F ht⟩) hS.2.2 dX2_keepJoined_108
      · have i_2 : i.toInt < js.toInt := kc_nle c_2
        refine lv_iload_n hx hb dX2_keepJoined_18 rfl (lv_at hl 0 rfl) ?_
        refine lv_bipush (v := 6) hx hb dX2_keepJoined_19 (by decide) ?_
        refine lv_icmp_ge (tgt := 64) hx hb dX2_keepJoined_21 (by decide) (fun c_5 => ?_) (fun c_5 => ?_)
        · have i_5 : 6 ≤ i.toInt := kc_le c_5
          exfalso; omega
        · have i_5 : i.toInt < 6 := kc_nle c_5
          refine lv_aload_n hx hb dX2_keepJoined_24 rfl (lv_at hl 2 rfl) ?_
          refine va_get (D := (dC, dI)) (ci := 2) (v := .ref q_value) (C := RX2) (T := TX2) (N := 11) hx hb hts hi_2 hown hK hP 0 rfl rfl 7 (by decide) hf_34 (fun _ h9 => h9) rfl dX2_keepJoined_25 ?_
          refine lv_iload_n hx hb dX2_keepJoined_28 rfl (lv_at hl 1 rfl) ?_
          refine lv_iload_n hx hb dX2_keepJoined_29 rfl (lv_at hl 0 rfl) ?_
          refine lv_iadd hx hb dX2_keepJoined_30 ?_
          refine lv_topi (fun y_6 ey_6 => ?_)
          have i_6 : y_6.toInt = y_1.toInt + i.toInt := ki_add ey_6 rfl rfl (om_78 b0 i_1 LP1_h0) (om_82 b1 i_1 i_5)
          refine lv_aload_n hx hb dX2_keepJoined_31 rfl (lv_at hl 2 rfl) ?_
          refine va_get (D := (dC, dI)) (ci := 2) (v := .ref q_joined) (C := RX2) (T := TX2) (N := 11) hx hb hts hi_2 hown hK hP 0 rfl rfl 1 (by decide) hf_12 (fun _ h9 => h9) rfl dX2_keepJoined_32 ?_
          refine va_get (D := (dC, dI)) (ci := 3) (v := .ref j_v) (C := RX3) (T := TX3) (N := 5) hx hb hts hi_3 hown hK hP 6 rfl rfl 0 (by decide) hf_96 (fun _ h9 => h9) rfl dX2_keepJoined_35 ?_
          refine lv_iload_n hx hb dX2_keepJoined_38 rfl (lv_at hl 0 rfl) ?_
          refine va_iald hx hb hK hP 7 0 rfl rfl (ki_in (om_8 LP1_h0) (om_84 i_5)) dX2_keepJoined_39 ?_
          refine lv_topi (fun y_7 ey_7 => ?_)
          have j_7 : y_7.toInt = (jv i.toNatClampNeg).toInt := congrArg Int32.toInt ey_7
          refine va_iast hx hb hK hP hD hS 4 0 rfl rfl (ki_in (om_79 b0 i_1 LP1_h0 i_6) (om_83 b1 i_1 i_5 i_6)) dX2_keepJoined_40 (fun H locs hP hD hS => ?_)
          have hP : va_P (dC, dI) vwCl [kx_2 q_t q_row q_joined q_from q_to q_size q_lossOf q_lessBy q_value q_number nodes here, kx_a q_size cyI 319 fs, kx_a q_lossOf cyI 319 fo, kx_a q_lessBy cyI 319 fe, kx_a q_value cyI 1914 (upd wv y_6.toNatClampNeg y_7), kx_a q_number cyI 1914 wn, kx_3 q_joined j_v j_n js jl je, kx_a j_v cyI 12 jv, kx_a j_n cyI 12 jn] H := hP
          have hD : va_D A [kx_2 q_t q_row q_joined q_from q_to q_size q_lossOf q_lessBy q_value q_number nodes here, kx_a q_size cyI 319 fs, kx_a q_lossOf cyI 319 fo, kx_a q_lessBy cyI 319 fe, kx_a q_value cyI 1914 (upd wv y_6.toNatClampNeg y_7), kx_a q_number cyI 1914 wn, kx_3 q_joined j_v j_n js jl je, kx_a j_v cyI 12 jv, kx_a j_n cyI 12 jn] := hD
          refine lv_aload_n hx hb dX2_keepJoined_41 rfl (lv_at hl 2 rfl) ?_
          refine va_get (D := (dC, dI)) (ci := 2) (v := .ref q_number) (C := RX2) (T := TX2) (N := 11) hx hb hts hi_2 hown hK hP 0 rfl rfl 8 (by decide) hf_37 (fun _ h9 => h9) rfl dX2_keepJoined_42 ?_
          refine lv_iload_n hx hb dX2_keepJoined_45 rfl (lv_at hl 1 rfl) ?_
          refine lv_iload_n hx hb dX2_keepJoined_46 rfl (lv_at hl 0 rfl) ?_
          refine lv_iadd hx hb dX2_keepJoined_47 ?_
          refine lv_topi (fun y_8 ey_8 => ?_)
          have i_8 : y_8.toInt = y_1.toInt + i.toInt := ki_add ey_8 rfl rfl (om_78 b0 i_1 LP1_h0) (om_82 b1 i_1 i_5)
          refine lv_aload_n hx hb dX2_keepJoined_48 rfl (lv_at hl 2 rfl) ?_
          refine va_get (D := (dC, dI)) (ci := 2) (v := .ref q_joined) (C := RX2) (T := TX2) (N := 11) hx hb hts hi_2 hown hK hP 0 rfl rfl 1 (by decide) hf_12 (fun _ h9 => h9) rfl dX2_keepJoined_49 ?_
          refine va_get (D := (dC, dI)) (ci := 3) (v := .ref j_n) (C := RX3) (T := TX3) (N := 5) hx hb hts hi_3 hown hK hP 6 rfl rfl 1 (by decide) hf_97 (fun _ h9 => h9) rfl dX2_keepJoined_52 ?_
          refine lv_iload_n hx hb dX2_keepJoined_55 rfl (lv_at hl 0 rfl) ?_
          refine va_iald hx hb hK hP 8 0 rfl rfl (ki_in (om_8 LP1_h0) (om_84 i_5)) dX2_keepJoined_56 ?_
          refine lv_topi (fun y_9 ey_9 => ?_)
          have j_9 : y_9.toInt = (jn i.toNatClampNeg).toInt := congrArg Int32.toInt ey_9
          refine va_iast hx hb hK hP hD hS 5 0 rfl rfl (ki_in (om_79 b0 i_1 LP1_h0 i_8) (om_83 b1 i_1 i_5 i_8)) dX2_keepJoined_57 (fun H locs hP hD hS => ?_)
          have hP : va_P (dC, dI) vwCl [kx_2 q_t q_row q_joined q_from q_to q_size q_lossOf q_lessBy q_value q_number nodes here, kx_a q_size cyI 319 fs, kx_a q_lossOf cyI 319 fo, kx_a q_lessBy cyI 319 fe, kx_a q_value cyI 1914 (upd wv y_6.toNatClampNeg y_7), kx_a q_number cyI 1914 (upd wn y_8.toNatClampNeg y_9), kx_3 q_joined j_v j_n js jl je, kx_a j_v cyI 12 jv, kx_a j_n cyI 12 jn] H := hP
          have hD : va_D A [kx_2 q_t q_row q_joined q_from q_to q_size q_lossOf q_lessBy q_value q_number nodes here, kx_a q_size cyI 319 fs, kx_a q_lossOf cyI 319 fo, kx_a q_lessBy cyI 319 fe, kx_a q_value cyI 1914 (upd wv y_6.toNatClampNeg y_7), kx_a q_number cyI 1914 (upd wn y_8.toNatClampNeg y_9), kx_3 q_joined j_v j_n js jl je, kx_a j_v cyI 12 jv, kx_a j_n cyI 12 jn] := hD
          obtain ⟨x_10, ex_10⟩ : ∃ y : Int32, y = i + 1 := ⟨_, rfl⟩
          have i_10 : x_10.toInt = i.toInt + 1 := ki_add ex_10 rfl rfl (om_10 LP1_h0) (om_85 i_5)
          refine lv_iinc (v := x_10) (lv' := [(3, .int x_10), (2, .int y_1), (0, .ref q_t), (1, .int p0)]) hx hb dX2_keepJoined_58 hl (k := 0) rfl (by rw [ex_10]; rfl) (by decide) rfl (fun ls hl => ?_)
          refine lv_goto (tgt := 7) hx hb dX2_keepJoined_61 (by decide) ?_
          have n_11 := ki_nat y_6 rfl (om_79 b0 i_1 LP1_h0 i_6)
          have n_12 := ki_nat y_8 rfl (om_79 b0 i_1 LP1_h0 i_8)
          have n_13 := ki_nat x_10 rfl (om_31 LP1_h0 i_10)
          exact ih1 x_10 (upd wv y_6.toNatClampNeg y_7) (upd wn y_8.toNatClampNeg y_9) (om_31 LP1_h0 i_10) (om_47 i_2 i_10) (mj_kp_step LP1_h2 (by omega) (by omega) (by omega) ey_7 ey_9 (by omega)) (om_mu hn1 (om_80 i_10) (om_86 i_5)) _ _ hP hD hS ls (lv_sub hl [0, 1, 2, 3] rfl)
  have k_14 : (0 : Int32).toInt = 0 := rfl
  exact LP1 ((6 - 0 : Int).toNat + 1) 0 uv un om_32 (om_8 j0) (mj_kp_0 _ _ _ _ _ rfl) (Nat.lt_succ_self _) _ _ hP hD hS ls (lv_sub hl [0, 1, 2, 3] rfl)

set_option maxHeartbeats 4000000 in
set_option maxRecDepth 100000 in
theorem c_X2_isJoined_x (l : Launch) (dC : Nat → ClassId) (dI : Nat → Nat → Nat) (q_t : Nat) (q_row : Nat) (q_joined : Nat) (q_from : Nat) (q_to : Nat) (q_size : Nat) (q_lossOf : Nat) (q_lessBy : Nat) (q_value : Nat) (q_number : Nat) (nodes : Int32) (here : Int32) (cyI : ClassId) (fs : Nat → Int32) (fo : Nat → Int32) (uv : Nat → Int32) (un : Nat → Int32) (j_v : Nat) (j_n : Nat) (js : Int32) (jl : Int32) (je : Int32) (jv : Nat → Int32) (jn : Nat → Int32) (p0 : Int32) (b0 : 0 ≤ p0.toInt) (b1 : p0.toInt < 319) (j0 : 0 ≤ js.toInt) (j1 : js.toInt ≤ 6) : Met l yX2_isJoined wsX2_isJoined ({ frames := 0, cells := 0, slots := 0, locals := 0 }) (va_Pc [.ref q_t, .int p0] (fun U => va_P (dC, dI) vwCl [kx_2 q_t q_row q_joined q_from q_to q_size q_lossOf q_lessBy q_value q_number nodes here, kx_a q_size cyI 319 fs, kx_a q_lossOf cyI 319 fo, kx_a q_value cyI 1914 uv, kx_a q_number cyI 1914 un, kx_3 q_joined j_v j_n js jl je, kx_a j_v cyI 12 jv, kx_a j_n cyI 12 jn] U.heap ∧ va_K (dC, dI) vwCl [(cyI, .int)] U)) (vp_Si (fun r : Int32 => (r = 1 ∧ mj_sj fs fo uv un p0.toNatClampNeg js jl jv jn) ∨ (r = 0 ∧ ¬ mj_sj fs fo uv un p0.toNatClampNeg js jl jv jn))) 0 0 (fun _ => False) := by
  refine Met.ofW (cc := cX2_isJoined) (maxL := 4) (ret := (some .boolean)) (by decide) rfl ?_
  intro p e s m args below meth c s₁ B hml hv
  obtain ⟨rfl, hP, hK⟩ := hv
  have hx := B.exec
  have hb := B.bytes
  have hr := B.returns
  have hts := atoms_spec (ws := wsX2_isJoined) B.pre
  have hown : s.vm.findClass RX2 = some m.cls := findClass_of_methodNamed B.named
  have hlocks := B.notSynchronized
  have hP : va_P (dC, dI) vwCl [kx_2 q_t q_row q_joined q_from q_to q_size q_lossOf q_lessBy q_value q_number nodes here, kx_a q_size cyI 319 fs, kx_a q_lossOf cyI 319 fo, kx_a q_value cyI 1914 uv, kx_a q_number cyI 1914 un, kx_3 q_joined j_v j_n js jl je, kx_a j_v cyI 12 jv, kx_a j_n cyI 12 jn] s.heap := hP
  have hl := lv_entry ([.ref q_t, .int p0]) (n := 4) (Nat.le_of_ble_eq_true rfl)
  rw [lg_entry_eq]
  generalize (lg_sl ([.ref q_t, .int p0]) ++ List.replicate (4 - (lg_sl ([.ref q_t, .int p0])).length) Slot.unset).toArray = ls at hl ⊢
  have hl : lv_has ls 4 [(0, .ref q_t), (1, .int p0)] := hl
  have hf_25 := hts (.fieldLink RX2 25 "MajorityIndex$Tree" "size" "[I") (List.mem_of_getElem? (i := 1) rfl)
  have hi_2 : ∀ w ∈ u_ws RX2 TX2 11, w ∈ wsX2_isJoined := fun w h => List.mem_cons_of_mem _ (List.mem_append_left _ (List.mem_append_right _ h))
  have hf_12 := hts (.fieldLink RX2 12 "MajorityIndex$Tree" "joined" "LMajorityIndex$Votes;") (List.mem_of_getElem? (i := 2) rfl)
  have hf_94 := hts (.fieldLink RX2 94 "MajorityIndex$Votes" "size" "I") (List.mem_of_getElem? (i := 3) rfl)
  have hi_3 : ∀ w ∈ u_ws RX3 TX3 5, w ∈ wsX2_isJoined := fun w h => List.mem_cons_of_mem _ (List.mem_append_right _ h)
  have hf_28 := hts (.fieldLink RX2 28 "MajorityIndex$Tree" "lossOf" "[I") (List.mem_of_getElem? (i := 4) rfl)
  have hf_91 := hts (.fieldLink RX2 91 "MajorityIndex$Votes" "lost" "I") (List.mem_of_getElem? (i := 5) rfl)
  have hf_34 := hts (.fieldLink RX2 34 "MajorityIndex$Tree" "value" "[I") (List.mem_of_getElem? (i := 6) rfl)
  have hf_96 := hts (.fieldLink RX2 96 "MajorityIndex$Votes" "value" "[I") (List.mem_of_getElem? (i := 7) rfl)
  have hf_37 := hts (.fieldLink RX2 37 "MajorityIndex$Tree" "number" "[I") (List.mem_of_getElem? (i := 8) rfl)
  have hf_97 := hts (.fieldLink RX2 97 "MajorityIndex$Votes" "number" "[I") (List.mem_of_getElem? (i := 9) rfl)
  have n_p0 := ki_nat p0 rfl (om_8 b0)
  refine lv_aload_n hx hb dX2_isJoined_0 rfl (lv_at hl 0 rfl) ?_
  refine va_get (D := (dC, dI)) (ci := 2) (v := .ref q_size) (C := RX2) (T := TX2) (N := 11) hx hb hts hi_2 hown hK hP 0 rfl rfl 4 (by decide) hf_25 (fun _ h9 => h9) rfl dX2_isJoined_1 ?_
  refine lv_iload_n hx hb dX2_isJoined_4 rfl (lv_at hl 1 rfl) ?_
  refine va_iald hx hb hK hP 1 0 rfl rfl (ki_in (om_8 b0) (om_54 b1)) dX2_isJoined_5 ?_
  refine lv_topi (fun y_1 ey_1 => ?_)
  have j_1 : y_1.toInt = (fs p0.toNatClampNeg).toInt := congrArg Int32.toInt ey_1
  refine lv_aload_n hx hb dX2_isJoined_6 rfl (lv_at hl 0 rfl) ?_
  refine va_get (D := (dC, dI)) (ci := 2) (v := .ref q_joined) (C := RX2) (T := TX2) (N := 11) hx hb hts hi_2 hown hK hP 0 rfl rfl 1 (by decide) hf_12 (fun _ h9 => h9) rfl dX2_isJoined_7 ?_
  refine va_get (D := (dC, dI)) (ci := 3) (v := .int js) (C := RX3) (T := TX3) (N := 5) hx hb hts hi_3 hown hK hP 5 rfl rfl 2 (by decide) hf_94 (fun _ h9 => h9) rfl dX2_isJoined_10 ?_
  refine lv_icmp_ne (tgt := 32) hx hb dX2_isJoined_13 (by decide) (fun c_2 => ?_) (fun c_2 => ?_)
  · have i_2 : ¬ y_1.toInt = js.toInt := kc_ne c_2
    refine lv_iconst (v := 0) hx hb dX2_isJoined_32 (by decide) ?_
    have n_js := ki_nat js rfl (om_8 j0)
    exact W.zret (v := 0) hx hb hr (by decide) (fun t ht hW => ⟨0, rfl, (Or.inr ⟨rfl, fun h => c_2 (ey_1.trans h.1)⟩), ht⟩) (fun q hq => by cases hq) dX2_isJoined_33
  · have i_2 : y_1.toInt = js.toInt := kc_eq c_2
    refine lv_aload_n hx hb dX2_isJoined_16 rfl (lv_at hl 0 rfl) ?_
    refine va_get (D := (dC, dI)) (ci := 2) (v := .ref q_lossOf) (C := RX2) (T := TX2) (N := 11) hx hb hts hi_2 hown hK hP 0 rfl rfl 5 (by decide) hf_28 (fun _ h9 => h9) rfl dX2_isJoined_17 ?_
    refine lv_iload_n hx hb dX2_isJoined_20 rfl (lv_at hl 1 rfl) ?_
    refine va_iald hx hb hK hP 2 0 rfl rfl (ki_in (om_8 b0) (om_54 b1)) dX2_isJoined_21 ?_
    refine lv_topi (fun y_3 ey_3 => ?_)
    have j_3 : y_3.toInt = (fo p0.toNatClampNeg).toInt := congrArg Int32.toInt ey_3
    refine lv_aload_n hx hb dX2_isJoined_22 rfl (lv_at hl 0 rfl) ?_
    refine va_get (D := (dC, dI)) (ci := 2) (v := .ref q_joined) (C := RX2) (T := TX2) (N := 11) hx hb hts hi_2 hown hK hP 0 rfl rfl 1 (by decide) hf_12 (fun _ h9 => h9) rfl dX2_isJoined_23 ?_
    refine va_get (D := (dC, dI)) (ci := 3) (v := .int jl) (C := RX3) (T := TX3) (N := 5) hx hb hts hi_3 hown hK hP 5 rfl rfl 3 (by decide) hf_91 (fun _ h9 => h9) rfl dX2_isJoined_26 ?_
    refine lv_icmp_eq (tgt := 34) hx hb dX2_isJoined_29 (by decide) (fun c_4 => ?_) (fun c_4 => ?_)
    · have i_4 : y_3.toInt = jl.toInt := kc_eq c_4
      refine lv_iload_n hx hb dX2_isJoined_34 rfl (lv_at hl 1 rfl) ?_
      refine lv_bipush (v := 6) hx hb dX2_isJoined_35 (by decide) ?_
      refine lv_imul hx hb dX2_isJoined_37 ?_
      refine lv_topi (fun y_5 ey_5 => ?_)
      have i_5 : y_5.toInt = p0.toInt * 6 := ki_mul ey_5 rfl rfl (om_76 b0) (om_77 b1)
      refine lv_istore_n (lv' := [(2, .int y_5), (0, .ref q_t), (1, .int p0)]) hx hb dX2_isJoined_38 rfl hl (by decide) rfl (fun ls hl => ?_)
      refine lv_iconst (v := 0) hx hb dX2_isJoined_39 (by decide) ?_
      refine lv_istore_n (lv' := [(3, .int 0), (2, .int y_5), (0, .ref q_t), (1, .int p0)]) hx hb dX2_isJoined_40 rfl hl (by decide) rfl (fun ls hl => ?_)
      have LP1 : ∀ (n : Nat) (i : Int32), (0 ≤ i.toInt) → (i.toInt ≤ js.toInt) → (∀ m : Nat, m < i.toNatClampNeg → uv (6 * p0.toNatClampNeg + m) = jv m ∧ un (6 * p0.toNatClampNeg + m) = jn m) → (6 - i.toInt).toNat < n → ∀ (ls : Array Slot), lv_has ls 4 [(3, .int i), (2, .int y_5), (0, .ref q_t), (1, .int p0)] → W p l e (headSpec wsX2_isJoined ({ frames := 0, cells := 0, slots := 0, locals := 0 })).room s m ([.ref q_t, .int p0] : List Value).toArray below meth c s.heap [] 0 0 (MQ below (vp_Si (fun r : Int32 => (r = 1 ∧ mj_sj fs fo uv un p0.toNatClampNeg js jl jv jn) ∨ (r = 0 ∧ ¬ mj_sj fs fo uv un p0.toNatClampNeg js jl jv jn))) ([.ref q_t, .int p0] : List Value).toArray s 0 0 (fun _ => False)) (F0 m 41 ls []) := by
        intro n
        induction n with
        | zero => intro i LP1_h0 LP1_h1 LP1_h2 hn; exact absurd hn (Nat.not_lt_zero _)
        | succ n ih1 =>
          intro i LP1_h0 LP1_h1 LP1_h2 hn1 ls hl
          have n_i := ki_nat i rfl (om_8 LP1_h0)
          refine lv_iload_n hx hb dX2_isJoined_41 rfl (lv_at hl 0 rfl) ?_
          refine lv_aload_n hx hb dX2_isJoined_42 rfl (lv_at hl 2 rfl) ?_
          refine va_get (D := (dC, dI)) (ci := 2) (v := .ref q_joined) (C := RX2) (T := TX2) (N := 11) hx hb hts hi_2 hown hK hP 0 rfl rfl 1 (by decide) hf_12 (fun _ h9 => h9) rfl dX2_isJoined_43 ?_
          refine va_get (D := (dC, dI)) (ci := 3) (v := .int js) (C := RX3) (T := TX3) (N := 5) hx hb hts hi_3 hown hK hP 5 rfl rfl 2 (by decide) hf_94 (fun _ h9 => h9) rfl dX2_isJoined_46 ?_
          refine lv_icmp_ge (tgt := 106) hx hb dX2_isJoined_49 (by decide) (fun c_6 => ?_) (fun c_6 => ?_)
          · have i_6 : js.toInt ≤ i.toInt := kc_le c_6
            refine lv_iconst (v := 1) hx hb dX2_isJoined_106 (by decide) ?_
            have n_js := ki_nat js rfl (om_8 j0)
            exact W.zret (v := 1) hx hb hr (by decide) (fun t ht hW => ⟨1, rfl, (Or.inl ⟨rfl, ey_1.symm.trans c_2, ey_3.symm.trans c_4, fun m hm => LP1_h2 m (by omega)⟩), ht⟩) (fun q hq => by cases hq) dX2_isJoined_107
          · have i_6 : i.toInt < js.toInt := kc_nle c_6
            refine lv_iload_n hx hb dX2_isJoined_52 rfl (lv_at hl 0 rfl) ?_
            refine lv_bipush (v := 6) hx hb dX2_isJoined_53 (by decide) ?_
            refine lv_icmp_ge (tgt := 106) hx hb dX2_isJoined_55 (by decide) (fun c_7 => ?_) (fun c_7 => ?_)
            · have i_7 : 6 ≤ i.toInt := kc_le c_7
              exfalso; omega
            · have i_7 : i.toInt < 6 := kc_nle c_7
              refine lv_aload_n hx hb dX2_isJoined_58 rfl (lv_at hl 2 rfl) ?_
              refine va_get (D := (dC, dI)) (ci := 2) (v := .ref q_value) (C := RX2) (T := TX2) (N := 11) hx hb hts hi_2 hown hK hP 0 rfl rfl 7 (by decide) hf_34 (fun _ h9 => h9) rfl dX2_isJoined_59 ?_
              refine lv_iload_n hx hb dX2_isJoined_62 rfl (lv_at hl 1 rfl) ?_
              refine lv_iload_n hx hb dX2_isJoined_63 rfl (lv_at hl 0 rfl) ?_
              refine lv_iadd hx hb dX2_isJoined_64 ?_
              refine lv_topi (fun y_8 ey_8 => ?_)
              have i_8 : y_8.toInt = y_5.toInt + i.toInt := ki_add ey_8 rfl rfl (om_78 b0 i_5 LP1_h0) (om_82 b1 i_5 i_7)
              refine va_iald hx hb hK hP 3 0 rfl rfl (ki_in (om_79 b0 i_5 LP1_h0 i_8) (om_83 b1 i_5 i_7 i_8)) dX2_isJoined_65 ?_
              refine lv_topi (fun y_9 ey_9 => ?_)
              have j_9 : y_9.toInt = (uv y_8.toNatClampNeg).toInt := congrArg Int32.toInt ey_9
              refine lv_aload_n hx hb dX2_isJoined_66 rfl (lv_at hl 2 rfl) ?_
              refine va_get (D := (dC, dI)) (ci := 2) (v := .ref q_joined) (C := RX2) (T := TX2) (N := 11) hx hb hts hi_2 hown hK hP 0 rfl rfl 1 (by decide) hf_12 (fun _ h9 => h9) rfl dX2_isJoined_67 ?_
              refine va_get (D := (dC, dI)) (ci := 3) (v := .ref j_v) (C := RX3) (T := TX3) (N := 5) hx hb hts hi_3 hown hK hP 5 rfl rfl 0 (by decide) hf_96 (fun _ h9 => h9) rfl dX2_isJoined_70 ?_
              refine lv_iload_n hx hb dX2_isJoined_73 rfl (lv_at hl 0 rfl) ?_
              refine va_iald hx hb hK hP 6 0 rfl rfl (ki_in (om_8 LP1_h0) (om_84 i_7)) dX2_isJoined_74 ?_
              refine lv_topi (fun y_10 ey_10 => ?_)
              have j_10 : y_10.toInt = (jv i.toNatClampNeg).toInt := congrArg Int32.toInt ey_10
              refine lv_icmp_ne (tgt := 98) hx hb dX2_isJoined_75 (by decide) (fun c_11 => ?_) (fun c_11 => ?_)
              · have i_11 : ¬ y_9.toInt = y_10.toInt := kc_ne c_11
                refine lv_iconst (v := 0) hx hb dX2_isJoined_98 (by decide) ?_
                have n_js := ki_nat js rfl (om_8 j0)
                have n_12 := ki_nat y_8 rfl (om_79 b0 i_5 LP1_h0 i_8)
                exact W.zret (v := 0) hx hb hr (by decide) (fun t ht hW => ⟨0, rfl, (Or.inr ⟨rfl, fun h => c_11 (by have := (h.2.2 i.toNatClampNeg (by omega)).1; rw [show 6 * p0.toNatClampNeg + i.toNatClampNeg = y_8.toNatClampNeg by omega, ← ey_9, ← ey_10] at this; exact this)⟩), ht⟩) (fun q hq => by cases hq) dX2_isJoined_99
              · have i_11 : y_9.toInt = y_10.toInt := kc_eq c_11
                refine lv_aload_n hx hb dX2_isJoined_78 rfl (lv_at hl 2 rfl) ?_
                refine va_get (D := (dC, dI)) (ci := 2) (v := .ref q_number) (C := RX2) (T := TX2) (N := 11) hx hb hts hi_2 hown hK hP 0 rfl rfl 8 (by decide) hf_37 (fun _ h9 => h9) rfl dX2_isJoined_79 ?_
                refine lv_iload_n hx hb dX2_isJoined_82 rfl (lv_at hl 1 rfl) ?_
                refine lv_iload_n hx hb dX2_isJoined_83 rfl (lv_at hl 0 rfl) ?_
                refine lv_iadd hx hb dX2_isJoined_84 ?_
                refine lv_topi (fun y_13 ey_13 => ?_)
                have i_13 : y_13.toInt = y_5.toInt + i.toInt := ki_add ey_13 rfl rfl (om_78 b0 i_5 LP1_h0) (om_82 b1 i_5 i_7)
                refine va_iald hx hb hK hP 4 0 rfl rfl (ki_in (om_79 b0 i_5 LP1_h0 i_13) (om_83 b1 i_5 i_7 i_13)) dX2_isJoined_85 ?_
                refine lv_topi (fun y_14 ey_14 => ?_)
                have j_14 : y_14.toInt = (un y_13.toNatClampNeg).toInt := congrArg Int32.toInt ey_14
                refine lv_aload_n hx hb dX2_isJoined_86 rfl (lv_at hl 2 rfl) ?_
                refine va_get (D := (dC, dI)) (ci := 2) (v := .ref q_joined) (C := RX2) (T := TX2) (N := 11) hx hb hts hi_2 hown hK hP 0 rfl rfl 1 (by decide) hf_12 (fun _ h9 => h9) rfl dX2_isJoined_87 ?_
                refine va_get (D := (dC, dI)) (ci := 3) (v := .ref j_n) (C := RX3) (T := TX3) (N := 5) hx hb hts hi_3 hown hK hP 5 rfl rfl 1 (by decide) hf_97 (fun _ h9 => h9) rfl dX2_isJoined_90 ?_
                refine lv_iload_n hx hb dX2_isJoined_93 rfl (lv_at hl 0 rfl) ?_
                refine va_iald hx hb hK hP 7 0 rfl rfl (ki_in (om_8 LP1_h0) (om_84 i_7)) dX2_isJoined_94 ?_
                refine lv_topi (fun y_15 ey_15 => ?_)
                have j_15 : y_15.toInt = (jn i.toNatClampNeg).toInt := congrArg Int32.toInt ey_15
                refine lv_icmp_eq (tgt := 100) hx hb dX2_isJoined_95 (by decide) (fun c_16 => ?_) (fun c_16 => ?_)
                · have i_16 : y_14.toInt = y_15.toInt := kc_eq c_16
                  obtain ⟨x_17, ex_17⟩ : ∃ y : Int32, y = i + 1 := ⟨_, rfl⟩
                  have i_17 : x_17.toInt = i.toInt + 1 := ki_add ex_17 rfl rfl (om_10 LP1_h0) (om_85 i_7)
                  refine lv_iinc (v := x_17) (lv' := [(3, .int x_17), (2, .int y_5), (0, .ref q_t), (1, .int p0)]) hx hb dX2_isJoined_100 hl (k := 0) rfl (by rw [ex_17]; rfl) (by decide) rfl (fun ls hl => ?_)
                  refine lv_goto (tgt := 41) hx hb dX2_isJoined_103 (by decide) ?_
                  have n_18 := ki_nat y_8 rfl (om_79 b0 i_5 LP1_h0 i_8)
                  have n_19 := ki_nat y_13 rfl (om_79 b0 i_5 LP1_h0 i_13)
                  have n_20 := ki_nat x_17 rfl (om_31 LP1_h0 i_17)
                  exact ih1 x_17 (om_31 LP1_h0 i_17) (om_47 i_6 i_17) (fun m hm => if h9 : m < i.toNatClampNeg then LP1_h2 m h9 else (by rw [show m = i.toNatClampNeg by omega, show 6 * p0.toNatClampNeg + i.toNatClampNeg = y_8.toNatClampNeg by omega, ← ey_9, ← ey_10]; exact ⟨c_11, (by rw [show y_8.toNatClampNeg = y_13.toNatClampNeg by omega, ← ey_14, ← ey_15]; exact c_16)⟩)) (om_mu hn1 (om_80 i_17) (om_86 i_7)) ls (lv_sub hl [0, 1, 2, 3] rfl)
                · have i_16 : ¬ y_14.toInt = y_15.toInt := kc_ne c_16
                  refine lv_iconst (v := 0) hx hb dX2_isJoined_98 (by decide) ?_
                  have n_js := ki_nat js rfl (om_8 j0)
                  have n_21 := ki_nat y_8 rfl (om_79 b0 i_5 LP1_h0 i_8)
                  have n_22 := ki_nat y_13 rfl (om_79 b0 i_5 LP1_h0 i_13)
                  exact W.zret (v := 0) hx hb hr (by decide) (fun t ht hW => ⟨0, rfl, (Or.inr ⟨rfl, fun h => c_16 (by have := (h.2.2 i.toNatClampNeg (by omega)).2; rw [show 6 * p0.toNatClampNeg + i.toNatClampNeg = y_13.toNatClampNeg by omega, ← ey_14, ← ey_15] at this; exact this)⟩), ht⟩) (fun q hq => by cases hq) dX2_isJoined_99
      have k_23 : (0 : Int32).toInt = 0 := rfl
      exact LP1 ((6 - 0 : Int).toNat + 1) 0 om_32 (om_8 j0) (fun m hm => absurd hm (Nat.not_lt_zero m)) (Nat.lt_succ_self _) ls (lv_sub hl [0, 1, 2, 3] rfl)
    · have i_4 : ¬ y_3.toInt = jl.toInt := kc_ne c_4
      refine lv_iconst (v := 0) hx hb dX2_isJoined_32 (by decide) ?_
      have n_js := ki_nat js rfl (om_8 j0)
      exact W.zret (v := 0) hx hb hr (by decide) (fun t ht hW => ⟨0, rfl, (Or.inr ⟨rfl, fun h => c_4 (ey_3.trans h.2.1)⟩), ht⟩) (fun q hq => by cases hq) dX2_isJoined_33


