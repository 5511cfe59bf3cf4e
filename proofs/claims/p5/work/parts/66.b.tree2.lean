set_option maxHeartbeats 4000000 in
set_option maxRecDepth 100000 in
theorem c_X2_joinNode (l : Launch) (dC : Nat → ClassId) (dI : Nat → Nat → Nat) (q_t : Nat) (q_row : Nat) (q_joined : Nat) (q_from : Nat) (q_to : Nat) (q_size : Nat) (q_lossOf : Nat) (q_lessBy : Nat) (q_value : Nat) (q_number : Nat) (nodes : Int32) (here : Int32) (h0 : Nat) (a_v : Nat) (a_n : Nat) (cyI : ClassId) (vs : Int32) (lo : Int32) (le : Int32) (fv : Nat → Int32) (fn : Nat → Int32) (fs : Nat → Int32) (fo : Nat → Int32) (uv : Nat → Int32) (un : Nat → Int32) (p0 : Int32) (sz : Nat) (a0 : 0 ≤ vs.toInt) (a1 : vs.toInt ≤ 12) (b0 : 0 ≤ p0.toInt) (b1 : p0.toInt < 319) (s0 : sixes fs) : Met l yX2_joinNode wsX2_joinNode ({ frames := 1, cells := 0, slots := 0, locals := 45 }) (va_Pc [.ref q_t, .ref h0, .int p0] (fun U => U.heap.size = sz ∧ va_P (dC, dI) vwCl [kx_2 q_t q_row q_joined q_from q_to q_size q_lossOf q_lessBy q_value q_number nodes here, kx_a q_size cyI 319 fs, kx_a q_lossOf cyI 319 fo, kx_a q_value cyI 1914 uv, kx_a q_number cyI 1914 un, kx_3 h0 a_v a_n vs lo le, kx_a a_v cyI 12 fv, kx_a a_n cyI 12 fn] U.heap ∧ va_K (dC, dI) vwCl [(cyI, .int)] U ∧ va_D (fun _ => True) [kx_2 q_t q_row q_joined q_from q_to q_size q_lossOf q_lessBy q_value q_number nodes here, kx_a q_size cyI 319 fs, kx_a q_lossOf cyI 319 fo, kx_a q_value cyI 1914 uv, kx_a q_number cyI 1914 un, kx_3 h0 a_v a_n vs lo le, kx_a a_v cyI 12 fv, kx_a a_n cyI 12 fn])) (va_Qv (fun u : Int32 × Int32 × (Nat → Int32) × (Nat → Int32) => 0 ≤ u.1.toInt ∧ u.1.toInt ≤ 12) (fun (u : Int32 × Int32 × (Nat → Int32) × (Nat → Int32)) (t : State) => va_P (dC, dI) vwCl [kx_2 q_t q_row q_joined q_from q_to q_size q_lossOf q_lessBy q_value q_number nodes here, kx_a q_size cyI 319 fs, kx_a q_lossOf cyI 319 fo, kx_a q_value cyI 1914 uv, kx_a q_number cyI 1914 un, kx_3 h0 a_v a_n u.1 u.2.1 le, kx_a a_v cyI 12 u.2.2.1, kx_a a_n cyI 12 u.2.2.2] t.heap ∧ va_K (dC, dI) vwCl [(cyI, .int)] t ∧ va_D (va_A [kx_2 q_t q_row q_joined q_from q_to q_size q_lossOf q_lessBy q_value q_number nodes here, kx_a q_size cyI 319 fs, kx_a q_lossOf cyI 319 fo, kx_a q_value cyI 1914 uv, kx_a q_number cyI 1914 un, kx_3 h0 a_v a_n vs lo le, kx_a a_v cyI 12 fv, kx_a a_n cyI 12 fn] sz) [kx_2 q_t q_row q_joined q_from q_to q_size q_lossOf q_lessBy q_value q_number nodes here, kx_a q_size cyI 319 fs, kx_a q_lossOf cyI 319 fo, kx_a q_value cyI 1914 uv, kx_a q_number cyI 1914 un, kx_3 h0 a_v a_n u.1 u.2.1 le, kx_a a_v cyI 12 u.2.2.1, kx_a a_n cyI 12 u.2.2.2]) (va_A [kx_2 q_t q_row q_joined q_from q_to q_size q_lossOf q_lessBy q_value q_number nodes here, kx_a q_size cyI 319 fs, kx_a q_lossOf cyI 319 fo, kx_a q_value cyI 1914 uv, kx_a q_number cyI 1914 un, kx_3 h0 a_v a_n vs lo le, kx_a a_v cyI 12 fv, kx_a a_n cyI 12 fn] sz)) 0 0 (va_A [kx_2 q_t q_row q_joined q_from q_to q_size q_lossOf q_lessBy q_value q_number nodes here, kx_a q_size cyI 319 fs, kx_a q_lossOf cyI 319 fo, kx_a q_value cyI 1914 uv, kx_a q_number cyI 1914 un, kx_3 h0 a_v a_n vs lo le, kx_a a_v cyI 12 fv, kx_a a_n cyI 12 fn] sz) := by
  refine Met.ofW (cc := cX2_joinNode) (maxL := 5) (ret := none) (by decide) rfl ?_
  intro p e s m args below meth c s₁ B hml hv
  obtain ⟨rfl, hsz, hP, hK, hD0⟩ := hv
  have hx := B.exec
  have hb := B.bytes
  have hr := B.returns
  have hts := atoms_spec (ws := wsX2_joinNode) B.pre
  have hown : s.vm.findClass RX2 = some m.cls := findClass_of_methodNamed B.named
  have hlocks := B.notSynchronized
  subst hsz
  have hD := hD0.self (sz := s.heap.size)
  generalize hAe : va_A [kx_2 q_t q_row q_joined q_from q_to q_size q_lossOf q_lessBy q_value q_number nodes here, kx_a q_size cyI 319 fs, kx_a q_lossOf cyI 319 fo, kx_a q_value cyI 1914 uv, kx_a q_number cyI 1914 un, kx_3 h0 a_v a_n vs lo le, kx_a a_v cyI 12 fv, kx_a a_n cyI 12 fn] s.heap.size = A at hD ⊢
  have hA : ∀ q : Nat, s.heap.size ≤ q → A q := fun q h => by rw [← hAe]; exact Or.inr h
  have hS : va_S A s.heap s.heap [] := va_S.rf
  have hP : va_P (dC, dI) vwCl [kx_2 q_t q_row q_joined q_from q_to q_size q_lossOf q_lessBy q_value q_number nodes here, kx_a q_size cyI 319 fs, kx_a q_lossOf cyI 319 fo, kx_a q_value cyI 1914 uv, kx_a q_number cyI 1914 un, kx_3 h0 a_v a_n vs lo le, kx_a a_v cyI 12 fv, kx_a a_n cyI 12 fn] s.heap := hP
  have hl := lv_entry ([.ref q_t, .ref h0, .int p0]) (n := 5) (Nat.le_of_ble_eq_true rfl)
  rw [lg_entry_eq]
  generalize (lg_sl ([.ref q_t, .ref h0, .int p0]) ++ List.replicate (5 - (lg_sl ([.ref q_t, .ref h0, .int p0])).length) Slot.unset).toArray = ls at hl ⊢
  have hl : lv_has ls 5 [(0, .ref q_t), (1, .ref h0), (2, .int p0)] := hl
  have hf_25 := hts (.fieldLink RX2 25 "MajorityIndex$Tree" "size" "[I") (List.mem_of_getElem? (i := 1) rfl)
  have hi_2 : ∀ w ∈ u_ws RX2 TX2 11, w ∈ wsX2_joinNode := fun w h => List.mem_cons_of_mem _ (List.mem_append_left _ (List.mem_append_right _ h))
  have hf_91 := hts (.fieldLink RX2 91 "MajorityIndex$Votes" "lost" "I") (List.mem_of_getElem? (i := 4) rfl)
  have hi_3 : ∀ w ∈ u_ws RX3 TX3 5, w ∈ wsX2_joinNode := fun w h => List.mem_cons_of_mem _ (List.mem_append_right _ h)
  have hf_28 := hts (.fieldLink RX2 28 "MajorityIndex$Tree" "lossOf" "[I") (List.mem_of_getElem? (i := 5) rfl)
  have hf_34 := hts (.fieldLink RX2 34 "MajorityIndex$Tree" "value" "[I") (List.mem_of_getElem? (i := 2) rfl)
  have hf_37 := hts (.fieldLink RX2 37 "MajorityIndex$Tree" "number" "[I") (List.mem_of_getElem? (i := 3) rfl)
  refine lv_iload_n hx hb dX2_joinNode_0 rfl (lv_at hl 2 rfl) ?_
  refine lv_bipush (v := 6) hx hb dX2_joinNode_1 (by decide) ?_
  refine lv_imul hx hb dX2_joinNode_3 ?_
  refine lv_topi (fun y_1 ey_1 => ?_)
  have i_1 : y_1.toInt = p0.toInt * 6 := ki_mul ey_1 rfl rfl (om_76 b0) (om_77 b1)
  refine lv_istore_n (lv' := [(3, .int y_1), (0, .ref q_t), (1, .ref h0), (2, .int p0)]) hx hb dX2_joinNode_4 rfl hl (by decide) rfl (fun ls hl => ?_)
  refine lv_iconst (v := 0) hx hb dX2_joinNode_5 (by decide) ?_
  refine lv_istore (lv' := [(4, .int 0), (3, .int y_1), (0, .ref q_t), (1, .ref h0), (2, .int p0)]) hx hb dX2_joinNode_6 hl (by decide) rfl (fun ls hl => ?_)
  have LP1 : ∀ (n : Nat) (i : Int32) (zz : Int32) (yv : Nat → Int32) (yn : Nat → Int32), (0 ≤ i.toInt) → (0 ≤ zz.toInt) → (zz.toInt ≤ 12) → (6 - i.toInt).toNat < n → ∀ (H : Heap) (locs : List Loc), va_P (dC, dI) vwCl [kx_2 q_t q_row q_joined q_from q_to q_size q_lossOf q_lessBy q_value q_number nodes here, kx_a q_size cyI 319 fs, kx_a q_lossOf cyI 319 fo, kx_a q_value cyI 1914 uv, kx_a q_number cyI 1914 un, kx_3 h0 a_v a_n zz lo le, kx_a a_v cyI 12 yv, kx_a a_n cyI 12 yn] H → va_D A [kx_2 q_t q_row q_joined q_from q_to q_size q_lossOf q_lessBy q_value q_number nodes here, kx_a q_size cyI 319 fs, kx_a q_lossOf cyI 319 fo, kx_a q_value cyI 1914 uv, kx_a q_number cyI 1914 un, kx_3 h0 a_v a_n zz lo le, kx_a a_v cyI 12 yv, kx_a a_n cyI 12 yn] → va_S A s.heap H locs → ∀ (ls : Array Slot), lv_has ls 5 [(4, .int i), (3, .int y_1), (0, .ref q_t), (1, .ref h0), (2, .int p0)] → W p l e (headSpec wsX2_joinNode ({ frames := 1, cells := 0, slots := 0, locals := 45 })).room s m ([.ref q_t, .ref h0, .int p0] : List Value).toArray below meth c H locs 0 0 (MQ below (va_Qv (fun u : Int32 × Int32 × (Nat → Int32) × (Nat → Int32) => 0 ≤ u.1.toInt ∧ u.1.toInt ≤ 12) (fun (u : Int32 × Int32 × (Nat → Int32) × (Nat → Int32)) (t : State) => va_P (dC, dI) vwCl [kx_2 q_t q_row q_joined q_from q_to q_size q_lossOf q_lessBy q_value q_number nodes here, kx_a q_size cyI 319 fs, kx_a q_lossOf cyI 319 fo, kx_a q_value cyI 1914 uv, kx_a q_number cyI 1914 un, kx_3 h0 a_v a_n u.1 u.2.1 le, kx_a a_v cyI 12 u.2.2.1, kx_a a_n cyI 12 u.2.2.2] t.heap ∧ va_K (dC, dI) vwCl [(cyI, .int)] t ∧ va_D A [kx_2 q_t q_row q_joined q_from q_to q_size q_lossOf q_lessBy q_value q_number nodes here, kx_a q_size cyI 319 fs, kx_a q_lossOf cyI 319 fo, kx_a q_value cyI 1914 uv, kx_a q_number cyI 1914 un, kx_3 h0 a_v a_n u.1 u.2.1 le, kx_a a_v cyI 12 u.2.2.1, kx_a a_n cyI 12 u.2.2.2]) A) ([.ref q_t, .ref h0, .int p0] : List Value).toArray s 0 0 A) (F0 m 8 ls []) := by
    intro n
    induction n with
    | zero => intro i zz yv yn LP1_h0 LP1_h1 LP1_h2 hn; exact absurd hn (Nat.not_lt_zero _)
    | succ n ih1 =>
      intro i zz yv yn LP1_h0 LP1_h1 LP1_h2 hn1 H locs hP hD hS ls hl
      refine lv_iload hx hb dX2_joinNode_8 (lv_at hl 0 rfl) ?_
      refine lv_aload_n hx hb dX2_joinNode_10 rfl (lv_at hl 2 rfl) ?_
      refine va_get (D := (dC, dI)) (ci := 2) (v := .ref q_size) (C := RX2) (T := TX2) (N := 11) hx hb hts hi_2 hown hK hP 0 rfl rfl 4 (by decide) hf_25 (fun _ h9 => h9) rfl dX2_joinNode_11 ?_
      refine lv_iload_n hx hb dX2_joinNode_14 rfl (lv_at hl 4 rfl) ?_
      refine va_iald hx hb hK hP 1 0 rfl rfl (ki_in (om_8 b0) (om_54 b1)) dX2_joinNode_15 ?_
      refine lv_topi (fun y_2 ey_2 => ?_)
      have j_2 : y_2.toInt = (fs p0.toNatClampNeg).toInt := congrArg Int32.toInt ey_2
      have n_3 : (p0.toNatClampNeg : Int) = p0.toInt := ki_nat _ rfl (om_8 b0)
      have i_4 := s0 p0.toNatClampNeg (by omega)
      refine lv_icmp_ge (tgt := 47) hx hb dX2_joinNode_16 (by decide) (fun c_5 => ?_) (fun c_5 => ?_)
      · have i_5 : y_2.toInt ≤ i.toInt := kc_le c_5
        refine lv_aload_n hx hb dX2_joinNode_47 rfl (lv_at hl 3 rfl) ?_
        refine lv_dup hx hb dX2_joinNode_48 rfl ?_
        refine va_get (D := (dC, dI)) (ci := 3) (v := .int lo) (C := RX3) (T := TX3) (N := 5) hx hb hts hi_3 hown hK hP 5 rfl rfl 3 (by decide) hf_91 (fun _ h9 => h9) rfl dX2_joinNode_49 ?_
        refine lv_aload_n hx hb dX2_joinNode_52 rfl (lv_at hl 2 rfl) ?_
        refine va_get (D := (dC, dI)) (ci := 2) (v := .ref q_lossOf) (C := RX2) (T := TX2) (N := 11) hx hb hts hi_2 hown hK hP 0 rfl rfl 5 (by decide) hf_28 (fun _ h9 => h9) rfl dX2_joinNode_53 ?_
        refine lv_iload_n hx hb dX2_joinNode_56 rfl (lv_at hl 4 rfl) ?_
        refine va_iald hx hb hK hP 2 0 rfl rfl (ki_in (om_8 b0) (om_54 b1)) dX2_joinNode_57 ?_
        refine lv_topi (fun y_6 ey_6 => ?_)
        have j_6 : y_6.toInt = (fo p0.toNatClampNeg).toInt := congrArg Int32.toInt ey_6
        refine lv_iadd hx hb dX2_joinNode_58 ?_
        refine lv_topi (fun y_7 ey_7 => ?_)
        refine va_put (D := (dC, dI)) (ci := 3) (v := .int y_7) (ty := .int) (C := RX3) (T := TX3) (N := 5) hx hb hts hi_3 tyX3 tyX3_ok nmX3 hown hK hP hD hS 5 rfl rfl 3 (by decide) hf_91 (fun _ h9 => h9) rfl (by decide +kernel) rfl rfl (Nat.le_of_ble_eq_true rfl) dX2_joinNode_59 (fun H locs hP hD hS => ?_)
        have hP : va_P (dC, dI) vwCl [kx_2 q_t q_row q_joined q_from q_to q_size q_lossOf q_lessBy q_value q_number nodes here, kx_a q_size cyI 319 fs, kx_a q_lossOf cyI 319 fo, kx_a q_value cyI 1914 uv, kx_a q_number cyI 1914 un, kx_3 h0 a_v a_n zz y_7 le, kx_a a_v cyI 12 yv, kx_a a_n cyI 12 yn] H := hP
        have hD : va_D A [kx_2 q_t q_row q_joined q_from q_to q_size q_lossOf q_lessBy q_value q_number nodes here, kx_a q_size cyI 319 fs, kx_a q_lossOf cyI 319 fo, kx_a q_value cyI 1914 uv, kx_a q_number cyI 1914 un, kx_3 h0 a_v a_n zz y_7 le, kx_a a_v cyI 12 yv, kx_a a_n cyI 12 yn] := hD
        have hP9 := hP
        have hD9 := hD
        have hK9 := hK
        exact W.vret hx hb hr (fun t ht hW => ⟨⟨(zz, y_7, yv, yn), rfl, (by (try dsimp only); omega), by rw [ht]; exact hP9, va_K.moved hW.alike hK9, hD9⟩, hS.F ht⟩) hS.2.2 dX2_joinNode_62
      · have i_5 : i.toInt < y_2.toInt := kc_nle c_5
        refine lv_aload_n hx hb dX2_joinNode_19 rfl (lv_at hl 3 rfl) ?_
        refine lv_aload_n hx hb dX2_joinNode_20 rfl (lv_at hl 2 rfl) ?_
        refine va_get (D := (dC, dI)) (ci := 2) (v := .ref q_value) (C := RX2) (T := TX2) (N := 11) hx hb hts hi_2 hown hK hP 0 rfl rfl 7 (by decide) hf_34 (fun _ h9 => h9) rfl dX2_joinNode_21 ?_
        refine lv_iload_n hx hb dX2_joinNode_24 rfl (lv_at hl 1 rfl) ?_
        refine lv_iload hx hb dX2_joinNode_25 (lv_at hl 0 rfl) ?_
        refine lv_iadd hx hb dX2_joinNode_27 ?_
        refine lv_topi (fun y_8 ey_8 => ?_)
        have i_8 : y_8.toInt = y_1.toInt + i.toInt := ki_add ey_8 rfl rfl (om_78 b0 i_1 LP1_h0) (by omega)
        refine va_iald hx hb hK hP 3 0 rfl rfl (ki_in (om_79 b0 i_1 LP1_h0 i_8) (by omega)) dX2_joinNode_28 ?_
        refine lv_topi (fun y_9 ey_9 => ?_)
        have j_9 : y_9.toInt = (uv y_8.toNatClampNeg).toInt := congrArg Int32.toInt ey_9
        refine lv_aload_n hx hb dX2_joinNode_29 rfl (lv_at hl 2 rfl) ?_
        refine va_get (D := (dC, dI)) (ci := 2) (v := .ref q_number) (C := RX2) (T := TX2) (N := 11) hx hb hts hi_2 hown hK hP 0 rfl rfl 8 (by decide) hf_37 (fun _ h9 => h9) rfl dX2_joinNode_30 ?_
        refine lv_iload_n hx hb dX2_joinNode_33 rfl (lv_at hl 1 rfl) ?_
        refine lv_iload hx hb dX2_joinNode_34 (lv_at hl 0 rfl) ?_
        refine lv_iadd hx hb dX2_joinNode_36 ?_
        refine lv_topi (fun y_10 ey_10 => ?_)
        have i_10 : y_10.toInt = y_1.toInt + i.toInt := ki_add ey_10 rfl rfl (om_78 b0 i_1 LP1_h0) (by omega)
        refine va_iald hx hb hK hP 4 0 rfl rfl (ki_in (om_79 b0 i_1 LP1_h0 i_10) (by omega)) dX2_joinNode_37 ?_
        refine lv_topi (fun y_11 ey_11 => ?_)
        have j_11 : y_11.toInt = (un y_10.toNatClampNeg).toInt := congrArg Int32.toInt ey_11
        have hPc := hP.sub (ws' := [kx_3 h0 a_v a_n zz lo le, kx_a a_v cyI 12 yv, kx_a a_n cyI 12 yn]) [5, 6, 7] rfl
        have hKc := hK
        have hDc := hD.sub (ws' := [kx_3 h0 a_v a_n zz lo le, kx_a a_v cyI 12 yv, kx_a a_n cyI 12 yn]) [5, 6, 7] (by decide) rfl
        have hFc := va_free (wc := [kx_3 h0 a_v a_n zz lo le, kx_a a_v cyI 12 yv, kx_a a_n cyI 12 yn]) hD hS hA [5, 6, 7] rfl
        refine va_callv (va_runV (As := [.int y_9, .int y_11]) (rest := []) ⟨hx, hb, hml, hown, hts⟩ (c_X3_add l dC dI h0 a_v a_n cyI zz lo le yv yn y_9 y_11 H.size LP1_h1 LP1_h2) (cwV 2 hts gX2_joinNode_X3_add rfl rfl rfl (by decide +kernel) ⟨Nat.le_of_ble_eq_true rfl, Nat.le_of_ble_eq_true rfl⟩) ⟨fun a U g mk q => by obtain ⟨q0, q1, qP, qK, qD⟩ := q; exact ⟨q0, q1, qP, va_K.moved (u := U) (U := U.calling g mk a) (Vm.Alike.refl U.vm) qK, qD⟩, va_recv hKc hPc (ci := 3) (q0 := 0) rfl rfl, fun U hU hW => ⟨rfl, by rw [hU], by rw [hU]; exact hPc, va_K.moved hW.alike hKc, hDc.weaken (fun _ _ _ _ => trivial)⟩⟩ rfl rfl hl.1 rfl (lv_room (Nat.le_of_ble_eq_true rfl)) dX2_joinNode_38 ⟨Nat.le_of_ble_eq_true rfl, Nat.le_of_ble_eq_true rfl⟩) hS (fun q _ h => hFc q h) hFc (fun u t H1 locs ht hvm w_12 hB hz1 hk1 hS => ?_)
        obtain ⟨o_13, o_14, o_15⟩ := u
        dsimp only at w_12 hB
        obtain ⟨hP1, hK1, hD1⟩ := hB
        rw [ht] at hP1
        have hK1 := va_K.moved hvm.symm hK1
        obtain ⟨hP, hD⟩ := va_join (wr := [kx_2 q_t q_row q_joined q_from q_to q_size q_lossOf q_lessBy q_value q_number nodes here, kx_a q_size cyI 319 fs, kx_a q_lossOf cyI 319 fo, kx_a q_value cyI 1914 uv, kx_a q_number cyI 1914 un]) (w1 := [kx_3 h0 a_v a_n o_13 lo le, kx_a a_v cyI 12 o_14, kx_a a_n cyI 12 o_15]) hP hD [5, 6, 7] [0, 1, 2, 3, 4] rfl rfl (by decide) (by decide) hk1 hFc hP1 hD1
        clear hP1 hD1 hK1 hk1 hz1 hFc hDc hPc hKc
        generalize H1 = H at hP hS ⊢
        have hP : va_P (dC, dI) vwCl [kx_2 q_t q_row q_joined q_from q_to q_size q_lossOf q_lessBy q_value q_number nodes here, kx_a q_size cyI 319 fs, kx_a q_lossOf cyI 319 fo, kx_a q_value cyI 1914 uv, kx_a q_number cyI 1914 un, kx_3 h0 a_v a_n o_13 lo le, kx_a a_v cyI 12 o_14, kx_a a_n cyI 12 o_15] H := hP
        have hD : va_D A [kx_2 q_t q_row q_joined q_from q_to q_size q_lossOf q_lessBy q_value q_number nodes here, kx_a q_size cyI 319 fs, kx_a q_lossOf cyI 319 fo, kx_a q_value cyI 1914 uv, kx_a q_number cyI 1914 un, kx_3 h0 a_v a_n o_13 lo le, kx_a a_v cyI 12 o_14, kx_a a_n cyI 12 o_15] := hD
        have w_12 : zz.toInt ≤ o_13.toInt ∧ o_13.toInt ≤ zz.toInt + 1 ∧ o_13.toInt ≤ 12 := w_12
        obtain ⟨x_16, ex_16⟩ : ∃ y : Int32, y = i + 1 := ⟨_, rfl⟩
        have i_16 : x_16.toInt = i.toInt + 1 := ki_add ex_16 rfl rfl (om_10 LP1_h0) (by omega)
        refine lv_iinc (v := x_16) (lv' := [(4, .int x_16), (3, .int y_1), (0, .ref q_t), (1, .ref h0), (2, .int p0)]) hx hb dX2_joinNode_41 hl (k := 0) rfl (by rw [ex_16]; rfl) (by decide) rfl (fun ls hl => ?_)
        refine lv_goto (tgt := 8) hx hb dX2_joinNode_44 (by decide) ?_
        exact ih1 x_16 o_13 o_14 o_15 (om_31 LP1_h0 i_16) (om_0 LP1_h1 w_12.1) (om_53 w_12.2.2) (by omega) _ _ hP hD hS ls (lv_sub hl [0, 1, 2, 3, 4] rfl)
  have k_17 : (0 : Int32).toInt = 0 := rfl
  exact LP1 ((6 - 0 : Int).toNat + 1) 0 vs fv fn om_32 (om_8 a0) (om_53 a1) (Nat.lt_succ_self _) _ _ hP hD hS ls (lv_sub hl [0, 1, 2, 3, 4] rfl)

set_option maxHeartbeats 4000000 in
set_option maxRecDepth 100000 in
theorem c_X2_copyTo (l : Launch) (dC : Nat → ClassId) (dI : Nat → Nat → Nat) (q_t : Nat) (q_row : Nat) (q_joined : Nat) (q_from : Nat) (q_to : Nat) (q_size : Nat) (q_lossOf : Nat) (q_lessBy : Nat) (q_value : Nat) (q_number : Nat) (nodes : Int32) (here : Int32) (h0 : Nat) (a_v : Nat) (a_n : Nat) (cyI : ClassId) (vs : Int32) (lo : Int32) (le : Int32) (fv : Nat → Int32) (fn : Nat → Int32) (fs : Nat → Int32) (fo : Nat → Int32) (uv : Nat → Int32) (un : Nat → Int32) (p0 : Int32) (sz : Nat) (b0 : 0 ≤ p0.toInt) (b1 : p0.toInt < 319) (s0 : sixes fs) : Met l yX2_copyTo wsX2_copyTo ({ frames := 2, cells := 0, slots := 0, locals := 90 }) (va_Pc [.ref q_t, .ref h0, .int p0] (fun U => U.heap.size = sz ∧ va_P (dC, dI) vwCl [kx_2 q_t q_row q_joined q_from q_to q_size q_lossOf q_lessBy q_value q_number nodes here, kx_a q_size cyI 319 fs, kx_a q_lossOf cyI 319 fo, kx_a q_value cyI 1914 uv, kx_a q_number cyI 1914 un, kx_3 h0 a_v a_n vs lo le, kx_a a_v cyI 12 fv, kx_a a_n cyI 12 fn] U.heap ∧ va_K (dC, dI) vwCl [(cyI, .int)] U ∧ va_D (fun _ => True) [kx_2 q_t q_row q_joined q_from q_to q_size q_lossOf q_lessBy q_value q_number nodes here, kx_a q_size cyI 319 fs, kx_a q_lossOf cyI 319 fo, kx_a q_value cyI 1914 uv, kx_a q_number cyI 1914 un, kx_3 h0 a_v a_n vs lo le, kx_a a_v cyI 12 fv, kx_a a_n cyI 12 fn])) (va_Qv (fun u : Int32 × Int32 × (Nat → Int32) × (Nat → Int32) => 0 ≤ u.1.toInt ∧ u.1.toInt ≤ 12) (fun (u : Int32 × Int32 × (Nat → Int32) × (Nat → Int32)) (t : State) => va_P (dC, dI) vwCl [kx_2 q_t q_row q_joined q_from q_to q_size q_lossOf q_lessBy q_value q_number nodes here, kx_a q_size cyI 319 fs, kx_a q_lossOf cyI 319 fo, kx_a q_value cyI 1914 uv, kx_a q_number cyI 1914 un, kx_3 h0 a_v a_n u.1 u.2.1 0, kx_a a_v cyI 12 u.2.2.1, kx_a a_n cyI 12 u.2.2.2] t.heap ∧ va_K (dC, dI) vwCl [(cyI, .int)] t ∧ va_D (va_A [kx_2 q_t q_row q_joined q_from q_to q_size q_lossOf q_lessBy q_value q_number nodes here, kx_a q_size cyI 319 fs, kx_a q_lossOf cyI 319 fo, kx_a q_value cyI 1914 uv, kx_a q_number cyI 1914 un, kx_3 h0 a_v a_n vs lo le, kx_a a_v cyI 12 fv, kx_a a_n cyI 12 fn] sz) [kx_2 q_t q_row q_joined q_from q_to q_size q_lossOf q_lessBy q_value q_number nodes here, kx_a q_size cyI 319 fs, kx_a q_lossOf cyI 319 fo, kx_a q_value cyI 1914 uv, kx_a q_number cyI 1914 un, kx_3 h0 a_v a_n u.1 u.2.1 0, kx_a a_v cyI 12 u.2.2.1, kx_a a_n cyI 12 u.2.2.2]) (va_A [kx_2 q_t q_row q_joined q_from q_to q_size q_lossOf q_lessBy q_value q_number nodes here, kx_a q_size cyI 319 fs, kx_a q_lossOf cyI 319 fo, kx_a q_value cyI 1914 uv, kx_a q_number cyI 1914 un, kx_3 h0 a_v a_n vs lo le, kx_a a_v cyI 12 fv, kx_a a_n cyI 12 fn] sz)) 0 0 (va_A [kx_2 q_t q_row q_joined q_from q_to q_size q_lossOf q_lessBy q_value q_number nodes here, kx_a q_size cyI 319 fs, kx_a q_lossOf cyI 319 fo, kx_a q_value cyI 1914 uv, kx_a q_number cyI 1914 un, kx_3 h0 a_v a_n vs lo le, kx_a a_v cyI 12 fv, kx_a a_n cyI 12 fn] sz) := by
  refine Met.ofW (cc := cX2_copyTo) (maxL := 3) (ret := none) (by decide) rfl ?_
  intro p e s m args below meth c s₁ B hml hv
  obtain ⟨rfl, hsz, hP, hK, hD0⟩ := hv
  have hx := B.exec
  have hb := B.bytes
  have hr := B.returns
  have hts := atoms_spec (ws := wsX2_copyTo) B.pre
  have hown : s.vm.findClass RX2 = some m.cls := findClass_of_methodNamed B.named
  have hlocks := B.notSynchronized
  subst hsz
  have hD := hD0.self (sz := s.heap.size)
  generalize hAe : va_A [kx_2 q_t q_row q_joined q_from q_to q_size q_lossOf q_lessBy q_value q_number nodes here, kx_a q_size cyI 319 fs, kx_a q_lossOf cyI 319 fo, kx_a q_value cyI 1914 uv, kx_a q_number cyI 1914 un, kx_3 h0 a_v a_n vs lo le, kx_a a_v cyI 12 fv, kx_a a_n cyI 12 fn] s.heap.size = A at hD ⊢
  have hA : ∀ q : Nat, s.heap.size ≤ q → A q := fun q h => by rw [← hAe]; exact Or.inr h
  have hS : va_S A s.heap s.heap [] := va_S.rf
  have hP : va_P (dC, dI) vwCl [kx_2 q_t q_row q_joined q_from q_to q_size q_lossOf q_lessBy q_value q_number nodes here, kx_a q_size cyI 319 fs, kx_a q_lossOf cyI 319 fo, kx_a q_value cyI 1914 uv, kx_a q_number cyI 1914 un, kx_3 h0 a_v a_n vs lo le, kx_a a_v cyI 12 fv, kx_a a_n cyI 12 fn] s.heap := hP
  have hl := lv_entry ([.ref q_t, .ref h0, .int p0]) (n := 3) (Nat.le_of_ble_eq_true rfl)
  rw [lg_entry_eq]
  generalize (lg_sl ([.ref q_t, .ref h0, .int p0]) ++ List.replicate (3 - (lg_sl ([.ref q_t, .ref h0, .int p0])).length) Slot.unset).toArray = ls at hl ⊢
  have hl : lv_has ls 3 [(0, .ref q_t), (1, .ref h0), (2, .int p0)] := hl
  refine lv_aload_n hx hb dX2_copyTo_0 rfl (lv_at hl 1 rfl) ?_
  have hPc := hP.sub (ws' := [kx_3 h0 a_v a_n vs lo le]) [5] rfl
  have hKc := hK.sub (tys' := []) [] rfl
  have hDc := hD.sub (ws' := [kx_3 h0 a_v a_n vs lo le]) [5] (by decide) rfl
  have hFc := va_free (wc := [kx_3 h0 a_v a_n vs lo le]) hD hS hA [5] rfl
  refine va_callv (va_runV (As := []) (rest := []) ⟨hx, hb, hml, hown, hts⟩ (c_X3_clear l dC dI h0 a_v a_n vs lo le s.heap.size) (cwV 0 hts gX2_copyTo_X3_clear rfl rfl rfl (by decide +kernel) ⟨Nat.le_of_ble_eq_true rfl, Nat.le_of_ble_eq_true rfl⟩) ⟨fun a U g mk q => by obtain ⟨q0, q1, qP, qK, qD⟩ := q; exact ⟨q0, q1, qP, va_K.moved (u := U) (U := U.calling g mk a) (Vm.Alike.refl U.vm) qK, qD⟩, va_recv hKc hPc (ci := 3) (q0 := 0) rfl rfl, fun U hU hW => ⟨rfl, by rw [hU], by rw [hU]; exact hPc, va_K.moved hW.alike hKc, hDc.weaken (fun _ _ _ _ => trivial)⟩⟩ rfl rfl hl.1 rfl (lv_room (Nat.le_of_ble_eq_true rfl)) dX2_copyTo_1 ⟨Nat.le_of_ble_eq_true rfl, Nat.le_of_ble_eq_true rfl⟩) hS (fun q _ h => hFc q h) hFc (fun u t H1 locs ht hvm w_1 hB hz1 hk1 hS => ?_)
  obtain ⟨hP1, hK1, hD1⟩ := hB
  rw [ht] at hP1
  have hK1 := va_K.moved hvm.symm hK1
  obtain ⟨hP, hD⟩ := va_join (wr := [kx_2 q_t q_row q_joined q_from q_to q_size q_lossOf q_lessBy q_value q_number nodes here, kx_a q_size cyI 319 fs, kx_a q_lossOf cyI 319 fo, kx_a q_value cyI 1914 uv, kx_a q_number cyI 1914 un, kx_a a_v cyI 12 fv, kx_a a_n cyI 12 fn]) (w1 := [kx_3 h0 a_v a_n 0 0 0]) hP hD [5] [0, 1, 2, 3, 4, 6, 7] rfl rfl (by decide) (by decide) hk1 hFc hP1 hD1
  clear hP1 hD1 hK1 hk1 hz1 hFc hDc hPc hKc
  generalize H1 = H at hP hS ⊢
  have hP : va_P (dC, dI) vwCl [kx_2 q_t q_row q_joined q_from q_to q_size q_lossOf q_lessBy q_value q_number nodes here, kx_a q_size cyI 319 fs, kx_a q_lossOf cyI 319 fo, kx_a q_value cyI 1914 uv, kx_a q_number cyI 1914 un, kx_a a_v cyI 12 fv, kx_a a_n cyI 12 fn, kx_3 h0 a_v a_n 0 0 0] H := hP
  have hD : va_D A [kx_2 q_t q_row q_joined q_from q_to q_size q_lossOf q_lessBy q_value q_number nodes here, kx_a q_size cyI 319 fs, kx_a q_lossOf cyI 319 fo, kx_a q_value cyI 1914 uv, kx_a q_number cyI 1914 un, kx_a a_v cyI 12 fv, kx_a a_n cyI 12 fn, kx_3 h0 a_v a_n 0 0 0] := hD
  have k_0 : (0 : Int32).toInt = 0 := rfl
  refine lv_aload_n hx hb dX2_copyTo_4 rfl (lv_at hl 0 rfl) ?_
  refine lv_aload_n hx hb dX2_copyTo_5 rfl (lv_at hl 1 rfl) ?_
  refine lv_iload_n hx hb dX2_copyTo_6 rfl (lv_at hl 2 rfl) ?_
  have hPc := hP.sub (ws' := [kx_2 q_t q_row q_joined q_from q_to q_size q_lossOf q_lessBy q_value q_number nodes here, kx_a q_size cyI 319 fs, kx_a q_lossOf cyI 319 fo, kx_a q_value cyI 1914 uv, kx_a q_number cyI 1914 un, kx_3 h0 a_v a_n 0 0 0, kx_a a_v cyI 12 fv, kx_a a_n cyI 12 fn]) [0, 1, 2, 3, 4, 7, 5, 6] rfl
  have hKc := hK
  have hDc := hD.sub (ws' := [kx_2 q_t q_row q_joined q_from q_to q_size q_lossOf q_lessBy q_value q_number nodes here, kx_a q_size cyI 319 fs, kx_a q_lossOf cyI 319 fo, kx_a q_value cyI 1914 uv, kx_a q_number cyI 1914 un, kx_3 h0 a_v a_n 0 0 0, kx_a a_v cyI 12 fv, kx_a a_n cyI 12 fn]) [0, 1, 2, 3, 4, 7, 5, 6] (by decide) rfl
  have hFc := va_free (wc := [kx_2 q_t q_row q_joined q_from q_to q_size q_lossOf q_lessBy q_value q_number nodes here, kx_a q_size cyI 319 fs, kx_a q_lossOf cyI 319 fo, kx_a q_value cyI 1914 uv, kx_a q_number cyI 1914 un, kx_3 h0 a_v a_n 0 0 0, kx_a a_v cyI 12 fv, kx_a a_n cyI 12 fn]) hD hS hA [0, 1, 2, 3, 4, 7, 5, 6] rfl
  refine va_callv (va_runV (As := [.ref h0, .int p0]) (rest := []) ⟨hx, hb, hml, hown, hts⟩ (c_X2_joinNode l dC dI q_t q_row q_joined q_from q_to q_size q_lossOf q_lessBy q_value q_number nodes here h0 a_v a_n cyI 0 0 0 fv fn fs fo uv un p0 H.size om_32 om_81 b0 b1 s0) (cwV 2 hts gX2_copyTo_X2_joinNode rfl rfl rfl (by decide +kernel) ⟨Nat.le_of_ble_eq_true rfl, Nat.le_of_ble_eq_true rfl⟩) ⟨fun a U g mk q => by obtain ⟨q0, q1, qP, qK, qD⟩ := q; exact ⟨q0, q1, qP, va_K.moved (u := U) (U := U.calling g mk a) (Vm.Alike.refl U.vm) qK, qD⟩, va_recv hKc hPc (ci := 2) (q0 := 0) rfl rfl, fun U hU hW => ⟨rfl, by rw [hU], by rw [hU]; exact hPc, va_K.moved hW.alike hKc, hDc.weaken (fun _ _ _ _ => trivial)⟩⟩ rfl rfl hl.1 rfl (lv_room (Nat.le_of_ble_eq_true rfl)) dX2_copyTo_7 ⟨Nat.le_of_ble_eq_true rfl, Nat.le_of_ble_eq_true rfl⟩) hS (fun q _ h => hFc q h) hFc (fun u t H1 locs ht hvm w_2 hB hz1 hk1 hS => ?_)
  obtain ⟨o_3, o_4, o_5, o_6⟩ := u
  dsimp only at w_2 hB
  obtain ⟨hP1, hK1, hD1⟩ := hB
  rw [ht] at hP1
  have hK1 := va_K.moved hvm.symm hK1
  obtain ⟨hP, hD⟩ := va_join (wr := []) (w1 := [kx_2 q_t q_row q_joined q_from q_to q_size q_lossOf q_lessBy q_value q_number nodes here, kx_a q_size cyI 319 fs, kx_a q_lossOf cyI 319 fo, kx_a q_value cyI 1914 uv, kx_a q_number cyI 1914 un, kx_3 h0 a_v a_n o_3 o_4 0, kx_a a_v cyI 12 o_5, kx_a a_n cyI 12 o_6]) hP hD [0, 1, 2, 3, 4, 7, 5, 6] [] rfl rfl (by decide) (by decide) hk1 hFc hP1 hD1
  clear hP1 hD1 hK1 hk1 hz1 hFc hDc hPc hKc
  generalize H1 = H at hP hS ⊢
  have hP : va_P (dC, dI) vwCl [kx_2 q_t q_row q_joined q_from q_to q_size q_lossOf q_lessBy q_value q_number nodes here, kx_a q_size cyI 319 fs, kx_a q_lossOf cyI 319 fo, kx_a q_value cyI 1914 uv, kx_a q_number cyI 1914 un, kx_3 h0 a_v a_n o_3 o_4 0, kx_a a_v cyI 12 o_5, kx_a a_n cyI 12 o_6] H := hP
  have hD : va_D A [kx_2 q_t q_row q_joined q_from q_to q_size q_lossOf q_lessBy q_value q_number nodes here, kx_a q_size cyI 319 fs, kx_a q_lossOf cyI 319 fo, kx_a q_value cyI 1914 uv, kx_a q_number cyI 1914 un, kx_3 h0 a_v a_n o_3 o_4 0, kx_a a_v cyI 12 o_5, kx_a a_n cyI 12 o_6] := hD
  have w_2 : 0 ≤ o_3.toInt ∧ o_3.toInt ≤ 12 := w_2
  have hP9 := hP
  have hD9 := hD
  have hK9 := hK
  exact W.vret hx hb hr (fun t ht hW => ⟨⟨(o_3, o_4, o_5, o_6), rfl, (by (try dsimp only); omega), by rw [ht]; exact hP9, va_K.moved hW.alike hK9, hD9⟩, hS.F ht⟩) hS.2.2 dX2_copyTo_10

set_option maxHeartbeats 4000000 in
set_option maxRecDepth 100000 in
theorem c_X2_isJoined (l : Launch) (dC : Nat → ClassId) (dI : Nat → Nat → Nat) (q_t : Nat) (q_row : Nat) (q_joined : Nat) (q_from : Nat) (q_to : Nat) (q_size : Nat) (q_lossOf : Nat) (q_lessBy : Nat) (q_value : Nat) (q_number : Nat) (nodes : Int32) (here : Int32) (cyI : ClassId) (fs : Nat → Int32) (fo : Nat → Int32) (uv : Nat → Int32) (un : Nat → Int32) (j_v : Nat) (j_n : Nat) (js : Int32) (jl : Int32) (je : Int32) (jv : Nat → Int32) (jn : Nat → Int32) (p0 : Int32) (b0 : 0 ≤ p0.toInt) (b1 : p0.toInt < 319) (j0 : 0 ≤ js.toInt) (j1 : js.toInt ≤ 12) : Met l yX2_isJoined wsX2_isJoined ({ frames := 0, cells := 0, slots := 0, locals := 0 }) (va_Pc [.ref q_t, .int p0] (fun U => va_P (dC, dI) vwCl [kx_2 q_t q_row q_joined q_from q_to q_size q_lossOf q_lessBy q_value q_number nodes here, kx_a q_size cyI 319 fs, kx_a q_lossOf cyI 319 fo, kx_a q_value cyI 1914 uv, kx_a q_number cyI 1914 un, kx_3 q_joined j_v j_n js jl je, kx_a j_v cyI 12 jv, kx_a j_n cyI 12 jn] U.heap ∧ va_K (dC, dI) vwCl [(cyI, .int)] U)) (vp_Si (fun r : Int32 => (r = 1 ∧ (0 : Int) ≤ 1) ∨ (r = 0 ∧ (0 : Int) ≤ 1))) 0 0 (fun _ => False) := by
  refine Met.ofW (cc := cX2_isJoined) (maxL := 4) (ret := (some .boolean)) (by decide) rfl ?_
  intro p e s m args below meth c s₁ B hml hv
  obtain ⟨rfl, hP, hK⟩ := hv
  have hx := B.exec
  have hb := B.bytes
  have hr := B.returns
  have hts := atoms_spec (ws := wsX2_isJoined) B.pre
  have hown : s.vm.findClass RX2 = some m.cls := findClass_of_methodNamed B.named
  have hlocks := B.notSynchronized
  have hP : va_P (dC, dI) vwCl [kx_2 q_t q_row q_joined q_from q_to q_size q_lossOf q_lessBy q_value q_number nodes here, kx_a q_size cyI 319 fs, kx_a q_lossOf cyI 319 fo, kx_a q_value cyI 1914 uv, kx_a q_number cyI 1914 un, kx_3 q_joined j_v j_n js jl je, kx_a j_v cyI 12 jv, kx_a j_n cyI 12 jn] s.heap := hP
  have hl := lv_entry ([.ref q_t, .int p0]) (n := 4) (Nat.le_of_ble_eq_true rfl)
  rw [lg_entry_eq]
  generalize (lg_sl ([.ref q_t, .int p0]) ++ List.replicate (4 - (lg_sl ([.ref q_t, .int p0])).length) Slot.unset).toArray = ls at hl ⊢
  have hl : lv_has ls 4 [(0, .ref q_t), (1, .int p0)] := hl
  have hf_25 := hts (.fieldLink RX2 25 "MajorityIndex$Tree" "size" "[I") (List.mem_of_getElem? (i := 1) rfl)
  have hi_2 : ∀ w ∈ u_ws RX2 TX2 11, w ∈ wsX2_isJoined := fun w h => List.mem_cons_of_mem _ (List.mem_append_left _ (List.mem_append_right _ h))
  have hf_12 := hts (.fieldLink RX2 12 "MajorityIndex$Tree" "joined" "LMajorityIndex$Votes;") (List.mem_of_getElem? (i := 2) rfl)
  have hf_94 := hts (.fieldLink RX2 94 "MajorityIndex$Votes" "size" "I") (List.mem_of_getElem? (i := 3) rfl)
  have hi_3 : ∀ w ∈ u_ws RX3 TX3 5, w ∈ wsX2_isJoined := fun w h => List.mem_cons_of_mem _ (List.mem_append_right _ h)
  have hf_28 := hts (.fieldLink RX2 28 "MajorityIndex$Tree" "lossOf" "[I") (List.mem_of_getElem? (i := 4) rfl)
  have hf_91 := hts (.fieldLink RX2 91 "MajorityIndex$Votes" "lost" "I") (List.mem_of_getElem? (i := 5) rfl)
  have hf_34 := hts (.fieldLink RX2 34 "MajorityIndex$Tree" "value" "[I") (List.mem_of_getElem? (i := 6) rfl)
  have hf_96 := hts (.fieldLink RX2 96 "MajorityIndex$Votes" "value" "[I") (List.mem_of_getElem? (i := 7) rfl)
  have hf_37 := hts (.fieldLink RX2 37 "MajorityIndex$Tree" "number" "[I") (List.mem_of_getElem? (i := 8) rfl)
  have hf_97 := hts (.fieldLink RX2 97 "MajorityIndex$Votes" "number" "[I") (List.mem_of_getElem? (i := 9) rfl)
  refine lv_aload_n hx hb dX2_isJoined_0 rfl (lv_at hl 0 rfl) ?_
  refine va_get (D := (dC, dI)) (ci := 2) (v := .ref q_size) (C := RX2) (T := TX2) (N := 11) hx hb hts hi_2 hown hK hP 0 rfl rfl 4 (by decide) hf_25 (fun _ h9 => h9) rfl dX2_isJoined_1 ?_
  refine lv_iload_n hx hb dX2_isJoined_4 rfl (lv_at hl 1 rfl) ?_
  refine va_iald hx hb hK hP 1 0 rfl rfl (ki_in (om_8 b0) (om_54 b1)) dX2_isJoined_5 ?_
  refine lv_topi (fun y_1 ey_1 => ?_)
  have j_1 : y_1.toInt = (fs p0.toNatClampNeg).toInt := congrArg Int32.toInt ey_1
  refine lv_aload_n hx hb dX2_isJoined_6 rfl (lv_at hl 0 rfl) ?_
  refine va_get (D := (dC, dI)) (ci := 2) (v := .ref q_joined) (C := RX2) (T := TX2) (N := 11) hx hb hts hi_2 hown hK hP 0 rfl rfl 1 (by decide) hf_12 (fun _ h9 => h9) rfl dX2_isJoined_7 ?_
  refine va_get (D := (dC, dI)) (ci := 3) (v := .int js) (C := RX3) (T := TX3) (N := 5) hx hb hts hi_3 hown hK hP 5 rfl rfl 2 (by decide) hf_94 (fun _ h9 => h9) rfl dX2_isJoined_10 ?_
  refine lv_icmp_ne (tgt := 32) hx hb dX2_isJoined_13 (by decide) (fun c_2 => ?_) (fun c_2 => ?_)
  · have i_2 : ¬ y_1.toInt = js.toInt := kc_ne c_2
    refine lv_iconst (v := 0) hx hb dX2_isJoined_32 (by decide) ?_
    exact W.zret (v := 0) hx hb hr (by decide) (fun t ht hW => ⟨0, rfl, Or.inr (⟨rfl, by omega⟩), ht⟩) (fun q hq => by cases hq) dX2_isJoined_33
  · have i_2 : y_1.toInt = js.toInt := kc_eq c_2
    refine lv_aload_n hx hb dX2_isJoined_16 rfl (lv_at hl 0 rfl) ?_
    refine va_get (D := (dC, dI)) (ci := 2) (v := .ref q_lossOf) (C := RX2) (T := TX2) (N := 11) hx hb hts hi_2 hown hK hP 0 rfl rfl 5 (by decide) hf_28 (fun _ h9 => h9) rfl dX2_isJoined_17 ?_
    refine lv_iload_n hx hb dX2_isJoined_20 rfl (lv_at hl 1 rfl) ?_
    refine va_iald hx hb hK hP 2 0 rfl rfl (ki_in (om_8 b0) (om_54 b1)) dX2_isJoined_21 ?_
    refine lv_topi (fun y_3 ey_3 => ?_)
    have j_3 : y_3.toInt = (fo p0.toNatClampNeg).toInt := congrArg Int32.toInt ey_3
    refine lv_aload_n hx hb dX2_isJoined_22 rfl (lv_at hl 0 rfl) ?_
    refine va_get (D := (dC, dI)) (ci := 2) (v := .ref q_joined) (C := RX2) (T := TX2) (N := 11) hx hb hts hi_2 hown hK hP 0 rfl rfl 1 (by decide) hf_12 (fun _ h9 => h9) rfl dX2_isJoined_23 ?_
    refine va_get (D := (dC, dI)) (ci := 3) (v := .int jl) (C := RX3) (T := TX3) (N := 5) hx hb hts hi_3 hown hK hP 5 rfl rfl 3 (by decide) hf_91 (fun _ h9 => h9) rfl dX2_isJoined_26 ?_
    refine lv_icmp_eq (tgt := 34) hx hb dX2_isJoined_29 (by decide) (fun c_4 => ?_) (fun c_4 => ?_)
    · have i_4 : y_3.toInt = jl.toInt := kc_eq c_4
      refine lv_iload_n hx hb dX2_isJoined_34 rfl (lv_at hl 1 rfl) ?_
      refine lv_bipush (v := 6) hx hb dX2_isJoined_35 (by decide) ?_
      refine lv_imul hx hb dX2_isJoined_37 ?_
      refine lv_topi (fun y_5 ey_5 => ?_)
      have i_5 : y_5.toInt = p0.toInt * 6 := ki_mul ey_5 rfl rfl (om_76 b0) (om_77 b1)
      refine lv_istore_n (lv' := [(2, .int y_5), (0, .ref q_t), (1, .int p0)]) hx hb dX2_isJoined_38 rfl hl (by decide) rfl (fun ls hl => ?_)
      refine lv_iconst (v := 0) hx hb dX2_isJoined_39 (by decide) ?_
      refine lv_istore_n (lv' := [(3, .int 0), (2, .int y_5), (0, .ref q_t), (1, .int p0)]) hx hb dX2_isJoined_40 rfl hl (by decide) rfl (fun ls hl => ?_)
      have LP1 : ∀ (n : Nat) (i : Int32), (0 ≤ i.toInt) → (6 - i.toInt).toNat < n → ∀ (ls : Array Slot), lv_has ls 4 [(3, .int i), (2, .int y_5), (0, .ref q_t), (1, .int p0)] → W p l e (headSpec wsX2_isJoined ({ frames := 0, cells := 0, slots := 0, locals := 0 })).room s m ([.ref q_t, .int p0] : List Value).toArray below meth c s.heap [] 0 0 (MQ below (vp_Si (fun r : Int32 => (r = 1 ∧ (0 : Int) ≤ 1) ∨ (r = 0 ∧ (0 : Int) ≤ 1))) ([.ref q_t, .int p0] : List Value).toArray s 0 0 (fun _ => False)) (F0 m 41 ls []) := by
        intro n
        induction n with
        | zero => intro i LP1_h0 hn; exact absurd hn (Nat.not_lt_zero _)
        | succ n ih1 =>
          intro i LP1_h0 hn1 ls hl
          refine lv_iload_n hx hb dX2_isJoined_41 rfl (lv_at hl 0 rfl) ?_
          refine lv_aload_n hx hb dX2_isJoined_42 rfl (lv_at hl 2 rfl) ?_
          refine va_get (D := (dC, dI)) (ci := 2) (v := .ref q_joined) (C := RX2) (T := TX2) (N := 11) hx hb hts hi_2 hown hK hP 0 rfl rfl 1 (by decide) hf_12 (fun _ h9 => h9) rfl dX2_isJoined_43 ?_
          refine va_get (D := (dC, dI)) (ci := 3) (v := .int js) (C := RX3) (T := TX3) (N := 5) hx hb hts hi_3 hown hK hP 5 rfl rfl 2 (by decide) hf_94 (fun _ h9 => h9) rfl dX2_isJoined_46 ?_
          refine lv_icmp_ge (tgt := 106) hx hb dX2_isJoined_49 (by decide) (fun c_6 => ?_) (fun c_6 => ?_)
          · have i_6 : js.toInt ≤ i.toInt := kc_le c_6
            refine lv_iconst (v := 1) hx hb dX2_isJoined_106 (by decide) ?_
            exact W.zret (v := 1) hx hb hr (by decide) (fun t ht hW => ⟨1, rfl, Or.inl ⟨rfl, by omega⟩, ht⟩) (fun q hq => by cases hq) dX2_isJoined_107
          · have i_6 : i.toInt < js.toInt := kc_nle c_6
            refine lv_iload_n hx hb dX2_isJoined_52 rfl (lv_at hl 0 rfl) ?_
            refine lv_bipush (v := 6) hx hb dX2_isJoined_53 (by decide) ?_
            refine lv_icmp_ge (tgt := 106) hx hb dX2_isJoined_55 (by decide) (fun c_7 => ?_) (fun c_7 => ?_)
            · have i_7 : 6 ≤ i.toInt := kc_le c_7
              refine lv_iconst (v := 1) hx hb dX2_isJoined_106 (by decide) ?_
              exact W.zret (v := 1) hx hb hr (by decide) (fun t ht hW => ⟨1, rfl, Or.inl ⟨rfl, by omega⟩, ht⟩) (fun q hq => by cases hq) dX2_isJoined_107
            · have i_7 : i.toInt < 6 := kc_nle c_7
              refine lv_aload_n hx hb dX2_isJoined_58 rfl (lv_at hl 2 rfl) ?_
              refine va_get (D := (dC, dI)) (ci := 2) (v := .ref q_value) (C := RX2) (T := TX2) (N := 11) hx hb hts hi_2 hown hK hP 0 rfl rfl 7 (by decide) hf_34 (fun _ h9 => h9) rfl dX2_isJoined_59 ?_
              refine lv_iload_n hx hb dX2_isJoined_62 rfl (lv_at hl 1 rfl) ?_
              refine lv_iload_n hx hb dX2_isJoined_63 rfl (lv_at hl 0 rfl) ?_
              refine lv_iadd hx hb dX2_isJoined_64 ?_
              refine lv_topi (fun y_8 ey_8 => ?_)
              have i_8 : y_8.toInt = y_5.toInt + i.toInt := ki_add ey_8 rfl rfl (om_78 b0 i_5 LP1_h0) (om_82 b1 i_5 i_7)
              refine va_iald hx hb hK hP 3 0 rfl rfl (ki_in (om_79 b0 i_5 LP1_h0 i_8) (om_83 b1 i_5 i_7 i_8)) dX2_isJoined_65 ?_
              refine lv_topi (fun y_9 ey_9 => ?_)
              have j_9 : y_9.toInt = (uv y_8.toNatClampNeg).toInt := congrArg Int32.toInt ey_9
              refine lv_aload_n hx hb dX2_isJoined_66 rfl (lv_at hl 2 rfl) ?_
              refine va_get (D := (dC, dI)) (ci := 2) (v := .ref q_joined) (C := RX2) (T := TX2) (N := 11) hx hb hts hi_2 hown hK hP 0 rfl rfl 1 (by decide) hf_12 (fun _ h9 => h9) rfl dX2_isJoined_67 ?_
              refine va_get (D := (dC, dI)) (ci := 3) (v := .ref j_v) (C := RX3) (T := TX3) (N := 5) hx hb hts hi_3 hown hK hP 5 rfl rfl 0 (by decide) hf_96 (fun _ h9 => h9) rfl dX2_isJoined_70 ?_
              refine lv_iload_n hx hb dX2_isJoined_73 rfl (lv_at hl 0 rfl) ?_
              refine va_iald hx hb hK hP 6 0 rfl rfl (ki_in (om_8 LP1_h0) (om_84 i_7)) dX2_isJoined_74 ?_
              refine lv_topi (fun y_10 ey_10 => ?_)
              have j_10 : y_10.toInt = (jv i.toNatClampNeg).toInt := congrArg Int32.toInt ey_10
              refine lv_icmp_ne (tgt := 98) hx hb dX2_isJoined_75 (by decide) (fun c_11 => ?_) (fun c_11 => ?_)
              · have i_11 : ¬ y_9.toInt = y_10.toInt := kc_ne c_11
                refine lv_iconst (v := 0) hx hb dX2_isJoined_98 (by decide) ?_
                exact W.zret (v := 0) hx hb hr (by decide) (fun t ht hW => ⟨0, rfl, Or.inr (⟨rfl, by omega⟩), ht⟩) (fun q hq => by cases hq) dX2_isJoined_99
              · have i_11 : y_9.toInt = y_10.toInt := kc_eq c_11
                refine lv_aload_n hx hb dX2_isJoined_78 rfl (lv_at hl 2 rfl) ?_
                refine va_get (D := (dC, dI)) (ci := 2) (v := .ref q_number) (C := RX2) (T := TX2) (N := 11) hx hb hts hi_2 hown hK hP 0 rfl rfl 8 (by decide) hf_37 (fun _ h9 => h9) rfl dX2_isJoined_79 ?_
                refine lv_iload_n hx hb dX2_isJoined_82 rfl (lv_at hl 1 rfl) ?_
                refine lv_iload_n hx hb dX2_isJoined_83 rfl (lv_at hl 0 rfl) ?_
                refine lv_iadd hx hb dX2_isJoined_84 ?_
                refine lv_topi (fun y_12 ey_12 => ?_)
                have i_12 : y_12.toInt = y_5.toInt + i.toInt := ki_add ey_12 rfl rfl (om_78 b0 i_5 LP1_h0) (om_82 b1 i_5 i_7)
                refine va_iald hx hb hK hP 4 0 rfl rfl (ki_in (om_79 b0 i_5 LP1_h0 i_12) (om_83 b1 i_5 i_7 i_12)) dX2_isJoined_85 ?_
                refine lv_topi (fun y_13 ey_13 => ?_)
                have j_13 : y_13.toInt = (un y_12.toNatClampNeg).toInt := congrArg Int32.toInt ey_13
                refine lv_aload_n hx hb dX2_isJoined_86 rfl (lv_at hl 2 rfl) ?_
                refine va_get (D := (dC, dI)) (ci := 2) (v := .ref q_joined) (C := RX2) (T := TX2) (N := 11) hx hb hts hi_2 hown hK hP 0 rfl rfl 1 (by decide) hf_12 (fun _ h9 => h9) rfl dX2_isJoined_87 ?_
                refine va_get (D := (dC, dI)) (ci := 3) (v := .ref j_n) (C := RX3) (T := TX3) (N := 5) hx hb hts hi_3 hown hK hP 5 rfl rfl 1 (by decide) hf_97 (fun _ h9 => h9) rfl dX2_isJoined_90 ?_
                refine lv_iload_n hx hb dX2_isJoined_93 rfl (lv_at hl 0 rfl) ?_
                refine va_iald hx hb hK hP 7 0 rfl rfl (ki_in (om_8 LP1_h0) (om_84 i_7)) dX2_isJoined_94 ?_
                refine lv_topi (fun y_14 ey_14 => ?_)
                have j_14 : y_14.toInt = (jn i.toNatClampNeg).toInt := congrArg Int32.toInt ey_14
                refine lv_icmp_eq (tgt := 100) hx hb dX2_isJoined_95 (by decide) (fun c_15 => ?_) (fun c_15 => ?_)
                · have i_15 : y_13.toInt = y_14.toInt := kc_eq c_15
                  obtain ⟨x_16, ex_16⟩ : ∃ y : Int32, y = i + 1 := ⟨_, rfl⟩
                  have i_16 : x_16.toInt = i.toInt + 1 := ki_add ex_16 rfl rfl (om_10 LP1_h0) (om_85 i_7)
                  refine lv_iinc (v := x_16) (lv' := [(3, .int x_16), (2, .int y_5), (0, .ref q_t), (1, .int p0)]) hx hb dX2_isJoined_100 hl (k := 0) rfl (by rw [ex_16]; rfl) (by decide) rfl (fun ls hl => ?_)
                  refine lv_goto (tgt := 41) hx hb dX2_isJoined_103 (by decide) ?_
                  exact ih1 x_16 (om_31 LP1_h0 i_16) (om_mu hn1 (om_80 i_16) (om_86 i_7)) ls (lv_sub hl [0, 1, 2, 3] rfl)
                · have i_15 : ¬ y_13.toInt = y_14.toInt := kc_ne c_15
                  refine lv_iconst (v := 0) hx hb dX2_isJoined_98 (by decide) ?_
                  exact W.zret (v := 0) hx hb hr (by decide) (fun t ht hW => ⟨0, rfl, Or.inr (⟨rfl, by omega⟩), ht⟩) (fun q hq => by cases hq) dX2_isJoined_99
      have k_17 : (0 : Int32).toInt = 0 := rfl
      exact LP1 ((6 - 0 : Int).toNat + 1) 0 om_32 (Nat.lt_succ_self _) ls (lv_sub hl [0, 1, 2, 3] rfl)
    · have i_4 : ¬ y_3.toInt = jl.toInt := kc_ne c_4
      refine lv_iconst (v := 0) hx hb dX2_isJoined_32 (by decide) ?_
      exact W.zret (v := 0) hx hb hr (by decide) (fun t ht hW => ⟨0, rfl, Or.inr (⟨rfl, by omega⟩), ht⟩) (fun q hq => by cases hq) dX2_isJoined_33

set_option maxHeartbeats 4000000 in
set_option maxRecDepth 100000 in
theorem c_X2_putTogether (l : Launch) (dC : Nat → ClassId) (dI : Nat → Nat → Nat) (q_t : Nat) (q_row : Nat) (q_joined : Nat) (q_from : Nat) (q_to : Nat) (q_size : Nat) (q_lossOf : Nat) (q_lessBy : Nat) (q_value : Nat) (q_number : Nat) (nodes : Int32) (here : Int32) (q_cell : Nat) (cyI : ClassId) (len : Int32) (f : Nat → Int32) (ff : Nat → Int32) (ft : Nat → Int32) (fs : Nat → Int32) (fo : Nat → Int32) (uv : Nat → Int32) (un : Nat → Int32) (j_v : Nat) (j_n : Nat) (js : Int32) (jl : Int32) (je : Int32) (jv : Nat → Int32) (jn : Nat → Int32) (p0 : Int32) (sz : Nat) (b0 : 0 ≤ p0.toInt) (b1 : p0.toInt < nodes.toInt) (c0 : nodes.toInt ≤ 319) (c1 : len.toInt ≤ 160) (s0 : sixes fs) (t0 : treeOk ff ft nodes.toInt len.toInt) : Met l yX2_putTogether wsX2_putTogether ({ frames := 3, cells := 0, slots := 0, locals := 135 }) (va_Pc [.ref q_t, .int p0] (fun U => U.heap.size = sz ∧ va_P (dC, dI) vwCl [kx_2 q_t q_row q_joined q_from q_to q_size q_lossOf q_lessBy q_value q_number nodes here, kx_0 q_row q_cell len, kx_a q_cell cyI 160 f, kx_a q_from cyI 319 ff, kx_a q_to cyI 319 ft, kx_a q_size cyI 319 fs, kx_a q_lossOf cyI 319 fo, kx_a q_value cyI 1914 uv, kx_a q_number cyI 1914 un, kx_3 q_joined j_v j_n js jl je, kx_a j_v cyI 12 jv, kx_a j_n cyI 12 jn] U.heap ∧ va_K (dC, dI) vwCl [(cyI, .int)] U ∧ va_D (fun _ => True) [kx_2 q_t q_row q_joined q_from q_to q_size q_lossOf q_lessBy q_value q_number nodes here, kx_0 q_row q_cell len, kx_a q_cell cyI 160 f, kx_a q_from cyI 319 ff, kx_a q_to cyI 319 ft, kx_a q_size cyI 319 fs, kx_a q_lossOf cyI 319 fo, kx_a q_value cyI 1914 uv, kx_a q_number cyI 1914 un, kx_3 q_joined j_v j_n js jl je, kx_a j_v cyI 12 jv, kx_a j_n cyI 12 jn])) (va_Qv (fun u : Int32 × Int32 × Int32 × (Nat → Int32) × (Nat → Int32) => 0 ≤ u.1.toInt ∧ u.1.toInt ≤ 12) (fun (u : Int32 × Int32 × Int32 × (Nat → Int32) × (Nat → Int32)) (t : State) => va_P (dC, dI) vwCl [kx_2 q_t q_row q_joined q_from q_to q_size q_lossOf q_lessBy q_value q_number nodes here, kx_0 q_row q_cell len, kx_a q_cell cyI 160 f, kx_a q_from cyI 319 ff, kx_a q_to cyI 319 ft, kx_a q_size cyI 319 fs, kx_a q_lossOf cyI 319 fo, kx_a q_value cyI 1914 uv, kx_a q_number cyI 1914 un, kx_3 q_joined j_v j_n u.1 u.2.1 u.2.2.1, kx_a j_v cyI 12 u.2.2.2.1, kx_a j_n cyI 12 u.2.2.2.2] t.heap ∧ va_K (dC, dI) vwCl [(cyI, .int)] t ∧ va_D (va_A [kx_2 q_t q_row q_joined q_from q_to q_size q_lossOf q_lessBy q_value q_number nodes here, kx_0 q_row q_cell len, kx_a q_cell cyI 160 f, kx_a q_from cyI 319 ff, kx_a q_to cyI 319 ft, kx_a q_size cyI 319 fs, kx_a q_lossOf cyI 319 fo, kx_a q_value cyI 1914 uv, kx_a q_number cyI 1914 un, kx_3 q_joined j_v j_n js jl je, kx_a j_v cyI 12 jv, kx_a j_n cyI 12 jn] sz) [kx_2 q_t q_row q_joined q_from q_to q_size q_lossOf q_lessBy q_value q_number nodes here, kx_0 q_row q_cell len, kx_a q_cell cyI 160 f, kx_a q_from cyI 319 ff, kx_a q_to cyI 319 ft, kx_a q_size cyI 319 fs, kx_a q_lossOf cyI 319 fo, kx_a q_value cyI 1914 uv, kx_a q_number cyI 1914 un, kx_3 q_joined j_v j_n u.1 u.2.1 u.2.2.1, kx_a j_v cyI 12 u.2.2.2.1, kx_a j_n cyI 12 u.2.2.2.2]) (va_A [kx_2 q_t q_row q_joined q_from q_to q_size q_lossOf q_lessBy q_value q_number nodes here, kx_0 q_row q_cell len, kx_a q_cell cyI 160 f, kx_a q_from cyI 319 ff, kx_a q_to cyI 319 ft, kx_a q_size cyI 319 fs, kx_a q_lossOf cyI 319 fo, kx_a q_value cyI 1914 uv, kx_a q_number cyI 1914 un, kx_3 q_joined j_v j_n js jl je, kx_a j_v cyI 12 jv, kx_a j_n cyI 12 jn] sz)) 0 0 (va_A [kx_2 q_t q_row q_joined q_from q_to q_size q_lossOf q_lessBy q_value q_number nodes here, kx_0 q_row q_cell len, kx_a q_cell cyI 160 f, kx_a q_from cyI 319 ff, kx_a q_to cyI 319 ft, kx_a q_size cyI 319 fs, kx_a q_lossOf cyI 319 fo, kx_a q_value cyI 1914 uv, kx_a q_number cyI 1914 un, kx_3 q_joined j_v j_n js jl je, kx_a j_v cyI 12 jv, kx_a j_n cyI 12 jn] sz) := by
  refine Met.ofW (cc := cX2_putTogether) (maxL := 2) (ret := none) (by decide) rfl ?_
  intro p e s m args below meth c s₁ B hml hv
  obtain ⟨rfl, hsz, hP, hK, hD0⟩ := hv
  have hx := B.exec
  have hb := B.bytes
  have hr := B.returns
  have hts := atoms_spec (ws := wsX2_putTogether) B.pre
  have hown : s.vm.findClass RX2 = some m.cls := findClass_of_methodNamed B.named
  have hlocks := B.notSynchronized
  subst hsz
  have hD := hD0.self (sz := s.heap.size)
  generalize hAe : va_A [kx_2 q_t q_row q_joined q_from q_to q_size q_lossOf q_lessBy q_value q_number nodes here, kx_0 q_row q_cell len, kx_a q_cell cyI 160 f, kx_a q_from cyI 319 ff, kx_a q_to cyI 319 ft, kx_a q_size cyI 319 fs, kx_a q_lossOf cyI 319 fo, kx_a q_value cyI 1914 uv, kx_a q_number cyI 1914 un, kx_3 q_joined j_v j_n js jl je, kx_a j_v cyI 12 jv, kx_a j_n cyI 12 jn] s.heap.size = A at hD ⊢
  have hA : ∀ q : Nat, s.heap.size ≤ q → A q := fun q h => by rw [← hAe]; exact Or.inr h
  have hS : va_S A s.heap s.heap [] := va_S.rf
  have hP : va_P (dC, dI) vwCl [kx_2 q_t q_row q_joined q_from q_to q_size q_lossOf q_lessBy q_value q_number nodes here, kx_0 q_row q_cell len, kx_a q_cell cyI 160 f, kx_a q_from cyI 319 ff, kx_a q_to cyI 319 ft, kx_a q_size cyI 319 fs, kx_a q_lossOf cyI 319 fo, kx_a q_value cyI 1914 uv, kx_a q_number cyI 1914 un, kx_3 q_joined j_v j_n js jl je, kx_a j_v cyI 12 jv, kx_a j_n cyI 12 jn] s.heap := hP
  have hl := lv_entry ([.ref q_t, .int p0]) (n := 2) (Nat.le_of_ble_eq_true rfl)
  rw [lg_entry_eq]
  generalize (lg_sl ([.ref q_t, .int p0]) ++ List.replicate (2 - (lg_sl ([.ref q_t, .int p0])).length) Slot.unset).toArray = ls at hl ⊢
  have hl : lv_has ls 2 [(0, .ref q_t), (1, .int p0)] := hl
  have hf_12 := hts (.fieldLink RX2 12 "MajorityIndex$Tree" "joined" "LMajorityIndex$Votes;") (List.mem_of_getElem? (i := 1) rfl)
  have hi_2 : ∀ w ∈ u_ws RX2 TX2 11, w ∈ wsX2_putTogether := fun w h => List.mem_cons_of_mem _ (List.mem_append_left _ (List.mem_append_left _ (List.mem_append_right _ h)))
  have hf_22 := hts (.fieldLink RX2 22 "MajorityIndex$Tree" "to" "[I") (List.mem_of_getElem? (i := 2) rfl)
  have hf_18 := hts (.fieldLink RX2 18 "MajorityIndex$Tree" "from" "[I") (List.mem_of_getElem? (i := 3) rfl)
  have hf_85 := hts (.fieldLink RX2 85 "MajorityIndex$Tree" "slotsHere" "I") (List.mem_of_getElem? (i := 6) rfl)
  have hf_40 := hts (.fieldLink RX2 40 "MajorityIndex$Tree" "row" "LMajorityIndex$Row;") (List.mem_of_getElem? (i := 4) rfl)
  have hf_74 := hts (.fieldLink RX2 74 "MajorityIndex$Row" "cell" "[I") (List.mem_of_getElem? (i := 5) rfl)
  have hi_0 : ∀ w ∈ u_ws RX0 TX0 2, w ∈ wsX2_putTogether := fun w h => List.mem_cons_of_mem _ (List.mem_append_left _ (List.mem_append_right _ h))
  refine lv_aload_n hx hb dX2_putTogether_0 rfl (lv_at hl 0 rfl) ?_
  refine va_get (D := (dC, dI)) (ci := 2) (v := .ref q_joined) (C := RX2) (T := TX2) (N := 11) hx hb hts hi_2 hown hK hP 0 rfl rfl 1 (by decide) hf_12 (fun _ h9 => h9) rfl dX2_putTogether_1 ?_
  have hPc := hP.sub (ws' := [kx_3 q_joined j_v j_n js jl je]) [9] rfl
  have hKc := hK.sub (tys' := []) [] rfl
  have hDc := hD.sub (ws' := [kx_3 q_joined j_v j_n js jl je]) [9] (by decide) rfl
  have hFc := va_free (wc := [kx_3 q_joined j_v j_n js jl je]) hD hS hA [9] rfl
  refine va_callv (va_runV (As := []) (rest := []) ⟨hx, hb, hml, hown, hts⟩ (c_X3_clear l dC dI q_joined j_v j_n js jl je s.heap.size) (cwV 0 hts gX2_putTogether_X3_clear rfl rfl rfl (by decide +kernel) ⟨Nat.le_of_ble_eq_true rfl, Nat.le_of_ble_eq_true rfl⟩) ⟨fun a U g mk q => by obtain ⟨q0, q1, qP, qK, qD⟩ := q; exact ⟨q0, q1, qP, va_K.moved (u := U) (U := U.calling g mk a) (Vm.Alike.refl U.vm) qK, qD⟩, va_recv hKc hPc (ci := 3) (q0 := 0) rfl rfl, fun U hU hW => ⟨rfl, by rw [hU], by rw [hU]; exact hPc, va_K.moved hW.alike hKc, hDc.weaken (fun _ _ _ _ => trivial)⟩⟩ rfl rfl hl.1 rfl (lv_room (Nat.le_of_ble_eq_true rfl)) dX2_putTogether_4 ⟨Nat.le_of_ble_eq_true rfl, Nat.le_of_ble_eq_true rfl⟩) hS (fun q _ h => hFc q h) hFc (fun u t H1 locs ht hvm w_1 hB hz1 hk1 hS => ?_)
  obtain ⟨hP1, hK1, hD1⟩ := hB
  rw [ht] at hP1
  have hK1 := va_K.moved hvm.symm hK1
  obtain ⟨hP, hD⟩ := va_join (wr := [kx_2 q_t q_row q_joined q_from q_to q_size q_lossOf q_lessBy q_value q_number nodes here, kx_0 q_row q_cell len, kx_a q_cell cyI 160 f, kx_a q_from cyI 319 ff, kx_a q_to cyI 319 ft, kx_a q_size cyI 319 fs, kx_a q_lossOf cyI 319 fo, kx_a q_value cyI 1914 uv, kx_a q_number cyI 1914 un, kx_a j_v cyI 12 jv, kx_a j_n cyI 12 jn]) (w1 := [kx_3 q_joined j_v j_n 0 0 0]) hP hD [9] [0, 1, 2, 3, 4, 5, 6, 7, 8, 10, 11] rfl rfl (by decide) (by decide) hk1 hFc hP1 hD1
  clear hP1 hD1 hK1 hk1 hz1 hFc hDc hPc hKc
  generalize H1 = H at hP hS ⊢
  have hP : va_P (dC, dI) vwCl [kx_2 q_t q_row q_joined q_from q_to q_size q_lossOf q_lessBy q_value q_number nodes here, kx_0 q_row q_cell len, kx_a q_cell cyI 160 f, kx_a q_from cyI 319 ff, kx_a q_to cyI 319 ft, kx_a q_size cyI 319 fs, kx_a q_lossOf cyI 319 fo, kx_a q_value cyI 1914 uv, kx_a q_number cyI 1914 un, kx_a j_v cyI 12 jv, kx_a j_n cyI 12 jn, kx_3 q_joined j_v j_n 0 0 0] H := hP
  have hD : va_D A [kx_2 q_t q_row q_joined q_from q_to q_size q_lossOf q_lessBy q_value q_number nodes here, kx_0 q_row q_cell len, kx_a q_cell cyI 160 f, kx_a q_from cyI 319 ff, kx_a q_to cyI 319 ft, kx_a q_size cyI 319 fs, kx_a q_lossOf cyI 319 fo, kx_a q_value cyI 1914 uv, kx_a q_number cyI 1914 un, kx_a j_v cyI 12 jv, kx_a j_n cyI 12 jn, kx_3 q_joined j_v j_n 0 0 0] := hD
  have k_0 : (0 : Int32).toInt = 0 := rfl
  refine lv_aload_n hx hb dX2_putTogether_7 rfl (lv_at hl 0 rfl) ?_
  refine va_get (D := (dC, dI)) (ci := 2) (v := .ref q_to) (C := RX2) (T := TX2) (N := 11) hx hb hts hi_2 hown hK hP 0 rfl rfl 3 (by decide) hf_22 (fun _ h9 => h9) rfl dX2_putTogether_8 ?_
  refine lv_iload_n hx hb dX2_putTogether_11 rfl (lv_at hl 1 rfl) ?_
  refine va_iald hx hb hK hP 4 0 rfl rfl (ki_in (om_8 b0) (om_87 b1 c0)) dX2_putTogether_12 ?_
  refine lv_topi (fun y_2 ey_2 => ?_)
  have j_2 : y_2.toInt = (ft p0.toNatClampNeg).toInt := congrArg Int32.toInt ey_2
  have n_3 : (p0.toNatClampNeg : Int) = p0.toInt := ki_nat _ rfl (om_8 b0)
  have i_4 := t0 p0.toNatClampNeg (by omega)
  unfold okAt at i_4
  refine lv_aload_n hx hb dX2_putTogether_13 rfl (lv_at hl 0 rfl) ?_
  refine va_get (D := (dC, dI)) (ci := 2) (v := .ref q_from) (C := RX2) (T := TX2) (N := 11) hx hb hts hi_2 hown hK hP 0 rfl rfl 2 (by decide) hf_18 (fun _ h9 => h9) rfl dX2_putTogether_14 ?_
  refine lv_iload_n hx hb dX2_putTogether_17 rfl (lv_at hl 1 rfl) ?_
  refine va_iald hx hb hK hP 3 0 rfl rfl (ki_in (om_8 b0) (om_87 b1 c0)) dX2_putTogether_18 ?_
  refine lv_topi (fun y_5 ey_5 => ?_)
  have j_5 : y_5.toInt = (ff p0.toNatClampNeg).toInt := congrArg Int32.toInt ey_5
  have n_6 : (p0.toNatClampNeg : Int) = p0.toInt := ki_nat _ rfl (om_8 b0)
  have i_7 := t0 p0.toNatClampNeg (by omega)
  unfold okAt at i_7
  refine lv_isub hx hb dX2_putTogether_19 ?_
  refine lv_topi (fun y_8 ey_8 => ?_)
  have i_8 : y_8.toInt = y_2.toInt - y_5.toInt := ki_sub ey_8 rfl rfl (by omega) (by omega)
  refine lv_iconst (v := 1) hx hb dX2_putTogether_20 (by decide) ?_
  refine lv_icmp_ne (tgt := 49) hx hb dX2_putTogether_21 (by decide) (fun c_9 => ?_) (fun c_9 => ?_)
  · have i_9 : ¬ y_8.toInt = 1 := kc_ne c_9
    refine lv_aload_n hx hb dX2_putTogether_49 rfl (lv_at hl 0 rfl) ?_
    refine lv_aload_n hx hb dX2_putTogether_50 rfl (lv_at hl 0 rfl) ?_
    refine va_get (D := (dC, dI)) (ci := 2) (v := .ref q_joined) (C := RX2) (T := TX2) (N := 11) hx hb hts hi_2 hown hK hP 0 rfl rfl 1 (by decide) hf_12 (fun _ h9 => h9) rfl dX2_putTogether_51 ?_
    refine lv_iload_n hx hb dX2_putTogether_54 rfl (lv_at hl 1 rfl) ?_
    refine lv_iconst (v := 1) hx hb dX2_putTogether_55 (by decide) ?_
    refine lv_iadd hx hb dX2_putTogether_56 ?_
    refine lv_topi (fun y_10 ey_10 => ?_)
    have i_10 : y_10.toInt = p0.toInt + 1 := ki_add ey_10 rfl rfl (om_10 b0) (om_88 b1 c0)
    have hPc := hP.sub (ws' := [kx_2 q_t q_row q_joined q_from q_to q_size q_lossOf q_lessBy q_value q_number nodes here, kx_a q_size cyI 319 fs, kx_a q_lossOf cyI 319 fo, kx_a q_value cyI 1914 uv, kx_a q_number cyI 1914 un, kx_3 q_joined j_v j_n 0 0 0, kx_a j_v cyI 12 jv, kx_a j_n cyI 12 jn]) [0, 5, 6, 7, 8, 11, 9, 10] rfl
    have hKc := hK
    have hDc := hD.sub (ws' := [kx_2 q_t q_row q_joined q_from q_to q_size q_lossOf q_lessBy q_value q_number nodes here, kx_a q_size cyI 319 fs, kx_a q_lossOf cyI 319 fo, kx_a q_value cyI 1914 uv, kx_a q_number cyI 1914 un, kx_3 q_joined j_v j_n 0 0 0, kx_a j_v cyI 12 jv, kx_a j_n cyI 12 jn]) [0, 5, 6, 7, 8, 11, 9, 10] (by decide) rfl
    have hFc := va_free (wc := [kx_2 q_t q_row q_joined q_from q_to q_size q_lossOf q_lessBy q_value q_number nodes here, kx_a q_size cyI 319 fs, kx_a q_lossOf cyI 319 fo, kx_a q_value cyI 1914 uv, kx_a q_number cyI 1914 un, kx_3 q_joined j_v j_n 0 0 0, kx_a j_v cyI 12 jv, kx_a j_n cyI 12 jn]) hD hS hA [0, 5, 6, 7, 8, 11, 9, 10] rfl
    refine va_callv (va_runV (As := [.ref q_joined, .int y_10]) (rest := []) ⟨hx, hb, hml, hown, hts⟩ (c_X2_joinNode l dC dI q_t q_row q_joined q_from q_to q_size q_lossOf q_lessBy q_value q_number nodes here q_joined j_v j_n cyI 0 0 0 jv jn fs fo uv un y_10 H.size om_32 om_81 (om_31 b0 i_10) (by omega) s0) (cwV 2 hts gX2_putTogether_X2_joinNode rfl rfl rfl (by decide +kernel) ⟨Nat.le_of_ble_eq_true rfl, Nat.le_of_ble_eq_true rfl⟩) ⟨fun a U g mk q => by obtain ⟨q0, q1, qP, qK, qD⟩ := q; exact ⟨q0, q1, qP, va_K.moved (u := U) (U := U.calling g mk a) (Vm.Alike.refl U.vm) qK, qD⟩, va_recv hKc hPc (ci := 2) (q0 := 0) rfl rfl, fun U hU hW => ⟨rfl, by rw [hU], by rw [hU]; exact hPc, va_K.moved hW.alike hKc, hDc.weaken (fun _ _ _ _ => trivial)⟩⟩ rfl rfl hl.1 rfl (lv_room (Nat.le_of_ble_eq_true rfl)) dX2_putTogether_57 ⟨Nat.le_of_ble_eq_true rfl, Nat.le_of_ble_eq_true rfl⟩) hS (fun q _ h => hFc q h) hFc (fun u t H1 locs ht hvm w_11 hB hz1 hk1 hS => ?_)
    obtain ⟨o_12, o_13, o_14, o_15⟩ := u
    dsimp only at w_11 hB
    obtain ⟨hP1, hK1, hD1⟩ := hB
    rw [ht] at hP1
    have hK1 := va_K.moved hvm.symm hK1
    obtain ⟨hP, hD⟩ := va_join (wr := [kx_0 q_row q_cell len, kx_a q_cell cyI 160 f, kx_a q_from cyI 319 ff, kx_a q_to cyI 319 ft]) (w1 := [kx_2 q_t q_row q_joined q_from q_to q_size q_lossOf q_lessBy q_value q_number nodes here, kx_a q_size cyI 319 fs, kx_a q_lossOf cyI 319 fo, kx_a q_value cyI 1914 uv, kx_a q_number cyI 1914 un, kx_3 q_joined j_v j_n o_12 o_13 0, kx_a j_v cyI 12 o_14, kx_a j_n cyI 12 o_15]) hP hD [0, 5, 6, 7, 8, 11, 9, 10] [1, 2, 3, 4] rfl rfl (by decide) (by decide) hk1 hFc hP1 hD1
    clear hP1 hD1 hK1 hk1 hz1 hFc hDc hPc hKc
    generalize H1 = H at hP hS ⊢
    have hP : va_P (dC, dI) vwCl [kx_0 q_row q_cell len, kx_a q_cell cyI 160 f, kx_a q_from cyI 319 ff, kx_a q_to cyI 319 ft, kx_2 q_t q_row q_joined q_from q_to q_size q_lossOf q_lessBy q_value q_number nodes here, kx_a q_size cyI 319 fs, kx_a q_lossOf cyI 319 fo, kx_a q_value cyI 1914 uv, kx_a q_number cyI 1914 un, kx_3 q_joined j_v j_n o_12 o_13 0, kx_a j_v cyI 12 o_14, kx_a j_n cyI 12 o_15] H := hP
    have hD : va_D A [kx_0 q_row q_cell len, kx_a q_cell cyI 160 f, kx_a q_from cyI 319 ff, kx_a q_to cyI 319 ft, kx_2 q_t q_row q_joined q_from q_to q_size q_lossOf q_lessBy q_value q_number nodes here, kx_a q_size cyI 319 fs, kx_a q_lossOf cyI 319 fo, kx_a q_value cyI 1914 uv, kx_a q_number cyI 1914 un, kx_3 q_joined j_v j_n o_12 o_13 0, kx_a j_v cyI 12 o_14, kx_a j_n cyI 12 o_15] := hD
    have w_11 : 0 ≤ o_12.toInt ∧ o_12.toInt ≤ 12 := w_11
    refine lv_aload_n hx hb dX2_putTogether_60 rfl (lv_at hl 0 rfl) ?_
    refine lv_aload_n hx hb dX2_putTogether_61 rfl (lv_at hl 0 rfl) ?_
    refine va_get (D := (dC, dI)) (ci := 2) (v := .ref q_joined) (C := RX2) (T := TX2) (N := 11) hx hb hts hi_2 hown hK hP 4 rfl rfl 1 (by decide) hf_12 (fun _ h9 => h9) rfl dX2_putTogether_62 ?_
    refine lv_aload_n hx hb dX2_putTogether_65 rfl (lv_at hl 0 rfl) ?_
    refine lv_iload_n hx hb dX2_putTogether_66 rfl (lv_at hl 1 rfl) ?_
    have hPc := hP.sub (ws' := [kx_2 q_t q_row q_joined q_from q_to q_size q_lossOf q_lessBy q_value q_number nodes here, kx_a q_from cyI 319 ff, kx_a q_to cyI 319 ft]) [4, 2, 3] rfl
    have hKc := hK
    refine vp_callSi (W.runV (As := [.int p0]) (rest := [.ref q_joined, .ref q_t]) ⟨hx, hb, hml, hown, hts⟩ (c_X2_rightBelow l dC dI q_t q_row q_joined q_from q_to q_size q_lossOf q_lessBy q_value q_number nodes here cyI ff ft p0 b0 (om_89 b1 c0) (by omega) (by omega) (by omega)) (cwV 1 hts gX2_putTogether_X2_rightBelow rfl rfl rfl (by decide +kernel) ⟨Nat.le_of_ble_eq_true rfl, Nat.le_of_ble_eq_true rfl⟩) ⟨fun a U g mk q => by obtain ⟨q0, qP, qK⟩ := q; exact ⟨q0, qP, va_K.moved (u := U) (U := U.calling g mk a) (Vm.Alike.refl U.vm) qK⟩, va_recv hKc hPc (ci := 2) (q0 := 0) rfl rfl, fun U hU hW => ⟨rfl, by rw [hU]; exact hPc, va_K.moved hW.alike hKc⟩⟩ rfl rfl hl.1 rfl (lv_room (Nat.le_of_ble_eq_true rfl)) dX2_putTogether_67 ⟨Nat.le_of_ble_eq_true rfl, Nat.le_of_ble_eq_true rfl⟩) (fun r_16 w_16 => ?_)
    have w_16 : r_16.toInt = p0.toInt + 2 * (((ff p0.toNatClampNeg).toInt + (ft p0.toNatClampNeg).toInt) / 2 - (ff p0.toNatClampNeg).toInt) := w_16
    have hPc := hP.sub (ws' := [kx_2 q_t q_row q_joined q_from q_to q_size q_lossOf q_lessBy q_value q_number nodes here, kx_a q_size cyI 319 fs, kx_a q_lossOf cyI 319 fo, kx_a q_value cyI 1914 uv, kx_a q_number cyI 1914 un, kx_3 q_joined j_v j_n o_12 o_13 0, kx_a j_v cyI 12 o_14, kx_a j_n cyI 12 o_15]) [4, 5, 6, 7, 8, 9, 10, 11] rfl
    have hKc := hK
    have hDc := hD.sub (ws' := [kx_2 q_t q_row q_joined q_from q_to q_size q_lossOf q_lessBy q_value q_number nodes here, kx_a q_size cyI 319 fs, kx_a q_lossOf cyI 319 fo, kx_a q_value cyI 1914 uv, kx_a q_number cyI 1914 un, kx_3 q_joined j_v j_n o_12 o_13 0, kx_a j_v cyI 12 o_14, kx_a j_n cyI 12 o_15]) [4, 5, 6, 7, 8, 9, 10, 11] (by decide) rfl
    have hFc := va_free (wc := [kx_2 q_t q_row q_joined q_from q_to q_size q_lossOf q_lessBy q_value q_number nodes here, kx_a q_size cyI 319 fs, kx_a q_lossOf cyI 319 fo, kx_a q_value cyI 1914 uv, kx_a q_number cyI 1914 un, kx_3 q_joined j_v j_n o_12 o_13 0, kx_a j_v cyI 12 o_14, kx_a j_n cyI 12 o_15]) hD hS hA [4, 5, 6, 7, 8, 9, 10, 11] rfl
    refine va_callv (va_runV (As := [.ref q_joined, .int r_16]) (rest := []) ⟨hx, hb, hml, hown, hts⟩ (c_X2_joinNode l dC dI q_t q_row q_joined q_from q_to q_size q_lossOf q_lessBy q_value q_number nodes here q_joined j_v j_n cyI o_12 o_13 0 o_14 o_15 fs fo uv un r_16 H.size w_11.1 w_11.2 (by omega) (by omega) s0) (cwV 2 hts gX2_putTogether_X2_joinNode rfl rfl rfl (by decide +kernel) ⟨Nat.le_of_ble_eq_true rfl, Nat.le_of_ble_eq_true rfl⟩) ⟨fun a U g mk q => by obtain ⟨q0, q1, qP, qK, qD⟩ := q; exact ⟨q0, q1, qP, va_K.moved (u := U) (U := U.calling g mk a) (Vm.Alike.refl U.vm) qK, qD⟩, va_recv hKc hPc (ci := 2) (q0 := 0) rfl rfl, fun U hU hW => ⟨rfl, by rw [hU], by rw [hU]; exact hPc, va_K.moved hW.alike hKc, hDc.weaken (fun _ _ _ _ => trivial)⟩⟩ rfl rfl hl.1 rfl (lv_room (Nat.le_of_ble_eq_true rfl)) dX2_putTogether_70 ⟨Nat.le_of_ble_eq_true rfl, Nat.le_of_ble_eq_true rfl⟩) hS (fun q _ h => hFc q h) hFc (fun u t H1 locs ht hvm w_17 hB hz1 hk1 hS => ?_)
    obtain ⟨o_18, o_19, o_20, o_21⟩ := u
    dsimp only at w_17 hB
    obtain ⟨hP1, hK1, hD1⟩ := hB
    rw [ht] at hP1
    have hK1 := va_K.moved hvm.symm hK1
    obtain ⟨hP, hD⟩ := va_join (wr := [kx_0 q_row q_cell len, kx_a q_cell cyI 160 f, kx_a q_from cyI 319 ff, kx_a q_to cyI 319 ft]) (w1 := [kx_2 q_t q_row q_joined q_from q_to q_size q_lossOf q_lessBy q_value q_number nodes here, kx_a q_size cyI 319 fs, kx_a q_lossOf cyI 319 fo, kx_a q_value cyI 1914 uv, kx_a q_number cyI 1914 un, kx_3 q_joined j_v j_n o_18 o_19 0, kx_a j_v cyI 12 o_20, kx_a j_n cyI 12 o_21]) hP hD [4, 5, 6, 7, 8, 9, 10, 11] [0, 1, 2, 3] rfl rfl (by decide) (by decide) hk1 hFc hP1 hD1
    clear hP1 hD1 hK1 hk1 hz1 hFc hDc hPc hKc
    generalize H1 = H at hP hS ⊢
    have hP : va_P (dC, dI) vwCl [kx_0 q_row q_cell len, kx_a q_cell cyI 160 f, kx_a q_from cyI 319 ff, kx_a q_to cyI 319 ft, kx_2 q_t q_row q_joined q_from q_to q_size q_lossOf q_lessBy q_value q_number nodes here, kx_a q_size cyI 319 fs, kx_a q_lossOf cyI 319 fo, kx_a q_value cyI 1914 uv, kx_a q_number cyI 1914 un, kx_3 q_joined j_v j_n o_18 o_19 0, kx_a j_v cyI 12 o_20, kx_a j_n cyI 12 o_21] H := hP
    have hD : va_D A [kx_0 q_row q_cell len, kx_a q_cell cyI 160 f, kx_a q_from cyI 319 ff, kx_a q_to cyI 319 ft, kx_2 q_t q_row q_joined q_from q_to q_size q_lossOf q_lessBy q_value q_number nodes here, kx_a q_size cyI 319 fs, kx_a q_lossOf cyI 319 fo, kx_a q_value cyI 1914 uv, kx_a q_number cyI 1914 un, kx_3 q_joined j_v j_n o_18 o_19 0, kx_a j_v cyI 12 o_20, kx_a j_n cyI 12 o_21] := hD
    have w_17 : 0 ≤ o_18.toInt ∧ o_18.toInt ≤ 12 := w_17
    refine lv_aload_n hx hb dX2_putTogether_73 rfl (lv_at hl 0 rfl) ?_
    refine va_get (D := (dC, dI)) (ci := 2) (v := .ref q_joined) (C := RX2) (T := TX2) (N := 11) hx hb hts hi_2 hown hK hP 4 rfl rfl 1 (by decide) hf_12 (fun _ h9 => h9) rfl dX2_putTogether_74 ?_
    refine lv_aload_n hx hb dX2_putTogether_77 rfl (lv_at hl 0 rfl) ?_
    refine va_get (D := (dC, dI)) (ci := 2) (v := .int here) (C := RX2) (T := TX2) (N := 11) hx hb hts hi_2 hown hK hP 4 rfl rfl 10 (by decide) hf_85 (fun _ h9 => h9) rfl dX2_putTogether_78 ?_
    have hPc := hP.sub (ws' := [kx_3 q_joined j_v j_n o_18 o_19 0, kx_a j_v cyI 12 o_20, kx_a j_n cyI 12 o_21]) [9, 10, 11] rfl
    have hKc := hK
    have hDc := hD.sub (ws' := [kx_3 q_joined j_v j_n o_18 o_19 0, kx_a j_v cyI 12 o_20, kx_a j_n cyI 12 o_21]) [9, 10, 11] (by decide) rfl
    have hFc := va_free (wc := [kx_3 q_joined j_v j_n o_18 o_19 0, kx_a j_v cyI 12 o_20, kx_a j_n cyI 12 o_21]) hD hS hA [9, 10, 11] rfl
    refine va_callv (va_runV (As := [.int here]) (rest := []) ⟨hx, hb, hml, hown, hts⟩ (c_X3_cancel l dC dI q_joined j_v j_n cyI o_18 o_19 0 o_20 o_21 here H.size w_17.1 w_17.2) (cwV 1 hts gX2_putTogether_X3_cancel rfl rfl rfl (by decide +kernel) ⟨Nat.le_of_ble_eq_true rfl, Nat.le_of_ble_eq_true rfl⟩) ⟨fun a U g mk q => by obtain ⟨q0, q1, qP, qK, qD⟩ := q; exact ⟨q0, q1, qP, va_K.moved (u := U) (U := U.calling g mk a) (Vm.Alike.refl U.vm) qK, qD⟩, va_recv hKc hPc (ci := 3) (q0 := 0) rfl rfl, fun U hU hW => ⟨rfl, by rw [hU], by rw [hU]; exact hPc, va_K.moved hW.alike hKc, hDc.weaken (fun _ _ _ _ => trivial)⟩⟩ rfl rfl hl.1 rfl (lv_room (Nat.le_of_ble_eq_true rfl)) dX2_putTogether_81 ⟨Nat.le_of_ble_eq_true rfl, Nat.le_of_ble_eq_true rfl⟩) hS (fun q _ h => hFc q h) hFc (fun u t H1 locs ht hvm w_22 hB hz1 hk1 hS => ?_)
    obtain ⟨o_23, o_24, o_25, o_26, o_27⟩ := u
    dsimp only at w_22 hB
    obtain ⟨hP1, hK1, hD1⟩ := hB
    rw [ht] at hP1
    have hK1 := va_K.moved hvm.symm hK1
    obtain ⟨hP, hD⟩ := va_join (wr := [kx_0 q_row q_cell len, kx_a q_cell cyI 160 f, kx_a q_from cyI 319 ff, kx_a q_to cyI 319 ft, kx_2 q_t q_row q_joined q_from q_to q_size q_lossOf q_lessBy q_value q_number nodes here, kx_a q_size cyI 319 fs, kx_a q_lossOf cyI 319 fo, kx_a q_value cyI 1914 uv, kx_a q_number cyI 1914 un]) (w1 := [kx_3 q_joined j_v j_n o_23 o_24 o_25, kx_a j_v cyI 12 o_26, kx_a j_n cyI 12 o_27]) hP hD [9, 10, 11] [0, 1, 2, 3, 4, 5, 6, 7, 8] rfl rfl (by decide) (by decide) hk1 hFc hP1 hD1
    clear hP1 hD1 hK1 hk1 hz1 hFc hDc hPc hKc
    generalize H1 = H at hP hS ⊢
    have hP : va_P (dC, dI) vwCl [kx_0 q_row q_cell len, kx_a q_cell cyI 160 f, kx_a q_from cyI 319 ff, kx_a q_to cyI 319 ft, kx_2 q_t q_row q_joined q_from q_to q_size q_lossOf q_lessBy q_value q_number nodes here, kx_a q_size cyI 319 fs, kx_a q_lossOf cyI 319 fo, kx_a q_value cyI 1914 uv, kx_a q_number cyI 1914 un, kx_3 q_joined j_v j_n o_23 o_24 o_25, kx_a j_v cyI 12 o_26, kx_a j_n cyI 12 o_27] H := hP
    have hD : va_D A [kx_0 q_row q_cell len, kx_a q_cell cyI 160 f, kx_a q_from cyI 319 ff, kx_a q_to cyI 319 ft, kx_2 q_t q_row q_joined q_from q_to q_size q_lossOf q_lessBy q_value q_number nodes here, kx_a q_size cyI 319 fs, kx_a q_lossOf cyI 319 fo, kx_a q_value cyI 1914 uv, kx_a q_number cyI 1914 un, kx_3 q_joined j_v j_n o_23 o_24 o_25, kx_a j_v cyI 12 o_26, kx_a j_n cyI 12 o_27] := hD
    have w_22 : 0 ≤ o_23.toInt ∧ o_23.toInt ≤ o_18.toInt := w_22
    have hP9 := hP.sub (ws' := [kx_2 q_t q_row q_joined q_from q_to q_size q_lossOf q_lessBy q_value q_number nodes here, kx_0 q_row q_cell len, kx_a q_cell cyI 160 f, kx_a q_from cyI 319 ff, kx_a q_to cyI 319 ft, kx_a q_size cyI 319 fs, kx_a q_lossOf cyI 319 fo, kx_a q_value cyI 1914 uv, kx_a q_number cyI 1914 un, kx_3 q_joined j_v j_n o_23 o_24 o_25, kx_a j_v cyI 12 o_26, kx_a j_n cyI 12 o_27]) [4, 0, 1, 2, 3, 5, 6, 7, 8, 9, 10, 11] rfl
    have hD9 := hD.sub (ws' := [kx_2 q_t q_row q_joined q_from q_to q_size q_lossOf q_lessBy q_value q_number nodes here, kx_0 q_row q_cell len, kx_a q_cell cyI 160 f, kx_a q_from cyI 319 ff, kx_a q_to cyI 319 ft, kx_a q_size cyI 319 fs, kx_a q_lossOf cyI 319 fo, kx_a q_value cyI 1914 uv, kx_a q_number cyI 1914 un, kx_3 q_joined j_v j_n o_23 o_24 o_25, kx_a j_v cyI 12 o_26, kx_a j_n cyI 12 o_27]) [4, 0, 1, 2, 3, 5, 6, 7, 8, 9, 10, 11] (by decide) rfl
    have hK9 := hK
    exact W.vret hx hb hr (fun t ht hW => ⟨⟨(o_23, o_24, o_25, o_26, o_27), rfl, (by (try dsimp only); omega), by rw [ht]; exact hP9, va_K.moved hW.alike hK9, hD9⟩, hS.F ht⟩) hS.2.2 dX2_putTogether_84
  · have i_9 : y_8.toInt = 1 := kc_eq c_9
    refine lv_aload_n hx hb dX2_putTogether_24 rfl (lv_at hl 0 rfl) ?_
    refine va_get (D := (dC, dI)) (ci := 2) (v := .ref q_joined) (C := RX2) (T := TX2) (N := 11) hx hb hts hi_2 hown hK hP 0 rfl rfl 1 (by decide) hf_12 (fun _ h9 => h9) rfl dX2_putTogether_25 ?_
    refine lv_aload_n hx hb dX2_putTogether_28 rfl (lv_at hl 0 rfl) ?_
    refine va_get (D := (dC, dI)) (ci := 2) (v := .ref q_row) (C := RX2) (T := TX2) (N := 11) hx hb hts hi_2 hown hK hP 0 rfl rfl 0 (by decide) hf_40 (fun _ h9 => h9) rfl dX2_putTogether_29 ?_
    refine va_get (D := (dC, dI)) (ci := 0) (v := .ref q_cell) (C := RX0) (T := TX0) (N := 2) hx hb hts hi_0 hown hK hP 1 rfl rfl 0 (by decide) hf_74 (fun _ h9 => h9) rfl dX2_putTogether_32 ?_
    refine lv_aload_n hx hb dX2_putTogether_35 rfl (lv_at hl 0 rfl) ?_
    refine va_get (D := (dC, dI)) (ci := 2) (v := .ref q_from) (C := RX2) (T := TX2) (N := 11) hx hb hts hi_2 hown hK hP 0 rfl rfl 2 (by decide) hf_18 (fun _ h9 => h9) rfl dX2_putTogether_36 ?_
    refine lv_iload_n hx hb dX2_putTogether_39 rfl (lv_at hl 1 rfl) ?_
    refine va_iald hx hb hK hP 3 0 rfl rfl (ki_in (om_8 b0) (om_87 b1 c0)) dX2_putTogether_40 ?_
    refine lv_topi (fun y_28 ey_28 => ?_)
    have j_28 : y_28.toInt = (ff p0.toNatClampNeg).toInt := congrArg Int32.toInt ey_28
    have n_29 : (p0.toNatClampNeg : Int) = p0.toInt := ki_nat _ rfl (om_8 b0)
    have i_30 := t0 p0.toNatClampNeg (by omega)
    unfold okAt at i_30
    refine va_iald hx hb hK hP 2 0 rfl rfl (ki_in (by omega) (by omega)) dX2_putTogether_41 ?_
    refine lv_topi (fun y_31 ey_31 => ?_)
    have j_31 : y_31.toInt = (f y_28.toNatClampNeg).toInt := congrArg Int32.toInt ey_31
    refine lv_iconst (v := 1) hx hb dX2_putTogether_42 (by decide) ?_
    have hPc := hP.sub (ws' := [kx_3 q_joined j_v j_n 0 0 0, kx_a j_v cyI 12 jv, kx_a j_n cyI 12 jn]) [11, 9, 10] rfl
    have hKc := hK
    have k_32 : (1 : Int32).toInt = 1 := rfl
    have hDc := hD.sub (ws' := [kx_3 q_joined j_v j_n 0 0 0, kx_a j_v cyI 12 jv, kx_a j_n cyI 12 jn]) [11, 9, 10] (by decide) rfl
    have hFc := va_free (wc := [kx_3 q_joined j_v j_n 0 0 0, kx_a j_v cyI 12 jv, kx_a j_n cyI 12 jn]) hD hS hA [11, 9, 10] rfl
    refine va_callv (va_runV (As := [.int y_31, .int 1]) (rest := []) ⟨hx, hb, hml, hown, hts⟩ (c_X3_add l dC dI q_joined j_v j_n cyI 0 0 0 jv jn y_31 1 H.size om_32 om_81) (cwV 2 hts gX2_putTogether_X3_add rfl rfl rfl (by decide +kernel) ⟨Nat.le_of_ble_eq_true rfl, Nat.le_of_ble_eq_true rfl⟩) ⟨fun a U g mk q => by obtain ⟨q0, q1, qP, qK, qD⟩ := q; exact ⟨q0, q1, qP, va_K.moved (u := U) (U := U.calling g mk a) (Vm.Alike.refl U.vm) qK, qD⟩, va_recv hKc hPc (ci := 3) (q0 := 0) rfl rfl, fun U hU hW => ⟨rfl, by rw [hU], by rw [hU]; exact hPc, va_K.moved hW.alike hKc, hDc.weaken (fun _ _ _ _ => trivial)⟩⟩ rfl rfl hl.1 rfl (lv_room (Nat.le_of_ble_eq_true rfl)) dX2_putTogether_43 ⟨Nat.le_of_ble_eq_true rfl, Nat.le_of_ble_eq_true rfl⟩) hS (fun q _ h => hFc q h) hFc (fun u t H1 locs ht hvm w_33 hB hz1 hk1 hS => ?_)
    obtain ⟨o_34, o_35, o_36⟩ := u
    dsimp only at w_33 hB
    obtain ⟨hP1, hK1, hD1⟩ := hB
    rw [ht] at hP1
    have hK1 := va_K.moved hvm.symm hK1
    obtain ⟨hP, hD⟩ := va_join (wr := [kx_2 q_t q_row q_joined q_from q_to q_size q_lossOf q_lessBy q_value q_number nodes here, kx_0 q_row q_cell len, kx_a q_cell cyI 160 f, kx_a q_from cyI 319 ff, kx_a q_to cyI 319 ft, kx_a q_size cyI 319 fs, kx_a q_lossOf cyI 319 fo, kx_a q_value cyI 1914 uv, kx_a q_number cyI 1914 un]) (w1 := [kx_3 q_joined j_v j_n o_34 0 0, kx_a j_v cyI 12 o_35, kx_a j_n cyI 12 o_36]) hP hD [11, 9, 10] [0, 1, 2, 3, 4, 5, 6, 7, 8] rfl rfl (by decide) (by decide) hk1 hFc hP1 hD1
    clear hP1 hD1 hK1 hk1 hz1 hFc hDc hPc hKc
    generalize H1 = H at hP hS ⊢
    have hP : va_P (dC, dI) vwCl [kx_2 q_t q_row q_joined q_from q_to q_size q_lossOf q_lessBy q_value q_number nodes here, kx_0 q_row q_cell len, kx_a q_cell cyI 160 f, kx_a q_from cyI 319 ff, kx_a q_to cyI 319 ft, kx_a q_size cyI 319 fs, kx_a q_lossOf cyI 319 fo, kx_a q_value cyI 1914 uv, kx_a q_number cyI 1914 un, kx_3 q_joined j_v j_n o_34 0 0, kx_a j_v cyI 12 o_35, kx_a j_n cyI 12 o_36] H := hP
    have hD : va_D A [kx_2 q_t q_row q_joined q_from q_to q_size q_lossOf q_lessBy q_value q_number nodes here, kx_0 q_row q_cell len, kx_a q_cell cyI 160 f, kx_a q_from cyI 319 ff, kx_a q_to cyI 319 ft, kx_a q_size cyI 319 fs, kx_a q_lossOf cyI 319 fo, kx_a q_value cyI 1914 uv, kx_a q_number cyI 1914 un, kx_3 q_joined j_v j_n o_34 0 0, kx_a j_v cyI 12 o_35, kx_a j_n cyI 12 o_36] := hD
    have w_33 : 0 ≤ o_34.toInt ∧ o_34.toInt ≤ 0 + 1 ∧ o_34.toInt ≤ 12 := w_33
    refine lv_goto (tgt := 84) hx hb dX2_putTogether_46 (by decide) ?_
    have hP9 := hP
    have hD9 := hD
    have hK9 := hK
    exact W.vret hx hb hr (fun t ht hW => ⟨⟨(o_34, 0, 0, o_35, o_36), rfl, (by (try dsimp only); omega), by rw [ht]; exact hP9, va_K.moved hW.alike hK9, hD9⟩, hS.F ht⟩) hS.2.2 dX2_putTogether_84

set_option maxHeartbeats 4000000 in
set_option maxRecDepth 100000 in
theorem c_X2_isPart (l : Launch) (dC : Nat → ClassId) (dI : Nat → Nat → Nat) (q_t : Nat) (q_row : Nat) (q_joined : Nat) (q_from : Nat) (q_to : Nat) (q_size : Nat) (q_lossOf : Nat) (q_lessBy : Nat) (q_value : Nat) (q_number : Nat) (nodes : Int32) (here : Int32) (cyI : ClassId) (ff : Nat → Int32) (ft : Nat → Int32) (p0 : Int32) (p1 : Int32) (p2 : Int32) (b0 : 0 ≤ p0.toInt) (b1 : p0.toInt < 319) : Met l yX2_isPart wsX2_isPart ({ frames := 0, cells := 0, slots := 0, locals := 0 }) (va_Pc [.ref q_t, .int p0, .int p1, .int p2] (fun U => va_P (dC, dI) vwCl [kx_2 q_t q_row q_joined q_from q_to q_size q_lossOf q_lessBy q_value q_number nodes here, kx_a q_from cyI 319 ff, kx_a q_to cyI 319 ft] U.heap ∧ va_K (dC, dI) vwCl [(cyI, .int)] U)) (vp_Si (fun r : Int32 => (r = 1 ∧ ((ff p0.toNatClampNeg).toInt = p1.toInt ∧ (ft p0.toNatClampNeg).toInt ≤ p2.toInt)) ∨ (r = 0 ∧ (¬ (ff p0.toNatClampNeg).toInt = p1.toInt ∨ p2.toInt < (ft p0.toNatClampNeg).toInt)))) 0 0 (fun _ => False) := by
  refine Met.ofW (cc := cX2_isPart) (maxL := 4) (ret := (some .boolean)) (by decide) rfl ?_
  intro p e s m args below meth c s₁ B hml hv
  obtain ⟨rfl, hP, hK⟩ := hv
  have hx := B.exec
  have hb := B.bytes
  have hr := B.returns
  have hts := atoms_spec (ws := wsX2_isPart) B.pre
  have hown : s.vm.findClass RX2 = some m.cls := findClass_of_methodNamed B.named
  have hlocks := B.notSynchronized
  have hP : va_P (dC, dI) vwCl [kx_2 q_t q_row q_joined q_from q_to q_size q_lossOf q_lessBy q_value q_number nodes here, kx_a q_from cyI 319 ff, kx_a q_to cyI 319 ft] s.heap := hP
  have hl := lv_entry ([.ref q_t, .int p0, .int p1, .int p2]) (n := 4) (Nat.le_of_ble_eq_true rfl)
  rw [lg_entry_eq]
  generalize (lg_sl ([.ref q_t, .int p0, .int p1, .int p2]) ++ List.replicate (4 - (lg_sl ([.ref q_t, .int p0, .int p1, .int p2])).length) Slot.unset).toArray = ls at hl ⊢
  have hl : lv_has ls 4 [(0, .ref q_t), (1, .int p0), (2, .int p1), (3, .int p2)] := hl
  have hf_18 := hts (.fieldLink RX2 18 "MajorityIndex$Tree" "from" "[I") (List.mem_of_getElem? (i := 1) rfl)
  have hi_2 : ∀ w ∈ u_ws RX2 TX2 11, w ∈ wsX2_isPart := fun w h => List.mem_cons_of_mem _ (List.mem_append_right _ h)
  have hf_22 := hts (.fieldLink RX2 22 "MajorityIndex$Tree" "to" "[I") (List.mem_of_getElem? (i := 2) rfl)
  refine lv_aload_n hx hb dX2_isPart_0 rfl (lv_at hl 0 rfl) ?_
  refine va_get (D := (dC, dI)) (ci := 2) (v := .ref q_from) (C := RX2) (T := TX2) (N := 11) hx hb hts hi_2 hown hK hP 0 rfl rfl 2 (by decide) hf_18 (fun _ h9 => h9) rfl dX2_isPart_1 ?_
  refine lv_iload_n hx hb dX2_isPart_4 rfl (lv_at hl 1 rfl) ?_
  refine va_iald hx hb hK hP 1 0 rfl rfl (ki_in (om_8 b0) (om_54 b1)) dX2_isPart_5 ?_
  refine lv_topi (fun y_1 ey_1 => ?_)
  have j_1 : y_1.toInt = (ff p0.toNatClampNeg).toInt := congrArg Int32.toInt ey_1
  refine lv_iload_n hx hb dX2_isPart_6 rfl (lv_at hl 2 rfl) ?_
  refine lv_icmp_ne (tgt := 24) hx hb dX2_isPart_7 (by decide) (fun c_2 => ?_) (fun c_2 => ?_)
  · have i_2 : ¬ y_1.toInt = p1.toInt := kc_ne c_2
    refine lv_iconst (v := 0) hx hb dX2_isPart_24 (by decide) ?_
    exact W.zret (v := 0) hx hb hr (by decide) (fun t ht hW => ⟨0, rfl, Or.inr (⟨rfl, by omega⟩), ht⟩) (fun q hq => by cases hq) dX2_isPart_25
  · have i_2 : y_1.toInt = p1.toInt := kc_eq c_2
    refine lv_aload_n hx hb dX2_isPart_10 rfl (lv_at hl 0 rfl) ?_
    refine va_get (D := (dC, dI)) (ci := 2) (v := .ref q_to) (C := RX2) (T := TX2) (N := 11) hx hb hts hi_2 hown hK hP 0 rfl rfl 3 (by decide) hf_22 (fun _ h9 => h9) rfl dX2_isPart_11 ?_
    refine lv_iload_n hx hb dX2_isPart_14 rfl (lv_at hl 1 rfl) ?_
    refine va_iald hx hb hK hP 2 0 rfl rfl (ki_in (om_8 b0) (om_54 b1)) dX2_isPart_15 ?_
    refine lv_topi (fun y_3 ey_3 => ?_)
    have j_3 : y_3.toInt = (ft p0.toNatClampNeg).toInt := congrArg Int32.toInt ey_3
    refine lv_iload_n hx hb dX2_isPart_16 rfl (lv_at hl 3 rfl) ?_
    refine lv_icmp_gt (tgt := 24) hx hb dX2_isPart_17 (by decide) (fun c_4 => ?_) (fun c_4 => ?_)
    · have i_4 : p2.toInt < y_3.toInt := kc_lt c_4
      refine lv_iconst (v := 0) hx hb dX2_isPart_24 (by decide) ?_
      exact W.zret (v := 0) hx hb hr (by decide) (fun t ht hW => ⟨0, rfl, Or.inr (⟨rfl, by omega⟩), ht⟩) (fun q hq => by cases hq) dX2_isPart_25
    · have i_4 : y_3.toInt ≤ p2.toInt := kc_nlt c_4
      refine lv_iconst (v := 1) hx hb dX2_isPart_20 (by decide) ?_
      refine lv_goto (tgt := 25) hx hb dX2_isPart_21 (by decide) ?_
      exact W.zret (v := 1) hx hb hr (by decide) (fun t ht hW => ⟨1, rfl, Or.inl ⟨rfl, by omega⟩, ht⟩) (fun q hq => by cases hq) dX2_isPart_25

set_option maxHeartbeats 4000000 in
set_option maxRecDepth 100000 in
theorem c_X2_hasPlace (l : Launch) (dC : Nat → ClassId) (dI : Nat → Nat → Nat) (q_t : Nat) (q_row : Nat) (q_joined : Nat) (q_from : Nat) (q_to : Nat) (q_size : Nat) (q_lossOf : Nat) (q_lessBy : Nat) (q_value : Nat) (q_number : Nat) (nodes : Int32) (here : Int32) (cyI : ClassId) (ff : Nat → Int32) (ft : Nat → Int32) (p0 : Int32) (p1 : Int32) (b0 : 0 ≤ p0.toInt) (b1 : p0.toInt < 319) : Met l yX2_hasPlace wsX2_hasPlace ({ frames := 0, cells := 0, slots := 0, locals := 0 }) (va_Pc [.ref q_t, .int p0, .int p1] (fun U => va_P (dC, dI) vwCl [kx_2 q_t q_row q_joined q_from q_to q_size q_lossOf q_lessBy q_value q_number nodes here, kx_a q_from cyI 319 ff, kx_a q_to cyI 319 ft] U.heap ∧ va_K (dC, dI) vwCl [(cyI, .int)] U)) (vp_Si (fun r : Int32 => (r = 1 ∧ ((ff p0.toNatClampNeg).toInt ≤ p1.toInt ∧ p1.toInt < (ft p0.toNatClampNeg).toInt)) ∨ (r = 0 ∧ (p1.toInt < (ff p0.toNatClampNeg).toInt ∨ (ft p0.toNatClampNeg).toInt ≤ p1.toInt)))) 0 0 (fun _ => False) := by
  refine Met.ofW (cc := cX2_hasPlace) (maxL := 3) (ret := (some .boolean)) (by decide) rfl ?_
  intro p e s m args below meth c s₁ B hml hv
  obtain ⟨rfl, hP, hK⟩ := hv
  have hx := B.exec
  have hb := B.bytes
  have hr := B.returns
  have hts := atoms_spec (ws := wsX2_hasPlace) B.pre
  have hown : s.vm.findClass RX2 = some m.cls := findClass_of_methodNamed B.named
  have hlocks := B.notSynchronized
  have hP : va_P (dC, dI) vwCl [kx_2 q_t q_row q_joined q_from q_to q_size q_lossOf q_lessBy q_value q_number nodes here, kx_a q_from cyI 319 ff, kx_a q_to cyI 319 ft] s.heap := hP
  have hl := lv_entry ([.ref q_t, .int p0, .int p1]) (n := 3) (Nat.le_of_ble_eq_true rfl)
  rw [lg_entry_eq]
  generalize (lg_sl ([.ref q_t, .int p0, .int p1]) ++ List.replicate (3 - (lg_sl ([.ref q_t, .int p0, .int p1])).length) Slot.unset).toArray = ls at hl ⊢
  have hl : lv_has ls 3 [(0, .ref q_t), (1, .int p0), (2, .int p1)] := hl
  have hf_18 := hts (.fieldLink RX2 18 "MajorityIndex$Tree" "from" "[I") (List.mem_of_getElem? (i := 1) rfl)
  have hi_2 : ∀ w ∈ u_ws RX2 TX2 11, w ∈ wsX2_hasPlace := fun w h => List.mem_cons_of_mem _ (List.mem_append_right _ h)
  have hf_22 := hts (.fieldLink RX2 22 "MajorityIndex$Tree" "to" "[I") (List.mem_of_getElem? (i := 2) rfl)
  refine lv_aload_n hx hb dX2_hasPlace_0 rfl (lv_at hl 0 rfl) ?_
  refine va_get (D := (dC, dI)) (ci := 2) (v := .ref q_from) (C := RX2) (T := TX2) (N := 11) hx hb hts hi_2 hown hK hP 0 rfl rfl 2 (by decide) hf_18 (fun _ h9 => h9) rfl dX2_hasPlace_1 ?_
  refine lv_iload_n hx hb dX2_hasPlace_4 rfl (lv_at hl 1 rfl) ?_
  refine va_iald hx hb hK hP 1 0 rfl rfl (ki_in (om_8 b0) (om_54 b1)) dX2_hasPlace_5 ?_
  refine lv_topi (fun y_1 ey_1 => ?_)
  have j_1 : y_1.toInt = (ff p0.toNatClampNeg).toInt := congrArg Int32.toInt ey_1
  refine lv_iload_n hx hb dX2_hasPlace_6 rfl (lv_at hl 2 rfl) ?_
  refine lv_icmp_gt (tgt := 24) hx hb dX2_hasPlace_7 (by decide) (fun c_2 => ?_) (fun c_2 => ?_)
  · have i_2 : p1.toInt < y_1.toInt := kc_lt c_2
    refine lv_iconst (v := 0) hx hb dX2_hasPlace_24 (by decide) ?_
    exact W.zret (v := 0) hx hb hr (by decide) (fun t ht hW => ⟨0, rfl, Or.inr (⟨rfl, by omega⟩), ht⟩) (fun q hq => by cases hq) dX2_hasPlace_25
  · have i_2 : y_1.toInt ≤ p1.toInt := kc_nlt c_2
    refine lv_iload_n hx hb dX2_hasPlace_10 rfl (lv_at hl 2 rfl) ?_
    refine lv_aload_n hx hb dX2_hasPlace_11 rfl (lv_at hl 0 rfl) ?_
    refine va_get (D := (dC, dI)) (ci := 2) (v := .ref q_to) (C := RX2) (T := TX2) (N := 11) hx hb hts hi_2 hown hK hP 0 rfl rfl 3 (by decide) hf_22 (fun _ h9 => h9) rfl dX2_hasPlace_12 ?_
    refine lv_iload_n hx hb dX2_hasPlace_15 rfl (lv_at hl 1 rfl) ?_
    refine va_iald hx hb hK hP 2 0 rfl rfl (ki_in (om_8 b0) (om_54 b1)) dX2_hasPlace_16 ?_
    refine lv_topi (fun y_3 ey_3 => ?_)
    have j_3 : y_3.toInt = (ft p0.toNatClampNeg).toInt := congrArg Int32.toInt ey_3
    refine lv_icmp_ge (tgt := 24) hx hb dX2_hasPlace_17 (by decide) (fun c_4 => ?_) (fun c_4 => ?_)
    · have i_4 : y_3.toInt ≤ p1.toInt := kc_le c_4
      refine lv_iconst (v := 0) hx hb dX2_hasPlace_24 (by decide) ?_
      exact W.zret (v := 0) hx hb hr (by decide) (fun t ht hW => ⟨0, rfl, Or.inr (⟨rfl, by omega⟩), ht⟩) (fun q hq => by cases hq) dX2_hasPlace_25
    · have i_4 : p1.toInt < y_3.toInt := kc_nle c_4
      refine lv_iconst (v := 1) hx hb dX2_hasPlace_20 (by decide) ?_
      refine lv_goto (tgt := 25) hx hb dX2_hasPlace_21 (by decide) ?_
      exact W.zret (v := 1) hx hb hr (by decide) (fun t ht hW => ⟨1, rfl, Or.inl ⟨rfl, by omega⟩, ht⟩) (fun q hq => by cases hq) dX2_hasPlace_25

set_option maxHeartbeats 4000000 in
set_option maxRecDepth 100000 in
theorem c_X2_gather (l : Launch) (dC : Nat → ClassId) (dI : Nat → Nat → Nat) (q_t : Nat) (q_row : Nat) (q_joined : Nat) (q_from : Nat) (q_to : Nat) (q_size : Nat) (q_lossOf : Nat) (q_lessBy : Nat) (q_value : Nat) (q_number : Nat) (nodes : Int32) (here : Int32) (h0 : Nat) (a_v : Nat) (a_n : Nat) (cyI : ClassId) (vs : Int32) (lo : Int32) (le : Int32) (fv : Nat → Int32) (fn : Nat → Int32) (ff : Nat → Int32) (ft : Nat → Int32) (fs : Nat → Int32) (fo : Nat → Int32) (uv : Nat → Int32) (un : Nat → Int32) (p0 : Int32) (p1 : Int32) (sz : Nat) (b0 : 0 ≤ nodes.toInt) (c0 : nodes.toInt ≤ 319) (s0 : sixes fs) : Met l yX2_gather wsX2_gather ({ frames := 3, cells := 0, slots := 0, locals := 135 }) (va_Pc [.ref q_t, .ref h0, .int p0, .int p1] (fun U => U.heap.size = sz ∧ va_P (dC, dI) vwCl [kx_2 q_t q_row q_joined q_from q_to q_size q_lossOf q_lessBy q_value q_number nodes here, kx_a q_from cyI 319 ff, kx_a q_to cyI 319 ft, kx_a q_size cyI 319 fs, kx_a q_lossOf cyI 319 fo, kx_a q_value cyI 1914 uv, kx_a q_number cyI 1914 un, kx_3 h0 a_v a_n vs lo le, kx_a a_v cyI 12 fv, kx_a a_n cyI 12 fn] U.heap ∧ va_K (dC, dI) vwCl [(cyI, .int)] U ∧ va_D (fun _ => True) [kx_2 q_t q_row q_joined q_from q_to q_size q_lossOf q_lessBy q_value q_number nodes here, kx_a q_from cyI 319 ff, kx_a q_to cyI 319 ft, kx_a q_size cyI 319 fs, kx_a q_lossOf cyI 319 fo, kx_a q_value cyI 1914 uv, kx_a q_number cyI 1914 un, kx_3 h0 a_v a_n vs lo le, kx_a a_v cyI 12 fv, kx_a a_n cyI 12 fn])) (va_Qv (fun u : Int32 × Int32 × Int32 × (Nat → Int32) × (Nat → Int32) => 0 ≤ u.1.toInt ∧ u.1.toInt ≤ 12) (fun (u : Int32 × Int32 × Int32 × (Nat → Int32) × (Nat → Int32)) (t : State) => va_P (dC, dI) vwCl [kx_2 q_t q_row q_joined q_from q_to q_size q_lossOf q_lessBy q_value q_number nodes here, kx_a q_from cyI 319 ff, kx_a q_to cyI 319 ft, kx_a q_size cyI 319 fs, kx_a q_lossOf cyI 319 fo, kx_a q_value cyI 1914 uv, kx_a q_number cyI 1914 un, kx_3 h0 a_v a_n u.1 u.2.1 u.2.2.1, kx_a a_v cyI 12 u.2.2.2.1, kx_a a_n cyI 12 u.2.2.2.2] t.heap ∧ va_K (dC, dI) vwCl [(cyI, .int)] t ∧ va_D (va_A [kx_2 q_t q_row q_joined q_from q_to q_size q_lossOf q_lessBy q_value q_number nodes here, kx_a q_from cyI 319 ff, kx_a q_to cyI 319 ft, kx_a q_size cyI 319 fs, kx_a q_lossOf cyI 319 fo, kx_a q_value cyI 1914 uv, kx_a q_number cyI 1914 un, kx_3 h0 a_v a_n vs lo le, kx_a a_v cyI 12 fv, kx_a a_n cyI 12 fn] sz) [kx_2 q_t q_row q_joined q_from q_to q_size q_lossOf q_lessBy q_value q_number nodes here, kx_a q_from cyI 319 ff, kx_a q_to cyI 319 ft, kx_a q_size cyI 319 fs, kx_a q_lossOf cyI 319 fo, kx_a q_value cyI 1914 uv, kx_a q_number cyI 1914 un, kx_3 h0 a_v a_n u.1 u.2.1 u.2.2.1, kx_a a_v cyI 12 u.2.2.2.1, kx_a a_n cyI 12 u.2.2.2.2]) (va_A [kx_2 q_t q_row q_joined q_from q_to q_size q_lossOf q_lessBy q_value q_number nodes here, kx_a q_from cyI 319 ff, kx_a q_to cyI 319 ft, kx_a q_size cyI 319 fs, kx_a q_lossOf cyI 319 fo, kx_a q_value cyI 1914 uv, kx_a q_number cyI 1914 un, kx_3 h0 a_v a_n vs lo le, kx_a a_v cyI 12 fv, kx_a a_n cyI 12 fn] sz)) 0 0 (va_A [kx_2 q_t q_row q_joined q_from q_to q_size q_lossOf q_lessBy q_value q_number nodes here, kx_a q_from cyI 319 ff, kx_a q_to cyI 319 ft, kx_a q_size cyI 319 fs, kx_a q_lossOf cyI 319 fo, kx_a q_value cyI 1914 uv, kx_a q_number cyI 1914 un, kx_3 h0 a_v a_n vs lo le, kx_a a_v cyI 12 fv, kx_a a_n cyI 12 fn] sz) := by
  refine Met.ofW (cc := cX2_gather) (maxL := 6) (ret := none) (by decide) rfl ?_
  intro p e s m args below meth c s₁ B hml hv
  obtain ⟨rfl, hsz, hP, hK, hD0⟩ := hv
  have hx := B.exec
  have hb := B.bytes
  have hr := B.returns
  have hts := atoms_spec (ws := wsX2_gather) B.pre
  have hown : s.vm.findClass RX2 = some m.cls := findClass_of_methodNamed B.named
  have hlocks := B.notSynchronized
  subst hsz
  have hD := hD0.self (sz := s.heap.size)
  generalize hAe : va_A [kx_2 q_t q_row q_joined q_from q_to q_size q_lossOf q_lessBy q_value q_number nodes here, kx_a q_from cyI 319 ff, kx_a q_to cyI 319 ft, kx_a q_size cyI 319 fs, kx_a q_lossOf cyI 319 fo, kx_a q_value cyI 1914 uv, kx_a q_number cyI 1914 un, kx_3 h0 a_v a_n vs lo le, kx_a a_v cyI 12 fv, kx_a a_n cyI 12 fn] s.heap.size = A at hD ⊢
  have hA : ∀ q : Nat, s.heap.size ≤ q → A q := fun q h => by rw [← hAe]; exact Or.inr h
  have hS : va_S A s.heap s.heap [] := va_S.rf
  have hP : va_P (dC, dI) vwCl [kx_2 q_t q_row q_joined q_from q_to q_size q_lossOf q_lessBy q_value q_number nodes here, kx_a q_from cyI 319 ff, kx_a q_to cyI 319 ft, kx_a q_size cyI 319 fs, kx_a q_lossOf cyI 319 fo, kx_a q_value cyI 1914 uv, kx_a q_number cyI 1914 un, kx_3 h0 a_v a_n vs lo le, kx_a a_v cyI 12 fv, kx_a a_n cyI 12 fn] s.heap := hP
  have hl := lv_entry ([.ref q_t, .ref h0, .int p0, .int p1]) (n := 6) (Nat.le_of_ble_eq_true rfl)
  rw [lg_entry_eq]
  generalize (lg_sl ([.ref q_t, .ref h0, .int p0, .int p1]) ++ List.replicate (6 - (lg_sl ([.ref q_t, .ref h0, .int p0, .int p1])).length) Slot.unset).toArray = ls at hl ⊢
  have hl : lv_has ls 6 [(0, .ref q_t), (1, .ref h0), (2, .int p0), (3, .int p1)] := hl
  have hf_50 := hts (.fieldLink RX2 50 "MajorityIndex$Tree" "nodes" "I") (List.mem_of_getElem? (i := 1) rfl)
  have hi_2 : ∀ w ∈ u_ws RX2 TX2 11, w ∈ wsX2_gather := fun w h => List.mem_cons_of_mem _ (List.mem_append_left _ (List.mem_append_right _ h))
  have hf_22 := hts (.fieldLink RX2 22 "MajorityIndex$Tree" "to" "[I") (List.mem_of_getElem? (i := 2) rfl)
  have hf_85 := hts (.fieldLink RX2 85 "MajorityIndex$Tree" "slotsHere" "I") (List.mem_of_getElem? (i := 3) rfl)
  refine lv_aload_n hx hb dX2_gather_0 rfl (lv_at hl 1 rfl) ?_
  have hPc := hP.sub (ws' := [kx_3 h0 a_v a_n vs lo le]) [7] rfl
  have hKc := hK.sub (tys' := []) [] rfl
  have hDc := hD.sub (ws' := [kx_3 h0 a_v a_n vs lo le]) [7] (by decide) rfl
  have hFc := va_free (wc := [kx_3 h0 a_v a_n vs lo le]) hD hS hA [7] rfl
  refine va_callv (va_runV (As := []) (rest := []) ⟨hx, hb, hml, hown, hts⟩ (c_X3_clear l dC dI h0 a_v a_n vs lo le s.heap.size) (cwV 0 hts gX2_gather_X3_clear rfl rfl rfl (by decide +kernel) ⟨Nat.le_of_ble_eq_true rfl, Nat.le_of_ble_eq_true rfl⟩) ⟨fun a U g mk q => by obtain ⟨q0, q1, qP, qK, qD⟩ := q; exact ⟨q0, q1, qP, va_K.moved (u := U) (U := U.calling g mk a) (Vm.Alike.refl U.vm) qK, qD⟩, va_recv hKc hPc (ci := 3) (q0 := 0) rfl rfl, fun U hU hW => ⟨rfl, by rw [hU], by rw [hU]; exact hPc, va_K.moved hW.alike hKc, hDc.weaken (fun _ _ _ _ => trivial)⟩⟩ rfl rfl hl.1 rfl (lv_room (Nat.le_of_ble_eq_true rfl)) dX2_gather_1 ⟨Nat.le_of_ble_eq_true rfl, Nat.le_of_ble_eq_true rfl⟩) hS (fun q _ h => hFc q h) hFc (fun u t H1 locs ht hvm w_1 hB hz1 hk1 hS => ?_)
  obtain ⟨hP1, hK1, hD1⟩ := hB
  rw [ht] at hP1
  have hK1 := va_K.moved hvm.symm hK1
  obtain ⟨hP, hD⟩ := va_join (wr := [kx_2 q_t q_row q_joined q_from q_to q_size q_lossOf q_lessBy q_value q_number nodes here, kx_a q_from cyI 319 ff, kx_a q_to cyI 319 ft, kx_a q_size cyI 319 fs, kx_a q_lossOf cyI 319 fo, kx_a q_value cyI 1914 uv, kx_a q_number cyI 1914 un, kx_a a_v cyI 12 fv, kx_a a_n cyI 12 fn]) (w1 := [kx_3 h0 a_v a_n 0 0 0]) hP hD [7] [0, 1, 2, 3, 4, 5, 6, 8, 9] rfl rfl (by decide) (by decide) hk1 hFc hP1 hD1
  clear hP1 hD1 hK1 hk1 hz1 hFc hDc hPc hKc
  generalize H1 = H at hP hS ⊢
  have hP : va_P (dC, dI) vwCl [kx_2 q_t q_row q_joined q_from q_to q_size q_lossOf q_lessBy q_value q_number nodes here, kx_a q_from cyI 319 ff, kx_a q_to cyI 319 ft, kx_a q_size cyI 319 fs, kx_a q_lossOf cyI 319 fo, kx_a q_value cyI 1914 uv, kx_a q_number cyI 1914 un, kx_a a_v cyI 12 fv, kx_a a_n cyI 12 fn, kx_3 h0 a_v a_n 0 0 0] H := hP
  have hD : va_D A [kx_2 q_t q_row q_joined q_from q_to q_size q_lossOf q_lessBy q_value q_number nodes here, kx_a q_from cyI 319 ff, kx_a q_to cyI 319 ft, kx_a q_size cyI 319 fs, kx_a q_lossOf cyI 319 fo, kx_a q_value cyI 1914 uv, kx_a q_number cyI 1914 un, kx_a a_v cyI 12 fv, kx_a a_n cyI 12 fn, kx_3 h0 a_v a_n 0 0 0] := hD
  refine lv_iload_n hx hb dX2_gather_4 rfl (lv_at hl 2 rfl) ?_
  refine lv_istore (lv' := [(4, .int p0), (0, .ref q_t), (1, .ref h0), (2, .int p0), (3, .int p1)]) hx hb dX2_gather_5 hl (by decide) rfl (fun ls hl => ?_)
  refine lv_iconst (v := 0) hx hb dX2_gather_7 (by decide) ?_
  refine lv_istore (lv' := [(5, .int 0), (4, .int p0), (0, .ref q_t), (1, .ref h0), (2, .int p0), (3, .int p1)]) hx hb dX2_gather_8 hl (by decide) rfl (fun ls hl => ?_)
  have LP1 : ∀ (n : Nat) (i : Int32) (nxt : Int32) (zz : Int32) (zl : Int32) (zb : Int32) (yv : Nat → Int32) (yn : Nat → Int32), (0 ≤ i.toInt) → (0 ≤ zz.toInt) → (zz.toInt ≤ 12) → (nodes.toInt - i.toInt).toNat < n → ∀ (H : Heap) (locs : List Loc), va_P (dC, dI) vwCl [kx_2 q_t q_row q_joined q_from q_to q_size q_lossOf q_lessBy q_value q_number nodes here, kx_a q_from cyI 319 ff, kx_a q_to cyI 319 ft, kx_a q_size cyI 319 fs, kx_a q_lossOf cyI 319 fo, kx_a q_value cyI 1914 uv, kx_a q_number cyI 1914 un, kx_a a_v cyI 12 yv, kx_a a_n cyI 12 yn, kx_3 h0 a_v a_n zz zl zb] H → va_D A [kx_2 q_t q_row q_joined q_from q_to q_size q_lossOf q_lessBy q_value q_number nodes here, kx_a q_from cyI 319 ff, kx_a q_to cyI 319 ft, kx_a q_size cyI 319 fs, kx_a q_lossOf cyI 319 fo, kx_a q_value cyI 1914 uv, kx_a q_number cyI 1914 un, kx_a a_v cyI 12 yv, kx_a a_n cyI 12 yn, kx_3 h0 a_v a_n zz zl zb] → va_S A s.heap H locs → ∀ (ls : Array Slot), lv_has ls 6 [(5, .int i), (4, .int nxt), (0, .ref q_t), (1, .ref h0), (2, .int p0), (3, .int p1)] → W p l e (headSpec wsX2_gather ({ frames := 3, cells := 0, slots := 0, locals := 135 })).room s m ([.ref q_t, .ref h0, .int p0, .int p1] : List Value).toArray below meth c H locs 0 0 (MQ below (va_Qv (fun u : Int32 × Int32 × Int32 × (Nat → Int32) × (Nat → Int32) => 0 ≤ u.1.toInt ∧ u.1.toInt ≤ 12) (fun (u : Int32 × Int32 × Int32 × (Nat → Int32) × (Nat → Int32)) (t : State) => va_P (dC, dI) vwCl [kx_2 q_t q_row q_joined q_from q_to q_size q_lossOf q_lessBy q_value q_number nodes here, kx_a q_from cyI 319 ff, kx_a q_to cyI 319 ft, kx_a q_size cyI 319 fs, kx_a q_lossOf cyI 319 fo, kx_a q_value cyI 1914 uv, kx_a q_number cyI 1914 un, kx_3 h0 a_v a_n u.1 u.2.1 u.2.2.1, kx_a a_v cyI 12 u.2.2.2.1, kx_a a_n cyI 12 u.2.2.2.2] t.heap ∧ va_K (dC, dI) vwCl [(cyI, .int)] t ∧ va_D A [kx_2 q_t q_row q_joined q_from q_to q_size q_lossOf q_lessBy q_value q_number nodes here, kx_a q_from cyI 319 ff, kx_a q_to cyI 319 ft, kx_a q_size cyI 319 fs, kx_a q_lossOf cyI 319 fo, kx_a q_value cyI 1914 uv, kx_a q_number cyI 1914 un, kx_3 h0 a_v a_n u.1 u.2.1 u.2.2.1, kx_a a_v cyI 12 u.2.2.2.1, kx_a a_n cyI 12 u.2.2.2.2]) A) ([.ref q_t, .ref h0, .int p0, .int p1] : List Value).toArray s 0 0 A) (F0 m 10 ls []) := by
    intro n
    induction n with
    | zero => intro i nxt zz zl zb yv yn LP1_h0 LP1_h1 LP1_h2 hn; exact absurd hn (Nat.not_lt_zero _)
    | succ n ih1 =>
      intro i nxt zz zl zb yv yn LP1_h0 LP1_h1 LP1_h2 hn1 H locs hP hD hS ls hl
      refine lv_iload hx hb dX2_gather_10 (lv_at hl 0 rfl) ?_
      refine lv_aload_n hx hb dX2_gather_12 rfl (lv_at hl 2 rfl) ?_
      refine va_get (D := (dC, dI)) (ci := 2) (v := .int nodes) (C := RX2) (T := TX2) (N := 11) hx hb hts hi_2 hown hK hP 0 rfl rfl 9 (by decide) hf_50 (fun _ h9 => h9) rfl dX2_gather_13 ?_
      refine lv_icmp_ge (tgt := 61) hx hb dX2_gather_16 (by decide) (fun c_2 => ?_) (fun c_2 => ?_)
      · have i_2 : nodes.toInt ≤ i.toInt := kc_le c_2
        have hP9 := hP.sub (ws' := [kx_2 q_t q_row q_joined q_from q_to q_size q_lossOf q_lessBy q_value q_number nodes here, kx_a q_from cyI 319 ff, kx_a q_to cyI 319 ft, kx_a q_size cyI 319 fs, kx_a q_lossOf cyI 319 fo, kx_a q_value cyI 1914 uv, kx_a q_number cyI 1914 un, kx_3 h0 a_v a_n zz zl zb, kx_a a_v cyI 12 yv, kx_a a_n cyI 12 yn]) [0, 1, 2, 3, 4, 5, 6, 9, 7, 8] rfl
        have hD9 := hD.sub (ws' := [kx_2 q_t q_row q_joined q_from q_to q_size q_lossOf q_lessBy q_value q_number nodes here, kx_a q_from cyI 319 ff, kx_a q_to cyI 319 ft, kx_a q_size cyI 319 fs, kx_a q_lossOf cyI 319 fo, kx_a q_value cyI 1914 uv, kx_a q_number cyI 1914 un, kx_3 h0 a_v a_n zz zl zb, kx_a a_v cyI 12 yv, kx_a a_n cyI 12 yn]) [0, 1, 2, 3, 4, 5, 6, 9, 7, 8] (by decide) rfl
        have hK9 := hK
        exact W.vret hx hb hr (fun t ht hW => ⟨⟨(zz, zl, zb, yv, yn), rfl, (by (try dsimp only); omega), by rw [ht]; exact hP9, va_K.moved hW.alike hK9, hD9⟩, hS.F ht⟩) hS.2.2 dX2_gather_61
      · have i_2 : i.toInt < nodes.toInt := kc_nle c_2
        refine lv_aload_n hx hb dX2_gather_19 rfl (lv_at hl 2 rfl) ?_
        refine lv_iload hx hb dX2_gather_20 (lv_at hl 0 rfl) ?_
        refine lv_iload hx hb dX2_gather_22 (lv_at hl 1 rfl) ?_
        refine lv_iload_n hx hb dX2_gather_24 rfl (lv_at hl 5 rfl) ?_
        have hPc := hP.sub (ws' := [kx_2 q_t q_row q_joined q_from q_to q_size q_lossOf q_lessBy q_value q_number nodes here, kx_a q_from cyI 319 ff, kx_a q_to cyI 319 ft]) [0, 1, 2] rfl
        have hKc := hK
        refine vp_callSi (W.runV (As := [.int i, .int nxt, .int p1]) (rest := []) ⟨hx, hb, hml, hown, hts⟩ (c_X2_isPart l dC dI q_t q_row q_joined q_from q_to q_size q_lossOf q_lessBy q_value q_number nodes here cyI ff ft i nxt p1 LP1_h0 (om_99 c0 i_2)) (cwV 3 hts gX2_gather_X2_isPart rfl rfl rfl (by decide +kernel) ⟨Nat.le_of_ble_eq_true rfl, Nat.le_of_ble_eq_true rfl⟩) ⟨fun a U g mk q => by obtain ⟨q0, qP, qK⟩ := q; exact ⟨q0, qP, va_K.moved (u := U) (U := U.calling g mk a) (Vm.Alike.refl U.vm) qK⟩, va_recv hKc hPc (ci := 2) (q0 := 0) rfl rfl, fun U hU hW => ⟨rfl, by rw [hU]; exact hPc, va_K.moved hW.alike hKc⟩⟩ rfl rfl hl.1 rfl (lv_room (Nat.le_of_ble_eq_true rfl)) dX2_gather_25 ⟨Nat.le_of_ble_eq_true rfl, Nat.le_of_ble_eq_true rfl⟩) (fun r_3 w_3 => ?_)
        rcases w_3 with ⟨rfl, w_3⟩ | ⟨rfl, w_3⟩
        · have w_3 : ((ff i.toNatClampNeg).toInt = nxt.toInt ∧ (ft i.toNatClampNeg).toInt ≤ p1.toInt) := w_3
          refine lv_if_eq (tgt := 55) hx hb dX2_gather_28 (by decide) (fun c_4 => ?_) (fun c_4 => ?_)
          · exact absurd c_4 (by decide)
          · refine lv_aload_n hx hb dX2_gather_31 rfl (lv_at hl 2 rfl) ?_
            refine va_get (D := (dC, dI)) (ci := 2) (v := .ref q_to) (C := RX2) (T := TX2) (N := 11) hx hb hts hi_2 hown hK hP 0 rfl rfl 3 (by decide) hf_22 (fun _ h9 => h9) rfl dX2_gather_32 ?_
            refine lv_iload hx hb dX2_gather_35 (lv_at hl 0 rfl) ?_
            refine va_iald hx hb hK hP 2 0 rfl rfl (ki_in (om_8 LP1_h0) (om_92 c0 i_2)) dX2_gather_37 ?_
            refine lv_topi (fun y_5 ey_5 => ?_)
            have j_5 : y_5.toInt = (ft i.toNatClampNeg).toInt := congrArg Int32.toInt ey_5
            refine lv_istore (lv' := [(4, .int y_5), (5, .int i), (0, .ref q_t), (1, .ref h0), (2, .int p0), (3, .int p1)]) hx hb dX2_gather_38 hl (by decide) rfl (fun ls hl => ?_)
            refine lv_aload_n hx hb dX2_gather_40 rfl (lv_at hl 2 rfl) ?_
            refine lv_aload_n hx hb dX2_gather_41 rfl (lv_at hl 3 rfl) ?_
            refine lv_iload hx hb dX2_gather_42 (lv_at hl 1 rfl) ?_
            have hPc := hP.sub (ws' := [kx_2 q_t q_row q_joined q_from q_to q_size q_lossOf q_lessBy q_value q_number nodes here, kx_a q_size cyI 319 fs, kx_a q_lossOf cyI 319 fo, kx_a q_value cyI 1914 uv, kx_a q_number cyI 1914 un, kx_3 h0 a_v a_n zz zl zb, kx_a a_v cyI 12 yv, kx_a a_n cyI 12 yn]) [0, 3, 4, 5, 6, 9, 7, 8] rfl
            have hKc := hK
            have hDc := hD.sub (ws' := [kx_2 q_t q_row q_joined q_from q_to q_size q_lossOf q_lessBy q_value q_number nodes here, kx_a q_size cyI 319 fs, kx_a q_lossOf cyI 319 fo, kx_a q_value cyI 1914 uv, kx_a q_number cyI 1914 un, kx_3 h0 a_v a_n zz zl zb, kx_a a_v cyI 12 yv, kx_a a_n cyI 12 yn]) [0, 3, 4, 5, 6, 9, 7, 8] (by decide) rfl
            have hFc := va_free (wc := [kx_2 q_t q_row q_joined q_from q_to q_size q_lossOf q_lessBy q_value q_number nodes here, kx_a q_size cyI 319 fs, kx_a q_lossOf cyI 319 fo, kx_a q_value cyI 1914 uv, kx_a q_number cyI 1914 un, kx_3 h0 a_v a_n zz zl zb, kx_a a_v cyI 12 yv, kx_a a_n cyI 12 yn]) hD hS hA [0, 3, 4, 5, 6, 9, 7, 8] rfl
            refine va_callv (va_runV (As := [.ref h0, .int i]) (rest := []) ⟨hx, hb, hml, hown, hts⟩ (c_X2_joinNode l dC dI q_t q_row q_joined q_from q_to q_size q_lossOf q_lessBy q_value q_number nodes here h0 a_v a_n cyI zz zl zb yv yn fs fo uv un i H.size LP1_h1 LP1_h2 LP1_h0 (om_99 c0 i_2) s0) (cwV 2 hts gX2_gather_X2_joinNode rfl rfl rfl (by decide +kernel) ⟨Nat.le_of_ble_eq_true rfl, Nat.le_of_ble_eq_true rfl⟩) ⟨fun a U g mk q => by obtain ⟨q0, q1, qP, qK, qD⟩ := q; exact ⟨q0, q1, qP, va_K.moved (u := U) (U := U.calling g mk a) (Vm.Alike.refl U.vm) qK, qD⟩, va_recv hKc hPc (ci := 2) (q0 := 0) rfl rfl, fun U hU hW => ⟨rfl, by rw [hU], by rw [hU]; exact hPc, va_K.moved hW.alike hKc, hDc.weaken (fun _ _ _ _ => trivial)⟩⟩ rfl rfl hl.1 rfl (lv_room (Nat.le_of_ble_eq_true rfl)) dX2_gather_44 ⟨Nat.le_of_ble_eq_true rfl, Nat.le_of_ble_eq_true rfl⟩) hS (fun q _ h => hFc q h) hFc (fun u t H1 locs ht hvm w_6 hB hz1 hk1 hS => ?_)
            obtain ⟨o_7, o_8, o_9, o_10⟩ := u
            dsimp only at w_6 hB
            obtain ⟨hP1, hK1, hD1⟩ := hB
            rw [ht] at hP1
            have hK1 := va_K.moved hvm.symm hK1
            obtain ⟨hP, hD⟩ := va_join (wr := [kx_a q_from cyI 319 ff, kx_a q_to cyI 319 ft]) (w1 := [kx_2 q_t q_row q_joined q_from q_to q_size q_lossOf q_lessBy q_value q_number nodes here, kx_a q_size cyI 319 fs, kx_a q_lossOf cyI 319 fo, kx_a q_value cyI 1914 uv, kx_a q_number cyI 1914 un, kx_3 h0 a_v a_n o_7 o_8 zb, kx_a a_v cyI 12 o_9, kx_a a_n cyI 12 o_10]) hP hD [0, 3, 4, 5, 6, 9, 7, 8] [1, 2] rfl rfl (by decide) (by decide) hk1 hFc hP1 hD1
            clear hP1 hD1 hK1 hk1 hz1 hFc hDc hPc hKc
            generalize H1 = H at hP hS ⊢
            have hP : va_P (dC, dI) vwCl [kx_a q_from cyI 319 ff, kx_a q_to cyI 319 ft, kx_2 q_t q_row q_joined q_from q_to q_size q_lossOf q_lessBy q_value q_number nodes here, kx_a q_size cyI 319 fs, kx_a q_lossOf cyI 319 fo, kx_a q_value cyI 1914 uv, kx_a q_number cyI 1914 un, kx_3 h0 a_v a_n o_7 o_8 zb, kx_a a_v cyI 12 o_9, kx_a a_n cyI 12 o_10] H := hP
            have hD : va_D A [kx_a q_from cyI 319 ff, kx_a q_to cyI 319 ft, kx_2 q_t q_row q_joined q_from q_to q_size q_lossOf q_lessBy q_value q_number nodes here, kx_a q_size cyI 319 fs, kx_a q_lossOf cyI 319 fo, kx_a q_value cyI 1914 uv, kx_a q_number cyI 1914 un, kx_3 h0 a_v a_n o_7 o_8 zb, kx_a a_v cyI 12 o_9, kx_a a_n cyI 12 o_10] := hD
            have w_6 : 0 ≤ o_7.toInt ∧ o_7.toInt ≤ 12 := w_6
            refine lv_aload_n hx hb dX2_gather_47 rfl (lv_at hl 3 rfl) ?_
            refine lv_aload_n hx hb dX2_gather_48 rfl (lv_at hl 2 rfl) ?_
            refine va_get (D := (dC, dI)) (ci := 2) (v := .int here) (C := RX2) (T := TX2) (N := 11) hx hb hts hi_2 hown hK hP 2 rfl rfl 10 (by decide) hf_85 (fun _ h9 => h9) rfl dX2_gather_49 ?_
            have hPc := hP.sub (ws' := [kx_3 h0 a_v a_n o_7 o_8 zb, kx_a a_v cyI 12 o_9, kx_a a_n cyI 12 o_10]) [7, 8, 9] rfl
            have hKc := hK
            have hDc := hD.sub (ws' := [kx_3 h0 a_v a_n o_7 o_8 zb, kx_a a_v cyI 12 o_9, kx_a a_n cyI 12 o_10]) [7, 8, 9] (by decide) rfl
            have hFc := va_free (wc := [kx_3 h0 a_v a_n o_7 o_8 zb, kx_a a_v cyI 12 o_9, kx_a a_n cyI 12 o_10]) hD hS hA [7, 8, 9] rfl
            refine va_callv (va_runV (As := [.int here]) (rest := []) ⟨hx, hb, hml, hown, hts⟩ (c_X3_cancel l dC dI h0 a_v a_n cyI o_7 o_8 zb o_9 o_10 here H.size w_6.1 w_6.2) (cwV 1 hts gX2_gather_X3_cancel rfl rfl rfl (by decide +kernel) ⟨Nat.le_of_ble_eq_true rfl, Nat.le_of_ble_eq_true rfl⟩) ⟨fun a U g mk q => by obtain ⟨q0, q1, qP, qK, qD⟩ := q; exact ⟨q0, q1, qP, va_K.moved (u := U) (U := U.calling g mk a) (Vm.Alike.refl U.vm) qK, qD⟩, va_recv hKc hPc (ci := 3) (q0 := 0) rfl rfl, fun U hU hW => ⟨rfl, by rw [hU], by rw [hU]; exact hPc, va_K.moved hW.alike hKc, hDc.weaken (fun _ _ _ _ => trivial)⟩⟩ rfl rfl hl.1 rfl (lv_room (Nat.le_of_ble_eq_true rfl)) dX2_gather_52 ⟨Nat.le_of_ble_eq_true rfl, Nat.le_of_ble_eq_true rfl⟩) hS (fun q _ h => hFc q h) hFc (fun u t H1 locs ht hvm w_11 hB hz1 hk1 hS => ?_)
            obtain ⟨o_12, o_13, o_14, o_15, o_16⟩ := u
            dsimp only at w_11 hB
            obtain ⟨hP1, hK1, hD1⟩ := hB
            rw [ht] at hP1
            have hK1 := va_K.moved hvm.symm hK1
            obtain ⟨hP, hD⟩ := va_join (wr := [kx_a q_from cyI 319 ff, kx_a q_to cyI 319 ft, kx_2 q_t q_row q_joined q_from q_to q_size q_lossOf q_lessBy q_value q_number nodes here, kx_a q_size cyI 319 fs, kx_a q_lossOf cyI 319 fo, kx_a q_value cyI 1914 uv, kx_a q_number cyI 1914 un]) (w1 := [kx_3 h0 a_v a_n o_12 o_13 o_14, kx_a a_v cyI 12 o_15, kx_a a_n cyI 12 o_16]) hP hD [7, 8, 9] [0, 1, 2, 3, 4, 5, 6] rfl rfl (by decide) (by decide) hk1 hFc hP1 hD1
            clear hP1 hD1 hK1 hk1 hz1 hFc hDc hPc hKc
            generalize H1 = H at hP hS ⊢
            have hP : va_P (dC, dI) vwCl [kx_a q_from cyI 319 ff, kx_a q_to cyI 319 ft, kx_2 q_t q_row q_joined q_from q_to q_size q_lossOf q_lessBy q_value q_number nodes here, kx_a q_size cyI 319 fs, kx_a q_lossOf cyI 319 fo, kx_a q_value cyI 1914 uv, kx_a q_number cyI 1914 un, kx_3 h0 a_v a_n o_12 o_13 o_14, kx_a a_v cyI 12 o_15, kx_a a_n cyI 12 o_16] H := hP
            have hD : va_D A [kx_a q_from cyI 319 ff, kx_a q_to cyI 319 ft, kx_2 q_t q_row q_joined q_from q_to q_size q_lossOf q_lessBy q_value q_number nodes here, kx_a q_size cyI 319 fs, kx_a q_lossOf cyI 319 fo, kx_a q_value cyI 1914 uv, kx_a q_number cyI 1914 un, kx_3 h0 a_v a_n o_12 o_13 o_14, kx_a a_v cyI 12 o_15, kx_a a_n cyI 12 o_16] := hD
            have w_11 : 0 ≤ o_12.toInt ∧ o_12.toInt ≤ o_7.toInt := w_11
            obtain ⟨x_17, ex_17⟩ : ∃ y : Int32, y = i + 1 := ⟨_, rfl⟩
            have i_17 : x_17.toInt = i.toInt + 1 := ki_add ex_17 rfl rfl (om_10 LP1_h0) (om_102 c0 i_2)
            refine lv_iinc (v := x_17) (lv' := [(5, .int x_17), (4, .int y_5), (0, .ref q_t), (1, .ref h0), (2, .int p0), (3, .int p1)]) hx hb dX2_gather_55 hl (k := 1) rfl (by rw [ex_17]; rfl) (by decide) rfl (fun ls hl => ?_)
            refine lv_goto (tgt := 10) hx hb dX2_gather_58 (by decide) ?_
            have hP : va_P (dC, dI) vwCl [kx_2 q_t q_row q_joined q_from q_to q_size q_lossOf q_lessBy q_value q_number nodes here, kx_a q_from cyI 319 ff, kx_a q_to cyI 319 ft, kx_a q_size cyI 319 fs, kx_a q_lossOf cyI 319 fo, kx_a q_value cyI 1914 uv, kx_a q_number cyI 1914 un, kx_a a_v cyI 12 o_15, kx_a a_n cyI 12 o_16, kx_3 h0 a_v a_n o_12 o_13 o_14] _ := hP.sub [2, 0, 1, 3, 4, 5, 6, 8, 9, 7] rfl
            have hD : va_D A [kx_2 q_t q_row q_joined q_from q_to q_size q_lossOf q_lessBy q_value q_number nodes here, kx_a q_from cyI 319 ff, kx_a q_to cyI 319 ft, kx_a q_size cyI 319 fs, kx_a q_lossOf cyI 319 fo, kx_a q_value cyI 1914 uv, kx_a q_number cyI 1914 un, kx_a a_v cyI 12 o_15, kx_a a_n cyI 12 o_16, kx_3 h0 a_v a_n o_12 o_13 o_14] := hD.sub [2, 0, 1, 3, 4, 5, 6, 8, 9, 7] (by decide) rfl
            exact ih1 x_17 y_5 o_12 o_13 o_14 o_15 o_16 (om_31 LP1_h0 i_17) (om_8 w_11.1) (om_103 w_6.2 w_11.2) (om_mu hn1 (om_5 i_17) (om_6 i_2)) _ _ hP hD hS ls (lv_sub hl [0, 1, 2, 3, 4, 5] rfl)
        · have w_3 : (¬ (ff i.toNatClampNeg).toInt = nxt.toInt ∨ p1.toInt < (ft i.toNatClampNeg).toInt) := w_3
          refine lv_if_eq (tgt := 55) hx hb dX2_gather_28 (by decide) (fun c_18 => ?_) (fun c_18 => ?_)
          · obtain ⟨x_19, ex_19⟩ : ∃ y : Int32, y = i + 1 := ⟨_, rfl⟩
            have i_19 : x_19.toInt = i.toInt + 1 := ki_add ex_19 rfl rfl (om_10 LP1_h0) (om_102 c0 i_2)
            refine lv_iinc (v := x_19) (lv' := [(5, .int x_19), (4, .int nxt), (0, .ref q_t), (1, .ref h0), (2, .int p0), (3, .int p1)]) hx hb dX2_gather_55 hl (k := 0) rfl (by rw [ex_19]; rfl) (by decide) rfl (fun ls hl => ?_)
            refine lv_goto (tgt := 10) hx hb dX2_gather_58 (by decide) ?_
            exact ih1 x_19 nxt zz zl zb yv yn (om_31 LP1_h0 i_19) (om_8 LP1_h1) (om_53 LP1_h2) (om_mu hn1 (om_5 i_19) (om_6 i_2)) _ _ hP hD hS ls (lv_sub hl [0, 1, 2, 3, 4, 5] rfl)
          · exact absurd c_18 (by decide)
  have k_20 : (0 : Int32).toInt = 0 := rfl
  have k_21 : (0 : Int32).toInt = 0 := rfl
  have k_22 : (0 : Int32).toInt = 0 := rfl
  have k_23 : (0 : Int32).toInt = 0 := rfl
  exact LP1 ((nodes.toInt - 0 : Int).toNat + 1) 0 p0 0 0 0 fv fn om_32 om_32 om_81 (Nat.lt_succ_self _) _ _ hP hD hS ls (lv_sub hl [0, 1, 2, 3, 4, 5] rfl)

set_option maxHeartbeats 4000000 in
set_option maxRecDepth 100000 in
theorem c_X2_depthAt (l : Launch) (dC : Nat → ClassId) (dI : Nat → Nat → Nat) (q_t : Nat) (q_row : Nat) (q_joined : Nat) (q_from : Nat) (q_to : Nat) (q_size : Nat) (q_lossOf : Nat) (q_lessBy : Nat) (q_value : Nat) (q_number : Nat) (nodes : Int32) (here : Int32) (cyI : ClassId) (ff : Nat → Int32) (ft : Nat → Int32) (p0 : Int32) (b0 : 0 ≤ nodes.toInt) (c0 : nodes.toInt ≤ 319) : Met l yX2_depthAt wsX2_depthAt ({ frames := 1, cells := 0, slots := 0, locals := 45 }) (va_Pc [.ref q_t, .int p0] (fun U => va_P (dC, dI) vwCl [kx_2 q_t q_row q_joined q_from q_to q_size q_lossOf q_lessBy q_value q_number nodes here, kx_a q_from cyI 319 ff, kx_a q_to cyI 319 ft] U.heap ∧ va_K (dC, dI) vwCl [(cyI, .int)] U)) (vp_Si (fun r : Int32 => True)) 0 0 (fun _ => False) := by
  refine Met.ofW (cc := cX2_depthAt) (maxL := 4) (ret := (some .int)) (by decide) rfl ?_
  intro p e s m args below meth c s₁ B hml hv
  obtain ⟨rfl, hP, hK⟩ := hv
  have hx := B.exec
  have hb := B.bytes
  have hr := B.returns
  have hts := atoms_spec (ws := wsX2_depthAt) B.pre
  have hown : s.vm.findClass RX2 = some m.cls := findClass_of_methodNamed B.named
  have hlocks := B.notSynchronized
  have hP : va_P (dC, dI) vwCl [kx_2 q_t q_row q_joined q_from q_to q_size q_lossOf q_lessBy q_value q_number nodes here, kx_a q_from cyI 319 ff, kx_a q_to cyI 319 ft] s.heap := hP
  have hl := lv_entry ([.ref q_t, .int p0]) (n := 4) (Nat.le_of_ble_eq_true rfl)
  rw [lg_entry_eq]
  generalize (lg_sl ([.ref q_t, .int p0]) ++ List.replicate (4 - (lg_sl ([.ref q_t, .int p0])).length) Slot.unset).toArray = ls at hl ⊢
  have hl : lv_has ls 4 [(0, .ref q_t), (1, .int p0)] := hl
  have hf_50 := hts (.fieldLink RX2 50 "MajorityIndex$Tree" "nodes" "I") (List.mem_of_getElem? (i := 1) rfl)
  have hi_2 : ∀ w ∈ u_ws RX2 TX2 11, w ∈ wsX2_depthAt := fun w h => List.mem_cons_of_mem _ (List.mem_append_right _ h)
  refine lv_iconst (v := 0) hx hb dX2_depthAt_0 (by decide) ?_
  refine lv_istore_n (lv' := [(2, .int 0), (0, .ref q_t), (1, .int p0)]) hx hb dX2_depthAt_1 rfl hl (by decide) rfl (fun ls hl => ?_)
  refine lv_iconst (v := 0) hx hb dX2_depthAt_2 (by decide) ?_
  refine lv_istore_n (lv' := [(3, .int 0), (2, .int 0), (0, .ref q_t), (1, .int p0)]) hx hb dX2_depthAt_3 rfl hl (by decide) rfl (fun ls hl => ?_)
  have LP1 : ∀ (n : Nat) (i : Int32) (deep : Int32), (0 ≤ i.toInt) → (nodes.toInt - i.toInt).toNat < n → ∀ (ls : Array Slot), lv_has ls 4 [(3, .int i), (2, .int deep), (0, .ref q_t), (1, .int p0)] → W p l e (headSpec wsX2_depthAt ({ frames := 1, cells := 0, slots := 0, locals := 45 })).room s m ([.ref q_t, .int p0] : List Value).toArray below meth c s.heap [] 0 0 (MQ below (vp_Si (fun r : Int32 => True)) ([.ref q_t, .int p0] : List Value).toArray s 0 0 (fun _ => False)) (F0 m 4 ls []) := by
    intro n
    induction n with
    | zero => intro i deep LP1_h0 hn; exact absurd hn (Nat.not_lt_zero _)
    | succ n ih1 =>
      intro i deep LP1_h0 hn1 ls hl
      refine lv_iload_n hx hb dX2_depthAt_4 rfl (lv_at hl 0 rfl) ?_
      refine lv_aload_n hx hb dX2_depthAt_5 rfl (lv_at hl 2 rfl) ?_
      refine va_get (D := (dC, dI)) (ci := 2) (v := .int nodes) (C := RX2) (T := TX2) (N := 11) hx hb hts hi_2 hown hK hP 0 rfl rfl 9 (by decide) hf_50 (fun _ h9 => h9) rfl dX2_depthAt_6 ?_
      refine lv_icmp_ge (tgt := 30) hx hb dX2_depthAt_9 (by decide) (fun c_1 => ?_) (fun c_1 => ?_)
      · have i_1 : nodes.toInt ≤ i.toInt := kc_le c_1
        refine lv_iload_n hx hb dX2_depthAt_30 rfl (lv_at hl 1 rfl) ?_
        exact W.iret (v := deep) hx hb hr (fun t ht hW => ⟨deep, rfl, trivial, ht⟩) (fun q hq => by cases hq) dX2_depthAt_31
      · have i_1 : i.toInt < nodes.toInt := kc_nle c_1
        refine lv_aload_n hx hb dX2_depthAt_12 rfl (lv_at hl 2 rfl) ?_
        refine lv_iload_n hx hb dX2_depthAt_13 rfl (lv_at hl 0 rfl) ?_
        refine lv_iload_n hx hb dX2_depthAt_14 rfl (lv_at hl 3 rfl) ?_
        have hPc := hP
        have hKc := hK
        refine vp_callSi (W.runV (As := [.int i, .int p0]) (rest := []) ⟨hx, hb, hml, hown, hts⟩ (c_X2_hasPlace l dC dI q_t q_row q_joined q_from q_to q_size q_lossOf q_lessBy q_value q_number nodes here cyI ff ft i p0 LP1_h0 (om_99 c0 i_1)) (cwV 2 hts gX2_depthAt_X2_hasPlace rfl rfl rfl (by decide +kernel) ⟨Nat.le_of_ble_eq_true rfl, Nat.le_of_ble_eq_true rfl⟩) ⟨fun a U g mk q => by obtain ⟨q0, qP, qK⟩ := q; exact ⟨q0, qP, va_K.moved (u := U) (U := U.calling g mk a) (Vm.Alike.refl U.vm) qK⟩, va_recv hKc hPc (ci := 2) (q0 := 0) rfl rfl, fun U hU hW => ⟨rfl, by rw [hU]; exact hPc, va_K.moved hW.alike hKc⟩⟩ rfl rfl hl.1 rfl (lv_room (Nat.le_of_ble_eq_true rfl)) dX2_depthAt_15 ⟨Nat.le_of_ble_eq_true rfl, Nat.le_of_ble_eq_true rfl⟩) (fun r_2 w_2 => ?_)
        rcases w_2 with ⟨rfl, w_2⟩ | ⟨rfl, w_2⟩
        · have w_2 : ((ff i.toNatClampNeg).toInt ≤ p0.toInt ∧ p0.toInt < (ft i.toNatClampNeg).toInt) := w_2
          refine lv_if_eq (tgt := 24) hx hb dX2_depthAt_18 (by decide) (fun c_3 => ?_) (fun c_3 => ?_)
          · exact absurd c_3 (by decide)
          · obtain ⟨x_4, ex_4⟩ : ∃ y : Int32, y = deep + 1 := ⟨_, rfl⟩
            refine lv_iinc (v := x_4) (lv' := [(2, .int x_4), (3, .int i), (0, .ref q_t), (1, .int p0)]) hx hb dX2_depthAt_21 hl (k := 1) rfl (by rw [ex_4]; rfl) (by decide) rfl (fun ls hl => ?_)
            obtain ⟨x_5, ex_5⟩ : ∃ y : Int32, y = i + 1 := ⟨_, rfl⟩
            have i_5 : x_5.toInt = i.toInt + 1 := ki_add ex_5 rfl rfl (om_10 LP1_h0) (om_102 c0 i_1)
            refine lv_iinc (v := x_5) (lv' := [(3, .int x_5), (2, .int x_4), (0, .ref q_t), (1, .int p0)]) hx hb dX2_depthAt_24 hl (k := 1) rfl (by rw [ex_5]; rfl) (by decide) rfl (fun ls hl => ?_)
            refine lv_goto (tgt := 4) hx hb dX2_depthAt_27 (by decide) ?_
            exact ih1 x_5 x_4 (om_31 LP1_h0 i_5) (om_mu hn1 (om_5 i_5) (om_6 i_1)) ls (lv_sub hl [0, 1, 2, 3] rfl)
        · have w_2 : (p0.toInt < (ff i.toNatClampNeg).toInt ∨ (ft i.toNatClampNeg).toInt ≤ p0.toInt) := w_2
          refine lv_if_eq (tgt := 24) hx hb dX2_depthAt_18 (by decide) (fun c_6 => ?_) (fun c_6 => ?_)
          · obtain ⟨x_7, ex_7⟩ : ∃ y : Int32, y = i + 1 := ⟨_, rfl⟩
            have i_7 : x_7.toInt = i.toInt + 1 := ki_add ex_7 rfl rfl (om_10 LP1_h0) (om_102 c0 i_1)
            refine lv_iinc (v := x_7) (lv' := [(3, .int x_7), (2, .int deep), (0, .ref q_t), (1, .int p0)]) hx hb dX2_depthAt_24 hl (k := 0) rfl (by rw [ex_7]; rfl) (by decide) rfl (fun ls hl => ?_)
            refine lv_goto (tgt := 4) hx hb dX2_depthAt_27 (by decide) ?_
            exact ih1 x_7 deep (om_31 LP1_h0 i_7) (om_mu hn1 (om_5 i_7) (om_6 i_1)) ls (lv_sub hl [0, 1, 2, 3] rfl)
          · exact absurd c_6 (by decide)
  have k_8 : (0 : Int32).toInt = 0 := rfl
  have k_9 : (0 : Int32).toInt = 0 := rfl
  exact LP1 ((nodes.toInt - 0 : Int).toNat + 1) 0 0 om_32 (Nat.lt_succ_self _) ls (lv_sub hl [0, 1, 2, 3] rfl)

set_option maxHeartbeats 4000000 in
set_option maxRecDepth 100000 in
theorem c_X2_onPath (l : Launch) (dC : Nat → ClassId) (dI : Nat → Nat → Nat) (q_t : Nat) (q_row : Nat) (q_joined : Nat) (q_from : Nat) (q_to : Nat) (q_size : Nat) (q_lossOf : Nat) (q_lessBy : Nat) (q_value : Nat) (q_number : Nat) (nodes : Int32) (here : Int32) (cyI : ClassId) (ff : Nat → Int32) (ft : Nat → Int32) (p0 : Int32) (p1 : Int32) (b0 : 0 ≤ nodes.toInt) (c0 : nodes.toInt ≤ 319) : Met l yX2_onPath wsX2_onPath ({ frames := 1, cells := 0, slots := 0, locals := 45 }) (va_Pc [.ref q_t, .int p0, .int p1] (fun U => va_P (dC, dI) vwCl [kx_2 q_t q_row q_joined q_from q_to q_size q_lossOf q_lessBy q_value q_number nodes here, kx_a q_from cyI 319 ff, kx_a q_to cyI 319 ft] U.heap ∧ va_K (dC, dI) vwCl [(cyI, .int)] U)) (vp_Si (fun r : Int32 => (r.toInt = -1 ∨ (0 ≤ r.toInt ∧ r.toInt < nodes.toInt)))) 0 0 (fun _ => False) := by
  refine Met.ofW (cc := cX2_onPath) (maxL := 5) (ret := (some .int)) (by decide) rfl ?_
  intro p e s m args below meth c s₁ B hml hv
  obtain ⟨rfl, hP, hK⟩ := hv
  have hx := B.exec
  have hb := B.bytes
  have hr := B.returns
  have hts := atoms_spec (ws := wsX2_onPath) B.pre
  have hown : s.vm.findClass RX2 = some m.cls := findClass_of_methodNamed B.named
  have hlocks := B.notSynchronized
  have hP : va_P (dC, dI) vwCl [kx_2 q_t q_row q_joined q_from q_to q_size q_lossOf q_lessBy q_value q_number nodes here, kx_a q_from cyI 319 ff, kx_a q_to cyI 319 ft] s.heap := hP
  have hl := lv_entry ([.ref q_t, .int p0, .int p1]) (n := 5) (Nat.le_of_ble_eq_true rfl)
  rw [lg_entry_eq]
  generalize (lg_sl ([.ref q_t, .int p0, .int p1]) ++ List.replicate (5 - (lg_sl ([.ref q_t, .int p0, .int p1])).length) Slot.unset).toArray = ls at hl ⊢
  have hl : lv_has ls 5 [(0, .ref q_t), (1, .int p0), (2, .int p1)] := hl
  have hf_50 := hts (.fieldLink RX2 50 "MajorityIndex$Tree" "nodes" "I") (List.mem_of_getElem? (i := 1) rfl)
  have hi_2 : ∀ w ∈ u_ws RX2 TX2 11, w ∈ wsX2_onPath := fun w h => List.mem_cons_of_mem _ (List.mem_append_right _ h)
  refine lv_iconst (v := 0) hx hb dX2_onPath_0 (by decide) ?_
  refine lv_istore_n (lv' := [(3, .int 0), (0, .ref q_t), (1, .int p0), (2, .int p1)]) hx hb dX2_onPath_1 rfl hl (by decide) rfl (fun ls hl => ?_)
  refine lv_iconst (v := 0) hx hb dX2_onPath_2 (by decide) ?_
  refine lv_istore (lv' := [(4, .int 0), (3, .int 0), (0, .ref q_t), (1, .int p0), (2, .int p1)]) hx hb dX2_onPath_3 hl (by decide) rfl (fun ls hl => ?_)
  have LP1 : ∀ (n : Nat) (i : Int32) (seen : Int32), (0 ≤ i.toInt) → (nodes.toInt - i.toInt).toNat < n → ∀ (ls : Array Slot), lv_has ls 5 [(4, .int i), (3, .int seen), (0, .ref q_t), (1, .int p0), (2, .int p1)] → W p l e (headSpec wsX2_onPath ({ frames := 1, cells := 0, slots := 0, locals := 45 })).room s m ([.ref q_t, .int p0, .int p1] : List Value).toArray below meth c s.heap [] 0 0 (MQ below (vp_Si (fun r : Int32 => (r.toInt = -1 ∨ (0 ≤ r.toInt ∧ r.toInt < nodes.toInt)))) ([.ref q_t, .int p0, .int p1] : List Value).toArray s 0 0 (fun _ => False)) (F0 m 5 ls []) := by
    intro n
    induction n with
    | zero => intro i seen LP1_h0 hn; exact absurd hn (Nat.not_lt_zero _)
    | succ n ih1 =>
      intro i seen LP1_h0 hn1 ls hl
      refine lv_iload hx hb dX2_onPath_5 (lv_at hl 0 rfl) ?_
      refine lv_aload_n hx hb dX2_onPath_7 rfl (lv_at hl 2 rfl) ?_
      refine va_get (D := (dC, dI)) (ci := 2) (v := .int nodes) (C := RX2) (T := TX2) (N := 11) hx hb hts hi_2 hown hK hP 0 rfl rfl 9 (by decide) hf_50 (fun _ h9 => h9) rfl dX2_onPath_8 ?_
      refine lv_icmp_ge (tgt := 41) hx hb dX2_onPath_11 (by decide) (fun c_1 => ?_) (fun c_1 => ?_)
      · have i_1 : nodes.toInt ≤ i.toInt := kc_le c_1
        refine lv_iconst (v := (-1)) hx hb dX2_onPath_41 (by decide) ?_
        exact W.iret (v := (-1)) hx hb hr (fun t ht hW => ⟨(-1), rfl, (Or.inl rfl), ht⟩) (fun q hq => by cases hq) dX2_onPath_42
      · have i_1 : i.toInt < nodes.toInt := kc_nle c_1
        refine lv_aload_n hx hb dX2_onPath_14 rfl (lv_at hl 2 rfl) ?_
        refine lv_iload hx hb dX2_onPath_15 (lv_at hl 0 rfl) ?_
        refine lv_iload_n hx hb dX2_onPath_17 rfl (lv_at hl 3 rfl) ?_
        have hPc := hP
        have hKc := hK
        refine vp_callSi (W.runV (As := [.int i, .int p0]) (rest := []) ⟨hx, hb, hml, hown, hts⟩ (c_X2_hasPlace l dC dI q_t q_row q_joined q_from q_to q_size q_lossOf q_lessBy q_value q_number nodes here cyI ff ft i p0 LP1_h0 (om_99 c0 i_1)) (cwV 2 hts gX2_onPath_X2_hasPlace rfl rfl rfl (by decide +kernel) ⟨Nat.le_of_ble_eq_true rfl, Nat.le_of_ble_eq_true rfl⟩) ⟨fun a U g mk q => by obtain ⟨q0, qP, qK⟩ := q; exact ⟨q0, qP, va_K.moved (u := U) (U := U.calling g mk a) (Vm.Alike.refl U.vm) qK⟩, va_recv hKc hPc (ci := 2) (q0 := 0) rfl rfl, fun U hU hW => ⟨rfl, by rw [hU]; exact hPc, va_K.moved hW.alike hKc⟩⟩ rfl rfl hl.1 rfl (lv_room (Nat.le_of_ble_eq_true rfl)) dX2_onPath_18 ⟨Nat.le_of_ble_eq_true rfl, Nat.le_of_ble_eq_true rfl⟩) (fun r_2 w_2 => ?_)
        rcases w_2 with ⟨rfl, w_2⟩ | ⟨rfl, w_2⟩
        · have w_2 : ((ff i.toNatClampNeg).toInt ≤ p0.toInt ∧ p0.toInt < (ft i.toNatClampNeg).toInt) := w_2
          refine lv_if_eq (tgt := 35) hx hb dX2_onPath_21 (by decide) (fun c_3 => ?_) (fun c_3 => ?_)
          · exact absurd c_3 (by decide)
          · refine lv_iload_n hx hb dX2_onPath_24 rfl (lv_at hl 1 rfl) ?_
            refine lv_iload_n hx hb dX2_onPath_25 rfl (lv_at hl 4 rfl) ?_
            refine lv_icmp_ne (tgt := 32) hx hb dX2_onPath_26 (by decide) (fun c_4 => ?_) (fun c_4 => ?_)
            · have i_4 : ¬ seen.toInt = p1.toInt := kc_ne c_4
              obtain ⟨x_5, ex_5⟩ : ∃ y : Int32, y = seen + 1 := ⟨_, rfl⟩
              refine lv_iinc (v := x_5) (lv' := [(3, .int x_5), (4, .int i), (0, .ref q_t), (1, .int p0), (2, .int p1)]) hx hb dX2_onPath_32 hl (k := 1) rfl (by rw [ex_5]; rfl) (by decide) rfl (fun ls hl => ?_)
              obtain ⟨x_6, ex_6⟩ : ∃ y : Int32, y = i + 1 := ⟨_, rfl⟩
              have i_6 : x_6.toInt = i.toInt + 1 := ki_add ex_6 rfl rfl (om_10 LP1_h0) (om_102 c0 i_1)
              refine lv_iinc (v := x_6) (lv' := [(4, .int x_6), (3, .int x_5), (0, .ref q_t), (1, .int p0), (2, .int p1)]) hx hb dX2_onPath_35 hl (k := 1) rfl (by rw [ex_6]; rfl) (by decide) rfl (fun ls hl => ?_)
              refine lv_goto (tgt := 5) hx hb dX2_onPath_38 (by decide) ?_
              exact ih1 x_6 x_5 (om_31 LP1_h0 i_6) (om_mu hn1 (om_5 i_6) (om_6 i_1)) ls (lv_sub hl [0, 1, 2, 3, 4] rfl)
            · have i_4 : seen.toInt = p1.toInt := kc_eq c_4
              refine lv_iload hx hb dX2_onPath_29 (lv_at hl 0 rfl) ?_
              exact W.iret (v := i) hx hb hr (fun t ht hW => ⟨i, rfl, (by (try dsimp only); omega), ht⟩) (fun q hq => by cases hq) dX2_onPath_31
        · have w_2 : (p0.toInt < (ff i.toNatClampNeg).toInt ∨ (ft i.toNatClampNeg).toInt ≤ p0.toInt) := w_2
          refine lv_if_eq (tgt := 35) hx hb dX2_onPath_21 (by decide) (fun c_7 => ?_) (fun c_7 => ?_)
          · obtain ⟨x_8, ex_8⟩ : ∃ y : Int32, y = i + 1 := ⟨_, rfl⟩
            have i_8 : x_8.toInt = i.toInt + 1 := ki_add ex_8 rfl rfl (om_10 LP1_h0) (om_102 c0 i_1)
            refine lv_iinc (v := x_8) (lv' := [(4, .int x_8), (3, .int seen), (0, .ref q_t), (1, .int p0), (2, .int p1)]) hx hb dX2_onPath_35 hl (k := 0) rfl (by rw [ex_8]; rfl) (by decide) rfl (fun ls hl => ?_)
            refine lv_goto (tgt := 5) hx hb dX2_onPath_38 (by decide) ?_
            exact ih1 x_8 seen (om_31 LP1_h0 i_8) (om_mu hn1 (om_5 i_8) (om_6 i_1)) ls (lv_sub hl [0, 1, 2, 3, 4] rfl)
          · exact absurd c_7 (by decide)
  have k_9 : (0 : Int32).toInt = 0 := rfl
  have k_10 : (0 : Int32).toInt = 0 := rfl
  exact LP1 ((nodes.toInt - 0 : Int).toNat + 1) 0 0 om_32 (Nat.lt_succ_self _) ls (lv_sub hl [0, 1, 2, 3, 4] rfl)

set_option maxHeartbeats 4000000 in
set_option maxRecDepth 100000 in
theorem c_X2_numberIn (l : Launch) (dC : Nat → ClassId) (dI : Nat → Nat → Nat) (q_t : Nat) (q_row : Nat) (q_joined : Nat) (q_from : Nat) (q_to : Nat) (q_size : Nat) (q_lossOf : Nat) (q_lessBy : Nat) (q_value : Nat) (q_number : Nat) (nodes : Int32) (here : Int32) (cyI : ClassId) (fs : Nat → Int32) (uv : Nat → Int32) (un : Nat → Int32) (p0 : Int32) (p1 : Int32) (b0 : 0 ≤ p0.toInt) (b1 : p0.toInt < 319) (s0 : sixes fs) : Met l yX2_numberIn wsX2_numberIn ({ frames := 0, cells := 0, slots := 0, locals := 0 }) (va_Pc [.ref q_t, .int p0, .int p1] (fun U => va_P (dC, dI) vwCl [kx_2 q_t q_row q_joined q_from q_to q_size q_lossOf q_lessBy q_value q_number nodes here, kx_a q_size cyI 319 fs, kx_a q_value cyI 1914 uv, kx_a q_number cyI 1914 un] U.heap ∧ va_K (dC, dI) vwCl [(cyI, .int)] U)) (vp_Si (fun r : Int32 => True)) 0 0 (fun _ => False) := by
  refine Met.ofW (cc := cX2_numberIn) (maxL := 5) (ret := (some .int)) (by decide) rfl ?_
  intro p e s m args below meth c s₁ B hml hv
  obtain ⟨rfl, hP, hK⟩ := hv
  have hx := B.exec
  have hb := B.bytes
  have hr := B.returns
  have hts := atoms_spec (ws := wsX2_numberIn) B.pre
  have hown : s.vm.findClass RX2 = some m.cls := findClass_of_methodNamed B.named
  have hlocks := B.notSynchronized
  have hP : va_P (dC, dI) vwCl [kx_2 q_t q_row q_joined q_from q_to q_size q_lossOf q_lessBy q_value q_number nodes here, kx_a q_size cyI 319 fs, kx_a q_value cyI 1914 uv, kx_a q_number cyI 1914 un] s.heap := hP
  have hl := lv_entry ([.ref q_t, .int p0, .int p1]) (n := 5) (Nat.le_of_ble_eq_true rfl)
  rw [lg_entry_eq]
  generalize (lg_sl ([.ref q_t, .int p0, .int p1]) ++ List.replicate (5 - (lg_sl ([.ref q_t, .int p0, .int p1])).length) Slot.unset).toArray = ls at hl ⊢
  have hl : lv_has ls 5 [(0, .ref q_t), (1, .int p0), (2, .int p1)] := hl
  have hf_25 := hts (.fieldLink RX2 25 "MajorityIndex$Tree" "size" "[I") (List.mem_of_getElem? (i := 1) rfl)
  have hi_2 : ∀ w ∈ u_ws RX2 TX2 11, w ∈ wsX2_numberIn := fun w h => List.mem_cons_of_mem _ (List.mem_append_right _ h)
  have hf_34 := hts (.fieldLink RX2 34 "MajorityIndex$Tree" "value" "[I") (List.mem_of_getElem? (i := 2) rfl)
  have hf_37 := hts (.fieldLink RX2 37 "MajorityIndex$Tree" "number" "[I") (List.mem_of_getElem? (i := 3) rfl)
  refine lv_iload_n hx hb dX2_numberIn_0 rfl (lv_at hl 1 rfl) ?_
  refine lv_bipush (v := 6) hx hb dX2_numberIn_1 (by decide) ?_
  refine lv_imul hx hb dX2_numberIn_3 ?_
  refine lv_topi (fun y_1 ey_1 => ?_)
  have i_1 : y_1.toInt = p0.toInt * 6 := ki_mul ey_1 rfl rfl (om_76 b0) (om_77 b1)
  refine lv_istore_n (lv' := [(3, .int y_1), (0, .ref q_t), (1, .int p0), (2, .int p1)]) hx hb dX2_numberIn_4 rfl hl (by decide) rfl (fun ls hl => ?_)
  refine lv_iconst (v := 0) hx hb dX2_numberIn_5 (by decide) ?_
  refine lv_istore (lv' := [(4, .int 0), (3, .int y_1), (0, .ref q_t), (1, .int p0), (2, .int p1)]) hx hb dX2_numberIn_6 hl (by decide) rfl (fun ls hl => ?_)
  have LP1 : ∀ (n : Nat) (i : Int32), (0 ≤ i.toInt) → (6 - i.toInt).toNat < n → ∀ (ls : Array Slot), lv_has ls 5 [(4, .int i), (3, .int y_1), (0, .ref q_t), (1, .int p0), (2, .int p1)] → W p l e (headSpec wsX2_numberIn ({ frames := 0, cells := 0, slots := 0, locals := 0 })).room s m ([.ref q_t, .int p0, .int p1] : List Value).toArray below meth c s.heap [] 0 0 (MQ below (vp_Si (fun r : Int32 => True)) ([.ref q_t, .int p0, .int p1] : List Value).toArray s 0 0 (fun _ => False)) (F0 m 8 ls []) := by
    intro n
    induction n with
    | zero => intro i LP1_h0 hn; exact absurd hn (Nat.not_lt_zero _)
    | succ n ih1 =>
      intro i LP1_h0 hn1 ls hl
      refine lv_iload hx hb dX2_numberIn_8 (lv_at hl 0 rfl) ?_
      refine lv_aload_n hx hb dX2_numberIn_10 rfl (lv_at hl 2 rfl) ?_
      refine va_get (D := (dC, dI)) (ci := 2) (v := .ref q_size) (C := RX2) (T := TX2) (N := 11) hx hb hts hi_2 hown hK hP 0 rfl rfl 4 (by decide) hf_25 (fun _ h9 => h9) rfl dX2_numberIn_11 ?_
      refine lv_iload_n hx hb dX2_numberIn_14 rfl (lv_at hl 3 rfl) ?_
      refine va_iald hx hb hK hP 1 0 rfl rfl (ki_in (om_8 b0) (om_54 b1)) dX2_numberIn_15 ?_
      refine lv_topi (fun y_2 ey_2 => ?_)
      have j_2 : y_2.toInt = (fs p0.toNatClampNeg).toInt := congrArg Int32.toInt ey_2
      have n_3 : (p0.toNatClampNeg : Int) = p0.toInt := ki_nat _ rfl (om_8 b0)
      have i_4 := s0 p0.toNatClampNeg (by omega)
      refine lv_icmp_ge (tgt := 48) hx hb dX2_numberIn_16 (by decide) (fun c_5 => ?_) (fun c_5 => ?_)
      · have i_5 : y_2.toInt ≤ i.toInt := kc_le c_5
        refine lv_iconst (v := 0) hx hb dX2_numberIn_48 (by decide) ?_
        exact W.iret (v := 0) hx hb hr (fun t ht hW => ⟨0, rfl, trivial, ht⟩) (fun q hq => by cases hq) dX2_numberIn_49
      · have i_5 : i.toInt < y_2.toInt := kc_nle c_5
        refine lv_aload_n hx hb dX2_numberIn_19 rfl (lv_at hl 2 rfl) ?_
        refine va_get (D := (dC, dI)) (ci := 2) (v := .ref q_value) (C := RX2) (T := TX2) (N := 11) hx hb hts hi_2 hown hK hP 0 rfl rfl 7 (by decide) hf_34 (fun _ h9 => h9) rfl dX2_numberIn_20 ?_
        refine lv_iload_n hx hb dX2_numberIn_23 rfl (lv_at hl 1 rfl) ?_
        refine lv_iload hx hb dX2_numberIn_24 (lv_at hl 0 rfl) ?_
        refine lv_iadd hx hb dX2_numberIn_26 ?_
        refine lv_topi (fun y_6 ey_6 => ?_)
        have i_6 : y_6.toInt = y_1.toInt + i.toInt := ki_add ey_6 rfl rfl (om_78 b0 i_1 LP1_h0) (by omega)
        refine va_iald hx hb hK hP 2 0 rfl rfl (ki_in (om_79 b0 i_1 LP1_h0 i_6) (by omega)) dX2_numberIn_27 ?_
        refine lv_topi (fun y_7 ey_7 => ?_)
        have j_7 : y_7.toInt = (uv y_6.toNatClampNeg).toInt := congrArg Int32.toInt ey_7
        refine lv_iload_n hx hb dX2_numberIn_28 rfl (lv_at hl 4 rfl) ?_
        refine lv_icmp_ne (tgt := 42) hx hb dX2_numberIn_29 (by decide) (fun c_8 => ?_) (fun c_8 => ?_)
        · have i_8 : ¬ y_7.toInt = p1.toInt := kc_ne c_8
          obtain ⟨x_9, ex_9⟩ : ∃ y : Int32, y = i + 1 := ⟨_, rfl⟩
          have i_9 : x_9.toInt = i.toInt + 1 := ki_add ex_9 rfl rfl (om_10 LP1_h0) (by omega)
          refine lv_iinc (v := x_9) (lv' := [(4, .int x_9), (3, .int y_1), (0, .ref q_t), (1, .int p0), (2, .int p1)]) hx hb dX2_numberIn_42 hl (k := 0) rfl (by rw [ex_9]; rfl) (by decide) rfl (fun ls hl => ?_)
          refine lv_goto (tgt := 8) hx hb dX2_numberIn_45 (by decide) ?_
          exact ih1 x_9 (om_31 LP1_h0 i_9) (by omega) ls (lv_sub hl [0, 1, 2, 3, 4] rfl)
        · have i_8 : y_7.toInt = p1.toInt := kc_eq c_8
          refine lv_aload_n hx hb dX2_numberIn_32 rfl (lv_at hl 2 rfl) ?_
          refine va_get (D := (dC, dI)) (ci := 2) (v := .ref q_number) (C := RX2) (T := TX2) (N := 11) hx hb hts hi_2 hown hK hP 0 rfl rfl 8 (by decide) hf_37 (fun _ h9 => h9) rfl dX2_numberIn_33 ?_
          refine lv_iload_n hx hb dX2_numberIn_36 rfl (lv_at hl 1 rfl) ?_
          refine lv_iload hx hb dX2_numberIn_37 (lv_at hl 0 rfl) ?_
          refine lv_iadd hx hb dX2_numberIn_39 ?_
          refine lv_topi (fun y_10 ey_10 => ?_)
          have i_10 : y_10.toInt = y_1.toInt + i.toInt := ki_add ey_10 rfl rfl (om_78 b0 i_1 LP1_h0) (by omega)
          refine va_iald hx hb hK hP 3 0 rfl rfl (ki_in (om_79 b0 i_1 LP1_h0 i_10) (by omega)) dX2_numberIn_40 ?_
          refine lv_topi (fun y_11 ey_11 => ?_)
          have j_11 : y_11.toInt = (un y_10.toNatClampNeg).toInt := congrArg Int32.toInt ey_11
          exact W.iret (v := y_11) hx hb hr (fun t ht hW => ⟨y_11, rfl, trivial, ht⟩) (fun q hq => by cases hq) dX2_numberIn_41
  have k_12 : (0 : Int32).toInt = 0 := rfl
  exact LP1 ((6 - 0 : Int).toNat + 1) 0 om_32 (Nat.lt_succ_self _) ls (lv_sub hl [0, 1, 2, 3, 4] rfl)

set_option maxHeartbeats 4000000 in
set_option maxRecDepth 100000 in
theorem c_X2_holding (l : Launch) (dC : Nat → ClassId) (dI : Nat → Nat → Nat) (q_t : Nat) (q_row : Nat) (q_joined : Nat) (q_from : Nat) (q_to : Nat) (q_size : Nat) (q_lossOf : Nat) (q_lessBy : Nat) (q_value : Nat) (q_number : Nat) (nodes : Int32) (here : Int32) (q_cell : Nat) (cyI : ClassId) (len : Int32) (f : Nat → Int32) (ff : Nat → Int32) (ft : Nat → Int32) (fs : Nat → Int32) (uv : Nat → Int32) (un : Nat → Int32) (p0 : Int32) (b0 : 0 ≤ nodes.toInt) (c0 : nodes.toInt ≤ 319) (s0 : sixes fs) (d0 : 0 ≤ p0.toInt) (d1 : p0.toInt < 160) : Met l yX2_holding wsX2_holding ({ frames := 1, cells := 0, slots := 0, locals := 45 }) (va_Pc [.ref q_t, .int p0] (fun U => va_P (dC, dI) vwCl [kx_2 q_t q_row q_joined q_from q_to q_size q_lossOf q_lessBy q_value q_number nodes here, kx_0 q_row q_cell len, kx_a q_cell cyI 160 f, kx_a q_from cyI 319 ff, kx_a q_to cyI 319 ft, kx_a q_size cyI 319 fs, kx_a q_value cyI 1914 uv, kx_a q_number cyI 1914 un] U.heap ∧ va_K (dC, dI) vwCl [(cyI, .int)] U)) (vp_Si (fun r : Int32 => True)) 0 0 (fun _ => False) := by
  refine Met.ofW (cc := cX2_holding) (maxL := 4) (ret := (some .int)) (by decide) rfl ?_
  intro p e s m args below meth c s₁ B hml hv
  obtain ⟨rfl, hP, hK⟩ := hv
  have hx := B.exec
  have hb := B.bytes
  have hr := B.returns
  have hts := atoms_spec (ws := wsX2_holding) B.pre
  have hown : s.vm.findClass RX2 = some m.cls := findClass_of_methodNamed B.named
  have hlocks := B.notSynchronized
  have hP : va_P (dC, dI) vwCl [kx_2 q_t q_row q_joined q_from q_to q_size q_lossOf q_lessBy q_value q_number nodes here, kx_0 q_row q_cell len, kx_a q_cell cyI 160 f, kx_a q_from cyI 319 ff, kx_a q_to cyI 319 ft, kx_a q_size cyI 319 fs, kx_a q_value cyI 1914 uv, kx_a q_number cyI 1914 un] s.heap := hP
  have hl := lv_entry ([.ref q_t, .int p0]) (n := 4) (Nat.le_of_ble_eq_true rfl)
  rw [lg_entry_eq]
  generalize (lg_sl ([.ref q_t, .int p0]) ++ List.replicate (4 - (lg_sl ([.ref q_t, .int p0])).length) Slot.unset).toArray = ls at hl ⊢
  have hl : lv_has ls 4 [(0, .ref q_t), (1, .int p0)] := hl
  have hf_50 := hts (.fieldLink RX2 50 "MajorityIndex$Tree" "nodes" "I") (List.mem_of_getElem? (i := 1) rfl)
  have hi_2 : ∀ w ∈ u_ws RX2 TX2 11, w ∈ wsX2_holding := fun w h => List.mem_cons_of_mem _ (List.mem_append_left _ (List.mem_append_right _ h))
  have hf_40 := hts (.fieldLink RX2 40 "MajorityIndex$Tree" "row" "LMajorityIndex$Row;") (List.mem_of_getElem? (i := 2) rfl)
  have hf_74 := hts (.fieldLink RX2 74 "MajorityIndex$Row" "cell" "[I") (List.mem_of_getElem? (i := 3) rfl)
  have hi_0 : ∀ w ∈ u_ws RX0 TX0 2, w ∈ wsX2_holding := fun w h => List.mem_cons_of_mem _ (List.mem_append_right _ h)
  refine lv_iconst (v := 0) hx hb dX2_holding_0 (by decide) ?_
  refine lv_istore_n (lv' := [(2, .int 0), (0, .ref q_t), (1, .int p0)]) hx hb dX2_holding_1 rfl hl (by decide) rfl (fun ls hl => ?_)
  refine lv_aload_n hx hb dX2_holding_2 rfl (lv_at hl 1 rfl) ?_
  refine va_get (D := (dC, dI)) (ci := 2) (v := .int nodes) (C := RX2) (T := TX2) (N := 11) hx hb hts hi_2 hown hK hP 0 rfl rfl 9 (by decide) hf_50 (fun _ h9 => h9) rfl dX2_holding_3 ?_
  refine lv_iconst (v := 1) hx hb dX2_holding_6 (by decide) ?_
  refine lv_isub hx hb dX2_holding_7 ?_
  refine lv_topi (fun y_1 ey_1 => ?_)
  have i_1 : y_1.toInt = nodes.toInt - 1 := ki_sub ey_1 rfl rfl (om_90 b0) (om_91 c0)
  refine lv_istore_n (lv' := [(3, .int y_1), (2, .int 0), (0, .ref q_t), (1, .int p0)]) hx hb dX2_holding_8 rfl hl (by decide) rfl (fun ls hl => ?_)
  have LP1 : ∀ (n : Nat) (many : Int32) (i : Int32), (i.toInt < nodes.toInt) → (-1 ≤ i.toInt) → (i.toInt + 1).toNat < n → ∀ (ls : Array Slot), lv_has ls 4 [(3, .int i), (2, .int many), (0, .ref q_t), (1, .int p0)] → W p l e (headSpec wsX2_holding ({ frames := 1, cells := 0, slots := 0, locals := 45 })).room s m ([.ref q_t, .int p0] : List Value).toArray below meth c s.heap [] 0 0 (MQ below (vp_Si (fun r : Int32 => True)) ([.ref q_t, .int p0] : List Value).toArray s 0 0 (fun _ => False)) (F0 m 9 ls []) := by
    intro n
    induction n with
    | zero => intro many i LP1_h0 LP1_h1 hn; exact absurd hn (Nat.not_lt_zero _)
    | succ n ih1 =>
      intro many i LP1_h0 LP1_h1 hn1 ls hl
      refine lv_iload_n hx hb dX2_holding_9 rfl (lv_at hl 0 rfl) ?_
      refine lv_if_lt (tgt := 50) hx hb dX2_holding_10 (by decide) (fun c_2 => ?_) (fun c_2 => ?_)
      · have i_2 : i.toInt < 0 := kc_lt c_2
        refine lv_iload_n hx hb dX2_holding_50 rfl (lv_at hl 1 rfl) ?_
        exact W.iret (v := many) hx hb hr (fun t ht hW => ⟨many, rfl, trivial, ht⟩) (fun q hq => by cases hq) dX2_holding_51
      · have i_2 : 0 ≤ i.toInt := kc_nlt c_2
        refine lv_aload_n hx hb dX2_holding_13 rfl (lv_at hl 2 rfl) ?_
        refine lv_iload_n hx hb dX2_holding_14 rfl (lv_at hl 0 rfl) ?_
        refine lv_iload_n hx hb dX2_holding_15 rfl (lv_at hl 3 rfl) ?_
        have hPc := hP.sub (ws' := [kx_2 q_t q_row q_joined q_from q_to q_size q_lossOf q_lessBy q_value q_number nodes here, kx_a q_from cyI 319 ff, kx_a q_to cyI 319 ft]) [0, 3, 4] rfl
        have hKc := hK
        refine vp_callSi (W.runV (As := [.int i, .int p0]) (rest := []) ⟨hx, hb, hml, hown, hts⟩ (c_X2_hasPlace l dC dI q_t q_row q_joined q_from q_to q_size q_lossOf q_lessBy q_value q_number nodes here cyI ff ft i p0 i_2 (om_99 c0 LP1_h0)) (cwV 2 hts gX2_holding_X2_hasPlace rfl rfl rfl (by decide +kernel) ⟨Nat.le_of_ble_eq_true rfl, Nat.le_of_ble_eq_true rfl⟩) ⟨fun a U g mk q => by obtain ⟨q0, qP, qK⟩ := q; exact ⟨q0, qP, va_K.moved (u := U) (U := U.calling g mk a) (Vm.Alike.refl U.vm) qK⟩, va_recv hKc hPc (ci := 2) (q0 := 0) rfl rfl, fun U hU hW => ⟨rfl, by rw [hU]; exact hPc, va_K.moved hW.alike hKc⟩⟩ rfl rfl hl.1 rfl (lv_room (Nat.le_of_ble_eq_true rfl)) dX2_holding_16 ⟨Nat.le_of_ble_eq_true rfl, Nat.le_of_ble_eq_true rfl⟩) (fun r_3 w_3 => ?_)
        rcases w_3 with ⟨rfl, w_3⟩ | ⟨rfl, w_3⟩
        · have w_3 : ((ff i.toNatClampNeg).toInt ≤ p0.toInt ∧ p0.toInt < (ft i.toNatClampNeg).toInt) := w_3
          refine lv_if_eq (tgt := 44) hx hb dX2_holding_19 (by decide) (fun c_4 => ?_) (fun c_4 => ?_)
          · exact absurd c_4 (by decide)
          · refine lv_aload_n hx hb dX2_holding_22 rfl (lv_at hl 2 rfl) ?_
            refine lv_iload_n hx hb dX2_holding_23 rfl (lv_at hl 0 rfl) ?_
            refine lv_aload_n hx hb dX2_holding_24 rfl (lv_at hl 2 rfl) ?_
            refine va_get (D := (dC, dI)) (ci := 2) (v := .ref q_row) (C := RX2) (T := TX2) (N := 11) hx hb hts hi_2 hown hK hP 0 rfl rfl 0 (by decide) hf_40 (fun _ h9 => h9) rfl dX2_holding_25 ?_
            refine va_get (D := (dC, dI)) (ci := 0) (v := .ref q_cell) (C := RX0) (T := TX0) (N := 2) hx hb hts hi_0 hown hK hP 1 rfl rfl 0 (by decide) hf_74 (fun _ h9 => h9) rfl dX2_holding_28 ?_
            refine lv_iload_n hx hb dX2_holding_31 rfl (lv_at hl 3 rfl) ?_
            refine va_iald hx hb hK hP 2 0 rfl rfl (ki_in (om_8 d0) (om_9 d1)) dX2_holding_32 ?_
            refine lv_topi (fun y_5 ey_5 => ?_)
            have j_5 : y_5.toInt = (f p0.toNatClampNeg).toInt := congrArg Int32.toInt ey_5
            have hPc := hP.sub (ws' := [kx_2 q_t q_row q_joined q_from q_to q_size q_lossOf q_lessBy q_value q_number nodes here, kx_a q_size cyI 319 fs, kx_a q_value cyI 1914 uv, kx_a q_number cyI 1914 un]) [0, 5, 6, 7] rfl
            have hKc := hK
            refine vp_callSi (W.runV (As := [.int i, .int y_5]) (rest := []) ⟨hx, hb, hml, hown, hts⟩ (c_X2_numberIn l dC dI q_t q_row q_joined q_from q_to q_size q_lossOf q_lessBy q_value q_number nodes here cyI fs uv un i y_5 i_2 (om_99 c0 LP1_h0) s0) (cwV 2 hts gX2_holding_X2_numberIn rfl rfl rfl (by decide +kernel) ⟨Nat.le_of_ble_eq_true rfl, Nat.le_of_ble_eq_true rfl⟩) ⟨fun a U g mk q => by obtain ⟨q0, qP, qK⟩ := q; exact ⟨q0, qP, va_K.moved (u := U) (U := U.calling g mk a) (Vm.Alike.refl U.vm) qK⟩, va_recv hKc hPc (ci := 2) (q0 := 0) rfl rfl, fun U hU hW => ⟨rfl, by rw [hU]; exact hPc, va_K.moved hW.alike hKc⟩⟩ rfl rfl hl.1 rfl (lv_room (Nat.le_of_ble_eq_true rfl)) dX2_holding_33 ⟨Nat.le_of_ble_eq_true rfl, Nat.le_of_ble_eq_true rfl⟩) (fun r_6 w_6 => ?_)
            refine lv_if_ne (tgt := 41) hx hb dX2_holding_36 (by decide) (fun c_7 => ?_) (fun c_7 => ?_)
            · have i_7 : ¬ r_6.toInt = 0 := kc_ne c_7
              obtain ⟨x_8, ex_8⟩ : ∃ y : Int32, y = many + 1 := ⟨_, rfl⟩
              refine lv_iinc (v := x_8) (lv' := [(2, .int x_8), (3, .int i), (0, .ref q_t), (1, .int p0)]) hx hb dX2_holding_41 hl (k := 1) rfl (by rw [ex_8]; rfl) (by decide) rfl (fun ls hl => ?_)
              obtain ⟨x_9, ex_9⟩ : ∃ y : Int32, y = i + (-1) := ⟨_, rfl⟩
              have i_9 : x_9.toInt = i.toInt + (-1) := ki_add ex_9 rfl rfl (om_93 i_2) (om_94 c0 LP1_h0)
              refine lv_iinc (v := x_9) (lv' := [(3, .int x_9), (2, .int x_8), (0, .ref q_t), (1, .int p0)]) hx hb dX2_holding_44 hl (k := 1) rfl (by rw [ex_9]; rfl) (by decide) rfl (fun ls hl => ?_)
              refine lv_goto (tgt := 9) hx hb dX2_holding_47 (by decide) ?_
              exact ih1 x_8 x_9 (om_95 LP1_h0 i_9) (om_96 i_2 i_9) (om_mu hn1 (om_97 i_9) (om_98 i_2)) ls (lv_sub hl [0, 1, 2, 3] rfl)
            · have i_7 : r_6.toInt = 0 := kc_eq c_7
              refine lv_iload_n hx hb dX2_holding_39 rfl (lv_at hl 1 rfl) ?_
              exact W.iret (v := many) hx hb hr (fun t ht hW => ⟨many, rfl, trivial, ht⟩) (fun q hq => by cases hq) dX2_holding_40
        · have w_3 : (p0.toInt < (ff i.toNatClampNeg).toInt ∨ (ft i.toNatClampNeg).toInt ≤ p0.toInt) := w_3
          refine lv_if_eq (tgt := 44) hx hb dX2_holding_19 (by decide) (fun c_10 => ?_) (fun c_10 => ?_)
          · obtain ⟨x_11, ex_11⟩ : ∃ y : Int32, y = i + (-1) := ⟨_, rfl⟩
            have i_11 : x_11.toInt = i.toInt + (-1) := ki_add ex_11 rfl rfl (om_93 i_2) (om_94 c0 LP1_h0)
            refine lv_iinc (v := x_11) (lv' := [(3, .int x_11), (2, .int many), (0, .ref q_t), (1, .int p0)]) hx hb dX2_holding_44 hl (k := 0) rfl (by rw [ex_11]; rfl) (by decide) rfl (fun ls hl => ?_)
            refine lv_goto (tgt := 9) hx hb dX2_holding_47 (by decide) ?_
            exact ih1 many x_11 (om_95 LP1_h0 i_11) (om_96 i_2 i_11) (om_mu hn1 (om_97 i_11) (om_98 i_2)) ls (lv_sub hl [0, 1, 2, 3] rfl)
          · exact absurd c_10 (by decide)
  have k_12 : (0 : Int32).toInt = 0 := rfl
  exact LP1 ((y_1.toInt + 1 : Int).toNat + 1) 0 y_1 (om_100 i_1) (om_101 b0 i_1) (Nat.lt_succ_self _) ls (lv_sub hl [0, 1, 2, 3] rfl)

set_option maxHeartbeats 4000000 in
set_option maxRecDepth 100000 in
theorem c_X2_nodesWithMajority (l : Launch) (dC : Nat → ClassId) (dI : Nat → Nat → Nat) (q_t : Nat) (q_row : Nat) (q_joined : Nat) (q_from : Nat) (q_to : Nat) (q_size : Nat) (q_lossOf : Nat) (q_lessBy : Nat) (q_value : Nat) (q_number : Nat) (nodes : Int32) (here : Int32) (q_cell : Nat) (cyI : ClassId) (len : Int32) (f : Nat → Int32) (ff : Nat → Int32) (ft : Nat → Int32) (b0 : 0 ≤ nodes.toInt) (c0 : nodes.toInt ≤ 319) (c1 : len.toInt ≤ 160) (t0 : treeOk ff ft nodes.toInt len.toInt) : Met l yX2_nodesWithMajority wsX2_nodesWithMajority ({ frames := 2, cells := 0, slots := 0, locals := 90 }) (va_Pc [.ref q_t] (fun U => va_P (dC, dI) vwCl [kx_2 q_t q_row q_joined q_from q_to q_size q_lossOf q_lessBy q_value q_number nodes here, kx_0 q_row q_cell len, kx_a q_cell cyI 160 f, kx_a q_from cyI 319 ff, kx_a q_to cyI 319 ft] U.heap ∧ va_K (dC, dI) vwCl [(cyI, .int)] U ∧ va_Nw (.methodLinkNest RX0 28 yX4_isHeavy RX4) U)) (vp_Si (fun r : Int32 => True)) 0 0 (fun _ => False) := by
  refine Met.ofW (cc := cX2_nodesWithMajority) (maxL := 3) (ret := (some .int)) (by decide) rfl ?_
  intro p e s m args below meth c s₁ B hml hv
  obtain ⟨rfl, hP, hK, hN0⟩ := hv
  have hx := B.exec
  have hb := B.bytes
  have hr := B.returns
  have hts := atoms_spec (ws := wsX2_nodesWithMajority) B.pre
  have hown : s.vm.findClass RX2 = some m.cls := findClass_of_methodNamed B.named
  have hlocks := B.notSynchronized
  have hP : va_P (dC, dI) vwCl [kx_2 q_t q_row q_joined q_from q_to q_size q_lossOf q_lessBy q_value q_number nodes here, kx_0 q_row q_cell len, kx_a q_cell cyI 160 f, kx_a q_from cyI 319 ff, kx_a q_to cyI 319 ft] s.heap := hP
  have hl := lv_entry ([.ref q_t]) (n := 3) (Nat.le_of_ble_eq_true rfl)
  rw [lg_entry_eq]
  generalize (lg_sl ([.ref q_t]) ++ List.replicate (3 - (lg_sl ([.ref q_t])).length) Slot.unset).toArray = ls at hl ⊢
  have hl : lv_has ls 3 [(0, .ref q_t)] := hl
  have hf_50 := hts (.fieldLink RX2 50 "MajorityIndex$Tree" "nodes" "I") (List.mem_of_getElem? (i := 1) rfl)
  have hi_2 : ∀ w ∈ u_ws RX2 TX2 11, w ∈ wsX2_nodesWithMajority := fun w h => List.mem_cons_of_mem _ (List.mem_append_left _ (List.mem_append_right _ h))
  have hf_40 := hts (.fieldLink RX2 40 "MajorityIndex$Tree" "row" "LMajorityIndex$Row;") (List.mem_of_getElem? (i := 2) rfl)
  have hf_18 := hts (.fieldLink RX2 18 "MajorityIndex$Tree" "from" "[I") (List.mem_of_getElem? (i := 3) rfl)
  have hf_22 := hts (.fieldLink RX2 22 "MajorityIndex$Tree" "to" "[I") (List.mem_of_getElem? (i := 4) rfl)
  have hk_120 := hts (.constant RX2 120 (-40000)) (List.mem_of_getElem? (i := 5) rfl)
  refine lv_iconst (v := 0) hx hb dX2_nodesWithMajority_0 (by decide) ?_
  refine lv_istore_n (lv' := [(1, .int 0), (0, .ref q_t)]) hx hb dX2_nodesWithMajority_1 rfl hl (by decide) rfl (fun ls hl => ?_)
  refine lv_iconst (v := 0) hx hb dX2_nodesWithMajority_2 (by decide) ?_
  refine lv_istore_n (lv' := [(2, .int 0), (1, .int 0), (0, .ref q_t)]) hx hb dX2_nodesWithMajority_3 rfl hl (by decide) rfl (fun ls hl => ?_)
  have LP1 : ∀ (n : Nat) (i : Int32) (many : Int32), (0 ≤ i.toInt) → (nodes.toInt - i.toInt).toNat < n → ∀ (ls : Array Slot), lv_has ls 3 [(2, .int i), (1, .int many), (0, .ref q_t)] → W p l e (headSpec wsX2_nodesWithMajority ({ frames := 2, cells := 0, slots := 0, locals := 90 })).room s m ([.ref q_t] : List Value).toArray below meth c s.heap [] 0 0 (MQ below (vp_Si (fun r : Int32 => True)) ([.ref q_t] : List Value).toArray s 0 0 (fun _ => False)) (F0 m 4 ls []) := by
    intro n
    induction n with
    | zero => intro i many LP1_h0 hn; exact absurd hn (Nat.not_lt_zero _)
    | succ n ih1 =>
      intro i many LP1_h0 hn1 ls hl
      refine lv_iload_n hx hb dX2_nodesWithMajority_4 rfl (lv_at hl 0 rfl) ?_
      refine lv_aload_n hx hb dX2_nodesWithMajority_5 rfl (lv_at hl 2 rfl) ?_
      refine va_get (D := (dC, dI)) (ci := 2) (v := .int nodes) (C := RX2) (T := TX2) (N := 11) hx hb hts hi_2 hown hK hP 0 rfl rfl 9 (by decide) hf_50 (fun _ h9 => h9) rfl dX2_nodesWithMajority_6 ?_
      refine lv_icmp_ge (tgt := 45) hx hb dX2_nodesWithMajority_9 (by decide) (fun c_1 => ?_) (fun c_1 => ?_)
      · have i_1 : nodes.toInt ≤ i.toInt := kc_le c_1
        refine lv_iload_n hx hb dX2_nodesWithMajority_45 rfl (lv_at hl 1 rfl) ?_
        exact W.iret (v := many) hx hb hr (fun t ht hW => ⟨many, rfl, trivial, ht⟩) (fun q hq => by cases hq) dX2_nodesWithMajority_46
      · have i_1 : i.toInt < nodes.toInt := kc_nle c_1
        refine lv_aload_n hx hb dX2_nodesWithMajority_12 rfl (lv_at hl 2 rfl) ?_
        refine va_get (D := (dC, dI)) (ci := 2) (v := .ref q_row) (C := RX2) (T := TX2) (N := 11) hx hb hts hi_2 hown hK hP 0 rfl rfl 0 (by decide) hf_40 (fun _ h9 => h9) rfl dX2_nodesWithMajority_13 ?_
        refine lv_aload_n hx hb dX2_nodesWithMajority_16 rfl (lv_at hl 2 rfl) ?_
        refine va_get (D := (dC, dI)) (ci := 2) (v := .ref q_from) (C := RX2) (T := TX2) (N := 11) hx hb hts hi_2 hown hK hP 0 rfl rfl 2 (by decide) hf_18 (fun _ h9 => h9) rfl dX2_nodesWithMajority_17 ?_
        refine lv_iload_n hx hb dX2_nodesWithMajority_20 rfl (lv_at hl 0 rfl) ?_
        refine va_iald hx hb hK hP 3 0 rfl rfl (ki_in (om_8 LP1_h0) (om_92 c0 i_1)) dX2_nodesWithMajority_21 ?_
        refine lv_topi (fun y_2 ey_2 => ?_)
        have j_2 : y_2.toInt = (ff i.toNatClampNeg).toInt := congrArg Int32.toInt ey_2
        have n_3 : (i.toNatClampNeg : Int) = i.toInt := ki_nat _ rfl (om_8 LP1_h0)
        have i_4 := t0 i.toNatClampNeg (by omega)
        unfold okAt at i_4
        refine lv_aload_n hx hb dX2_nodesWithMajority_22 rfl (lv_at hl 2 rfl) ?_
        refine va_get (D := (dC, dI)) (ci := 2) (v := .ref q_to) (C := RX2) (T := TX2) (N := 11) hx hb hts hi_2 hown hK hP 0 rfl rfl 3 (by decide) hf_22 (fun _ h9 => h9) rfl dX2_nodesWithMajority_23 ?_
        refine lv_iload_n hx hb dX2_nodesWithMajority_26 rfl (lv_at hl 0 rfl) ?_
        refine va_iald hx hb hK hP 4 0 rfl rfl (ki_in (om_8 LP1_h0) (om_92 c0 i_1)) dX2_nodesWithMajority_27 ?_
        refine lv_topi (fun y_5 ey_5 => ?_)
        have j_5 : y_5.toInt = (ft i.toNatClampNeg).toInt := congrArg Int32.toInt ey_5
        have n_6 : (i.toNatClampNeg : Int) = i.toInt := ki_nat _ rfl (om_8 LP1_h0)
        have i_7 := t0 i.toNatClampNeg (by omega)
        unfold okAt at i_7
        have hPc := hP.sub (ws' := [kx_0 q_row q_cell len, kx_a q_cell cyI 160 f]) [1, 2] rfl
        have hKc := hK
        refine vp_callSi (W.runV (As := [.int y_2, .int y_5]) (rest := []) ⟨hx, hb, hml, hown, hts⟩ (c_X0_leader l dC dI q_row q_cell cyI len f y_2 y_5 (by omega) (by omega)) (cwV 2 hts gX2_nodesWithMajority_X0_leader rfl rfl rfl (by decide +kernel) ⟨Nat.le_of_ble_eq_true rfl, Nat.le_of_ble_eq_true rfl⟩) ⟨fun a U g mk q => by obtain ⟨q0, qP, qK, qn0⟩ := q; exact ⟨q0, qP, va_K.moved (u := U) (U := U.calling g mk a) (Vm.Alike.refl U.vm) qK, va_Nw.same (u := U) (U := U.calling g mk a) rfl rfl qn0⟩, va_recv hKc hPc (ci := 0) (q0 := 0) rfl rfl, fun U hU hW => ⟨rfl, by rw [hU]; exact hPc, va_K.moved hW.alike hKc, va_Nw.warmM hW hN0⟩⟩ rfl rfl hl.1 rfl (lv_room (Nat.le_of_ble_eq_true rfl)) dX2_nodesWithMajority_28 ⟨Nat.le_of_ble_eq_true rfl, Nat.le_of_ble_eq_true rfl⟩) (fun r_8 w_8 => ?_)
        refine lv_ldc (v := (-40000)) hx hb hown hk_120 dX2_nodesWithMajority_31 ?_
        refine lv_icmp_eq (tgt := 39) hx hb dX2_nodesWithMajority_33 (by decide) (fun c_9 => ?_) (fun c_9 => ?_)
        · have i_9 : r_8.toInt = (-40000) := kc_eq c_9
          obtain ⟨x_10, ex_10⟩ : ∃ y : Int32, y = i + 1 := ⟨_, rfl⟩
          have i_10 : x_10.toInt = i.toInt + 1 := ki_add ex_10 rfl rfl (om_10 LP1_h0) (om_102 c0 i_1)
          refine lv_iinc (v := x_10) (lv' := [(2, .int x_10), (1, .int many), (0, .ref q_t)]) hx hb dX2_nodesWithMajority_39 hl (k := 0) rfl (by rw [ex_10]; rfl) (by decide) rfl (fun ls hl => ?_)
          refine lv_goto (tgt := 4) hx hb dX2_nodesWithMajority_42 (by decide) ?_
          exact ih1 x_10 many (om_31 LP1_h0 i_10) (om_mu hn1 (om_5 i_10) (om_6 i_1)) ls (lv_sub hl [0, 1, 2] rfl)
        · have i_9 : ¬ r_8.toInt = (-40000) := kc_ne c_9
          obtain ⟨x_11, ex_11⟩ : ∃ y : Int32, y = many + 1 := ⟨_, rfl⟩
          refine lv_iinc (v := x_11) (lv' := [(1, .int x_11), (2, .int i), (0, .ref q_t)]) hx hb dX2_nodesWithMajority_36 hl (k := 1) rfl (by rw [ex_11]; rfl) (by decide) rfl (fun ls hl => ?_)
          obtain ⟨x_12, ex_12⟩ : ∃ y : Int32, y = i + 1 := ⟨_, rfl⟩
          have i_12 : x_12.toInt = i.toInt + 1 := ki_add ex_12 rfl rfl (om_10 LP1_h0) (om_102 c0 i_1)
          refine lv_iinc (v := x_12) (lv' := [(2, .int x_12), (1, .int x_11), (0, .ref q_t)]) hx hb dX2_nodesWithMajority_39 hl (k := 1) rfl (by rw [ex_12]; rfl) (by decide) rfl (fun ls hl => ?_)
          refine lv_goto (tgt := 4) hx hb dX2_nodesWithMajority_42 (by decide) ?_
          exact ih1 x_12 x_11 (om_31 LP1_h0 i_12) (om_mu hn1 (om_5 i_12) (om_6 i_1)) ls (lv_sub hl [0, 1, 2] rfl)
  have k_13 : (0 : Int32).toInt = 0 := rfl
  have k_14 : (0 : Int32).toInt = 0 := rfl
  exact LP1 ((nodes.toInt - 0 : Int).toNat + 1) 0 0 om_32 (Nat.lt_succ_self _) ls (lv_sub hl [0, 1, 2] rfl)

set_option maxHeartbeats 4000000 in
set_option maxRecDepth 100000 in
theorem c_X2_deepest (l : Launch) (dC : Nat → ClassId) (dI : Nat → Nat → Nat) (q_t : Nat) (q_row : Nat) (q_joined : Nat) (q_from : Nat) (q_to : Nat) (q_size : Nat) (q_lossOf : Nat) (q_lessBy : Nat) (q_value : Nat) (q_number : Nat) (nodes : Int32) (here : Int32) (q_cell : Nat) (len : Int32) (a0 : 0 ≤ len.toInt) (a1 : len.toInt ≤ 160) : Met l yX2_deepest wsX2_deepest ({ frames := 0, cells := 0, slots := 0, locals := 0 }) (va_Pc [.ref q_t] (fun U => va_P (dC, dI) vwCl [kx_2 q_t q_row q_joined q_from q_to q_size q_lossOf q_lessBy q_value q_number nodes here, kx_0 q_row q_cell len] U.heap ∧ va_K (dC, dI) vwCl [] U)) (vp_Si (fun r : Int32 => True)) 0 0 (fun _ => False) := by
  refine Met.ofW (cc := cX2_deepest) (maxL := 3) (ret := (some .int)) (by decide) rfl ?_
  intro p e s m args below meth c s₁ B hml hv
  obtain ⟨rfl, hP, hK⟩ := hv
  have hx := B.exec
  have hb := B.bytes
  have hr := B.returns
  have hts := atoms_spec (ws := wsX2_deepest) B.pre
  have hown : s.vm.findClass RX2 = some m.cls := findClass_of_methodNamed B.named
  have hlocks := B.notSynchronized
  have hP : va_P (dC, dI) vwCl [kx_2 q_t q_row q_joined q_from q_to q_size q_lossOf q_lessBy q_value q_number nodes here, kx_0 q_row q_cell len] s.heap := hP
  have hl := lv_entry ([.ref q_t]) (n := 3) (Nat.le_of_ble_eq_true rfl)
  rw [lg_entry_eq]
  generalize (lg_sl ([.ref q_t]) ++ List.replicate (3 - (lg_sl ([.ref q_t])).length) Slot.unset).toArray = ls at hl ⊢
  have hl : lv_has ls 3 [(0, .ref q_t)] := hl
  have hf_50 := hts (.fieldLink RX2 50 "MajorityIndex$Tree" "nodes" "I") (List.mem_of_getElem? (i := 1) rfl)
  have hi_2 : ∀ w ∈ u_ws RX2 TX2 11, w ∈ wsX2_deepest := fun w h => List.mem_cons_of_mem _ (List.mem_append_left _ (List.mem_append_right _ h))
  have hf_40 := hts (.fieldLink RX2 40 "MajorityIndex$Tree" "row" "LMajorityIndex$Row;") (List.mem_of_getElem? (i := 2) rfl)
  have hf_44 := hts (.fieldLink RX2 44 "MajorityIndex$Row" "length" "I") (List.mem_of_getElem? (i := 3) rfl)
  have hi_0 : ∀ w ∈ u_ws RX0 TX0 2, w ∈ wsX2_deepest := fun w h => List.mem_cons_of_mem _ (List.mem_append_right _ h)
  refine lv_aload_n hx hb dX2_deepest_0 rfl (lv_at hl 0 rfl) ?_
  refine va_get (D := (dC, dI)) (ci := 2) (v := .int nodes) (C := RX2) (T := TX2) (N := 11) hx hb hts hi_2 hown hK hP 0 rfl rfl 9 (by decide) hf_50 (fun _ h9 => h9) rfl dX2_deepest_1 ?_
  refine lv_if_ne (tgt := 11) hx hb dX2_deepest_4 (by decide) (fun c_1 => ?_) (fun c_1 => ?_)
  · have i_1 : ¬ nodes.toInt = 0 := kc_ne c_1
    refine lv_iconst (v := 1) hx hb dX2_deepest_11 (by decide) ?_
    refine lv_istore_n (lv' := [(1, .int 1), (0, .ref q_t)]) hx hb dX2_deepest_12 rfl hl (by decide) rfl (fun ls hl => ?_)
    refine lv_aload_n hx hb dX2_deepest_13 rfl (lv_at hl 1 rfl) ?_
    refine va_get (D := (dC, dI)) (ci := 2) (v := .ref q_row) (C := RX2) (T := TX2) (N := 11) hx hb hts hi_2 hown hK hP 0 rfl rfl 0 (by decide) hf_40 (fun _ h9 => h9) rfl dX2_deepest_14 ?_
    refine va_get (D := (dC, dI)) (ci := 0) (v := .int len) (C := RX0) (T := TX0) (N := 2) hx hb hts hi_0 hown hK hP 1 rfl rfl 1 (by decide) hf_44 (fun _ h9 => h9) rfl dX2_deepest_17 ?_
    refine lv_istore_n (lv' := [(2, .int len), (1, .int 1), (0, .ref q_t)]) hx hb dX2_deepest_20 rfl hl (by decide) rfl (fun ls hl => ?_)
    have LP1 : ∀ (n : Nat) (deep : Int32) (pl : Int32), (0 ≤ pl.toInt) → (pl.toInt ≤ 160) → (pl.toInt).toNat < n → ∀ (ls : Array Slot), lv_has ls 3 [(2, .int pl), (1, .int deep), (0, .ref q_t)] → W p l e (headSpec wsX2_deepest ({ frames := 0, cells := 0, slots := 0, locals := 0 })).room s m ([.ref q_t] : List Value).toArray below meth c s.heap [] 0 0 (MQ below (vp_Si (fun r : Int32 => True)) ([.ref q_t] : List Value).toArray s 0 0 (fun _ => False)) (F0 m 21 ls []) := by
      intro n
      induction n with
      | zero => intro deep pl LP1_h0 LP1_h1 hn; exact absurd hn (Nat.not_lt_zero _)
      | succ n ih1 =>
        intro deep pl LP1_h0 LP1_h1 hn1 ls hl
        refine lv_iload_n hx hb dX2_deepest_21 rfl (lv_at hl 0 rfl) ?_
        refine lv_iconst (v := 1) hx hb dX2_deepest_22 (by decide) ?_
        refine lv_icmp_le (tgt := 38) hx hb dX2_deepest_23 (by decide) (fun c_2 => ?_) (fun c_2 => ?_)
        · have i_2 : pl.toInt ≤ 1 := kc_le c_2
          refine lv_iload_n hx hb dX2_deepest_38 rfl (lv_at hl 1 rfl) ?_
          exact W.iret (v := deep) hx hb hr (fun t ht hW => ⟨deep, rfl, trivial, ht⟩) (fun q hq => by cases hq) dX2_deepest_39
        · have i_2 : 1 < pl.toInt := kc_nle c_2
          obtain ⟨x_3, ex_3⟩ : ∃ y : Int32, y = deep + 1 := ⟨_, rfl⟩
          refine lv_iinc (v := x_3) (lv' := [(1, .int x_3), (2, .int pl), (0, .ref q_t)]) hx hb dX2_deepest_26 hl (k := 1) rfl (by rw [ex_3]; rfl) (by decide) rfl (fun ls hl => ?_)
          refine lv_iload_n hx hb dX2_deepest_29 rfl (lv_at hl 1 rfl) ?_
          refine lv_iload_n hx hb dX2_deepest_30 rfl (lv_at hl 1 rfl) ?_
          refine lv_iconst (v := 2) hx hb dX2_deepest_31 (by decide) ?_
          refine lv_idiv hx hb dX2_deepest_32 (by decide) ?_
          refine lv_topi (fun y_4 ey_4 => ?_)
          have i_4 : y_4.toInt = pl.toInt / 2 := ki_div2 ey_4 rfl (by omega)
          refine lv_isub hx hb dX2_deepest_33 ?_
          refine lv_topi (fun y_5 ey_5 => ?_)
          have i_5 : y_5.toInt = pl.toInt - y_4.toInt := ki_sub ey_5 rfl rfl (by omega) (by omega)
          refine lv_istore_n (lv' := [(2, .int y_5), (1, .int x_3), (0, .ref q_t)]) hx hb dX2_deepest_34 rfl hl (by decide) rfl (fun ls hl => ?_)
          refine lv_goto (tgt := 21) hx hb dX2_deepest_35 (by decide) ?_
          exact ih1 x_3 y_5 (by omega) (by omega) (by omega) ls (lv_sub hl [0, 1, 2] rfl)
    have k_6 : (1 : Int32).toInt = 1 := rfl
    exact LP1 ((len.toInt : Int).toNat + 1) 1 len (om_8 a0) (om_105 a1) (Nat.lt_succ_self _) ls (lv_sub hl [0, 1, 2] rfl)
  · have i_1 : nodes.toInt = 0 := kc_eq c_1
    refine lv_iconst (v := 0) hx hb dX2_deepest_7 (by decide) ?_
    refine lv_goto (tgt := 12) hx hb dX2_deepest_8 (by decide) ?_
    refine lv_istore_n (lv' := [(1, .int 0), (0, .ref q_t)]) hx hb dX2_deepest_12 rfl hl (by decide) rfl (fun ls hl => ?_)
    refine lv_aload_n hx hb dX2_deepest_13 rfl (lv_at hl 1 rfl) ?_
    refine va_get (D := (dC, dI)) (ci := 2) (v := .ref q_row) (C := RX2) (T := TX2) (N := 11) hx hb hts hi_2 hown hK hP 0 rfl rfl 0 (by decide) hf_40 (fun _ h9 => h9) rfl dX2_deepest_14 ?_
    refine va_get (D := (dC, dI)) (ci := 0) (v := .int len) (C := RX0) (T := TX0) (N := 2) hx hb hts hi_0 hown hK hP 1 rfl rfl 1 (by decide) hf_44 (fun _ h9 => h9) rfl dX2_deepest_17 ?_
    refine lv_istore_n (lv' := [(2, .int len), (1, .int 0), (0, .ref q_t)]) hx hb dX2_deepest_20 rfl hl (by decide) rfl (fun ls hl => ?_)
    have LP2 : ∀ (n : Nat) (deep : Int32) (pl : Int32), (0 ≤ pl.toInt) → (pl.toInt ≤ 160) → (pl.toInt).toNat < n → ∀ (ls : Array Slot), lv_has ls 3 [(2, .int pl), (1, .int deep), (0, .ref q_t)] → W p l e (headSpec wsX2_deepest ({ frames := 0, cells := 0, slots := 0, locals := 0 })).room s m ([.ref q_t] : List Value).toArray below meth c s.heap [] 0 0 (MQ below (vp_Si (fun r : Int32 => True)) ([.ref q_t] : List Value).toArray s 0 0 (fun _ => False)) (F0 m 21 ls []) := by
      intro n
      induction n with
      | zero => intro deep pl LP2_h0 LP2_h1 hn; exact absurd hn (Nat.not_lt_zero _)
      | succ n ih2 =>
        intro deep pl LP2_h0 LP2_h1 hn2 ls hl
        refine lv_iload_n hx hb dX2_deepest_21 rfl (lv_at hl 0 rfl) ?_
        refine lv_iconst (v := 1) hx hb dX2_deepest_22 (by decide) ?_
        refine lv_icmp_le (tgt := 38) hx hb dX2_deepest_23 (by decide) (fun c_7 => ?_) (fun c_7 => ?_)
        · have i_7 : pl.toInt ≤ 1 := kc_le c_7
          refine lv_iload_n hx hb dX2_deepest_38 rfl (lv_at hl 1 rfl) ?_
          exact W.iret (v := deep) hx hb hr (fun t ht hW => ⟨deep, rfl, trivial, ht⟩) (fun q hq => by cases hq) dX2_deepest_39
        · have i_7 : 1 < pl.toInt := kc_nle c_7
          obtain ⟨x_8, ex_8⟩ : ∃ y : Int32, y = deep + 1 := ⟨_, rfl⟩
          refine lv_iinc (v := x_8) (lv' := [(1, .int x_8), (2, .int pl), (0, .ref q_t)]) hx hb dX2_deepest_26 hl (k := 1) rfl (by rw [ex_8]; rfl) (by decide) rfl (fun ls hl => ?_)
          refine lv_iload_n hx hb dX2_deepest_29 rfl (lv_at hl 1 rfl) ?_
          refine lv_iload_n hx hb dX2_deepest_30 rfl (lv_at hl 1 rfl) ?_
          refine lv_iconst (v := 2) hx hb dX2_deepest_31 (by decide) ?_
          refine lv_idiv hx hb dX2_deepest_32 (by decide) ?_
          refine lv_topi (fun y_9 ey_9 => ?_)
          have i_9 : y_9.toInt = pl.toInt / 2 := ki_div2 ey_9 rfl (by omega)
          refine lv_isub hx hb dX2_deepest_33 ?_
          refine lv_topi (fun y_10 ey_10 => ?_)
          have i_10 : y_10.toInt = pl.toInt - y_9.toInt := ki_sub ey_10 rfl rfl (by omega) (by omega)
          refine lv_istore_n (lv' := [(2, .int y_10), (1, .int x_8), (0, .ref q_t)]) hx hb dX2_deepest_34 rfl hl (by decide) rfl (fun ls hl => ?_)
          refine lv_goto (tgt := 21) hx hb dX2_deepest_35 (by decide) ?_
          exact ih2 x_8 y_10 (by omega) (by omega) (by omega) ls (lv_sub hl [0, 1, 2] rfl)
    have k_11 : (0 : Int32).toInt = 0 := rfl
    exact LP2 ((len.toInt : Int).toNat + 1) 0 len (om_8 a0) (om_105 a1) (Nat.lt_succ_self _) ls (lv_sub hl [0, 1, 2] rfl)

set_option maxHeartbeats 4000000 in
set_option maxRecDepth 100000 in
theorem c_X2_allLosses (l : Launch) (dC : Nat → ClassId) (dI : Nat → Nat → Nat) (q_t : Nat) (q_row : Nat) (q_joined : Nat) (q_from : Nat) (q_to : Nat) (q_size : Nat) (q_lossOf : Nat) (q_lessBy : Nat) (q_value : Nat) (q_number : Nat) (nodes : Int32) (here : Int32) (cyI : ClassId) (fo : Nat → Int32) (b0 : 0 ≤ nodes.toInt) (c0 : nodes.toInt ≤ 319) : Met l yX2_allLosses wsX2_allLosses ({ frames := 0, cells := 0, slots := 0, locals := 0 }) (va_Pc [.ref q_t] (fun U => va_P (dC, dI) vwCl [kx_2 q_t q_row q_joined q_from q_to q_size q_lossOf q_lessBy q_value q_number nodes here, kx_a q_lossOf cyI 319 fo] U.heap ∧ va_K (dC, dI) vwCl [(cyI, .int)] U)) (vp_Si (fun r : Int32 => True)) 0 0 (fun _ => False) := by
  refine Met.ofW (cc := cX2_allLosses) (maxL := 3) (ret := (some .int)) (by decide) rfl ?_
  intro p e s m args below meth c s₁ B hml hv
  obtain ⟨rfl, hP, hK⟩ := hv
  have hx := B.exec
  have hb := B.bytes
  have hr := B.returns
  have hts := atoms_spec (ws := wsX2_allLosses) B.pre
  have hown : s.vm.findClass RX2 = some m.cls := findClass_of_methodNamed B.named
  have hlocks := B.notSynchronized
  have hP : va_P (dC, dI) vwCl [kx_2 q_t q_row q_joined q_from q_to q_size q_lossOf q_lessBy q_value q_number nodes here, kx_a q_lossOf cyI 319 fo] s.heap := hP
  have hl := lv_entry ([.ref q_t]) (n := 3) (Nat.le_of_ble_eq_true rfl)
  rw [lg_entry_eq]
  generalize (lg_sl ([.ref q_t]) ++ List.replicate (3 - (lg_sl ([.ref q_t])).length) Slot.unset).toArray = ls at hl ⊢
  have hl : lv_has ls 3 [(0, .ref q_t)] := hl
  have hf_50 := hts (.fieldLink RX2 50 "MajorityIndex$Tree" "nodes" "I") (List.mem_of_getElem? (i := 1) rfl)
  have hi_2 : ∀ w ∈ u_ws RX2 TX2 11, w ∈ wsX2_allLosses := fun w h => List.mem_cons_of_mem _ (List.mem_append_right _ h)
  have hf_28 := hts (.fieldLink RX2 28 "MajorityIndex$Tree" "lossOf" "[I") (List.mem_of_getElem? (i := 2) rfl)
  refine lv_iconst (v := 0) hx hb dX2_allLosses_0 (by decide) ?_
  refine lv_istore_n (lv' := [(1, .int 0), (0, .ref q_t)]) hx hb dX2_allLosses_1 rfl hl (by decide) rfl (fun ls hl => ?_)
  refine lv_iconst (v := 0) hx hb dX2_allLosses_2 (by decide) ?_
  refine lv_istore_n (lv' := [(2, .int 0), (1, .int 0), (0, .ref q_t)]) hx hb dX2_allLosses_3 rfl hl (by decide) rfl (fun ls hl => ?_)
  have LP1 : ∀ (n : Nat) (i : Int32) (all : Int32), (0 ≤ i.toInt) → (nodes.toInt - i.toInt).toNat < n → ∀ (ls : Array Slot), lv_has ls 3 [(2, .int i), (1, .int all), (0, .ref q_t)] → W p l e (headSpec wsX2_allLosses ({ frames := 0, cells := 0, slots := 0, locals := 0 })).room s m ([.ref q_t] : List Value).toArray below meth c s.heap [] 0 0 (MQ below (vp_Si (fun r : Int32 => True)) ([.ref q_t] : List Value).toArray s 0 0 (fun _ => False)) (F0 m 4 ls []) := by
    intro n
    induction n with
    | zero => intro i all LP1_h0 hn; exact absurd hn (Nat.not_lt_zero _)
    | succ n ih1 =>
      intro i all LP1_h0 hn1 ls hl
      refine lv_iload_n hx hb dX2_allLosses_4 rfl (lv_at hl 0 rfl) ?_
      refine lv_aload_n hx hb dX2_allLosses_5 rfl (lv_at hl 2 rfl) ?_
      refine va_get (D := (dC, dI)) (ci := 2) (v := .int nodes) (C := RX2) (T := TX2) (N := 11) hx hb hts hi_2 hown hK hP 0 rfl rfl 9 (by decide) hf_50 (fun _ h9 => h9) rfl dX2_allLosses_6 ?_
      refine lv_icmp_ge (tgt := 27) hx hb dX2_allLosses_9 (by decide) (fun c_1 => ?_) (fun c_1 => ?_)
      · have i_1 : nodes.toInt ≤ i.toInt := kc_le c_1
        refine lv_iload_n hx hb dX2_allLosses_27 rfl (lv_at hl 1 rfl) ?_
        exact W.iret (v := all) hx hb hr (fun t ht hW => ⟨all, rfl, trivial, ht⟩) (fun q hq => by cases hq) dX2_allLosses_28
      · have i_1 : i.toInt < nodes.toInt := kc_nle c_1
        refine lv_iload_n hx hb dX2_allLosses_12 rfl (lv_at hl 1 rfl) ?_
        refine lv_aload_n hx hb dX2_allLosses_13 rfl (lv_at hl 2 rfl) ?_
        refine va_get (D := (dC, dI)) (ci := 2) (v := .ref q_lossOf) (C := RX2) (T := TX2) (N := 11) hx hb hts hi_2 hown hK hP 0 rfl rfl 5 (by decide) hf_28 (fun _ h9 => h9) rfl dX2_allLosses_14 ?_
        refine lv_iload_n hx hb dX2_allLosses_17 rfl (lv_at hl 0 rfl) ?_
        refine va_iald hx hb hK hP 1 0 rfl rfl (ki_in (om_8 LP1_h0) (om_92 c0 i_1)) dX2_allLosses_18 ?_
        refine lv_topi (fun y_2 ey_2 => ?_)
        have j_2 : y_2.toInt = (fo i.toNatClampNeg).toInt := congrArg Int32.toInt ey_2
        refine lv_iadd hx hb dX2_allLosses_19 ?_
        refine lv_topi (fun y_3 ey_3 => ?_)
        refine lv_istore_n (lv' := [(1, .int y_3), (2, .int i), (0, .ref q_t)]) hx hb dX2_allLosses_20 rfl hl (by decide) rfl (fun ls hl => ?_)
        obtain ⟨x_4, ex_4⟩ : ∃ y : Int32, y = i + 1 := ⟨_, rfl⟩
        have i_4 : x_4.toInt = i.toInt + 1 := ki_add ex_4 rfl rfl (om_10 LP1_h0) (om_102 c0 i_1)
        refine lv_iinc (v := x_4) (lv' := [(2, .int x_4), (1, .int y_3), (0, .ref q_t)]) hx hb dX2_allLosses_21 hl (k := 1) rfl (by rw [ex_4]; rfl) (by decide) rfl (fun ls hl => ?_)
        refine lv_goto (tgt := 4) hx hb dX2_allLosses_24 (by decide) ?_
        exact ih1 x_4 y_3 (om_31 LP1_h0 i_4) (om_mu hn1 (om_5 i_4) (om_6 i_1)) ls (lv_sub hl [0, 1, 2] rfl)
  have k_5 : (0 : Int32).toInt = 0 := rfl
  have k_6 : (0 : Int32).toInt = 0 := rfl
  exact LP1 ((nodes.toInt - 0 : Int).toNat + 1) 0 0 om_32 (Nat.lt_succ_self _) ls (lv_sub hl [0, 1, 2] rfl)


