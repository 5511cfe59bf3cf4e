set_option maxHeartbeats 4000000 in
set_option maxRecDepth 100000 in
theorem c_X5_asked (l : Launch) (dC : Nat → ClassId) (dI : Nat → Nat → Nat) (h0 : Nat) (g_row : Nat) (g_many : Nat) (g_loss : Nat) (g_less : Nat) (g_voteValue : Nat) (g_voteNumber : Nat) (g_allValue : Nat) (g_allNumber : Nat) (g_nodeL : Nat) (g_nodeR : Nat) (g_part : Nat) (g_wasMany : Nat) (g_wasLoss : Nat) (g_wasValue : Nat) (g_wasNumber : Nat) (g_path : Nat) (g_heavyValue : Nat) (g_heavyTimes : Nat) (g_fewest : Nat) (g_which : Nat) (g_met : Nat) (m_n : Int32) (m_slots : Int32) (m_thrown : Int32) (m_allMany : Int32) (m_nodes : Int32) (m_partMany : Int32) (m_pathMany : Int32) (m_heavyMany : Int32) (m_mostMet : Int32) (cyI : ClassId) (fm : Nat → Int32) (fl : Nat → Int32) (fe : Nat → Int32) (vv : Nat → Int32) (vn : Nat → Int32) (f : Nat → Int32) (av : Nat → Int32) (an : Nat → Int32) (nl : Nat → Int32) (nr : Nat → Int32) (p0 : Int32) (p1 : Int32) (sz : Nat) (a0 : 0 ≤ m_n.toInt) (a1 : m_n.toInt ≤ 160) (sl0 : 1 ≤ m_slots.toInt) (sl1 : m_slots.toInt ≤ 6) (s4 : six4 fm) : kx_MQ l (dC, dI) yX5_asked wsX5_asked ({ frames := 12, cells := 0, slots := 0, locals := 540 }) [.ref h0, .int p0, .int p1] [kx_5 h0 g_row m_n m_slots m_thrown g_many g_loss g_less g_voteValue g_voteNumber g_allValue g_allNumber m_allMany g_nodeL g_nodeR m_nodes g_part m_partMany g_wasMany g_wasLoss g_wasValue g_wasNumber g_path m_pathMany g_heavyValue g_heavyTimes m_heavyMany g_fewest g_which g_met m_mostMet, kx_a g_row cyI 160 f, kx_a g_many cyI 324 fm, kx_a g_loss cyI 324 fl, kx_a g_less cyI 324 fe, kx_a g_voteValue cyI 1944 vv, kx_a g_voteNumber cyI 1944 vn, kx_a g_allValue cyI 12 av, kx_a g_allNumber cyI 12 an, kx_a g_nodeL cyI 320 nl, kx_a g_nodeR cyI 320 nr] [(cyI, .int)] sz (fun A => va_Qi (fun (r : Int32) (u : Int32 × Int32 × (Nat → Int32) × (Nat → Int32) × (Nat → Int32) × (Nat → Int32) × (Nat → Int32) × (Nat → Int32) × (Nat → Int32) × (Nat → Int32) × (Nat → Int32)) => (r.toInt = -1 ∨ r.toInt = -2 ∨ (0 ≤ r.toInt ∧ r.toInt < 319)) ∧ six4 u.2.2.1) (fun (u : Int32 × Int32 × (Nat → Int32) × (Nat → Int32) × (Nat → Int32) × (Nat → Int32) × (Nat → Int32) × (Nat → Int32) × (Nat → Int32) × (Nat → Int32) × (Nat → Int32)) (t : State) => va_P (dC, dI) vwCl [kx_5 h0 g_row m_n m_slots m_thrown g_many g_loss g_less g_voteValue g_voteNumber g_allValue g_allNumber u.2.1 g_nodeL g_nodeR u.1 g_part m_partMany g_wasMany g_wasLoss g_wasValue g_wasNumber g_path m_pathMany g_heavyValue g_heavyTimes m_heavyMany g_fewest g_which g_met m_mostMet, kx_a g_row cyI 160 f, kx_a g_many cyI 324 u.2.2.1, kx_a g_loss cyI 324 u.2.2.2.1, kx_a g_less cyI 324 u.2.2.2.2.1, kx_a g_voteValue cyI 1944 u.2.2.2.2.2.1, kx_a g_voteNumber cyI 1944 u.2.2.2.2.2.2.1, kx_a g_allValue cyI 12 u.2.2.2.2.2.2.2.1, kx_a g_allNumber cyI 12 u.2.2.2.2.2.2.2.2.1, kx_a g_nodeL cyI 320 u.2.2.2.2.2.2.2.2.2.1, kx_a g_nodeR cyI 320 u.2.2.2.2.2.2.2.2.2.2] t.heap ∧ va_K (dC, dI) vwCl [(cyI, .int)] t ∧ va_D A [kx_5 h0 g_row m_n m_slots m_thrown g_many g_loss g_less g_voteValue g_voteNumber g_allValue g_allNumber u.2.1 g_nodeL g_nodeR u.1 g_part m_partMany g_wasMany g_wasLoss g_wasValue g_wasNumber g_path m_pathMany g_heavyValue g_heavyTimes m_heavyMany g_fewest g_which g_met m_mostMet, kx_a g_row cyI 160 f, kx_a g_many cyI 324 u.2.2.1, kx_a g_loss cyI 324 u.2.2.2.1, kx_a g_less cyI 324 u.2.2.2.2.1, kx_a g_voteValue cyI 1944 u.2.2.2.2.2.1, kx_a g_voteNumber cyI 1944 u.2.2.2.2.2.2.1, kx_a g_allValue cyI 12 u.2.2.2.2.2.2.2.1, kx_a g_allNumber cyI 12 u.2.2.2.2.2.2.2.2.1, kx_a g_nodeL cyI 320 u.2.2.2.2.2.2.2.2.2.1, kx_a g_nodeR cyI 320 u.2.2.2.2.2.2.2.2.2.2]) A) := by
  refine kx_stQ (ws := wsX5_asked) (cc := cX5_asked) (maxL := 3) (ret := (some .int)) (by decide) rfl (Nat.le_of_ble_eq_true rfl) ?_
  intro p e s m below meth c A ls hx hb hr hlocks hts hown hml hA hS hP hK hD hl
  have hown : s.vm.findClass RX5 = some m.cls := hown
  have hl : lv_has ls 3 [(0, .ref h0), (1, .int p0), (2, .int p1)] := hl
  have hf_13 := hts (.fieldLink RX5 13 "MajorityIndexModel" "slots" "I") (List.mem_of_getElem? (i := 1) rfl)
  have hi_5 : ∀ w ∈ u_ws RX5 TX5 30, w ∈ wsX5_asked := fun w h => List.mem_cons_of_mem _ (List.mem_append_right _ h)
  refine lv_aload_n hx hb dX5_asked_0 rfl (lv_at hl 0 rfl) ?_
  refine lv_iload_n hx hb dX5_asked_1 rfl (lv_at hl 1 rfl) ?_
  refine lv_iload_n hx hb dX5_asked_2 rfl (lv_at hl 2 rfl) ?_
  have hPc := hP.sub (ws' := [kx_5 h0 g_row m_n m_slots m_thrown g_many g_loss g_less g_voteValue g_voteNumber g_allValue g_allNumber m_allMany g_nodeL g_nodeR m_nodes g_part m_partMany g_wasMany g_wasLoss g_wasValue g_wasNumber g_path m_pathMany g_heavyValue g_heavyTimes m_heavyMany g_fewest g_which g_met m_mostMet]) [0] rfl
  have hKc := hK.sub (tys' := []) [] rfl
  refine vp_callSi (W.runV (As := [.int p0, .int p1]) (rest := []) ⟨hx, hb, hml, hown, hts⟩ (c_X5_isRange l dC dI h0 g_row g_many g_loss g_less g_voteValue g_voteNumber g_allValue g_allNumber g_nodeL g_nodeR g_part g_wasMany g_wasLoss g_wasValue g_wasNumber g_path g_heavyValue g_heavyTimes g_fewest g_which g_met m_n m_slots m_thrown m_allMany m_nodes m_partMany m_pathMany m_heavyMany m_mostMet p0 p1) (cwV 2 hts gX5_asked_X5_isRange rfl rfl rfl (by decide +kernel) ⟨Nat.le_of_ble_eq_true rfl, Nat.le_of_ble_eq_true rfl⟩) ⟨fun a U g mk q => by obtain ⟨q0, qP, qK⟩ := q; exact ⟨q0, qP, va_K.moved (u := U) (U := U.calling g mk a) (Vm.Alike.refl U.vm) qK⟩, kx_rc5 hKc hPc (q0 := 0) rfl, fun U hU hW => ⟨rfl, by rw [hU]; exact hPc, va_K.moved hW.alike hKc⟩⟩ rfl rfl hl.1 rfl (lv_room (Nat.le_of_ble_eq_true rfl)) dX5_asked_3 ⟨Nat.le_of_ble_eq_true rfl, Nat.le_of_ble_eq_true rfl⟩) (fun r_1 w_1 => ?_)
  rcases w_1 with ⟨rfl, w_1⟩ | ⟨rfl, w_1⟩
  · have w_1 : (0 ≤ p0.toInt ∧ p0.toInt < p1.toInt ∧ p1.toInt ≤ m_n.toInt) := w_1
    refine lv_if_ne (tgt := 11) hx hb dX5_asked_6 (by decide) (fun c_2 => ?_) (fun c_2 => ?_)
    · refine lv_aload_n hx hb dX5_asked_11 rfl (lv_at hl 0 rfl) ?_
      refine lv_aload_n hx hb dX5_asked_12 rfl (lv_at hl 0 rfl) ?_
      refine va_get (D := (dC, dI)) (ci := 5) (v := .int m_slots) (C := RX5) (T := TX5) (N := 30) hx hb hts hi_5 hown hK hP 0 rfl rfl 2 (by decide) hf_13 (fun _ h9 => h9) rfl dX5_asked_13 ?_
      have hPc := hP
      have hKc := hK
      have hDc := hD
      have hFc := kx_free hD hS hA
      refine va_callv (va_runV (As := [.int m_slots]) (rest := []) ⟨hx, hb, hml, hown, hts⟩ (kx_un (c_X5_laysAll l dC dI h0 g_row g_many g_loss g_less g_voteValue g_voteNumber g_allValue g_allNumber g_nodeL g_nodeR g_part g_wasMany g_wasLoss g_wasValue g_wasNumber g_path g_heavyValue g_heavyTimes g_fewest g_which g_met m_n m_slots m_thrown m_allMany m_nodes m_partMany m_pathMany m_heavyMany m_mostMet cyI fm fl fe vv vn f av an nl nr m_slots s.heap.size a0 a1 sl0 sl1 s4)) (cwV 1 hts gX5_asked_X5_laysAll rfl rfl rfl (by decide +kernel) ⟨Nat.le_of_ble_eq_true rfl, Nat.le_of_ble_eq_true rfl⟩) ⟨fun a U g mk q => by obtain ⟨q0, q1, qP, qK, qD⟩ := q; exact ⟨q0, q1, qP, va_K.moved (u := U) (U := U.calling g mk a) (Vm.Alike.refl U.vm) qK, qD⟩, kx_rc5 hKc hPc (q0 := 0) rfl, fun U hU hW => ⟨rfl, by rw [hU], by rw [hU]; exact hPc, va_K.moved hW.alike hKc, hDc.weaken (fun _ _ _ _ => trivial)⟩⟩ rfl rfl hl.1 rfl (lv_room (Nat.le_of_ble_eq_true rfl)) dX5_asked_16 ⟨Nat.le_of_ble_eq_true rfl, Nat.le_of_ble_eq_true rfl⟩) hS (fun q _ h => hFc q h) hFc (fun u t H1 locs ht hvm w_3 hB hz1 hk1 hS => ?_)
      obtain ⟨o_4, o_5, o_6, o_7, o_8, o_9, o_10, o_11, o_12, o_13, o_14⟩ := u
      dsimp only at w_3 hB
      obtain ⟨hP1, hK1, hD1⟩ := hB
      rw [ht] at hP1
      have hK1 := va_K.moved hvm.symm hK1
      have hD := hD1.weaken (fun _ q _ h => hFc q.1 h)
      have hP := hP1
      clear hP1 hD1 hK1 hk1 hz1 hFc hDc hPc hKc
      generalize H1 = H at hP hS ⊢
      have w_3 : mj_L m_slots.toNatClampNeg f o_13 o_14 o_6 o_7 o_8 o_9 o_10 m_n.toInt o_4.toInt ∧ six4 o_6 ∧ 0 ≤ o_4.toInt ∧ o_4.toInt ≤ 319 := w_3
      refine lv_aload_n hx hb dX5_asked_19 rfl (lv_at hl 0 rfl) ?_
      refine lv_iload_n hx hb dX5_asked_20 rfl (lv_at hl 1 rfl) ?_
      refine lv_iload_n hx hb dX5_asked_21 rfl (lv_at hl 2 rfl) ?_
      have hPc := hP.sub (ws' := [kx_5 h0 g_row m_n m_slots m_thrown g_many g_loss g_less g_voteValue g_voteNumber g_allValue g_allNumber o_5 g_nodeL g_nodeR o_4 g_part m_partMany g_wasMany g_wasLoss g_wasValue g_wasNumber g_path m_pathMany g_heavyValue g_heavyTimes m_heavyMany g_fewest g_which g_met m_mostMet, kx_a g_nodeL cyI 320 o_13, kx_a g_nodeR cyI 320 o_14]) [0, 9, 10] rfl
      have hKc := hK
      refine vp_callSi (W.runV (As := [.int p0, .int p1]) (rest := []) ⟨hx, hb, hml, hown, hts⟩ (c_X5_nodeOf l dC dI h0 g_row g_many g_loss g_less g_voteValue g_voteNumber g_allValue g_allNumber g_nodeL g_nodeR g_part g_wasMany g_wasLoss g_wasValue g_wasNumber g_path g_heavyValue g_heavyTimes g_fewest g_which g_met m_n m_slots m_thrown o_5 o_4 m_partMany m_pathMany m_heavyMany m_mostMet cyI o_13 o_14 p0 p1 w_3.2.2.1 (om_378 w_3.2.2.2)) (cwV 2 hts gX5_asked_X5_nodeOf rfl rfl rfl (by decide +kernel) ⟨Nat.le_of_ble_eq_true rfl, Nat.le_of_ble_eq_true rfl⟩) ⟨fun a U g mk q => by obtain ⟨q0, qP, qK⟩ := q; exact ⟨q0, qP, va_K.moved (u := U) (U := U.calling g mk a) (Vm.Alike.refl U.vm) qK⟩, kx_rc5 hKc hPc (q0 := 0) rfl, fun U hU hW => ⟨rfl, by rw [hU]; exact hPc, va_K.moved hW.alike hKc⟩⟩ rfl rfl hl.1 rfl (lv_room (Nat.le_of_ble_eq_true rfl)) dX5_asked_22 ⟨Nat.le_of_ble_eq_true rfl, Nat.le_of_ble_eq_true rfl⟩) (fun r_15 w_15 => ?_)
      have w_15 : (r_15.toInt = -2 ∨ (0 ≤ r_15.toInt ∧ r_15.toInt < o_4.toInt)) := w_15
      have hP9 := hP
      have hD9 := hD
      have hK9 := hK
      exact W.iret (v := r_15) hx hb hr (hlocks := hlocks) (fun t ht hW => ⟨⟨r_15, (o_4, o_5, o_6, o_7, o_8, o_9, o_10, o_11, o_12, o_13, o_14), rfl, ⟨(by (try dsimp only); omega), w_3.2.1⟩, by rw [ht]; exact hP9, va_K.moved hW.alike hK9, hD9⟩, hS.F ht⟩) hS.2.2 dX5_asked_25
    · exact absurd c_2 (by decide)
  · have w_1 : (p0.toInt < 0 ∨ p1.toInt ≤ p0.toInt ∨ m_n.toInt < p1.toInt) := w_1
    refine lv_if_ne (tgt := 11) hx hb dX5_asked_6 (by decide) (fun c_16 => ?_) (fun c_16 => ?_)
    · exact absurd c_16 (by decide)
    · refine lv_iconst (v := (-1)) hx hb dX5_asked_9 (by decide) ?_
      have hP9 := hP
      have hD9 := hD
      have hK9 := hK
      exact W.iret (v := (-1)) hx hb hr (hlocks := hlocks) (fun t ht hW => ⟨⟨(-1), (m_nodes, m_allMany, fm, fl, fe, vv, vn, av, an, nl, nr), rfl, ⟨Or.inl rfl, s4⟩, by rw [ht]; exact hP9, va_K.moved hW.alike hK9, hD9⟩, hS.F ht⟩) hS.2.2 dX5_asked_10

set_option maxHeartbeats 4000000 in
set_option maxRecDepth 100000 in
theorem c_X5_node (l : Launch) (dC : Nat → ClassId) (dI : Nat → Nat → Nat) (h0 : Nat) (g_row : Nat) (g_many : Nat) (g_loss : Nat) (g_less : Nat) (g_voteValue : Nat) (g_voteNumber : Nat) (g_allValue : Nat) (g_allNumber : Nat) (g_nodeL : Nat) (g_nodeR : Nat) (g_part : Nat) (g_wasMany : Nat) (g_wasLoss : Nat) (g_wasValue : Nat) (g_wasNumber : Nat) (g_path : Nat) (g_heavyValue : Nat) (g_heavyTimes : Nat) (g_fewest : Nat) (g_which : Nat) (g_met : Nat) (m_n : Int32) (m_slots : Int32) (m_thrown : Int32) (m_allMany : Int32) (m_nodes : Int32) (m_partMany : Int32) (m_pathMany : Int32) (m_heavyMany : Int32) (m_mostMet : Int32) (cyI : ClassId) (fm : Nat → Int32) (fl : Nat → Int32) (fe : Nat → Int32) (vv : Nat → Int32) (vn : Nat → Int32) (f : Nat → Int32) (av : Nat → Int32) (an : Nat → Int32) (nl : Nat → Int32) (nr : Nat → Int32) (p0 : Int32) (p1 : Int32) (sz : Nat) (a0 : 0 ≤ m_n.toInt) (a1 : m_n.toInt ≤ 160) (sl0 : 1 ≤ m_slots.toInt) (sl1 : m_slots.toInt ≤ 6) (s4 : six4 fm) : kx_MQ l (dC, dI) yX5_node wsX5_node ({ frames := 13, cells := 0, slots := 0, locals := 585 }) [.ref h0, .int p0, .int p1] [kx_5 h0 g_row m_n m_slots m_thrown g_many g_loss g_less g_voteValue g_voteNumber g_allValue g_allNumber m_allMany g_nodeL g_nodeR m_nodes g_part m_partMany g_wasMany g_wasLoss g_wasValue g_wasNumber g_path m_pathMany g_heavyValue g_heavyTimes m_heavyMany g_fewest g_which g_met m_mostMet, kx_a g_row cyI 160 f, kx_a g_many cyI 324 fm, kx_a g_loss cyI 324 fl, kx_a g_less cyI 324 fe, kx_a g_voteValue cyI 1944 vv, kx_a g_voteNumber cyI 1944 vn, kx_a g_allValue cyI 12 av, kx_a g_allNumber cyI 12 an, kx_a g_nodeL cyI 320 nl, kx_a g_nodeR cyI 320 nr] [(cyI, .int)] sz (fun A => va_Qi (fun (r : Int32) (u : Int32 × Int32 × (Nat → Int32) × (Nat → Int32) × (Nat → Int32) × (Nat → Int32) × (Nat → Int32) × (Nat → Int32) × (Nat → Int32) × (Nat → Int32) × (Nat → Int32)) => six4 u.2.2.1) (fun (u : Int32 × Int32 × (Nat → Int32) × (Nat → Int32) × (Nat → Int32) × (Nat → Int32) × (Nat → Int32) × (Nat → Int32) × (Nat → Int32) × (Nat → Int32) × (Nat → Int32)) (t : State) => va_P (dC, dI) vwCl [kx_5 h0 g_row m_n m_slots 0 g_many g_loss g_less g_voteValue g_voteNumber g_allValue g_allNumber u.2.1 g_nodeL g_nodeR u.1 g_part m_partMany g_wasMany g_wasLoss g_wasValue g_wasNumber g_path m_pathMany g_heavyValue g_heavyTimes m_heavyMany g_fewest g_which g_met m_mostMet, kx_a g_row cyI 160 f, kx_a g_many cyI 324 u.2.2.1, kx_a g_loss cyI 324 u.2.2.2.1, kx_a g_less cyI 324 u.2.2.2.2.1, kx_a g_voteValue cyI 1944 u.2.2.2.2.2.1, kx_a g_voteNumber cyI 1944 u.2.2.2.2.2.2.1, kx_a g_allValue cyI 12 u.2.2.2.2.2.2.2.1, kx_a g_allNumber cyI 12 u.2.2.2.2.2.2.2.2.1, kx_a g_nodeL cyI 320 u.2.2.2.2.2.2.2.2.2.1, kx_a g_nodeR cyI 320 u.2.2.2.2.2.2.2.2.2.2] t.heap ∧ va_K (dC, dI) vwCl [(cyI, .int)] t ∧ va_D A [kx_5 h0 g_row m_n m_slots 0 g_many g_loss g_less g_voteValue g_voteNumber g_allValue g_allNumber u.2.1 g_nodeL g_nodeR u.1 g_part m_partMany g_wasMany g_wasLoss g_wasValue g_wasNumber g_path m_pathMany g_heavyValue g_heavyTimes m_heavyMany g_fewest g_which g_met m_mostMet, kx_a g_row cyI 160 f, kx_a g_many cyI 324 u.2.2.1, kx_a g_loss cyI 324 u.2.2.2.1, kx_a g_less cyI 324 u.2.2.2.2.1, kx_a g_voteValue cyI 1944 u.2.2.2.2.2.1, kx_a g_voteNumber cyI 1944 u.2.2.2.2.2.2.1, kx_a g_allValue cyI 12 u.2.2.2.2.2.2.2.1, kx_a g_allNumber cyI 12 u.2.2.2.2.2.2.2.2.1, kx_a g_nodeL cyI 320 u.2.2.2.2.2.2.2.2.2.1, kx_a g_nodeR cyI 320 u.2.2.2.2.2.2.2.2.2.2]) A) := by
  refine kx_stQ (ws := wsX5_node) (cc := cX5_node) (maxL := 4) (ret := (some .int)) (by decide) rfl (Nat.le_of_ble_eq_true rfl) ?_
  intro p e s m below meth c A ls hx hb hr hlocks hts hown hml hA hS hP hK hD hl
  have hown : s.vm.findClass RX5 = some m.cls := hown
  have hl : lv_has ls 4 [(0, .ref h0), (1, .int p0), (2, .int p1)] := hl
  have hf_77 := hts (.fieldLink RX5 77 "MajorityIndexModel" "thrown" "I") (List.mem_of_getElem? (i := 1) rfl)
  have hi_5 : ∀ w ∈ u_ws RX5 TX5 30, w ∈ wsX5_node := fun w h => List.mem_cons_of_mem _ (List.mem_append_right _ h)
  have hf_17 := hts (.fieldLink RX5 17 "MajorityIndexModel" "many" "[I") (List.mem_of_getElem? (i := 2) rfl)
  refine lv_aload_n hx hb dX5_node_0 rfl (lv_at hl 0 rfl) ?_
  refine lv_iconst (v := 0) hx hb dX5_node_1 (by decide) ?_
  refine va_put (D := (dC, dI)) (ci := 5) (v := .int 0) (ty := .int) (C := RX5) (T := TX5) (N := 30) hx hb hts hi_5 tyX5 tyX5_ok nmX5 hown hK hP hD hS 0 rfl rfl 3 (by decide) hf_77 (fun _ h9 => h9) rfl (by decide +kernel) rfl rfl (Nat.le_of_ble_eq_true rfl) dX5_node_2 (fun H locs hP hD hS => ?_)
  obtain ⟨hP, hD⟩ := kx_re (w2 := [kx_5 h0 g_row m_n m_slots 0 g_many g_loss g_less g_voteValue g_voteNumber g_allValue g_allNumber m_allMany g_nodeL g_nodeR m_nodes g_part m_partMany g_wasMany g_wasLoss g_wasValue g_wasNumber g_path m_pathMany g_heavyValue g_heavyTimes m_heavyMany g_fewest g_which g_met m_mostMet, kx_a g_row cyI 160 f, kx_a g_many cyI 324 fm, kx_a g_loss cyI 324 fl, kx_a g_less cyI 324 fe, kx_a g_voteValue cyI 1944 vv, kx_a g_voteNumber cyI 1944 vn, kx_a g_allValue cyI 12 av, kx_a g_allNumber cyI 12 an, kx_a g_nodeL cyI 320 nl, kx_a g_nodeR cyI 320 nr]) hP hD rfl
  refine lv_aload_n hx hb dX5_node_5 rfl (lv_at hl 0 rfl) ?_
  refine lv_iload_n hx hb dX5_node_6 rfl (lv_at hl 1 rfl) ?_
  refine lv_iload_n hx hb dX5_node_7 rfl (lv_at hl 2 rfl) ?_
  have hPc := hP
  have hKc := hK
  have hDc := hD
  have hFc := kx_free hD hS hA
  refine va_calli (va_runV (As := [.int p0, .int p1]) (rest := []) ⟨hx, hb, hml, hown, hts⟩ (kx_un (c_X5_asked l dC dI h0 g_row g_many g_loss g_less g_voteValue g_voteNumber g_allValue g_allNumber g_nodeL g_nodeR g_part g_wasMany g_wasLoss g_wasValue g_wasNumber g_path g_heavyValue g_heavyTimes g_fewest g_which g_met m_n m_slots 0 m_allMany m_nodes m_partMany m_pathMany m_heavyMany m_mostMet cyI fm fl fe vv vn f av an nl nr p0 p1 H.size a0 a1 sl0 sl1 s4)) (cwV 2 hts gX5_node_X5_asked rfl rfl rfl (by decide +kernel) ⟨Nat.le_of_ble_eq_true rfl, Nat.le_of_ble_eq_true rfl⟩) ⟨fun a U g mk q => by obtain ⟨q0, q1, qP, qK, qD⟩ := q; exact ⟨q0, q1, qP, va_K.moved (u := U) (U := U.calling g mk a) (Vm.Alike.refl U.vm) qK, qD⟩, kx_rc5 hKc hPc (q0 := 0) rfl, fun U hU hW => ⟨rfl, by rw [hU], by rw [hU]; exact hPc, va_K.moved hW.alike hKc, hDc.weaken (fun _ _ _ _ => trivial)⟩⟩ rfl rfl hl.1 rfl (lv_room (Nat.le_of_ble_eq_true rfl)) dX5_node_8 ⟨Nat.le_of_ble_eq_true rfl, Nat.le_of_ble_eq_true rfl⟩) hS (fun q _ h => hFc q h) hFc (fun r_1 u t H1 locs ht hvm w_1 hB hz1 hk1 hS => ?_)
  obtain ⟨o_2, o_3, o_4, o_5, o_6, o_7, o_8, o_9, o_10, o_11, o_12⟩ := u
  dsimp only at w_1 hB
  obtain ⟨hP1, hK1, hD1⟩ := hB
  rw [ht] at hP1
  have hK1 := va_K.moved hvm.symm hK1
  have hD := hD1.weaken (fun _ q _ h => hFc q.1 h)
  have hP := hP1
  clear hP1 hD1 hK1 hk1 hz1 hFc hDc hPc hKc
  generalize H1 = H at hP hS ⊢
  have w_1 : (r_1.toInt = -1 ∨ r_1.toInt = -2 ∨ (0 ≤ r_1.toInt ∧ r_1.toInt < 319)) ∧ six4 o_4 := w_1
  refine lv_istore_n (lv' := [(3, .int r_1), (0, .ref h0), (1, .int p0), (2, .int p1)]) hx hb dX5_node_11 rfl hl (by decide) rfl (fun ls hl => ?_)
  refine lv_iload_n hx hb dX5_node_12 rfl (lv_at hl 0 rfl) ?_
  refine lv_if_ge (tgt := 20) hx hb dX5_node_13 (by decide) (fun c_13 => ?_) (fun c_13 => ?_)
  · have i_13 : 0 ≤ r_1.toInt := kc_le c_13
    refine lv_aload_n hx hb dX5_node_20 rfl (lv_at hl 1 rfl) ?_
    refine va_get (D := (dC, dI)) (ci := 5) (v := .ref g_many) (C := RX5) (T := TX5) (N := 30) hx hb hts hi_5 hown hK hP 0 rfl rfl 4 (by decide) hf_17 (fun _ h9 => h9) rfl dX5_node_21 ?_
    refine lv_iload_n hx hb dX5_node_24 rfl (lv_at hl 0 rfl) ?_
    refine va_iald hx hb hK hP 2 0 rfl rfl (ki_in (om_10 i_13) (by omega)) dX5_node_25 ?_
    refine lv_topi (fun y_14 ey_14 => ?_)
    have j_14 : y_14.toInt = (o_4 r_1.toNatClampNeg).toInt := congrArg Int32.toInt ey_14
    have n_15 : (r_1.toNatClampNeg : Int) = r_1.toInt := ki_nat _ rfl (om_10 i_13)
    have i_16 := w_1.2 r_1.toNatClampNeg (by omega)
    have hP9 := hP
    have hD9 := hD
    have hK9 := hK
    exact W.iret (v := y_14) hx hb hr (hlocks := hlocks) (fun t ht hW => ⟨⟨y_14, (o_2, o_3, o_4, o_5, o_6, o_7, o_8, o_9, o_10, o_11, o_12), rfl, w_1.2, by rw [ht]; exact hP9, va_K.moved hW.alike hK9, hD9⟩, hS.F ht⟩) hS.2.2 dX5_node_26
  · have i_13 : r_1.toInt < 0 := kc_nle c_13
    refine lv_iload_n hx hb dX5_node_16 rfl (lv_at hl 0 rfl) ?_
    refine lv_goto (tgt := 26) hx hb dX5_node_17 (by decide) ?_
    have hP9 := hP
    have hD9 := hD
    have hK9 := hK
    exact W.iret (v := r_1) hx hb hr (hlocks := hlocks) (fun t ht hW => ⟨⟨r_1, (o_2, o_3, o_4, o_5, o_6, o_7, o_8, o_9, o_10, o_11, o_12), rfl, w_1.2, by rw [ht]; exact hP9, va_K.moved hW.alike hK9, hD9⟩, hS.F ht⟩) hS.2.2 dX5_node_26

set_option maxHeartbeats 4000000 in
set_option maxRecDepth 100000 in
theorem c_X5_loss (l : Launch) (dC : Nat → ClassId) (dI : Nat → Nat → Nat) (h0 : Nat) (g_row : Nat) (g_many : Nat) (g_loss : Nat) (g_less : Nat) (g_voteValue : Nat) (g_voteNumber : Nat) (g_allValue : Nat) (g_allNumber : Nat) (g_nodeL : Nat) (g_nodeR : Nat) (g_part : Nat) (g_wasMany : Nat) (g_wasLoss : Nat) (g_wasValue : Nat) (g_wasNumber : Nat) (g_path : Nat) (g_heavyValue : Nat) (g_heavyTimes : Nat) (g_fewest : Nat) (g_which : Nat) (g_met : Nat) (m_n : Int32) (m_slots : Int32) (m_thrown : Int32) (m_allMany : Int32) (m_nodes : Int32) (m_partMany : Int32) (m_pathMany : Int32) (m_heavyMany : Int32) (m_mostMet : Int32) (cyI : ClassId) (fm : Nat → Int32) (fl : Nat → Int32) (fe : Nat → Int32) (vv : Nat → Int32) (vn : Nat → Int32) (f : Nat → Int32) (av : Nat → Int32) (an : Nat → Int32) (nl : Nat → Int32) (nr : Nat → Int32) (p0 : Int32) (p1 : Int32) (sz : Nat) (a0 : 0 ≤ m_n.toInt) (a1 : m_n.toInt ≤ 160) (sl0 : 1 ≤ m_slots.toInt) (sl1 : m_slots.toInt ≤ 6) (s4 : six4 fm) : kx_MQ l (dC, dI) yX5_loss wsX5_loss ({ frames := 13, cells := 0, slots := 0, locals := 585 }) [.ref h0, .int p0, .int p1] [kx_5 h0 g_row m_n m_slots m_thrown g_many g_loss g_less g_voteValue g_voteNumber g_allValue g_allNumber m_allMany g_nodeL g_nodeR m_nodes g_part m_partMany g_wasMany g_wasLoss g_wasValue g_wasNumber g_path m_pathMany g_heavyValue g_heavyTimes m_heavyMany g_fewest g_which g_met m_mostMet, kx_a g_row cyI 160 f, kx_a g_many cyI 324 fm, kx_a g_loss cyI 324 fl, kx_a g_less cyI 324 fe, kx_a g_voteValue cyI 1944 vv, kx_a g_voteNumber cyI 1944 vn, kx_a g_allValue cyI 12 av, kx_a g_allNumber cyI 12 an, kx_a g_nodeL cyI 320 nl, kx_a g_nodeR cyI 320 nr] [(cyI, .int)] sz (fun A => va_Qi (fun (r : Int32) (u : Int32 × Int32 × (Nat → Int32) × (Nat → Int32) × (Nat → Int32) × (Nat → Int32) × (Nat → Int32) × (Nat → Int32) × (Nat → Int32) × (Nat → Int32) × (Nat → Int32)) => six4 u.2.2.1) (fun (u : Int32 × Int32 × (Nat → Int32) × (Nat → Int32) × (Nat → Int32) × (Nat → Int32) × (Nat → Int32) × (Nat → Int32) × (Nat → Int32) × (Nat → Int32) × (Nat → Int32)) (t : State) => va_P (dC, dI) vwCl [kx_5 h0 g_row m_n m_slots 0 g_many g_loss g_less g_voteValue g_voteNumber g_allValue g_allNumber u.2.1 g_nodeL g_nodeR u.1 g_part m_partMany g_wasMany g_wasLoss g_wasValue g_wasNumber g_path m_pathMany g_heavyValue g_heavyTimes m_heavyMany g_fewest g_which g_met m_mostMet, kx_a g_row cyI 160 f, kx_a g_many cyI 324 u.2.2.1, kx_a g_loss cyI 324 u.2.2.2.1, kx_a g_less cyI 324 u.2.2.2.2.1, kx_a g_voteValue cyI 1944 u.2.2.2.2.2.1, kx_a g_voteNumber cyI 1944 u.2.2.2.2.2.2.1, kx_a g_allValue cyI 12 u.2.2.2.2.2.2.2.1, kx_a g_allNumber cyI 12 u.2.2.2.2.2.2.2.2.1, kx_a g_nodeL cyI 320 u.2.2.2.2.2.2.2.2.2.1, kx_a g_nodeR cyI 320 u.2.2.2.2.2.2.2.2.2.2] t.heap ∧ va_K (dC, dI) vwCl [(cyI, .int)] t ∧ va_D A [kx_5 h0 g_row m_n m_slots 0 g_many g_loss g_less g_voteValue g_voteNumber g_allValue g_allNumber u.2.1 g_nodeL g_nodeR u.1 g_part m_partMany g_wasMany g_wasLoss g_wasValue g_wasNumber g_path m_pathMany g_heavyValue g_heavyTimes m_heavyMany g_fewest g_which g_met m_mostMet, kx_a g_row cyI 160 f, kx_a g_many cyI 324 u.2.2.1, kx_a g_loss cyI 324 u.2.2.2.1, kx_a g_less cyI 324 u.2.2.2.2.1, kx_a g_voteValue cyI 1944 u.2.2.2.2.2.1, kx_a g_voteNumber cyI 1944 u.2.2.2.2.2.2.1, kx_a g_allValue cyI 12 u.2.2.2.2.2.2.2.1, kx_a g_allNumber cyI 12 u.2.2.2.2.2.2.2.2.1, kx_a g_nodeL cyI 320 u.2.2.2.2.2.2.2.2.2.1, kx_a g_nodeR cyI 320 u.2.2.2.2.2.2.2.2.2.2]) A) := by
  refine kx_stQ (ws := wsX5_loss) (cc := cX5_loss) (maxL := 4) (ret := (some .int)) (by decide) rfl (Nat.le_of_ble_eq_true rfl) ?_
  intro p e s m below meth c A ls hx hb hr hlocks hts hown hml hA hS hP hK hD hl
  have hown : s.vm.findClass RX5 = some m.cls := hown
  have hl : lv_has ls 4 [(0, .ref h0), (1, .int p0), (2, .int p1)] := hl
  have hf_77 := hts (.fieldLink RX5 77 "MajorityIndexModel" "thrown" "I") (List.mem_of_getElem? (i := 1) rfl)
  have hi_5 : ∀ w ∈ u_ws RX5 TX5 30, w ∈ wsX5_loss := fun w h => List.mem_cons_of_mem _ (List.mem_append_right _ h)
  have hf_20 := hts (.fieldLink RX5 20 "MajorityIndexModel" "loss" "[I") (List.mem_of_getElem? (i := 2) rfl)
  refine lv_aload_n hx hb dX5_loss_0 rfl (lv_at hl 0 rfl) ?_
  refine lv_iconst (v := 0) hx hb dX5_loss_1 (by decide) ?_
  refine va_put (D := (dC, dI)) (ci := 5) (v := .int 0) (ty := .int) (C := RX5) (T := TX5) (N := 30) hx hb hts hi_5 tyX5 tyX5_ok nmX5 hown hK hP hD hS 0 rfl rfl 3 (by decide) hf_77 (fun _ h9 => h9) rfl (by decide +kernel) rfl rfl (Nat.le_of_ble_eq_true rfl) dX5_loss_2 (fun H locs hP hD hS => ?_)
  obtain ⟨hP, hD⟩ := kx_re (w2 := [kx_5 h0 g_row m_n m_slots 0 g_many g_loss g_less g_voteValue g_voteNumber g_allValue g_allNumber m_allMany g_nodeL g_nodeR m_nodes g_part m_partMany g_wasMany g_wasLoss g_wasValue g_wasNumber g_path m_pathMany g_heavyValue g_heavyTimes m_heavyMany g_fewest g_which g_met m_mostMet, kx_a g_row cyI 160 f, kx_a g_many cyI 324 fm, kx_a g_loss cyI 324 fl, kx_a g_less cyI 324 fe, kx_a g_voteValue cyI 1944 vv, kx_a g_voteNumber cyI 1944 vn, kx_a g_allValue cyI 12 av, kx_a g_allNumber cyI 12 an, kx_a g_nodeL cyI 320 nl, kx_a g_nodeR cyI 320 nr]) hP hD rfl
  refine lv_aload_n hx hb dX5_loss_5 rfl (lv_at hl 0 rfl) ?_
  refine lv_iload_n hx hb dX5_loss_6 rfl (lv_at hl 1 rfl) ?_
  refine lv_iload_n hx hb dX5_loss_7 rfl (lv_at hl 2 rfl) ?_
  have hPc := hP
  have hKc := hK
  have hDc := hD
  have hFc := kx_free hD hS hA
  refine va_calli (va_runV (As := [.int p0, .int p1]) (rest := []) ⟨hx, hb, hml, hown, hts⟩ (kx_un (c_X5_asked l dC dI h0 g_row g_many g_loss g_less g_voteValue g_voteNumber g_allValue g_allNumber g_nodeL g_nodeR g_part g_wasMany g_wasLoss g_wasValue g_wasNumber g_path g_heavyValue g_heavyTimes g_fewest g_which g_met m_n m_slots 0 m_allMany m_nodes m_partMany m_pathMany m_heavyMany m_mostMet cyI fm fl fe vv vn f av an nl nr p0 p1 H.size a0 a1 sl0 sl1 s4)) (cwV 2 hts gX5_loss_X5_asked rfl rfl rfl (by decide +kernel) ⟨Nat.le_of_ble_eq_true rfl, Nat.le_of_ble_eq_true rfl⟩) ⟨fun a U g mk q => by obtain ⟨q0, q1, qP, qK, qD⟩ := q; exact ⟨q0, q1, qP, va_K.moved (u := U) (U := U.calling g mk a) (Vm.Alike.refl U.vm) qK, qD⟩, kx_rc5 hKc hPc (q0 := 0) rfl, fun U hU hW => ⟨rfl, by rw [hU], by rw [hU]; exact hPc, va_K.moved hW.alike hKc, hDc.weaken (fun _ _ _ _ => trivial)⟩⟩ rfl rfl hl.1 rfl (lv_room (Nat.le_of_ble_eq_true rfl)) dX5_loss_8 ⟨Nat.le_of_ble_eq_true rfl, Nat.le_of_ble_eq_true rfl⟩) hS (fun q _ h => hFc q h) hFc (fun r_1 u t H1 locs ht hvm w_1 hB hz1 hk1 hS => ?_)
  obtain ⟨o_2, o_3, o_4, o_5, o_6, o_7, o_8, o_9, o_10, o_11, o_12⟩ := u
  dsimp only at w_1 hB
  obtain ⟨hP1, hK1, hD1⟩ := hB
  rw [ht] at hP1
  have hK1 := va_K.moved hvm.symm hK1
  have hD := hD1.weaken (fun _ q _ h => hFc q.1 h)
  have hP := hP1
  clear hP1 hD1 hK1 hk1 hz1 hFc hDc hPc hKc
  generalize H1 = H at hP hS ⊢
  have w_1 : (r_1.toInt = -1 ∨ r_1.toInt = -2 ∨ (0 ≤ r_1.toInt ∧ r_1.toInt < 319)) ∧ six4 o_4 := w_1
  refine lv_istore_n (lv' := [(3, .int r_1), (0, .ref h0), (1, .int p0), (2, .int p1)]) hx hb dX5_loss_11 rfl hl (by decide) rfl (fun ls hl => ?_)
  refine lv_iload_n hx hb dX5_loss_12 rfl (lv_at hl 0 rfl) ?_
  refine lv_if_ge (tgt := 20) hx hb dX5_loss_13 (by decide) (fun c_13 => ?_) (fun c_13 => ?_)
  · have i_13 : 0 ≤ r_1.toInt := kc_le c_13
    refine lv_aload_n hx hb dX5_loss_20 rfl (lv_at hl 1 rfl) ?_
    refine va_get (D := (dC, dI)) (ci := 5) (v := .ref g_loss) (C := RX5) (T := TX5) (N := 30) hx hb hts hi_5 hown hK hP 0 rfl rfl 5 (by decide) hf_20 (fun _ h9 => h9) rfl dX5_loss_21 ?_
    refine lv_iload_n hx hb dX5_loss_24 rfl (lv_at hl 0 rfl) ?_
    refine va_iald hx hb hK hP 3 0 rfl rfl (ki_in (om_10 i_13) (by omega)) dX5_loss_25 ?_
    refine lv_topi (fun y_14 ey_14 => ?_)
    have j_14 : y_14.toInt = (o_5 r_1.toNatClampNeg).toInt := congrArg Int32.toInt ey_14
    have hP9 := hP
    have hD9 := hD
    have hK9 := hK
    exact W.iret (v := y_14) hx hb hr (hlocks := hlocks) (fun t ht hW => ⟨⟨y_14, (o_2, o_3, o_4, o_5, o_6, o_7, o_8, o_9, o_10, o_11, o_12), rfl, w_1.2, by rw [ht]; exact hP9, va_K.moved hW.alike hK9, hD9⟩, hS.F ht⟩) hS.2.2 dX5_loss_26
  · have i_13 : r_1.toInt < 0 := kc_nle c_13
    refine lv_iload_n hx hb dX5_loss_16 rfl (lv_at hl 0 rfl) ?_
    refine lv_goto (tgt := 26) hx hb dX5_loss_17 (by decide) ?_
    have hP9 := hP
    have hD9 := hD
    have hK9 := hK
    exact W.iret (v := r_1) hx hb hr (hlocks := hlocks) (fun t ht hW => ⟨⟨r_1, (o_2, o_3, o_4, o_5, o_6, o_7, o_8, o_9, o_10, o_11, o_12), rfl, w_1.2, by rw [ht]; exact hP9, va_K.moved hW.alike hK9, hD9⟩, hS.F ht⟩) hS.2.2 dX5_loss_26

set_option maxHeartbeats 4000000 in
set_option maxRecDepth 100000 in
theorem c_X5_cancelled (l : Launch) (dC : Nat → ClassId) (dI : Nat → Nat → Nat) (h0 : Nat) (g_row : Nat) (g_many : Nat) (g_loss : Nat) (g_less : Nat) (g_voteValue : Nat) (g_voteNumber : Nat) (g_allValue : Nat) (g_allNumber : Nat) (g_nodeL : Nat) (g_nodeR : Nat) (g_part : Nat) (g_wasMany : Nat) (g_wasLoss : Nat) (g_wasValue : Nat) (g_wasNumber : Nat) (g_path : Nat) (g_heavyValue : Nat) (g_heavyTimes : Nat) (g_fewest : Nat) (g_which : Nat) (g_met : Nat) (m_n : Int32) (m_slots : Int32) (m_thrown : Int32) (m_allMany : Int32) (m_nodes : Int32) (m_partMany : Int32) (m_pathMany : Int32) (m_heavyMany : Int32) (m_mostMet : Int32) (cyI : ClassId) (fm : Nat → Int32) (fl : Nat → Int32) (fe : Nat → Int32) (vv : Nat → Int32) (vn : Nat → Int32) (f : Nat → Int32) (av : Nat → Int32) (an : Nat → Int32) (nl : Nat → Int32) (nr : Nat → Int32) (p0 : Int32) (p1 : Int32) (sz : Nat) (a0 : 0 ≤ m_n.toInt) (a1 : m_n.toInt ≤ 160) (sl0 : 1 ≤ m_slots.toInt) (sl1 : m_slots.toInt ≤ 6) (s4 : six4 fm) : kx_MQ l (dC, dI) yX5_cancelled wsX5_cancelled ({ frames := 13, cells := 0, slots := 0, locals := 585 }) [.ref h0, .int p0, .int p1] [kx_5 h0 g_row m_n m_slots m_thrown g_many g_loss g_less g_voteValue g_voteNumber g_allValue g_allNumber m_allMany g_nodeL g_nodeR m_nodes g_part m_partMany g_wasMany g_wasLoss g_wasValue g_wasNumber g_path m_pathMany g_heavyValue g_heavyTimes m_heavyMany g_fewest g_which g_met m_mostMet, kx_a g_row cyI 160 f, kx_a g_many cyI 324 fm, kx_a g_loss cyI 324 fl, kx_a g_less cyI 324 fe, kx_a g_voteValue cyI 1944 vv, kx_a g_voteNumber cyI 1944 vn, kx_a g_allValue cyI 12 av, kx_a g_allNumber cyI 12 an, kx_a g_nodeL cyI 320 nl, kx_a g_nodeR cyI 320 nr] [(cyI, .int)] sz (fun A => va_Qi (fun (r : Int32) (u : Int32 × Int32 × (Nat → Int32) × (Nat → Int32) × (Nat → Int32) × (Nat → Int32) × (Nat → Int32) × (Nat → Int32) × (Nat → Int32) × (Nat → Int32) × (Nat → Int32)) => six4 u.2.2.1) (fun (u : Int32 × Int32 × (Nat → Int32) × (Nat → Int32) × (Nat → Int32) × (Nat → Int32) × (Nat → Int32) × (Nat → Int32) × (Nat → Int32) × (Nat → Int32) × (Nat → Int32)) (t : State) => va_P (dC, dI) vwCl [kx_5 h0 g_row m_n m_slots 0 g_many g_loss g_less g_voteValue g_voteNumber g_allValue g_allNumber u.2.1 g_nodeL g_nodeR u.1 g_part m_partMany g_wasMany g_wasLoss g_wasValue g_wasNumber g_path m_pathMany g_heavyValue g_heavyTimes m_heavyMany g_fewest g_which g_met m_mostMet, kx_a g_row cyI 160 f, kx_a g_many cyI 324 u.2.2.1, kx_a g_loss cyI 324 u.2.2.2.1, kx_a g_less cyI 324 u.2.2.2.2.1, kx_a g_voteValue cyI 1944 u.2.2.2.2.2.1, kx_a g_voteNumber cyI 1944 u.2.2.2.2.2.2.1, kx_a g_allValue cyI 12 u.2.2.2.2.2.2.2.1, kx_a g_allNumber cyI 12 u.2.2.2.2.2.2.2.2.1, kx_a g_nodeL cyI 320 u.2.2.2.2.2.2.2.2.2.1, kx_a g_nodeR cyI 320 u.2.2.2.2.2.2.2.2.2.2] t.heap ∧ va_K (dC, dI) vwCl [(cyI, .int)] t ∧ va_D A [kx_5 h0 g_row m_n m_slots 0 g_many g_loss g_less g_voteValue g_voteNumber g_allValue g_allNumber u.2.1 g_nodeL g_nodeR u.1 g_part m_partMany g_wasMany g_wasLoss g_wasValue g_wasNumber g_path m_pathMany g_heavyValue g_heavyTimes m_heavyMany g_fewest g_which g_met m_mostMet, kx_a g_row cyI 160 f, kx_a g_many cyI 324 u.2.2.1, kx_a g_loss cyI 324 u.2.2.2.1, kx_a g_less cyI 324 u.2.2.2.2.1, kx_a g_voteValue cyI 1944 u.2.2.2.2.2.1, kx_a g_voteNumber cyI 1944 u.2.2.2.2.2.2.1, kx_a g_allValue cyI 12 u.2.2.2.2.2.2.2.1, kx_a g_allNumber cyI 12 u.2.2.2.2.2.2.2.2.1, kx_a g_nodeL cyI 320 u.2.2.2.2.2.2.2.2.2.1, kx_a g_nodeR cyI 320 u.2.2.2.2.2.2.2.2.2.2]) A) := by
  refine kx_stQ (ws := wsX5_cancelled) (cc := cX5_cancelled) (maxL := 4) (ret := (some .int)) (by decide) rfl (Nat.le_of_ble_eq_true rfl) ?_
  intro p e s m below meth c A ls hx hb hr hlocks hts hown hml hA hS hP hK hD hl
  have hown : s.vm.findClass RX5 = some m.cls := hown
  have hl : lv_has ls 4 [(0, .ref h0), (1, .int p0), (2, .int p1)] := hl
  have hf_77 := hts (.fieldLink RX5 77 "MajorityIndexModel" "thrown" "I") (List.mem_of_getElem? (i := 1) rfl)
  have hi_5 : ∀ w ∈ u_ws RX5 TX5 30, w ∈ wsX5_cancelled := fun w h => List.mem_cons_of_mem _ (List.mem_append_right _ h)
  have hf_23 := hts (.fieldLink RX5 23 "MajorityIndexModel" "less" "[I") (List.mem_of_getElem? (i := 2) rfl)
  refine lv_aload_n hx hb dX5_cancelled_0 rfl (lv_at hl 0 rfl) ?_
  refine lv_iconst (v := 0) hx hb dX5_cancelled_1 (by decide) ?_
  refine va_put (D := (dC, dI)) (ci := 5) (v := .int 0) (ty := .int) (C := RX5) (T := TX5) (N := 30) hx hb hts hi_5 tyX5 tyX5_ok nmX5 hown hK hP hD hS 0 rfl rfl 3 (by decide) hf_77 (fun _ h9 => h9) rfl (by decide +kernel) rfl rfl (Nat.le_of_ble_eq_true rfl) dX5_cancelled_2 (fun H locs hP hD hS => ?_)
  obtain ⟨hP, hD⟩ := kx_re (w2 := [kx_5 h0 g_row m_n m_slots 0 g_many g_loss g_less g_voteValue g_voteNumber g_allValue g_allNumber m_allMany g_nodeL g_nodeR m_nodes g_part m_partMany g_wasMany g_wasLoss g_wasValue g_wasNumber g_path m_pathMany g_heavyValue g_heavyTimes m_heavyMany g_fewest g_which g_met m_mostMet, kx_a g_row cyI 160 f, kx_a g_many cyI 324 fm, kx_a g_loss cyI 324 fl, kx_a g_less cyI 324 fe, kx_a g_voteValue cyI 1944 vv, kx_a g_voteNumber cyI 1944 vn, kx_a g_allValue cyI 12 av, kx_a g_allNumber cyI 12 an, kx_a g_nodeL cyI 320 nl, kx_a g_nodeR cyI 320 nr]) hP hD rfl
  refine lv_aload_n hx hb dX5_cancelled_5 rfl (lv_at hl 0 rfl) ?_
  refine lv_iload_n hx hb dX5_cancelled_6 rfl (lv_at hl 1 rfl) ?_
  refine lv_iload_n hx hb dX5_cancelled_7 rfl (lv_at hl 2 rfl) ?_
  have hPc := hP
  have hKc := hK
  have hDc := hD
  have hFc := kx_free hD hS hA
  refine va_calli (va_runV (As := [.int p0, .int p1]) (rest := []) ⟨hx, hb, hml, hown, hts⟩ (kx_un (c_X5_asked l dC dI h0 g_row g_many g_loss g_less g_voteValue g_voteNumber g_allValue g_allNumber g_nodeL g_nodeR g_part g_wasMany g_wasLoss g_wasValue g_wasNumber g_path g_heavyValue g_heavyTimes g_fewest g_which g_met m_n m_slots 0 m_allMany m_nodes m_partMany m_pathMany m_heavyMany m_mostMet cyI fm fl fe vv vn f av an nl nr p0 p1 H.size a0 a1 sl0 sl1 s4)) (cwV 2 hts gX5_cancelled_X5_asked rfl rfl rfl (by decide +kernel) ⟨Nat.le_of_ble_eq_true rfl, Nat.le_of_ble_eq_true rfl⟩) ⟨fun a U g mk q => by obtain ⟨q0, q1, qP, qK, qD⟩ := q; exact ⟨q0, q1, qP, va_K.moved (u := U) (U := U.calling g mk a) (Vm.Alike.refl U.vm) qK, qD⟩, kx_rc5 hKc hPc (q0 := 0) rfl, fun U hU hW => ⟨rfl, by rw [hU], by rw [hU]; exact hPc, va_K.moved hW.alike hKc, hDc.weaken (fun _ _ _ _ => trivial)⟩⟩ rfl rfl hl.1 rfl (lv_room (Nat.le_of_ble_eq_true rfl)) dX5_cancelled_8 ⟨Nat.le_of_ble_eq_true rfl, Nat.le_of_ble_eq_true rfl⟩) hS (fun q _ h => hFc q h) hFc (fun r_1 u t H1 locs ht hvm w_1 hB hz1 hk1 hS => ?_)
  obtain ⟨o_2, o_3, o_4, o_5, o_6, o_7, o_8, o_9, o_10, o_11, o_12⟩ := u
  dsimp only at w_1 hB
  obtain ⟨hP1, hK1, hD1⟩ := hB
  rw [ht] at hP1
  have hK1 := va_K.moved hvm.symm hK1
  have hD := hD1.weaken (fun _ q _ h => hFc q.1 h)
  have hP := hP1
  clear hP1 hD1 hK1 hk1 hz1 hFc hDc hPc hKc
  generalize H1 = H at hP hS ⊢
  have w_1 : (r_1.toInt = -1 ∨ r_1.toInt = -2 ∨ (0 ≤ r_1.toInt ∧ r_1.toInt < 319)) ∧ six4 o_4 := w_1
  refine lv_istore_n (lv' := [(3, .int r_1), (0, .ref h0), (1, .int p0), (2, .int p1)]) hx hb dX5_cancelled_11 rfl hl (by decide) rfl (fun ls hl => ?_)
  refine lv_iload_n hx hb dX5_cancelled_12 rfl (lv_at hl 0 rfl) ?_
  refine lv_if_ge (tgt := 20) hx hb dX5_cancelled_13 (by decide) (fun c_13 => ?_) (fun c_13 => ?_)
  · have i_13 : 0 ≤ r_1.toInt := kc_le c_13
    refine lv_aload_n hx hb dX5_cancelled_20 rfl (lv_at hl 1 rfl) ?_
    refine va_get (D := (dC, dI)) (ci := 5) (v := .ref g_less) (C := RX5) (T := TX5) (N := 30) hx hb hts hi_5 hown hK hP 0 rfl rfl 6 (by decide) hf_23 (fun _ h9 => h9) rfl dX5_cancelled_21 ?_
    refine lv_iload_n hx hb dX5_cancelled_24 rfl (lv_at hl 0 rfl) ?_
    refine va_iald hx hb hK hP 4 0 rfl rfl (ki_in (om_10 i_13) (by omega)) dX5_cancelled_25 ?_
    refine lv_topi (fun y_14 ey_14 => ?_)
    have j_14 : y_14.toInt = (o_6 r_1.toNatClampNeg).toInt := congrArg Int32.toInt ey_14
    have hP9 := hP
    have hD9 := hD
    have hK9 := hK
    exact W.iret (v := y_14) hx hb hr (hlocks := hlocks) (fun t ht hW => ⟨⟨y_14, (o_2, o_3, o_4, o_5, o_6, o_7, o_8, o_9, o_10, o_11, o_12), rfl, w_1.2, by rw [ht]; exact hP9, va_K.moved hW.alike hK9, hD9⟩, hS.F ht⟩) hS.2.2 dX5_cancelled_26
  · have i_13 : r_1.toInt < 0 := kc_nle c_13
    refine lv_iload_n hx hb dX5_cancelled_16 rfl (lv_at hl 0 rfl) ?_
    refine lv_goto (tgt := 26) hx hb dX5_cancelled_17 (by decide) ?_
    have hP9 := hP
    have hD9 := hD
    have hK9 := hK
    exact W.iret (v := r_1) hx hb hr (hlocks := hlocks) (fun t ht hW => ⟨⟨r_1, (o_2, o_3, o_4, o_5, o_6, o_7, o_8, o_9, o_10, o_11, o_12), rfl, w_1.2, by rw [ht]; exact hP9, va_K.moved hW.alike hK9, hD9⟩, hS.F ht⟩) hS.2.2 dX5_cancelled_26

set_option maxHeartbeats 4000000 in
set_option maxRecDepth 100000 in
theorem c_X5_vote (l : Launch) (dC : Nat → ClassId) (dI : Nat → Nat → Nat) (h0 : Nat) (g_row : Nat) (g_many : Nat) (g_loss : Nat) (g_less : Nat) (g_voteValue : Nat) (g_voteNumber : Nat) (g_allValue : Nat) (g_allNumber : Nat) (g_nodeL : Nat) (g_nodeR : Nat) (g_part : Nat) (g_wasMany : Nat) (g_wasLoss : Nat) (g_wasValue : Nat) (g_wasNumber : Nat) (g_path : Nat) (g_heavyValue : Nat) (g_heavyTimes : Nat) (g_fewest : Nat) (g_which : Nat) (g_met : Nat) (m_n : Int32) (m_slots : Int32) (m_thrown : Int32) (m_allMany : Int32) (m_nodes : Int32) (m_partMany : Int32) (m_pathMany : Int32) (m_heavyMany : Int32) (m_mostMet : Int32) (cyI : ClassId) (fm : Nat → Int32) (fl : Nat → Int32) (fe : Nat → Int32) (vv : Nat → Int32) (vn : Nat → Int32) (f : Nat → Int32) (av : Nat → Int32) (an : Nat → Int32) (nl : Nat → Int32) (nr : Nat → Int32) (p0 : Int32) (p1 : Int32) (p2 : Int32) (p3 : Int32) (sz : Nat) (a0 : 0 ≤ m_n.toInt) (a1 : m_n.toInt ≤ 160) (sl0 : 1 ≤ m_slots.toInt) (sl1 : m_slots.toInt ≤ 6) (s4 : six4 fm) : kx_MQ l (dC, dI) yX5_vote wsX5_vote ({ frames := 13, cells := 0, slots := 0, locals := 585 }) [.ref h0, .int p0, .int p1, .int p2, .int p3] [kx_5 h0 g_row m_n m_slots m_thrown g_many g_loss g_less g_voteValue g_voteNumber g_allValue g_allNumber m_allMany g_nodeL g_nodeR m_nodes g_part m_partMany g_wasMany g_wasLoss g_wasValue g_wasNumber g_path m_pathMany g_heavyValue g_heavyTimes m_heavyMany g_fewest g_which g_met m_mostMet, kx_a g_row cyI 160 f, kx_a g_many cyI 324 fm, kx_a g_loss cyI 324 fl, kx_a g_less cyI 324 fe, kx_a g_voteValue cyI 1944 vv, kx_a g_voteNumber cyI 1944 vn, kx_a g_allValue cyI 12 av, kx_a g_allNumber cyI 12 an, kx_a g_nodeL cyI 320 nl, kx_a g_nodeR cyI 320 nr] [(cyI, .int)] sz (fun A => va_Qi (fun (r : Int32) (u : Int32 × Int32 × (Nat → Int32) × (Nat → Int32) × (Nat → Int32) × (Nat → Int32) × (Nat → Int32) × (Nat → Int32) × (Nat → Int32) × (Nat → Int32) × (Nat → Int32) × Int32) => six4 u.2.2.1) (fun (u : Int32 × Int32 × (Nat → Int32) × (Nat → Int32) × (Nat → Int32) × (Nat → Int32) × (Nat → Int32) × (Nat → Int32) × (Nat → Int32) × (Nat → Int32) × (Nat → Int32) × Int32) (t : State) => va_P (dC, dI) vwCl [kx_5 h0 g_row m_n m_slots u.2.2.2.2.2.2.2.2.2.2.2 g_many g_loss g_less g_voteValue g_voteNumber g_allValue g_allNumber u.2.1 g_nodeL g_nodeR u.1 g_part m_partMany g_wasMany g_wasLoss g_wasValue g_wasNumber g_path m_pathMany g_heavyValue g_heavyTimes m_heavyMany g_fewest g_which g_met m_mostMet, kx_a g_row cyI 160 f, kx_a g_many cyI 324 u.2.2.1, kx_a g_loss cyI 324 u.2.2.2.1, kx_a g_less cyI 324 u.2.2.2.2.1, kx_a g_voteValue cyI 1944 u.2.2.2.2.2.1, kx_a g_voteNumber cyI 1944 u.2.2.2.2.2.2.1, kx_a g_allValue cyI 12 u.2.2.2.2.2.2.2.1, kx_a g_allNumber cyI 12 u.2.2.2.2.2.2.2.2.1, kx_a g_nodeL cyI 320 u.2.2.2.2.2.2.2.2.2.1, kx_a g_nodeR cyI 320 u.2.2.2.2.2.2.2.2.2.2.1] t.heap ∧ va_K (dC, dI) vwCl [(cyI, .int)] t ∧ va_D A [kx_5 h0 g_row m_n m_slots u.2.2.2.2.2.2.2.2.2.2.2 g_many g_loss g_less g_voteValue g_voteNumber g_allValue g_allNumber u.2.1 g_nodeL g_nodeR u.1 g_part m_partMany g_wasMany g_wasLoss g_wasValue g_wasNumber g_path m_pathMany g_heavyValue g_heavyTimes m_heavyMany g_fewest g_which g_met m_mostMet, kx_a g_row cyI 160 f, kx_a g_many cyI 324 u.2.2.1, kx_a g_loss cyI 324 u.2.2.2.1, kx_a g_less cyI 324 u.2.2.2.2.1, kx_a g_voteValue cyI 1944 u.2.2.2.2.2.1, kx_a g_voteNumber cyI 1944 u.2.2.2.2.2.2.1, kx_a g_allValue cyI 12 u.2.2.2.2.2.2.2.1, kx_a g_allNumber cyI 12 u.2.2.2.2.2.2.2.2.1, kx_a g_nodeL cyI 320 u.2.2.2.2.2.2.2.2.2.1, kx_a g_nodeR cyI 320 u.2.2.2.2.2.2.2.2.2.2.1]) A) := by
  refine kx_stQ (ws := wsX5_vote) (cc := cX5_vote) (maxL := 6) (ret := (some .int)) (by decide) rfl (Nat.le_of_ble_eq_true rfl) ?_
  intro p e s m below meth c A ls hx hb hr hlocks hts hown hml hA hS hP hK hD hl
  have hown : s.vm.findClass RX5 = some m.cls := hown
  have hl : lv_has ls 6 [(0, .ref h0), (1, .int p0), (2, .int p1), (3, .int p2), (4, .int p3)] := hl
  have hf_77 := hts (.fieldLink RX5 77 "MajorityIndexModel" "thrown" "I") (List.mem_of_getElem? (i := 1) rfl)
  have hi_5 : ∀ w ∈ u_ws RX5 TX5 30, w ∈ wsX5_vote := fun w h => List.mem_cons_of_mem _ (List.mem_append_right _ h)
  have hf_17 := hts (.fieldLink RX5 17 "MajorityIndexModel" "many" "[I") (List.mem_of_getElem? (i := 2) rfl)
  have hf_29 := hts (.fieldLink RX5 29 "MajorityIndexModel" "voteNumber" "[I") (List.mem_of_getElem? (i := 4) rfl)
  have hf_26 := hts (.fieldLink RX5 26 "MajorityIndexModel" "voteValue" "[I") (List.mem_of_getElem? (i := 3) rfl)
  refine lv_aload_n hx hb dX5_vote_0 rfl (lv_at hl 0 rfl) ?_
  refine lv_iconst (v := 1) hx hb dX5_vote_1 (by decide) ?_
  refine va_put (D := (dC, dI)) (ci := 5) (v := .int 1) (ty := .int) (C := RX5) (T := TX5) (N := 30) hx hb hts hi_5 tyX5 tyX5_ok nmX5 hown hK hP hD hS 0 rfl rfl 3 (by decide) hf_77 (fun _ h9 => h9) rfl (by decide +kernel) rfl rfl (Nat.le_of_ble_eq_true rfl) dX5_vote_2 (fun H locs hP hD hS => ?_)
  obtain ⟨hP, hD⟩ := kx_re (w2 := [kx_5 h0 g_row m_n m_slots 1 g_many g_loss g_less g_voteValue g_voteNumber g_allValue g_allNumber m_allMany g_nodeL g_nodeR m_nodes g_part m_partMany g_wasMany g_wasLoss g_wasValue g_wasNumber g_path m_pathMany g_heavyValue g_heavyTimes m_heavyMany g_fewest g_which g_met m_mostMet, kx_a g_row cyI 160 f, kx_a g_many cyI 324 fm, kx_a g_loss cyI 324 fl, kx_a g_less cyI 324 fe, kx_a g_voteValue cyI 1944 vv, kx_a g_voteNumber cyI 1944 vn, kx_a g_allValue cyI 12 av, kx_a g_allNumber cyI 12 an, kx_a g_nodeL cyI 320 nl, kx_a g_nodeR cyI 320 nr]) hP hD rfl
  refine lv_aload_n hx hb dX5_vote_5 rfl (lv_at hl 0 rfl) ?_
  refine lv_iload_n hx hb dX5_vote_6 rfl (lv_at hl 1 rfl) ?_
  refine lv_iload_n hx hb dX5_vote_7 rfl (lv_at hl 2 rfl) ?_
  have hPc := hP
  have hKc := hK
  have hDc := hD
  have hFc := kx_free hD hS hA
  refine va_calli (va_runV (As := [.int p0, .int p1]) (rest := []) ⟨hx, hb, hml, hown, hts⟩ (kx_un (c_X5_asked l dC dI h0 g_row g_many g_loss g_less g_voteValue g_voteNumber g_allValue g_allNumber g_nodeL g_nodeR g_part g_wasMany g_wasLoss g_wasValue g_wasNumber g_path g_heavyValue g_heavyTimes g_fewest g_which g_met m_n m_slots 1 m_allMany m_nodes m_partMany m_pathMany m_heavyMany m_mostMet cyI fm fl fe vv vn f av an nl nr p0 p1 H.size a0 a1 sl0 sl1 s4)) (cwV 2 hts gX5_vote_X5_asked rfl rfl rfl (by decide +kernel) ⟨Nat.le_of_ble_eq_true rfl, Nat.le_of_ble_eq_true rfl⟩) ⟨fun a U g mk q => by obtain ⟨q0, q1, qP, qK, qD⟩ := q; exact ⟨q0, q1, qP, va_K.moved (u := U) (U := U.calling g mk a) (Vm.Alike.refl U.vm) qK, qD⟩, kx_rc5 hKc hPc (q0 := 0) rfl, fun U hU hW => ⟨rfl, by rw [hU], by rw [hU]; exact hPc, va_K.moved hW.alike hKc, hDc.weaken (fun _ _ _ _ => trivial)⟩⟩ rfl rfl hl.1 rfl (lv_room (Nat.le_of_ble_eq_true rfl)) dX5_vote_8 ⟨Nat.le_of_ble_eq_true rfl, Nat.le_of_ble_eq_true rfl⟩) hS (fun q _ h => hFc q h) hFc (fun r_1 u t H1 locs ht hvm w_1 hB hz1 hk1 hS => ?_)
  obtain ⟨o_2, o_3, o_4, o_5, o_6, o_7, o_8, o_9, o_10, o_11, o_12⟩ := u
  dsimp only at w_1 hB
  obtain ⟨hP1, hK1, hD1⟩ := hB
  rw [ht] at hP1
  have hK1 := va_K.moved hvm.symm hK1
  have hD := hD1.weaken (fun _ q _ h => hFc q.1 h)
  have hP := hP1
  clear hP1 hD1 hK1 hk1 hz1 hFc hDc hPc hKc
  generalize H1 = H at hP hS ⊢
  have w_1 : (r_1.toInt = -1 ∨ r_1.toInt = -2 ∨ (0 ≤ r_1.toInt ∧ r_1.toInt < 319)) ∧ six4 o_4 := w_1
  refine lv_istore (lv' := [(5, .int r_1), (0, .ref h0), (1, .int p0), (2, .int p1), (3, .int p2), (4, .int p3)]) hx hb dX5_vote_11 hl (by decide) rfl (fun ls hl => ?_)
  refine lv_iload hx hb dX5_vote_13 (lv_at hl 0 rfl) ?_
  refine lv_if_lt (tgt := 45) hx hb dX5_vote_15 (by decide) (fun c_13 => ?_) (fun c_13 => ?_)
  · have i_13 : r_1.toInt < 0 := kc_lt c_13
    refine lv_iconst (v := 0) hx hb dX5_vote_45 (by decide) ?_
    have hP9 := hP
    have hD9 := hD
    have hK9 := hK
    exact W.iret (v := 0) hx hb hr (hlocks := hlocks) (fun t ht hW => ⟨⟨0, (o_2, o_3, o_4, o_5, o_6, o_7, o_8, o_9, o_10, o_11, o_12, 1), rfl, w_1.2, by rw [ht]; exact hP9, va_K.moved hW.alike hK9, hD9⟩, hS.F ht⟩) hS.2.2 dX5_vote_46
  · have i_13 : 0 ≤ r_1.toInt := kc_nlt c_13
    refine lv_iload_n hx hb dX5_vote_18 rfl (lv_at hl 4 rfl) ?_
    refine lv_iconst (v := 0) hx hb dX5_vote_19 (by decide) ?_
    refine lv_aload_n hx hb dX5_vote_20 rfl (lv_at hl 1 rfl) ?_
    refine va_get (D := (dC, dI)) (ci := 5) (v := .ref g_many) (C := RX5) (T := TX5) (N := 30) hx hb hts hi_5 hown hK hP 0 rfl rfl 4 (by decide) hf_17 (fun _ h9 => h9) rfl dX5_vote_21 ?_
    refine lv_iload hx hb dX5_vote_24 (lv_at hl 0 rfl) ?_
    refine va_iald hx hb hK hP 2 0 rfl rfl (ki_in (om_10 i_13) (by omega)) dX5_vote_26 ?_
    refine lv_topi (fun y_14 ey_14 => ?_)
    have j_14 : y_14.toInt = (o_4 r_1.toNatClampNeg).toInt := congrArg Int32.toInt ey_14
    have n_15 : (r_1.toNatClampNeg : Int) = r_1.toInt := ki_nat _ rfl (om_10 i_13)
    have i_16 := w_1.2 r_1.toNatClampNeg (by omega)
    refine lv_iconst (v := 1) hx hb dX5_vote_27 (by decide) ?_
    refine lv_isub hx hb dX5_vote_28 ?_
    refine lv_topi (fun y_17 ey_17 => ?_)
    have i_17 : y_17.toInt = y_14.toInt - 1 := ki_sub ey_17 rfl rfl (om_379 j_14 i_16.1) (om_380 j_14 i_16.2)
    have hPc := hP.sub (ws' := []) [] rfl
    have hKc := hK.sub (tys' := []) [] rfl
    refine vp_callSi (W.runS (As := [.int p2, .int 0, .int y_17]) (rest := []) ⟨hx, hb, hml, hown, hts⟩ (c_X5_within l dC dI p2 0 y_17) (va_cwS 3 hts gX5_vote_X5_within rfl rfl rfl (by decide +kernel) ⟨Nat.le_of_ble_eq_true rfl, Nat.le_of_ble_eq_true rfl⟩) ⟨fun a U g mk q => by obtain ⟨q0, qP, qK⟩ := q; exact ⟨q0, qP, va_K.moved (u := U) (U := U.calling g mk a) (Vm.Alike.refl U.vm) qK⟩, fun U hU hW => ⟨rfl, by rw [hU]; exact hPc, va_K.moved hW.alike hKc⟩⟩ rfl rfl hl.1 rfl (lv_room (Nat.le_of_ble_eq_true rfl)) dX5_vote_29 ⟨Nat.le_of_ble_eq_true rfl, Nat.le_of_ble_eq_true rfl⟩) (fun r_18 w_18 => ?_)
    rcases w_18 with ⟨rfl, w_18⟩ | ⟨rfl, w_18⟩
    · have w_18 : (0 ≤ p2.toInt ∧ p2.toInt ≤ y_17.toInt) := w_18
      refine lv_if_eq (tgt := 45) hx hb dX5_vote_32 (by decide) (fun c_19 => ?_) (fun c_19 => ?_)
      · exact absurd c_19 (by decide)
      · refine lv_iload hx hb dX5_vote_35 (lv_at hl 5 rfl) ?_
        refine lv_iconst (v := 0) hx hb dX5_vote_37 (by decide) ?_
        refine lv_iconst (v := 1) hx hb dX5_vote_38 (by decide) ?_
        have hPc := hP.sub (ws' := []) [] rfl
        have hKc := hK.sub (tys' := []) [] rfl
        refine vp_callSi (W.runS (As := [.int p3, .int 0, .int 1]) (rest := []) ⟨hx, hb, hml, hown, hts⟩ (c_X5_within l dC dI p3 0 1) (va_cwS 3 hts gX5_vote_X5_within rfl rfl rfl (by decide +kernel) ⟨Nat.le_of_ble_eq_true rfl, Nat.le_of_ble_eq_true rfl⟩) ⟨fun a U g mk q => by obtain ⟨q0, qP, qK⟩ := q; exact ⟨q0, qP, va_K.moved (u := U) (U := U.calling g mk a) (Vm.Alike.refl U.vm) qK⟩, fun U hU hW => ⟨rfl, by rw [hU]; exact hPc, va_K.moved hW.alike hKc⟩⟩ rfl rfl hl.1 rfl (lv_room (Nat.le_of_ble_eq_true rfl)) dX5_vote_39 ⟨Nat.le_of_ble_eq_true rfl, Nat.le_of_ble_eq_true rfl⟩) (fun r_20 w_20 => ?_)
        rcases w_20 with ⟨rfl, w_20⟩ | ⟨rfl, w_20⟩
        · have w_20 : (0 ≤ p3.toInt ∧ p3.toInt ≤ 1) := w_20
          refine lv_if_ne (tgt := 47) hx hb dX5_vote_42 (by decide) (fun c_21 => ?_) (fun c_21 => ?_)
          · refine lv_aload_n hx hb dX5_vote_47 rfl (lv_at hl 1 rfl) ?_
            refine lv_iconst (v := 0) hx hb dX5_vote_48 (by decide) ?_
            refine va_put (D := (dC, dI)) (ci := 5) (v := .int 0) (ty := .int) (C := RX5) (T := TX5) (N := 30) hx hb hts hi_5 tyX5 tyX5_ok nmX5 hown hK hP hD hS 0 rfl rfl 3 (by decide) hf_77 (fun _ h9 => h9) rfl (by decide +kernel) rfl rfl (Nat.le_of_ble_eq_true rfl) dX5_vote_49 (fun H locs hP hD hS => ?_)
            obtain ⟨hP, hD⟩ := kx_re (w2 := [kx_5 h0 g_row m_n m_slots 0 g_many g_loss g_less g_voteValue g_voteNumber g_allValue g_allNumber o_3 g_nodeL g_nodeR o_2 g_part m_partMany g_wasMany g_wasLoss g_wasValue g_wasNumber g_path m_pathMany g_heavyValue g_heavyTimes m_heavyMany g_fewest g_which g_met m_mostMet, kx_a g_row cyI 160 f, kx_a g_many cyI 324 o_4, kx_a g_loss cyI 324 o_5, kx_a g_less cyI 324 o_6, kx_a g_voteValue cyI 1944 o_7, kx_a g_voteNumber cyI 1944 o_8, kx_a g_allValue cyI 12 o_9, kx_a g_allNumber cyI 12 o_10, kx_a g_nodeL cyI 320 o_11, kx_a g_nodeR cyI 320 o_12]) hP hD rfl
            refine lv_iload hx hb dX5_vote_52 (lv_at hl 5 rfl) ?_
            refine lv_if_ne (tgt := 72) hx hb dX5_vote_54 (by decide) (fun c_22 => ?_) (fun c_22 => ?_)
            · have i_22 : ¬ p3.toInt = 0 := kc_ne c_22
              refine lv_aload_n hx hb dX5_vote_72 rfl (lv_at hl 1 rfl) ?_
              refine va_get (D := (dC, dI)) (ci := 5) (v := .ref g_voteNumber) (C := RX5) (T := TX5) (N := 30) hx hb hts hi_5 hown hK hP 0 rfl rfl 8 (by decide) hf_29 (fun _ h9 => h9) rfl dX5_vote_73 ?_
              refine lv_bipush (v := 6) hx hb dX5_vote_76 (by decide) ?_
              refine lv_iload hx hb dX5_vote_78 (lv_at hl 0 rfl) ?_
              refine lv_imul hx hb dX5_vote_80 ?_
              refine lv_topi (fun y_23 ey_23 => ?_)
              have i_23 : y_23.toInt = 6 * r_1.toInt := ki_mul ey_23 rfl rfl (om_247 i_13) (by omega)
              refine lv_iload_n hx hb dX5_vote_81 rfl (lv_at hl 4 rfl) ?_
              refine lv_iadd hx hb dX5_vote_82 ?_
              refine lv_topi (fun y_24 ey_24 => ?_)
              have i_24 : y_24.toInt = y_23.toInt + p2.toInt := ki_add ey_24 rfl rfl (om_251 i_13 w_18.1 i_23) (by omega)
              refine va_iald hx hb hK hP 6 0 rfl rfl (ki_in (om_253 i_13 w_18.1 i_23 i_24) (by omega)) dX5_vote_83 ?_
              refine lv_topi (fun y_25 ey_25 => ?_)
              have j_25 : y_25.toInt = (o_8 y_24.toNatClampNeg).toInt := congrArg Int32.toInt ey_25
              have hP9 := hP
              have hD9 := hD
              have hK9 := hK
              exact W.iret (v := y_25) hx hb hr (hlocks := hlocks) (fun t ht hW => ⟨⟨y_25, (o_2, o_3, o_4, o_5, o_6, o_7, o_8, o_9, o_10, o_11, o_12, 0), rfl, w_1.2, by rw [ht]; exact hP9, va_K.moved hW.alike hK9, hD9⟩, hS.F ht⟩) hS.2.2 dX5_vote_84
            · have i_22 : p3.toInt = 0 := kc_eq c_22
              refine lv_aload_n hx hb dX5_vote_57 rfl (lv_at hl 1 rfl) ?_
              refine va_get (D := (dC, dI)) (ci := 5) (v := .ref g_voteValue) (C := RX5) (T := TX5) (N := 30) hx hb hts hi_5 hown hK hP 0 rfl rfl 7 (by decide) hf_26 (fun _ h9 => h9) rfl dX5_vote_58 ?_
              refine lv_bipush (v := 6) hx hb dX5_vote_61 (by decide) ?_
              refine lv_iload hx hb dX5_vote_63 (lv_at hl 0 rfl) ?_
              refine lv_imul hx hb dX5_vote_65 ?_
              refine lv_topi (fun y_26 ey_26 => ?_)
              have i_26 : y_26.toInt = 6 * r_1.toInt := ki_mul ey_26 rfl rfl (om_247 i_13) (by omega)
              refine lv_iload_n hx hb dX5_vote_66 rfl (lv_at hl 4 rfl) ?_
              refine lv_iadd hx hb dX5_vote_67 ?_
              refine lv_topi (fun y_27 ey_27 => ?_)
              have i_27 : y_27.toInt = y_26.toInt + p2.toInt := ki_add ey_27 rfl rfl (om_251 i_13 w_18.1 i_26) (by omega)
              refine va_iald hx hb hK hP 5 0 rfl rfl (ki_in (om_253 i_13 w_18.1 i_26 i_27) (by omega)) dX5_vote_68 ?_
              refine lv_topi (fun y_28 ey_28 => ?_)
              have j_28 : y_28.toInt = (o_7 y_27.toNatClampNeg).toInt := congrArg Int32.toInt ey_28
              refine lv_goto (tgt := 84) hx hb dX5_vote_69 (by decide) ?_
              have hP9 := hP
              have hD9 := hD
              have hK9 := hK
              exact W.iret (v := y_28) hx hb hr (hlocks := hlocks) (fun t ht hW => ⟨⟨y_28, (o_2, o_3, o_4, o_5, o_6, o_7, o_8, o_9, o_10, o_11, o_12, 0), rfl, w_1.2, by rw [ht]; exact hP9, va_K.moved hW.alike hK9, hD9⟩, hS.F ht⟩) hS.2.2 dX5_vote_84
          · exact absurd c_21 (by decide)
        · have w_20 : (p3.toInt < 0 ∨ 1 < p3.toInt) := w_20
          refine lv_if_ne (tgt := 47) hx hb dX5_vote_42 (by decide) (fun c_29 => ?_) (fun c_29 => ?_)
          · exact absurd c_29 (by decide)
          · refine lv_iconst (v := 0) hx hb dX5_vote_45 (by decide) ?_
            have hP9 := hP
            have hD9 := hD
            have hK9 := hK
            exact W.iret (v := 0) hx hb hr (hlocks := hlocks) (fun t ht hW => ⟨⟨0, (o_2, o_3, o_4, o_5, o_6, o_7, o_8, o_9, o_10, o_11, o_12, 1), rfl, w_1.2, by rw [ht]; exact hP9, va_K.moved hW.alike hK9, hD9⟩, hS.F ht⟩) hS.2.2 dX5_vote_46
    · have w_18 : (p2.toInt < 0 ∨ y_17.toInt < p2.toInt) := w_18
      refine lv_if_eq (tgt := 45) hx hb dX5_vote_32 (by decide) (fun c_30 => ?_) (fun c_30 => ?_)
      · refine lv_iconst (v := 0) hx hb dX5_vote_45 (by decide) ?_
        have hP9 := hP
        have hD9 := hD
        have hK9 := hK
        exact W.iret (v := 0) hx hb hr (hlocks := hlocks) (fun t ht hW => ⟨⟨0, (o_2, o_3, o_4, o_5, o_6, o_7, o_8, o_9, o_10, o_11, o_12, 1), rfl, w_1.2, by rw [ht]; exact hP9, va_K.moved hW.alike hK9, hD9⟩, hS.F ht⟩) hS.2.2 dX5_vote_46
      · exact absurd c_30 (by decide)

set_option maxHeartbeats 4000000 in
set_option maxRecDepth 100000 in
theorem c_X5_goesDown (l : Launch) (dC : Nat → ClassId) (dI : Nat → Nat → Nat) (h0 : Nat) (g_row : Nat) (g_many : Nat) (g_loss : Nat) (g_less : Nat) (g_voteValue : Nat) (g_voteNumber : Nat) (g_allValue : Nat) (g_allNumber : Nat) (g_nodeL : Nat) (g_nodeR : Nat) (g_part : Nat) (g_wasMany : Nat) (g_wasLoss : Nat) (g_wasValue : Nat) (g_wasNumber : Nat) (g_path : Nat) (g_heavyValue : Nat) (g_heavyTimes : Nat) (g_fewest : Nat) (g_which : Nat) (g_met : Nat) (m_n : Int32) (m_slots : Int32) (m_thrown : Int32) (m_allMany : Int32) (m_nodes : Int32) (m_partMany : Int32) (m_pathMany : Int32) (m_heavyMany : Int32) (m_mostMet : Int32) (cyI : ClassId) (fm : Nat → Int32) (fl : Nat → Int32) (fe : Nat → Int32) (vv : Nat → Int32) (vn : Nat → Int32) (f : Nat → Int32) (av : Nat → Int32) (an : Nat → Int32) (nl : Nat → Int32) (nr : Nat → Int32) (gw : Nat → Int32) (p0 : Int32) (sz : Nat) (a0 : 0 ≤ m_n.toInt) (a1 : m_n.toInt ≤ 160) (sl0 : 1 ≤ m_slots.toInt) (sl1 : m_slots.toInt ≤ 6) (s4 : six4 fm) : kx_MQ l (dC, dI) yX5_goesDown wsX5_goesDown ({ frames := 12, cells := 0, slots := 0, locals := 540 }) [.ref h0, .int p0] [kx_5 h0 g_row m_n m_slots m_thrown g_many g_loss g_less g_voteValue g_voteNumber g_allValue g_allNumber m_allMany g_nodeL g_nodeR m_nodes g_part m_partMany g_wasMany g_wasLoss g_wasValue g_wasNumber g_path m_pathMany g_heavyValue g_heavyTimes m_heavyMany g_fewest g_which g_met m_mostMet, kx_a g_row cyI 160 f, kx_a g_many cyI 324 fm, kx_a g_loss cyI 324 fl, kx_a g_less cyI 324 fe, kx_a g_voteValue cyI 1944 vv, kx_a g_voteNumber cyI 1944 vn, kx_a g_allValue cyI 12 av, kx_a g_allNumber cyI 12 an, kx_a g_nodeL cyI 320 nl, kx_a g_nodeR cyI 320 nr, kx_a g_path cyI 12 gw] [(cyI, .int)] sz (fun A => va_Qv (fun u : Int32 × Int32 × (Nat → Int32) × (Nat → Int32) × (Nat → Int32) × (Nat → Int32) × (Nat → Int32) × (Nat → Int32) × (Nat → Int32) × (Nat → Int32) × (Nat → Int32) × Int32 × (Nat → Int32) => six4 u.2.2.1 ∧ mj_L m_slots.toNatClampNeg f u.2.2.2.2.2.2.2.2.2.1 u.2.2.2.2.2.2.2.2.2.2.1 u.2.2.1 u.2.2.2.1 u.2.2.2.2.1 u.2.2.2.2.2.1 u.2.2.2.2.2.2.1 m_n.toInt u.1.toInt ∧ 0 ≤ u.1.toInt ∧ u.1.toInt ≤ 319 ∧ 0 ≤ u.2.2.2.2.2.2.2.2.2.2.2.1.toInt ∧ u.2.2.2.2.2.2.2.2.2.2.2.1.toInt ≤ 9 ∧ u.2.2.2.2.2.2.2.2.2.2.2.1.toInt = (mj_pc u.2.2.2.2.2.2.2.2.2.1 u.2.2.2.2.2.2.2.2.2.2.1 p0.toInt 0 u.1.toNatClampNeg : Int) ∧ pathOk u.2.2.2.2.2.2.2.2.2.2.2.2 u.2.2.2.2.2.2.2.2.2.2.2.1.toInt u.1.toInt ∧ mj_pw u.2.2.2.2.2.2.2.2.2.1 u.2.2.2.2.2.2.2.2.2.2.1 p0.toInt u.2.2.2.2.2.2.2.2.2.2.2.2 u.1.toNatClampNeg) (fun (u : Int32 × Int32 × (Nat → Int32) × (Nat → Int32) × (Nat → Int32) × (Nat → Int32) × (Nat → Int32) × (Nat → Int32) × (Nat → Int32) × (Nat → Int32) × (Nat → Int32) × Int32 × (Nat → Int32)) (t : State) => va_P (dC, dI) vwCl [kx_5 h0 g_row m_n m_slots m_thrown g_many g_loss g_less g_voteValue g_voteNumber g_allValue g_allNumber u.2.1 g_nodeL g_nodeR u.1 g_part m_partMany g_wasMany g_wasLoss g_wasValue g_wasNumber g_path u.2.2.2.2.2.2.2.2.2.2.2.1 g_heavyValue g_heavyTimes m_heavyMany g_fewest g_which g_met m_mostMet, kx_a g_row cyI 160 f, kx_a g_many cyI 324 u.2.2.1, kx_a g_loss cyI 324 u.2.2.2.1, kx_a g_less cyI 324 u.2.2.2.2.1, kx_a g_voteValue cyI 1944 u.2.2.2.2.2.1, kx_a g_voteNumber cyI 1944 u.2.2.2.2.2.2.1, kx_a g_allValue cyI 12 u.2.2.2.2.2.2.2.1, kx_a g_allNumber cyI 12 u.2.2.2.2.2.2.2.2.1, kx_a g_nodeL cyI 320 u.2.2.2.2.2.2.2.2.2.1, kx_a g_nodeR cyI 320 u.2.2.2.2.2.2.2.2.2.2.1, kx_a g_path cyI 12 u.2.2.2.2.2.2.2.2.2.2.2.2] t.heap ∧ va_K (dC, dI) vwCl [(cyI, .int)] t ∧ va_D A [kx_5 h0 g_row m_n m_slots m_thrown g_many g_loss g_less g_voteValue g_voteNumber g_allValue g_allNumber u.2.1 g_nodeL g_nodeR u.1 g_part m_partMany g_wasMany g_wasLoss g_wasValue g_wasNumber g_path u.2.2.2.2.2.2.2.2.2.2.2.1 g_heavyValue g_heavyTimes m_heavyMany g_fewest g_which g_met m_mostMet, kx_a g_row cyI 160 f, kx_a g_many cyI 324 u.2.2.1, kx_a g_loss cyI 324 u.2.2.2.1, kx_a g_less cyI 324 u.2.2.2.2.1, kx_a g_voteValue cyI 1944 u.2.2.2.2.2.1, kx_a g_voteNumber cyI 1944 u.2.2.2.2.2.2.1, kx_a g_allValue cyI 12 u.2.2.2.2.2.2.2.1, kx_a g_allNumber cyI 12 u.2.2.2.2.2.2.2.2.1, kx_a g_nodeL cyI 320 u.2.2.2.2.2.2.2.2.2.1, kx_a g_nodeR cyI 320 u.2.2.2.2.2.2.2.2.2.2.1, kx_a g_path cyI 12 u.2.2.2.2.2.2.2.2.2.2.2.2]) A) := by
  refine kx_stQ (ws := wsX5_goesDown) (cc := cX5_goesDown) (maxL := 3) (ret := none) (by decide) rfl (Nat.le_of_ble_eq_true rfl) ?_
  intro p e s m below meth c A ls hx hb hr hlocks hts hown hml hA hS hP hK hD hl
  have hown : s.vm.findClass RX5 = some m.cls := hown
  have hl : lv_has ls 3 [(0, .ref h0), (1, .int p0)] := hl
  have hf_13 := hts (.fieldLink RX5 13 "MajorityIndexModel" "slots" "I") (List.mem_of_getElem? (i := 1) rfl)
  have hi_5 : ∀ w ∈ u_ws RX5 TX5 30, w ∈ wsX5_goesDown := fun w h => List.mem_cons_of_mem _ (List.mem_append_right _ h)
  have hf_159 := hts (.fieldLink RX5 159 "MajorityIndexModel" "pathMany" "I") (List.mem_of_getElem? (i := 2) rfl)
  have hf_101 := hts (.fieldLink RX5 101 "MajorityIndexModel" "nodes" "I") (List.mem_of_getElem? (i := 3) rfl)
  have hf_38 := hts (.fieldLink RX5 38 "MajorityIndexModel" "nodeL" "[I") (List.mem_of_getElem? (i := 4) rfl)
  have hf_41 := hts (.fieldLink RX5 41 "MajorityIndexModel" "nodeR" "[I") (List.mem_of_getElem? (i := 5) rfl)
  have hf_59 := hts (.fieldLink RX5 59 "MajorityIndexModel" "path" "[I") (List.mem_of_getElem? (i := 6) rfl)
  refine lv_aload_n hx hb dX5_goesDown_0 rfl (lv_at hl 0 rfl) ?_
  refine lv_aload_n hx hb dX5_goesDown_1 rfl (lv_at hl 0 rfl) ?_
  refine va_get (D := (dC, dI)) (ci := 5) (v := .int m_slots) (C := RX5) (T := TX5) (N := 30) hx hb hts hi_5 hown hK hP 0 rfl rfl 2 (by decide) hf_13 (fun _ h9 => h9) rfl dX5_goesDown_2 ?_
  obtain ⟨hPc, hDc, hFc, hCc⟩ := kx_preM (wc := [kx_5 h0 g_row m_n m_slots m_thrown g_many g_loss g_less g_voteValue g_voteNumber g_allValue g_allNumber m_allMany g_nodeL g_nodeR m_nodes g_part m_partMany g_wasMany g_wasLoss g_wasValue g_wasNumber g_path m_pathMany g_heavyValue g_heavyTimes m_heavyMany g_fewest g_which g_met m_mostMet, kx_a g_row cyI 160 f, kx_a g_many cyI 324 fm, kx_a g_loss cyI 324 fl, kx_a g_less cyI 324 fe, kx_a g_voteValue cyI 1944 vv, kx_a g_voteNumber cyI 1944 vn, kx_a g_allValue cyI 12 av, kx_a g_allNumber cyI 12 an, kx_a g_nodeL cyI 320 nl, kx_a g_nodeR cyI 320 nr]) hP hD hS hA [true, true, true, true, true, true, true, true, true, true, true, false] rfl
  have hKc := hK
  refine va_callv (va_runV (As := [.int m_slots]) (rest := []) ⟨hx, hb, hml, hown, hts⟩ (kx_un (c_X5_laysAll l dC dI h0 g_row g_many g_loss g_less g_voteValue g_voteNumber g_allValue g_allNumber g_nodeL g_nodeR g_part g_wasMany g_wasLoss g_wasValue g_wasNumber g_path g_heavyValue g_heavyTimes g_fewest g_which g_met m_n m_slots m_thrown m_allMany m_nodes m_partMany m_pathMany m_heavyMany m_mostMet cyI fm fl fe vv vn f av an nl nr m_slots s.heap.size a0 a1 sl0 sl1 s4)) (cwV 1 hts gX5_goesDown_X5_laysAll rfl rfl rfl (by decide +kernel) ⟨Nat.le_of_ble_eq_true rfl, Nat.le_of_ble_eq_true rfl⟩) ⟨fun a U g mk q => by obtain ⟨q0, q1, qP, qK, qD⟩ := q; exact ⟨q0, q1, qP, va_K.moved (u := U) (U := U.calling g mk a) (Vm.Alike.refl U.vm) qK, qD⟩, kx_rc5 hKc hPc (q0 := 0) rfl, fun U hU hW => ⟨rfl, by rw [hU], by rw [hU]; exact hPc, va_K.moved hW.alike hKc, hDc.weaken (fun _ _ _ _ => trivial)⟩⟩ rfl rfl hl.1 rfl (lv_room (Nat.le_of_ble_eq_true rfl)) dX5_goesDown_5 ⟨Nat.le_of_ble_eq_true rfl, Nat.le_of_ble_eq_true rfl⟩) hS (fun q _ h => hFc q h) hFc (fun u t H1 locs ht hvm w_1 hB hz1 hk1 hS => ?_)
  obtain ⟨o_2, o_3, o_4, o_5, o_6, o_7, o_8, o_9, o_10, o_11, o_12⟩ := u
  dsimp only at w_1 hB
  obtain ⟨hP1, hK1, hD1⟩ := hB
  rw [ht] at hP1
  have hK1 := va_K.moved hvm.symm hK1
  obtain ⟨hP, hD⟩ := kx_joinM (w2 := [kx_5 h0 g_row m_n m_slots m_thrown g_many g_loss g_less g_voteValue g_voteNumber g_allValue g_allNumber o_3 g_nodeL g_nodeR o_2 g_part m_partMany g_wasMany g_wasLoss g_wasValue g_wasNumber g_path m_pathMany g_heavyValue g_heavyTimes m_heavyMany g_fewest g_which g_met m_mostMet, kx_a g_row cyI 160 f, kx_a g_many cyI 324 o_4, kx_a g_loss cyI 324 o_5, kx_a g_less cyI 324 o_6, kx_a g_voteValue cyI 1944 o_7, kx_a g_voteNumber cyI 1944 o_8, kx_a g_allValue cyI 12 o_9, kx_a g_allNumber cyI 12 o_10, kx_a g_nodeL cyI 320 o_11, kx_a g_nodeR cyI 320 o_12, kx_a g_path cyI 12 gw]) hP hD hP1 hD1 hk1 hFc [true, true, true, true, true, true, true, true, true, true, true, false] hCc rfl
  clear hP1 hD1 hK1 hk1 hz1 hFc hDc hPc hKc hCc
  generalize H1 = H at hP hS ⊢
  have w_1 : mj_L m_slots.toNatClampNeg f o_11 o_12 o_4 o_5 o_6 o_7 o_8 m_n.toInt o_2.toInt ∧ six4 o_4 ∧ 0 ≤ o_2.toInt ∧ o_2.toInt ≤ 319 := w_1
  refine lv_aload_n hx hb dX5_goesDown_8 rfl (lv_at hl 0 rfl) ?_
  refine lv_iconst (v := 0) hx hb dX5_goesDown_9 (by decide) ?_
  refine va_put (D := (dC, dI)) (ci := 5) (v := .int 0) (ty := .int) (C := RX5) (T := TX5) (N := 30) hx hb hts hi_5 tyX5 tyX5_ok nmX5 hown hK hP hD hS 0 rfl rfl 22 (by decide) hf_159 (fun _ h9 => h9) rfl (by decide +kernel) rfl rfl (Nat.le_of_ble_eq_true rfl) dX5_goesDown_10 (fun H locs hP hD hS => ?_)
  obtain ⟨hP, hD⟩ := kx_re (w2 := [kx_5 h0 g_row m_n m_slots m_thrown g_many g_loss g_less g_voteValue g_voteNumber g_allValue g_allNumber o_3 g_nodeL g_nodeR o_2 g_part m_partMany g_wasMany g_wasLoss g_wasValue g_wasNumber g_path 0 g_heavyValue g_heavyTimes m_heavyMany g_fewest g_which g_met m_mostMet, kx_a g_row cyI 160 f, kx_a g_many cyI 324 o_4, kx_a g_loss cyI 324 o_5, kx_a g_less cyI 324 o_6, kx_a g_voteValue cyI 1944 o_7, kx_a g_voteNumber cyI 1944 o_8, kx_a g_allValue cyI 12 o_9, kx_a g_allNumber cyI 12 o_10, kx_a g_nodeL cyI 320 o_11, kx_a g_nodeR cyI 320 o_12, kx_a g_path cyI 12 gw]) hP hD rfl
  have n_nd := ki_nat o_2 rfl (om_10 w_1.2.2.1)
  have hpc := fun k hk => mj_L_path w_1.1 p0.toInt k hk
  refine lv_iconst (v := 0) hx hb dX5_goesDown_13 (by decide) ?_
  refine lv_istore_n (lv' := [(2, .int 0), (0, .ref h0), (1, .int p0)]) hx hb dX5_goesDown_14 rfl hl (by decide) rfl (fun ls hl => ?_)
  have LP1 : ∀ (n : Nat) (i : Int32) (pm : Int32) (gx : Nat → Int32), (0 ≤ i.toInt) → (i.toInt ≤ o_2.toInt) → (pm.toInt = (mj_pc o_11 o_12 p0.toInt 0 i.toNatClampNeg : Int)) → (pathOk gx pm.toInt o_2.toInt) → (mj_pw o_11 o_12 p0.toInt gx i.toNatClampNeg) → (o_2.toInt - i.toInt).toNat < n → ∀ (H : Heap) (locs : List Loc), va_P (dC, dI) vwCl [kx_5 h0 g_row m_n m_slots m_thrown g_many g_loss g_less g_voteValue g_voteNumber g_allValue g_allNumber o_3 g_nodeL g_nodeR o_2 g_part m_partMany g_wasMany g_wasLoss g_wasValue g_wasNumber g_path pm g_heavyValue g_heavyTimes m_heavyMany g_fewest g_which g_met m_mostMet, kx_a g_row cyI 160 f, kx_a g_many cyI 324 o_4, kx_a g_loss cyI 324 o_5, kx_a g_less cyI 324 o_6, kx_a g_voteValue cyI 1944 o_7, kx_a g_voteNumber cyI 1944 o_8, kx_a g_allValue cyI 12 o_9, kx_a g_allNumber cyI 12 o_10, kx_a g_nodeL cyI 320 o_11, kx_a g_nodeR cyI 320 o_12, kx_a g_path cyI 12 gx] H → va_D A [kx_5 h0 g_row m_n m_slots m_thrown g_many g_loss g_less g_voteValue g_voteNumber g_allValue g_allNumber o_3 g_nodeL g_nodeR o_2 g_part m_partMany g_wasMany g_wasLoss g_wasValue g_wasNumber g_path pm g_heavyValue g_heavyTimes m_heavyMany g_fewest g_which g_met m_mostMet, kx_a g_row cyI 160 f, kx_a g_many cyI 324 o_4, kx_a g_loss cyI 324 o_5, kx_a g_less cyI 324 o_6, kx_a g_voteValue cyI 1944 o_7, kx_a g_voteNumber cyI 1944 o_8, kx_a g_allValue cyI 12 o_9, kx_a g_allNumber cyI 12 o_10, kx_a g_nodeL cyI 320 o_11, kx_a g_nodeR cyI 320 o_12, kx_a g_path cyI 12 gx] → va_S A s.heap H locs → ∀ (ls : Array Slot), lv_has ls 3 [(2, .int i), (0, .ref h0), (1, .int p0)] → W p l e (headSpec wsX5_goesDown ({ frames := 12, cells := 0, slots := 0, locals := 540 })).room s m ([.ref h0, .int p0] : List Value).toArray below meth c H locs 0 0 (MQ below (va_Qv (fun u : Int32 × Int32 × (Nat → Int32) × (Nat → Int32) × (Nat → Int32) × (Nat → Int32) × (Nat → Int32) × (Nat → Int32) × (Nat → Int32) × (Nat → Int32) × (Nat → Int32) × Int32 × (Nat → Int32) => six4 u.2.2.1 ∧ mj_L m_slots.toNatClampNeg f u.2.2.2.2.2.2.2.2.2.1 u.2.2.2.2.2.2.2.2.2.2.1 u.2.2.1 u.2.2.2.1 u.2.2.2.2.1 u.2.2.2.2.2.1 u.2.2.2.2.2.2.1 m_n.toInt u.1.toInt ∧ 0 ≤ u.1.toInt ∧ u.1.toInt ≤ 319 ∧ 0 ≤ u.2.2.2.2.2.2.2.2.2.2.2.1.toInt ∧ u.2.2.2.2.2.2.2.2.2.2.2.1.toInt ≤ 9 ∧ u.2.2.2.2.2.2.2.2.2.2.2.1.toInt = (mj_pc u.2.2.2.2.2.2.2.2.2.1 u.2.2.2.2.2.2.2.2.2.2.1 p0.toInt 0 u.1.toNatClampNeg : Int) ∧ pathOk u.2.2.2.2.2.2.2.2.2.2.2.2 u.2.2.2.2.2.2.2.2.2.2.2.1.toInt u.1.toInt ∧ mj_pw u.2.2.2.2.2.2.2.2.2.1 u.2.2.2.2.2.2.2.2.2.2.1 p0.toInt u.2.2.2.2.2.2.2.2.2.2.2.2 u.1.toNatClampNeg) (fun (u : Int32 × Int32 × (Nat → Int32) × (Nat → Int32) × (Nat → Int32) × (Nat → Int32) × (Nat → Int32) × (Nat → Int32) × (Nat → Int32) × (Nat → Int32) × (Nat → Int32) × Int32 × (Nat → Int32)) (t : State) => va_P (dC, dI) vwCl [kx_5 h0 g_row m_n m_slots m_thrown g_many g_loss g_less g_voteValue g_voteNumber g_allValue g_allNumber u.2.1 g_nodeL g_nodeR u.1 g_part m_partMany g_wasMany g_wasLoss g_wasValue g_wasNumber g_path u.2.2.2.2.2.2.2.2.2.2.2.1 g_heavyValue g_heavyTimes m_heavyMany g_fewest g_which g_met m_mostMet, kx_a g_row cyI 160 f, kx_a g_many cyI 324 u.2.2.1, kx_a g_loss cyI 324 u.2.2.2.1, kx_a g_less cyI 324 u.2.2.2.2.1, kx_a g_voteValue cyI 1944 u.2.2.2.2.2.1, kx_a g_voteNumber cyI 1944 u.2.2.2.2.2.2.1, kx_a g_allValue cyI 12 u.2.2.2.2.2.2.2.1, kx_a g_allNumber cyI 12 u.2.2.2.2.2.2.2.2.1, kx_a g_nodeL cyI 320 u.2.2.2.2.2.2.2.2.2.1, kx_a g_nodeR cyI 320 u.2.2.2.2.2.2.2.2.2.2.1, kx_a g_path cyI 12 u.2.2.2.2.2.2.2.2.2.2.2.2] t.heap ∧ va_K (dC, dI) vwCl [(cyI, .int)] t ∧ va_D A [kx_5 h0 g_row m_n m_slots m_thrown g_many g_loss g_less g_voteValue g_voteNumber g_allValue g_allNumber u.2.1 g_nodeL g_nodeR u.1 g_part m_partMany g_wasMany g_wasLoss g_wasValue g_wasNumber g_path u.2.2.2.2.2.2.2.2.2.2.2.1 g_heavyValue g_heavyTimes m_heavyMany g_fewest g_which g_met m_mostMet, kx_a g_row cyI 160 f, kx_a g_many cyI 324 u.2.2.1, kx_a g_loss cyI 324 u.2.2.2.1, kx_a g_less cyI 324 u.2.2.2.2.1, kx_a g_voteValue cyI 1944 u.2.2.2.2.2.1, kx_a g_voteNumber cyI 1944 u.2.2.2.2.2.2.1, kx_a g_allValue cyI 12 u.2.2.2.2.2.2.2.1, kx_a g_allNumber cyI 12 u.2.2.2.2.2.2.2.2.1, kx_a g_nodeL cyI 320 u.2.2.2.2.2.2.2.2.2.1, kx_a g_nodeR cyI 320 u.2.2.2.2.2.2.2.2.2.2.1, kx_a g_path cyI 12 u.2.2.2.2.2.2.2.2.2.2.2.2]) A) ([.ref h0, .int p0] : List Value).toArray s 0 0 A) (F0 m 15 ls []) := by
    intro n
    induction n with
    | zero => intro i pm gx LP1_h0 LP1_h1 LP1_h2 LP1_h3 LP1_h4 hn; exact absurd hn (Nat.not_lt_zero _)
    | succ n ih1 =>
      intro i pm gx LP1_h0 LP1_h1 LP1_h2 LP1_h3 LP1_h4 hn1 H locs hP hD hS ls hl
      have n_i := ki_nat i rfl (om_10 LP1_h0)
      have h9 := hpc i.toNatClampNeg (by omega)
      have n_pm := ki_nat pm rfl (om_144 LP1_h2 (Int.natCast_nonneg _))
      refine lv_iload_n hx hb dX5_goesDown_15 rfl (lv_at hl 0 rfl) ?_
      refine lv_aload_n hx hb dX5_goesDown_16 rfl (lv_at hl 1 rfl) ?_
      refine va_get (D := (dC, dI)) (ci := 5) (v := .int o_2) (C := RX5) (T := TX5) (N := 30) hx hb hts hi_5 hown hK hP 0 rfl rfl 14 (by decide) hf_101 (fun _ h9 => h9) rfl dX5_goesDown_17 ?_
      refine lv_icmp_ge (tgt := 72) hx hb dX5_goesDown_20 (by decide) (fun c_13 => ?_) (fun c_13 => ?_)
      · have i_13 : o_2.toInt ≤ i.toInt := kc_le c_13
        have hP9 := hP
        have hD9 := hD
        have hK9 := hK
        have e_i : i.toNatClampNeg = o_2.toNatClampNeg := by omega
        exact W.vret hx hb hr (hlocks := hlocks) (fun t ht hW => ⟨⟨(o_2, o_3, o_4, o_5, o_6, o_7, o_8, o_9, o_10, o_11, o_12, pm, gx), rfl, ⟨w_1.2.1, w_1.1, (by (try dsimp only); omega), (by (try dsimp only); omega), (by (try dsimp only); omega), (by (try dsimp only); omega), (by (try dsimp only); rw [← e_i]; exact LP1_h2), LP1_h3, (by (try dsimp only); rw [← e_i]; exact LP1_h4)⟩, by rw [ht]; exact hP9, va_K.moved hW.alike hK9, hD9⟩, hS.F ht⟩) hS.2.2 dX5_goesDown_72
      · have i_13 : i.toInt < o_2.toInt := kc_nle c_13
        refine lv_aload_n hx hb dX5_goesDown_23 rfl (lv_at hl 1 rfl) ?_
        refine va_get (D := (dC, dI)) (ci := 5) (v := .ref g_nodeL) (C := RX5) (T := TX5) (N := 30) hx hb hts hi_5 hown hK hP 0 rfl rfl 12 (by decide) hf_38 (fun _ h9 => h9) rfl dX5_goesDown_24 ?_
        refine lv_iload_n hx hb dX5_goesDown_27 rfl (lv_at hl 0 rfl) ?_
        refine va_iald hx hb hK hP 9 0 rfl rfl (ki_in (om_10 LP1_h0) (om_369 w_1.2.2.2 LP1_h1)) dX5_goesDown_28 ?_
        refine lv_topi (fun y_14 ey_14 => ?_)
        have j_14 : y_14.toInt = (o_11 i.toNatClampNeg).toInt := congrArg Int32.toInt ey_14
        refine lv_iload_n hx hb dX5_goesDown_29 rfl (lv_at hl 2 rfl) ?_
        refine lv_icmp_gt (tgt := 66) hx hb dX5_goesDown_30 (by decide) (fun c_15 => ?_) (fun c_15 => ?_)
        · have i_15 : p0.toInt < y_14.toInt := kc_lt c_15
          obtain ⟨x_16, ex_16⟩ : ∃ y : Int32, y = i + 1 := ⟨_, rfl⟩
          have i_16 : x_16.toInt = i.toInt + 1 := ki_add ex_16 rfl rfl (om_13 LP1_h0) (om_370 w_1.2.2.2 LP1_h1)
          refine lv_iinc (v := x_16) (lv' := [(2, .int x_16), (0, .ref h0), (1, .int p0)]) hx hb dX5_goesDown_66 hl (k := 0) rfl (by rw [ex_16]; rfl) (by decide) rfl (fun ls hl => ?_)
          refine lv_goto (tgt := 15) hx hb dX5_goesDown_69 (by decide) ?_
          have n_17 := ki_nat x_16 rfl (om_34 LP1_h0 i_16)
          have st := mj_pw_skip LP1_h4 (k2 := x_16.toNatClampNeg) (fun h => by unfold mj_has at h; omega) (by omega)
          exact ih1 x_16 pm gx (om_34 LP1_h0 i_16) (om_54 i_13 i_16) (by rw [st.2]; omega) LP1_h3 st.1 (om_mu hn1 (om_5 i_16) (om_6 i_13)) _ _ hP hD hS ls (lv_sub hl [0, 1, 2] rfl)
        · have i_15 : y_14.toInt ≤ p0.toInt := kc_nlt c_15
          refine lv_aload_n hx hb dX5_goesDown_33 rfl (lv_at hl 1 rfl) ?_
          refine va_get (D := (dC, dI)) (ci := 5) (v := .ref g_nodeR) (C := RX5) (T := TX5) (N := 30) hx hb hts hi_5 hown hK hP 0 rfl rfl 13 (by decide) hf_41 (fun _ h9 => h9) rfl dX5_goesDown_34 ?_
          refine lv_iload_n hx hb dX5_goesDown_37 rfl (lv_at hl 0 rfl) ?_
          refine va_iald hx hb hK hP 10 0 rfl rfl (ki_in (om_10 LP1_h0) (om_369 w_1.2.2.2 LP1_h1)) dX5_goesDown_38 ?_
          refine lv_topi (fun y_18 ey_18 => ?_)
          have j_18 : y_18.toInt = (o_12 i.toNatClampNeg).toInt := congrArg Int32.toInt ey_18
          refine lv_iload_n hx hb dX5_goesDown_39 rfl (lv_at hl 2 rfl) ?_
          refine lv_icmp_gt (tgt := 46) hx hb dX5_goesDown_40 (by decide) (fun c_19 => ?_) (fun c_19 => ?_)
          · have i_19 : p0.toInt < y_18.toInt := kc_lt c_19
            refine lv_aload_n hx hb dX5_goesDown_46 rfl (lv_at hl 1 rfl) ?_
            refine va_get (D := (dC, dI)) (ci := 5) (v := .ref g_path) (C := RX5) (T := TX5) (N := 30) hx hb hts hi_5 hown hK hP 0 rfl rfl 21 (by decide) hf_59 (fun _ h9 => h9) rfl dX5_goesDown_47 ?_
            refine lv_aload_n hx hb dX5_goesDown_50 rfl (lv_at hl 1 rfl) ?_
            refine va_get (D := (dC, dI)) (ci := 5) (v := .int pm) (C := RX5) (T := TX5) (N := 30) hx hb hts hi_5 hown hK hP 0 rfl rfl 22 (by decide) hf_159 (fun _ h9 => h9) rfl dX5_goesDown_51 ?_
            refine lv_iload_n hx hb dX5_goesDown_54 rfl (lv_at hl 0 rfl) ?_
            refine va_iast hx hb hK hP hD hS 11 0 rfl rfl (ki_in (om_144 LP1_h2 (Int.natCast_nonneg _)) (by omega)) dX5_goesDown_55 (fun H locs hP hD hS => ?_)
            obtain ⟨hP, hD⟩ := kx_re (w2 := [kx_5 h0 g_row m_n m_slots m_thrown g_many g_loss g_less g_voteValue g_voteNumber g_allValue g_allNumber o_3 g_nodeL g_nodeR o_2 g_part m_partMany g_wasMany g_wasLoss g_wasValue g_wasNumber g_path pm g_heavyValue g_heavyTimes m_heavyMany g_fewest g_which g_met m_mostMet, kx_a g_row cyI 160 f, kx_a g_many cyI 324 o_4, kx_a g_loss cyI 324 o_5, kx_a g_less cyI 324 o_6, kx_a g_voteValue cyI 1944 o_7, kx_a g_voteNumber cyI 1944 o_8, kx_a g_allValue cyI 12 o_9, kx_a g_allNumber cyI 12 o_10, kx_a g_nodeL cyI 320 o_11, kx_a g_nodeR cyI 320 o_12, kx_a g_path cyI 12 (upd gx pm.toNatClampNeg i)]) hP hD rfl
            refine lv_aload_n hx hb dX5_goesDown_56 rfl (lv_at hl 1 rfl) ?_
            refine lv_dup hx hb dX5_goesDown_57 rfl ?_
            refine va_get (D := (dC, dI)) (ci := 5) (v := .int pm) (C := RX5) (T := TX5) (N := 30) hx hb hts hi_5 hown hK hP 0 rfl rfl 22 (by decide) hf_159 (fun _ h9 => h9) rfl dX5_goesDown_58 ?_
            refine lv_iconst (v := 1) hx hb dX5_goesDown_61 (by decide) ?_
            refine lv_iadd hx hb dX5_goesDown_62 ?_
            refine lv_topi (fun y_20 ey_20 => ?_)
            have i_20 : y_20.toInt = pm.toInt + 1 := ki_add ey_20 rfl rfl (om_381 LP1_h2 (Int.natCast_nonneg _)) (by omega)
            refine va_put (D := (dC, dI)) (ci := 5) (v := .int y_20) (ty := .int) (C := RX5) (T := TX5) (N := 30) hx hb hts hi_5 tyX5 tyX5_ok nmX5 hown hK hP hD hS 0 rfl rfl 22 (by decide) hf_159 (fun _ h9 => h9) rfl (by decide +kernel) rfl rfl (Nat.le_of_ble_eq_true rfl) dX5_goesDown_63 (fun H locs hP hD hS => ?_)
            obtain ⟨hP, hD⟩ := kx_re (w2 := [kx_5 h0 g_row m_n m_slots m_thrown g_many g_loss g_less g_voteValue g_voteNumber g_allValue g_allNumber o_3 g_nodeL g_nodeR o_2 g_part m_partMany g_wasMany g_wasLoss g_wasValue g_wasNumber g_path y_20 g_heavyValue g_heavyTimes m_heavyMany g_fewest g_which g_met m_mostMet, kx_a g_row cyI 160 f, kx_a g_many cyI 324 o_4, kx_a g_loss cyI 324 o_5, kx_a g_less cyI 324 o_6, kx_a g_voteValue cyI 1944 o_7, kx_a g_voteNumber cyI 1944 o_8, kx_a g_allValue cyI 12 o_9, kx_a g_allNumber cyI 12 o_10, kx_a g_nodeL cyI 320 o_11, kx_a g_nodeR cyI 320 o_12, kx_a g_path cyI 12 (upd gx pm.toNatClampNeg i)]) hP hD rfl
            obtain ⟨x_21, ex_21⟩ : ∃ y : Int32, y = i + 1 := ⟨_, rfl⟩
            have i_21 : x_21.toInt = i.toInt + 1 := ki_add ex_21 rfl rfl (om_13 LP1_h0) (om_370 w_1.2.2.2 LP1_h1)
            refine lv_iinc (v := x_21) (lv' := [(2, .int x_21), (0, .ref h0), (1, .int p0)]) hx hb dX5_goesDown_66 hl (k := 0) rfl (by rw [ex_21]; rfl) (by decide) rfl (fun ls hl => ?_)
            refine lv_goto (tgt := 15) hx hb dX5_goesDown_69 (by decide) ?_
            have n_22 := ki_nat x_21 rfl (om_34 LP1_h0 i_21)
            have n_23 := ki_nat y_20 rfl (om_382 LP1_h2 i_20 (Int.natCast_nonneg _))
            have st := mj_pw_put LP1_h4 (q := pm.toNatClampNeg) (x := i) (k2 := x_21.toNatClampNeg) (by unfold mj_has; omega) (by omega) (by omega) (by omega)
            exact ih1 x_21 y_20 (upd gx pm.toNatClampNeg i) (om_34 LP1_h0 i_21) (om_54 i_13 i_21) (by rw [st.2]; omega) (pathOk_put LP1_h3 (by omega) (by omega) (by omega) (by omega)) st.1 (om_mu hn1 (om_5 i_21) (om_6 i_13)) _ _ hP hD hS ls (lv_sub hl [0, 1, 2] rfl)
          · have i_19 : y_18.toInt ≤ p0.toInt := kc_nlt c_19
            refine lv_goto (tgt := 66) hx hb dX5_goesDown_43 (by decide) ?_
            obtain ⟨x_24, ex_24⟩ : ∃ y : Int32, y = i + 1 := ⟨_, rfl⟩
            have i_24 : x_24.toInt = i.toInt + 1 := ki_add ex_24 rfl rfl (om_13 LP1_h0) (om_370 w_1.2.2.2 LP1_h1)
            refine lv_iinc (v := x_24) (lv' := [(2, .int x_24), (0, .ref h0), (1, .int p0)]) hx hb dX5_goesDown_66 hl (k := 0) rfl (by rw [ex_24]; rfl) (by decide) rfl (fun ls hl => ?_)
            refine lv_goto (tgt := 15) hx hb dX5_goesDown_69 (by decide) ?_
            have n_25 := ki_nat x_24 rfl (om_34 LP1_h0 i_24)
            have st := mj_pw_skip LP1_h4 (k2 := x_24.toNatClampNeg) (fun h => by unfold mj_has at h; omega) (by omega)
            exact ih1 x_24 pm gx (om_34 LP1_h0 i_24) (om_54 i_13 i_24) (by rw [st.2]; omega) LP1_h3 st.1 (om_mu hn1 (om_5 i_24) (om_6 i_13)) _ _ hP hD hS ls (lv_sub hl [0, 1, 2] rfl)
  have k_26 : (0 : Int32).toInt = 0 := rfl
  have k_27 : (0 : Int32).toInt = 0 := rfl
  exact LP1 ((o_2.toInt - 0 : Int).toNat + 1) 0 0 gw om_35 (om_10 w_1.2.2.1) rfl (pathOk_0 _ (by decide)) (mj_pw_0 _ _ _ _ rfl) (Nat.lt_succ_self _) _ _ hP hD hS ls (lv_sub hl [0, 1, 2] rfl)

set_option maxHeartbeats 4000000 in
set_option maxRecDepth 100000 in
theorem c_X5_above (l : Launch) (dC : Nat → ClassId) (dI : Nat → Nat → Nat) (h0 : Nat) (g_row : Nat) (g_many : Nat) (g_loss : Nat) (g_less : Nat) (g_voteValue : Nat) (g_voteNumber : Nat) (g_allValue : Nat) (g_allNumber : Nat) (g_nodeL : Nat) (g_nodeR : Nat) (g_part : Nat) (g_wasMany : Nat) (g_wasLoss : Nat) (g_wasValue : Nat) (g_wasNumber : Nat) (g_path : Nat) (g_heavyValue : Nat) (g_heavyTimes : Nat) (g_fewest : Nat) (g_which : Nat) (g_met : Nat) (m_n : Int32) (m_slots : Int32) (m_thrown : Int32) (m_allMany : Int32) (m_nodes : Int32) (m_partMany : Int32) (m_pathMany : Int32) (m_heavyMany : Int32) (m_mostMet : Int32) (cyI : ClassId) (fm : Nat → Int32) (fl : Nat → Int32) (fe : Nat → Int32) (vv : Nat → Int32) (vn : Nat → Int32) (f : Nat → Int32) (av : Nat → Int32) (an : Nat → Int32) (nl : Nat → Int32) (nr : Nat → Int32) (gw : Nat → Int32) (p0 : Int32) (p1 : Int32) (p2 : Int32) (sz : Nat) (a0 : 0 ≤ m_n.toInt) (a1 : m_n.toInt ≤ 160) (sl0 : 1 ≤ m_slots.toInt) (sl1 : m_slots.toInt ≤ 6) (s4 : six4 fm) : kx_MQ l (dC, dI) yX5_above wsX5_above ({ frames := 13, cells := 0, slots := 0, locals := 585 }) [.ref h0, .int p0, .int p1, .int p2] [kx_5 h0 g_row m_n m_slots m_thrown g_many g_loss g_less g_voteValue g_voteNumber g_allValue g_allNumber m_allMany g_nodeL g_nodeR m_nodes g_part m_partMany g_wasMany g_wasLoss g_wasValue g_wasNumber g_path m_pathMany g_heavyValue g_heavyTimes m_heavyMany g_fewest g_which g_met m_mostMet, kx_a g_row cyI 160 f, kx_a g_many cyI 324 fm, kx_a g_loss cyI 324 fl, kx_a g_less cyI 324 fe, kx_a g_voteValue cyI 1944 vv, kx_a g_voteNumber cyI 1944 vn, kx_a g_allValue cyI 12 av, kx_a g_allNumber cyI 12 an, kx_a g_nodeL cyI 320 nl, kx_a g_nodeR cyI 320 nr, kx_a g_path cyI 12 gw] [(cyI, .int)] sz (fun A => va_Qi (fun (r : Int32) (u : Int32 × Int32 × (Nat → Int32) × (Nat → Int32) × (Nat → Int32) × (Nat → Int32) × (Nat → Int32) × (Nat → Int32) × (Nat → Int32) × (Nat → Int32) × (Nat → Int32) × Int32 × (Nat → Int32)) => six4 u.2.2.1) (fun (u : Int32 × Int32 × (Nat → Int32) × (Nat → Int32) × (Nat → Int32) × (Nat → Int32) × (Nat → Int32) × (Nat → Int32) × (Nat → Int32) × (Nat → Int32) × (Nat → Int32) × Int32 × (Nat → Int32)) (t : State) => va_P (dC, dI) vwCl [kx_5 h0 g_row m_n m_slots 0 g_many g_loss g_less g_voteValue g_voteNumber g_allValue g_allNumber u.2.1 g_nodeL g_nodeR u.1 g_part m_partMany g_wasMany g_wasLoss g_wasValue g_wasNumber g_path u.2.2.2.2.2.2.2.2.2.2.2.1 g_heavyValue g_heavyTimes m_heavyMany g_fewest g_which g_met m_mostMet, kx_a g_row cyI 160 f, kx_a g_many cyI 324 u.2.2.1, kx_a g_loss cyI 324 u.2.2.2.1, kx_a g_less cyI 324 u.2.2.2.2.1, kx_a g_voteValue cyI 1944 u.2.2.2.2.2.1, kx_a g_voteNumber cyI 1944 u.2.2.2.2.2.2.1, kx_a g_allValue cyI 12 u.2.2.2.2.2.2.2.1, kx_a g_allNumber cyI 12 u.2.2.2.2.2.2.2.2.1, kx_a g_nodeL cyI 320 u.2.2.2.2.2.2.2.2.2.1, kx_a g_nodeR cyI 320 u.2.2.2.2.2.2.2.2.2.2.1, kx_a g_path cyI 12 u.2.2.2.2.2.2.2.2.2.2.2.2] t.heap ∧ va_K (dC, dI) vwCl [(cyI, .int)] t ∧ va_D A [kx_5 h0 g_row m_n m_slots 0 g_many g_loss g_less g_voteValue g_voteNumber g_allValue g_allNumber u.2.1 g_nodeL g_nodeR u.1 g_part m_partMany g_wasMany g_wasLoss g_wasValue g_wasNumber g_path u.2.2.2.2.2.2.2.2.2.2.2.1 g_heavyValue g_heavyTimes m_heavyMany g_fewest g_which g_met m_mostMet, kx_a g_row cyI 160 f, kx_a g_many cyI 324 u.2.2.1, kx_a g_loss cyI 324 u.2.2.2.1, kx_a g_less cyI 324 u.2.2.2.2.1, kx_a g_voteValue cyI 1944 u.2.2.2.2.2.1, kx_a g_voteNumber cyI 1944 u.2.2.2.2.2.2.1, kx_a g_allValue cyI 12 u.2.2.2.2.2.2.2.1, kx_a g_allNumber cyI 12 u.2.2.2.2.2.2.2.2.1, kx_a g_nodeL cyI 320 u.2.2.2.2.2.2.2.2.2.1, kx_a g_nodeR cyI 320 u.2.2.2.2.2.2.2.2.2.2.1, kx_a g_path cyI 12 u.2.2.2.2.2.2.2.2.2.2.2.2]) A) := by
  refine kx_stQ (ws := wsX5_above) (cc := cX5_above) (maxL := 4) (ret := (some .int)) (by decide) rfl (Nat.le_of_ble_eq_true rfl) ?_
  intro p e s m below meth c A ls hx hb hr hlocks hts hown hml hA hS hP hK hD hl
  have hown : s.vm.findClass RX5 = some m.cls := hown
  have hl : lv_has ls 4 [(0, .ref h0), (1, .int p0), (2, .int p1), (3, .int p2)] := hl
  have hf_77 := hts (.fieldLink RX5 77 "MajorityIndexModel" "thrown" "I") (List.mem_of_getElem? (i := 1) rfl)
  have hi_5 : ∀ w ∈ u_ws RX5 TX5 30, w ∈ wsX5_above := fun w h => List.mem_cons_of_mem _ (List.mem_append_right _ h)
  have hf_159 := hts (.fieldLink RX5 159 "MajorityIndexModel" "pathMany" "I") (List.mem_of_getElem? (i := 2) rfl)
  have hf_59 := hts (.fieldLink RX5 59 "MajorityIndexModel" "path" "[I") (List.mem_of_getElem? (i := 4) rfl)
  have hf_7 := hts (.fieldLink RX5 7 "MajorityIndexModel" "row" "[I") (List.mem_of_getElem? (i := 6) rfl)
  have hf_41 := hts (.fieldLink RX5 41 "MajorityIndexModel" "nodeR" "[I") (List.mem_of_getElem? (i := 5) rfl)
  have hf_38 := hts (.fieldLink RX5 38 "MajorityIndexModel" "nodeL" "[I") (List.mem_of_getElem? (i := 3) rfl)
  refine lv_aload_n hx hb dX5_above_0 rfl (lv_at hl 0 rfl) ?_
  refine lv_iconst (v := 0) hx hb dX5_above_1 (by decide) ?_
  refine va_put (D := (dC, dI)) (ci := 5) (v := .int 0) (ty := .int) (C := RX5) (T := TX5) (N := 30) hx hb hts hi_5 tyX5 tyX5_ok nmX5 hown hK hP hD hS 0 rfl rfl 3 (by decide) hf_77 (fun _ h9 => h9) rfl (by decide +kernel) rfl rfl (Nat.le_of_ble_eq_true rfl) dX5_above_2 (fun H locs hP hD hS => ?_)
  obtain ⟨hP, hD⟩ := kx_re (w2 := [kx_5 h0 g_row m_n m_slots 0 g_many g_loss g_less g_voteValue g_voteNumber g_allValue g_allNumber m_allMany g_nodeL g_nodeR m_nodes g_part m_partMany g_wasMany g_wasLoss g_wasValue g_wasNumber g_path m_pathMany g_heavyValue g_heavyTimes m_heavyMany g_fewest g_which g_met m_mostMet, kx_a g_row cyI 160 f, kx_a g_many cyI 324 fm, kx_a g_loss cyI 324 fl, kx_a g_less cyI 324 fe, kx_a g_voteValue cyI 1944 vv, kx_a g_voteNumber cyI 1944 vn, kx_a g_allValue cyI 12 av, kx_a g_allNumber cyI 12 an, kx_a g_nodeL cyI 320 nl, kx_a g_nodeR cyI 320 nr, kx_a g_path cyI 12 gw]) hP hD rfl
  refine lv_aload_n hx hb dX5_above_5 rfl (lv_at hl 0 rfl) ?_
  refine lv_iload_n hx hb dX5_above_6 rfl (lv_at hl 1 rfl) ?_
  have hPc := hP.sub (ws' := [kx_5 h0 g_row m_n m_slots 0 g_many g_loss g_less g_voteValue g_voteNumber g_allValue g_allNumber m_allMany g_nodeL g_nodeR m_nodes g_part m_partMany g_wasMany g_wasLoss g_wasValue g_wasNumber g_path m_pathMany g_heavyValue g_heavyTimes m_heavyMany g_fewest g_which g_met m_mostMet]) [0] rfl
  have hKc := hK.sub (tys' := []) [] rfl
  refine vp_callSi (W.runV (As := [.int p0]) (rest := []) ⟨hx, hb, hml, hown, hts⟩ (c_X5_isPlace l dC dI h0 g_row g_many g_loss g_less g_voteValue g_voteNumber g_allValue g_allNumber g_nodeL g_nodeR g_part g_wasMany g_wasLoss g_wasValue g_wasNumber g_path g_heavyValue g_heavyTimes g_fewest g_which g_met m_n m_slots 0 m_allMany m_nodes m_partMany m_pathMany m_heavyMany m_mostMet p0 a0 a1) (cwV 1 hts gX5_above_X5_isPlace rfl rfl rfl (by decide +kernel) ⟨Nat.le_of_ble_eq_true rfl, Nat.le_of_ble_eq_true rfl⟩) ⟨fun a U g mk q => by obtain ⟨q0, qP, qK⟩ := q; exact ⟨q0, qP, va_K.moved (u := U) (U := U.calling g mk a) (Vm.Alike.refl U.vm) qK⟩, kx_rc5 hKc hPc (q0 := 0) rfl, fun U hU hW => ⟨rfl, by rw [hU]; exact hPc, va_K.moved hW.alike hKc⟩⟩ rfl rfl hl.1 rfl (lv_room (Nat.le_of_ble_eq_true rfl)) dX5_above_7 ⟨Nat.le_of_ble_eq_true rfl, Nat.le_of_ble_eq_true rfl⟩) (fun r_1 w_1 => ?_)
  rcases w_1 with ⟨rfl, w_1⟩ | ⟨rfl, w_1⟩
  · have w_1 : (0 ≤ p0.toInt ∧ p0.toInt < m_n.toInt) := w_1
    refine lv_if_eq (tgt := 22) hx hb dX5_above_10 (by decide) (fun c_2 => ?_) (fun c_2 => ?_)
    · exact absurd c_2 (by decide)
    · refine lv_iload_n hx hb dX5_above_13 rfl (lv_at hl 3 rfl) ?_
      refine lv_iconst (v := 0) hx hb dX5_above_14 (by decide) ?_
      refine lv_iconst (v := 2) hx hb dX5_above_15 (by decide) ?_
      have hPc := hP.sub (ws' := []) [] rfl
      have hKc := hK.sub (tys' := []) [] rfl
      refine vp_callSi (W.runS (As := [.int p2, .int 0, .int 2]) (rest := []) ⟨hx, hb, hml, hown, hts⟩ (c_X5_within l dC dI p2 0 2) (va_cwS 3 hts gX5_above_X5_within rfl rfl rfl (by decide +kernel) ⟨Nat.le_of_ble_eq_true rfl, Nat.le_of_ble_eq_true rfl⟩) ⟨fun a U g mk q => by obtain ⟨q0, qP, qK⟩ := q; exact ⟨q0, qP, va_K.moved (u := U) (U := U.calling g mk a) (Vm.Alike.refl U.vm) qK⟩, fun U hU hW => ⟨rfl, by rw [hU]; exact hPc, va_K.moved hW.alike hKc⟩⟩ rfl rfl hl.1 rfl (lv_room (Nat.le_of_ble_eq_true rfl)) dX5_above_16 ⟨Nat.le_of_ble_eq_true rfl, Nat.le_of_ble_eq_true rfl⟩) (fun r_3 w_3 => ?_)
      rcases w_3 with ⟨rfl, w_3⟩ | ⟨rfl, w_3⟩
      · have w_3 : (0 ≤ p2.toInt ∧ p2.toInt ≤ 2) := w_3
        refine lv_if_ne (tgt := 24) hx hb dX5_above_19 (by decide) (fun c_4 => ?_) (fun c_4 => ?_)
        · refine lv_aload_n hx hb dX5_above_24 rfl (lv_at hl 0 rfl) ?_
          refine lv_iload_n hx hb dX5_above_25 rfl (lv_at hl 1 rfl) ?_
          have hPc := hP
          have hKc := hK
          have hDc := hD
          have hFc := kx_free hD hS hA
          refine va_callv (va_runV (As := [.int p0]) (rest := []) ⟨hx, hb, hml, hown, hts⟩ (kx_un (c_X5_goesDown l dC dI h0 g_row g_many g_loss g_less g_voteValue g_voteNumber g_allValue g_allNumber g_nodeL g_nodeR g_part g_wasMany g_wasLoss g_wasValue g_wasNumber g_path g_heavyValue g_heavyTimes g_fewest g_which g_met m_n m_slots 0 m_allMany m_nodes m_partMany m_pathMany m_heavyMany m_mostMet cyI fm fl fe vv vn f av an nl nr gw p0 H.size a0 a1 sl0 sl1 s4)) (cwV 1 hts gX5_above_X5_goesDown rfl rfl rfl (by decide +kernel) ⟨Nat.le_of_ble_eq_true rfl, Nat.le_of_ble_eq_true rfl⟩) ⟨fun a U g mk q => by obtain ⟨q0, q1, qP, qK, qD⟩ := q; exact ⟨q0, q1, qP, va_K.moved (u := U) (U := U.calling g mk a) (Vm.Alike.refl U.vm) qK, qD⟩, kx_rc5 hKc hPc (q0 := 0) rfl, fun U hU hW => ⟨rfl, by rw [hU], by rw [hU]; exact hPc, va_K.moved hW.alike hKc, hDc.weaken (fun _ _ _ _ => trivial)⟩⟩ rfl rfl hl.1 rfl (lv_room (Nat.le_of_ble_eq_true rfl)) dX5_above_26 ⟨Nat.le_of_ble_eq_true rfl, Nat.le_of_ble_eq_true rfl⟩) hS (fun q _ h => hFc q h) hFc (fun u t H1 locs ht hvm w_5 hB hz1 hk1 hS => ?_)
          obtain ⟨o_6, o_7, o_8, o_9, o_10, o_11, o_12, o_13, o_14, o_15, o_16, o_17, o_18⟩ := u
          dsimp only at w_5 hB
          obtain ⟨hP1, hK1, hD1⟩ := hB
          rw [ht] at hP1
          have hK1 := va_K.moved hvm.symm hK1
          have hD := hD1.weaken (fun _ q _ h => hFc q.1 h)
          have hP := hP1
          clear hP1 hD1 hK1 hk1 hz1 hFc hDc hPc hKc
          generalize H1 = H at hP hS ⊢
          have w_5 : six4 o_8 ∧ mj_L m_slots.toNatClampNeg f o_15 o_16 o_8 o_9 o_10 o_11 o_12 m_n.toInt o_6.toInt ∧ 0 ≤ o_6.toInt ∧ o_6.toInt ≤ 319 ∧ 0 ≤ o_17.toInt ∧ o_17.toInt ≤ 9 ∧ o_17.toInt = (mj_pc o_15 o_16 p0.toInt 0 o_6.toNatClampNeg : Int) ∧ pathOk o_18 o_17.toInt o_6.toInt ∧ mj_pw o_15 o_16 p0.toInt o_18 o_6.toNatClampNeg := w_5
          refine lv_iload_n hx hb dX5_above_29 rfl (lv_at hl 2 rfl) ?_
          refine lv_iconst (v := (-1)) hx hb dX5_above_30 (by decide) ?_
          refine lv_icmp_ne (tgt := 39) hx hb dX5_above_31 (by decide) (fun c_19 => ?_) (fun c_19 => ?_)
          · have i_19 : ¬ p1.toInt = (-1) := kc_ne c_19
            refine lv_iload_n hx hb dX5_above_39 rfl (lv_at hl 2 rfl) ?_
            refine lv_iconst (v := 0) hx hb dX5_above_40 (by decide) ?_
            refine lv_aload_n hx hb dX5_above_41 rfl (lv_at hl 0 rfl) ?_
            refine va_get (D := (dC, dI)) (ci := 5) (v := .int o_17) (C := RX5) (T := TX5) (N := 30) hx hb hts hi_5 hown hK hP 0 rfl rfl 22 (by decide) hf_159 (fun _ h9 => h9) rfl dX5_above_42 ?_
            refine lv_iconst (v := 1) hx hb dX5_above_45 (by decide) ?_
            refine lv_isub hx hb dX5_above_46 ?_
            refine lv_topi (fun y_20 ey_20 => ?_)
            have i_20 : y_20.toInt = o_17.toInt - 1 := ki_sub ey_20 rfl rfl (om_113 w_5.2.2.2.2.1) (om_383 w_5.2.2.2.2.2.1)
            have hPc := hP.sub (ws' := []) [] rfl
            have hKc := hK.sub (tys' := []) [] rfl
            refine vp_callSi (W.runS (As := [.int p1, .int 0, .int y_20]) (rest := []) ⟨hx, hb, hml, hown, hts⟩ (c_X5_within l dC dI p1 0 y_20) (va_cwS 3 hts gX5_above_X5_within rfl rfl rfl (by decide +kernel) ⟨Nat.le_of_ble_eq_true rfl, Nat.le_of_ble_eq_true rfl⟩) ⟨fun a U g mk q => by obtain ⟨q0, qP, qK⟩ := q; exact ⟨q0, qP, va_K.moved (u := U) (U := U.calling g mk a) (Vm.Alike.refl U.vm) qK⟩, fun U hU hW => ⟨rfl, by rw [hU]; exact hPc, va_K.moved hW.alike hKc⟩⟩ rfl rfl hl.1 rfl (lv_room (Nat.le_of_ble_eq_true rfl)) dX5_above_47 ⟨Nat.le_of_ble_eq_true rfl, Nat.le_of_ble_eq_true rfl⟩) (fun r_21 w_21 => ?_)
            rcases w_21 with ⟨rfl, w_21⟩ | ⟨rfl, w_21⟩
            · have w_21 : (0 ≤ p1.toInt ∧ p1.toInt ≤ y_20.toInt) := w_21
              refine lv_if_ne (tgt := 55) hx hb dX5_above_50 (by decide) (fun c_22 => ?_) (fun c_22 => ?_)
              · refine lv_iload_n hx hb dX5_above_55 rfl (lv_at hl 3 rfl) ?_
                refine lv_if_ne (tgt := 73) hx hb dX5_above_56 (by decide) (fun c_23 => ?_) (fun c_23 => ?_)
                · have i_23 : ¬ p2.toInt = 0 := kc_ne c_23
                  refine lv_iload_n hx hb dX5_above_73 rfl (lv_at hl 3 rfl) ?_
                  refine lv_iconst (v := 1) hx hb dX5_above_74 (by decide) ?_
                  refine lv_icmp_ne (tgt := 92) hx hb dX5_above_75 (by decide) (fun c_24 => ?_) (fun c_24 => ?_)
                  · have i_24 : ¬ p2.toInt = 1 := kc_ne c_24
                    refine lv_aload_n hx hb dX5_above_92 rfl (lv_at hl 0 rfl) ?_
                    refine lv_aload_n hx hb dX5_above_93 rfl (lv_at hl 0 rfl) ?_
                    refine va_get (D := (dC, dI)) (ci := 5) (v := .ref g_path) (C := RX5) (T := TX5) (N := 30) hx hb hts hi_5 hown hK hP 0 rfl rfl 21 (by decide) hf_59 (fun _ h9 => h9) rfl dX5_above_94 ?_
                    refine lv_iload_n hx hb dX5_above_97 rfl (lv_at hl 2 rfl) ?_
                    refine va_iald hx hb hK hP 11 0 rfl rfl (ki_in (om_10 w_21.1) (om_384 w_5.2.2.2.2.2.1 i_20 w_21.2)) dX5_above_98 ?_
                    refine lv_topi (fun y_25 ey_25 => ?_)
                    have j_25 : y_25.toInt = (o_18 p1.toNatClampNeg).toInt := congrArg Int32.toInt ey_25
                    have n_26 : (p1.toNatClampNeg : Int) = p1.toInt := ki_nat _ rfl (om_10 w_21.1)
                    have i_27 := w_5.2.2.2.2.2.2.2.1 p1.toNatClampNeg (by omega)
                    refine lv_aload_n hx hb dX5_above_99 rfl (lv_at hl 0 rfl) ?_
                    refine va_get (D := (dC, dI)) (ci := 5) (v := .ref g_row) (C := RX5) (T := TX5) (N := 30) hx hb hts hi_5 hown hK hP 0 rfl rfl 0 (by decide) hf_7 (fun _ h9 => h9) rfl dX5_above_100 ?_
                    refine lv_iload_n hx hb dX5_above_103 rfl (lv_at hl 1 rfl) ?_
                    refine va_iald hx hb hK hP 1 0 rfl rfl (ki_in (om_10 w_1.1) (om_1 a1 w_1.2)) dX5_above_104 ?_
                    refine lv_topi (fun y_28 ey_28 => ?_)
                    have j_28 : y_28.toInt = (f p0.toNatClampNeg).toInt := congrArg Int32.toInt ey_28
                    have hPc := hP.sub (ws' := [kx_5 h0 g_row m_n m_slots 0 g_many g_loss g_less g_voteValue g_voteNumber g_allValue g_allNumber o_7 g_nodeL g_nodeR o_6 g_part m_partMany g_wasMany g_wasLoss g_wasValue g_wasNumber g_path o_17 g_heavyValue g_heavyTimes m_heavyMany g_fewest g_which g_met m_mostMet, kx_a g_many cyI 324 o_8, kx_a g_voteValue cyI 1944 o_11, kx_a g_voteNumber cyI 1944 o_12]) [0, 2, 5, 6] rfl
                    have hKc := hK
                    refine vp_callSi (W.runV (As := [.int y_25, .int y_28]) (rest := []) ⟨hx, hb, hml, hown, hts⟩ (c_X5_numberOf l dC dI h0 g_row g_many g_loss g_less g_voteValue g_voteNumber g_allValue g_allNumber g_nodeL g_nodeR g_part g_wasMany g_wasLoss g_wasValue g_wasNumber g_path g_heavyValue g_heavyTimes g_fewest g_which g_met m_n m_slots 0 o_7 o_6 m_partMany o_17 m_heavyMany m_mostMet cyI o_8 o_11 o_12 y_25 y_28 (by omega) (by omega) w_5.1) (cwV 2 hts gX5_above_X5_numberOf rfl rfl rfl (by decide +kernel) ⟨Nat.le_of_ble_eq_true rfl, Nat.le_of_ble_eq_true rfl⟩) ⟨fun a U g mk q => by obtain ⟨q0, qP, qK⟩ := q; exact ⟨q0, qP, va_K.moved (u := U) (U := U.calling g mk a) (Vm.Alike.refl U.vm) qK⟩, kx_rc5 hKc hPc (q0 := 0) rfl, fun U hU hW => ⟨rfl, by rw [hU]; exact hPc, va_K.moved hW.alike hKc⟩⟩ rfl rfl hl.1 rfl (lv_room (Nat.le_of_ble_eq_true rfl)) dX5_above_105 ⟨Nat.le_of_ble_eq_true rfl, Nat.le_of_ble_eq_true rfl⟩) (fun r_29 w_29 => ?_)
                    have hP9 := hP
                    have hD9 := hD
                    have hK9 := hK
                    exact W.iret (v := r_29) hx hb hr (hlocks := hlocks) (fun t ht hW => ⟨⟨r_29, (o_6, o_7, o_8, o_9, o_10, o_11, o_12, o_13, o_14, o_15, o_16, o_17, o_18), rfl, w_5.1, by rw [ht]; exact hP9, va_K.moved hW.alike hK9, hD9⟩, hS.F ht⟩) hS.2.2 dX5_above_108
                  · have i_24 : p2.toInt = 1 := kc_eq c_24
                    refine lv_aload_n hx hb dX5_above_78 rfl (lv_at hl 0 rfl) ?_
                    refine va_get (D := (dC, dI)) (ci := 5) (v := .ref g_nodeR) (C := RX5) (T := TX5) (N := 30) hx hb hts hi_5 hown hK hP 0 rfl rfl 13 (by decide) hf_41 (fun _ h9 => h9) rfl dX5_above_79 ?_
                    refine lv_aload_n hx hb dX5_above_82 rfl (lv_at hl 0 rfl) ?_
                    refine va_get (D := (dC, dI)) (ci := 5) (v := .ref g_path) (C := RX5) (T := TX5) (N := 30) hx hb hts hi_5 hown hK hP 0 rfl rfl 21 (by decide) hf_59 (fun _ h9 => h9) rfl dX5_above_83 ?_
                    refine lv_iload_n hx hb dX5_above_86 rfl (lv_at hl 2 rfl) ?_
                    refine va_iald hx hb hK hP 11 0 rfl rfl (ki_in (om_10 w_21.1) (om_384 w_5.2.2.2.2.2.1 i_20 w_21.2)) dX5_above_87 ?_
                    refine lv_topi (fun y_30 ey_30 => ?_)
                    have j_30 : y_30.toInt = (o_18 p1.toNatClampNeg).toInt := congrArg Int32.toInt ey_30
                    have n_31 : (p1.toNatClampNeg : Int) = p1.toInt := ki_nat _ rfl (om_10 w_21.1)
                    have i_32 := w_5.2.2.2.2.2.2.2.1 p1.toNatClampNeg (by omega)
                    refine va_iald hx hb hK hP 10 0 rfl rfl (ki_in (by omega) (by omega)) dX5_above_88 ?_
                    refine lv_topi (fun y_33 ey_33 => ?_)
                    have j_33 : y_33.toInt = (o_16 y_30.toNatClampNeg).toInt := congrArg Int32.toInt ey_33
                    refine lv_goto (tgt := 108) hx hb dX5_above_89 (by decide) ?_
                    have hP9 := hP
                    have hD9 := hD
                    have hK9 := hK
                    exact W.iret (v := y_33) hx hb hr (hlocks := hlocks) (fun t ht hW => ⟨⟨y_33, (o_6, o_7, o_8, o_9, o_10, o_11, o_12, o_13, o_14, o_15, o_16, o_17, o_18), rfl, w_5.1, by rw [ht]; exact hP9, va_K.moved hW.alike hK9, hD9⟩, hS.F ht⟩) hS.2.2 dX5_above_108
                · have i_23 : p2.toInt = 0 := kc_eq c_23
                  refine lv_aload_n hx hb dX5_above_59 rfl (lv_at hl 0 rfl) ?_
                  refine va_get (D := (dC, dI)) (ci := 5) (v := .ref g_nodeL) (C := RX5) (T := TX5) (N := 30) hx hb hts hi_5 hown hK hP 0 rfl rfl 12 (by decide) hf_38 (fun _ h9 => h9) rfl dX5_above_60 ?_
                  refine lv_aload_n hx hb dX5_above_63 rfl (lv_at hl 0 rfl) ?_
                  refine va_get (D := (dC, dI)) (ci := 5) (v := .ref g_path) (C := RX5) (T := TX5) (N := 30) hx hb hts hi_5 hown hK hP 0 rfl rfl 21 (by decide) hf_59 (fun _ h9 => h9) rfl dX5_above_64 ?_
                  refine lv_iload_n hx hb dX5_above_67 rfl (lv_at hl 2 rfl) ?_
                  refine va_iald hx hb hK hP 11 0 rfl rfl (ki_in (om_10 w_21.1) (om_384 w_5.2.2.2.2.2.1 i_20 w_21.2)) dX5_above_68 ?_
                  refine lv_topi (fun y_34 ey_34 => ?_)
                  have j_34 : y_34.toInt = (o_18 p1.toNatClampNeg).toInt := congrArg Int32.toInt ey_34
                  have n_35 : (p1.toNatClampNeg : Int) = p1.toInt := ki_nat _ rfl (om_10 w_21.1)
                  have i_36 := w_5.2.2.2.2.2.2.2.1 p1.toNatClampNeg (by omega)
                  refine va_iald hx hb hK hP 9 0 rfl rfl (ki_in (by omega) (by omega)) dX5_above_69 ?_
                  refine lv_topi (fun y_37 ey_37 => ?_)
                  have j_37 : y_37.toInt = (o_15 y_34.toNatClampNeg).toInt := congrArg Int32.toInt ey_37
                  refine lv_goto (tgt := 108) hx hb dX5_above_70 (by decide) ?_
                  have hP9 := hP
                  have hD9 := hD
                  have hK9 := hK
                  exact W.iret (v := y_37) hx hb hr (hlocks := hlocks) (fun t ht hW => ⟨⟨y_37, (o_6, o_7, o_8, o_9, o_10, o_11, o_12, o_13, o_14, o_15, o_16, o_17, o_18), rfl, w_5.1, by rw [ht]; exact hP9, va_K.moved hW.alike hK9, hD9⟩, hS.F ht⟩) hS.2.2 dX5_above_108
              · exact absurd c_22 (by decide)
            · have w_21 : (p1.toInt < 0 ∨ y_20.toInt < p1.toInt) := w_21
              refine lv_if_ne (tgt := 55) hx hb dX5_above_50 (by decide) (fun c_38 => ?_) (fun c_38 => ?_)
              · exact absurd c_38 (by decide)
              · refine lv_iconst (v := (-1)) hx hb dX5_above_53 (by decide) ?_
                have hP9 := hP
                have hD9 := hD
                have hK9 := hK
                exact W.iret (v := (-1)) hx hb hr (hlocks := hlocks) (fun t ht hW => ⟨⟨(-1), (o_6, o_7, o_8, o_9, o_10, o_11, o_12, o_13, o_14, o_15, o_16, o_17, o_18), rfl, w_5.1, by rw [ht]; exact hP9, va_K.moved hW.alike hK9, hD9⟩, hS.F ht⟩) hS.2.2 dX5_above_54
          · have i_19 : p1.toInt = (-1) := kc_eq c_19
            refine lv_aload_n hx hb dX5_above_34 rfl (lv_at hl 0 rfl) ?_
            refine va_get (D := (dC, dI)) (ci := 5) (v := .int o_17) (C := RX5) (T := TX5) (N := 30) hx hb hts hi_5 hown hK hP 0 rfl rfl 22 (by decide) hf_159 (fun _ h9 => h9) rfl dX5_above_35 ?_
            have hP9 := hP
            have hD9 := hD
            have hK9 := hK
            exact W.iret (v := o_17) hx hb hr (hlocks := hlocks) (fun t ht hW => ⟨⟨o_17, (o_6, o_7, o_8, o_9, o_10, o_11, o_12, o_13, o_14, o_15, o_16, o_17, o_18), rfl, w_5.1, by rw [ht]; exact hP9, va_K.moved hW.alike hK9, hD9⟩, hS.F ht⟩) hS.2.2 dX5_above_38
        · exact absurd c_4 (by decide)
      · have w_3 : (p2.toInt < 0 ∨ 2 < p2.toInt) := w_3
        refine lv_if_ne (tgt := 24) hx hb dX5_above_19 (by decide) (fun c_39 => ?_) (fun c_39 => ?_)
        · exact absurd c_39 (by decide)
        · refine lv_iconst (v := (-1)) hx hb dX5_above_22 (by decide) ?_
          have hP9 := hP
          have hD9 := hD
          have hK9 := hK
          exact W.iret (v := (-1)) hx hb hr (hlocks := hlocks) (fun t ht hW => ⟨⟨(-1), (m_nodes, m_allMany, fm, fl, fe, vv, vn, av, an, nl, nr, m_pathMany, gw), rfl, s4, by rw [ht]; exact hP9, va_K.moved hW.alike hK9, hD9⟩, hS.F ht⟩) hS.2.2 dX5_above_23
  · have w_1 : (p0.toInt < 0 ∨ m_n.toInt ≤ p0.toInt) := w_1
    refine lv_if_eq (tgt := 22) hx hb dX5_above_10 (by decide) (fun c_40 => ?_) (fun c_40 => ?_)
    · refine lv_iconst (v := (-1)) hx hb dX5_above_22 (by decide) ?_
      have hP9 := hP
      have hD9 := hD
      have hK9 := hK
      exact W.iret (v := (-1)) hx hb hr (hlocks := hlocks) (fun t ht hW => ⟨⟨(-1), (m_nodes, m_allMany, fm, fl, fe, vv, vn, av, an, nl, nr, m_pathMany, gw), rfl, s4, by rw [ht]; exact hP9, va_K.moved hW.alike hK9, hD9⟩, hS.F ht⟩) hS.2.2 dX5_above_23
    · exact absurd c_40 (by decide)

set_option maxHeartbeats 4000000 in
set_option maxRecDepth 100000 in
theorem c_X5_holds (l : Launch) (dC : Nat → ClassId) (dI : Nat → Nat → Nat) (h0 : Nat) (g_row : Nat) (g_many : Nat) (g_loss : Nat) (g_less : Nat) (g_voteValue : Nat) (g_voteNumber : Nat) (g_allValue : Nat) (g_allNumber : Nat) (g_nodeL : Nat) (g_nodeR : Nat) (g_part : Nat) (g_wasMany : Nat) (g_wasLoss : Nat) (g_wasValue : Nat) (g_wasNumber : Nat) (g_path : Nat) (g_heavyValue : Nat) (g_heavyTimes : Nat) (g_fewest : Nat) (g_which : Nat) (g_met : Nat) (m_n : Int32) (m_slots : Int32) (m_thrown : Int32) (m_allMany : Int32) (m_nodes : Int32) (m_partMany : Int32) (m_pathMany : Int32) (m_heavyMany : Int32) (m_mostMet : Int32) (cyI : ClassId) (fm : Nat → Int32) (fl : Nat → Int32) (fe : Nat → Int32) (vv : Nat → Int32) (vn : Nat → Int32) (f : Nat → Int32) (av : Nat → Int32) (an : Nat → Int32) (nl : Nat → Int32) (nr : Nat → Int32) (gw : Nat → Int32) (p0 : Int32) (sz : Nat) (a0 : 0 ≤ m_n.toInt) (a1 : m_n.toInt ≤ 160) (sl0 : 1 ≤ m_slots.toInt) (sl1 : m_slots.toInt ≤ 6) (s4 : six4 fm) : kx_MQ l (dC, dI) yX5_holds wsX5_holds ({ frames := 13, cells := 0, slots := 0, locals := 585 }) [.ref h0, .int p0] [kx_5 h0 g_row m_n m_slots m_thrown g_many g_loss g_less g_voteValue g_voteNumber g_allValue g_allNumber m_allMany g_nodeL g_nodeR m_nodes g_part m_partMany g_wasMany g_wasLoss g_wasValue g_wasNumber g_path m_pathMany g_heavyValue g_heavyTimes m_heavyMany g_fewest g_which g_met m_mostMet, kx_a g_row cyI 160 f, kx_a g_many cyI 324 fm, kx_a g_loss cyI 324 fl, kx_a g_less cyI 324 fe, kx_a g_voteValue cyI 1944 vv, kx_a g_voteNumber cyI 1944 vn, kx_a g_allValue cyI 12 av, kx_a g_allNumber cyI 12 an, kx_a g_nodeL cyI 320 nl, kx_a g_nodeR cyI 320 nr, kx_a g_path cyI 12 gw] [(cyI, .int)] sz (fun A => va_Qi (fun (r : Int32) (u : Int32 × Int32 × (Nat → Int32) × (Nat → Int32) × (Nat → Int32) × (Nat → Int32) × (Nat → Int32) × (Nat → Int32) × (Nat → Int32) × (Nat → Int32) × (Nat → Int32) × Int32 × (Nat → Int32)) => six4 u.2.2.1) (fun (u : Int32 × Int32 × (Nat → Int32) × (Nat → Int32) × (Nat → Int32) × (Nat → Int32) × (Nat → Int32) × (Nat → Int32) × (Nat → Int32) × (Nat → Int32) × (Nat → Int32) × Int32 × (Nat → Int32)) (t : State) => va_P (dC, dI) vwCl [kx_5 h0 g_row m_n m_slots 0 g_many g_loss g_less g_voteValue g_voteNumber g_allValue g_allNumber u.2.1 g_nodeL g_nodeR u.1 g_part m_partMany g_wasMany g_wasLoss g_wasValue g_wasNumber g_path u.2.2.2.2.2.2.2.2.2.2.2.1 g_heavyValue g_heavyTimes m_heavyMany g_fewest g_which g_met m_mostMet, kx_a g_row cyI 160 f, kx_a g_many cyI 324 u.2.2.1, kx_a g_loss cyI 324 u.2.2.2.1, kx_a g_less cyI 324 u.2.2.2.2.1, kx_a g_voteValue cyI 1944 u.2.2.2.2.2.1, kx_a g_voteNumber cyI 1944 u.2.2.2.2.2.2.1, kx_a g_allValue cyI 12 u.2.2.2.2.2.2.2.1, kx_a g_allNumber cyI 12 u.2.2.2.2.2.2.2.2.1, kx_a g_nodeL cyI 320 u.2.2.2.2.2.2.2.2.2.1, kx_a g_nodeR cyI 320 u.2.2.2.2.2.2.2.2.2.2.1, kx_a g_path cyI 12 u.2.2.2.2.2.2.2.2.2.2.2.2] t.heap ∧ va_K (dC, dI) vwCl [(cyI, .int)] t ∧ va_D A [kx_5 h0 g_row m_n m_slots 0 g_many g_loss g_less g_voteValue g_voteNumber g_allValue g_allNumber u.2.1 g_nodeL g_nodeR u.1 g_part m_partMany g_wasMany g_wasLoss g_wasValue g_wasNumber g_path u.2.2.2.2.2.2.2.2.2.2.2.1 g_heavyValue g_heavyTimes m_heavyMany g_fewest g_which g_met m_mostMet, kx_a g_row cyI 160 f, kx_a g_many cyI 324 u.2.2.1, kx_a g_loss cyI 324 u.2.2.2.1, kx_a g_less cyI 324 u.2.2.2.2.1, kx_a g_voteValue cyI 1944 u.2.2.2.2.2.1, kx_a g_voteNumber cyI 1944 u.2.2.2.2.2.2.1, kx_a g_allValue cyI 12 u.2.2.2.2.2.2.2.1, kx_a g_allNumber cyI 12 u.2.2.2.2.2.2.2.2.1, kx_a g_nodeL cyI 320 u.2.2.2.2.2.2.2.2.2.1, kx_a g_nodeR cyI 320 u.2.2.2.2.2.2.2.2.2.2.1, kx_a g_path cyI 12 u.2.2.2.2.2.2.2.2.2.2.2.2]) A) := by
  refine kx_stQ (ws := wsX5_holds) (cc := cX5_holds) (maxL := 3) (ret := (some .int)) (by decide) rfl (Nat.le_of_ble_eq_true rfl) ?_
  intro p e s m below meth c A ls hx hb hr hlocks hts hown hml hA hS hP hK hD hl
  have hown : s.vm.findClass RX5 = some m.cls := hown
  have hl : lv_has ls 3 [(0, .ref h0), (1, .int p0)] := hl
  have hf_77 := hts (.fieldLink RX5 77 "MajorityIndexModel" "thrown" "I") (List.mem_of_getElem? (i := 1) rfl)
  have hi_5 : ∀ w ∈ u_ws RX5 TX5 30, w ∈ wsX5_holds := fun w h => List.mem_cons_of_mem _ (List.mem_append_right _ h)
  have hf_159 := hts (.fieldLink RX5 159 "MajorityIndexModel" "pathMany" "I") (List.mem_of_getElem? (i := 2) rfl)
  have hf_59 := hts (.fieldLink RX5 59 "MajorityIndexModel" "path" "[I") (List.mem_of_getElem? (i := 3) rfl)
  have hf_7 := hts (.fieldLink RX5 7 "MajorityIndexModel" "row" "[I") (List.mem_of_getElem? (i := 4) rfl)
  refine lv_aload_n hx hb dX5_holds_0 rfl (lv_at hl 0 rfl) ?_
  refine lv_iconst (v := 0) hx hb dX5_holds_1 (by decide) ?_
  refine va_put (D := (dC, dI)) (ci := 5) (v := .int 0) (ty := .int) (C := RX5) (T := TX5) (N := 30) hx hb hts hi_5 tyX5 tyX5_ok nmX5 hown hK hP hD hS 0 rfl rfl 3 (by decide) hf_77 (fun _ h9 => h9) rfl (by decide +kernel) rfl rfl (Nat.le_of_ble_eq_true rfl) dX5_holds_2 (fun H locs hP hD hS => ?_)
  obtain ⟨hP, hD⟩ := kx_re (w2 := [kx_5 h0 g_row m_n m_slots 0 g_many g_loss g_less g_voteValue g_voteNumber g_allValue g_allNumber m_allMany g_nodeL g_nodeR m_nodes g_part m_partMany g_wasMany g_wasLoss g_wasValue g_wasNumber g_path m_pathMany g_heavyValue g_heavyTimes m_heavyMany g_fewest g_which g_met m_mostMet, kx_a g_row cyI 160 f, kx_a g_many cyI 324 fm, kx_a g_loss cyI 324 fl, kx_a g_less cyI 324 fe, kx_a g_voteValue cyI 1944 vv, kx_a g_voteNumber cyI 1944 vn, kx_a g_allValue cyI 12 av, kx_a g_allNumber cyI 12 an, kx_a g_nodeL cyI 320 nl, kx_a g_nodeR cyI 320 nr, kx_a g_path cyI 12 gw]) hP hD rfl
  refine lv_aload_n hx hb dX5_holds_5 rfl (lv_at hl 0 rfl) ?_
  refine lv_iload_n hx hb dX5_holds_6 rfl (lv_at hl 1 rfl) ?_
  have hPc := hP.sub (ws' := [kx_5 h0 g_row m_n m_slots 0 g_many g_loss g_less g_voteValue g_voteNumber g_allValue g_allNumber m_allMany g_nodeL g_nodeR m_nodes g_part m_partMany g_wasMany g_wasLoss g_wasValue g_wasNumber g_path m_pathMany g_heavyValue g_heavyTimes m_heavyMany g_fewest g_which g_met m_mostMet]) [0] rfl
  have hKc := hK.sub (tys' := []) [] rfl
  refine vp_callSi (W.runV (As := [.int p0]) (rest := []) ⟨hx, hb, hml, hown, hts⟩ (c_X5_isPlace l dC dI h0 g_row g_many g_loss g_less g_voteValue g_voteNumber g_allValue g_allNumber g_nodeL g_nodeR g_part g_wasMany g_wasLoss g_wasValue g_wasNumber g_path g_heavyValue g_heavyTimes g_fewest g_which g_met m_n m_slots 0 m_allMany m_nodes m_partMany m_pathMany m_heavyMany m_mostMet p0 a0 a1) (cwV 1 hts gX5_holds_X5_isPlace rfl rfl rfl (by decide +kernel) ⟨Nat.le_of_ble_eq_true rfl, Nat.le_of_ble_eq_true rfl⟩) ⟨fun a U g mk q => by obtain ⟨q0, qP, qK⟩ := q; exact ⟨q0, qP, va_K.moved (u := U) (U := U.calling g mk a) (Vm.Alike.refl U.vm) qK⟩, kx_rc5 hKc hPc (q0 := 0) rfl, fun U hU hW => ⟨rfl, by rw [hU]; exact hPc, va_K.moved hW.alike hKc⟩⟩ rfl rfl hl.1 rfl (lv_room (Nat.le_of_ble_eq_true rfl)) dX5_holds_7 ⟨Nat.le_of_ble_eq_true rfl, Nat.le_of_ble_eq_true rfl⟩) (fun r_1 w_1 => ?_)
  rcases w_1 with ⟨rfl, w_1⟩ | ⟨rfl, w_1⟩
  · have w_1 : (0 ≤ p0.toInt ∧ p0.toInt < m_n.toInt) := w_1
    refine lv_if_ne (tgt := 15) hx hb dX5_holds_10 (by decide) (fun c_2 => ?_) (fun c_2 => ?_)
    · refine lv_aload_n hx hb dX5_holds_15 rfl (lv_at hl 0 rfl) ?_
      refine lv_iload_n hx hb dX5_holds_16 rfl (lv_at hl 1 rfl) ?_
      have hPc := hP
      have hKc := hK
      have hDc := hD
      have hFc := kx_free hD hS hA
      refine va_callv (va_runV (As := [.int p0]) (rest := []) ⟨hx, hb, hml, hown, hts⟩ (kx_un (c_X5_goesDown l dC dI h0 g_row g_many g_loss g_less g_voteValue g_voteNumber g_allValue g_allNumber g_nodeL g_nodeR g_part g_wasMany g_wasLoss g_wasValue g_wasNumber g_path g_heavyValue g_heavyTimes g_fewest g_which g_met m_n m_slots 0 m_allMany m_nodes m_partMany m_pathMany m_heavyMany m_mostMet cyI fm fl fe vv vn f av an nl nr gw p0 H.size a0 a1 sl0 sl1 s4)) (cwV 1 hts gX5_holds_X5_goesDown rfl rfl rfl (by decide +kernel) ⟨Nat.le_of_ble_eq_true rfl, Nat.le_of_ble_eq_true rfl⟩) ⟨fun a U g mk q => by obtain ⟨q0, q1, qP, qK, qD⟩ := q; exact ⟨q0, q1, qP, va_K.moved (u := U) (U := U.calling g mk a) (Vm.Alike.refl U.vm) qK, qD⟩, kx_rc5 hKc hPc (q0 := 0) rfl, fun U hU hW => ⟨rfl, by rw [hU], by rw [hU]; exact hPc, va_K.moved hW.alike hKc, hDc.weaken (fun _ _ _ _ => trivial)⟩⟩ rfl rfl hl.1 rfl (lv_room (Nat.le_of_ble_eq_true rfl)) dX5_holds_17 ⟨Nat.le_of_ble_eq_true rfl, Nat.le_of_ble_eq_true rfl⟩) hS (fun q _ h => hFc q h) hFc (fun u t H1 locs ht hvm w_3 hB hz1 hk1 hS => ?_)
      obtain ⟨o_4, o_5, o_6, o_7, o_8, o_9, o_10, o_11, o_12, o_13, o_14, o_15, o_16⟩ := u
      dsimp only at w_3 hB
      obtain ⟨hP1, hK1, hD1⟩ := hB
      rw [ht] at hP1
      have hK1 := va_K.moved hvm.symm hK1
      have hD := hD1.weaken (fun _ q _ h => hFc q.1 h)
      have hP := hP1
      clear hP1 hD1 hK1 hk1 hz1 hFc hDc hPc hKc
      generalize H1 = H at hP hS ⊢
      have w_3 : six4 o_6 ∧ mj_L m_slots.toNatClampNeg f o_13 o_14 o_6 o_7 o_8 o_9 o_10 m_n.toInt o_4.toInt ∧ 0 ≤ o_4.toInt ∧ o_4.toInt ≤ 319 ∧ 0 ≤ o_15.toInt ∧ o_15.toInt ≤ 9 ∧ o_15.toInt = (mj_pc o_13 o_14 p0.toInt 0 o_4.toNatClampNeg : Int) ∧ pathOk o_16 o_15.toInt o_4.toInt ∧ mj_pw o_13 o_14 p0.toInt o_16 o_4.toNatClampNeg := w_3
      refine lv_iconst (v := 0) hx hb dX5_holds_20 (by decide) ?_
      refine lv_istore_n (lv' := [(2, .int 0), (0, .ref h0), (1, .int p0)]) hx hb dX5_holds_21 rfl hl (by decide) rfl (fun ls hl => ?_)
      have LP1 : ∀ (n : Nat) (sm : Int32), (0 ≤ sm.toInt) → (sm.toInt ≤ o_15.toInt) → (o_15.toInt - sm.toInt).toNat < n → ∀ (H : Heap) (locs : List Loc), va_P (dC, dI) vwCl [kx_5 h0 g_row m_n m_slots 0 g_many g_loss g_less g_voteValue g_voteNumber g_allValue g_allNumber o_5 g_nodeL g_nodeR o_4 g_part m_partMany g_wasMany g_wasLoss g_wasValue g_wasNumber g_path o_15 g_heavyValue g_heavyTimes m_heavyMany g_fewest g_which g_met m_mostMet, kx_a g_row cyI 160 f, kx_a g_many cyI 324 o_6, kx_a g_loss cyI 324 o_7, kx_a g_less cyI 324 o_8, kx_a g_voteValue cyI 1944 o_9, kx_a g_voteNumber cyI 1944 o_10, kx_a g_allValue cyI 12 o_11, kx_a g_allNumber cyI 12 o_12, kx_a g_nodeL cyI 320 o_13, kx_a g_nodeR cyI 320 o_14, kx_a g_path cyI 12 o_16] H → va_D A [kx_5 h0 g_row m_n m_slots 0 g_many g_loss g_less g_voteValue g_voteNumber g_allValue g_allNumber o_5 g_nodeL g_nodeR o_4 g_part m_partMany g_wasMany g_wasLoss g_wasValue g_wasNumber g_path o_15 g_heavyValue g_heavyTimes m_heavyMany g_fewest g_which g_met m_mostMet, kx_a g_row cyI 160 f, kx_a g_many cyI 324 o_6, kx_a g_loss cyI 324 o_7, kx_a g_less cyI 324 o_8, kx_a g_voteValue cyI 1944 o_9, kx_a g_voteNumber cyI 1944 o_10, kx_a g_allValue cyI 12 o_11, kx_a g_allNumber cyI 12 o_12, kx_a g_nodeL cyI 320 o_13, kx_a g_nodeR cyI 320 o_14, kx_a g_path cyI 12 o_16] → va_S A s.heap H locs → ∀ (ls : Array Slot), lv_has ls 3 [(2, .int sm), (0, .ref h0), (1, .int p0)] → W p l e (headSpec wsX5_holds ({ frames := 13, cells := 0, slots := 0, locals := 585 })).room s m ([.ref h0, .int p0] : List Value).toArray below meth c H locs 0 0 (MQ below (va_Qi (fun (r : Int32) (u : Int32 × Int32 × (Nat → Int32) × (Nat → Int32) × (Nat → Int32) × (Nat → Int32) × (Nat → Int32) × (Nat → Int32) × (Nat → Int32) × (Nat → Int32) × (Nat → Int32) × Int32 × (Nat → Int32)) => six4 u.2.2.1) (fun (u : Int32 × Int32 × (Nat → Int32) × (Nat → Int32) × (Nat → Int32) × (Nat → Int32) × (Nat → Int32) × (Nat → Int32) × (Nat → Int32) × (Nat → Int32) × (Nat → Int32) × Int32 × (Nat → Int32)) (t : State) => va_P (dC, dI) vwCl [kx_5 h0 g_row m_n m_slots 0 g_many g_loss g_less g_voteValue g_voteNumber g_allValue g_allNumber u.2.1 g_nodeL g_nodeR u.1 g_part m_partMany g_wasMany g_wasLoss g_wasValue g_wasNumber g_path u.2.2.2.2.2.2.2.2.2.2.2.1 g_heavyValue g_heavyTimes m_heavyMany g_fewest g_which g_met m_mostMet, kx_a g_row cyI 160 f, kx_a g_many cyI 324 u.2.2.1, kx_a g_loss cyI 324 u.2.2.2.1, kx_a g_less cyI 324 u.2.2.2.2.1, kx_a g_voteValue cyI 1944 u.2.2.2.2.2.1, kx_a g_voteNumber cyI 1944 u.2.2.2.2.2.2.1, kx_a g_allValue cyI 12 u.2.2.2.2.2.2.2.1, kx_a g_allNumber cyI 12 u.2.2.2.2.2.2.2.2.1, kx_a g_nodeL cyI 320 u.2.2.2.2.2.2.2.2.2.1, kx_a g_nodeR cyI 320 u.2.2.2.2.2.2.2.2.2.2.1, kx_a g_path cyI 12 u.2.2.2.2.2.2.2.2.2.2.2.2] t.heap ∧ va_K (dC, dI) vwCl [(cyI, .int)] t ∧ va_D A [kx_5 h0 g_row m_n m_slots 0 g_many g_loss g_less g_voteValue g_voteNumber g_allValue g_allNumber u.2.1 g_nodeL g_nodeR u.1 g_part m_partMany g_wasMany g_wasLoss g_wasValue g_wasNumber g_path u.2.2.2.2.2.2.2.2.2.2.2.1 g_heavyValue g_heavyTimes m_heavyMany g_fewest g_which g_met m_mostMet, kx_a g_row cyI 160 f, kx_a g_many cyI 324 u.2.2.1, kx_a g_loss cyI 324 u.2.2.2.1, kx_a g_less cyI 324 u.2.2.2.2.1, kx_a g_voteValue cyI 1944 u.2.2.2.2.2.1, kx_a g_voteNumber cyI 1944 u.2.2.2.2.2.2.1, kx_a g_allValue cyI 12 u.2.2.2.2.2.2.2.1, kx_a g_allNumber cyI 12 u.2.2.2.2.2.2.2.2.1, kx_a g_nodeL cyI 320 u.2.2.2.2.2.2.2.2.2.1, kx_a g_nodeR cyI 320 u.2.2.2.2.2.2.2.2.2.2.1, kx_a g_path cyI 12 u.2.2.2.2.2.2.2.2.2.2.2.2]) A) ([.ref h0, .int p0] : List Value).toArray s 0 0 A) (F0 m 22 ls []) := by
        intro n
        induction n with
        | zero => intro sm LP1_h0 LP1_h1 hn; exact absurd hn (Nat.not_lt_zero _)
        | succ n ih1 =>
          intro sm LP1_h0 LP1_h1 hn1 H locs hP hD hS ls hl
          refine lv_iload_n hx hb dX5_holds_22 rfl (lv_at hl 0 rfl) ?_
          refine lv_aload_n hx hb dX5_holds_23 rfl (lv_at hl 1 rfl) ?_
          refine va_get (D := (dC, dI)) (ci := 5) (v := .int o_15) (C := RX5) (T := TX5) (N := 30) hx hb hts hi_5 hown hK hP 0 rfl rfl 22 (by decide) hf_159 (fun _ h9 => h9) rfl dX5_holds_24 ?_
          refine lv_icmp_ge (tgt := 62) hx hb dX5_holds_27 (by decide) (fun c_17 => ?_) (fun c_17 => ?_)
          · have i_17 : o_15.toInt ≤ sm.toInt := kc_le c_17
            refine lv_iload_n hx hb dX5_holds_62 rfl (lv_at hl 0 rfl) ?_
            have hP9 := hP
            have hD9 := hD
            have hK9 := hK
            exact W.iret (v := sm) hx hb hr (hlocks := hlocks) (fun t ht hW => ⟨⟨sm, (o_4, o_5, o_6, o_7, o_8, o_9, o_10, o_11, o_12, o_13, o_14, o_15, o_16), rfl, w_3.1, by rw [ht]; exact hP9, va_K.moved hW.alike hK9, hD9⟩, hS.F ht⟩) hS.2.2 dX5_holds_63
          · have i_17 : sm.toInt < o_15.toInt := kc_nle c_17
            refine lv_aload_n hx hb dX5_holds_30 rfl (lv_at hl 1 rfl) ?_
            refine lv_aload_n hx hb dX5_holds_31 rfl (lv_at hl 1 rfl) ?_
            refine va_get (D := (dC, dI)) (ci := 5) (v := .ref g_path) (C := RX5) (T := TX5) (N := 30) hx hb hts hi_5 hown hK hP 0 rfl rfl 21 (by decide) hf_59 (fun _ h9 => h9) rfl dX5_holds_32 ?_
            refine lv_aload_n hx hb dX5_holds_35 rfl (lv_at hl 1 rfl) ?_
            refine va_get (D := (dC, dI)) (ci := 5) (v := .int o_15) (C := RX5) (T := TX5) (N := 30) hx hb hts hi_5 hown hK hP 0 rfl rfl 22 (by decide) hf_159 (fun _ h9 => h9) rfl dX5_holds_36 ?_
            refine lv_iconst (v := 1) hx hb dX5_holds_39 (by decide) ?_
            refine lv_isub hx hb dX5_holds_40 ?_
            refine lv_topi (fun y_18 ey_18 => ?_)
            have i_18 : y_18.toInt = o_15.toInt - 1 := ki_sub ey_18 rfl rfl (om_113 w_3.2.2.2.2.1) (om_383 w_3.2.2.2.2.2.1)
            refine lv_iload_n hx hb dX5_holds_41 rfl (lv_at hl 0 rfl) ?_
            refine lv_isub hx hb dX5_holds_42 ?_
            refine lv_topi (fun y_19 ey_19 => ?_)
            have i_19 : y_19.toInt = y_18.toInt - sm.toInt := ki_sub ey_19 rfl rfl (om_385 i_17 i_18) (om_386 w_3.2.2.2.2.2.1 LP1_h0 i_18)
            refine va_iald hx hb hK hP 11 0 rfl rfl (ki_in (om_387 i_17 i_18 i_19) (om_388 w_3.2.2.2.2.2.1 LP1_h0 i_18 i_19)) dX5_holds_43 ?_
            refine lv_topi (fun y_20 ey_20 => ?_)
            have j_20 : y_20.toInt = (o_16 y_19.toNatClampNeg).toInt := congrArg Int32.toInt ey_20
            have n_21 : (y_19.toNatClampNeg : Int) = y_19.toInt := ki_nat _ rfl (om_387 i_17 i_18 i_19)
            have i_22 := w_3.2.2.2.2.2.2.2.1 y_19.toNatClampNeg (by omega)
            refine lv_aload_n hx hb dX5_holds_44 rfl (lv_at hl 1 rfl) ?_
            refine va_get (D := (dC, dI)) (ci := 5) (v := .ref g_row) (C := RX5) (T := TX5) (N := 30) hx hb hts hi_5 hown hK hP 0 rfl rfl 0 (by decide) hf_7 (fun _ h9 => h9) rfl dX5_holds_45 ?_
            refine lv_iload_n hx hb dX5_holds_48 rfl (lv_at hl 2 rfl) ?_
            refine va_iald hx hb hK hP 1 0 rfl rfl (ki_in (om_10 w_1.1) (om_1 a1 w_1.2)) dX5_holds_49 ?_
            refine lv_topi (fun y_23 ey_23 => ?_)
            have j_23 : y_23.toInt = (f p0.toNatClampNeg).toInt := congrArg Int32.toInt ey_23
            have hPc := hP.sub (ws' := [kx_5 h0 g_row m_n m_slots 0 g_many g_loss g_less g_voteValue g_voteNumber g_allValue g_allNumber o_5 g_nodeL g_nodeR o_4 g_part m_partMany g_wasMany g_wasLoss g_wasValue g_wasNumber g_path o_15 g_heavyValue g_heavyTimes m_heavyMany g_fewest g_which g_met m_mostMet, kx_a g_many cyI 324 o_6, kx_a g_voteValue cyI 1944 o_9, kx_a g_voteNumber cyI 1944 o_10]) [0, 2, 5, 6] rfl
            have hKc := hK
            refine vp_callSi (W.runV (As := [.int y_20, .int y_23]) (rest := []) ⟨hx, hb, hml, hown, hts⟩ (c_X5_numberOf l dC dI h0 g_row g_many g_loss g_less g_voteValue g_voteNumber g_allValue g_allNumber g_nodeL g_nodeR g_part g_wasMany g_wasLoss g_wasValue g_wasNumber g_path g_heavyValue g_heavyTimes g_fewest g_which g_met m_n m_slots 0 o_5 o_4 m_partMany o_15 m_heavyMany m_mostMet cyI o_6 o_9 o_10 y_20 y_23 (by omega) (by omega) w_3.1) (cwV 2 hts gX5_holds_X5_numberOf rfl rfl rfl (by decide +kernel) ⟨Nat.le_of_ble_eq_true rfl, Nat.le_of_ble_eq_true rfl⟩) ⟨fun a U g mk q => by obtain ⟨q0, qP, qK⟩ := q; exact ⟨q0, qP, va_K.moved (u := U) (U := U.calling g mk a) (Vm.Alike.refl U.vm) qK⟩, kx_rc5 hKc hPc (q0 := 0) rfl, fun U hU hW => ⟨rfl, by rw [hU]; exact hPc, va_K.moved hW.alike hKc⟩⟩ rfl rfl hl.1 rfl (lv_room (Nat.le_of_ble_eq_true rfl)) dX5_holds_50 ⟨Nat.le_of_ble_eq_true rfl, Nat.le_of_ble_eq_true rfl⟩) (fun r_24 w_24 => ?_)
            refine lv_if_le (tgt := 62) hx hb dX5_holds_53 (by decide) (fun c_25 => ?_) (fun c_25 => ?_)
            · have i_25 : r_24.toInt ≤ 0 := kc_le c_25
              refine lv_iload_n hx hb dX5_holds_62 rfl (lv_at hl 0 rfl) ?_
              have hP9 := hP
              have hD9 := hD
              have hK9 := hK
              exact W.iret (v := sm) hx hb hr (hlocks := hlocks) (fun t ht hW => ⟨⟨sm, (o_4, o_5, o_6, o_7, o_8, o_9, o_10, o_11, o_12, o_13, o_14, o_15, o_16), rfl, w_3.1, by rw [ht]; exact hP9, va_K.moved hW.alike hK9, hD9⟩, hS.F ht⟩) hS.2.2 dX5_holds_63
            · have i_25 : 0 < r_24.toInt := kc_nle c_25
              obtain ⟨x_26, ex_26⟩ : ∃ y : Int32, y = sm + 1 := ⟨_, rfl⟩
              have i_26 : x_26.toInt = sm.toInt + 1 := ki_add ex_26 rfl rfl (om_13 LP1_h0) (om_389 w_3.2.2.2.2.2.1 LP1_h1)
              refine lv_iinc (v := x_26) (lv' := [(2, .int x_26), (0, .ref h0), (1, .int p0)]) hx hb dX5_holds_56 hl (k := 0) rfl (by rw [ex_26]; rfl) (by decide) rfl (fun ls hl => ?_)
              refine lv_goto (tgt := 22) hx hb dX5_holds_59 (by decide) ?_
              exact ih1 x_26 (om_34 LP1_h0 i_26) (om_54 i_17 i_26) (om_mu hn1 (om_5 i_26) (om_6 i_17)) _ _ hP hD hS ls (lv_sub hl [0, 1, 2] rfl)
      have k_27 : (0 : Int32).toInt = 0 := rfl
      exact LP1 ((o_15.toInt - 0 : Int).toNat + 1) 0 om_35 (om_10 w_3.2.2.2.2.1) (Nat.lt_succ_self _) _ _ hP hD hS ls (lv_sub hl [0, 1, 2] rfl)
    · exact absurd c_2 (by decide)
  · have w_1 : (p0.toInt < 0 ∨ m_n.toInt ≤ p0.toInt) := w_1
    refine lv_if_ne (tgt := 15) hx hb dX5_holds_10 (by decide) (fun c_28 => ?_) (fun c_28 => ?_)
    · exact absurd c_28 (by decide)
    · refine lv_iconst (v := (-1)) hx hb dX5_holds_13 (by decide) ?_
      have hP9 := hP
      have hD9 := hD
      have hK9 := hK
      exact W.iret (v := (-1)) hx hb hr (hlocks := hlocks) (fun t ht hW => ⟨⟨(-1), (m_nodes, m_allMany, fm, fl, fe, vv, vn, av, an, nl, nr, m_pathMany, gw), rfl, s4, by rw [ht]; exact hP9, va_K.moved hW.alike hK9, hD9⟩, hS.F ht⟩) hS.2.2 dX5_holds_14



abbrev cX5_parts : ByteArray := prog_7_method_45_code
def yX5_parts : MethodName := ⟨RX5, "parts", "(II)I"⟩
abbrev cX5_part : ByteArray := prog_7_method_46_code
def yX5_part : MethodName := ⟨RX5, "part", "(IIII)I"⟩
abbrev cX5_sums : ByteArray := prog_7_method_47_code
def yX5_sums : MethodName := ⟨RX5, "sums", "(II)V"⟩
abbrev cX5_summary : ByteArray := prog_7_method_49_code
def yX5_summary : MethodName := ⟨RX5, "summary", "(III)I"⟩
abbrev cX5_candidate : ByteArray := prog_7_method_50_code
def yX5_candidate : MethodName := ⟨RX5, "candidate", "(IIII)I"⟩
abbrev cX5_lost : ByteArray := prog_7_method_51_code
def yX5_lost : MethodName := ⟨RX5, "lost", "(III)I"⟩
abbrev cX5_surely : ByteArray := prog_7_method_52_code
def yX5_surely : MethodName := ⟨RX5, "surely", "(II)I"⟩
abbrev cX5_failed : ByteArray := prog_7_method_58_code
def yX5_failed : MethodName := ⟨RX5, "failed", "(IIII)I"⟩
def wsX5_parts_r1 : List Cond := [Cond.fieldLink RX5 77 "MajorityIndexModel" "thrown" "I", Cond.fieldLink RX5 13 "MajorityIndexModel" "slots" "I", Cond.fieldLink RX5 115 "MajorityIndexModel" "partMany" "I", Cond.methodLink RX5 142 yX5_isRange, Cond.instanceMethod yX5_isRange, Cond.selects RX5 yX5_isRange yX5_isRange, Cond.initialized RX5, Cond.code yX5_isRange cX5_isRange 3 (some .boolean), Cond.fieldLink RX5 84 "MajorityIndexModel" "n" "I", Cond.methodLink RX5 124 yX5_laysAll, Cond.instanceMethod yX5_laysAll, Cond.selects RX5 yX5_laysAll yX5_laysAll, Cond.code yX5_laysAll cX5_laysAll 2 none, Cond.fieldLink RX5 101 "MajorityIndexModel" "nodes" "I", Cond.methodLink RX5 107 yX5_lays, Cond.instanceMethod yX5_lays, Cond.selects RX5 yX5_lays yX5_lays, Cond.code yX5_lays cX5_lays 8 (some .int), Cond.fieldLink RX5 38 "MajorityIndexModel" "nodeL" "[I", Cond.fieldLink RX5 41 "MajorityIndexModel" "nodeR" "[I", Cond.fieldLink RX5 7 "MajorityIndexModel" "row" "[I", Cond.methodLink RX5 104 yX5_one, Cond.instanceMethod yX5_one, Cond.selects RX5 yX5_one yX5_one]
def wsX5_parts_r2 : List Cond := [Cond.code yX5_one cX5_one 3 none, Cond.fieldLink RX5 17 "MajorityIndexModel" "many" "[I", Cond.fieldLink RX5 20 "MajorityIndexModel" "loss" "[I", Cond.fieldLink RX5 23 "MajorityIndexModel" "less" "[I", Cond.fieldLink RX5 26 "MajorityIndexModel" "voteValue" "[I", Cond.fieldLink RX5 29 "MajorityIndexModel" "voteNumber" "[I", Cond.methodLink RX5 111 yX5_together, Cond.instanceMethod yX5_together, Cond.selects RX5 yX5_together yX5_together, Cond.code yX5_together cX5_together 9 none, Cond.fieldLink RX5 87 "MajorityIndexModel" "allMany" "I", Cond.fieldLink RX5 35 "MajorityIndexModel" "allNumber" "[I", Cond.fieldLink RX5 32 "MajorityIndexModel" "allValue" "[I", Cond.methodLink RX5 94 yX5_adds, Cond.instanceMethod yX5_adds, Cond.selects RX5 yX5_adds yX5_adds, Cond.code yX5_adds cX5_adds 4 none, Cond.methodLink RX5 98 yX5_sorts, Cond.instanceMethod yX5_sorts, Cond.selects RX5 yX5_sorts yX5_sorts, Cond.code yX5_sorts cX5_sorts 4 none, Cond.methodLink RX5 90 yX5_isAhead, Cond.instanceMethod yX5_isAhead, Cond.selects RX5 yX5_isAhead yX5_isAhead]
def wsX5_parts_r3 : List Cond := [Cond.code yX5_isAhead cX5_isAhead 3 (some .boolean), Cond.methodLink RX5 118 yX5_laysParts, Cond.instanceMethod yX5_laysParts, Cond.selects RX5 yX5_laysParts yX5_laysParts, Cond.code yX5_laysParts cX5_laysParts 5 none, Cond.fieldLink RX5 44 "MajorityIndexModel" "part" "[I"]
def wsX5_parts : List Cond := .code yX5_parts cX5_parts 3 (some .int) :: ((wsX5_parts_r1 ++ (wsX5_parts_r2 ++ wsX5_parts_r3)) ++ wsX50)
def wsX5_part_r1 : List Cond := [Cond.fieldLink RX5 77 "MajorityIndexModel" "thrown" "I", Cond.fieldLink RX5 13 "MajorityIndexModel" "slots" "I", Cond.fieldLink RX5 115 "MajorityIndexModel" "partMany" "I", Cond.fieldLink RX5 38 "MajorityIndexModel" "nodeL" "[I", Cond.fieldLink RX5 44 "MajorityIndexModel" "part" "[I", Cond.fieldLink RX5 41 "MajorityIndexModel" "nodeR" "[I", Cond.methodLink RX5 142 yX5_isRange, Cond.instanceMethod yX5_isRange, Cond.selects RX5 yX5_isRange yX5_isRange, Cond.initialized RX5, Cond.code yX5_isRange cX5_isRange 3 (some .boolean), Cond.fieldLink RX5 84 "MajorityIndexModel" "n" "I", Cond.methodLink RX5 80 yX5_within, Cond.static yX5_within, Cond.code yX5_within cX5_within 3 (some .boolean), Cond.methodLink RX5 124 yX5_laysAll, Cond.instanceMethod yX5_laysAll, Cond.selects RX5 yX5_laysAll yX5_laysAll, Cond.code yX5_laysAll cX5_laysAll 2 none, Cond.fieldLink RX5 101 "MajorityIndexModel" "nodes" "I", Cond.methodLink RX5 107 yX5_lays, Cond.instanceMethod yX5_lays, Cond.selects RX5 yX5_lays yX5_lays, Cond.code yX5_lays cX5_lays 8 (some .int)]
def wsX5_part_r2 : List Cond := [Cond.fieldLink RX5 7 "MajorityIndexModel" "row" "[I", Cond.methodLink RX5 104 yX5_one, Cond.instanceMethod yX5_one, Cond.selects RX5 yX5_one yX5_one, Cond.code yX5_one cX5_one 3 none, Cond.fieldLink RX5 17 "MajorityIndexModel" "many" "[I", Cond.fieldLink RX5 20 "MajorityIndexModel" "loss" "[I", Cond.fieldLink RX5 23 "MajorityIndexModel" "less" "[I", Cond.fieldLink RX5 26 "MajorityIndexModel" "voteValue" "[I", Cond.fieldLink RX5 29 "MajorityIndexModel" "voteNumber" "[I", Cond.methodLink RX5 111 yX5_together, Cond.instanceMethod yX5_together, Cond.selects RX5 yX5_together yX5_together, Cond.code yX5_together cX5_together 9 none, Cond.fieldLink RX5 87 "MajorityIndexModel" "allMany" "I", Cond.fieldLink RX5 35 "MajorityIndexModel" "allNumber" "[I", Cond.fieldLink RX5 32 "MajorityIndexModel" "allValue" "[I", Cond.methodLink RX5 94 yX5_adds, Cond.instanceMethod yX5_adds, Cond.selects RX5 yX5_adds yX5_adds, Cond.code yX5_adds cX5_adds 4 none, Cond.methodLink RX5 98 yX5_sorts, Cond.instanceMethod yX5_sorts, Cond.selects RX5 yX5_sorts yX5_sorts]
def wsX5_part_r3 : List Cond := [Cond.code yX5_sorts cX5_sorts 4 none, Cond.methodLink RX5 90 yX5_isAhead, Cond.instanceMethod yX5_isAhead, Cond.selects RX5 yX5_isAhead yX5_isAhead, Cond.code yX5_isAhead cX5_isAhead 3 (some .boolean), Cond.methodLink RX5 118 yX5_laysParts, Cond.instanceMethod yX5_laysParts, Cond.selects RX5 yX5_laysParts yX5_laysParts, Cond.code yX5_laysParts cX5_laysParts 5 none]
def wsX5_part : List Cond := .code yX5_part cX5_part 5 (some .int) :: ((wsX5_part_r1 ++ (wsX5_part_r2 ++ wsX5_part_r3)) ++ wsX50)
def wsX5_sums_r1 : List Cond := [Cond.fieldLink RX5 13 "MajorityIndexModel" "slots" "I", Cond.methodLink RX5 124 yX5_laysAll, Cond.instanceMethod yX5_laysAll, Cond.selects RX5 yX5_laysAll yX5_laysAll, Cond.initialized RX5, Cond.code yX5_laysAll cX5_laysAll 2 none, Cond.fieldLink RX5 101 "MajorityIndexModel" "nodes" "I", Cond.fieldLink RX5 84 "MajorityIndexModel" "n" "I", Cond.methodLink RX5 107 yX5_lays, Cond.instanceMethod yX5_lays, Cond.selects RX5 yX5_lays yX5_lays, Cond.code yX5_lays cX5_lays 8 (some .int), Cond.fieldLink RX5 38 "MajorityIndexModel" "nodeL" "[I", Cond.fieldLink RX5 41 "MajorityIndexModel" "nodeR" "[I", Cond.fieldLink RX5 7 "MajorityIndexModel" "row" "[I", Cond.methodLink RX5 104 yX5_one, Cond.instanceMethod yX5_one, Cond.selects RX5 yX5_one yX5_one, Cond.code yX5_one cX5_one 3 none, Cond.fieldLink RX5 17 "MajorityIndexModel" "many" "[I", Cond.fieldLink RX5 20 "MajorityIndexModel" "loss" "[I", Cond.fieldLink RX5 23 "MajorityIndexModel" "less" "[I", Cond.fieldLink RX5 26 "MajorityIndexModel" "voteValue" "[I", Cond.fieldLink RX5 29 "MajorityIndexModel" "voteNumber" "[I"]
def wsX5_sums_r2 : List Cond := [Cond.methodLink RX5 111 yX5_together, Cond.instanceMethod yX5_together, Cond.selects RX5 yX5_together yX5_together, Cond.code yX5_together cX5_together 9 none, Cond.fieldLink RX5 87 "MajorityIndexModel" "allMany" "I", Cond.fieldLink RX5 35 "MajorityIndexModel" "allNumber" "[I", Cond.fieldLink RX5 32 "MajorityIndexModel" "allValue" "[I", Cond.methodLink RX5 94 yX5_adds, Cond.instanceMethod yX5_adds, Cond.selects RX5 yX5_adds yX5_adds, Cond.code yX5_adds cX5_adds 4 none, Cond.methodLink RX5 98 yX5_sorts, Cond.instanceMethod yX5_sorts, Cond.selects RX5 yX5_sorts yX5_sorts, Cond.code yX5_sorts cX5_sorts 4 none, Cond.methodLink RX5 90 yX5_isAhead, Cond.instanceMethod yX5_isAhead, Cond.selects RX5 yX5_isAhead yX5_isAhead, Cond.code yX5_isAhead cX5_isAhead 3 (some .boolean), Cond.methodLink RX5 168 yX5_folds, Cond.instanceMethod yX5_folds, Cond.selects RX5 yX5_folds yX5_folds, Cond.code yX5_folds cX5_folds 6 none, Cond.fieldLink RX5 44 "MajorityIndexModel" "part" "[I"]
def wsX5_sums_r3 : List Cond := [Cond.fieldLink RX5 115 "MajorityIndexModel" "partMany" "I", Cond.methodLink RX5 118 yX5_laysParts, Cond.instanceMethod yX5_laysParts, Cond.selects RX5 yX5_laysParts yX5_laysParts, Cond.code yX5_laysParts cX5_laysParts 5 none, Cond.methodLink RX5 121 yX5_copies, Cond.instanceMethod yX5_copies, Cond.selects RX5 yX5_copies yX5_copies, Cond.code yX5_copies cX5_copies 4 none]
def wsX5_sums : List Cond := .code yX5_sums cX5_sums 3 none :: ((wsX5_sums_r1 ++ (wsX5_sums_r2 ++ wsX5_sums_r3)) ++ wsX50)
def wsX5_summary_r1 : List Cond := [Cond.fieldLink RX5 77 "MajorityIndexModel" "thrown" "I", Cond.fieldLink RX5 17 "MajorityIndexModel" "many" "[I", Cond.fieldLink RX5 20 "MajorityIndexModel" "loss" "[I", Cond.methodLink RX5 142 yX5_isRange, Cond.instanceMethod yX5_isRange, Cond.selects RX5 yX5_isRange yX5_isRange, Cond.initialized RX5, Cond.code yX5_isRange cX5_isRange 3 (some .boolean), Cond.fieldLink RX5 84 "MajorityIndexModel" "n" "I", Cond.methodLink RX5 80 yX5_within, Cond.static yX5_within, Cond.code yX5_within cX5_within 3 (some .boolean), Cond.methodLink RX5 171 yX5_sums, Cond.instanceMethod yX5_sums, Cond.selects RX5 yX5_sums yX5_sums, Cond.code yX5_sums cX5_sums 3 none, Cond.fieldLink RX5 13 "MajorityIndexModel" "slots" "I", Cond.methodLink RX5 124 yX5_laysAll, Cond.instanceMethod yX5_laysAll, Cond.selects RX5 yX5_laysAll yX5_laysAll, Cond.code yX5_laysAll cX5_laysAll 2 none, Cond.fieldLink RX5 101 "MajorityIndexModel" "nodes" "I", Cond.methodLink RX5 107 yX5_lays, Cond.instanceMethod yX5_lays]
def wsX5_summary_r2 : List Cond := [Cond.selects RX5 yX5_lays yX5_lays, Cond.code yX5_lays cX5_lays 8 (some .int), Cond.fieldLink RX5 38 "MajorityIndexModel" "nodeL" "[I", Cond.fieldLink RX5 41 "MajorityIndexModel" "nodeR" "[I", Cond.fieldLink RX5 7 "MajorityIndexModel" "row" "[I", Cond.methodLink RX5 104 yX5_one, Cond.instanceMethod yX5_one, Cond.selects RX5 yX5_one yX5_one, Cond.code yX5_one cX5_one 3 none, Cond.fieldLink RX5 23 "MajorityIndexModel" "less" "[I", Cond.fieldLink RX5 26 "MajorityIndexModel" "voteValue" "[I", Cond.fieldLink RX5 29 "MajorityIndexModel" "voteNumber" "[I", Cond.methodLink RX5 111 yX5_together, Cond.instanceMethod yX5_together, Cond.selects RX5 yX5_together yX5_together, Cond.code yX5_together cX5_together 9 none, Cond.fieldLink RX5 87 "MajorityIndexModel" "allMany" "I", Cond.fieldLink RX5 35 "MajorityIndexModel" "allNumber" "[I", Cond.fieldLink RX5 32 "MajorityIndexModel" "allValue" "[I", Cond.methodLink RX5 94 yX5_adds, Cond.instanceMethod yX5_adds, Cond.selects RX5 yX5_adds yX5_adds, Cond.code yX5_adds cX5_adds 4 none, Cond.methodLink RX5 98 yX5_sorts]
def wsX5_summary_r3 : List Cond := [Cond.instanceMethod yX5_sorts, Cond.selects RX5 yX5_sorts yX5_sorts, Cond.code yX5_sorts cX5_sorts 4 none, Cond.methodLink RX5 90 yX5_isAhead, Cond.instanceMethod yX5_isAhead, Cond.selects RX5 yX5_isAhead yX5_isAhead, Cond.code yX5_isAhead cX5_isAhead 3 (some .boolean), Cond.methodLink RX5 168 yX5_folds, Cond.instanceMethod yX5_folds, Cond.selects RX5 yX5_folds yX5_folds, Cond.code yX5_folds cX5_folds 6 none, Cond.fieldLink RX5 44 "MajorityIndexModel" "part" "[I", Cond.fieldLink RX5 115 "MajorityIndexModel" "partMany" "I", Cond.methodLink RX5 118 yX5_laysParts, Cond.instanceMethod yX5_laysParts, Cond.selects RX5 yX5_laysParts yX5_laysParts, Cond.code yX5_laysParts cX5_laysParts 5 none, Cond.methodLink RX5 121 yX5_copies, Cond.instanceMethod yX5_copies, Cond.selects RX5 yX5_copies yX5_copies, Cond.code yX5_copies cX5_copies 4 none, Cond.methodLink RX5 174 yX5_numbersOf, Cond.instanceMethod yX5_numbersOf, Cond.selects RX5 yX5_numbersOf yX5_numbersOf]
def wsX5_summary_r4 : List Cond := [Cond.code yX5_numbersOf cX5_numbersOf 4 (some .int)]
def wsX5_summary : List Cond := .code yX5_summary cX5_summary 4 (some .int) :: ((wsX5_summary_r1 ++ (wsX5_summary_r2 ++ (wsX5_summary_r3 ++ wsX5_summary_r4))) ++ wsX50)
def wsX5_candidate_r1 : List Cond := [Cond.fieldLink RX5 77 "MajorityIndexModel" "thrown" "I", Cond.fieldLink RX5 17 "MajorityIndexModel" "many" "[I", Cond.fieldLink RX5 26 "MajorityIndexModel" "voteValue" "[I", Cond.fieldLink RX5 29 "MajorityIndexModel" "voteNumber" "[I", Cond.methodLink RX5 142 yX5_isRange, Cond.instanceMethod yX5_isRange, Cond.selects RX5 yX5_isRange yX5_isRange, Cond.initialized RX5, Cond.code yX5_isRange cX5_isRange 3 (some .boolean), Cond.fieldLink RX5 84 "MajorityIndexModel" "n" "I", Cond.methodLink RX5 80 yX5_within, Cond.static yX5_within, Cond.code yX5_within cX5_within 3 (some .boolean), Cond.methodLink RX5 171 yX5_sums, Cond.instanceMethod yX5_sums, Cond.selects RX5 yX5_sums yX5_sums, Cond.code yX5_sums cX5_sums 3 none, Cond.fieldLink RX5 13 "MajorityIndexModel" "slots" "I", Cond.methodLink RX5 124 yX5_laysAll, Cond.instanceMethod yX5_laysAll, Cond.selects RX5 yX5_laysAll yX5_laysAll, Cond.code yX5_laysAll cX5_laysAll 2 none, Cond.fieldLink RX5 101 "MajorityIndexModel" "nodes" "I", Cond.methodLink RX5 107 yX5_lays]
def wsX5_candidate_r2 : List Cond := [Cond.instanceMethod yX5_lays, Cond.selects RX5 yX5_lays yX5_lays, Cond.code yX5_lays cX5_lays 8 (some .int), Cond.fieldLink RX5 38 "MajorityIndexModel" "nodeL" "[I", Cond.fieldLink RX5 41 "MajorityIndexModel" "nodeR" "[I", Cond.fieldLink RX5 7 "MajorityIndexModel" "row" "[I", Cond.methodLink RX5 104 yX5_one, Cond.instanceMethod yX5_one, Cond.selects RX5 yX5_one yX5_one, Cond.code yX5_one cX5_one 3 none, Cond.fieldLink RX5 20 "MajorityIndexModel" "loss" "[I", Cond.fieldLink RX5 23 "MajorityIndexModel" "less" "[I", Cond.methodLink RX5 111 yX5_together, Cond.instanceMethod yX5_together, Cond.selects RX5 yX5_together yX5_together, Cond.code yX5_together cX5_together 9 none, Cond.fieldLink RX5 87 "MajorityIndexModel" "allMany" "I", Cond.fieldLink RX5 35 "MajorityIndexModel" "allNumber" "[I", Cond.fieldLink RX5 32 "MajorityIndexModel" "allValue" "[I", Cond.methodLink RX5 94 yX5_adds, Cond.instanceMethod yX5_adds, Cond.selects RX5 yX5_adds yX5_adds, Cond.code yX5_adds cX5_adds 4 none, Cond.methodLink RX5 98 yX5_sorts]
def wsX5_candidate_r3 : List Cond := [Cond.instanceMethod yX5_sorts, Cond.selects RX5 yX5_sorts yX5_sorts, Cond.code yX5_sorts cX5_sorts 4 none, Cond.methodLink RX5 90 yX5_isAhead, Cond.instanceMethod yX5_isAhead, Cond.selects RX5 yX5_isAhead yX5_isAhead, Cond.code yX5_isAhead cX5_isAhead 3 (some .boolean), Cond.methodLink RX5 168 yX5_folds, Cond.instanceMethod yX5_folds, Cond.selects RX5 yX5_folds yX5_folds, Cond.code yX5_folds cX5_folds 6 none, Cond.fieldLink RX5 44 "MajorityIndexModel" "part" "[I", Cond.fieldLink RX5 115 "MajorityIndexModel" "partMany" "I", Cond.methodLink RX5 118 yX5_laysParts, Cond.instanceMethod yX5_laysParts, Cond.selects RX5 yX5_laysParts yX5_laysParts, Cond.code yX5_laysParts cX5_laysParts 5 none, Cond.methodLink RX5 121 yX5_copies, Cond.instanceMethod yX5_copies, Cond.selects RX5 yX5_copies yX5_copies, Cond.code yX5_copies cX5_copies 4 none, Cond.methodLink RX5 149 yX5_times, Cond.instanceMethod yX5_times, Cond.selects RX5 yX5_times yX5_times]
def wsX5_candidate_r4 : List Cond := [Cond.code yX5_times cX5_times 6 (some .int)]
def wsX5_candidate : List Cond := .code yX5_candidate cX5_candidate 6 (some .int) :: ((wsX5_candidate_r1 ++ (wsX5_candidate_r2 ++ (wsX5_candidate_r3 ++ wsX5_candidate_r4))) ++ wsX50)
def wsX5_lost_r1 : List Cond := [Cond.fieldLink RX5 77 "MajorityIndexModel" "thrown" "I", Cond.methodLink RX5 132 yX5_isValue, Cond.static yX5_isValue, Cond.initialized RX5, Cond.code yX5_isValue cX5_isValue 1 (some .boolean), Cond.methodLink RX5 80 yX5_within, Cond.static yX5_within, Cond.code yX5_within cX5_within 3 (some .boolean), Cond.methodLink RX5 142 yX5_isRange, Cond.instanceMethod yX5_isRange, Cond.selects RX5 yX5_isRange yX5_isRange, Cond.code yX5_isRange cX5_isRange 3 (some .boolean), Cond.fieldLink RX5 84 "MajorityIndexModel" "n" "I", Cond.methodLink RX5 171 yX5_sums, Cond.instanceMethod yX5_sums, Cond.selects RX5 yX5_sums yX5_sums, Cond.code yX5_sums cX5_sums 3 none, Cond.fieldLink RX5 13 "MajorityIndexModel" "slots" "I", Cond.methodLink RX5 124 yX5_laysAll, Cond.instanceMethod yX5_laysAll, Cond.selects RX5 yX5_laysAll yX5_laysAll, Cond.code yX5_laysAll cX5_laysAll 2 none, Cond.fieldLink RX5 101 "MajorityIndexModel" "nodes" "I", Cond.methodLink RX5 107 yX5_lays]
def wsX5_lost_r2 : List Cond := [Cond.instanceMethod yX5_lays, Cond.selects RX5 yX5_lays yX5_lays, Cond.code yX5_lays cX5_lays 8 (some .int), Cond.fieldLink RX5 38 "MajorityIndexModel" "nodeL" "[I", Cond.fieldLink RX5 41 "MajorityIndexModel" "nodeR" "[I", Cond.fieldLink RX5 7 "MajorityIndexModel" "row" "[I", Cond.methodLink RX5 104 yX5_one, Cond.instanceMethod yX5_one, Cond.selects RX5 yX5_one yX5_one, Cond.code yX5_one cX5_one 3 none, Cond.fieldLink RX5 17 "MajorityIndexModel" "many" "[I", Cond.fieldLink RX5 20 "MajorityIndexModel" "loss" "[I", Cond.fieldLink RX5 23 "MajorityIndexModel" "less" "[I", Cond.fieldLink RX5 26 "MajorityIndexModel" "voteValue" "[I", Cond.fieldLink RX5 29 "MajorityIndexModel" "voteNumber" "[I", Cond.methodLink RX5 111 yX5_together, Cond.instanceMethod yX5_together, Cond.selects RX5 yX5_together yX5_together, Cond.code yX5_together cX5_together 9 none, Cond.fieldLink RX5 87 "MajorityIndexModel" "allMany" "I", Cond.fieldLink RX5 35 "MajorityIndexModel" "allNumber" "[I", Cond.fieldLink RX5 32 "MajorityIndexModel" "allValue" "[I", Cond.methodLink RX5 94 yX5_adds, Cond.instanceMethod yX5_adds]
def wsX5_lost_r3 : List Cond := [Cond.selects RX5 yX5_adds yX5_adds, Cond.code yX5_adds cX5_adds 4 none, Cond.methodLink RX5 98 yX5_sorts, Cond.instanceMethod yX5_sorts, Cond.selects RX5 yX5_sorts yX5_sorts, Cond.code yX5_sorts cX5_sorts 4 none, Cond.methodLink RX5 90 yX5_isAhead, Cond.instanceMethod yX5_isAhead, Cond.selects RX5 yX5_isAhead yX5_isAhead, Cond.code yX5_isAhead cX5_isAhead 3 (some .boolean), Cond.methodLink RX5 168 yX5_folds, Cond.instanceMethod yX5_folds, Cond.selects RX5 yX5_folds yX5_folds, Cond.code yX5_folds cX5_folds 6 none, Cond.fieldLink RX5 44 "MajorityIndexModel" "part" "[I", Cond.fieldLink RX5 115 "MajorityIndexModel" "partMany" "I", Cond.methodLink RX5 118 yX5_laysParts, Cond.instanceMethod yX5_laysParts, Cond.selects RX5 yX5_laysParts yX5_laysParts, Cond.code yX5_laysParts cX5_laysParts 5 none, Cond.methodLink RX5 121 yX5_copies, Cond.instanceMethod yX5_copies, Cond.selects RX5 yX5_copies yX5_copies, Cond.code yX5_copies cX5_copies 4 none]
def wsX5_lost_r4 : List Cond := [Cond.methodLink RX5 149 yX5_times, Cond.instanceMethod yX5_times, Cond.selects RX5 yX5_times yX5_times, Cond.code yX5_times cX5_times 6 (some .int), Cond.methodLink RX5 165 yX5_numberOf, Cond.instanceMethod yX5_numberOf, Cond.selects RX5 yX5_numberOf yX5_numberOf, Cond.code yX5_numberOf cX5_numberOf 4 (some .int)]
def wsX5_lost : List Cond := .code yX5_lost cX5_lost 4 (some .int) :: ((wsX5_lost_r1 ++ (wsX5_lost_r2 ++ (wsX5_lost_r3 ++ wsX5_lost_r4))) ++ wsX50)
def wsX5_surely_r1 : List Cond := [Cond.fieldLink RX5 77 "MajorityIndexModel" "thrown" "I", Cond.constant RX5 148 (-40000), Cond.fieldLink RX5 17 "MajorityIndexModel" "many" "[I", Cond.fieldLink RX5 29 "MajorityIndexModel" "voteNumber" "[I", Cond.fieldLink RX5 20 "MajorityIndexModel" "loss" "[I", Cond.fieldLink RX5 26 "MajorityIndexModel" "voteValue" "[I", Cond.methodLink RX5 142 yX5_isRange, Cond.instanceMethod yX5_isRange, Cond.selects RX5 yX5_isRange yX5_isRange, Cond.initialized RX5, Cond.code yX5_isRange cX5_isRange 3 (some .boolean), Cond.fieldLink RX5 84 "MajorityIndexModel" "n" "I", Cond.methodLink RX5 171 yX5_sums, Cond.instanceMethod yX5_sums, Cond.selects RX5 yX5_sums yX5_sums, Cond.code yX5_sums cX5_sums 3 none, Cond.fieldLink RX5 13 "MajorityIndexModel" "slots" "I", Cond.methodLink RX5 124 yX5_laysAll, Cond.instanceMethod yX5_laysAll, Cond.selects RX5 yX5_laysAll yX5_laysAll, Cond.code yX5_laysAll cX5_laysAll 2 none, Cond.fieldLink RX5 101 "MajorityIndexModel" "nodes" "I", Cond.methodLink RX5 107 yX5_lays, Cond.instanceMethod yX5_lays]
def wsX5_surely_r2 : List Cond := [Cond.selects RX5 yX5_lays yX5_lays, Cond.code yX5_lays cX5_lays 8 (some .int), Cond.fieldLink RX5 38 "MajorityIndexModel" "nodeL" "[I", Cond.fieldLink RX5 41 "MajorityIndexModel" "nodeR" "[I", Cond.fieldLink RX5 7 "MajorityIndexModel" "row" "[I", Cond.methodLink RX5 104 yX5_one, Cond.instanceMethod yX5_one, Cond.selects RX5 yX5_one yX5_one, Cond.code yX5_one cX5_one 3 none, Cond.fieldLink RX5 23 "MajorityIndexModel" "less" "[I", Cond.methodLink RX5 111 yX5_together, Cond.instanceMethod yX5_together, Cond.selects RX5 yX5_together yX5_together, Cond.code yX5_together cX5_together 9 none, Cond.fieldLink RX5 87 "MajorityIndexModel" "allMany" "I", Cond.fieldLink RX5 35 "MajorityIndexModel" "allNumber" "[I", Cond.fieldLink RX5 32 "MajorityIndexModel" "allValue" "[I", Cond.methodLink RX5 94 yX5_adds, Cond.instanceMethod yX5_adds, Cond.selects RX5 yX5_adds yX5_adds, Cond.code yX5_adds cX5_adds 4 none, Cond.methodLink RX5 98 yX5_sorts, Cond.instanceMethod yX5_sorts, Cond.selects RX5 yX5_sorts yX5_sorts]
def wsX5_surely_r3 : List Cond := [Cond.code yX5_sorts cX5_sorts 4 none, Cond.methodLink RX5 90 yX5_isAhead, Cond.instanceMethod yX5_isAhead, Cond.selects RX5 yX5_isAhead yX5_isAhead, Cond.code yX5_isAhead cX5_isAhead 3 (some .boolean), Cond.methodLink RX5 168 yX5_folds, Cond.instanceMethod yX5_folds, Cond.selects RX5 yX5_folds yX5_folds, Cond.code yX5_folds cX5_folds 6 none, Cond.fieldLink RX5 44 "MajorityIndexModel" "part" "[I", Cond.fieldLink RX5 115 "MajorityIndexModel" "partMany" "I", Cond.methodLink RX5 118 yX5_laysParts, Cond.instanceMethod yX5_laysParts, Cond.selects RX5 yX5_laysParts yX5_laysParts, Cond.code yX5_laysParts cX5_laysParts 5 none, Cond.methodLink RX5 121 yX5_copies, Cond.instanceMethod yX5_copies, Cond.selects RX5 yX5_copies yX5_copies, Cond.code yX5_copies cX5_copies 4 none]
def wsX5_surely : List Cond := .code yX5_surely cX5_surely 5 (some .int) :: ((wsX5_surely_r1 ++ (wsX5_surely_r2 ++ wsX5_surely_r3)) ++ wsX50)
def wsX5_failed_r1 : List Cond := [Cond.fieldLink RX5 77 "MajorityIndexModel" "thrown" "I", Cond.fieldLink RX5 17 "MajorityIndexModel" "many" "[I", Cond.fieldLink RX5 26 "MajorityIndexModel" "voteValue" "[I", Cond.methodLink RX5 142 yX5_isRange, Cond.instanceMethod yX5_isRange, Cond.selects RX5 yX5_isRange yX5_isRange, Cond.initialized RX5, Cond.code yX5_isRange cX5_isRange 3 (some .boolean), Cond.fieldLink RX5 84 "MajorityIndexModel" "n" "I", Cond.methodLink RX5 184 yX5_isShare, Cond.static yX5_isShare, Cond.code yX5_isShare cX5_isShare 2 (some .boolean), Cond.methodLink RX5 80 yX5_within, Cond.static yX5_within, Cond.code yX5_within cX5_within 3 (some .boolean), Cond.methodLink RX5 187 yX5_isEnough, Cond.instanceMethod yX5_isEnough, Cond.selects RX5 yX5_isEnough yX5_isEnough, Cond.code yX5_isEnough cX5_isEnough 3 (some .boolean), Cond.fieldLink RX5 13 "MajorityIndexModel" "slots" "I", Cond.methodLink RX5 171 yX5_sums, Cond.instanceMethod yX5_sums, Cond.selects RX5 yX5_sums yX5_sums, Cond.code yX5_sums cX5_sums 3 none]
def wsX5_failed_r2 : List Cond := [Cond.methodLink RX5 124 yX5_laysAll, Cond.instanceMethod yX5_laysAll, Cond.selects RX5 yX5_laysAll yX5_laysAll, Cond.code yX5_laysAll cX5_laysAll 2 none, Cond.fieldLink RX5 101 "MajorityIndexModel" "nodes" "I", Cond.methodLink RX5 107 yX5_lays, Cond.instanceMethod yX5_lays, Cond.selects RX5 yX5_lays yX5_lays, Cond.code yX5_lays cX5_lays 8 (some .int), Cond.fieldLink RX5 38 "MajorityIndexModel" "nodeL" "[I", Cond.fieldLink RX5 41 "MajorityIndexModel" "nodeR" "[I", Cond.fieldLink RX5 7 "MajorityIndexModel" "row" "[I", Cond.methodLink RX5 104 yX5_one, Cond.instanceMethod yX5_one, Cond.selects RX5 yX5_one yX5_one, Cond.code yX5_one cX5_one 3 none, Cond.fieldLink RX5 20 "MajorityIndexModel" "loss" "[I", Cond.fieldLink RX5 23 "MajorityIndexModel" "less" "[I", Cond.fieldLink RX5 29 "MajorityIndexModel" "voteNumber" "[I", Cond.methodLink RX5 111 yX5_together, Cond.instanceMethod yX5_together, Cond.selects RX5 yX5_together yX5_together, Cond.code yX5_together cX5_together 9 none, Cond.fieldLink RX5 87 "MajorityIndexModel" "allMany" "I"]
def wsX5_failed_r3 : List Cond := [Cond.fieldLink RX5 35 "MajorityIndexModel" "allNumber" "[I", Cond.fieldLink RX5 32 "MajorityIndexModel" "allValue" "[I", Cond.methodLink RX5 94 yX5_adds, Cond.instanceMethod yX5_adds, Cond.selects RX5 yX5_adds yX5_adds, Cond.code yX5_adds cX5_adds 4 none, Cond.methodLink RX5 98 yX5_sorts, Cond.instanceMethod yX5_sorts, Cond.selects RX5 yX5_sorts yX5_sorts, Cond.code yX5_sorts cX5_sorts 4 none, Cond.methodLink RX5 90 yX5_isAhead, Cond.instanceMethod yX5_isAhead, Cond.selects RX5 yX5_isAhead yX5_isAhead, Cond.code yX5_isAhead cX5_isAhead 3 (some .boolean), Cond.methodLink RX5 168 yX5_folds, Cond.instanceMethod yX5_folds, Cond.selects RX5 yX5_folds yX5_folds, Cond.code yX5_folds cX5_folds 6 none, Cond.fieldLink RX5 44 "MajorityIndexModel" "part" "[I", Cond.fieldLink RX5 115 "MajorityIndexModel" "partMany" "I", Cond.methodLink RX5 118 yX5_laysParts, Cond.instanceMethod yX5_laysParts, Cond.selects RX5 yX5_laysParts yX5_laysParts, Cond.code yX5_laysParts cX5_laysParts 5 none]
def wsX5_failed_r4 : List Cond := [Cond.methodLink RX5 121 yX5_copies, Cond.instanceMethod yX5_copies, Cond.selects RX5 yX5_copies yX5_copies, Cond.code yX5_copies cX5_copies 4 none, Cond.methodLink RX5 149 yX5_times, Cond.instanceMethod yX5_times, Cond.selects RX5 yX5_times yX5_times, Cond.code yX5_times cX5_times 6 (some .int)]
def wsX5_failed : List Cond := .code yX5_failed cX5_failed 7 (some .int) :: ((wsX5_failed_r1 ++ (wsX5_failed_r2 ++ (wsX5_failed_r3 ++ wsX5_failed_r4))) ++ wsX50)
theorem mi_wsX5_parts_wsX5_parts_r1 : ∀ w ∈ wsX5_parts_r1, w ∈ wsX5_parts := fun _ h => (List.mem_cons_of_mem _ (List.mem_append_left _ (List.mem_append_left _ h)))
theorem mi_wsX5_parts_wsX50 : ∀ w ∈ wsX50, w ∈ wsX5_parts := fun _ h => (List.mem_cons_of_mem _ (List.mem_append_right _ h))
set_option maxRecDepth 20000 in
theorem ggX5_parts_X5_isRange : GoodIn wsX5_parts wsX5_isRange := goodIn_m _ [(wsX5_parts_r1, [false, false, false, false, false, false, false, true, true]), (wsX50, [true, true, true, true, true, true, true, true, true, true, true, true, true, true, true, true, true, true, true, true, true, true, true, true, true, true, true, true, true, true])] (gm_c mi_wsX5_parts_wsX5_parts_r1 (gm_c mi_wsX5_parts_wsX50 gm_n)) rfl (by decide +kernel)
set_option maxRecDepth 20000 in
theorem gX5_parts_X5_isRange : GoodIn wsX5_parts (wsV RX5 142 RX5 yX5_isRange wsX5_isRange) := goodIn_app (goodIn_m _ [(wsX5_parts_r1, [false, false, false, true, true, true, true])] (gm_c mi_wsX5_parts_wsX5_parts_r1 gm_n) rfl (by decide +kernel)) ggX5_parts_X5_isRange
theorem mi_wsX5_parts_wsX5_parts_r2 : ∀ w ∈ wsX5_parts_r2, w ∈ wsX5_parts := fun _ h => (List.mem_cons_of_mem _ (List.mem_append_left _ (List.mem_append_right _ (List.mem_append_left _ h))))
theorem mi_wsX5_parts_wsX5_parts_r3 : ∀ w ∈ wsX5_parts_r3, w ∈ wsX5_parts := fun _ h => (List.mem_cons_of_mem _ (List.mem_append_left _ (List.mem_append_right _ (List.mem_append_right _ h))))
set_option maxRecDepth 20000 in
theorem ggX5_parts_X5_laysAll : GoodIn wsX5_parts wsX5_laysAll := goodIn_m _ [(wsX5_parts_r1, [false, false, false, false, false, false, false, false, false, false, false, false, true, true]), (wsX5_parts_r1, [false, false, false, false, false, false, false, false, true, false, false, false, false, false, true, true, true]), (wsX5_parts_r1, [false, false, false, false, false, false, true, false, false, false, false, false, false, false, false, false, false, true, true, true, true, true, true, true]), (wsX5_parts_r2, [true, true, true, true, true, true, true, true, true, true, true, true, true, true, true, true, true, true, true, true, true, true, true, true]), (wsX5_parts_r3, [true]), (wsX50, [true, true, true, true, true, true, true, true, true, true, true, true, true, true, true, true, true, true, true, true, true, true, true, true, true, true, true, true, true, true])] (gm_c mi_wsX5_parts_wsX5_parts_r1 (gm_c mi_wsX5_parts_wsX5_parts_r1 (gm_c mi_wsX5_parts_wsX5_parts_r1 (gm_c mi_wsX5_parts_wsX5_parts_r2 (gm_c mi_wsX5_parts_wsX5_parts_r3 (gm_c mi_wsX5_parts_wsX50 gm_n)))))) rfl (by decide +kernel)
set_option maxRecDepth 20000 in
theorem gX5_parts_X5_laysAll : GoodIn wsX5_parts (wsV RX5 124 RX5 yX5_laysAll wsX5_laysAll) := goodIn_app (goodIn_m _ [(wsX5_parts_r1, [false, false, false, false, false, false, false, false, false, true, true, true]), (wsX5_parts_r1, [false, false, false, false, false, false, true])] (gm_c mi_wsX5_parts_wsX5_parts_r1 (gm_c mi_wsX5_parts_wsX5_parts_r1 gm_n)) rfl (by decide +kernel)) ggX5_parts_X5_laysAll
set_option maxRecDepth 20000 in
theorem ggX5_parts_X5_laysParts : GoodIn wsX5_parts wsX5_laysParts := goodIn_m _ [(wsX5_parts_r3, [false, false, false, false, true]), (wsX5_parts_r1, [false, false, true, false, false, false, false, false, false, false, false, false, false, true, false, false, false, false, true, true]), (wsX5_parts_r3, [false, false, false, false, false, true]), (wsX50, [true, true, true, true, true, true, true, true, true, true, true, true, true, true, true, true, true, true, true, true, true, true, true, true, true, true, true, true, true, true])] (gm_c mi_wsX5_parts_wsX5_parts_r3 (gm_c mi_wsX5_parts_wsX5_parts_r1 (gm_c mi_wsX5_parts_wsX5_parts_r3 (gm_c mi_wsX5_parts_wsX50 gm_n)))) rfl (by decide +kernel)
set_option maxRecDepth 20000 in
theorem gX5_parts_X5_laysParts : GoodIn wsX5_parts (wsV RX5 118 RX5 yX5_laysParts wsX5_laysParts) := goodIn_app (goodIn_m _ [(wsX5_parts_r3, [false, true, true, true]), (wsX5_parts_r1, [false, false, false, false, false, false, true])] (gm_c mi_wsX5_parts_wsX5_parts_r3 (gm_c mi_wsX5_parts_wsX5_parts_r1 gm_n)) rfl (by decide +kernel)) ggX5_parts_X5_laysParts
def dt_cX5_parts_0 : List (Nat × Nat × Nat × Nat) := [(0, 42, 0, 0), (1, 3, 0, 0), (2, 181, 2, 77), (5, 42, 0, 0), (6, 27, 0, 0), (7, 28, 0, 0), (8, 182, 2, 142), (11, 154, 2, 5), (14, 2, 0, 0), (15, 172, 0, 0), (16, 42, 0, 0), (17, 42, 0, 0), (18, 180, 2, 13), (21, 182, 2, 124), (24, 42, 0, 0), (25, 27, 0, 0), (26, 28, 0, 0), (27, 182, 2, 118), (30, 42, 0, 0), (31, 180, 2, 115)]
theorem da_cX5_parts_0 : fw dt_cX5_parts_0 0 cX5_parts.data.toList = true := by decide +kernel
theorem dX5_parts_0 : decode cX5_parts 0 = .ok (.aload_n 0, 1) := fo_42 (fw_get da_cX5_parts_0 0 rfl)
theorem dX5_parts_1 : decode cX5_parts 1 = .ok (.iconst 0, 1) := fo_3 (fw_get da_cX5_parts_0 1 rfl)
theorem dX5_parts_2 : decode cX5_parts 2 = .ok (.putfield 77, 3) := fo_181 (fw_get da_cX5_parts_0 2 rfl)
theorem dX5_parts_5 : decode cX5_parts 5 = .ok (.aload_n 0, 1) := fo_42 (fw_get da_cX5_parts_0 3 rfl)
theorem dX5_parts_6 : decode cX5_parts 6 = .ok (.iload_n 1, 1) := fo_27 (fw_get da_cX5_parts_0 4 rfl)
theorem dX5_parts_7 : decode cX5_parts 7 = .ok (.iload_n 2, 1) := fo_28 (fw_get da_cX5_parts_0 5 rfl)
theorem dX5_parts_8 : decode cX5_parts 8 = .ok (.invokevirtual 142, 3) := fo_182 (fw_get da_cX5_parts_0 6 rfl)
theorem dX5_parts_11 : decode cX5_parts 11 = .ok (.ifCond .ne 5, 3) := fo_154 (fw_get da_cX5_parts_0 7 rfl) (by decide +kernel)
theorem dX5_parts_14 : decode cX5_parts 14 = .ok (.iconst (-1), 1) := fo_2 (fw_get da_cX5_parts_0 8 rfl)
theorem dX5_parts_15 : decode cX5_parts 15 = .ok (.ireturn, 1) := fo_172 (fw_get da_cX5_parts_0 9 rfl)
theorem dX5_parts_16 : decode cX5_parts 16 = .ok (.aload_n 0, 1) := fo_42 (fw_get da_cX5_parts_0 10 rfl)
theorem dX5_parts_17 : decode cX5_parts 17 = .ok (.aload_n 0, 1) := fo_42 (fw_get da_cX5_parts_0 11 rfl)
theorem dX5_parts_18 : decode cX5_parts 18 = .ok (.getfield 13, 3) := fo_180 (fw_get da_cX5_parts_0 12 rfl)
theorem dX5_parts_21 : decode cX5_parts 21 = .ok (.invokevirtual 124, 3) := fo_182 (fw_get da_cX5_parts_0 13 rfl)
theorem dX5_parts_24 : decode cX5_parts 24 = .ok (.aload_n 0, 1) := fo_42 (fw_get da_cX5_parts_0 14 rfl)
theorem dX5_parts_25 : decode cX5_parts 25 = .ok (.iload_n 1, 1) := fo_27 (fw_get da_cX5_parts_0 15 rfl)
theorem dX5_parts_26 : decode cX5_parts 26 = .ok (.iload_n 2, 1) := fo_28 (fw_get da_cX5_parts_0 16 rfl)
theorem dX5_parts_27 : decode cX5_parts 27 = .ok (.invokevirtual 118, 3) := fo_182 (fw_get da_cX5_parts_0 17 rfl)
theorem dX5_parts_30 : decode cX5_parts 30 = .ok (.aload_n 0, 1) := fo_42 (fw_get da_cX5_parts_0 18 rfl)
theorem dX5_parts_31 : decode cX5_parts 31 = .ok (.getfield 115, 3) := fo_180 (fw_get da_cX5_parts_0 19 rfl)
def dt_cX5_parts_1 : List (Nat × Nat × Nat × Nat) := [(34, 172, 0, 0)]
theorem da_cX5_parts_1 : fw dt_cX5_parts_1 0 cX5_parts.data.toList = true := by decide +kernel
theorem dX5_parts_34 : decode cX5_parts 34 = .ok (.ireturn, 1) := fo_172 (fw_get da_cX5_parts_1 0 rfl)
theorem mi_wsX5_part_wsX5_part_r1 : ∀ w ∈ wsX5_part_r1, w ∈ wsX5_part := fun _ h => (List.mem_cons_of_mem _ (List.mem_append_left _ (List.mem_append_left _ h)))
theorem mi_wsX5_part_wsX50 : ∀ w ∈ wsX50, w ∈ wsX5_part := fun _ h => (List.mem_cons_of_mem _ (List.mem_append_right _ h))
set_option maxRecDepth 20000 in
theorem ggX5_part_X5_isRange : GoodIn wsX5_part wsX5_isRange := goodIn_m _ [(wsX5_part_r1, [false, false, false, false, false, false, false, false, false, false, true, true]), (wsX50, [true, true, true, true, true, true, true, true, true, true, true, true, true, true, true, true, true, true, true, true, true, true, true, true, true, true, true, true, true, true])] (gm_c mi_wsX5_part_wsX5_part_r1 (gm_c mi_wsX5_part_wsX50 gm_n)) rfl (by decide +kernel)
set_option maxRecDepth 20000 in
theorem gX5_part_X5_isRange : GoodIn wsX5_part (wsV RX5 142 RX5 yX5_isRange wsX5_isRange) := goodIn_app (goodIn_m _ [(wsX5_part_r1, [false, false, false, false, false, false, true, true, true, true])] (gm_c mi_wsX5_part_wsX5_part_r1 gm_n) rfl (by decide +kernel)) ggX5_part_X5_isRange
set_option maxRecDepth 20000 in
theorem ggX5_part_X5_within : GoodIn wsX5_part wsX5_within := goodIn_m _ [(wsX5_part_r1, [false, false, false, false, false, false, false, false, false, false, false, false, false, false, true])] (gm_c mi_wsX5_part_wsX5_part_r1 gm_n) rfl (by decide +kernel)
set_option maxRecDepth 20000 in
theorem gX5_part_X5_within : GoodIn wsX5_part (va_wsS RX5 80 yX5_within wsX5_within) := goodIn_app (goodIn_m _ [(wsX5_part_r1, [false, false, false, false, false, false, false, false, false, false, false, false, true, true]), (wsX5_part_r1, [false, false, false, false, false, false, false, false, false, true])] (gm_c mi_wsX5_part_wsX5_part_r1 (gm_c mi_wsX5_part_wsX5_part_r1 gm_n)) rfl (by decide +kernel)) ggX5_part_X5_within
theorem mi_wsX5_part_wsX5_part_r2 : ∀ w ∈ wsX5_part_r2, w ∈ wsX5_part := fun _ h => (List.mem_cons_of_mem _ (List.mem_append_left _ (List.mem_append_right _ (List.mem_append_left _ h))))
theorem mi_wsX5_part_wsX5_part_r3 : ∀ w ∈ wsX5_part_r3, w ∈ wsX5_part := fun _ h => (List.mem_cons_of_mem _ (List.mem_append_left _ (List.mem_append_right _ (List.mem_append_right _ h))))
set_option maxRecDepth 20000 in
theorem ggX5_part_X5_laysAll : GoodIn wsX5_part wsX5_laysAll := goodIn_m _ [(wsX5_part_r1, [false, false, false, false, false, false, false, false, false, false, false, false, false, false, false, false, false, false, true, true]), (wsX5_part_r1, [false, false, false, false, false, false, false, false, false, false, false, true, false, false, false, false, false, false, false, false, true, true, true]), (wsX5_part_r1, [false, false, false, false, false, false, false, false, false, true, false, false, false, false, false, false, false, false, false, false, false, false, false, true]), (wsX5_part_r1, [false, false, false, true, false, true]), (wsX5_part_r2, [true, true, true, true, true, true, true, true, true, true, true, true, true, true, true, true, true, true, true, true, true, true, true, true]), (wsX5_part_r3, [true, true, true, true, true]), (wsX50, [true, true, true, true, true, true, true, true, true, true, true, true, true, true, true, true, true, true, true, true, true, true, true, true, true, true, true, true, true, true])] (gm_c mi_wsX5_part_wsX5_part_r1 (gm_c mi_wsX5_part_wsX5_part_r1 (gm_c mi_wsX5_part_wsX5_part_r1 (gm_c mi_wsX5_part_wsX5_part_r1 (gm_c mi_wsX5_part_wsX5_part_r2 (gm_c mi_wsX5_part_wsX5_part_r3 (gm_c mi_wsX5_part_wsX50 gm_n))))))) rfl (by decide +kernel)
set_option maxRecDepth 20000 in
theorem gX5_part_X5_laysAll : GoodIn wsX5_part (wsV RX5 124 RX5 yX5_laysAll wsX5_laysAll) := goodIn_app (goodIn_m _ [(wsX5_part_r1, [false, false, false, false, false, false, false, false, false, false, false, false, false, false, false, true, true, true]), (wsX5_part_r1, [false, false, false, false, false, false, false, false, false, true])] (gm_c mi_wsX5_part_wsX5_part_r1 (gm_c mi_wsX5_part_wsX5_part_r1 gm_n)) rfl (by decide +kernel)) ggX5_part_X5_laysAll
set_option maxRecDepth 20000 in
theorem ggX5_part_X5_laysParts : GoodIn wsX5_part wsX5_laysParts := goodIn_m _ [(wsX5_part_r3, [false, false, false, false, false, false, false, false, true]), (wsX5_part_r1, [false, false, true, false, false, false, false, false, false, false, false, false, false, false, false, false, false, false, false, true]), (wsX5_part_r1, [false, false, false, true, false, true]), (wsX5_part_r1, [false, false, false, false, true]), (wsX50, [true, true, true, true, true, true, true, true, true, true, true, true, true, true, true, true, true, true, true, true, true, true, true, true, true, true, true, true, true, true])] (gm_c mi_wsX5_part_wsX5_part_r3 (gm_c mi_wsX5_part_wsX5_part_r1 (gm_c mi_wsX5_part_wsX5_part_r1 (gm_c mi_wsX5_part_wsX5_part_r1 (gm_c mi_wsX5_part_wsX50 gm_n))))) rfl (by decide +kernel)
set_option maxRecDepth 20000 in
theorem gX5_part_X5_laysParts : GoodIn wsX5_part (wsV RX5 118 RX5 yX5_laysParts wsX5_laysParts) := goodIn_app (goodIn_m _ [(wsX5_part_r3, [false, false, false, false, false, true, true, true]), (wsX5_part_r1, [false, false, false, false, false, false, false, false, false, true])] (gm_c mi_wsX5_part_wsX5_part_r3 (gm_c mi_wsX5_part_wsX5_part_r1 gm_n)) rfl (by decide +kernel)) ggX5_part_X5_laysParts
def dt_cX5_part_0 : List (Nat × Nat × Nat × Nat) := [(0, 42, 0, 0), (1, 3, 0, 0), (2, 181, 2, 77), (5, 42, 0, 0), (6, 27, 0, 0), (7, 28, 0, 0), (8, 182, 2, 142), (11, 153, 2, 13), (14, 21, 1, 4), (16, 3, 0, 0), (17, 4, 0, 0), (18, 184, 2, 80), (21, 154, 2, 5), (24, 2, 0, 0), (25, 172, 0, 0), (26, 42, 0, 0), (27, 42, 0, 0), (28, 180, 2, 13), (31, 182, 2, 124), (34, 42, 0, 0)]
theorem da_cX5_part_0 : fw dt_cX5_part_0 0 cX5_part.data.toList = true := by decide +kernel
theorem dX5_part_0 : decode cX5_part 0 = .ok (.aload_n 0, 1) := fo_42 (fw_get da_cX5_part_0 0 rfl)
theorem dX5_part_1 : decode cX5_part 1 = .ok (.iconst 0, 1) := fo_3 (fw_get da_cX5_part_0 1 rfl)
theorem dX5_part_2 : decode cX5_part 2 = .ok (.putfield 77, 3) := fo_181 (fw_get da_cX5_part_0 2 rfl)
theorem dX5_part_5 : decode cX5_part 5 = .ok (.aload_n 0, 1) := fo_42 (fw_get da_cX5_part_0 3 rfl)
theorem dX5_part_6 : decode cX5_part 6 = .ok (.iload_n 1, 1) := fo_27 (fw_get da_cX5_part_0 4 rfl)
theorem dX5_part_7 : decode cX5_part 7 = .ok (.iload_n 2, 1) := fo_28 (fw_get da_cX5_part_0 5 rfl)
theorem dX5_part_8 : decode cX5_part 8 = .ok (.invokevirtual 142, 3) := fo_182 (fw_get da_cX5_part_0 6 rfl)
theorem dX5_part_11 : decode cX5_part 11 = .ok (.ifCond .eq 13, 3) := fo_153 (fw_get da_cX5_part_0 7 rfl) (by decide +kernel)
theorem dX5_part_14 : decode cX5_part 14 = .ok (.iload 4, 2) := fo_21 (fw_get da_cX5_part_0 8 rfl)
theorem dX5_part_16 : decode cX5_part 16 = .ok (.iconst 0, 1) := fo_3 (fw_get da_cX5_part_0 9 rfl)
theorem dX5_part_17 : decode cX5_part 17 = .ok (.iconst 1, 1) := fo_4 (fw_get da_cX5_part_0 10 rfl)
theorem dX5_part_18 : decode cX5_part 18 = .ok (.invokestatic 80, 3) := fo_184 (fw_get da_cX5_part_0 11 rfl)
theorem dX5_part_21 : decode cX5_part 21 = .ok (.ifCond .ne 5, 3) := fo_154 (fw_get da_cX5_part_0 12 rfl) (by decide +kernel)
theorem dX5_part_24 : decode cX5_part 24 = .ok (.iconst (-1), 1) := fo_2 (fw_get da_cX5_part_0 13 rfl)
theorem dX5_part_25 : decode cX5_part 25 = .ok (.ireturn, 1) := fo_172 (fw_get da_cX5_part_0 14 rfl)
theorem dX5_part_26 : decode cX5_part 26 = .ok (.aload_n 0, 1) := fo_42 (fw_get da_cX5_part_0 15 rfl)
theorem dX5_part_27 : decode cX5_part 27 = .ok (.aload_n 0, 1) := fo_42 (fw_get da_cX5_part_0 16 rfl)
theorem dX5_part_28 : decode cX5_part 28 = .ok (.getfield 13, 3) := fo_180 (fw_get da_cX5_part_0 17 rfl)
theorem dX5_part_31 : decode cX5_part 31 = .ok (.invokevirtual 124, 3) := fo_182 (fw_get da_cX5_part_0 18 rfl)
theorem dX5_part_34 : decode cX5_part 34 = .ok (.aload_n 0, 1) := fo_42 (fw_get da_cX5_part_0 19 rfl)
def dt_cX5_part_1 : List (Nat × Nat × Nat × Nat) := [(35, 27, 0, 0), (36, 28, 0, 0), (37, 182, 2, 118), (40, 29, 0, 0), (41, 3, 0, 0), (42, 42, 0, 0), (43, 180, 2, 115), (46, 4, 0, 0), (47, 100, 0, 0), (48, 184, 2, 80), (51, 154, 2, 5), (54, 2, 0, 0), (55, 172, 0, 0), (56, 21, 1, 4), (58, 154, 2, 17), (61, 42, 0, 0), (62, 180, 2, 38), (65, 42, 0, 0), (66, 180, 2, 44), (69, 29, 0, 0)]
theorem da_cX5_part_1 : fw dt_cX5_part_1 0 cX5_part.data.toList = true := by decide +kernel
theorem dX5_part_35 : decode cX5_part 35 = .ok (.iload_n 1, 1) := fo_27 (fw_get da_cX5_part_1 0 rfl)
theorem dX5_part_36 : decode cX5_part 36 = .ok (.iload_n 2, 1) := fo_28 (fw_get da_cX5_part_1 1 rfl)
theorem dX5_part_37 : decode cX5_part 37 = .ok (.invokevirtual 118, 3) := fo_182 (fw_get da_cX5_part_1 2 rfl)
theorem dX5_part_40 : decode cX5_part 40 = .ok (.iload_n 3, 1) := fo_29 (fw_get da_cX5_part_1 3 rfl)
theorem dX5_part_41 : decode cX5_part 41 = .ok (.iconst 0, 1) := fo_3 (fw_get da_cX5_part_1 4 rfl)
theorem dX5_part_42 : decode cX5_part 42 = .ok (.aload_n 0, 1) := fo_42 (fw_get da_cX5_part_1 5 rfl)
theorem dX5_part_43 : decode cX5_part 43 = .ok (.getfield 115, 3) := fo_180 (fw_get da_cX5_part_1 6 rfl)
theorem dX5_part_46 : decode cX5_part 46 = .ok (.iconst 1, 1) := fo_4 (fw_get da_cX5_part_1 7 rfl)
theorem dX5_part_47 : decode cX5_part 47 = .ok (.isub, 1) := fo_100 (fw_get da_cX5_part_1 8 rfl)
theorem dX5_part_48 : decode cX5_part 48 = .ok (.invokestatic 80, 3) := fo_184 (fw_get da_cX5_part_1 9 rfl)
theorem dX5_part_51 : decode cX5_part 51 = .ok (.ifCond .ne 5, 3) := fo_154 (fw_get da_cX5_part_1 10 rfl) (by decide +kernel)
theorem dX5_part_54 : decode cX5_part 54 = .ok (.iconst (-1), 1) := fo_2 (fw_get da_cX5_part_1 11 rfl)
theorem dX5_part_55 : decode cX5_part 55 = .ok (.ireturn, 1) := fo_172 (fw_get da_cX5_part_1 12 rfl)
theorem dX5_part_56 : decode cX5_part 56 = .ok (.iload 4, 2) := fo_21 (fw_get da_cX5_part_1 13 rfl)
theorem dX5_part_58 : decode cX5_part 58 = .ok (.ifCond .ne 17, 3) := fo_154 (fw_get da_cX5_part_1 14 rfl) (by decide +kernel)
theorem dX5_part_61 : decode cX5_part 61 = .ok (.aload_n 0, 1) := fo_42 (fw_get da_cX5_part_1 15 rfl)
theorem dX5_part_62 : decode cX5_part 62 = .ok (.getfield 38, 3) := fo_180 (fw_get da_cX5_part_1 16 rfl)
theorem dX5_part_65 : decode cX5_part 65 = .ok (.aload_n 0, 1) := fo_42 (fw_get da_cX5_part_1 17 rfl)
theorem dX5_part_66 : decode cX5_part 66 = .ok (.getfield 44, 3) := fo_180 (fw_get da_cX5_part_1 18 rfl)
theorem dX5_part_69 : decode cX5_part 69 = .ok (.iload_n 3, 1) := fo_29 (fw_get da_cX5_part_1 19 rfl)
def dt_cX5_part_2 : List (Nat × Nat × Nat × Nat) := [(70, 46, 0, 0), (71, 46, 0, 0), (72, 167, 2, 14), (75, 42, 0, 0), (76, 180, 2, 41), (79, 42, 0, 0), (80, 180, 2, 44), (83, 29, 0, 0), (84, 46, 0, 0), (85, 46, 0, 0), (86, 172, 0, 0)]
theorem da_cX5_part_2 : fw dt_cX5_part_2 0 cX5_part.data.toList = true := by decide +kernel
theorem dX5_part_70 : decode cX5_part 70 = .ok (.iaload, 1) := fo_46 (fw_get da_cX5_part_2 0 rfl)
theorem dX5_part_71 : decode cX5_part 71 = .ok (.iaload, 1) := fo_46 (fw_get da_cX5_part_2 1 rfl)
theorem dX5_part_72 : decode cX5_part 72 = .ok (.goto 14, 3) := fo_167 (fw_get da_cX5_part_2 2 rfl) (by decide +kernel)
theorem dX5_part_75 : decode cX5_part 75 = .ok (.aload_n 0, 1) := fo_42 (fw_get da_cX5_part_2 3 rfl)
theorem dX5_part_76 : decode cX5_part 76 = .ok (.getfield 41, 3) := fo_180 (fw_get da_cX5_part_2 4 rfl)
theorem dX5_part_79 : decode cX5_part 79 = .ok (.aload_n 0, 1) := fo_42 (fw_get da_cX5_part_2 5 rfl)
theorem dX5_part_80 : decode cX5_part 80 = .ok (.getfield 44, 3) := fo_180 (fw_get da_cX5_part_2 6 rfl)
theorem dX5_part_83 : decode cX5_part 83 = .ok (.iload_n 3, 1) := fo_29 (fw_get da_cX5_part_2 7 rfl)
theorem dX5_part_84 : decode cX5_part 84 = .ok (.iaload, 1) := fo_46 (fw_get da_cX5_part_2 8 rfl)
theorem dX5_part_85 : decode cX5_part 85 = .ok (.iaload, 1) := fo_46 (fw_get da_cX5_part_2 9 rfl)
theorem dX5_part_86 : decode cX5_part 86 = .ok (.ireturn, 1) := fo_172 (fw_get da_cX5_part_2 10 rfl)
theorem mi_wsX5_sums_wsX5_sums_r1 : ∀ w ∈ wsX5_sums_r1, w ∈ wsX5_sums := fun _ h => (List.mem_cons_of_mem _ (List.mem_append_left _ (List.mem_append_left _ h)))
theorem mi_wsX5_sums_wsX5_sums_r2 : ∀ w ∈ wsX5_sums_r2, w ∈ wsX5_sums := fun _ h => (List.mem_cons_of_mem _ (List.mem_append_left _ (List.mem_append_right _ (List.mem_append_left _ h))))
theorem mi_wsX5_sums_wsX50 : ∀ w ∈ wsX50, w ∈ wsX5_sums := fun _ h => (List.mem_cons_of_mem _ (List.mem_append_right _ h))
set_option maxRecDepth 20000 in
theorem ggX5_sums_X5_laysAll : GoodIn wsX5_sums wsX5_laysAll := goodIn_m _ [(wsX5_sums_r1, [false, false, false, false, false, true, true, true, true, true, true]), (wsX5_sums_r1, [false, false, false, false, true, false, false, false, false, false, false, true, true, true, true, true, true, true, true, true, true, true, true, true]), (wsX5_sums_r2, [true, true, true, true, true, true, true, true, true, true, true, true, true, true, true, true, true, true, true]), (wsX50, [true, true, true, true, true, true, true, true, true, true, true, true, true, true, true, true, true, true, true, true, true, true, true, true, true, true, true, true, true, true])] (gm_c mi_wsX5_sums_wsX5_sums_r1 (gm_c mi_wsX5_sums_wsX5_sums_r1 (gm_c mi_wsX5_sums_wsX5_sums_r2 (gm_c mi_wsX5_sums_wsX50 gm_n)))) rfl (by decide +kernel)
set_option maxRecDepth 20000 in
theorem gX5_sums_X5_laysAll : GoodIn wsX5_sums (wsV RX5 124 RX5 yX5_laysAll wsX5_laysAll) := goodIn_app (goodIn_m _ [(wsX5_sums_r1, [false, true, true, true, true])] (gm_c mi_wsX5_sums_wsX5_sums_r1 gm_n) rfl (by decide +kernel)) ggX5_sums_X5_laysAll
theorem mi_wsX5_sums_wsX5_sums_r3 : ∀ w ∈ wsX5_sums_r3, w ∈ wsX5_sums := fun _ h => (List.mem_cons_of_mem _ (List.mem_append_left _ (List.mem_append_right _ (List.mem_append_right _ h))))
set_option maxRecDepth 20000 in
theorem ggX5_sums_X5_folds : GoodIn wsX5_sums wsX5_folds := goodIn_m _ [(wsX5_sums_r2, [false, false, false, false, false, false, false, false, false, false, false, false, false, false, false, false, false, false, false, false, false, false, true, true]), (wsX5_sums_r3, [true, true, true, true]), (wsX5_sums_r1, [false, false, false, false, true]), (wsX5_sums_r3, [false, false, false, false, true]), (wsX5_sums_r1, [false, false, false, false, false, false, true, false, false, false, false, false, true, true]), (wsX5_sums_r3, [false, false, false, false, false, true, true, true, true]), (wsX5_sums_r1, [false, false, false, false, false, false, false, false, false, false, false, false, false, false, false, false, false, false, false, true, true, true, true, true]), (wsX5_sums_r2, [true, true, true, true, true, true, true, true, true, true, true, true, true, true, true, true, true, true, true]), (wsX50, [true, true, true, true, true, true, true, true, true, true, true, true, true, true, true, true, true, true, true, true, true, true, true, true, true, true, true, true, true, true])] (gm_c mi_wsX5_sums_wsX5_sums_r2 (gm_c mi_wsX5_sums_wsX5_sums_r3 (gm_c mi_wsX5_sums_wsX5_sums_r1 (gm_c mi_wsX5_sums_wsX5_sums_r3 (gm_c mi_wsX5_sums_wsX5_sums_r1 (gm_c mi_wsX5_sums_wsX5_sums_r3 (gm_c mi_wsX5_sums_wsX5_sums_r1 (gm_c mi_wsX5_sums_wsX5_sums_r2 (gm_c mi_wsX5_sums_wsX50 gm_n))))))))) rfl (by decide +kernel)
set_option maxRecDepth 20000 in
theorem gX5_sums_X5_folds : GoodIn wsX5_sums (wsV RX5 168 RX5 yX5_folds wsX5_folds) := goodIn_app (goodIn_m _ [(wsX5_sums_r2, [false, false, false, false, false, false, false, false, false, false, false, false, false, false, false, false, false, false, false, true, true, true]), (wsX5_sums_r1, [false, false, false, false, true])] (gm_c mi_wsX5_sums_wsX5_sums_r2 (gm_c mi_wsX5_sums_wsX5_sums_r1 gm_n)) rfl (by decide +kernel)) ggX5_sums_X5_folds
def dt_cX5_sums_0 : List (Nat × Nat × Nat × Nat) := [(0, 42, 0, 0), (1, 42, 0, 0), (2, 180, 2, 13), (5, 182, 2, 124), (8, 42, 0, 0), (9, 27, 0, 0), (10, 28, 0, 0), (11, 17, 2, 320), (14, 42, 0, 0), (15, 180, 2, 13), (18, 182, 2, 168), (21, 177, 0, 0)]
theorem da_cX5_sums_0 : fw dt_cX5_sums_0 0 cX5_sums.data.toList = true := by decide +kernel
theorem dX5_sums_0 : decode cX5_sums 0 = .ok (.aload_n 0, 1) := fo_42 (fw_get da_cX5_sums_0 0 rfl)
theorem dX5_sums_1 : decode cX5_sums 1 = .ok (.aload_n 0, 1) := fo_42 (fw_get da_cX5_sums_0 1 rfl)
theorem dX5_sums_2 : decode cX5_sums 2 = .ok (.getfield 13, 3) := fo_180 (fw_get da_cX5_sums_0 2 rfl)
theorem dX5_sums_5 : decode cX5_sums 5 = .ok (.invokevirtual 124, 3) := fo_182 (fw_get da_cX5_sums_0 3 rfl)
theorem dX5_sums_8 : decode cX5_sums 8 = .ok (.aload_n 0, 1) := fo_42 (fw_get da_cX5_sums_0 4 rfl)
theorem dX5_sums_9 : decode cX5_sums 9 = .ok (.iload_n 1, 1) := fo_27 (fw_get da_cX5_sums_0 5 rfl)
theorem dX5_sums_10 : decode cX5_sums 10 = .ok (.iload_n 2, 1) := fo_28 (fw_get da_cX5_sums_0 6 rfl)
theorem dX5_sums_11 : decode cX5_sums 11 = .ok (.sipush 320, 3) := fo_17 (fw_get da_cX5_sums_0 7 rfl) (by decide +kernel)
theorem dX5_sums_14 : decode cX5_sums 14 = .ok (.aload_n 0, 1) := fo_42 (fw_get da_cX5_sums_0 8 rfl)
theorem dX5_sums_15 : decode cX5_sums 15 = .ok (.getfield 13, 3) := fo_180 (fw_get da_cX5_sums_0 9 rfl)
theorem dX5_sums_18 : decode cX5_sums 18 = .ok (.invokevirtual 168, 3) := fo_182 (fw_get da_cX5_sums_0 10 rfl)
theorem dX5_sums_21 : decode cX5_sums 21 = .ok (.return_, 1) := fo_177 (fw_get da_cX5_sums_0 11 rfl)
theorem mi_wsX5_summary_wsX5_summary_r1 : ∀ w ∈ wsX5_summary_r1, w ∈ wsX5_summary := fun _ h => (List.mem_cons_of_mem _ (List.mem_append_left _ (List.mem_append_left _ h)))
theorem mi_wsX5_summary_wsX50 : ∀ w ∈ wsX50, w ∈ wsX5_summary := fun _ h => (List.mem_cons_of_mem _ (List.mem_append_right _ h))
set_option maxRecDepth 20000 in
theorem ggX5_summary_X5_isRange : GoodIn wsX5_summary wsX5_isRange := goodIn_m _ [(wsX5_summary_r1, [false, false, false, false, false, false, false, true, true]), (wsX50, [true, true, true, true, true, true, true, true, true, true, true, true, true, true, true, true, true, true, true, true, true, true, true, true, true, true, true, true, true, true])] (gm_c mi_wsX5_summary_wsX5_summary_r1 (gm_c mi_wsX5_summary_wsX50 gm_n)) rfl (by decide +kernel)
set_option maxRecDepth 20000 in
theorem gX5_summary_X5_isRange : GoodIn wsX5_summary (wsV RX5 142 RX5 yX5_isRange wsX5_isRange) := goodIn_app (goodIn_m _ [(wsX5_summary_r1, [false, false, false, true, true, true, true])] (gm_c mi_wsX5_summary_wsX5_summary_r1 gm_n) rfl (by decide +kernel)) ggX5_summary_X5_isRange
set_option maxRecDepth 20000 in
theorem ggX5_summary_X5_within : GoodIn wsX5_summary wsX5_within := goodIn_m _ [(wsX5_summary_r1, [false, false, false, false, false, false, false, false, false, false, false, true])] (gm_c mi_wsX5_summary_wsX5_summary_r1 gm_n) rfl (by decide +kernel)
set_option maxRecDepth 20000 in
theorem gX5_summary_X5_within : GoodIn wsX5_summary (va_wsS RX5 80 yX5_within wsX5_within) := goodIn_app (goodIn_m _ [(wsX5_summary_r1, [false, false, false, false, false, false, false, false, false, true, true]), (wsX5_summary_r1, [false, false, false, false, false, false, true])] (gm_c mi_wsX5_summary_wsX5_summary_r1 (gm_c mi_wsX5_summary_wsX5_summary_r1 gm_n)) rfl (by decide +kernel)) ggX5_summary_X5_within
theorem mi_wsX5_summary_wsX5_summary_r2 : ∀ w ∈ wsX5_summary_r2, w ∈ wsX5_summary := fun _ h => (List.mem_cons_of_mem _ (List.mem_append_left _ (List.mem_append_right _ (List.mem_append_left _ h))))
theorem mi_wsX5_summary_wsX5_summary_r3 : ∀ w ∈ wsX5_summary_r3, w ∈ wsX5_summary := fun _ h => (List.mem_cons_of_mem _ (List.mem_append_left _ (List.mem_append_right _ (List.mem_append_right _ (List.mem_append_left _ h)))))
set_option maxRecDepth 20000 in
theorem ggX5_summary_X5_sums : GoodIn wsX5_summary wsX5_sums := goodIn_m _ [(wsX5_summary_r1, [false, false, false, false, false, false, false, false, false, false, false, false, false, false, false, true, true, true, true, true]), (wsX5_summary_r1, [false, false, false, false, false, false, true, false, false, false, false, false, false, false, false, false, false, false, false, false, true, true]), (wsX5_summary_r1, [false, false, false, false, false, false, false, false, true, false, false, false, false, false, false, false, false, false, false, false, false, false, true, true]), (wsX5_summary_r2, [true, true, true, true, true, true, true, true, true]), (wsX5_summary_r1, [false, true, true]), (wsX5_summary_r2, [false, false, false, false, false, false, false, false, false, true, true, true, true, true, true, true, true, true, true, true, true, true, true, true]), (wsX5_summary_r3, [true, true, true, true, true, true, true, true, true, true, true, true, true, true, true, true, true, true, true, true, true]), (wsX50, [true, true, true, true, true, true, true, true, true, true, true, true, true, true, true, true, true, true, true, true, true, true, true, true, true, true, true, true, true, true])] (gm_c mi_wsX5_summary_wsX5_summary_r1 (gm_c mi_wsX5_summary_wsX5_summary_r1 (gm_c mi_wsX5_summary_wsX5_summary_r1 (gm_c mi_wsX5_summary_wsX5_summary_r2 (gm_c mi_wsX5_summary_wsX5_summary_r1 (gm_c mi_wsX5_summary_wsX5_summary_r2 (gm_c mi_wsX5_summary_wsX5_summary_r3 (gm_c mi_wsX5_summary_wsX50 gm_n)))))))) rfl (by decide +kernel)
set_option maxRecDepth 20000 in
theorem gX5_summary_X5_sums : GoodIn wsX5_summary (wsV RX5 171 RX5 yX5_sums wsX5_sums) := goodIn_app (goodIn_m _ [(wsX5_summary_r1, [false, false, false, false, false, false, false, false, false, false, false, false, true, true, true]), (wsX5_summary_r1, [false, false, false, false, false, false, true])] (gm_c mi_wsX5_summary_wsX5_summary_r1 (gm_c mi_wsX5_summary_wsX5_summary_r1 gm_n)) rfl (by decide +kernel)) ggX5_summary_X5_sums
theorem mi_wsX5_summary_wsX5_summary_r4 : ∀ w ∈ wsX5_summary_r4, w ∈ wsX5_summary := fun _ h => (List.mem_cons_of_mem _ (List.mem_append_left _ (List.mem_append_right _ (List.mem_append_right _ (List.mem_append_right _ h)))))
set_option maxRecDepth 20000 in
theorem ggX5_summary_X5_numbersOf : GoodIn wsX5_summary wsX5_numbersOf := goodIn_m _ [(wsX5_summary_r4, [true]), (wsX5_summary_r1, [false, true]), (wsX5_summary_r2, [false, false, false, false, false, false, false, false, false, false, false, true]), (wsX50, [true, true, true, true, true, true, true, true, true, true, true, true, true, true, true, true, true, true, true, true, true, true, true, true, true, true, true, true, true, true])] (gm_c mi_wsX5_summary_wsX5_summary_r4 (gm_c mi_wsX5_summary_wsX5_summary_r1 (gm_c mi_wsX5_summary_wsX5_summary_r2 (gm_c mi_wsX5_summary_wsX50 gm_n)))) rfl (by decide +kernel)
set_option maxRecDepth 20000 in
theorem gX5_summary_X5_numbersOf : GoodIn wsX5_summary (wsV RX5 174 RX5 yX5_numbersOf wsX5_numbersOf) := goodIn_app (goodIn_m _ [(wsX5_summary_r3, [false, false, false, false, false, false, false, false, false, false, false, false, false, false, false, false, false, false, false, false, false, true, true, true]), (wsX5_summary_r1, [false, false, false, false, false, false, true])] (gm_c mi_wsX5_summary_wsX5_summary_r3 (gm_c mi_wsX5_summary_wsX5_summary_r1 gm_n)) rfl (by decide +kernel)) ggX5_summary_X5_numbersOf
def dt_cX5_summary_0 : List (Nat × Nat × Nat × Nat) := [(0, 42, 0, 0), (1, 3, 0, 0), (2, 181, 2, 77), (5, 42, 0, 0), (6, 27, 0, 0), (7, 28, 0, 0), (8, 182, 2, 142), (11, 153, 2, 12), (14, 29, 0, 0), (15, 3, 0, 0), (16, 5, 0, 0), (17, 184, 2, 80), (20, 154, 2, 5), (23, 2, 0, 0), (24, 172, 0, 0), (25, 42, 0, 0), (26, 27, 0, 0), (27, 28, 0, 0), (28, 182, 2, 171), (31, 29, 0, 0)]
theorem da_cX5_summary_0 : fw dt_cX5_summary_0 0 cX5_summary.data.toList = true := by decide +kernel
theorem dX5_summary_0 : decode cX5_summary 0 = .ok (.aload_n 0, 1) := fo_42 (fw_get da_cX5_summary_0 0 rfl)
theorem dX5_summary_1 : decode cX5_summary 1 = .ok (.iconst 0, 1) := fo_3 (fw_get da_cX5_summary_0 1 rfl)
theorem dX5_summary_2 : decode cX5_summary 2 = .ok (.putfield 77, 3) := fo_181 (fw_get da_cX5_summary_0 2 rfl)
theorem dX5_summary_5 : decode cX5_summary 5 = .ok (.aload_n 0, 1) := fo_42 (fw_get da_cX5_summary_0 3 rfl)
theorem dX5_summary_6 : decode cX5_summary 6 = .ok (.iload_n 1, 1) := fo_27 (fw_get da_cX5_summary_0 4 rfl)
theorem dX5_summary_7 : decode cX5_summary 7 = .ok (.iload_n 2, 1) := fo_28 (fw_get da_cX5_summary_0 5 rfl)
theorem dX5_summary_8 : decode cX5_summary 8 = .ok (.invokevirtual 142, 3) := fo_182 (fw_get da_cX5_summary_0 6 rfl)
theorem dX5_summary_11 : decode cX5_summary 11 = .ok (.ifCond .eq 12, 3) := fo_153 (fw_get da_cX5_summary_0 7 rfl) (by decide +kernel)
theorem dX5_summary_14 : decode cX5_summary 14 = .ok (.iload_n 3, 1) := fo_29 (fw_get da_cX5_summary_0 8 rfl)
theorem dX5_summary_15 : decode cX5_summary 15 = .ok (.iconst 0, 1) := fo_3 (fw_get da_cX5_summary_0 9 rfl)
theorem dX5_summary_16 : decode cX5_summary 16 = .ok (.iconst 2, 1) := fo_5 (fw_get da_cX5_summary_0 10 rfl)
theorem dX5_summary_17 : decode cX5_summary 17 = .ok (.invokestatic 80, 3) := fo_184 (fw_get da_cX5_summary_0 11 rfl)
theorem dX5_summary_20 : decode cX5_summary 20 = .ok (.ifCond .ne 5, 3) := fo_154 (fw_get da_cX5_summary_0 12 rfl) (by decide +kernel)
theorem dX5_summary_23 : decode cX5_summary 23 = .ok (.iconst (-1), 1) := fo_2 (fw_get da_cX5_summary_0 13 rfl)
theorem dX5_summary_24 : decode cX5_summary 24 = .ok (.ireturn, 1) := fo_172 (fw_get da_cX5_summary_0 14 rfl)
theorem dX5_summary_25 : decode cX5_summary 25 = .ok (.aload_n 0, 1) := fo_42 (fw_get da_cX5_summary_0 15 rfl)
theorem dX5_summary_26 : decode cX5_summary 26 = .ok (.iload_n 1, 1) := fo_27 (fw_get da_cX5_summary_0 16 rfl)
theorem dX5_summary_27 : decode cX5_summary 27 = .ok (.iload_n 2, 1) := fo_28 (fw_get da_cX5_summary_0 17 rfl)
theorem dX5_summary_28 : decode cX5_summary 28 = .ok (.invokevirtual 171, 3) := fo_182 (fw_get da_cX5_summary_0 18 rfl)
theorem dX5_summary_31 : decode cX5_summary 31 = .ok (.iload_n 3, 1) := fo_29 (fw_get da_cX5_summary_0 19 rfl)
def dt_cX5_summary_1 : List (Nat × Nat × Nat × Nat) := [(32, 154, 2, 14), (35, 42, 0, 0), (36, 180, 2, 17), (39, 17, 2, 320), (42, 46, 0, 0), (43, 167, 2, 26), (46, 29, 0, 0), (47, 4, 0, 0), (48, 160, 2, 13), (51, 42, 0, 0), (52, 17, 2, 320), (55, 182, 2, 174), (58, 167, 2, 11), (61, 42, 0, 0), (62, 180, 2, 20), (65, 17, 2, 320), (68, 46, 0, 0), (69, 172, 0, 0)]
theorem da_cX5_summary_1 : fw dt_cX5_summary_1 0 cX5_summary.data.toList = true := by decide +kernel
theorem dX5_summary_32 : decode cX5_summary 32 = .ok (.ifCond .ne 14, 3) := fo_154 (fw_get da_cX5_summary_1 0 rfl) (by decide +kernel)
theorem dX5_summary_35 : decode cX5_summary 35 = .ok (.aload_n 0, 1) := fo_42 (fw_get da_cX5_summary_1 1 rfl)
theorem dX5_summary_36 : decode cX5_summary 36 = .ok (.getfield 17, 3) := fo_180 (fw_get da_cX5_summary_1 2 rfl)
theorem dX5_summary_39 : decode cX5_summary 39 = .ok (.sipush 320, 3) := fo_17 (fw_get da_cX5_summary_1 3 rfl) (by decide +kernel)
theorem dX5_summary_42 : decode cX5_summary 42 = .ok (.iaload, 1) := fo_46 (fw_get da_cX5_summary_1 4 rfl)
theorem dX5_summary_43 : decode cX5_summary 43 = .ok (.goto 26, 3) := fo_167 (fw_get da_cX5_summary_1 5 rfl) (by decide +kernel)
theorem dX5_summary_46 : decode cX5_summary 46 = .ok (.iload_n 3, 1) := fo_29 (fw_get da_cX5_summary_1 6 rfl)
theorem dX5_summary_47 : decode cX5_summary 47 = .ok (.iconst 1, 1) := fo_4 (fw_get da_cX5_summary_1 7 rfl)
theorem dX5_summary_48 : decode cX5_summary 48 = .ok (.if_icmp .ne 13, 3) := fo_160 (fw_get da_cX5_summary_1 8 rfl) (by decide +kernel)
theorem dX5_summary_51 : decode cX5_summary 51 = .ok (.aload_n 0, 1) := fo_42 (fw_get da_cX5_summary_1 9 rfl)
theorem dX5_summary_52 : decode cX5_summary 52 = .ok (.sipush 320, 3) := fo_17 (fw_get da_cX5_summary_1 10 rfl) (by decide +kernel)
theorem dX5_summary_55 : decode cX5_summary 55 = .ok (.invokevirtual 174, 3) := fo_182 (fw_get da_cX5_summary_1 11 rfl)
theorem dX5_summary_58 : decode cX5_summary 58 = .ok (.goto 11, 3) := fo_167 (fw_get da_cX5_summary_1 12 rfl) (by decide +kernel)
theorem dX5_summary_61 : decode cX5_summary 61 = .ok (.aload_n 0, 1) := fo_42 (fw_get da_cX5_summary_1 13 rfl)
theorem dX5_summary_62 : decode cX5_summary 62 = .ok (.getfield 20, 3) := fo_180 (fw_get da_cX5_summary_1 14 rfl)
theorem dX5_summary_65 : decode cX5_summary 65 = .ok (.sipush 320, 3) := fo_17 (fw_get da_cX5_summary_1 15 rfl) (by decide +kernel)
theorem dX5_summary_68 : decode cX5_summary 68 = .ok (.iaload, 1) := fo_46 (fw_get da_cX5_summary_1 16 rfl)
theorem dX5_summary_69 : decode cX5_summary 69 = .ok (.ireturn, 1) := fo_172 (fw_get da_cX5_summary_1 17 rfl)
theorem mi_wsX5_candidate_wsX5_candidate_r1 : ∀ w ∈ wsX5_candidate_r1, w ∈ wsX5_candidate := fun _ h => (List.mem_cons_of_mem _ (List.mem_append_left _ (List.mem_append_left _ h)))
theorem mi_wsX5_candidate_wsX50 : ∀ w ∈ wsX50, w ∈ wsX5_candidate := fun _ h => (List.mem_cons_of_mem _ (List.mem_append_right _ h))
set_option maxRecDepth 20000 in
theorem ggX5_candidate_X5_isRange : GoodIn wsX5_candidate wsX5_isRange := goodIn_m _ [(wsX5_candidate_r1, [false, false, false, false, false, false, false, false, true, true]), (wsX50, [true, true, true, true, true, true, true, true, true, true, true, true, true, true, true, true, true, true, true, true, true, true, true, true, true, true, true, true, true, true])] (gm_c mi_wsX5_candidate_wsX5_candidate_r1 (gm_c mi_wsX5_candidate_wsX50 gm_n)) rfl (by decide +kernel)
set_option maxRecDepth 20000 in
theorem gX5_candidate_X5_isRange : GoodIn wsX5_candidate (wsV RX5 142 RX5 yX5_isRange wsX5_isRange) := goodIn_app (goodIn_m _ [(wsX5_candidate_r1, [false, false, false, false, true, true, true, true])] (gm_c mi_wsX5_candidate_wsX5_candidate_r1 gm_n) rfl (by decide +kernel)) ggX5_candidate_X5_isRange
set_option maxRecDepth 20000 in
theorem ggX5_candidate_X5_within : GoodIn wsX5_candidate wsX5_within := goodIn_m _ [(wsX5_candidate_r1, [false, false, false, false, false, false, false, false, false, false, false, false, true])] (gm_c mi_wsX5_candidate_wsX5_candidate_r1 gm_n) rfl (by decide +kernel)
set_option maxRecDepth 20000 in
theorem gX5_candidate_X5_within : GoodIn wsX5_candidate (va_wsS RX5 80 yX5_within wsX5_within) := goodIn_app (goodIn_m _ [(wsX5_candidate_r1, [false, false, false, false, false, false, false, false, false, false, true, true]), (wsX5_candidate_r1, [false, false, false, false, false, false, false, true])] (gm_c mi_wsX5_candidate_wsX5_candidate_r1 (gm_c mi_wsX5_candidate_wsX5_candidate_r1 gm_n)) rfl (by decide +kernel)) ggX5_candidate_X5_within
theorem mi_wsX5_candidate_wsX5_candidate_r2 : ∀ w ∈ wsX5_candidate_r2, w ∈ wsX5_candidate := fun _ h => (List.mem_cons_of_mem _ (List.mem_append_left _ (List.mem_append_right _ (List.mem_append_left _ h))))
theorem mi_wsX5_candidate_wsX5_candidate_r3 : ∀ w ∈ wsX5_candidate_r3, w ∈ wsX5_candidate := fun _ h => (List.mem_cons_of_mem _ (List.mem_append_left _ (List.mem_append_right _ (List.mem_append_right _ (List.mem_append_left _ h)))))
set_option maxRecDepth 20000 in
theorem ggX5_candidate_X5_sums : GoodIn wsX5_candidate wsX5_sums := goodIn_m _ [(wsX5_candidate_r1, [false, false, false, false, false, false, false, false, false, false, false, false, false, false, false, false, true, true, true, true, true]), (wsX5_candidate_r1, [false, false, false, false, false, false, false, true, false, false, false, false, false, false, false, false, false, false, false, false, false, true, true]), (wsX5_candidate_r1, [false, false, false, false, false, false, false, false, false, true, false, false, false, false, false, false, false, false, false, false, false, false, false, true]), (wsX5_candidate_r2, [true, true, true, true, true, true, true, true, true, true]), (wsX5_candidate_r1, [false, true]), (wsX5_candidate_r2, [false, false, false, false, false, false, false, false, false, false, true, true]), (wsX5_candidate_r1, [false, false, true, true]), (wsX5_candidate_r2, [false, false, false, false, false, false, false, false, false, false, false, false, true, true, true, true, true, true, true, true, true, true, true, true]), (wsX5_candidate_r3, [true, true, true, true, true, true, true, true, true, true, true, true, true, true, true, true, true, true, true, true, true]), (wsX50, [true, true, true, true, true, true, true, true, true, true, true, true, true, true, true, true, true, true, true, true, true, true, true, true, true, true, true, true, true, true])] (gm_c mi_wsX5_candidate_wsX5_candidate_r1 (gm_c mi_wsX5_candidate_wsX5_candidate_r1 (gm_c mi_wsX5_candidate_wsX5_candidate_r1 (gm_c mi_wsX5_candidate_wsX5_candidate_r2 (gm_c mi_wsX5_candidate_wsX5_candidate_r1 (gm_c mi_wsX5_candidate_wsX5_candidate_r2 (gm_c mi_wsX5_candidate_wsX5_candidate_r1 (gm_c mi_wsX5_candidate_wsX5_candidate_r2 (gm_c mi_wsX5_candidate_wsX5_candidate_r3 (gm_c mi_wsX5_candidate_wsX50 gm_n)))))))))) rfl (by decide +kernel)
set_option maxRecDepth 20000 in
theorem gX5_candidate_X5_sums : GoodIn wsX5_candidate (wsV RX5 171 RX5 yX5_sums wsX5_sums) := goodIn_app (goodIn_m _ [(wsX5_candidate_r1, [false, false, false, false, false, false, false, false, false, false, false, false, false, true, true, true]), (wsX5_candidate_r1, [false, false, false, false, false, false, false, true])] (gm_c mi_wsX5_candidate_wsX5_candidate_r1 (gm_c mi_wsX5_candidate_wsX5_candidate_r1 gm_n)) rfl (by decide +kernel)) ggX5_candidate_X5_sums
theorem mi_wsX5_candidate_wsX5_candidate_r4 : ∀ w ∈ wsX5_candidate_r4, w ∈ wsX5_candidate := fun _ h => (List.mem_cons_of_mem _ (List.mem_append_left _ (List.mem_append_right _ (List.mem_append_right _ (List.mem_append_right _ h)))))
set_option maxRecDepth 20000 in
theorem ggX5_candidate_X5_times : GoodIn wsX5_candidate wsX5_times := goodIn_m _ [(wsX5_candidate_r4, [true]), (wsX5_candidate_r2, [false, false, false, false, false, true]), (wsX50, [true, true, true, true, true, true, true, true, true, true, true, true, true, true, true, true, true, true, true, true, true, true, true, true, true, true, true, true, true, true])] (gm_c mi_wsX5_candidate_wsX5_candidate_r4 (gm_c mi_wsX5_candidate_wsX5_candidate_r2 (gm_c mi_wsX5_candidate_wsX50 gm_n))) rfl (by decide +kernel)
set_option maxRecDepth 20000 in
theorem gX5_candidate_X5_times : GoodIn wsX5_candidate (wsV RX5 149 RX5 yX5_times wsX5_times) := goodIn_app (goodIn_m _ [(wsX5_candidate_r3, [false, false, false, false, false, false, false, false, false, false, false, false, false, false, false, false, false, false, false, false, false, true, true, true]), (wsX5_candidate_r1, [false, false, false, false, false, false, false, true])] (gm_c mi_wsX5_candidate_wsX5_candidate_r3 (gm_c mi_wsX5_candidate_wsX5_candidate_r1 gm_n)) rfl (by decide +kernel)) ggX5_candidate_X5_times
def dt_cX5_candidate_0 : List (Nat × Nat × Nat × Nat) := [(0, 42, 0, 0), (1, 4, 0, 0), (2, 181, 2, 77), (5, 42, 0, 0), (6, 27, 0, 0), (7, 28, 0, 0), (8, 182, 2, 142), (11, 153, 2, 13), (14, 21, 1, 4), (16, 3, 0, 0), (17, 5, 0, 0), (18, 184, 2, 80), (21, 154, 2, 5), (24, 3, 0, 0), (25, 172, 0, 0), (26, 42, 0, 0), (27, 27, 0, 0), (28, 28, 0, 0), (29, 182, 2, 171), (32, 29, 0, 0)]
theorem da_cX5_candidate_0 : fw dt_cX5_candidate_0 0 cX5_candidate.data.toList = true := by decide +kernel
theorem dX5_candidate_0 : decode cX5_candidate 0 = .ok (.aload_n 0, 1) := fo_42 (fw_get da_cX5_candidate_0 0 rfl)
theorem dX5_candidate_1 : decode cX5_candidate 1 = .ok (.iconst 1, 1) := fo_4 (fw_get da_cX5_candidate_0 1 rfl)
theorem dX5_candidate_2 : decode cX5_candidate 2 = .ok (.putfield 77, 3) := fo_181 (fw_get da_cX5_candidate_0 2 rfl)
theorem dX5_candidate_5 : decode cX5_candidate 5 = .ok (.aload_n 0, 1) := fo_42 (fw_get da_cX5_candidate_0 3 rfl)
theorem dX5_candidate_6 : decode cX5_candidate 6 = .ok (.iload_n 1, 1) := fo_27 (fw_get da_cX5_candidate_0 4 rfl)
theorem dX5_candidate_7 : decode cX5_candidate 7 = .ok (.iload_n 2, 1) := fo_28 (fw_get da_cX5_candidate_0 5 rfl)
theorem dX5_candidate_8 : decode cX5_candidate 8 = .ok (.invokevirtual 142, 3) := fo_182 (fw_get da_cX5_candidate_0 6 rfl)
theorem dX5_candidate_11 : decode cX5_candidate 11 = .ok (.ifCond .eq 13, 3) := fo_153 (fw_get da_cX5_candidate_0 7 rfl) (by decide +kernel)
theorem dX5_candidate_14 : decode cX5_candidate 14 = .ok (.iload 4, 2) := fo_21 (fw_get da_cX5_candidate_0 8 rfl)
theorem dX5_candidate_16 : decode cX5_candidate 16 = .ok (.iconst 0, 1) := fo_3 (fw_get da_cX5_candidate_0 9 rfl)
theorem dX5_candidate_17 : decode cX5_candidate 17 = .ok (.iconst 2, 1) := fo_5 (fw_get da_cX5_candidate_0 10 rfl)
theorem dX5_candidate_18 : decode cX5_candidate 18 = .ok (.invokestatic 80, 3) := fo_184 (fw_get da_cX5_candidate_0 11 rfl)
theorem dX5_candidate_21 : decode cX5_candidate 21 = .ok (.ifCond .ne 5, 3) := fo_154 (fw_get da_cX5_candidate_0 12 rfl) (by decide +kernel)
theorem dX5_candidate_24 : decode cX5_candidate 24 = .ok (.iconst 0, 1) := fo_3 (fw_get da_cX5_candidate_0 13 rfl)
theorem dX5_candidate_25 : decode cX5_candidate 25 = .ok (.ireturn, 1) := fo_172 (fw_get da_cX5_candidate_0 14 rfl)
theorem dX5_candidate_26 : decode cX5_candidate 26 = .ok (.aload_n 0, 1) := fo_42 (fw_get da_cX5_candidate_0 15 rfl)
theorem dX5_candidate_27 : decode cX5_candidate 27 = .ok (.iload_n 1, 1) := fo_27 (fw_get da_cX5_candidate_0 16 rfl)
theorem dX5_candidate_28 : decode cX5_candidate 28 = .ok (.iload_n 2, 1) := fo_28 (fw_get da_cX5_candidate_0 17 rfl)
theorem dX5_candidate_29 : decode cX5_candidate 29 = .ok (.invokevirtual 171, 3) := fo_182 (fw_get da_cX5_candidate_0 18 rfl)
theorem dX5_candidate_32 : decode cX5_candidate 32 = .ok (.iload_n 3, 1) := fo_29 (fw_get da_cX5_candidate_0 19 rfl)
def dt_cX5_candidate_1 : List (Nat × Nat × Nat × Nat) := [(33, 3, 0, 0), (34, 42, 0, 0), (35, 180, 2, 17), (38, 17, 2, 320), (41, 46, 0, 0), (42, 4, 0, 0), (43, 100, 0, 0), (44, 184, 2, 80), (47, 154, 2, 5), (50, 3, 0, 0), (51, 172, 0, 0), (52, 42, 0, 0), (53, 3, 0, 0), (54, 181, 2, 77), (57, 42, 0, 0), (58, 180, 2, 26), (61, 17, 2, 1920), (64, 29, 0, 0), (65, 96, 0, 0), (66, 46, 0, 0)]
theorem da_cX5_candidate_1 : fw dt_cX5_candidate_1 0 cX5_candidate.data.toList = true := by decide +kernel
theorem dX5_candidate_33 : decode cX5_candidate 33 = .ok (.iconst 0, 1) := fo_3 (fw_get da_cX5_candidate_1 0 rfl)
theorem dX5_candidate_34 : decode cX5_candidate 34 = .ok (.aload_n 0, 1) := fo_42 (fw_get da_cX5_candidate_1 1 rfl)
theorem dX5_candidate_35 : decode cX5_candidate 35 = .ok (.getfield 17, 3) := fo_180 (fw_get da_cX5_candidate_1 2 rfl)
theorem dX5_candidate_38 : decode cX5_candidate 38 = .ok (.sipush 320, 3) := fo_17 (fw_get da_cX5_candidate_1 3 rfl) (by decide +kernel)
theorem dX5_candidate_41 : decode cX5_candidate 41 = .ok (.iaload, 1) := fo_46 (fw_get da_cX5_candidate_1 4 rfl)
theorem dX5_candidate_42 : decode cX5_candidate 42 = .ok (.iconst 1, 1) := fo_4 (fw_get da_cX5_candidate_1 5 rfl)
theorem dX5_candidate_43 : decode cX5_candidate 43 = .ok (.isub, 1) := fo_100 (fw_get da_cX5_candidate_1 6 rfl)
theorem dX5_candidate_44 : decode cX5_candidate 44 = .ok (.invokestatic 80, 3) := fo_184 (fw_get da_cX5_candidate_1 7 rfl)
theorem dX5_candidate_47 : decode cX5_candidate 47 = .ok (.ifCond .ne 5, 3) := fo_154 (fw_get da_cX5_candidate_1 8 rfl) (by decide +kernel)
theorem dX5_candidate_50 : decode cX5_candidate 50 = .ok (.iconst 0, 1) := fo_3 (fw_get da_cX5_candidate_1 9 rfl)
theorem dX5_candidate_51 : decode cX5_candidate 51 = .ok (.ireturn, 1) := fo_172 (fw_get da_cX5_candidate_1 10 rfl)
theorem dX5_candidate_52 : decode cX5_candidate 52 = .ok (.aload_n 0, 1) := fo_42 (fw_get da_cX5_candidate_1 11 rfl)
theorem dX5_candidate_53 : decode cX5_candidate 53 = .ok (.iconst 0, 1) := fo_3 (fw_get da_cX5_candidate_1 12 rfl)
theorem dX5_candidate_54 : decode cX5_candidate 54 = .ok (.putfield 77, 3) := fo_181 (fw_get da_cX5_candidate_1 13 rfl)
theorem dX5_candidate_57 : decode cX5_candidate 57 = .ok (.aload_n 0, 1) := fo_42 (fw_get da_cX5_candidate_1 14 rfl)
theorem dX5_candidate_58 : decode cX5_candidate 58 = .ok (.getfield 26, 3) := fo_180 (fw_get da_cX5_candidate_1 15 rfl)
theorem dX5_candidate_61 : decode cX5_candidate 61 = .ok (.sipush 1920, 3) := fo_17 (fw_get da_cX5_candidate_1 16 rfl) (by decide +kernel)
theorem dX5_candidate_64 : decode cX5_candidate 64 = .ok (.iload_n 3, 1) := fo_29 (fw_get da_cX5_candidate_1 17 rfl)
theorem dX5_candidate_65 : decode cX5_candidate 65 = .ok (.iadd, 1) := fo_96 (fw_get da_cX5_candidate_1 18 rfl)
theorem dX5_candidate_66 : decode cX5_candidate 66 = .ok (.iaload, 1) := fo_46 (fw_get da_cX5_candidate_1 19 rfl)
def dt_cX5_candidate_2 : List (Nat × Nat × Nat × Nat) := [(67, 54, 1, 5), (69, 21, 1, 4), (71, 154, 2, 8), (74, 21, 1, 5), (76, 167, 2, 30), (79, 21, 1, 4), (81, 4, 0, 0), (82, 160, 2, 16), (85, 42, 0, 0), (86, 180, 2, 29), (89, 17, 2, 1920), (92, 29, 0, 0), (93, 96, 0, 0), (94, 46, 0, 0), (95, 167, 2, 11), (98, 42, 0, 0), (99, 21, 1, 5), (101, 27, 0, 0), (102, 28, 0, 0), (103, 182, 2, 149)]
theorem da_cX5_candidate_2 : fw dt_cX5_candidate_2 0 cX5_candidate.data.toList = true := by decide +kernel
theorem dX5_candidate_67 : decode cX5_candidate 67 = .ok (.istore 5, 2) := fo_54 (fw_get da_cX5_candidate_2 0 rfl)
theorem dX5_candidate_69 : decode cX5_candidate 69 = .ok (.iload 4, 2) := fo_21 (fw_get da_cX5_candidate_2 1 rfl)
theorem dX5_candidate_71 : decode cX5_candidate 71 = .ok (.ifCond .ne 8, 3) := fo_154 (fw_get da_cX5_candidate_2 2 rfl) (by decide +kernel)
theorem dX5_candidate_74 : decode cX5_candidate 74 = .ok (.iload 5, 2) := fo_21 (fw_get da_cX5_candidate_2 3 rfl)
theorem dX5_candidate_76 : decode cX5_candidate 76 = .ok (.goto 30, 3) := fo_167 (fw_get da_cX5_candidate_2 4 rfl) (by decide +kernel)
theorem dX5_candidate_79 : decode cX5_candidate 79 = .ok (.iload 4, 2) := fo_21 (fw_get da_cX5_candidate_2 5 rfl)
theorem dX5_candidate_81 : decode cX5_candidate 81 = .ok (.iconst 1, 1) := fo_4 (fw_get da_cX5_candidate_2 6 rfl)
theorem dX5_candidate_82 : decode cX5_candidate 82 = .ok (.if_icmp .ne 16, 3) := fo_160 (fw_get da_cX5_candidate_2 7 rfl) (by decide +kernel)
theorem dX5_candidate_85 : decode cX5_candidate 85 = .ok (.aload_n 0, 1) := fo_42 (fw_get da_cX5_candidate_2 8 rfl)
theorem dX5_candidate_86 : decode cX5_candidate 86 = .ok (.getfield 29, 3) := fo_180 (fw_get da_cX5_candidate_2 9 rfl)
theorem dX5_candidate_89 : decode cX5_candidate 89 = .ok (.sipush 1920, 3) := fo_17 (fw_get da_cX5_candidate_2 10 rfl) (by decide +kernel)
theorem dX5_candidate_92 : decode cX5_candidate 92 = .ok (.iload_n 3, 1) := fo_29 (fw_get da_cX5_candidate_2 11 rfl)
theorem dX5_candidate_93 : decode cX5_candidate 93 = .ok (.iadd, 1) := fo_96 (fw_get da_cX5_candidate_2 12 rfl)
theorem dX5_candidate_94 : decode cX5_candidate 94 = .ok (.iaload, 1) := fo_46 (fw_get da_cX5_candidate_2 13 rfl)
theorem dX5_candidate_95 : decode cX5_candidate 95 = .ok (.goto 11, 3) := fo_167 (fw_get da_cX5_candidate_2 14 rfl) (by decide +kernel)
theorem dX5_candidate_98 : decode cX5_candidate 98 = .ok (.aload_n 0, 1) := fo_42 (fw_get da_cX5_candidate_2 15 rfl)
theorem dX5_candidate_99 : decode cX5_candidate 99 = .ok (.iload 5, 2) := fo_21 (fw_get da_cX5_candidate_2 16 rfl)
theorem dX5_candidate_101 : decode cX5_candidate 101 = .ok (.iload_n 1, 1) := fo_27 (fw_get da_cX5_candidate_2 17 rfl)
theorem dX5_candidate_102 : decode cX5_candidate 102 = .ok (.iload_n 2, 1) := fo_28 (fw_get da_cX5_candidate_2 18 rfl)
theorem dX5_candidate_103 : decode cX5_candidate 103 = .ok (.invokevirtual 149, 3) := fo_182 (fw_get da_cX5_candidate_2 19 rfl)
def dt_cX5_candidate_3 : List (Nat × Nat × Nat × Nat) := [(106, 172, 0, 0)]
theorem da_cX5_candidate_3 : fw dt_cX5_candidate_3 0 cX5_candidate.data.toList = true := by decide +kernel
theorem dX5_candidate_106 : decode cX5_candidate 106 = .ok (.ireturn, 1) := fo_172 (fw_get da_cX5_candidate_3 0 rfl)
theorem mi_wsX5_lost_wsX5_lost_r1 : ∀ w ∈ wsX5_lost_r1, w ∈ wsX5_lost := fun _ h => (List.mem_cons_of_mem _ (List.mem_append_left _ (List.mem_append_left _ h)))
set_option maxRecDepth 20000 in
theorem ggX5_lost_X5_isValue : GoodIn wsX5_lost wsX5_isValue := goodIn_m _ [(wsX5_lost_r1, [false, false, false, false, true, true, true]), (wsX5_lost_r1, [false, false, false, true, false, false, false, true])] (gm_c mi_wsX5_lost_wsX5_lost_r1 (gm_c mi_wsX5_lost_wsX5_lost_r1 gm_n)) rfl (by decide +kernel)
set_option maxRecDepth 20000 in
theorem gX5_lost_X5_isValue : GoodIn wsX5_lost (va_wsS RX5 132 yX5_isValue wsX5_isValue) := goodIn_app (goodIn_m _ [(wsX5_lost_r1, [false, true, true, true])] (gm_c mi_wsX5_lost_wsX5_lost_r1 gm_n) rfl (by decide +kernel)) ggX5_lost_X5_isValue
theorem mi_wsX5_lost_wsX50 : ∀ w ∈ wsX50, w ∈ wsX5_lost := fun _ h => (List.mem_cons_of_mem _ (List.mem_append_right _ h))
set_option maxRecDepth 20000 in
theorem ggX5_lost_X5_isRange : GoodIn wsX5_lost wsX5_isRange := goodIn_m _ [(wsX5_lost_r1, [false, false, false, false, false, false, false, false, false, false, false, true, true]), (wsX50, [true, true, true, true, true, true, true, true, true, true, true, true, true, true, true, true, true, true, true, true, true, true, true, true, true, true, true, true, true, true])] (gm_c mi_wsX5_lost_wsX5_lost_r1 (gm_c mi_wsX5_lost_wsX50 gm_n)) rfl (by decide +kernel)
set_option maxRecDepth 20000 in
theorem gX5_lost_X5_isRange : GoodIn wsX5_lost (wsV RX5 142 RX5 yX5_isRange wsX5_isRange) := goodIn_app (goodIn_m _ [(wsX5_lost_r1, [false, false, false, false, false, false, false, false, true, true, true]), (wsX5_lost_r1, [false, false, false, true])] (gm_c mi_wsX5_lost_wsX5_lost_r1 (gm_c mi_wsX5_lost_wsX5_lost_r1 gm_n)) rfl (by decide +kernel)) ggX5_lost_X5_isRange
theorem mi_wsX5_lost_wsX5_lost_r2 : ∀ w ∈ wsX5_lost_r2, w ∈ wsX5_lost := fun _ h => (List.mem_cons_of_mem _ (List.mem_append_left _ (List.mem_append_right _ (List.mem_append_left _ h))))
theorem mi_wsX5_lost_wsX5_lost_r3 : ∀ w ∈ wsX5_lost_r3, w ∈ wsX5_lost := fun _ h => (List.mem_cons_of_mem _ (List.mem_append_left _ (List.mem_append_right _ (List.mem_append_right _ (List.mem_append_left _ h)))))
set_option maxRecDepth 20000 in
theorem ggX5_lost_X5_sums : GoodIn wsX5_lost wsX5_sums := goodIn_m _ [(wsX5_lost_r1, [false, false, false, false, false, false, false, false, false, false, false, false, false, false, false, false, true, true, true, true, true]), (wsX5_lost_r1, [false, false, false, true, false, false, false, false, false, false, false, false, false, false, false, false, false, false, false, false, false, true, true]), (wsX5_lost_r1, [false, false, false, false, false, false, false, false, false, false, false, false, true, false, false, false, false, false, false, false, false, false, false, true]), (wsX5_lost_r2, [true, true, true, true, true, true, true, true, true, true, true, true, true, true, true, true, true, true, true, true, true, true, true, true]), (wsX5_lost_r3, [true, true, true, true, true, true, true, true, true, true, true, true, true, true, true, true, true, true, true, true, true, true, true, true]), (wsX50, [true, true, true, true, true, true, true, true, true, true, true, true, true, true, true, true, true, true, true, true, true, true, true, true, true, true, true, true, true, true])] (gm_c mi_wsX5_lost_wsX5_lost_r1 (gm_c mi_wsX5_lost_wsX5_lost_r1 (gm_c mi_wsX5_lost_wsX5_lost_r1 (gm_c mi_wsX5_lost_wsX5_lost_r2 (gm_c mi_wsX5_lost_wsX5_lost_r3 (gm_c mi_wsX5_lost_wsX50 gm_n)))))) rfl (by decide +kernel)
set_option maxRecDepth 20000 in
theorem gX5_lost_X5_sums : GoodIn wsX5_lost (wsV RX5 171 RX5 yX5_sums wsX5_sums) := goodIn_app (goodIn_m _ [(wsX5_lost_r1, [false, false, false, false, false, false, false, false, false, false, false, false, false, true, true, true]), (wsX5_lost_r1, [false, false, false, true])] (gm_c mi_wsX5_lost_wsX5_lost_r1 (gm_c mi_wsX5_lost_wsX5_lost_r1 gm_n)) rfl (by decide +kernel)) ggX5_lost_X5_sums
theorem mi_wsX5_lost_wsX5_lost_r4 : ∀ w ∈ wsX5_lost_r4, w ∈ wsX5_lost := fun _ h => (List.mem_cons_of_mem _ (List.mem_append_left _ (List.mem_append_right _ (List.mem_append_right _ (List.mem_append_right _ h)))))
set_option maxRecDepth 20000 in
theorem ggX5_lost_X5_times : GoodIn wsX5_lost wsX5_times := goodIn_m _ [(wsX5_lost_r4, [false, false, false, true]), (wsX5_lost_r2, [false, false, false, false, false, true]), (wsX50, [true, true, true, true, true, true, true, true, true, true, true, true, true, true, true, true, true, true, true, true, true, true, true, true, true, true, true, true, true, true])] (gm_c mi_wsX5_lost_wsX5_lost_r4 (gm_c mi_wsX5_lost_wsX5_lost_r2 (gm_c mi_wsX5_lost_wsX50 gm_n))) rfl (by decide +kernel)
set_option maxRecDepth 20000 in
theorem gX5_lost_X5_times : GoodIn wsX5_lost (wsV RX5 149 RX5 yX5_times wsX5_times) := goodIn_app (goodIn_m _ [(wsX5_lost_r4, [true, true, true]), (wsX5_lost_r1, [false, false, false, true])] (gm_c mi_wsX5_lost_wsX5_lost_r4 (gm_c mi_wsX5_lost_wsX5_lost_r1 gm_n)) rfl (by decide +kernel)) ggX5_lost_X5_times
set_option maxRecDepth 20000 in
theorem ggX5_lost_X5_numberOf : GoodIn wsX5_lost wsX5_numberOf := goodIn_m _ [(wsX5_lost_r4, [false, false, false, false, false, false, false, true]), (wsX5_lost_r2, [false, false, false, false, false, false, false, false, false, false, true, false, false, true, true]), (wsX50, [true, true, true, true, true, true, true, true, true, true, true, true, true, true, true, true, true, true, true, true, true, true, true, true, true, true, true, true, true, true])] (gm_c mi_wsX5_lost_wsX5_lost_r4 (gm_c mi_wsX5_lost_wsX5_lost_r2 (gm_c mi_wsX5_lost_wsX50 gm_n))) rfl (by decide +kernel)
set_option maxRecDepth 20000 in
theorem gX5_lost_X5_numberOf : GoodIn wsX5_lost (wsV RX5 165 RX5 yX5_numberOf wsX5_numberOf) := goodIn_app (goodIn_m _ [(wsX5_lost_r4, [false, false, false, false, true, true, true]), (wsX5_lost_r1, [false, false, false, true])] (gm_c mi_wsX5_lost_wsX5_lost_r4 (gm_c mi_wsX5_lost_wsX5_lost_r1 gm_n)) rfl (by decide +kernel)) ggX5_lost_X5_numberOf
def dt_cX5_lost_0 : List (Nat × Nat × Nat × Nat) := [(0, 42, 0, 0), (1, 3, 0, 0), (2, 181, 2, 77), (5, 27, 0, 0), (6, 184, 2, 132), (9, 153, 2, 12), (12, 42, 0, 0), (13, 28, 0, 0), (14, 29, 0, 0), (15, 182, 2, 142), (18, 154, 2, 5), (21, 2, 0, 0), (22, 172, 0, 0), (23, 42, 0, 0), (24, 28, 0, 0), (25, 29, 0, 0), (26, 182, 2, 171), (29, 42, 0, 0), (30, 27, 0, 0), (31, 28, 0, 0)]
theorem da_cX5_lost_0 : fw dt_cX5_lost_0 0 cX5_lost.data.toList = true := by decide +kernel
theorem dX5_lost_0 : decode cX5_lost 0 = .ok (.aload_n 0, 1) := fo_42 (fw_get da_cX5_lost_0 0 rfl)
theorem dX5_lost_1 : decode cX5_lost 1 = .ok (.iconst 0, 1) := fo_3 (fw_get da_cX5_lost_0 1 rfl)
theorem dX5_lost_2 : decode cX5_lost 2 = .ok (.putfield 77, 3) := fo_181 (fw_get da_cX5_lost_0 2 rfl)
theorem dX5_lost_5 : decode cX5_lost 5 = .ok (.iload_n 1, 1) := fo_27 (fw_get da_cX5_lost_0 3 rfl)
theorem dX5_lost_6 : decode cX5_lost 6 = .ok (.invokestatic 132, 3) := fo_184 (fw_get da_cX5_lost_0 4 rfl)
theorem dX5_lost_9 : decode cX5_lost 9 = .ok (.ifCond .eq 12, 3) := fo_153 (fw_get da_cX5_lost_0 5 rfl) (by decide +kernel)
theorem dX5_lost_12 : decode cX5_lost 12 = .ok (.aload_n 0, 1) := fo_42 (fw_get da_cX5_lost_0 6 rfl)
theorem dX5_lost_13 : decode cX5_lost 13 = .ok (.iload_n 2, 1) := fo_28 (fw_get da_cX5_lost_0 7 rfl)
theorem dX5_lost_14 : decode cX5_lost 14 = .ok (.iload_n 3, 1) := fo_29 (fw_get da_cX5_lost_0 8 rfl)
theorem dX5_lost_15 : decode cX5_lost 15 = .ok (.invokevirtual 142, 3) := fo_182 (fw_get da_cX5_lost_0 9 rfl)
theorem dX5_lost_18 : decode cX5_lost 18 = .ok (.ifCond .ne 5, 3) := fo_154 (fw_get da_cX5_lost_0 10 rfl) (by decide +kernel)
theorem dX5_lost_21 : decode cX5_lost 21 = .ok (.iconst (-1), 1) := fo_2 (fw_get da_cX5_lost_0 11 rfl)
theorem dX5_lost_22 : decode cX5_lost 22 = .ok (.ireturn, 1) := fo_172 (fw_get da_cX5_lost_0 12 rfl)
theorem dX5_lost_23 : decode cX5_lost 23 = .ok (.aload_n 0, 1) := fo_42 (fw_get da_cX5_lost_0 13 rfl)
theorem dX5_lost_24 : decode cX5_lost 24 = .ok (.iload_n 2, 1) := fo_28 (fw_get da_cX5_lost_0 14 rfl)
theorem dX5_lost_25 : decode cX5_lost 25 = .ok (.iload_n 3, 1) := fo_29 (fw_get da_cX5_lost_0 15 rfl)
theorem dX5_lost_26 : decode cX5_lost 26 = .ok (.invokevirtual 171, 3) := fo_182 (fw_get da_cX5_lost_0 16 rfl)
theorem dX5_lost_29 : decode cX5_lost 29 = .ok (.aload_n 0, 1) := fo_42 (fw_get da_cX5_lost_0 17 rfl)
theorem dX5_lost_30 : decode cX5_lost 30 = .ok (.iload_n 1, 1) := fo_27 (fw_get da_cX5_lost_0 18 rfl)
theorem dX5_lost_31 : decode cX5_lost 31 = .ok (.iload_n 2, 1) := fo_28 (fw_get da_cX5_lost_0 19 rfl)
def dt_cX5_lost_1 : List (Nat × Nat × Nat × Nat) := [(32, 29, 0, 0), (33, 182, 2, 149), (36, 42, 0, 0), (37, 17, 2, 320), (40, 27, 0, 0), (41, 182, 2, 165), (44, 100, 0, 0), (45, 172, 0, 0)]
theorem da_cX5_lost_1 : fw dt_cX5_lost_1 0 cX5_lost.data.toList = true := by decide +kernel
theorem dX5_lost_32 : decode cX5_lost 32 = .ok (.iload_n 3, 1) := fo_29 (fw_get da_cX5_lost_1 0 rfl)
theorem dX5_lost_33 : decode cX5_lost 33 = .ok (.invokevirtual 149, 3) := fo_182 (fw_get da_cX5_lost_1 1 rfl)
theorem dX5_lost_36 : decode cX5_lost 36 = .ok (.aload_n 0, 1) := fo_42 (fw_get da_cX5_lost_1 2 rfl)
theorem dX5_lost_37 : decode cX5_lost 37 = .ok (.sipush 320, 3) := fo_17 (fw_get da_cX5_lost_1 3 rfl) (by decide +kernel)
theorem dX5_lost_40 : decode cX5_lost 40 = .ok (.iload_n 1, 1) := fo_27 (fw_get da_cX5_lost_1 4 rfl)
theorem dX5_lost_41 : decode cX5_lost 41 = .ok (.invokevirtual 165, 3) := fo_182 (fw_get da_cX5_lost_1 5 rfl)
theorem dX5_lost_44 : decode cX5_lost 44 = .ok (.isub, 1) := fo_100 (fw_get da_cX5_lost_1 6 rfl)
theorem dX5_lost_45 : decode cX5_lost 45 = .ok (.ireturn, 1) := fo_172 (fw_get da_cX5_lost_1 7 rfl)
theorem mi_wsX5_surely_wsX5_surely_r1 : ∀ w ∈ wsX5_surely_r1, w ∈ wsX5_surely := fun _ h => (List.mem_cons_of_mem _ (List.mem_append_left _ (List.mem_append_left _ h)))
theorem mi_wsX5_surely_wsX50 : ∀ w ∈ wsX50, w ∈ wsX5_surely := fun _ h => (List.mem_cons_of_mem _ (List.mem_append_right _ h))
set_option maxRecDepth 20000 in
theorem ggX5_surely_X5_isRange : GoodIn wsX5_surely wsX5_isRange := goodIn_m _ [(wsX5_surely_r1, [false, false, false, false, false, false, false, false, false, false, true, true]), (wsX50, [true, true, true, true, true, true, true, true, true, true, true, true, true, true, true, true, true, true, true, true, true, true, true, true, true, true, true, true, true, true])] (gm_c mi_wsX5_surely_wsX5_surely_r1 (gm_c mi_wsX5_surely_wsX50 gm_n)) rfl (by decide +kernel)
set_option maxRecDepth 20000 in
theorem gX5_surely_X5_isRange : GoodIn wsX5_surely (wsV RX5 142 RX5 yX5_isRange wsX5_isRange) := goodIn_app (goodIn_m _ [(wsX5_surely_r1, [false, false, false, false, false, false, true, true, true, true])] (gm_c mi_wsX5_surely_wsX5_surely_r1 gm_n) rfl (by decide +kernel)) ggX5_surely_X5_isRange
theorem mi_wsX5_surely_wsX5_surely_r2 : ∀ w ∈ wsX5_surely_r2, w ∈ wsX5_surely := fun _ h => (List.mem_cons_of_mem _ (List.mem_append_left _ (List.mem_append_right _ (List.mem_append_left _ h))))
theorem mi_wsX5_surely_wsX5_surely_r3 : ∀ w ∈ wsX5_surely_r3, w ∈ wsX5_surely := fun _ h => (List.mem_cons_of_mem _ (List.mem_append_left _ (List.mem_append_right _ (List.mem_append_right _ h))))
set_option maxRecDepth 20000 in
theorem ggX5_surely_X5_sums : GoodIn wsX5_surely wsX5_sums := goodIn_m _ [(wsX5_surely_r1, [false, false, false, false, false, false, false, false, false, false, false, false, false, false, false, true, true, true, true, true]), (wsX5_surely_r1, [false, false, false, false, false, false, false, false, false, true, false, false, false, false, false, false, false, false, false, false, true, true]), (wsX5_surely_r1, [false, false, false, false, false, false, false, false, false, false, false, true, false, false, false, false, false, false, false, false, false, false, true, true]), (wsX5_surely_r2, [true, true, true, true, true, true, true, true, true]), (wsX5_surely_r1, [false, false, true, false, true]), (wsX5_surely_r2, [false, false, false, false, false, false, false, false, false, true]), (wsX5_surely_r1, [false, false, false, false, false, true]), (wsX5_surely_r1, [false, false, false, true]), (wsX5_surely_r2, [false, false, false, false, false, false, false, false, false, false, true, true, true, true, true, true, true, true, true, true, true, true, true, true]), (wsX5_surely_r3, [true, true, true, true, true, true, true, true, true, true, true, true, true, true, true, true, true, true, true]), (wsX50, [true, true, true, true, true, true, true, true, true, true, true, true, true, true, true, true, true, true, true, true, true, true, true, true, true, true, true, true, true, true])] (gm_c mi_wsX5_surely_wsX5_surely_r1 (gm_c mi_wsX5_surely_wsX5_surely_r1 (gm_c mi_wsX5_surely_wsX5_surely_r1 (gm_c mi_wsX5_surely_wsX5_surely_r2 (gm_c mi_wsX5_surely_wsX5_surely_r1 (gm_c mi_wsX5_surely_wsX5_surely_r2 (gm_c mi_wsX5_surely_wsX5_surely_r1 (gm_c mi_wsX5_surely_wsX5_surely_r1 (gm_c mi_wsX5_surely_wsX5_surely_r2 (gm_c mi_wsX5_surely_wsX5_surely_r3 (gm_c mi_wsX5_surely_wsX50 gm_n))))))))))) rfl (by decide +kernel)
set_option maxRecDepth 20000 in
theorem gX5_surely_X5_sums : GoodIn wsX5_surely (wsV RX5 171 RX5 yX5_sums wsX5_sums) := goodIn_app (goodIn_m _ [(wsX5_surely_r1, [false, false, false, false, false, false, false, false, false, false, false, false, true, true, true]), (wsX5_surely_r1, [false, false, false, false, false, false, false, false, false, true])] (gm_c mi_wsX5_surely_wsX5_surely_r1 (gm_c mi_wsX5_surely_wsX5_surely_r1 gm_n)) rfl (by decide +kernel)) ggX5_surely_X5_sums
def dt_cX5_surely_0 : List (Nat × Nat × Nat × Nat) := [(0, 42, 0, 0), (1, 3, 0, 0), (2, 181, 2, 77), (5, 42, 0, 0), (6, 27, 0, 0), (7, 28, 0, 0), (8, 182, 2, 142), (11, 154, 2, 6), (14, 18, 1, 148), (16, 172, 0, 0), (17, 42, 0, 0), (18, 27, 0, 0), (19, 28, 0, 0), (20, 182, 2, 171), (23, 42, 0, 0), (24, 180, 2, 17), (27, 17, 2, 320), (30, 46, 0, 0), (31, 154, 2, 6), (34, 18, 1, 148)]
theorem da_cX5_surely_0 : fw dt_cX5_surely_0 0 cX5_surely.data.toList = true := by decide +kernel
theorem dX5_surely_0 : decode cX5_surely 0 = .ok (.aload_n 0, 1) := fo_42 (fw_get da_cX5_surely_0 0 rfl)
theorem dX5_surely_1 : decode cX5_surely 1 = .ok (.iconst 0, 1) := fo_3 (fw_get da_cX5_surely_0 1 rfl)
theorem dX5_surely_2 : decode cX5_surely 2 = .ok (.putfield 77, 3) := fo_181 (fw_get da_cX5_surely_0 2 rfl)
theorem dX5_surely_5 : decode cX5_surely 5 = .ok (.aload_n 0, 1) := fo_42 (fw_get da_cX5_surely_0 3 rfl)
theorem dX5_surely_6 : decode cX5_surely 6 = .ok (.iload_n 1, 1) := fo_27 (fw_get da_cX5_surely_0 4 rfl)
theorem dX5_surely_7 : decode cX5_surely 7 = .ok (.iload_n 2, 1) := fo_28 (fw_get da_cX5_surely_0 5 rfl)
theorem dX5_surely_8 : decode cX5_surely 8 = .ok (.invokevirtual 142, 3) := fo_182 (fw_get da_cX5_surely_0 6 rfl)
theorem dX5_surely_11 : decode cX5_surely 11 = .ok (.ifCond .ne 6, 3) := fo_154 (fw_get da_cX5_surely_0 7 rfl) (by decide +kernel)
theorem dX5_surely_14 : decode cX5_surely 14 = .ok (.ldc 148, 2) := fo_18 (fw_get da_cX5_surely_0 8 rfl)
theorem dX5_surely_16 : decode cX5_surely 16 = .ok (.ireturn, 1) := fo_172 (fw_get da_cX5_surely_0 9 rfl)
theorem dX5_surely_17 : decode cX5_surely 17 = .ok (.aload_n 0, 1) := fo_42 (fw_get da_cX5_surely_0 10 rfl)
theorem dX5_surely_18 : decode cX5_surely 18 = .ok (.iload_n 1, 1) := fo_27 (fw_get da_cX5_surely_0 11 rfl)
theorem dX5_surely_19 : decode cX5_surely 19 = .ok (.iload_n 2, 1) := fo_28 (fw_get da_cX5_surely_0 12 rfl)
theorem dX5_surely_20 : decode cX5_surely 20 = .ok (.invokevirtual 171, 3) := fo_182 (fw_get da_cX5_surely_0 13 rfl)
theorem dX5_surely_23 : decode cX5_surely 23 = .ok (.aload_n 0, 1) := fo_42 (fw_get da_cX5_surely_0 14 rfl)
theorem dX5_surely_24 : decode cX5_surely 24 = .ok (.getfield 17, 3) := fo_180 (fw_get da_cX5_surely_0 15 rfl)
theorem dX5_surely_27 : decode cX5_surely 27 = .ok (.sipush 320, 3) := fo_17 (fw_get da_cX5_surely_0 16 rfl) (by decide +kernel)
theorem dX5_surely_30 : decode cX5_surely 30 = .ok (.iaload, 1) := fo_46 (fw_get da_cX5_surely_0 17 rfl)
theorem dX5_surely_31 : decode cX5_surely 31 = .ok (.ifCond .ne 6, 3) := fo_154 (fw_get da_cX5_surely_0 18 rfl) (by decide +kernel)
theorem dX5_surely_34 : decode cX5_surely 34 = .ok (.ldc 148, 2) := fo_18 (fw_get da_cX5_surely_0 19 rfl)
def dt_cX5_surely_1 : List (Nat × Nat × Nat × Nat) := [(36, 172, 0, 0), (37, 42, 0, 0), (38, 180, 2, 29), (41, 17, 2, 1920), (44, 46, 0, 0), (45, 62, 0, 0), (46, 42, 0, 0), (47, 180, 2, 17), (50, 17, 2, 320), (53, 46, 0, 0), (54, 4, 0, 0), (55, 164, 2, 14), (58, 42, 0, 0), (59, 180, 2, 29), (62, 17, 2, 1921), (65, 46, 0, 0), (66, 167, 2, 4), (69, 3, 0, 0), (70, 54, 1, 4), (72, 29, 0, 0)]
theorem da_cX5_surely_1 : fw dt_cX5_surely_1 0 cX5_surely.data.toList = true := by decide +kernel
theorem dX5_surely_36 : decode cX5_surely 36 = .ok (.ireturn, 1) := fo_172 (fw_get da_cX5_surely_1 0 rfl)
theorem dX5_surely_37 : decode cX5_surely 37 = .ok (.aload_n 0, 1) := fo_42 (fw_get da_cX5_surely_1 1 rfl)
theorem dX5_surely_38 : decode cX5_surely 38 = .ok (.getfield 29, 3) := fo_180 (fw_get da_cX5_surely_1 2 rfl)
theorem dX5_surely_41 : decode cX5_surely 41 = .ok (.sipush 1920, 3) := fo_17 (fw_get da_cX5_surely_1 3 rfl) (by decide +kernel)
theorem dX5_surely_44 : decode cX5_surely 44 = .ok (.iaload, 1) := fo_46 (fw_get da_cX5_surely_1 4 rfl)
theorem dX5_surely_45 : decode cX5_surely 45 = .ok (.istore_n 3, 1) := fo_62 (fw_get da_cX5_surely_1 5 rfl)
theorem dX5_surely_46 : decode cX5_surely 46 = .ok (.aload_n 0, 1) := fo_42 (fw_get da_cX5_surely_1 6 rfl)
theorem dX5_surely_47 : decode cX5_surely 47 = .ok (.getfield 17, 3) := fo_180 (fw_get da_cX5_surely_1 7 rfl)
theorem dX5_surely_50 : decode cX5_surely 50 = .ok (.sipush 320, 3) := fo_17 (fw_get da_cX5_surely_1 8 rfl) (by decide +kernel)
theorem dX5_surely_53 : decode cX5_surely 53 = .ok (.iaload, 1) := fo_46 (fw_get da_cX5_surely_1 9 rfl)
theorem dX5_surely_54 : decode cX5_surely 54 = .ok (.iconst 1, 1) := fo_4 (fw_get da_cX5_surely_1 10 rfl)
theorem dX5_surely_55 : decode cX5_surely 55 = .ok (.if_icmp .le 14, 3) := fo_164 (fw_get da_cX5_surely_1 11 rfl) (by decide +kernel)
theorem dX5_surely_58 : decode cX5_surely 58 = .ok (.aload_n 0, 1) := fo_42 (fw_get da_cX5_surely_1 12 rfl)
theorem dX5_surely_59 : decode cX5_surely 59 = .ok (.getfield 29, 3) := fo_180 (fw_get da_cX5_surely_1 13 rfl)
theorem dX5_surely_62 : decode cX5_surely 62 = .ok (.sipush 1921, 3) := fo_17 (fw_get da_cX5_surely_1 14 rfl) (by decide +kernel)
theorem dX5_surely_65 : decode cX5_surely 65 = .ok (.iaload, 1) := fo_46 (fw_get da_cX5_surely_1 15 rfl)
theorem dX5_surely_66 : decode cX5_surely 66 = .ok (.goto 4, 3) := fo_167 (fw_get da_cX5_surely_1 16 rfl) (by decide +kernel)
theorem dX5_surely_69 : decode cX5_surely 69 = .ok (.iconst 0, 1) := fo_3 (fw_get da_cX5_surely_1 17 rfl)
theorem dX5_surely_70 : decode cX5_surely 70 = .ok (.istore 4, 2) := fo_54 (fw_get da_cX5_surely_1 18 rfl)
theorem dX5_surely_72 : decode cX5_surely 72 = .ok (.iload_n 3, 1) := fo_29 (fw_get da_cX5_surely_1 19 rfl)
def dt_cX5_surely_2 : List (Nat × Nat × Nat × Nat) := [(73, 21, 1, 4), (75, 42, 0, 0), (76, 180, 2, 20), (79, 17, 2, 320), (82, 46, 0, 0), (83, 96, 0, 0), (84, 164, 2, 14), (87, 42, 0, 0), (88, 180, 2, 26), (91, 17, 2, 1920), (94, 46, 0, 0), (95, 167, 2, 5), (98, 18, 1, 148), (100, 172, 0, 0)]
theorem da_cX5_surely_2 : fw dt_cX5_surely_2 0 cX5_surely.data.toList = true := by decide +kernel
theorem dX5_surely_73 : decode cX5_surely 73 = .ok (.iload 4, 2) := fo_21 (fw_get da_cX5_surely_2 0 rfl)
theorem dX5_surely_75 : decode cX5_surely 75 = .ok (.aload_n 0, 1) := fo_42 (fw_get da_cX5_surely_2 1 rfl)
theorem dX5_surely_76 : decode cX5_surely 76 = .ok (.getfield 20, 3) := fo_180 (fw_get da_cX5_surely_2 2 rfl)
theorem dX5_surely_79 : decode cX5_surely 79 = .ok (.sipush 320, 3) := fo_17 (fw_get da_cX5_surely_2 3 rfl) (by decide +kernel)
theorem dX5_surely_82 : decode cX5_surely 82 = .ok (.iaload, 1) := fo_46 (fw_get da_cX5_surely_2 4 rfl)
theorem dX5_surely_83 : decode cX5_surely 83 = .ok (.iadd, 1) := fo_96 (fw_get da_cX5_surely_2 5 rfl)
theorem dX5_surely_84 : decode cX5_surely 84 = .ok (.if_icmp .le 14, 3) := fo_164 (fw_get da_cX5_surely_2 6 rfl) (by decide +kernel)
theorem dX5_surely_87 : decode cX5_surely 87 = .ok (.aload_n 0, 1) := fo_42 (fw_get da_cX5_surely_2 7 rfl)
theorem dX5_surely_88 : decode cX5_surely 88 = .ok (.getfield 26, 3) := fo_180 (fw_get da_cX5_surely_2 8 rfl)
theorem dX5_surely_91 : decode cX5_surely 91 = .ok (.sipush 1920, 3) := fo_17 (fw_get da_cX5_surely_2 9 rfl) (by decide +kernel)
theorem dX5_surely_94 : decode cX5_surely 94 = .ok (.iaload, 1) := fo_46 (fw_get da_cX5_surely_2 10 rfl)
theorem dX5_surely_95 : decode cX5_surely 95 = .ok (.goto 5, 3) := fo_167 (fw_get da_cX5_surely_2 11 rfl) (by decide +kernel)
theorem dX5_surely_98 : decode cX5_surely 98 = .ok (.ldc 148, 2) := fo_18 (fw_get da_cX5_surely_2 12 rfl)
theorem dX5_surely_100 : decode cX5_surely 100 = .ok (.ireturn, 1) := fo_172 (fw_get da_cX5_surely_2 13 rfl)
theorem mi_wsX5_failed_wsX5_failed_r1 : ∀ w ∈ wsX5_failed_r1, w ∈ wsX5_failed := fun _ h => (List.mem_cons_of_mem _ (List.mem_append_left _ (List.mem_append_left _ h)))
theorem mi_wsX5_failed_wsX50 : ∀ w ∈ wsX50, w ∈ wsX5_failed := fun _ h => (List.mem_cons_of_mem _ (List.mem_append_right _ h))
set_option maxRecDepth 20000 in
theorem ggX5_failed_X5_isRange : GoodIn wsX5_failed wsX5_isRange := goodIn_m _ [(wsX5_failed_r1, [false, false, false, false, false, false, false, true, true]), (wsX50, [true, true, true, true, true, true, true, true, true, true, true, true, true, true, true, true, true, true, true, true, true, true, true, true, true, true, true, true, true, true])] (gm_c mi_wsX5_failed_wsX5_failed_r1 (gm_c mi_wsX5_failed_wsX50 gm_n)) rfl (by decide +kernel)
set_option maxRecDepth 20000 in
theorem gX5_failed_X5_isRange : GoodIn wsX5_failed (wsV RX5 142 RX5 yX5_isRange wsX5_isRange) := goodIn_app (goodIn_m _ [(wsX5_failed_r1, [false, false, false, true, true, true, true])] (gm_c mi_wsX5_failed_wsX5_failed_r1 gm_n) rfl (by decide +kernel)) ggX5_failed_X5_isRange
set_option maxRecDepth 20000 in
theorem ggX5_failed_X5_isShare : GoodIn wsX5_failed wsX5_isShare := goodIn_m _ [(wsX5_failed_r1, [false, false, false, false, false, false, false, false, false, false, false, true, true, true]), (wsX5_failed_r1, [false, false, false, false, false, false, true, false, false, false, false, false, false, false, true])] (gm_c mi_wsX5_failed_wsX5_failed_r1 (gm_c mi_wsX5_failed_wsX5_failed_r1 gm_n)) rfl (by decide +kernel)
set_option maxRecDepth 20000 in
theorem gX5_failed_X5_isShare : GoodIn wsX5_failed (va_wsS RX5 184 yX5_isShare wsX5_isShare) := goodIn_app (goodIn_m _ [(wsX5_failed_r1, [false, false, false, false, false, false, false, false, false, true, true]), (wsX5_failed_r1, [false, false, false, false, false, false, true])] (gm_c mi_wsX5_failed_wsX5_failed_r1 (gm_c mi_wsX5_failed_wsX5_failed_r1 gm_n)) rfl (by decide +kernel)) ggX5_failed_X5_isShare
set_option maxRecDepth 20000 in
theorem ggX5_failed_X5_isEnough : GoodIn wsX5_failed wsX5_isEnough := goodIn_m _ [(wsX5_failed_r1, [false, false, false, false, false, false, false, false, false, false, false, false, false, false, false, false, false, false, true, true]), (wsX50, [true, true, true, true, true, true, true, true, true, true, true, true, true, true, true, true, true, true, true, true, true, true, true, true, true, true, true, true, true, true])] (gm_c mi_wsX5_failed_wsX5_failed_r1 (gm_c mi_wsX5_failed_wsX50 gm_n)) rfl (by decide +kernel)
set_option maxRecDepth 20000 in
theorem gX5_failed_X5_isEnough : GoodIn wsX5_failed (wsV RX5 187 RX5 yX5_isEnough wsX5_isEnough) := goodIn_app (goodIn_m _ [(wsX5_failed_r1, [false, false, false, false, false, false, false, false, false, false, false, false, false, false, false, true, true, true]), (wsX5_failed_r1, [false, false, false, false, false, false, true])] (gm_c mi_wsX5_failed_wsX5_failed_r1 (gm_c mi_wsX5_failed_wsX5_failed_r1 gm_n)) rfl (by decide +kernel)) ggX5_failed_X5_isEnough
theorem mi_wsX5_failed_wsX5_failed_r2 : ∀ w ∈ wsX5_failed_r2, w ∈ wsX5_failed := fun _ h => (List.mem_cons_of_mem _ (List.mem_append_left _ (List.mem_append_right _ (List.mem_append_left _ h))))
theorem mi_wsX5_failed_wsX5_failed_r3 : ∀ w ∈ wsX5_failed_r3, w ∈ wsX5_failed := fun _ h => (List.mem_cons_of_mem _ (List.mem_append_left _ (List.mem_append_right _ (List.mem_append_right _ (List.mem_append_left _ h)))))
theorem mi_wsX5_failed_wsX5_failed_r4 : ∀ w ∈ wsX5_failed_r4, w ∈ wsX5_failed := fun _ h => (List.mem_cons_of_mem _ (List.mem_append_left _ (List.mem_append_right _ (List.mem_append_right _ (List.mem_append_right _ h)))))
set_option maxRecDepth 20000 in
theorem ggX5_failed_X5_sums : GoodIn wsX5_failed wsX5_sums := goodIn_m _ [(wsX5_failed_r1, [false, false, false, false, false, false, false, false, false, false, false, false, false, false, false, false, false, false, false, false, false, false, false, true]), (wsX5_failed_r1, [false, false, false, false, false, false, false, false, false, false, false, false, false, false, false, false, false, false, false, true]), (wsX5_failed_r2, [true, true, true]), (wsX5_failed_r1, [false, false, false, false, false, false, true]), (wsX5_failed_r2, [false, false, false, true, true]), (wsX5_failed_r1, [false, false, false, false, false, false, false, false, true]), (wsX5_failed_r2, [false, false, false, false, false, true, true, true, true, true, true, true, true, true, true, true]), (wsX5_failed_r1, [false, true]), (wsX5_failed_r2, [false, false, false, false, false, false, false, false, false, false, false, false, false, false, false, false, true, true]), (wsX5_failed_r1, [false, false, true]), (wsX5_failed_r2, [false, false, false, false, false, false, false, false, false, false, false, false, false, false, false, false, false, false, true, true, true, true, true, true]), (wsX5_failed_r3, [true, true, true, true, true, true, true, true, true, true, true, true, true, true, true, true, true, true, true, true, true, true, true, true]), (wsX5_failed_r4, [true, true, true, true]), (wsX50, [true, true, true, true, true, true, true, true, true, true, true, true, true, true, true, true, true, true, true, true, true, true, true, true, true, true, true, true, true, true])] (gm_c mi_wsX5_failed_wsX5_failed_r1 (gm_c mi_wsX5_failed_wsX5_failed_r1 (gm_c mi_wsX5_failed_wsX5_failed_r2 (gm_c mi_wsX5_failed_wsX5_failed_r1 (gm_c mi_wsX5_failed_wsX5_failed_r2 (gm_c mi_wsX5_failed_wsX5_failed_r1 (gm_c mi_wsX5_failed_wsX5_failed_r2 (gm_c mi_wsX5_failed_wsX5_failed_r1 (gm_c mi_wsX5_failed_wsX5_failed_r2 (gm_c mi_wsX5_failed_wsX5_failed_r1 (gm_c mi_wsX5_failed_wsX5_failed_r2 (gm_c mi_wsX5_failed_wsX5_failed_r3 (gm_c mi_wsX5_failed_wsX5_failed_r4 (gm_c mi_wsX5_failed_wsX50 gm_n)))))))))))))) rfl (by decide +kernel)
set_option maxRecDepth 20000 in
theorem gX5_failed_X5_sums : GoodIn wsX5_failed (wsV RX5 171 RX5 yX5_sums wsX5_sums) := goodIn_app (goodIn_m _ [(wsX5_failed_r1, [false, false, false, false, false, false, false, false, false, false, false, false, false, false, false, false, false, false, false, false, true, true, true]), (wsX5_failed_r1, [false, false, false, false, false, false, true])] (gm_c mi_wsX5_failed_wsX5_failed_r1 (gm_c mi_wsX5_failed_wsX5_failed_r1 gm_n)) rfl (by decide +kernel)) ggX5_failed_X5_sums
set_option maxRecDepth 20000 in
theorem ggX5_failed_X5_times : GoodIn wsX5_failed wsX5_times := goodIn_m _ [(wsX5_failed_r4, [false, false, false, false, false, false, false, true]), (wsX5_failed_r2, [false, false, false, false, false, false, false, false, false, false, false, true]), (wsX50, [true, true, true, true, true, true, true, true, true, true, true, true, true, true, true, true, true, true, true, true, true, true, true, true, true, true, true, true, true, true])] (gm_c mi_wsX5_failed_wsX5_failed_r4 (gm_c mi_wsX5_failed_wsX5_failed_r2 (gm_c mi_wsX5_failed_wsX50 gm_n))) rfl (by decide +kernel)
set_option maxRecDepth 20000 in
theorem gX5_failed_X5_times : GoodIn wsX5_failed (wsV RX5 149 RX5 yX5_times wsX5_times) := goodIn_app (goodIn_m _ [(wsX5_failed_r4, [false, false, false, false, true, true, true]), (wsX5_failed_r1, [false, false, false, false, false, false, true])] (gm_c mi_wsX5_failed_wsX5_failed_r4 (gm_c mi_wsX5_failed_wsX5_failed_r1 gm_n)) rfl (by decide +kernel)) ggX5_failed_X5_times
def dt_cX5_failed_0 : List (Nat × Nat × Nat × Nat) := [(0, 42, 0, 0), (1, 3, 0, 0), (2, 181, 2, 77), (5, 42, 0, 0), (6, 27, 0, 0), (7, 28, 0, 0), (8, 182, 2, 142), (11, 153, 2, 12), (14, 29, 0, 0), (15, 21, 1, 4), (17, 184, 2, 184), (20, 154, 2, 5), (23, 2, 0, 0), (24, 172, 0, 0), (25, 42, 0, 0), (26, 29, 0, 0), (27, 21, 1, 4), (29, 182, 2, 187), (32, 154, 2, 6), (35, 16, 1, 254)]
theorem da_cX5_failed_0 : fw dt_cX5_failed_0 0 cX5_failed.data.toList = true := by decide +kernel
theorem dX5_failed_0 : decode cX5_failed 0 = .ok (.aload_n 0, 1) := fo_42 (fw_get da_cX5_failed_0 0 rfl)
theorem dX5_failed_1 : decode cX5_failed 1 = .ok (.iconst 0, 1) := fo_3 (fw_get da_cX5_failed_0 1 rfl)
theorem dX5_failed_2 : decode cX5_failed 2 = .ok (.putfield 77, 3) := fo_181 (fw_get da_cX5_failed_0 2 rfl)
theorem dX5_failed_5 : decode cX5_failed 5 = .ok (.aload_n 0, 1) := fo_42 (fw_get da_cX5_failed_0 3 rfl)
theorem dX5_failed_6 : decode cX5_failed 6 = .ok (.iload_n 1, 1) := fo_27 (fw_get da_cX5_failed_0 4 rfl)
theorem dX5_failed_7 : decode cX5_failed 7 = .ok (.iload_n 2, 1) := fo_28 (fw_get da_cX5_failed_0 5 rfl)
theorem dX5_failed_8 : decode cX5_failed 8 = .ok (.invokevirtual 142, 3) := fo_182 (fw_get da_cX5_failed_0 6 rfl)
theorem dX5_failed_11 : decode cX5_failed 11 = .ok (.ifCond .eq 12, 3) := fo_153 (fw_get da_cX5_failed_0 7 rfl) (by decide +kernel)
theorem dX5_failed_14 : decode cX5_failed 14 = .ok (.iload_n 3, 1) := fo_29 (fw_get da_cX5_failed_0 8 rfl)
theorem dX5_failed_15 : decode cX5_failed 15 = .ok (.iload 4, 2) := fo_21 (fw_get da_cX5_failed_0 9 rfl)
theorem dX5_failed_17 : decode cX5_failed 17 = .ok (.invokestatic 184, 3) := fo_184 (fw_get da_cX5_failed_0 10 rfl)
theorem dX5_failed_20 : decode cX5_failed 20 = .ok (.ifCond .ne 5, 3) := fo_154 (fw_get da_cX5_failed_0 11 rfl) (by decide +kernel)
theorem dX5_failed_23 : decode cX5_failed 23 = .ok (.iconst (-1), 1) := fo_2 (fw_get da_cX5_failed_0 12 rfl)
theorem dX5_failed_24 : decode cX5_failed 24 = .ok (.ireturn, 1) := fo_172 (fw_get da_cX5_failed_0 13 rfl)
theorem dX5_failed_25 : decode cX5_failed 25 = .ok (.aload_n 0, 1) := fo_42 (fw_get da_cX5_failed_0 14 rfl)
theorem dX5_failed_26 : decode cX5_failed 26 = .ok (.iload_n 3, 1) := fo_29 (fw_get da_cX5_failed_0 15 rfl)
theorem dX5_failed_27 : decode cX5_failed 27 = .ok (.iload 4, 2) := fo_21 (fw_get da_cX5_failed_0 16 rfl)
theorem dX5_failed_29 : decode cX5_failed 29 = .ok (.invokevirtual 187, 3) := fo_182 (fw_get da_cX5_failed_0 17 rfl)
theorem dX5_failed_32 : decode cX5_failed 32 = .ok (.ifCond .ne 6, 3) := fo_154 (fw_get da_cX5_failed_0 18 rfl) (by decide +kernel)
theorem dX5_failed_35 : decode cX5_failed 35 = .ok (.bipush (-2), 2) := fo_16 (fw_get da_cX5_failed_0 19 rfl) (by decide +kernel)
def dt_cX5_failed_1 : List (Nat × Nat × Nat × Nat) := [(37, 172, 0, 0), (38, 42, 0, 0), (39, 27, 0, 0), (40, 28, 0, 0), (41, 182, 2, 171), (44, 3, 0, 0), (45, 54, 1, 5), (47, 3, 0, 0), (48, 54, 1, 6), (50, 21, 1, 6), (52, 42, 0, 0), (53, 180, 2, 17), (56, 17, 2, 320), (59, 46, 0, 0), (60, 162, 2, 40), (63, 42, 0, 0), (64, 42, 0, 0), (65, 180, 2, 26), (68, 17, 2, 1920), (71, 21, 1, 6)]
theorem da_cX5_failed_1 : fw dt_cX5_failed_1 0 cX5_failed.data.toList = true := by decide +kernel
theorem dX5_failed_37 : decode cX5_failed 37 = .ok (.ireturn, 1) := fo_172 (fw_get da_cX5_failed_1 0 rfl)
theorem dX5_failed_38 : decode cX5_failed 38 = .ok (.aload_n 0, 1) := fo_42 (fw_get da_cX5_failed_1 1 rfl)
theorem dX5_failed_39 : decode cX5_failed 39 = .ok (.iload_n 1, 1) := fo_27 (fw_get da_cX5_failed_1 2 rfl)
theorem dX5_failed_40 : decode cX5_failed 40 = .ok (.iload_n 2, 1) := fo_28 (fw_get da_cX5_failed_1 3 rfl)
theorem dX5_failed_41 : decode cX5_failed 41 = .ok (.invokevirtual 171, 3) := fo_182 (fw_get da_cX5_failed_1 4 rfl)
theorem dX5_failed_44 : decode cX5_failed 44 = .ok (.iconst 0, 1) := fo_3 (fw_get da_cX5_failed_1 5 rfl)
theorem dX5_failed_45 : decode cX5_failed 45 = .ok (.istore 5, 2) := fo_54 (fw_get da_cX5_failed_1 6 rfl)
theorem dX5_failed_47 : decode cX5_failed 47 = .ok (.iconst 0, 1) := fo_3 (fw_get da_cX5_failed_1 7 rfl)
theorem dX5_failed_48 : decode cX5_failed 48 = .ok (.istore 6, 2) := fo_54 (fw_get da_cX5_failed_1 8 rfl)
theorem dX5_failed_50 : decode cX5_failed 50 = .ok (.iload 6, 2) := fo_21 (fw_get da_cX5_failed_1 9 rfl)
theorem dX5_failed_52 : decode cX5_failed 52 = .ok (.aload_n 0, 1) := fo_42 (fw_get da_cX5_failed_1 10 rfl)
theorem dX5_failed_53 : decode cX5_failed 53 = .ok (.getfield 17, 3) := fo_180 (fw_get da_cX5_failed_1 11 rfl)
theorem dX5_failed_56 : decode cX5_failed 56 = .ok (.sipush 320, 3) := fo_17 (fw_get da_cX5_failed_1 12 rfl) (by decide +kernel)
theorem dX5_failed_59 : decode cX5_failed 59 = .ok (.iaload, 1) := fo_46 (fw_get da_cX5_failed_1 13 rfl)
theorem dX5_failed_60 : decode cX5_failed 60 = .ok (.if_icmp .ge 40, 3) := fo_162 (fw_get da_cX5_failed_1 14 rfl) (by decide +kernel)
theorem dX5_failed_63 : decode cX5_failed 63 = .ok (.aload_n 0, 1) := fo_42 (fw_get da_cX5_failed_1 15 rfl)
theorem dX5_failed_64 : decode cX5_failed 64 = .ok (.aload_n 0, 1) := fo_42 (fw_get da_cX5_failed_1 16 rfl)
theorem dX5_failed_65 : decode cX5_failed 65 = .ok (.getfield 26, 3) := fo_180 (fw_get da_cX5_failed_1 17 rfl)
theorem dX5_failed_68 : decode cX5_failed 68 = .ok (.sipush 1920, 3) := fo_17 (fw_get da_cX5_failed_1 18 rfl) (by decide +kernel)
theorem dX5_failed_71 : decode cX5_failed 71 = .ok (.iload 6, 2) := fo_21 (fw_get da_cX5_failed_1 19 rfl)
def dt_cX5_failed_2 : List (Nat × Nat × Nat × Nat) := [(73, 96, 0, 0), (74, 46, 0, 0), (75, 27, 0, 0), (76, 28, 0, 0), (77, 182, 2, 149), (80, 21, 1, 4), (82, 104, 0, 0), (83, 29, 0, 0), (84, 28, 0, 0), (85, 27, 0, 0), (86, 100, 0, 0), (87, 104, 0, 0), (88, 163, 2, 6), (91, 132, 2, 1281), (94, 132, 2, 1537), (97, 167, 2, 65489), (100, 21, 1, 5), (102, 172, 0, 0)]
theorem da_cX5_failed_2 : fw dt_cX5_failed_2 0 cX5_failed.data.toList = true := by decide +kernel
theorem dX5_failed_73 : decode cX5_failed 73 = .ok (.iadd, 1) := fo_96 (fw_get da_cX5_failed_2 0 rfl)
theorem dX5_failed_74 : decode cX5_failed 74 = .ok (.iaload, 1) := fo_46 (fw_get da_cX5_failed_2 1 rfl)
theorem dX5_failed_75 : decode cX5_failed 75 = .ok (.iload_n 1, 1) := fo_27 (fw_get da_cX5_failed_2 2 rfl)
theorem dX5_failed_76 : decode cX5_failed 76 = .ok (.iload_n 2, 1) := fo_28 (fw_get da_cX5_failed_2 3 rfl)
theorem dX5_failed_77 : decode cX5_failed 77 = .ok (.invokevirtual 149, 3) := fo_182 (fw_get da_cX5_failed_2 4 rfl)
theorem dX5_failed_80 : decode cX5_failed 80 = .ok (.iload 4, 2) := fo_21 (fw_get da_cX5_failed_2 5 rfl)
theorem dX5_failed_82 : decode cX5_failed 82 = .ok (.imul, 1) := fo_104 (fw_get da_cX5_failed_2 6 rfl)
theorem dX5_failed_83 : decode cX5_failed 83 = .ok (.iload_n 3, 1) := fo_29 (fw_get da_cX5_failed_2 7 rfl)
theorem dX5_failed_84 : decode cX5_failed 84 = .ok (.iload_n 2, 1) := fo_28 (fw_get da_cX5_failed_2 8 rfl)
theorem dX5_failed_85 : decode cX5_failed 85 = .ok (.iload_n 1, 1) := fo_27 (fw_get da_cX5_failed_2 9 rfl)
theorem dX5_failed_86 : decode cX5_failed 86 = .ok (.isub, 1) := fo_100 (fw_get da_cX5_failed_2 10 rfl)
theorem dX5_failed_87 : decode cX5_failed 87 = .ok (.imul, 1) := fo_104 (fw_get da_cX5_failed_2 11 rfl)
theorem dX5_failed_88 : decode cX5_failed 88 = .ok (.if_icmp .gt 6, 3) := fo_163 (fw_get da_cX5_failed_2 12 rfl) (by decide +kernel)
theorem dX5_failed_91 : decode cX5_failed 91 = .ok (.iinc 5 1, 3) := fo_132 (fw_get da_cX5_failed_2 13 rfl) rfl (by decide +kernel)
theorem dX5_failed_94 : decode cX5_failed 94 = .ok (.iinc 6 1, 3) := fo_132 (fw_get da_cX5_failed_2 14 rfl) rfl (by decide +kernel)
theorem dX5_failed_97 : decode cX5_failed 97 = .ok (.goto (-47), 3) := fo_167 (fw_get da_cX5_failed_2 15 rfl) (by decide +kernel)
theorem dX5_failed_100 : decode cX5_failed 100 = .ok (.iload 5, 2) := fo_21 (fw_get da_cX5_failed_2 16 rfl)
theorem dX5_failed_102 : decode cX5_failed 102 = .ok (.ireturn, 1) := fo_172 (fw_get da_cX5_failed_2 17 rfl)


set_option maxHeartbeats 4000000 in
set_option maxRecDepth 100000 in
theorem c_X5_parts (l : Launch) (dC : Nat → ClassId) (dI : Nat → Nat → Nat) (h0 : Nat) (g_row : Nat) (g_many : Nat) (g_loss : Nat) (g_less : Nat) (g_voteValue : Nat) (g_voteNumber : Nat) (g_allValue : Nat) (g_allNumber : Nat) (g_nodeL : Nat) (g_nodeR : Nat) (g_part : Nat) (g_wasMany : Nat) (g_wasLoss : Nat) (g_wasValue : Nat) (g_wasNumber : Nat) (g_path : Nat) (g_heavyValue : Nat) (g_heavyTimes : Nat) (g_fewest : Nat) (g_which : Nat) (g_met : Nat) (m_n : Int32) (m_slots : Int32) (m_thrown : Int32) (m_allMany : Int32) (m_nodes : Int32) (m_partMany : Int32) (m_pathMany : Int32) (m_heavyMany : Int32) (m_mostMet : Int32) (cyI : ClassId) (fm : Nat → Int32) (fl : Nat → Int32) (fe : Nat → Int32) (vv : Nat → Int32) (vn : Nat → Int32) (f : Nat → Int32) (av : Nat → Int32) (an : Nat → Int32) (nl : Nat → Int32) (nr : Nat → Int32) (gp : Nat → Int32) (p0 : Int32) (p1 : Int32) (sz : Nat) (a0 : 0 ≤ m_n.toInt) (a1 : m_n.toInt ≤ 160) (sl0 : 1 ≤ m_slots.toInt) (sl1 : m_slots.toInt ≤ 6) (s4 : six4 fm) (q0 : parts320 gp) : kx_MQ l (dC, dI) yX5_parts wsX5_parts ({ frames := 12, cells := 0, slots := 0, locals := 540 }) [.ref h0, .int p0, .int p1] [kx_5 h0 g_row m_n m_slots m_thrown g_many g_loss g_less g_voteValue g_voteNumber g_allValue g_allNumber m_allMany g_nodeL g_nodeR m_nodes g_part m_partMany g_wasMany g_wasLoss g_wasValue g_wasNumber g_path m_pathMany g_heavyValue g_heavyTimes m_heavyMany g_fewest g_which g_met m_mostMet, kx_a g_row cyI 160 f, kx_a g_many cyI 324 fm, kx_a g_loss cyI 324 fl, kx_a g_less cyI 324 fe, kx_a g_voteValue cyI 1944 vv, kx_a g_voteNumber cyI 1944 vn, kx_a g_allValue cyI 12 av, kx_a g_allNumber cyI 12 an, kx_a g_nodeL cyI 320 nl, kx_a g_nodeR cyI 320 nr, kx_a g_part cyI 320 gp] [(cyI, .int)] sz (fun A => va_Qi (fun (r : Int32) (u : Int32 × Int32 × (Nat → Int32) × (Nat → Int32) × (Nat → Int32) × (Nat → Int32) × (Nat → Int32) × (Nat → Int32) × (Nat → Int32) × (Nat → Int32) × (Nat → Int32) × Int32 × (Nat → Int32)) => six4 u.2.2.1 ∧ parts320 u.2.2.2.2.2.2.2.2.2.2.2.2) (fun (u : Int32 × Int32 × (Nat → Int32) × (Nat → Int32) × (Nat → Int32) × (Nat → Int32) × (Nat → Int32) × (Nat → Int32) × (Nat → Int32) × (Nat → Int32) × (Nat → Int32) × Int32 × (Nat → Int32)) (t : State) => va_P (dC, dI) vwCl [kx_5 h0 g_row m_n m_slots 0 g_many g_loss g_less g_voteValue g_voteNumber g_allValue g_allNumber u.2.1 g_nodeL g_nodeR u.1 g_part u.2.2.2.2.2.2.2.2.2.2.2.1 g_wasMany g_wasLoss g_wasValue g_wasNumber g_path m_pathMany g_heavyValue g_heavyTimes m_heavyMany g_fewest g_which g_met m_mostMet, kx_a g_row cyI 160 f, kx_a g_many cyI 324 u.2.2.1, kx_a g_loss cyI 324 u.2.2.2.1, kx_a g_less cyI 324 u.2.2.2.2.1, kx_a g_voteValue cyI 1944 u.2.2.2.2.2.1, kx_a g_voteNumber cyI 1944 u.2.2.2.2.2.2.1, kx_a g_allValue cyI 12 u.2.2.2.2.2.2.2.1, kx_a g_allNumber cyI 12 u.2.2.2.2.2.2.2.2.1, kx_a g_nodeL cyI 320 u.2.2.2.2.2.2.2.2.2.1, kx_a g_nodeR cyI 320 u.2.2.2.2.2.2.2.2.2.2.1, kx_a g_part cyI 320 u.2.2.2.2.2.2.2.2.2.2.2.2] t.heap ∧ va_K (dC, dI) vwCl [(cyI, .int)] t ∧ va_D A [kx_5 h0 g_row m_n m_slots 0 g_many g_loss g_less g_voteValue g_voteNumber g_allValue g_allNumber u.2.1 g_nodeL g_nodeR u.1 g_part u.2.2.2.2.2.2.2.2.2.2.2.1 g_wasMany g_wasLoss g_wasValue g_wasNumber g_path m_pathMany g_heavyValue g_heavyTimes m_heavyMany g_fewest g_which g_met m_mostMet, kx_a g_row cyI 160 f, kx_a g_many cyI 324 u.2.2.1, kx_a g_loss cyI 324 u.2.2.2.1, kx_a g_less cyI 324 u.2.2.2.2.1, kx_a g_voteValue cyI 1944 u.2.2.2.2.2.1, kx_a g_voteNumber cyI 1944 u.2.2.2.2.2.2.1, kx_a g_allValue cyI 12 u.2.2.2.2.2.2.2.1, kx_a g_allNumber cyI 12 u.2.2.2.2.2.2.2.2.1, kx_a g_nodeL cyI 320 u.2.2.2.2.2.2.2.2.2.1, kx_a g_nodeR cyI 320 u.2.2.2.2.2.2.2.2.2.2.1, kx_a g_part cyI 320 u.2.2.2.2.2.2.2.2.2.2.2.2]) A) := by
  refine kx_stQ (ws := wsX5_parts) (cc := cX5_parts) (maxL := 3) (ret := (some .int)) (by decide) rfl (Nat.le_of_ble_eq_true rfl) ?_
  intro p e s m below meth c A ls hx hb hr hlocks hts hown hml hA hS hP hK hD hl
  have hown : s.vm.findClass RX5 = some m.cls := hown
  have hl : lv_has ls 3 [(0, .ref h0), (1, .int p0), (2, .int p1)] := hl
  have hf_77 := hts (.fieldLink RX5 77 "MajorityIndexModel" "thrown" "I") (List.mem_of_getElem? (i := 1) rfl)
  have hi_5 : ∀ w ∈ u_ws RX5 TX5 30, w ∈ wsX5_parts := fun w h => List.mem_cons_of_mem _ (List.mem_append_right _ h)
  have hf_13 := hts (.fieldLink RX5 13 "MajorityIndexModel" "slots" "I") (List.mem_of_getElem? (i := 2) rfl)
  have hf_115 := hts (.fieldLink RX5 115 "MajorityIndexModel" "partMany" "I") (List.mem_of_getElem? (i := 3) rfl)
  refine lv_aload_n hx hb dX5_parts_0 rfl (lv_at hl 0 rfl) ?_
  refine lv_iconst (v := 0) hx hb dX5_parts_1 (by decide) ?_
  refine va_put (D := (dC, dI)) (ci := 5) (v := .int 0) (ty := .int) (C := RX5) (T := TX5) (N := 30) hx hb hts hi_5 tyX5 tyX5_ok nmX5 hown hK hP hD hS 0 rfl rfl 3 (by decide) hf_77 (fun _ h9 => h9) rfl (by decide +kernel) rfl rfl (Nat.le_of_ble_eq_true rfl) dX5_parts_2 (fun H locs hP hD hS => ?_)
  obtain ⟨hP, hD⟩ := kx_re (w2 := [kx_5 h0 g_row m_n m_slots 0 g_many g_loss g_less g_voteValue g_voteNumber g_allValue g_allNumber m_allMany g_nodeL g_nodeR m_nodes g_part m_partMany g_wasMany g_wasLoss g_wasValue g_wasNumber g_path m_pathMany g_heavyValue g_heavyTimes m_heavyMany g_fewest g_which g_met m_mostMet, kx_a g_row cyI 160 f, kx_a g_many cyI 324 fm, kx_a g_loss cyI 324 fl, kx_a g_less cyI 324 fe, kx_a g_voteValue cyI 1944 vv, kx_a g_voteNumber cyI 1944 vn, kx_a g_allValue cyI 12 av, kx_a g_allNumber cyI 12 an, kx_a g_nodeL cyI 320 nl, kx_a g_nodeR cyI 320 nr, kx_a g_part cyI 320 gp]) hP hD rfl
  refine lv_aload_n hx hb dX5_parts_5 rfl (lv_at hl 0 rfl) ?_
  refine lv_iload_n hx hb dX5_parts_6 rfl (lv_at hl 1 rfl) ?_
  refine lv_iload_n hx hb dX5_parts_7 rfl (lv_at hl 2 rfl) ?_
  have hPc := hP.sub (ws' := [kx_5 h0 g_row m_n m_slots 0 g_many g_loss g_less g_voteValue g_voteNumber g_allValue g_allNumber m_allMany g_nodeL g_nodeR m_nodes g_part m_partMany g_wasMany g_wasLoss g_wasValue g_wasNumber g_path m_pathMany g_heavyValue g_heavyTimes m_heavyMany g_fewest g_which g_met m_mostMet]) [0] rfl
  have hKc := hK.sub (tys' := []) [] rfl
  refine vp_callSi (W.runV (As := [.int p0, .int p1]) (rest := []) ⟨hx, hb, hml, hown, hts⟩ (c_X5_isRange l dC dI h0 g_row g_many g_loss g_less g_voteValue g_voteNumber g_allValue g_allNumber g_nodeL g_nodeR g_part g_wasMany g_wasLoss g_wasValue g_wasNumber g_path g_heavyValue g_heavyTimes g_fewest g_which g_met m_n m_slots 0 m_allMany m_nodes m_partMany m_pathMany m_heavyMany m_mostMet p0 p1) (cwV 2 hts gX5_parts_X5_isRange rfl rfl rfl (by decide +kernel) ⟨Nat.le_of_ble_eq_true rfl, Nat.le_of_ble_eq_true rfl⟩) ⟨fun a U g mk q => by obtain ⟨q0, qP, qK⟩ := q; exact ⟨q0, qP, va_K.moved (u := U) (U := U.calling g mk a) (Vm.Alike.refl U.vm) qK⟩, kx_rc5 hKc hPc (q0 := 0) rfl, fun U hU hW => ⟨rfl, by rw [hU]; exact hPc, va_K.moved hW.alike hKc⟩⟩ rfl rfl hl.1 rfl (lv_room (Nat.le_of_ble_eq_true rfl)) dX5_parts_8 ⟨Nat.le_of_ble_eq_true rfl, Nat.le_of_ble_eq_true rfl⟩) (fun r_1 w_1 => ?_)
  rcases w_1 with ⟨rfl, w_1⟩ | ⟨rfl, w_1⟩
  · have w_1 : (0 ≤ p0.toInt ∧ p0.toInt < p1.toInt ∧ p1.toInt ≤ m_n.toInt) := w_1
    refine lv_if_ne (tgt := 16) hx hb dX5_parts_11 (by decide) (fun c_2 => ?_) (fun c_2 => ?_)
    · refine lv_aload_n hx hb dX5_parts_16 rfl (lv_at hl 0 rfl) ?_
      refine lv_aload_n hx hb dX5_parts_17 rfl (lv_at hl 0 rfl) ?_
      refine va_get (D := (dC, dI)) (ci := 5) (v := .int m_slots) (C := RX5) (T := TX5) (N := 30) hx hb hts hi_5 hown hK hP 0 rfl rfl 2 (by decide) hf_13 (fun _ h9 => h9) rfl dX5_parts_18 ?_
      obtain ⟨hPc, hDc, hFc, hCc⟩ := kx_preM (wc := [kx_5 h0 g_row m_n m_slots 0 g_many g_loss g_less g_voteValue g_voteNumber g_allValue g_allNumber m_allMany g_nodeL g_nodeR m_nodes g_part m_partMany g_wasMany g_wasLoss g_wasValue g_wasNumber g_path m_pathMany g_heavyValue g_heavyTimes m_heavyMany g_fewest g_which g_met m_mostMet, kx_a g_row cyI 160 f, kx_a g_many cyI 324 fm, kx_a g_loss cyI 324 fl, kx_a g_less cyI 324 fe, kx_a g_voteValue cyI 1944 vv, kx_a g_voteNumber cyI 1944 vn, kx_a g_allValue cyI 12 av, kx_a g_allNumber cyI 12 an, kx_a g_nodeL cyI 320 nl, kx_a g_nodeR cyI 320 nr]) hP hD hS hA [true, true, true, true, true, true, true, true, true, true, true, false] rfl
      have hKc := hK
      refine va_callv (va_runV (As := [.int m_slots]) (rest := []) ⟨hx, hb, hml, hown, hts⟩ (kx_un (c_X5_laysAll l dC dI h0 g_row g_many g_loss g_less g_voteValue g_voteNumber g_allValue g_allNumber g_nodeL g_nodeR g_part g_wasMany g_wasLoss g_wasValue g_wasNumber g_path g_heavyValue g_heavyTimes g_fewest g_which g_met m_n m_slots 0 m_allMany m_nodes m_partMany m_pathMany m_heavyMany m_mostMet cyI fm fl fe vv vn f av an nl nr m_slots H.size a0 a1 sl0 sl1 s4)) (cwV 1 hts gX5_parts_X5_laysAll rfl rfl rfl (by decide +kernel) ⟨Nat.le_of_ble_eq_true rfl, Nat.le_of_ble_eq_true rfl⟩) ⟨fun a U g mk q => by obtain ⟨q0, q1, qP, qK, qD⟩ := q; exact ⟨q0, q1, qP, va_K.moved (u := U) (U := U.calling g mk a) (Vm.Alike.refl U.vm) qK, qD⟩, kx_rc5 hKc hPc (q0 := 0) rfl, fun U hU hW => ⟨rfl, by rw [hU], by rw [hU]; exact hPc, va_K.moved hW.alike hKc, hDc.weaken (fun _ _ _ _ => trivial)⟩⟩ rfl rfl hl.1 rfl (lv_room (Nat.le_of_ble_eq_true rfl)) dX5_parts_21 ⟨Nat.le_of_ble_eq_true rfl, Nat.le_of_ble_eq_true rfl⟩) hS (fun q _ h => hFc q h) hFc (fun u t H1 locs ht hvm w_3 hB hz1 hk1 hS => ?_)
      obtain ⟨o_4, o_5, o_6, o_7, o_8, o_9, o_10, o_11, o_12, o_13, o_14⟩ := u
      dsimp only at w_3 hB
      obtain ⟨hP1, hK1, hD1⟩ := hB
      rw [ht] at hP1
      have hK1 := va_K.moved hvm.symm hK1
      obtain ⟨hP, hD⟩ := kx_joinM (w2 := [kx_5 h0 g_row m_n m_slots 0 g_many g_loss g_less g_voteValue g_voteNumber g_allValue g_allNumber o_5 g_nodeL g_nodeR o_4 g_part m_partMany g_wasMany g_wasLoss g_wasValue g_wasNumber g_path m_pathMany g_heavyValue g_heavyTimes m_heavyMany g_fewest g_which g_met m_mostMet, kx_a g_row cyI 160 f, kx_a g_many cyI 324 o_6, kx_a g_loss cyI 324 o_7, kx_a g_less cyI 324 o_8, kx_a g_voteValue cyI 1944 o_9, kx_a g_voteNumber cyI 1944 o_10, kx_a g_allValue cyI 12 o_11, kx_a g_allNumber cyI 12 o_12, kx_a g_nodeL cyI 320 o_13, kx_a g_nodeR cyI 320 o_14, kx_a g_part cyI 320 gp]) hP hD hP1 hD1 hk1 hFc [true, true, true, true, true, true, true, true, true, true, true, false] hCc rfl
      clear hP1 hD1 hK1 hk1 hz1 hFc hDc hPc hKc hCc
      generalize H1 = H at hP hS ⊢
      have w_3 : mj_L m_slots.toNatClampNeg f o_13 o_14 o_6 o_7 o_8 o_9 o_10 m_n.toInt o_4.toInt ∧ six4 o_6 ∧ 0 ≤ o_4.toInt ∧ o_4.toInt ≤ 319 := w_3
      refine lv_aload_n hx hb dX5_parts_24 rfl (lv_at hl 0 rfl) ?_
      refine lv_iload_n hx hb dX5_parts_25 rfl (lv_at hl 1 rfl) ?_
      refine lv_iload_n hx hb dX5_parts_26 rfl (lv_at hl 2 rfl) ?_
      obtain ⟨hPc, hDc, hFc, hCc⟩ := kx_preM (wc := [kx_5 h0 g_row m_n m_slots 0 g_many g_loss g_less g_voteValue g_voteNumber g_allValue g_allNumber o_5 g_nodeL g_nodeR o_4 g_part m_partMany g_wasMany g_wasLoss g_wasValue g_wasNumber g_path m_pathMany g_heavyValue g_heavyTimes m_heavyMany g_fewest g_which g_met m_mostMet, kx_a g_nodeL cyI 320 o_13, kx_a g_nodeR cyI 320 o_14, kx_a g_part cyI 320 gp]) hP hD hS hA [true, false, false, false, false, false, false, false, false, true, true, true] rfl
      have hKc := hK
      refine va_callv (va_runV (As := [.int p0, .int p1]) (rest := []) ⟨hx, hb, hml, hown, hts⟩ (kx_un (c_X5_laysParts l dC dI h0 g_row g_many g_loss g_less g_voteValue g_voteNumber g_allValue g_allNumber g_nodeL g_nodeR g_part g_wasMany g_wasLoss g_wasValue g_wasNumber g_path g_heavyValue g_heavyTimes g_fewest g_which g_met m_n m_slots 0 o_5 o_4 m_partMany m_pathMany m_heavyMany m_mostMet cyI o_13 o_14 gp p0 p1 H.size w_3.2.2.1 w_3.2.2.2 q0)) (cwV 2 hts gX5_parts_X5_laysParts rfl rfl rfl (by decide +kernel) ⟨Nat.le_of_ble_eq_true rfl, Nat.le_of_ble_eq_true rfl⟩) ⟨fun a U g mk q => by obtain ⟨q0, q1, qP, qK, qD⟩ := q; exact ⟨q0, q1, qP, va_K.moved (u := U) (U := U.calling g mk a) (Vm.Alike.refl U.vm) qK, qD⟩, kx_rc5 hKc hPc (q0 := 0) rfl, fun U hU hW => ⟨rfl, by rw [hU], by rw [hU]; exact hPc, va_K.moved hW.alike hKc, hDc.weaken (fun _ _ _ _ => trivial)⟩⟩ rfl rfl hl.1 rfl (lv_room (Nat.le_of_ble_eq_true rfl)) dX5_parts_27 ⟨Nat.le_of_ble_eq_true rfl, Nat.le_of_ble_eq_true rfl⟩) hS (fun q _ h => hFc q h) hFc (fun u t H1 locs ht hvm w_15 hB hz1 hk1 hS => ?_)
      obtain ⟨o_16, o_17⟩ := u
      dsimp only at w_15 hB
      obtain ⟨hP1, hK1, hD1⟩ := hB
      rw [ht] at hP1
      have hK1 := va_K.moved hvm.symm hK1
      obtain ⟨hP, hD⟩ := kx_joinM (w2 := [kx_5 h0 g_row m_n m_slots 0 g_many g_loss g_less g_voteValue g_voteNumber g_allValue g_allNumber o_5 g_nodeL g_nodeR o_4 g_part o_16 g_wasMany g_wasLoss g_wasValue g_wasNumber g_path m_pathMany g_heavyValue g_heavyTimes m_heavyMany g_fewest g_which g_met m_mostMet, kx_a g_row cyI 160 f, kx_a g_many cyI 324 o_6, kx_a g_loss cyI 324 o_7, kx_a g_less cyI 324 o_8, kx_a g_voteValue cyI 1944 o_9, kx_a g_voteNumber cyI 1944 o_10, kx_a g_allValue cyI 12 o_11, kx_a g_allNumber cyI 12 o_12, kx_a g_nodeL cyI 320 o_13, kx_a g_nodeR cyI 320 o_14, kx_a g_part cyI 320 o_17]) hP hD hP1 hD1 hk1 hFc [true, false, false, false, false, false, false, false, false, true, true, true] hCc rfl
      clear hP1 hD1 hK1 hk1 hz1 hFc hDc hPc hKc hCc
      generalize H1 = H at hP hS ⊢
      have w_15 : o_16.toInt = (mj_pq o_13 o_14 p0.toInt p1.toInt o_4.toNatClampNeg : Int) ∧ mj_pa o_13 o_14 p0.toInt p1.toInt o_17 o_4.toNatClampNeg ∧ parts320 o_17 ∧ 0 ≤ o_16.toInt ∧ o_16.toInt ≤ o_4.toInt := w_15
      refine lv_aload_n hx hb dX5_parts_30 rfl (lv_at hl 0 rfl) ?_
      refine va_get (D := (dC, dI)) (ci := 5) (v := .int o_16) (C := RX5) (T := TX5) (N := 30) hx hb hts hi_5 hown hK hP 0 rfl rfl 16 (by decide) hf_115 (fun _ h9 => h9) rfl dX5_parts_31 ?_
      have hP9 := hP
      have hD9 := hD
      have hK9 := hK
      exact W.iret (v := o_16) hx hb hr (hlocks := hlocks) (fun t ht hW => ⟨⟨o_16, (o_4, o_5, o_6, o_7, o_8, o_9, o_10, o_11, o_12, o_13, o_14, o_16, o_17), rfl, ⟨w_3.2.1, w_15.2.2.1⟩, by rw [ht]; exact hP9, va_K.moved hW.alike hK9, hD9⟩, hS.F ht⟩) hS.2.2 dX5_parts_34
    · exact absurd c_2 (by decide)
  · have w_1 : (p0.toInt < 0 ∨ p1.toInt ≤ p0.toInt ∨ m_n.toInt < p1.toInt) := w_1
    refine lv_if_ne (tgt := 16) hx hb dX5_parts_11 (by decide) (fun c_18 => ?_) (fun c_18 => ?_)
    · exact absurd c_18 (by decide)
    · refine lv_iconst (v := (-1)) hx hb dX5_parts_14 (by decide) ?_
      have hP9 := hP
      have hD9 := hD
      have hK9 := hK
      exact W.iret (v := (-1)) hx hb hr (hlocks := hlocks) (fun t ht hW => ⟨⟨(-1), (m_nodes, m_allMany, fm, fl, fe, vv, vn, av, an, nl, nr, m_partMany, gp), rfl, ⟨s4, q0⟩, by rw [ht]; exact hP9, va_K.moved hW.alike hK9, hD9⟩, hS.F ht⟩) hS.2.2 dX5_parts_15

set_option maxHeartbeats 4000000 in
set_option maxRecDepth 100000 in
theorem c_X5_part (l : Launch) (dC : Nat → ClassId) (dI : Nat → Nat → Nat) (h0 : Nat) (g_row : Nat) (g_many : Nat) (g_loss : Nat) (g_less : Nat) (g_voteValue : Nat) (g_voteNumber : Nat) (g_allValue : Nat) (g_allNumber : Nat) (g_nodeL : Nat) (g_nodeR : Nat) (g_part : Nat) (g_wasMany : Nat) (g_wasLoss : Nat) (g_wasValue : Nat) (g_wasNumber : Nat) (g_path : Nat) (g_heavyValue : Nat) (g_heavyTimes : Nat) (g_fewest : Nat) (g_which : Nat) (g_met : Nat) (m_n : Int32) (m_slots : Int32) (m_thrown : Int32) (m_allMany : Int32) (m_nodes : Int32) (m_partMany : Int32) (m_pathMany : Int32) (m_heavyMany : Int32) (m_mostMet : Int32) (cyI : ClassId) (fm : Nat → Int32) (fl : Nat → Int32) (fe : Nat → Int32) (vv : Nat → Int32) (vn : Nat → Int32) (f : Nat → Int32) (av : Nat → Int32) (an : Nat → Int32) (nl : Nat → Int32) (nr : Nat → Int32) (gp : Nat → Int32) (p0 : Int32) (p1 : Int32) (p2 : Int32) (p3 : Int32) (sz : Nat) (a0 : 0 ≤ m_n.toInt) (a1 : m_n.toInt ≤ 160) (sl0 : 1 ≤ m_slots.toInt) (sl1 : m_slots.toInt ≤ 6) (s4 : six4 fm) (q0 : parts320 gp) : kx_MQ l (dC, dI) yX5_part wsX5_part ({ frames := 12, cells := 0, slots := 0, locals := 540 }) [.ref h0, .int p0, .int p1, .int p2, .int p3] [kx_5 h0 g_row m_n m_slots m_thrown g_many g_loss g_less g_voteValue g_voteNumber g_allValue g_allNumber m_allMany g_nodeL g_nodeR m_nodes g_part m_partMany g_wasMany g_wasLoss g_wasValue g_wasNumber g_path m_pathMany g_heavyValue g_heavyTimes m_heavyMany g_fewest g_which g_met m_mostMet, kx_a g_row cyI 160 f, kx_a g_many cyI 324 fm, kx_a g_loss cyI 324 fl, kx_a g_less cyI 324 fe, kx_a g_voteValue cyI 1944 vv, kx_a g_voteNumber cyI 1944 vn, kx_a g_allValue cyI 12 av, kx_a g_allNumber cyI 12 an, kx_a g_nodeL cyI 320 nl, kx_a g_nodeR cyI 320 nr, kx_a g_part cyI 320 gp] [(cyI, .int)] sz (fun A => va_Qi (fun (r : Int32) (u : Int32 × Int32 × (Nat → Int32) × (Nat → Int32) × (Nat → Int32) × (Nat → Int32) × (Nat → Int32) × (Nat → Int32) × (Nat → Int32) × (Nat → Int32) × (Nat → Int32) × Int32 × (Nat → Int32)) => six4 u.2.2.1 ∧ parts320 u.2.2.2.2.2.2.2.2.2.2.2.2) (fun (u : Int32 × Int32 × (Nat → Int32) × (Nat → Int32) × (Nat → Int32) × (Nat → Int32) × (Nat → Int32) × (Nat → Int32) × (Nat → Int32) × (Nat → Int32) × (Nat → Int32) × Int32 × (Nat → Int32)) (t : State) => va_P (dC, dI) vwCl [kx_5 h0 g_row m_n m_slots 0 g_many g_loss g_less g_voteValue g_voteNumber g_allValue g_allNumber u.2.1 g_nodeL g_nodeR u.1 g_part u.2.2.2.2.2.2.2.2.2.2.2.1 g_wasMany g_wasLoss g_wasValue g_wasNumber g_path m_pathMany g_heavyValue g_heavyTimes m_heavyMany g_fewest g_which g_met m_mostMet, kx_a g_row cyI 160 f, kx_a g_many cyI 324 u.2.2.1, kx_a g_loss cyI 324 u.2.2.2.1, kx_a g_less cyI 324 u.2.2.2.2.1, kx_a g_voteValue cyI 1944 u.2.2.2.2.2.1, kx_a g_voteNumber cyI 1944 u.2.2.2.2.2.2.1, kx_a g_allValue cyI 12 u.2.2.2.2.2.2.2.1, kx_a g_allNumber cyI 12 u.2.2.2.2.2.2.2.2.1, kx_a g_nodeL cyI 320 u.2.2.2.2.2.2.2.2.2.1, kx_a g_nodeR cyI 320 u.2.2.2.2.2.2.2.2.2.2.1, kx_a g_part cyI 320 u.2.2.2.2.2.2.2.2.2.2.2.2] t.heap ∧ va_K (dC, dI) vwCl [(cyI, .int)] t ∧ va_D A [kx_5 h0 g_row m_n m_slots 0 g_many g_loss g_less g_voteValue g_voteNumber g_allValue g_allNumber u.2.1 g_nodeL g_nodeR u.1 g_part u.2.2.2.2.2.2.2.2.2.2.2.1 g_wasMany g_wasLoss g_wasValue g_wasNumber g_path m_pathMany g_heavyValue g_heavyTimes m_heavyMany g_fewest g_which g_met m_mostMet, kx_a g_row cyI 160 f, kx_a g_many cyI 324 u.2.2.1, kx_a g_loss cyI 324 u.2.2.2.1, kx_a g_less cyI 324 u.2.2.2.2.1, kx_a g_voteValue cyI 1944 u.2.2.2.2.2.1, kx_a g_voteNumber cyI 1944 u.2.2.2.2.2.2.1, kx_a g_allValue cyI 12 u.2.2.2.2.2.2.2.1, kx_a g_allNumber cyI 12 u.2.2.2.2.2.2.2.2.1, kx_a g_nodeL cyI 320 u.2.2.2.2.2.2.2.2.2.1, kx_a g_nodeR cyI 320 u.2.2.2.2.2.2.2.2.2.2.1, kx_a g_part cyI 320 u.2.2.2.2.2.2.2.2.2.2.2.2]) A) := by
  refine kx_stQ (ws := wsX5_part) (cc := cX5_part) (maxL := 5) (ret := (some .int)) (by decide) rfl (Nat.le_of_ble_eq_true rfl) ?_
  intro p e s m below meth c A ls hx hb hr hlocks hts hown hml hA hS hP hK hD hl
  have hown : s.vm.findClass RX5 = some m.cls := hown
  have hl : lv_has ls 5 [(0, .ref h0), (1, .int p0), (2, .int p1), (3, .int p2), (4, .int p3)] := hl
  have hf_77 := hts (.fieldLink RX5 77 "MajorityIndexModel" "thrown" "I") (List.mem_of_getElem? (i := 1) rfl)
  have hi_5 : ∀ w ∈ u_ws RX5 TX5 30, w ∈ wsX5_part := fun w h => List.mem_cons_of_mem _ (List.mem_append_right _ h)
  have hf_13 := hts (.fieldLink RX5 13 "MajorityIndexModel" "slots" "I") (List.mem_of_getElem? (i := 2) rfl)
  have hf_115 := hts (.fieldLink RX5 115 "MajorityIndexModel" "partMany" "I") (List.mem_of_getElem? (i := 3) rfl)
  have hf_41 := hts (.fieldLink RX5 41 "MajorityIndexModel" "nodeR" "[I") (List.mem_of_getElem? (i := 6) rfl)
  have hf_44 := hts (.fieldLink RX5 44 "MajorityIndexModel" "part" "[I") (List.mem_of_getElem? (i := 5) rfl)
  have hf_38 := hts (.fieldLink RX5 38 "MajorityIndexModel" "nodeL" "[I") (List.mem_of_getElem? (i := 4) rfl)
  refine lv_aload_n hx hb dX5_part_0 rfl (lv_at hl 0 rfl) ?_
  refine lv_iconst (v := 0) hx hb dX5_part_1 (by decide) ?_
  refine va_put (D := (dC, dI)) (ci := 5) (v := .int 0) (ty := .int) (C := RX5) (T := TX5) (N := 30) hx hb hts hi_5 tyX5 tyX5_ok nmX5 hown hK hP hD hS 0 rfl rfl 3 (by decide) hf_77 (fun _ h9 => h9) rfl (by decide +kernel) rfl rfl (Nat.le_of_ble_eq_true rfl) dX5_part_2 (fun H locs hP hD hS => ?_)
  obtain ⟨hP, hD⟩ := kx_re (w2 := [kx_5 h0 g_row m_n m_slots 0 g_many g_loss g_less g_voteValue g_voteNumber g_allValue g_allNumber m_allMany g_nodeL g_nodeR m_nodes g_part m_partMany g_wasMany g_wasLoss g_wasValue g_wasNumber g_path m_pathMany g_heavyValue g_heavyTimes m_heavyMany g_fewest g_which g_met m_mostMet, kx_a g_row cyI 160 f, kx_a g_many cyI 324 fm, kx_a g_loss cyI 324 fl, kx_a g_less cyI 324 fe, kx_a g_voteValue cyI 1944 vv, kx_a g_voteNumber cyI 1944 vn, kx_a g_allValue cyI 12 av, kx_a g_allNumber cyI 12 an, kx_a g_nodeL cyI 320 nl, kx_a g_nodeR cyI 320 nr, kx_a g_part cyI 320 gp]) hP hD rfl
  refine lv_aload_n hx hb dX5_part_5 rfl (lv_at hl 0 rfl) ?_
  refine lv_iload_n hx hb dX5_part_6 rfl (lv_at hl 1 rfl) ?_
  refine lv_iload_n hx hb dX5_part_7 rfl (lv_at hl 2 rfl) ?_
  have hPc := hP.sub (ws' := [kx_5 h0 g_row m_n m_slots 0 g_many g_loss g_less g_voteValue g_voteNumber g_allValue g_allNumber m_allMany g_nodeL g_nodeR m_nodes g_part m_partMany g_wasMany g_wasLoss g_wasValue g_wasNumber g_path m_pathMany g_heavyValue g_heavyTimes m_heavyMany g_fewest g_which g_met m_mostMet]) [0] rfl
  have hKc := hK.sub (tys' := []) [] rfl
  refine vp_callSi (W.runV (As := [.int p0, .int p1]) (rest := []) ⟨hx, hb, hml, hown, hts⟩ (c_X5_isRange l dC dI h0 g_row g_many g_loss g_less g_voteValue g_voteNumber g_allValue g_allNumber g_nodeL g_nodeR g_part g_wasMany g_wasLoss g_wasValue g_wasNumber g_path g_heavyValue g_heavyTimes g_fewest g_which g_met m_n m_slots 0 m_allMany m_nodes m_partMany m_pathMany m_heavyMany m_mostMet p0 p1) (cwV 2 hts gX5_part_X5_isRange rfl rfl rfl (by decide +kernel) ⟨Nat.le_of_ble_eq_true rfl, Nat.le_of_ble_eq_true rfl⟩) ⟨fun a U g mk q => by obtain ⟨q0, qP, qK⟩ := q; exact ⟨q0, qP, va_K.moved (u := U) (U := U.calling g mk a) (Vm.Alike.refl U.vm) qK⟩, kx_rc5 hKc hPc (q0 := 0) rfl, fun U hU hW => ⟨rfl, by rw [hU]; exact hPc, va_K.moved hW.alike hKc⟩⟩ rfl rfl hl.1 rfl (lv_room (Nat.le_of_ble_eq_true rfl)) dX5_part_8 ⟨Nat.le_of_ble_eq_true rfl, Nat.le_of_ble_eq_true rfl⟩) (fun r_1 w_1 => ?_)
  rcases w_1 with ⟨rfl, w_1⟩ | ⟨rfl, w_1⟩
  · have w_1 : (0 ≤ p0.toInt ∧ p0.toInt < p1.toInt ∧ p1.toInt ≤ m_n.toInt) := w_1
    refine lv_if_eq (tgt := 24) hx hb dX5_part_11 (by decide) (fun c_2 => ?_) (fun c_2 => ?_)
    · exact absurd c_2 (by decide)
    · refine lv_iload hx hb dX5_part_14 (lv_at hl 4 rfl) ?_
      refine lv_iconst (v := 0) hx hb dX5_part_16 (by decide) ?_
      refine lv_iconst (v := 1) hx hb dX5_part_17 (by decide) ?_
      have hPc := hP.sub (ws' := []) [] rfl
      have hKc := hK.sub (tys' := []) [] rfl
      refine vp_callSi (W.runS (As := [.int p3, .int 0, .int 1]) (rest := []) ⟨hx, hb, hml, hown, hts⟩ (c_X5_within l dC dI p3 0 1) (va_cwS 3 hts gX5_part_X5_within rfl rfl rfl (by decide +kernel) ⟨Nat.le_of_ble_eq_true rfl, Nat.le_of_ble_eq_true rfl⟩) ⟨fun a U g mk q => by obtain ⟨q0, qP, qK⟩ := q; exact ⟨q0, qP, va_K.moved (u := U) (U := U.calling g mk a) (Vm.Alike.refl U.vm) qK⟩, fun U hU hW => ⟨rfl, by rw [hU]; exact hPc, va_K.moved hW.alike hKc⟩⟩ rfl rfl hl.1 rfl (lv_room (Nat.le_of_ble_eq_true rfl)) dX5_part_18 ⟨Nat.le_of_ble_eq_true rfl, Nat.le_of_ble_eq_true rfl⟩) (fun r_3 w_3 => ?_)
      rcases w_3 with ⟨rfl, w_3⟩ | ⟨rfl, w_3⟩
      · have w_3 : (0 ≤ p3.toInt ∧ p3.toInt ≤ 1) := w_3
        refine lv_if_ne (tgt := 26) hx hb dX5_part_21 (by decide) (fun c_4 => ?_) (fun c_4 => ?_)
        · refine lv_aload_n hx hb dX5_part_26 rfl (lv_at hl 0 rfl) ?_
          refine lv_aload_n hx hb dX5_part_27 rfl (lv_at hl 0 rfl) ?_
          refine va_get (D := (dC, dI)) (ci := 5) (v := .int m_slots) (C := RX5) (T := TX5) (N := 30) hx hb hts hi_5 hown hK hP 0 rfl rfl 2 (by decide) hf_13 (fun _ h9 => h9) rfl dX5_part_28 ?_
          obtain ⟨hPc, hDc, hFc, hCc⟩ := kx_preM (wc := [kx_5 h0 g_row m_n m_slots 0 g_many g_loss g_less g_voteValue g_voteNumber g_allValue g_allNumber m_allMany g_nodeL g_nodeR m_nodes g_part m_partMany g_wasMany g_wasLoss g_wasValue g_wasNumber g_path m_pathMany g_heavyValue g_heavyTimes m_heavyMany g_fewest g_which g_met m_mostMet, kx_a g_row cyI 160 f, kx_a g_many cyI 324 fm, kx_a g_loss cyI 324 fl, kx_a g_less cyI 324 fe, kx_a g_voteValue cyI 1944 vv, kx_a g_voteNumber cyI 1944 vn, kx_a g_allValue cyI 12 av, kx_a g_allNumber cyI 12 an, kx_a g_nodeL cyI 320 nl, kx_a g_nodeR cyI 320 nr]) hP hD hS hA [true, true, true, true, true, true, true, true, true, true, true, false] rfl
          have hKc := hK
          refine va_callv (va_runV (As := [.int m_slots]) (rest := []) ⟨hx, hb, hml, hown, hts⟩ (kx_un (c_X5_laysAll l dC dI h0 g_row g_many g_loss g_less g_voteValue g_voteNumber g_allValue g_allNumber g_nodeL g_nodeR g_part g_wasMany g_wasLoss g_wasValue g_wasNumber g_path g_heavyValue g_heavyTimes g_fewest g_which g_met m_n m_slots 0 m_allMany m_nodes m_partMany m_pathMany m_heavyMany m_mostMet cyI fm fl fe vv vn f av an nl nr m_slots H.size a0 a1 sl0 sl1 s4)) (cwV 1 hts gX5_part_X5_laysAll rfl rfl rfl (by decide +kernel) ⟨Nat.le_of_ble_eq_true rfl, Nat.le_of_ble_eq_true rfl⟩) ⟨fun a U g mk q => by obtain ⟨q0, q1, qP, qK, qD⟩ := q; exact ⟨q0, q1, qP, va_K.moved (u := U) (U := U.calling g mk a) (Vm.Alike.refl U.vm) qK, qD⟩, kx_rc5 hKc hPc (q0 := 0) rfl, fun U hU hW => ⟨rfl, by rw [hU], by rw [hU]; exact hPc, va_K.moved hW.alike hKc, hDc.weaken (fun _ _ _ _ => trivial)⟩⟩ rfl rfl hl.1 rfl (lv_room (Nat.le_of_ble_eq_true rfl)) dX5_part_31 ⟨Nat.le_of_ble_eq_true rfl, Nat.le_of_ble_eq_true rfl⟩) hS (fun q _ h => hFc q h) hFc (fun u t H1 locs ht hvm w_5 hB hz1 hk1 hS => ?_)
          obtain ⟨o_6, o_7, o_8, o_9, o_10, o_11, o_12, o_13, o_14, o_15, o_16⟩ := u
          dsimp only at w_5 hB
          obtain ⟨hP1, hK1, hD1⟩ := hB
          rw [ht] at hP1
          have hK1 := va_K.moved hvm.symm hK1
          obtain ⟨hP, hD⟩ := kx_joinM (w2 := [kx_5 h0 g_row m_n m_slots 0 g_many g_loss g_less g_voteValue g_voteNumber g_allValue g_allNumber o_7 g_nodeL g_nodeR o_6 g_part m_partMany g_wasMany g_wasLoss g_wasValue g_wasNumber g_path m_pathMany g_heavyValue g_heavyTimes m_heavyMany g_fewest g_which g_met m_mostMet, kx_a g_row cyI 160 f, kx_a g_many cyI 324 o_8, kx_a g_loss cyI 324 o_9, kx_a g_less cyI 324 o_10, kx_a g_voteValue cyI 1944 o_11, kx_a g_voteNumber cyI 1944 o_12, kx_a g_allValue cyI 12 o_13, kx_a g_allNumber cyI 12 o_14, kx_a g_nodeL cyI 320 o_15, kx_a g_nodeR cyI 320 o_16, kx_a g_part cyI 320 gp]) hP hD hP1 hD1 hk1 hFc [true, true, true, true, true, true, true, true, true, true, true, false] hCc rfl
          clear hP1 hD1 hK1 hk1 hz1 hFc hDc hPc hKc hCc
          generalize H1 = H at hP hS ⊢
          have w_5 : mj_L m_slots.toNatClampNeg f o_15 o_16 o_8 o_9 o_10 o_11 o_12 m_n.toInt o_6.toInt ∧ six4 o_8 ∧ 0 ≤ o_6.toInt ∧ o_6.toInt ≤ 319 := w_5
          refine lv_aload_n hx hb dX5_part_34 rfl (lv_at hl 0 rfl) ?_
          refine lv_iload_n hx hb dX5_part_35 rfl (lv_at hl 1 rfl) ?_
          refine lv_iload_n hx hb dX5_part_36 rfl (lv_at hl 2 rfl) ?_
          obtain ⟨hPc, hDc, hFc, hCc⟩ := kx_preM (wc := [kx_5 h0 g_row m_n m_slots 0 g_many g_loss g_less g_voteValue g_voteNumber g_allValue g_allNumber o_7 g_nodeL g_nodeR o_6 g_part m_partMany g_wasMany g_wasLoss g_wasValue g_wasNumber g_path m_pathMany g_heavyValue g_heavyTimes m_heavyMany g_fewest g_which g_met m_mostMet, kx_a g_nodeL cyI 320 o_15, kx_a g_nodeR cyI 320 o_16, kx_a g_part cyI 320 gp]) hP hD hS hA [true, false, false, false, false, false, false, false, false, true, true, true] rfl
          have hKc := hK
          refine va_callv (va_runV (As := [.int p0, .int p1]) (rest := []) ⟨hx, hb, hml, hown, hts⟩ (kx_un (c_X5_laysParts l dC dI h0 g_row g_many g_loss g_less g_voteValue g_voteNumber g_allValue g_allNumber g_nodeL g_nodeR g_part g_wasMany g_wasLoss g_wasValue g_wasNumber g_path g_heavyValue g_heavyTimes g_fewest g_which g_met m_n m_slots 0 o_7 o_6 m_partMany m_pathMany m_heavyMany m_mostMet cyI o_15 o_16 gp p0 p1 H.size w_5.2.2.1 w_5.2.2.2 q0)) (cwV 2 hts gX5_part_X5_laysParts rfl rfl rfl (by decide +kernel) ⟨Nat.le_of_ble_eq_true rfl, Nat.le_of_ble_eq_true rfl⟩) ⟨fun a U g mk q => by obtain ⟨q0, q1, qP, qK, qD⟩ := q; exact ⟨q0, q1, qP, va_K.moved (u := U) (U := U.calling g mk a) (Vm.Alike.refl U.vm) qK, qD⟩, kx_rc5 hKc hPc (q0 := 0) rfl, fun U hU hW => ⟨rfl, by rw [hU], by rw [hU]; exact hPc, va_K.moved hW.alike hKc, hDc.weaken (fun _ _ _ _ => trivial)⟩⟩ rfl rfl hl.1 rfl (lv_room (Nat.le_of_ble_eq_true rfl)) dX5_part_37 ⟨Nat.le_of_ble_eq_true rfl, Nat.le_of_ble_eq_true rfl⟩) hS (fun q _ h => hFc q h) hFc (fun u t H1 locs ht hvm w_17 hB hz1 hk1 hS => ?_)
          obtain ⟨o_18, o_19⟩ := u
          dsimp only at w_17 hB
          obtain ⟨hP1, hK1, hD1⟩ := hB
          rw [ht] at hP1
          have hK1 := va_K.moved hvm.symm hK1
          obtain ⟨hP, hD⟩ := kx_joinM (w2 := [kx_5 h0 g_row m_n m_slots 0 g_many g_loss g_less g_voteValue g_voteNumber g_allValue g_allNumber o_7 g_nodeL g_nodeR o_6 g_part o_18 g_wasMany g_wasLoss g_wasValue g_wasNumber g_path m_pathMany g_heavyValue g_heavyTimes m_heavyMany g_fewest g_which g_met m_mostMet, kx_a g_row cyI 160 f, kx_a g_many cyI 324 o_8, kx_a g_loss cyI 324 o_9, kx_a g_less cyI 324 o_10, kx_a g_voteValue cyI 1944 o_11, kx_a g_voteNumber cyI 1944 o_12, kx_a g_allValue cyI 12 o_13, kx_a g_allNumber cyI 12 o_14, kx_a g_nodeL cyI 320 o_15, kx_a g_nodeR cyI 320 o_16, kx_a g_part cyI 320 o_19]) hP hD hP1 hD1 hk1 hFc [true, false, false, false, false, false, false, false, false, true, true, true] hCc rfl
          clear hP1 hD1 hK1 hk1 hz1 hFc hDc hPc hKc hCc
          generalize H1 = H at hP hS ⊢
          have w_17 : o_18.toInt = (mj_pq o_15 o_16 p0.toInt p1.toInt o_6.toNatClampNeg : Int) ∧ mj_pa o_15 o_16 p0.toInt p1.toInt o_19 o_6.toNatClampNeg ∧ parts320 o_19 ∧ 0 ≤ o_18.toInt ∧ o_18.toInt ≤ o_6.toInt := w_17
          refine lv_iload_n hx hb dX5_part_40 rfl (lv_at hl 3 rfl) ?_
          refine lv_iconst (v := 0) hx hb dX5_part_41 (by decide) ?_
          refine lv_aload_n hx hb dX5_part_42 rfl (lv_at hl 0 rfl) ?_
          refine va_get (D := (dC, dI)) (ci := 5) (v := .int o_18) (C := RX5) (T := TX5) (N := 30) hx hb hts hi_5 hown hK hP 0 rfl rfl 16 (by decide) hf_115 (fun _ h9 => h9) rfl dX5_part_43 ?_
          refine lv_iconst (v := 1) hx hb dX5_part_46 (by decide) ?_
          refine lv_isub hx hb dX5_part_47 ?_
          refine lv_topi (fun y_20 ey_20 => ?_)
          have i_20 : y_20.toInt = o_18.toInt - 1 := ki_sub ey_20 rfl rfl (om_113 w_17.2.2.2.1) (om_390 w_5.2.2.2 w_17.2.2.2.2)
          have hPc := hP.sub (ws' := []) [] rfl
          have hKc := hK.sub (tys' := []) [] rfl
          refine vp_callSi (W.runS (As := [.int p2, .int 0, .int y_20]) (rest := []) ⟨hx, hb, hml, hown, hts⟩ (c_X5_within l dC dI p2 0 y_20) (va_cwS 3 hts gX5_part_X5_within rfl rfl rfl (by decide +kernel) ⟨Nat.le_of_ble_eq_true rfl, Nat.le_of_ble_eq_true rfl⟩) ⟨fun a U g mk q => by obtain ⟨q0, qP, qK⟩ := q; exact ⟨q0, qP, va_K.moved (u := U) (U := U.calling g mk a) (Vm.Alike.refl U.vm) qK⟩, fun U hU hW => ⟨rfl, by rw [hU]; exact hPc, va_K.moved hW.alike hKc⟩⟩ rfl rfl hl.1 rfl (lv_room (Nat.le_of_ble_eq_true rfl)) dX5_part_48 ⟨Nat.le_of_ble_eq_true rfl, Nat.le_of_ble_eq_true rfl⟩) (fun r_21 w_21 => ?_)
          rcases w_21 with ⟨rfl, w_21⟩ | ⟨rfl, w_21⟩
          · have w_21 : (0 ≤ p2.toInt ∧ p2.toInt ≤ y_20.toInt) := w_21
            refine lv_if_ne (tgt := 56) hx hb dX5_part_51 (by decide) (fun c_22 => ?_) (fun c_22 => ?_)
            · refine lv_iload hx hb dX5_part_56 (lv_at hl 4 rfl) ?_
              refine lv_if_ne (tgt := 75) hx hb dX5_part_58 (by decide) (fun c_23 => ?_) (fun c_23 => ?_)
              · have i_23 : ¬ p3.toInt = 0 := kc_ne c_23
                refine lv_aload_n hx hb dX5_part_75 rfl (lv_at hl 0 rfl) ?_
                refine va_get (D := (dC, dI)) (ci := 5) (v := .ref g_nodeR) (C := RX5) (T := TX5) (N := 30) hx hb hts hi_5 hown hK hP 0 rfl rfl 13 (by decide) hf_41 (fun _ h9 => h9) rfl dX5_part_76 ?_
                refine lv_aload_n hx hb dX5_part_79 rfl (lv_at hl 0 rfl) ?_
                refine va_get (D := (dC, dI)) (ci := 5) (v := .ref g_part) (C := RX5) (T := TX5) (N := 30) hx hb hts hi_5 hown hK hP 0 rfl rfl 15 (by decide) hf_44 (fun _ h9 => h9) rfl dX5_part_80 ?_
                refine lv_iload_n hx hb dX5_part_83 rfl (lv_at hl 3 rfl) ?_
                refine va_iald hx hb hK hP 11 0 rfl rfl (ki_in (om_10 w_21.1) (om_391 w_5.2.2.2 w_17.2.2.2.2 i_20 w_21.2)) dX5_part_84 ?_
                refine lv_topi (fun y_24 ey_24 => ?_)
                have j_24 : y_24.toInt = (o_19 p2.toNatClampNeg).toInt := congrArg Int32.toInt ey_24
                have n_25 : (p2.toNatClampNeg : Int) = p2.toInt := ki_nat _ rfl (om_10 w_21.1)
                have i_26 := w_17.2.2.1 p2.toNatClampNeg (om_ln n_25 (om_391 w_5.2.2.2 w_17.2.2.2.2 i_20 w_21.2))
                refine va_iald hx hb hK hP 10 0 rfl rfl (ki_in (om_144 j_24 i_26.1) (om_392 j_24 i_26.2)) dX5_part_85 ?_
                refine lv_topi (fun y_27 ey_27 => ?_)
                have j_27 : y_27.toInt = (o_16 y_24.toNatClampNeg).toInt := congrArg Int32.toInt ey_27
                have hP9 := hP
                have hD9 := hD
                have hK9 := hK
                exact W.iret (v := y_27) hx hb hr (hlocks := hlocks) (fun t ht hW => ⟨⟨y_27, (o_6, o_7, o_8, o_9, o_10, o_11, o_12, o_13, o_14, o_15, o_16, o_18, o_19), rfl, ⟨w_5.2.1, w_17.2.2.1⟩, by rw [ht]; exact hP9, va_K.moved hW.alike hK9, hD9⟩, hS.F ht⟩) hS.2.2 dX5_part_86
              · have i_23 : p3.toInt = 0 := kc_eq c_23
                refine lv_aload_n hx hb dX5_part_61 rfl (lv_at hl 0 rfl) ?_
                refine va_get (D := (dC, dI)) (ci := 5) (v := .ref g_nodeL) (C := RX5) (T := TX5) (N := 30) hx hb hts hi_5 hown hK hP 0 rfl rfl 12 (by decide) hf_38 (fun _ h9 => h9) rfl dX5_part_62 ?_
                refine lv_aload_n hx hb dX5_part_65 rfl (lv_at hl 0 rfl) ?_
                refine va_get (D := (dC, dI)) (ci := 5) (v := .ref g_part) (C := RX5) (T := TX5) (N := 30) hx hb hts hi_5 hown hK hP 0 rfl rfl 15 (by decide) hf_44 (fun _ h9 => h9) rfl dX5_part_66 ?_
                refine lv_iload_n hx hb dX5_part_69 rfl (lv_at hl 3 rfl) ?_
                refine va_iald hx hb hK hP 11 0 rfl rfl (ki_in (om_10 w_21.1) (om_391 w_5.2.2.2 w_17.2.2.2.2 i_20 w_21.2)) dX5_part_70 ?_
                refine lv_topi (fun y_28 ey_28 => ?_)
                have j_28 : y_28.toInt = (o_19 p2.toNatClampNeg).toInt := congrArg Int32.toInt ey_28
                have n_29 : (p2.toNatClampNeg : Int) = p2.toInt := ki_nat _ rfl (om_10 w_21.1)
                have i_30 := w_17.2.2.1 p2.toNatClampNeg (om_ln n_29 (om_391 w_5.2.2.2 w_17.2.2.2.2 i_20 w_21.2))
                refine va_iald hx hb hK hP 9 0 rfl rfl (ki_in (om_144 j_28 i_30.1) (om_392 j_28 i_30.2)) dX5_part_71 ?_
                refine lv_topi (fun y_31 ey_31 => ?_)
                have j_31 : y_31.toInt = (o_15 y_28.toNatClampNeg).toInt := congrArg Int32.toInt ey_31
                refine lv_goto (tgt := 86) hx hb dX5_part_72 (by decide) ?_
                have hP9 := hP
                have hD9 := hD
                have hK9 := hK
                exact W.iret (v := y_31) hx hb hr (hlocks := hlocks) (fun t ht hW => ⟨⟨y_31, (o_6, o_7, o_8, o_9, o_10, o_11, o_12, o_13, o_14, o_15, o_16, o_18, o_19), rfl, ⟨w_5.2.1, w_17.2.2.1⟩, by rw [ht]; exact hP9, va_K.moved hW.alike hK9, hD9⟩, hS.F ht⟩) hS.2.2 dX5_part_86
            · exact absurd c_22 (by decide)
          · have w_21 : (p2.toInt < 0 ∨ y_20.toInt < p2.toInt) := w_21
            refine lv_if_ne (tgt := 56) hx hb dX5_part_51 (by decide) (fun c_32 => ?_) (fun c_32 => ?_)
            · exact absurd c_32 (by decide)
            · refine lv_iconst (v := (-1)) hx hb dX5_part_54 (by decide) ?_
              have hP9 := hP
              have hD9 := hD
              have hK9 := hK
              exact W.iret (v := (-1)) hx hb hr (hlocks := hlocks) (fun t ht hW => ⟨⟨(-1), (o_6, o_7, o_8, o_9, o_10, o_11, o_12, o_13, o_14, o_15, o_16, o_18, o_19), rfl, ⟨w_5.2.1, w_17.2.2.1⟩, by rw [ht]; exact hP9, va_K.moved hW.alike hK9, hD9⟩, hS.F ht⟩) hS.2.2 dX5_part_55
        · exact absurd c_4 (by decide)
      · have w_3 : (p3.toInt < 0 ∨ 1 < p3.toInt) := w_3
        refine lv_if_ne (tgt := 26) hx hb dX5_part_21 (by decide) (fun c_33 => ?_) (fun c_33 => ?_)
        · exact absurd c_33 (by decide)
        · refine lv_iconst (v := (-1)) hx hb dX5_part_24 (by decide) ?_
          have hP9 := hP
          have hD9 := hD
          have hK9 := hK
          exact W.iret (v := (-1)) hx hb hr (hlocks := hlocks) (fun t ht hW => ⟨⟨(-1), (m_nodes, m_allMany, fm, fl, fe, vv, vn, av, an, nl, nr, m_partMany, gp), rfl, ⟨s4, q0⟩, by rw [ht]; exact hP9, va_K.moved hW.alike hK9, hD9⟩, hS.F ht⟩) hS.2.2 dX5_part_25
  · have w_1 : (p0.toInt < 0 ∨ p1.toInt ≤ p0.toInt ∨ m_n.toInt < p1.toInt) := w_1
    refine lv_if_eq (tgt := 24) hx hb dX5_part_11 (by decide) (fun c_34 => ?_) (fun c_34 => ?_)
    · refine lv_iconst (v := (-1)) hx hb dX5_part_24 (by decide) ?_
      have hP9 := hP
      have hD9 := hD
      have hK9 := hK
      exact W.iret (v := (-1)) hx hb hr (hlocks := hlocks) (fun t ht hW => ⟨⟨(-1), (m_nodes, m_allMany, fm, fl, fe, vv, vn, av, an, nl, nr, m_partMany, gp), rfl, ⟨s4, q0⟩, by rw [ht]; exact hP9, va_K.moved hW.alike hK9, hD9⟩, hS.F ht⟩) hS.2.2 dX5_part_25
    · exact absurd c_34 (by decide)

set_option maxHeartbeats 4000000 in
set_option maxRecDepth 100000 in
theorem c_X5_sums (l : Launch) (dC : Nat → ClassId) (dI : Nat → Nat → Nat) (h0 : Nat) (g_row : Nat) (g_many : Nat) (g_loss : Nat) (g_less : Nat) (g_voteValue : Nat) (g_voteNumber : Nat) (g_allValue : Nat) (g_allNumber : Nat) (g_nodeL : Nat) (g_nodeR : Nat) (g_part : Nat) (g_wasMany : Nat) (g_wasLoss : Nat) (g_wasValue : Nat) (g_wasNumber : Nat) (g_path : Nat) (g_heavyValue : Nat) (g_heavyTimes : Nat) (g_fewest : Nat) (g_which : Nat) (g_met : Nat) (m_n : Int32) (m_slots : Int32) (m_thrown : Int32) (m_allMany : Int32) (m_nodes : Int32) (m_partMany : Int32) (m_pathMany : Int32) (m_heavyMany : Int32) (m_mostMet : Int32) (cyI : ClassId) (fm : Nat → Int32) (fl : Nat → Int32) (fe : Nat → Int32) (vv : Nat → Int32) (vn : Nat → Int32) (f : Nat → Int32) (av : Nat → Int32) (an : Nat → Int32) (nl : Nat → Int32) (nr : Nat → Int32) (gp : Nat → Int32) (p0 : Int32) (p1 : Int32) (sz : Nat) (a0 : 0 ≤ m_n.toInt) (a1 : m_n.toInt ≤ 160) (sl0 : 1 ≤ m_slots.toInt) (sl1 : m_slots.toInt ≤ 6) (s4 : six4 fm) (q0 : parts320 gp) (r0 : 0 ≤ p0.toInt) (r1 : p0.toInt < p1.toInt) (r2 : p1.toInt ≤ m_n.toInt) : kx_MQ l (dC, dI) yX5_sums wsX5_sums ({ frames := 12, cells := 0, slots := 0, locals := 540 }) [.ref h0, .int p0, .int p1] [kx_5 h0 g_row m_n m_slots m_thrown g_many g_loss g_less g_voteValue g_voteNumber g_allValue g_allNumber m_allMany g_nodeL g_nodeR m_nodes g_part m_partMany g_wasMany g_wasLoss g_wasValue g_wasNumber g_path m_pathMany g_heavyValue g_heavyTimes m_heavyMany g_fewest g_which g_met m_mostMet, kx_a g_row cyI 160 f, kx_a g_many cyI 324 fm, kx_a g_loss cyI 324 fl, kx_a g_less cyI 324 fe, kx_a g_voteValue cyI 1944 vv, kx_a g_voteNumber cyI 1944 vn, kx_a g_allValue cyI 12 av, kx_a g_allNumber cyI 12 an, kx_a g_nodeL cyI 320 nl, kx_a g_nodeR cyI 320 nr, kx_a g_part cyI 320 gp] [(cyI, .int)] sz (fun A => va_Qv (fun u : Int32 × Int32 × (Nat → Int32) × (Nat → Int32) × (Nat → Int32) × (Nat → Int32) × (Nat → Int32) × (Nat → Int32) × (Nat → Int32) × (Nat → Int32) × (Nat → Int32) × Int32 × (Nat → Int32) => six4 u.2.2.1 ∧ parts320 u.2.2.2.2.2.2.2.2.2.2.2.2 ∧ mj_L m_slots.toNatClampNeg f u.2.2.2.2.2.2.2.2.2.1 u.2.2.2.2.2.2.2.2.2.2.1 u.2.2.1 u.2.2.2.1 u.2.2.2.2.1 u.2.2.2.2.2.1 u.2.2.2.2.2.2.1 m_n.toInt u.1.toInt ∧ 0 ≤ u.1.toInt ∧ u.1.toInt ≤ 319 ∧ mj_F m_slots.toNatClampNeg u.2.2.2.2.2.2.2.2.2.1 u.2.2.2.2.2.2.2.2.2.2.1 u.2.2.1 u.2.2.2.1 u.2.2.2.2.2.1 u.2.2.2.2.2.2.1 u.2.2.1 u.2.2.2.1 u.2.2.2.2.2.1 u.2.2.2.2.2.2.1 p0.toInt p1.toInt (mj_pq u.2.2.2.2.2.2.2.2.2.1 u.2.2.2.2.2.2.2.2.2.2.1 p0.toInt p1.toInt u.1.toNatClampNeg)) (fun (u : Int32 × Int32 × (Nat → Int32) × (Nat → Int32) × (Nat → Int32) × (Nat → Int32) × (Nat → Int32) × (Nat → Int32) × (Nat → Int32) × (Nat → Int32) × (Nat → Int32) × Int32 × (Nat → Int32)) (t : State) => va_P (dC, dI) vwCl [kx_5 h0 g_row m_n m_slots m_thrown g_many g_loss g_less g_voteValue g_voteNumber g_allValue g_allNumber u.2.1 g_nodeL g_nodeR u.1 g_part u.2.2.2.2.2.2.2.2.2.2.2.1 g_wasMany g_wasLoss g_wasValue g_wasNumber g_path m_pathMany g_heavyValue g_heavyTimes m_heavyMany g_fewest g_which g_met m_mostMet, kx_a g_row cyI 160 f, kx_a g_many cyI 324 u.2.2.1, kx_a g_loss cyI 324 u.2.2.2.1, kx_a g_less cyI 324 u.2.2.2.2.1, kx_a g_voteValue cyI 1944 u.2.2.2.2.2.1, kx_a g_voteNumber cyI 1944 u.2.2.2.2.2.2.1, kx_a g_allValue cyI 12 u.2.2.2.2.2.2.2.1, kx_a g_allNumber cyI 12 u.2.2.2.2.2.2.2.2.1, kx_a g_nodeL cyI 320 u.2.2.2.2.2.2.2.2.2.1, kx_a g_nodeR cyI 320 u.2.2.2.2.2.2.2.2.2.2.1, kx_a g_part cyI 320 u.2.2.2.2.2.2.2.2.2.2.2.2] t.heap ∧ va_K (dC, dI) vwCl [(cyI, .int)] t ∧ va_D A [kx_5 h0 g_row m_n m_slots m_thrown g_many g_loss g_less g_voteValue g_voteNumber g_allValue g_allNumber u.2.1 g_nodeL g_nodeR u.1 g_part u.2.2.2.2.2.2.2.2.2.2.2.1 g_wasMany g_wasLoss g_wasValue g_wasNumber g_path m_pathMany g_heavyValue g_heavyTimes m_heavyMany g_fewest g_which g_met m_mostMet, kx_a g_row cyI 160 f, kx_a g_many cyI 324 u.2.2.1, kx_a g_loss cyI 324 u.2.2.2.1, kx_a g_less cyI 324 u.2.2.2.2.1, kx_a g_voteValue cyI 1944 u.2.2.2.2.2.1, kx_a g_voteNumber cyI 1944 u.2.2.2.2.2.2.1, kx_a g_allValue cyI 12 u.2.2.2.2.2.2.2.1, kx_a g_allNumber cyI 12 u.2.2.2.2.2.2.2.2.1, kx_a g_nodeL cyI 320 u.2.2.2.2.2.2.2.2.2.1, kx_a g_nodeR cyI 320 u.2.2.2.2.2.2.2.2.2.2.1, kx_a g_part cyI 320 u.2.2.2.2.2.2.2.2.2.2.2.2]) A) := by
  refine kx_stQ (ws := wsX5_sums) (cc := cX5_sums) (maxL := 3) (ret := none) (by decide) rfl (Nat.le_of_ble_eq_true rfl) ?_
  intro p e s m below meth c A ls hx hb hr hlocks hts hown hml hA hS hP hK hD hl
  have hown : s.vm.findClass RX5 = some m.cls := hown
  have hl : lv_has ls 3 [(0, .ref h0), (1, .int p0), (2, .int p1)] := hl
  have hf_13 := hts (.fieldLink RX5 13 "MajorityIndexModel" "slots" "I") (List.mem_of_getElem? (i := 1) rfl)
  have hi_5 : ∀ w ∈ u_ws RX5 TX5 30, w ∈ wsX5_sums := fun w h => List.mem_cons_of_mem _ (List.mem_append_right _ h)
  refine lv_aload_n hx hb dX5_sums_0 rfl (lv_at hl 0 rfl) ?_
  refine lv_aload_n hx hb dX5_sums_1 rfl (lv_at hl 0 rfl) ?_
  refine va_get (D := (dC, dI)) (ci := 5) (v := .int m_slots) (C := RX5) (T := TX5) (N := 30) hx hb hts hi_5 hown hK hP 0 rfl rfl 2 (by decide) hf_13 (fun _ h9 => h9) rfl dX5_sums_2 ?_
  obtain ⟨hPc, hDc, hFc, hCc⟩ := kx_preM (wc := [kx_5 h0 g_row m_n m_slots m_thrown g_many g_loss g_less g_voteValue g_voteNumber g_allValue g_allNumber m_allMany g_nodeL g_nodeR m_nodes g_part m_partMany g_wasMany g_wasLoss g_wasValue g_wasNumber g_path m_pathMany g_heavyValue g_heavyTimes m_heavyMany g_fewest g_which g_met m_mostMet, kx_a g_row cyI 160 f, kx_a g_many cyI 324 fm, kx_a g_loss cyI 324 fl, kx_a g_less cyI 324 fe, kx_a g_voteValue cyI 1944 vv, kx_a g_voteNumber cyI 1944 vn, kx_a g_allValue cyI 12 av, kx_a g_allNumber cyI 12 an, kx_a g_nodeL cyI 320 nl, kx_a g_nodeR cyI 320 nr]) hP hD hS hA [true, true, true, true, true, true, true, true, true, true, true, false] rfl
  have hKc := hK
  refine va_callv (va_runV (As := [.int m_slots]) (rest := []) ⟨hx, hb, hml, hown, hts⟩ (kx_un (c_X5_laysAll l dC dI h0 g_row g_many g_loss g_less g_voteValue g_voteNumber g_allValue g_allNumber g_nodeL g_nodeR g_part g_wasMany g_wasLoss g_wasValue g_wasNumber g_path g_heavyValue g_heavyTimes g_fewest g_which g_met m_n m_slots m_thrown m_allMany m_nodes m_partMany m_pathMany m_heavyMany m_mostMet cyI fm fl fe vv vn f av an nl nr m_slots s.heap.size a0 a1 sl0 sl1 s4)) (cwV 1 hts gX5_sums_X5_laysAll rfl rfl rfl (by decide +kernel) ⟨Nat.le_of_ble_eq_true rfl, Nat.le_of_ble_eq_true rfl⟩) ⟨fun a U g mk q => by obtain ⟨q0, q1, qP, qK, qD⟩ := q; exact ⟨q0, q1, qP, va_K.moved (u := U) (U := U.calling g mk a) (Vm.Alike.refl U.vm) qK, qD⟩, kx_rc5 hKc hPc (q0 := 0) rfl, fun U hU hW => ⟨rfl, by rw [hU], by rw [hU]; exact hPc, va_K.moved hW.alike hKc, hDc.weaken (fun _ _ _ _ => trivial)⟩⟩ rfl rfl hl.1 rfl (lv_room (Nat.le_of_ble_eq_true rfl)) dX5_sums_5 ⟨Nat.le_of_ble_eq_true rfl, Nat.le_of_ble_eq_true rfl⟩) hS (fun q _ h => hFc q h) hFc (fun u t H1 locs ht hvm w_1 hB hz1 hk1 hS => ?_)
  obtain ⟨o_2, o_3, o_4, o_5, o_6, o_7, o_8, o_9, o_10, o_11, o_12⟩ := u
  dsimp only at w_1 hB
  obtain ⟨hP1, hK1, hD1⟩ := hB
  rw [ht] at hP1
  have hK1 := va_K.moved hvm.symm hK1
  obtain ⟨hP, hD⟩ := kx_joinM (w2 := [kx_5 h0 g_row m_n m_slots m_thrown g_many g_loss g_less g_voteValue g_voteNumber g_allValue g_allNumber o_3 g_nodeL g_nodeR o_2 g_part m_partMany g_wasMany g_wasLoss g_wasValue g_wasNumber g_path m_pathMany g_heavyValue g_heavyTimes m_heavyMany g_fewest g_which g_met m_mostMet, kx_a g_row cyI 160 f, kx_a g_many cyI 324 o_4, kx_a g_loss cyI 324 o_5, kx_a g_less cyI 324 o_6, kx_a g_voteValue cyI 1944 o_7, kx_a g_voteNumber cyI 1944 o_8, kx_a g_allValue cyI 12 o_9, kx_a g_allNumber cyI 12 o_10, kx_a g_nodeL cyI 320 o_11, kx_a g_nodeR cyI 320 o_12, kx_a g_part cyI 320 gp]) hP hD hP1 hD1 hk1 hFc [true, true, true, true, true, true, true, true, true, true, true, false] hCc rfl
  clear hP1 hD1 hK1 hk1 hz1 hFc hDc hPc hKc hCc
  generalize H1 = H at hP hS ⊢
  have w_1 : mj_L m_slots.toNatClampNeg f o_11 o_12 o_4 o_5 o_6 o_7 o_8 m_n.toInt o_2.toInt ∧ six4 o_4 ∧ 0 ≤ o_2.toInt ∧ o_2.toInt ≤ 319 := w_1
  refine lv_aload_n hx hb dX5_sums_8 rfl (lv_at hl 0 rfl) ?_
  refine lv_iload_n hx hb dX5_sums_9 rfl (lv_at hl 1 rfl) ?_
  refine lv_iload_n hx hb dX5_sums_10 rfl (lv_at hl 2 rfl) ?_
  refine lv_sipush (v := 320) hx hb dX5_sums_11 (by decide) ?_
  refine lv_aload_n hx hb dX5_sums_14 rfl (lv_at hl 0 rfl) ?_
  refine va_get (D := (dC, dI)) (ci := 5) (v := .int m_slots) (C := RX5) (T := TX5) (N := 30) hx hb hts hi_5 hown hK hP 0 rfl rfl 2 (by decide) hf_13 (fun _ h9 => h9) rfl dX5_sums_15 ?_
  obtain ⟨hPc, hDc, hFc, hCc⟩ := kx_preM (wc := [kx_5 h0 g_row m_n m_slots m_thrown g_many g_loss g_less g_voteValue g_voteNumber g_allValue g_allNumber o_3 g_nodeL g_nodeR o_2 g_part m_partMany g_wasMany g_wasLoss g_wasValue g_wasNumber g_path m_pathMany g_heavyValue g_heavyTimes m_heavyMany g_fewest g_which g_met m_mostMet, kx_a g_many cyI 324 o_4, kx_a g_loss cyI 324 o_5, kx_a g_less cyI 324 o_6, kx_a g_voteValue cyI 1944 o_7, kx_a g_voteNumber cyI 1944 o_8, kx_a g_allValue cyI 12 o_9, kx_a g_allNumber cyI 12 o_10, kx_a g_nodeL cyI 320 o_11, kx_a g_nodeR cyI 320 o_12, kx_a g_part cyI 320 gp]) hP hD hS hA [true, false, true, true, true, true, true, true, true, true, true, true] rfl
  have hKc := hK
  have k_13 : (320 : Int32).toInt = 320 := rfl
  refine va_callv (va_runV (As := [.int p0, .int p1, .int 320, .int m_slots]) (rest := []) ⟨hx, hb, hml, hown, hts⟩ (kx_un (c_X5_folds l dC dI h0 g_row g_many g_loss g_less g_voteValue g_voteNumber g_allValue g_allNumber g_nodeL g_nodeR g_part g_wasMany g_wasLoss g_wasValue g_wasNumber g_path g_heavyValue g_heavyTimes g_fewest g_which g_met m_n m_slots m_thrown o_3 o_2 m_partMany m_pathMany m_heavyMany m_mostMet cyI o_4 o_5 o_6 o_7 o_8 f o_9 o_10 o_11 o_12 gp p0 p1 m_slots H.size a0 a1 w_1.2.2.1 w_1.2.2.2 r0 r1 r2 sl0 sl1 w_1.2.1 q0 w_1.1)) (cwV 4 hts gX5_sums_X5_folds rfl rfl rfl (by decide +kernel) ⟨Nat.le_of_ble_eq_true rfl, Nat.le_of_ble_eq_true rfl⟩) ⟨fun a U g mk q => by obtain ⟨q0, q1, qP, qK, qD⟩ := q; exact ⟨q0, q1, qP, va_K.moved (u := U) (U := U.calling g mk a) (Vm.Alike.refl U.vm) qK, qD⟩, kx_rc5 hKc hPc (q0 := 0) rfl, fun U hU hW => ⟨rfl, by rw [hU], by rw [hU]; exact hPc, va_K.moved hW.alike hKc, hDc.weaken (fun _ _ _ _ => trivial)⟩⟩ rfl rfl hl.1 rfl (lv_room (Nat.le_of_ble_eq_true rfl)) dX5_sums_18 ⟨Nat.le_of_ble_eq_true rfl, Nat.le_of_ble_eq_true rfl⟩) hS (fun q _ h => hFc q h) hFc (fun u t H1 locs ht hvm w_14 hB hz1 hk1 hS => ?_)
  obtain ⟨o_15, o_16, o_17, o_18, o_19, o_20, o_21, o_22, o_23, o_24⟩ := u
  dsimp only at w_14 hB
  obtain ⟨hP1, hK1, hD1⟩ := hB
  rw [ht] at hP1
  have hK1 := va_K.moved hvm.symm hK1
  obtain ⟨hP, hD⟩ := kx_joinM (w2 := [kx_5 h0 g_row m_n m_slots m_thrown g_many g_loss g_less g_voteValue g_voteNumber g_allValue g_allNumber o_15 g_nodeL g_nodeR o_2 g_part o_16 g_wasMany g_wasLoss g_wasValue g_wasNumber g_path m_pathMany g_heavyValue g_heavyTimes m_heavyMany g_fewest g_which g_met m_mostMet, kx_a g_row cyI 160 f, kx_a g_many cyI 324 o_17, kx_a g_loss cyI 324 o_18, kx_a g_less cyI 324 o_19, kx_a g_voteValue cyI 1944 o_20, kx_a g_voteNumber cyI 1944 o_21, kx_a g_allValue cyI 12 o_22, kx_a g_allNumber cyI 12 o_23, kx_a g_nodeL cyI 320 o_11, kx_a g_nodeR cyI 320 o_12, kx_a g_part cyI 320 o_24]) hP hD hP1 hD1 hk1 hFc [true, false, true, true, true, true, true, true, true, true, true, true] hCc rfl
  clear hP1 hD1 hK1 hk1 hz1 hFc hDc hPc hKc hCc
  generalize H1 = H at hP hS ⊢
  have w_14 : six4 o_17 ∧ parts320 o_24 ∧ mj_ag 0 320 o_11 o_12 o_4 o_5 o_6 o_7 o_8 o_11 o_12 o_17 o_18 o_19 o_20 o_21 ∧ mj_F m_slots.toNatClampNeg o_11 o_12 o_17 o_18 o_20 o_21 o_17 o_18 o_20 o_21 p0.toInt p1.toInt (mj_pq o_11 o_12 p0.toInt p1.toInt o_2.toNatClampNeg) := w_14
  have hP9 := hP
  have hD9 := hD
  have hK9 := hK
  exact W.vret hx hb hr (hlocks := hlocks) (fun t ht hW => ⟨⟨(o_2, o_15, o_17, o_18, o_19, o_20, o_21, o_22, o_23, o_11, o_12, o_16, o_24), rfl, ⟨w_14.1, w_14.2.1, mj_L_ag (b := 320) w_1.1 (by (try dsimp only); omega) w_14.2.2.1, (by (try dsimp only); omega), (by (try dsimp only); omega), w_14.2.2.2⟩, by rw [ht]; exact hP9, va_K.moved hW.alike hK9, hD9⟩, hS.F ht⟩) hS.2.2 dX5_sums_21

set_option maxHeartbeats 4000000 in
set_option maxRecDepth 100000 in
theorem c_X5_summary (l : Launch) (dC : Nat → ClassId) (dI : Nat → Nat → Nat) (h0 : Nat) (g_row : Nat) (g_many : Nat) (g_loss : Nat) (g_less : Nat) (g_voteValue : Nat) (g_voteNumber : Nat) (g_allValue : Nat) (g_allNumber : Nat) (g_nodeL : Nat) (g_nodeR : Nat) (g_part : Nat) (g_wasMany : Nat) (g_wasLoss : Nat) (g_wasValue : Nat) (g_wasNumber : Nat) (g_path : Nat) (g_heavyValue : Nat) (g_heavyTimes : Nat) (g_fewest : Nat) (g_which : Nat) (g_met : Nat) (m_n : Int32) (m_slots : Int32) (m_thrown : Int32) (m_allMany : Int32) (m_nodes : Int32) (m_partMany : Int32) (m_pathMany : Int32) (m_heavyMany : Int32) (m_mostMet : Int32) (cyI : ClassId) (fm : Nat → Int32) (fl : Nat → Int32) (fe : Nat → Int32) (vv : Nat → Int32) (vn : Nat → Int32) (f : Nat → Int32) (av : Nat → Int32) (an : Nat → Int32) (nl : Nat → Int32) (nr : Nat → Int32) (gp : Nat → Int32) (p0 : Int32) (p1 : Int32) (p2 : Int32) (sz : Nat) (a0 : 0 ≤ m_n.toInt) (a1 : m_n.toInt ≤ 160) (sl0 : 1 ≤ m_slots.toInt) (sl1 : m_slots.toInt ≤ 6) (s4 : six4 fm) (q0 : parts320 gp) : kx_MQ l (dC, dI) yX5_summary wsX5_summary ({ frames := 13, cells := 0, slots := 0, locals := 585 }) [.ref h0, .int p0, .int p1, .int p2] [kx_5 h0 g_row m_n m_slots m_thrown g_many g_loss g_less g_voteValue g_voteNumber g_allValue g_allNumber m_allMany g_nodeL g_nodeR m_nodes g_part m_partMany g_wasMany g_wasLoss g_wasValue g_wasNumber g_path m_pathMany g_heavyValue g_heavyTimes m_heavyMany g_fewest g_which g_met m_mostMet, kx_a g_row cyI 160 f, kx_a g_many cyI 324 fm, kx_a g_loss cyI 324 fl, kx_a g_less cyI 324 fe, kx_a g_voteValue cyI 1944 vv, kx_a g_voteNumber cyI 1944 vn, kx_a g_allValue cyI 12 av, kx_a g_allNumber cyI 12 an, kx_a g_nodeL cyI 320 nl, kx_a g_nodeR cyI 320 nr, kx_a g_part cyI 320 gp] [(cyI, .int)] sz (fun A => va_Qi (fun (r : Int32) (u : Int32 × Int32 × (Nat → Int32) × (Nat → Int32) × (Nat → Int32) × (Nat → Int32) × (Nat → Int32) × (Nat → Int32) × (Nat → Int32) × (Nat → Int32) × (Nat → Int32) × Int32 × (Nat → Int32)) => six4 u.2.2.1 ∧ parts320 u.2.2.2.2.2.2.2.2.2.2.2.2) (fun (u : Int32 × Int32 × (Nat → Int32) × (Nat → Int32) × (Nat → Int32) × (Nat → Int32) × (Nat → Int32) × (Nat → Int32) × (Nat → Int32) × (Nat → Int32) × (Nat → Int32) × Int32 × (Nat → Int32)) (t : State) => va_P (dC, dI) vwCl [kx_5 h0 g_row m_n m_slots 0 g_many g_loss g_less g_voteValue g_voteNumber g_allValue g_allNumber u.2.1 g_nodeL g_nodeR u.1 g_part u.2.2.2.2.2.2.2.2.2.2.2.1 g_wasMany g_wasLoss g_wasValue g_wasNumber g_path m_pathMany g_heavyValue g_heavyTimes m_heavyMany g_fewest g_which g_met m_mostMet, kx_a g_row cyI 160 f, kx_a g_many cyI 324 u.2.2.1, kx_a g_loss cyI 324 u.2.2.2.1, kx_a g_less cyI 324 u.2.2.2.2.1, kx_a g_voteValue cyI 1944 u.2.2.2.2.2.1, kx_a g_voteNumber cyI 1944 u.2.2.2.2.2.2.1, kx_a g_allValue cyI 12 u.2.2.2.2.2.2.2.1, kx_a g_allNumber cyI 12 u.2.2.2.2.2.2.2.2.1, kx_a g_nodeL cyI 320 u.2.2.2.2.2.2.2.2.2.1, kx_a g_nodeR cyI 320 u.2.2.2.2.2.2.2.2.2.2.1, kx_a g_part cyI 320 u.2.2.2.2.2.2.2.2.2.2.2.2] t.heap ∧ va_K (dC, dI) vwCl [(cyI, .int)] t ∧ va_D A [kx_5 h0 g_row m_n m_slots 0 g_many g_loss g_less g_voteValue g_voteNumber g_allValue g_allNumber u.2.1 g_nodeL g_nodeR u.1 g_part u.2.2.2.2.2.2.2.2.2.2.2.1 g_wasMany g_wasLoss g_wasValue g_wasNumber g_path m_pathMany g_heavyValue g_heavyTimes m_heavyMany g_fewest g_which g_met m_mostMet, kx_a g_row cyI 160 f, kx_a g_many cyI 324 u.2.2.1, kx_a g_loss cyI 324 u.2.2.2.1, kx_a g_less cyI 324 u.2.2.2.2.1, kx_a g_voteValue cyI 1944 u.2.2.2.2.2.1, kx_a g_voteNumber cyI 1944 u.2.2.2.2.2.2.1, kx_a g_allValue cyI 12 u.2.2.2.2.2.2.2.1, kx_a g_allNumber cyI 12 u.2.2.2.2.2.2.2.2.1, kx_a g_nodeL cyI 320 u.2.2.2.2.2.2.2.2.2.1, kx_a g_nodeR cyI 320 u.2.2.2.2.2.2.2.2.2.2.1, kx_a g_part cyI 320 u.2.2.2.2.2.2.2.2.2.2.2.2]) A) := by
  refine kx_stQ (ws := wsX5_summary) (cc := cX5_summary) (maxL := 4) (ret := (some .int)) (by decide) rfl (Nat.le_of_ble_eq_true rfl) ?_
  intro p e s m below meth c A ls hx hb hr hlocks hts hown hml hA hS hP hK hD hl
  have hown : s.vm.findClass RX5 = some m.cls := hown
  have hl : lv_has ls 4 [(0, .ref h0), (1, .int p0), (2, .int p1), (3, .int p2)] := hl
  have hf_77 := hts (.fieldLink RX5 77 "MajorityIndexModel" "thrown" "I") (List.mem_of_getElem? (i := 1) rfl)
  have hi_5 : ∀ w ∈ u_ws RX5 TX5 30, w ∈ wsX5_summary := fun w h => List.mem_cons_of_mem _ (List.mem_append_right _ h)
  have hf_20 := hts (.fieldLink RX5 20 "MajorityIndexModel" "loss" "[I") (List.mem_of_getElem? (i := 3) rfl)
  have hf_17 := hts (.fieldLink RX5 17 "MajorityIndexModel" "many" "[I") (List.mem_of_getElem? (i := 2) rfl)
  refine lv_aload_n hx hb dX5_summary_0 rfl (lv_at hl 0 rfl) ?_
  refine lv_iconst (v := 0) hx hb dX5_summary_1 (by decide) ?_
  refine va_put (D := (dC, dI)) (ci := 5) (v := .int 0) (ty := .int) (C := RX5) (T := TX5) (N := 30) hx hb hts hi_5 tyX5 tyX5_ok nmX5 hown hK hP hD hS 0 rfl rfl 3 (by decide) hf_77 (fun _ h9 => h9) rfl (by decide +kernel) rfl rfl (Nat.le_of_ble_eq_true rfl) dX5_summary_2 (fun H locs hP hD hS => ?_)
  obtain ⟨hP, hD⟩ := kx_re (w2 := [kx_5 h0 g_row m_n m_slots 0 g_many g_loss g_less g_voteValue g_voteNumber g_allValue g_allNumber m_allMany g_nodeL g_nodeR m_nodes g_part m_partMany g_wasMany g_wasLoss g_wasValue g_wasNumber g_path m_pathMany g_heavyValue g_heavyTimes m_heavyMany g_fewest g_which g_met m_mostMet, kx_a g_row cyI 160 f, kx_a g_many cyI 324 fm, kx_a g_loss cyI 324 fl, kx_a g_less cyI 324 fe, kx_a g_voteValue cyI 1944 vv, kx_a g_voteNumber cyI 1944 vn, kx_a g_allValue cyI 12 av, kx_a g_allNumber cyI 12 an, kx_a g_nodeL cyI 320 nl, kx_a g_nodeR cyI 320 nr, kx_a g_part cyI 320 gp]) hP hD rfl
  refine lv_aload_n hx hb dX5_summary_5 rfl (lv_at hl 0 rfl) ?_
  refine lv_iload_n hx hb dX5_summary_6 rfl (lv_at hl 1 rfl) ?_
  refine lv_iload_n hx hb dX5_summary_7 rfl (lv_at hl 2 rfl) ?_
  have hPc := hP.sub (ws' := [kx_5 h0 g_row m_n m_slots 0 g_many g_loss g_less g_voteValue g_voteNumber g_allValue g_allNumber m_allMany g_nodeL g_nodeR m_nodes g_part m_partMany g_wasMany g_wasLoss g_wasValue g_wasNumber g_path m_pathMany g_heavyValue g_heavyTimes m_heavyMany g_fewest g_which g_met m_mostMet]) [0] rfl
  have hKc := hK.sub (tys' := []) [] rfl
  refine vp_callSi (W.runV (As := [.int p0, .int p1]) (rest := []) ⟨hx, hb, hml, hown, hts⟩ (c_X5_isRange l dC dI h0 g_row g_many g_loss g_less g_voteValue g_voteNumber g_allValue g_allNumber g_nodeL g_nodeR g_part g_wasMany g_wasLoss g_wasValue g_wasNumber g_path g_heavyValue g_heavyTimes g_fewest g_which g_met m_n m_slots 0 m_allMany m_nodes m_partMany m_pathMany m_heavyMany m_mostMet p0 p1) (cwV 2 hts gX5_summary_X5_isRange rfl rfl rfl (by decide +kernel) ⟨Nat.le_of_ble_eq_true rfl, Nat.le_of_ble_eq_true rfl⟩) ⟨fun a U g mk q => by obtain ⟨q0, qP, qK⟩ := q; exact ⟨q0, qP, va_K.moved (u := U) (U := U.calling g mk a) (Vm.Alike.refl U.vm) qK⟩, kx_rc5 hKc hPc (q0 := 0) rfl, fun U hU hW => ⟨rfl, by rw [hU]; exact hPc, va_K.moved hW.alike hKc⟩⟩ rfl rfl hl.1 rfl (lv_room (Nat.le_of_ble_eq_true rfl)) dX5_summary_8 ⟨Nat.le_of_ble_eq_true rfl, Nat.le_of_ble_eq_true rfl⟩) (fun r_1 w_1 => ?_)
  rcases w_1 with ⟨rfl, w_1⟩ | ⟨rfl, w_1⟩
  · have w_1 : (0 ≤ p0.toInt ∧ p0.toInt < p1.toInt ∧ p1.toInt ≤ m_n.toInt) := w_1
    refine lv_if_eq (tgt := 23) hx hb dX5_summary_11 (by decide) (fun c_2 => ?_) (fun c_2 => ?_)
    · exact absurd c_2 (by decide)
    · refine lv_iload_n hx hb dX5_summary_14 rfl (lv_at hl 3 rfl) ?_
      refine lv_iconst (v := 0) hx hb dX5_summary_15 (by decide) ?_
      refine lv_iconst (v := 2) hx hb dX5_summary_16 (by decide) ?_
      have hPc := hP.sub (ws' := []) [] rfl
      have hKc := hK.sub (tys' := []) [] rfl
      refine vp_callSi (W.runS (As := [.int p2, .int 0, .int 2]) (rest := []) ⟨hx, hb, hml, hown, hts⟩ (c_X5_within l dC dI p2 0 2) (va_cwS 3 hts gX5_summary_X5_within rfl rfl rfl (by decide +kernel) ⟨Nat.le_of_ble_eq_true rfl, Nat.le_of_ble_eq_true rfl⟩) ⟨fun a U g mk q => by obtain ⟨q0, qP, qK⟩ := q; exact ⟨q0, qP, va_K.moved (u := U) (U := U.calling g mk a) (Vm.Alike.refl U.vm) qK⟩, fun U hU hW => ⟨rfl, by rw [hU]; exact hPc, va_K.moved hW.alike hKc⟩⟩ rfl rfl hl.1 rfl (lv_room (Nat.le_of_ble_eq_true rfl)) dX5_summary_17 ⟨Nat.le_of_ble_eq_true rfl, Nat.le_of_ble_eq_true rfl⟩) (fun r_3 w_3 => ?_)
      rcases w_3 with ⟨rfl, w_3⟩ | ⟨rfl, w_3⟩
      · have w_3 : (0 ≤ p2.toInt ∧ p2.toInt ≤ 2) := w_3
        refine lv_if_ne (tgt := 25) hx hb dX5_summary_20 (by decide) (fun c_4 => ?_) (fun c_4 => ?_)
        · refine lv_aload_n hx hb dX5_summary_25 rfl (lv_at hl 0 rfl) ?_
          refine lv_iload_n hx hb dX5_summary_26 rfl (lv_at hl 1 rfl) ?_
          refine lv_iload_n hx hb dX5_summary_27 rfl (lv_at hl 2 rfl) ?_
          have hPc := hP
          have hKc := hK
          have hDc := hD
          have hFc := kx_free hD hS hA
          refine va_callv (va_runV (As := [.int p0, .int p1]) (rest := []) ⟨hx, hb, hml, hown, hts⟩ (kx_un (c_X5_sums l dC dI h0 g_row g_many g_loss g_less g_voteValue g_voteNumber g_allValue g_allNumber g_nodeL g_nodeR g_part g_wasMany g_wasLoss g_wasValue g_wasNumber g_path g_heavyValue g_heavyTimes g_fewest g_which g_met m_n m_slots 0 m_allMany m_nodes m_partMany m_pathMany m_heavyMany m_mostMet cyI fm fl fe vv vn f av an nl nr gp p0 p1 H.size a0 a1 sl0 sl1 s4 q0 (om_10 w_1.1) (om_11 w_1.2.1) (om_9 w_1.2.2))) (cwV 2 hts gX5_summary_X5_sums rfl rfl rfl (by decide +kernel) ⟨Nat.le_of_ble_eq_true rfl, Nat.le_of_ble_eq_true rfl⟩) ⟨fun a U g mk q => by obtain ⟨q0, q1, qP, qK, qD⟩ := q; exact ⟨q0, q1, qP, va_K.moved (u := U) (U := U.calling g mk a) (Vm.Alike.refl U.vm) qK, qD⟩, kx_rc5 hKc hPc (q0 := 0) rfl, fun U hU hW => ⟨rfl, by rw [hU], by rw [hU]; exact hPc, va_K.moved hW.alike hKc, hDc.weaken (fun _ _ _ _ => trivial)⟩⟩ rfl rfl hl.1 rfl (lv_room (Nat.le_of_ble_eq_true rfl)) dX5_summary_28 ⟨Nat.le_of_ble_eq_true rfl, Nat.le_of_ble_eq_true rfl⟩) hS (fun q _ h => hFc q h) hFc (fun u t H1 locs ht hvm w_5 hB hz1 hk1 hS => ?_)
          obtain ⟨o_6, o_7, o_8, o_9, o_10, o_11, o_12, o_13, o_14, o_15, o_16, o_17, o_18⟩ := u
          dsimp only at w_5 hB
          obtain ⟨hP1, hK1, hD1⟩ := hB
          rw [ht] at hP1
          have hK1 := va_K.moved hvm.symm hK1
          have hD := hD1.weaken (fun _ q _ h => hFc q.1 h)
          have hP := hP1
          clear hP1 hD1 hK1 hk1 hz1 hFc hDc hPc hKc
          generalize H1 = H at hP hS ⊢
          have w_5 : six4 o_8 ∧ parts320 o_18 ∧ mj_L m_slots.toNatClampNeg f o_15 o_16 o_8 o_9 o_10 o_11 o_12 m_n.toInt o_6.toInt ∧ 0 ≤ o_6.toInt ∧ o_6.toInt ≤ 319 ∧ mj_F m_slots.toNatClampNeg o_15 o_16 o_8 o_9 o_11 o_12 o_8 o_9 o_11 o_12 p0.toInt p1.toInt (mj_pq o_15 o_16 p0.toInt p1.toInt o_6.toNatClampNeg) := w_5
          refine lv_iload_n hx hb dX5_summary_31 rfl (lv_at hl 3 rfl) ?_
          refine lv_if_ne (tgt := 46) hx hb dX5_summary_32 (by decide) (fun c_19 => ?_) (fun c_19 => ?_)
          · have i_19 : ¬ p2.toInt = 0 := kc_ne c_19
            refine lv_iload_n hx hb dX5_summary_46 rfl (lv_at hl 3 rfl) ?_
            refine lv_iconst (v := 1) hx hb dX5_summary_47 (by decide) ?_
            refine lv_icmp_ne (tgt := 61) hx hb dX5_summary_48 (by decide) (fun c_20 => ?_) (fun c_20 => ?_)
            · have i_20 : ¬ p2.toInt = 1 := kc_ne c_20
              refine lv_aload_n hx hb dX5_summary_61 rfl (lv_at hl 0 rfl) ?_
              refine va_get (D := (dC, dI)) (ci := 5) (v := .ref g_loss) (C := RX5) (T := TX5) (N := 30) hx hb hts hi_5 hown hK hP 0 rfl rfl 5 (by decide) hf_20 (fun _ h9 => h9) rfl dX5_summary_62 ?_
              refine lv_sipush (v := 320) hx hb dX5_summary_65 (by decide) ?_
              refine va_iald hx hb hK hP 3 0 rfl rfl (ki_inl (by decide)) dX5_summary_68 ?_
              refine lv_topi (fun y_21 ey_21 => ?_)
              have j_21 : y_21.toInt = (o_9 (320 : Int32).toNatClampNeg).toInt := congrArg Int32.toInt ey_21
              have hP9 := hP
              have hD9 := hD
              have hK9 := hK
              exact W.iret (v := y_21) hx hb hr (hlocks := hlocks) (fun t ht hW => ⟨⟨y_21, (o_6, o_7, o_8, o_9, o_10, o_11, o_12, o_13, o_14, o_15, o_16, o_17, o_18), rfl, ⟨w_5.1, w_5.2.1⟩, by rw [ht]; exact hP9, va_K.moved hW.alike hK9, hD9⟩, hS.F ht⟩) hS.2.2 dX5_summary_69
            · have i_20 : p2.toInt = 1 := kc_eq c_20
              refine lv_aload_n hx hb dX5_summary_51 rfl (lv_at hl 0 rfl) ?_
              refine lv_sipush (v := 320) hx hb dX5_summary_52 (by decide) ?_
              have hPc := hP.sub (ws' := [kx_5 h0 g_row m_n m_slots 0 g_many g_loss g_less g_voteValue g_voteNumber g_allValue g_allNumber o_7 g_nodeL g_nodeR o_6 g_part o_17 g_wasMany g_wasLoss g_wasValue g_wasNumber g_path m_pathMany g_heavyValue g_heavyTimes m_heavyMany g_fewest g_which g_met m_mostMet, kx_a g_many cyI 324 o_8, kx_a g_voteNumber cyI 1944 o_12]) [0, 2, 6] rfl
              have hKc := hK
              have k_22 : (320 : Int32).toInt = 320 := rfl
              refine vp_callSi (W.runV (As := [.int 320]) (rest := []) ⟨hx, hb, hml, hown, hts⟩ (c_X5_numbersOf l dC dI h0 g_row g_many g_loss g_less g_voteValue g_voteNumber g_allValue g_allNumber g_nodeL g_nodeR g_part g_wasMany g_wasLoss g_wasValue g_wasNumber g_path g_heavyValue g_heavyTimes g_fewest g_which g_met m_n m_slots 0 o_7 o_6 o_17 m_pathMany m_heavyMany m_mostMet cyI o_8 o_12 320 om_375 om_376 w_5.1) (cwV 1 hts gX5_summary_X5_numbersOf rfl rfl rfl (by decide +kernel) ⟨Nat.le_of_ble_eq_true rfl, Nat.le_of_ble_eq_true rfl⟩) ⟨fun a U g mk q => by obtain ⟨q0, qP, qK⟩ := q; exact ⟨q0, qP, va_K.moved (u := U) (U := U.calling g mk a) (Vm.Alike.refl U.vm) qK⟩, kx_rc5 hKc hPc (q0 := 0) rfl, fun U hU hW => ⟨rfl, by rw [hU]; exact hPc, va_K.moved hW.alike hKc⟩⟩ rfl rfl hl.1 rfl (lv_room (Nat.le_of_ble_eq_true rfl)) dX5_summary_55 ⟨Nat.le_of_ble_eq_true rfl, Nat.le_of_ble_eq_true rfl⟩) (fun r_23 w_23 => ?_)
              refine lv_goto (tgt := 69) hx hb dX5_summary_58 (by decide) ?_
              have hP9 := hP
              have hD9 := hD
              have hK9 := hK
              exact W.iret (v := r_23) hx hb hr (hlocks := hlocks) (fun t ht hW => ⟨⟨r_23, (o_6, o_7, o_8, o_9, o_10, o_11, o_12, o_13, o_14, o_15, o_16, o_17, o_18), rfl, ⟨w_5.1, w_5.2.1⟩, by rw [ht]; exact hP9, va_K.moved hW.alike hK9, hD9⟩, hS.F ht⟩) hS.2.2 dX5_summary_69
          · have i_19 : p2.toInt = 0 := kc_eq c_19
            refine lv_aload_n hx hb dX5_summary_35 rfl (lv_at hl 0 rfl) ?_
            refine va_get (D := (dC, dI)) (ci := 5) (v := .ref g_many) (C := RX5) (T := TX5) (N := 30) hx hb hts hi_5 hown hK hP 0 rfl rfl 4 (by decide) hf_17 (fun _ h9 => h9) rfl dX5_summary_36 ?_
            refine lv_sipush (v := 320) hx hb dX5_summary_39 (by decide) ?_
            refine va_iald hx hb hK hP 2 0 rfl rfl (ki_inl (by decide)) dX5_summary_42 ?_
            refine lv_topi (fun y_24 ey_24 => ?_)
            have j_24 : y_24.toInt = (o_8 (320 : Int32).toNatClampNeg).toInt := congrArg Int32.toInt ey_24
            have n_25 : ((320 : Int32).toNatClampNeg : Int) = 320 := ki_nat _ rfl om_375
            have i_26 := w_5.1 (320 : Int32).toNatClampNeg (om_ln n_25 om_393)
            refine lv_goto (tgt := 69) hx hb dX5_summary_43 (by decide) ?_
            have hP9 := hP
            have hD9 := hD
            have hK9 := hK
            exact W.iret (v := y_24) hx hb hr (hlocks := hlocks) (fun t ht hW => ⟨⟨y_24, (o_6, o_7, o_8, o_9, o_10, o_11, o_12, o_13, o_14, o_15, o_16, o_17, o_18), rfl, ⟨w_5.1, w_5.2.1⟩, by rw [ht]; exact hP9, va_K.moved hW.alike hK9, hD9⟩, hS.F ht⟩) hS.2.2 dX5_summary_69
        · exact absurd c_4 (by decide)
      · have w_3 : (p2.toInt < 0 ∨ 2 < p2.toInt) := w_3
        refine lv_if_ne (tgt := 25) hx hb dX5_summary_20 (by decide) (fun c_27 => ?_) (fun c_27 => ?_)
        · exact absurd c_27 (by decide)
        · refine lv_iconst (v := (-1)) hx hb dX5_summary_23 (by decide) ?_
          have hP9 := hP
          have hD9 := hD
          have hK9 := hK
          exact W.iret (v := (-1)) hx hb hr (hlocks := hlocks) (fun t ht hW => ⟨⟨(-1), (m_nodes, m_allMany, fm, fl, fe, vv, vn, av, an, nl, nr, m_partMany, gp), rfl, ⟨s4, q0⟩, by rw [ht]; exact hP9, va_K.moved hW.alike hK9, hD9⟩, hS.F ht⟩) hS.2.2 dX5_summary_24
  · have w_1 : (p0.toInt < 0 ∨ p1.toInt ≤ p0.toInt ∨ m_n.toInt < p1.toInt) := w_1
    refine lv_if_eq (tgt := 23) hx hb dX5_summary_11 (by decide) (fun c_28 => ?_) (fun c_28 => ?_)
    · refine lv_iconst (v := (-1)) hx hb dX5_summary_23 (by decide) ?_
      have hP9 := hP
      have hD9 := hD
      have hK9 := hK
      exact W.iret (v := (-1)) hx hb hr (hlocks := hlocks) (fun t ht hW => ⟨⟨(-1), (m_nodes, m_allMany, fm, fl, fe, vv, vn, av, an, nl, nr, m_partMany, gp), rfl, ⟨s4, q0⟩, by rw [ht]; exact hP9, va_K.moved hW.alike hK9, hD9⟩, hS.F ht⟩) hS.2.2 dX5_summary_24
    · exact absurd c_28 (by decide)

set_option maxHeartbeats 4000000 in
set_option maxRecDepth 100000 in
theorem c_X5_candidate (l : Launch) (dC : Nat → ClassId) (dI : Nat → Nat → Nat) (h0 : Nat) (g_row : Nat) (g_many : Nat) (g_loss : Nat) (g_less : Nat) (g_voteValue : Nat) (g_voteNumber : Nat) (g_allValue : Nat) (g_allNumber : Nat) (g_nodeL : Nat) (g_nodeR : Nat) (g_part : Nat) (g_wasMany : Nat) (g_wasLoss : Nat) (g_wasValue : Nat) (g_wasNumber : Nat) (g_path : Nat) (g_heavyValue : Nat) (g_heavyTimes : Nat) (g_fewest : Nat) (g_which : Nat) (g_met : Nat) (m_n : Int32) (m_slots : Int32) (m_thrown : Int32) (m_allMany : Int32) (m_nodes : Int32) (m_partMany : Int32) (m_pathMany : Int32) (m_heavyMany : Int32) (m_mostMet : Int32) (cyI : ClassId) (fm : Nat → Int32) (fl : Nat → Int32) (fe : Nat → Int32) (vv : Nat → Int32) (vn : Nat → Int32) (f : Nat → Int32) (av : Nat → Int32) (an : Nat → Int32) (nl : Nat → Int32) (nr : Nat → Int32) (gp : Nat → Int32) (p0 : Int32) (p1 : Int32) (p2 : Int32) (p3 : Int32) (sz : Nat) (a0 : 0 ≤ m_n.toInt) (a1 : m_n.toInt ≤ 160) (sl0 : 1 ≤ m_slots.toInt) (sl1 : m_slots.toInt ≤ 6) (s4 : six4 fm) (q0 : parts320 gp) : kx_MQ l (dC, dI) yX5_candidate wsX5_candidate ({ frames := 13, cells := 0, slots := 0, locals := 585 }) [.ref h0, .int p0, .int p1, .int p2, .int p3] [kx_5 h0 g_row m_n m_slots m_thrown g_many g_loss g_less g_voteValue g_voteNumber g_allValue g_allNumber m_allMany g_nodeL g_nodeR m_nodes g_part m_partMany g_wasMany g_wasLoss g_wasValue g_wasNumber g_path m_pathMany g_heavyValue g_heavyTimes m_heavyMany g_fewest g_which g_met m_mostMet, kx_a g_row cyI 160 f, kx_a g_many cyI 324 fm, kx_a g_loss cyI 324 fl, kx_a g_less cyI 324 fe, kx_a g_voteValue cyI 1944 vv, kx_a g_voteNumber cyI 1944 vn, kx_a g_allValue cyI 12 av, kx_a g_allNumber cyI 12 an, kx_a g_nodeL cyI 320 nl, kx_a g_nodeR cyI 320 nr, kx_a g_part cyI 320 gp] [(cyI, .int)] sz (fun A => va_Qi (fun (r : Int32) (u : Int32 × Int32 × (Nat → Int32) × (Nat → Int32) × (Nat → Int32) × (Nat → Int32) × (Nat → Int32) × (Nat → Int32) × (Nat → Int32) × (Nat → Int32) × (Nat → Int32) × Int32 × (Nat → Int32) × Int32) => six4 u.2.2.1 ∧ parts320 u.2.2.2.2.2.2.2.2.2.2.2.2.1) (fun (u : Int32 × Int32 × (Nat → Int32) × (Nat → Int32) × (Nat → Int32) × (Nat → Int32) × (Nat → Int32) × (Nat → Int32) × (Nat → Int32) × (Nat → Int32) × (Nat → Int32) × Int32 × (Nat → Int32) × Int32) (t : State) => va_P (dC, dI) vwCl [kx_5 h0 g_row m_n m_slots u.2.2.2.2.2.2.2.2.2.2.2.2.2 g_many g_loss g_less g_voteValue g_voteNumber g_allValue g_allNumber u.2.1 g_nodeL g_nodeR u.1 g_part u.2.2.2.2.2.2.2.2.2.2.2.1 g_wasMany g_wasLoss g_wasValue g_wasNumber g_path m_pathMany g_heavyValue g_heavyTimes m_heavyMany g_fewest g_which g_met m_mostMet, kx_a g_row cyI 160 f, kx_a g_many cyI 324 u.2.2.1, kx_a g_loss cyI 324 u.2.2.2.1, kx_a g_less cyI 324 u.2.2.2.2.1, kx_a g_voteValue cyI 1944 u.2.2.2.2.2.1, kx_a g_voteNumber cyI 1944 u.2.2.2.2.2.2.1, kx_a g_allValue cyI 12 u.2.2.2.2.2.2.2.1, kx_a g_allNumber cyI 12 u.2.2.2.2.2.2.2.2.1, kx_a g_nodeL cyI 320 u.2.2.2.2.2.2.2.2.2.1, kx_a g_nodeR cyI 320 u.2.2.2.2.2.2.2.2.2.2.1, kx_a g_part cyI 320 u.2.2.2.2.2.2.2.2.2.2.2.2.1] t.heap ∧ va_K (dC, dI) vwCl [(cyI, .int)] t ∧ va_D A [kx_5 h0 g_row m_n m_slots u.2.2.2.2.2.2.2.2.2.2.2.2.2 g_many g_loss g_less g_voteValue g_voteNumber g_allValue g_allNumber u.2.1 g_nodeL g_nodeR u.1 g_part u.2.2.2.2.2.2.2.2.2.2.2.1 g_wasMany g_wasLoss g_wasValue g_wasNumber g_path m_pathMany g_heavyValue g_heavyTimes m_heavyMany g_fewest g_which g_met m_mostMet, kx_a g_row cyI 160 f, kx_a g_many cyI 324 u.2.2.1, kx_a g_loss cyI 324 u.2.2.2.1, kx_a g_less cyI 324 u.2.2.2.2.1, kx_a g_voteValue cyI 1944 u.2.2.2.2.2.1, kx_a g_voteNumber cyI 1944 u.2.2.2.2.2.2.1, kx_a g_allValue cyI 12 u.2.2.2.2.2.2.2.1, kx_a g_allNumber cyI 12 u.2.2.2.2.2.2.2.2.1, kx_a g_nodeL cyI 320 u.2.2.2.2.2.2.2.2.2.1, kx_a g_nodeR cyI 320 u.2.2.2.2.2.2.2.2.2.2.1, kx_a g_part cyI 320 u.2.2.2.2.2.2.2.2.2.2.2.2.1]) A) := by
  refine kx_stQ (ws := wsX5_candidate) (cc := cX5_candidate) (maxL := 6) (ret := (some .int)) (by decide) rfl (Nat.le_of_ble_eq_true rfl) ?_
  intro p e s m below meth c A ls hx hb hr hlocks hts hown hml hA hS hP hK hD hl
  have hown : s.vm.findClass RX5 = some m.cls := hown
  have hl : lv_has ls 6 [(0, .ref h0), (1, .int p0), (2, .int p1), (3, .int p2), (4, .int p3)] := hl
  have hf_77 := hts (.fieldLink RX5 77 "MajorityIndexModel" "thrown" "I") (List.mem_of_getElem? (i := 1) rfl)
  have hi_5 : ∀ w ∈ u_ws RX5 TX5 30, w ∈ wsX5_candidate := fun w h => List.mem_cons_of_mem _ (List.mem_append_right _ h)
  have hf_17 := hts (.fieldLink RX5 17 "MajorityIndexModel" "many" "[I") (List.mem_of_getElem? (i := 2) rfl)
  have hf_26 := hts (.fieldLink RX5 26 "MajorityIndexModel" "voteValue" "[I") (List.mem_of_getElem? (i := 3) rfl)
  have hf_29 := hts (.fieldLink RX5 29 "MajorityIndexModel" "voteNumber" "[I") (List.mem_of_getElem? (i := 4) rfl)
  refine lv_aload_n hx hb dX5_candidate_0 rfl (lv_at hl 0 rfl) ?_
  refine lv_iconst (v := 1) hx hb dX5_candidate_1 (by decide) ?_
  refine va_put (D := (dC, dI)) (ci := 5) (v := .int 1) (ty := .int) (C := RX5) (T := TX5) (N := 30) hx hb hts hi_5 tyX5 tyX5_ok nmX5 hown hK hP hD hS 0 rfl rfl 3 (by decide) hf_77 (fun _ h9 => h9) rfl (by decide +kernel) rfl rfl (Nat.le_of_ble_eq_true rfl) dX5_candidate_2 (fun H locs hP hD hS => ?_)
  obtain ⟨hP, hD⟩ := kx_re (w2 := [kx_5 h0 g_row m_n m_slots 1 g_many g_loss g_less g_voteValue g_voteNumber g_allValue g_allNumber m_allMany g_nodeL g_nodeR m_nodes g_part m_partMany g_wasMany g_wasLoss g_wasValue g_wasNumber g_path m_pathMany g_heavyValue g_heavyTimes m_heavyMany g_fewest g_which g_met m_mostMet, kx_a g_row cyI 160 f, kx_a g_many cyI 324 fm, kx_a g_loss cyI 324 fl, kx_a g_less cyI 324 fe, kx_a g_voteValue cyI 1944 vv, kx_a g_voteNumber cyI 1944 vn, kx_a g_allValue cyI 12 av, kx_a g_allNumber cyI 12 an, kx_a g_nodeL cyI 320 nl, kx_a g_nodeR cyI 320 nr, kx_a g_part cyI 320 gp]) hP hD rfl
  refine lv_aload_n hx hb dX5_candidate_5 rfl (lv_at hl 0 rfl) ?_
  refine lv_iload_n hx hb dX5_candidate_6 rfl (lv_at hl 1 rfl) ?_
  refine lv_iload_n hx hb dX5_candidate_7 rfl (lv_at hl 2 rfl) ?_
  have hPc := hP.sub (ws' := [kx_5 h0 g_row m_n m_slots 1 g_many g_loss g_less g_voteValue g_voteNumber g_allValue g_allNumber m_allMany g_nodeL g_nodeR m_nodes g_part m_partMany g_wasMany g_wasLoss g_wasValue g_wasNumber g_path m_pathMany g_heavyValue g_heavyTimes m_heavyMany g_fewest g_which g_met m_mostMet]) [0] rfl
  have hKc := hK.sub (tys' := []) [] rfl
  refine vp_callSi (W.runV (As := [.int p0, .int p1]) (rest := []) ⟨hx, hb, hml, hown, hts⟩ (c_X5_isRange l dC dI h0 g_row g_many g_loss g_less g_voteValue g_voteNumber g_allValue g_allNumber g_nodeL g_nodeR g_part g_wasMany g_wasLoss g_wasValue g_wasNumber g_path g_heavyValue g_heavyTimes g_fewest g_which g_met m_n m_slots 1 m_allMany m_nodes m_partMany m_pathMany m_heavyMany m_mostMet p0 p1) (cwV 2 hts gX5_candidate_X5_isRange rfl rfl rfl (by decide +kernel) ⟨Nat.le_of_ble_eq_true rfl, Nat.le_of_ble_eq_true rfl⟩) ⟨fun a U g mk q => by obtain ⟨q0, qP, qK⟩ := q; exact ⟨q0, qP, va_K.moved (u := U) (U := U.calling g mk a) (Vm.Alike.refl U.vm) qK⟩, kx_rc5 hKc hPc (q0 := 0) rfl, fun U hU hW => ⟨rfl, by rw [hU]; exact hPc, va_K.moved hW.alike hKc⟩⟩ rfl rfl hl.1 rfl (lv_room (Nat.le_of_ble_eq_true rfl)) dX5_candidate_8 ⟨Nat.le_of_ble_eq_true rfl, Nat.le_of_ble_eq_true rfl⟩) (fun r_1 w_1 => ?_)
  rcases w_1 with ⟨rfl, w_1⟩ | ⟨rfl, w_1⟩
  · have w_1 : (0 ≤ p0.toInt ∧ p0.toInt < p1.toInt ∧ p1.toInt ≤ m_n.toInt) := w_1
    refine lv_if_eq (tgt := 24) hx hb dX5_candidate_11 (by decide) (fun c_2 => ?_) (fun c_2 => ?_)
    · exact absurd c_2 (by decide)
    · refine lv_iload hx hb dX5_candidate_14 (lv_at hl 4 rfl) ?_
      refine lv_iconst (v := 0) hx hb dX5_candidate_16 (by decide) ?_
      refine lv_iconst (v := 2) hx hb dX5_candidate_17 (by decide) ?_
      have hPc := hP.sub (ws' := []) [] rfl
      have hKc := hK.sub (tys' := []) [] rfl
      refine vp_callSi (W.runS (As := [.int p3, .int 0, .int 2]) (rest := []) ⟨hx, hb, hml, hown, hts⟩ (c_X5_within l dC dI p3 0 2) (va_cwS 3 hts gX5_candidate_X5_within rfl rfl rfl (by decide +kernel) ⟨Nat.le_of_ble_eq_true rfl, Nat.le_of_ble_eq_true rfl⟩) ⟨fun a U g mk q => by obtain ⟨q0, qP, qK⟩ := q; exact ⟨q0, qP, va_K.moved (u := U) (U := U.calling g mk a) (Vm.Alike.refl U.vm) qK⟩, fun U hU hW => ⟨rfl, by rw [hU]; exact hPc, va_K.moved hW.alike hKc⟩⟩ rfl rfl hl.1 rfl (lv_room (Nat.le_of_ble_eq_true rfl)) dX5_candidate_18 ⟨Nat.le_of_ble_eq_true rfl, Nat.le_of_ble_eq_true rfl⟩) (fun r_3 w_3 => ?_)
      rcases w_3 with ⟨rfl, w_3⟩ | ⟨rfl, w_3⟩
      · have w_3 : (0 ≤ p3.toInt ∧ p3.toInt ≤ 2) := w_3
        refine lv_if_ne (tgt := 26) hx hb dX5_candidate_21 (by decide) (fun c_4 => ?_) (fun c_4 => ?_)
        · refine lv_aload_n hx hb dX5_candidate_26 rfl (lv_at hl 0 rfl) ?_
          refine lv_iload_n hx hb dX5_candidate_27 rfl (lv_at hl 1 rfl) ?_
          refine lv_iload_n hx hb dX5_candidate_28 rfl (lv_at hl 2 rfl) ?_
          have hPc := hP
          have hKc := hK
          have hDc := hD
          have hFc := kx_free hD hS hA
          refine va_callv (va_runV (As := [.int p0, .int p1]) (rest := []) ⟨hx, hb, hml, hown, hts⟩ (kx_un (c_X5_sums l dC dI h0 g_row g_many g_loss g_less g_voteValue g_voteNumber g_allValue g_allNumber g_nodeL g_nodeR g_part g_wasMany g_wasLoss g_wasValue g_wasNumber g_path g_heavyValue g_heavyTimes g_fewest g_which g_met m_n m_slots 1 m_allMany m_nodes m_partMany m_pathMany m_heavyMany m_mostMet cyI fm fl fe vv vn f av an nl nr gp p0 p1 H.size a0 a1 sl0 sl1 s4 q0 (om_10 w_1.1) (om_11 w_1.2.1) (om_9 w_1.2.2))) (cwV 2 hts gX5_candidate_X5_sums rfl rfl rfl (by decide +kernel) ⟨Nat.le_of_ble_eq_true rfl, Nat.le_of_ble_eq_true rfl⟩) ⟨fun a U g mk q => by obtain ⟨q0, q1, qP, qK, qD⟩ := q; exact ⟨q0, q1, qP, va_K.moved (u := U) (U := U.calling g mk a) (Vm.Alike.refl U.vm) qK, qD⟩, kx_rc5 hKc hPc (q0 := 0) rfl, fun U hU hW => ⟨rfl, by rw [hU], by rw [hU]; exact hPc, va_K.moved hW.alike hKc, hDc.weaken (fun _ _ _ _ => trivial)⟩⟩ rfl rfl hl.1 rfl (lv_room (Nat.le_of_ble_eq_true rfl)) dX5_candidate_29 ⟨Nat.le_of_ble_eq_true rfl, Nat.le_of_ble_eq_true rfl⟩) hS (fun q _ h => hFc q h) hFc (fun u t H1 locs ht hvm w_5 hB hz1 hk1 hS => ?_)
          obtain ⟨o_6, o_7, o_8, o_9, o_10, o_11, o_12, o_13, o_14, o_15, o_16, o_17, o_18⟩ := u
          dsimp only at w_5 hB
          obtain ⟨hP1, hK1, hD1⟩ := hB
          rw [ht] at hP1
          have hK1 := va_K.moved hvm.symm hK1
          have hD := hD1.weaken (fun _ q _ h => hFc q.1 h)
          have hP := hP1
          clear hP1 hD1 hK1 hk1 hz1 hFc hDc hPc hKc
          generalize H1 = H at hP hS ⊢
          have w_5 : six4 o_8 ∧ parts320 o_18 ∧ mj_L m_slots.toNatClampNeg f o_15 o_16 o_8 o_9 o_10 o_11 o_12 m_n.toInt o_6.toInt ∧ 0 ≤ o_6.toInt ∧ o_6.toInt ≤ 319 ∧ mj_F m_slots.toNatClampNeg o_15 o_16 o_8 o_9 o_11 o_12 o_8 o_9 o_11 o_12 p0.toInt p1.toInt (mj_pq o_15 o_16 p0.toInt p1.toInt o_6.toNatClampNeg) := w_5
          refine lv_iload_n hx hb dX5_candidate_32 rfl (lv_at hl 3 rfl) ?_
          refine lv_iconst (v := 0) hx hb dX5_candidate_33 (by decide) ?_
          refine lv_aload_n hx hb dX5_candidate_34 rfl (lv_at hl 0 rfl) ?_
          refine va_get (D := (dC, dI)) (ci := 5) (v := .ref g_many) (C := RX5) (T := TX5) (N := 30) hx hb hts hi_5 hown hK hP 0 rfl rfl 4 (by decide) hf_17 (fun _ h9 => h9) rfl dX5_candidate_35 ?_
          refine lv_sipush (v := 320) hx hb dX5_candidate_38 (by decide) ?_
          refine va_iald hx hb hK hP 2 0 rfl rfl (ki_inl (by decide)) dX5_candidate_41 ?_
          refine lv_topi (fun y_19 ey_19 => ?_)
          have j_19 : y_19.toInt = (o_8 (320 : Int32).toNatClampNeg).toInt := congrArg Int32.toInt ey_19
          have n_20 : ((320 : Int32).toNatClampNeg : Int) = 320 := ki_nat _ rfl om_375
          have i_21 := w_5.1 (320 : Int32).toNatClampNeg (om_ln n_20 om_393)
          refine lv_iconst (v := 1) hx hb dX5_candidate_42 (by decide) ?_
          refine lv_isub hx hb dX5_candidate_43 ?_
          refine lv_topi (fun y_22 ey_22 => ?_)
          have i_22 : y_22.toInt = y_19.toInt - 1 := ki_sub ey_22 rfl rfl (om_379 j_19 i_21.1) (om_380 j_19 i_21.2)
          have hPc := hP.sub (ws' := []) [] rfl
          have hKc := hK.sub (tys' := []) [] rfl
          refine vp_callSi (W.runS (As := [.int p2, .int 0, .int y_22]) (rest := []) ⟨hx, hb, hml, hown, hts⟩ (c_X5_within l dC dI p2 0 y_22) (va_cwS 3 hts gX5_candidate_X5_within rfl rfl rfl (by decide +kernel) ⟨Nat.le_of_ble_eq_true rfl, Nat.le_of_ble_eq_true rfl⟩) ⟨fun a U g mk q => by obtain ⟨q0, qP, qK⟩ := q; exact ⟨q0, qP, va_K.moved (u := U) (U := U.calling g mk a) (Vm.Alike.refl U.vm) qK⟩, fun U hU hW => ⟨rfl, by rw [hU]; exact hPc, va_K.moved hW.alike hKc⟩⟩ rfl rfl hl.1 rfl (lv_room (Nat.le_of_ble_eq_true rfl)) dX5_candidate_44 ⟨Nat.le_of_ble_eq_true rfl, Nat.le_of_ble_eq_true rfl⟩) (fun r_23 w_23 => ?_)
          rcases w_23 with ⟨rfl, w_23⟩ | ⟨rfl, w_23⟩
          · have w_23 : (0 ≤ p2.toInt ∧ p2.toInt ≤ y_22.toInt) := w_23
            refine lv_if_ne (tgt := 52) hx hb dX5_candidate_47 (by decide) (fun c_24 => ?_) (fun c_24 => ?_)
            · refine lv_aload_n hx hb dX5_candidate_52 rfl (lv_at hl 0 rfl) ?_
              refine lv_iconst (v := 0) hx hb dX5_candidate_53 (by decide) ?_
              refine va_put (D := (dC, dI)) (ci := 5) (v := .int 0) (ty := .int) (C := RX5) (T := TX5) (N := 30) hx hb hts hi_5 tyX5 tyX5_ok nmX5 hown hK hP hD hS 0 rfl rfl 3 (by decide) hf_77 (fun _ h9 => h9) rfl (by decide +kernel) rfl rfl (Nat.le_of_ble_eq_true rfl) dX5_candidate_54 (fun H locs hP hD hS => ?_)
              obtain ⟨hP, hD⟩ := kx_re (w2 := [kx_5 h0 g_row m_n m_slots 0 g_many g_loss g_less g_voteValue g_voteNumber g_allValue g_allNumber o_7 g_nodeL g_nodeR o_6 g_part o_17 g_wasMany g_wasLoss g_wasValue g_wasNumber g_path m_pathMany g_heavyValue g_heavyTimes m_heavyMany g_fewest g_which g_met m_mostMet, kx_a g_row cyI 160 f, kx_a g_many cyI 324 o_8, kx_a g_loss cyI 324 o_9, kx_a g_less cyI 324 o_10, kx_a g_voteValue cyI 1944 o_11, kx_a g_voteNumber cyI 1944 o_12, kx_a g_allValue cyI 12 o_13, kx_a g_allNumber cyI 12 o_14, kx_a g_nodeL cyI 320 o_15, kx_a g_nodeR cyI 320 o_16, kx_a g_part cyI 320 o_18]) hP hD rfl
              refine lv_aload_n hx hb dX5_candidate_57 rfl (lv_at hl 0 rfl) ?_
              refine va_get (D := (dC, dI)) (ci := 5) (v := .ref g_voteValue) (C := RX5) (T := TX5) (N := 30) hx hb hts hi_5 hown hK hP 0 rfl rfl 7 (by decide) hf_26 (fun _ h9 => h9) rfl dX5_candidate_58 ?_
              refine lv_sipush (v := 1920) hx hb dX5_candidate_61 (by decide) ?_
              refine lv_iload_n hx hb dX5_candidate_64 rfl (lv_at hl 3 rfl) ?_
              refine lv_iadd hx hb dX5_candidate_65 ?_
              refine lv_topi (fun y_25 ey_25 => ?_)
              have i_25 : y_25.toInt = 1920 + p2.toInt := ki_add ey_25 rfl rfl (om_394 w_23.1) (om_395 j_19 i_21.2 i_22 w_23.2)
              refine va_iald hx hb hK hP 5 0 rfl rfl (ki_in (om_396 w_23.1 i_25) (om_397 j_19 i_21.2 i_22 w_23.2 i_25)) dX5_candidate_66 ?_
              refine lv_topi (fun y_26 ey_26 => ?_)
              have j_26 : y_26.toInt = (o_11 y_25.toNatClampNeg).toInt := congrArg Int32.toInt ey_26
              refine lv_istore (lv' := [(5, .int y_26), (0, .ref h0), (1, .int p0), (2, .int p1), (3, .int p2), (4, .int p3)]) hx hb dX5_candidate_67 hl (by decide) rfl (fun ls hl => ?_)
              refine lv_iload hx hb dX5_candidate_69 (lv_at hl 5 rfl) ?_
              refine lv_if_ne (tgt := 79) hx hb dX5_candidate_71 (by decide) (fun c_27 => ?_) (fun c_27 => ?_)
              · have i_27 : ¬ p3.toInt = 0 := kc_ne c_27
                refine lv_iload hx hb dX5_candidate_79 (lv_at hl 5 rfl) ?_
                refine lv_iconst (v := 1) hx hb dX5_candidate_81 (by decide) ?_
                refine lv_icmp_ne (tgt := 98) hx hb dX5_candidate_82 (by decide) (fun c_28 => ?_) (fun c_28 => ?_)
                · have i_28 : ¬ p3.toInt = 1 := kc_ne c_28
                  refine lv_aload_n hx hb dX5_candidate_98 rfl (lv_at hl 1 rfl) ?_
                  refine lv_iload hx hb dX5_candidate_99 (lv_at hl 0 rfl) ?_
                  refine lv_iload_n hx hb dX5_candidate_101 rfl (lv_at hl 2 rfl) ?_
                  refine lv_iload_n hx hb dX5_candidate_102 rfl (lv_at hl 3 rfl) ?_
                  have hPc := hP.sub (ws' := [kx_5 h0 g_row m_n m_slots 0 g_many g_loss g_less g_voteValue g_voteNumber g_allValue g_allNumber o_7 g_nodeL g_nodeR o_6 g_part o_17 g_wasMany g_wasLoss g_wasValue g_wasNumber g_path m_pathMany g_heavyValue g_heavyTimes m_heavyMany g_fewest g_which g_met m_mostMet, kx_a g_row cyI 160 f]) [0, 1] rfl
                  have hKc := hK
                  refine vp_callSi (W.runV (As := [.int y_26, .int p0, .int p1]) (rest := []) ⟨hx, hb, hml, hown, hts⟩ (c_X5_times l dC dI h0 g_row g_many g_loss g_less g_voteValue g_voteNumber g_allValue g_allNumber g_nodeL g_nodeR g_part g_wasMany g_wasLoss g_wasValue g_wasNumber g_path g_heavyValue g_heavyTimes g_fewest g_which g_met m_n m_slots 0 o_7 o_6 o_17 m_pathMany m_heavyMany m_mostMet cyI f y_26 p0 p1 (om_10 w_1.1) (om_167 a1 w_1.2.2)) (cwV 3 hts gX5_candidate_X5_times rfl rfl rfl (by decide +kernel) ⟨Nat.le_of_ble_eq_true rfl, Nat.le_of_ble_eq_true rfl⟩) ⟨fun a U g mk q => by obtain ⟨q0, qP, qK⟩ := q; exact ⟨q0, qP, va_K.moved (u := U) (U := U.calling g mk a) (Vm.Alike.refl U.vm) qK⟩, kx_rc5 hKc hPc (q0 := 0) rfl, fun U hU hW => ⟨rfl, by rw [hU]; exact hPc, va_K.moved hW.alike hKc⟩⟩ rfl rfl hl.1 rfl (lv_room (Nat.le_of_ble_eq_true rfl)) dX5_candidate_103 ⟨Nat.le_of_ble_eq_true rfl, Nat.le_of_ble_eq_true rfl⟩) (fun r_29 w_29 => ?_)
                  have w_29 : r_29.toInt = (cnt f y_26 p0.toNatClampNeg (p1.toInt - p0.toInt).toNat : Int) := w_29
                  have hP9 := hP
                  have hD9 := hD
                  have hK9 := hK
                  exact W.iret (v := r_29) hx hb hr (hlocks := hlocks) (fun t ht hW => ⟨⟨r_29, (o_6, o_7, o_8, o_9, o_10, o_11, o_12, o_13, o_14, o_15, o_16, o_17, o_18, 0), rfl, ⟨w_5.1, w_5.2.1⟩, by rw [ht]; exact hP9, va_K.moved hW.alike hK9, hD9⟩, hS.F ht⟩) hS.2.2 dX5_candidate_106
                · have i_28 : p3.toInt = 1 := kc_eq c_28
                  refine lv_aload_n hx hb dX5_candidate_85 rfl (lv_at hl 1 rfl) ?_
                  refine va_get (D := (dC, dI)) (ci := 5) (v := .ref g_voteNumber) (C := RX5) (T := TX5) (N := 30) hx hb hts hi_5 hown hK hP 0 rfl rfl 8 (by decide) hf_29 (fun _ h9 => h9) rfl dX5_candidate_86 ?_
                  refine lv_sipush (v := 1920) hx hb dX5_candidate_89 (by decide) ?_
                  refine lv_iload_n hx hb dX5_candidate_92 rfl (lv_at hl 4 rfl) ?_
                  refine lv_iadd hx hb dX5_candidate_93 ?_
                  refine lv_topi (fun y_30 ey_30 => ?_)
                  have i_30 : y_30.toInt = 1920 + p2.toInt := ki_add ey_30 rfl rfl (om_394 w_23.1) (om_395 j_19 i_21.2 i_22 w_23.2)
                  refine va_iald hx hb hK hP 6 0 rfl rfl (ki_in (om_396 w_23.1 i_30) (om_397 j_19 i_21.2 i_22 w_23.2 i_30)) dX5_candidate_94 ?_
                  refine lv_topi (fun y_31 ey_31 => ?_)
                  have j_31 : y_31.toInt = (o_12 y_30.toNatClampNeg).toInt := congrArg Int32.toInt ey_31
                  refine lv_goto (tgt := 106) hx hb dX5_candidate_95 (by decide) ?_
                  have hP9 := hP
                  have hD9 := hD
                  have hK9 := hK
                  exact W.iret (v := y_31) hx hb hr (hlocks := hlocks) (fun t ht hW => ⟨⟨y_31, (o_6, o_7, o_8, o_9, o_10, o_11, o_12, o_13, o_14, o_15, o_16, o_17, o_18, 0), rfl, ⟨w_5.1, w_5.2.1⟩, by rw [ht]; exact hP9, va_K.moved hW.alike hK9, hD9⟩, hS.F ht⟩) hS.2.2 dX5_candidate_106
              · have i_27 : p3.toInt = 0 := kc_eq c_27
                refine lv_iload hx hb dX5_candidate_74 (lv_at hl 0 rfl) ?_
                refine lv_goto (tgt := 106) hx hb dX5_candidate_76 (by decide) ?_
                have hP9 := hP
                have hD9 := hD
                have hK9 := hK
                exact W.iret (v := y_26) hx hb hr (hlocks := hlocks) (fun t ht hW => ⟨⟨y_26, (o_6, o_7, o_8, o_9, o_10, o_11, o_12, o_13, o_14, o_15, o_16, o_17, o_18, 0), rfl, ⟨w_5.1, w_5.2.1⟩, by rw [ht]; exact hP9, va_K.moved hW.alike hK9, hD9⟩, hS.F ht⟩) hS.2.2 dX5_candidate_106
            · exact absurd c_24 (by decide)
          · have w_23 : (p2.toInt < 0 ∨ y_22.toInt < p2.toInt) := w_23
            refine lv_if_ne (tgt := 52) hx hb dX5_candidate_47 (by decide) (fun c_32 => ?_) (fun c_32 => ?_)
            · exact absurd c_32 (by decide)
            · refine lv_iconst (v := 0) hx hb dX5_candidate_50 (by decide) ?_
              have hP9 := hP
              have hD9 := hD
              have hK9 := hK
              exact W.iret (v := 0) hx hb hr (hlocks := hlocks) (fun t ht hW => ⟨⟨0, (o_6, o_7, o_8, o_9, o_10, o_11, o_12, o_13, o_14, o_15, o_16, o_17, o_18, 1), rfl, ⟨w_5.1, w_5.2.1⟩, by rw [ht]; exact hP9, va_K.moved hW.alike hK9, hD9⟩, hS.F ht⟩) hS.2.2 dX5_candidate_51
        · exact absurd c_4 (by decide)
      · have w_3 : (p3.toInt < 0 ∨ 2 < p3.toInt) := w_3
        refine lv_if_ne (tgt := 26) hx hb dX5_candidate_21 (by decide) (fun c_33 => ?_) (fun c_33 => ?_)
        · exact absurd c_33 (by decide)
        · refine lv_iconst (v := 0) hx hb dX5_candidate_24 (by decide) ?_
          have hP9 := hP
          have hD9 := hD
          have hK9 := hK
          exact W.iret (v := 0) hx hb hr (hlocks := hlocks) (fun t ht hW => ⟨⟨0, (m_nodes, m_allMany, fm, fl, fe, vv, vn, av, an, nl, nr, m_partMany, gp, 1), rfl, ⟨s4, q0⟩, by rw [ht]; exact hP9, va_K.moved hW.alike hK9, hD9⟩, hS.F ht⟩) hS.2.2 dX5_candidate_25
  · have w_1 : (p0.toInt < 0 ∨ p1.toInt ≤ p0.toInt ∨ m_n.toInt < p1.toInt) := w_1
    refine lv_if_eq (tgt := 24) hx hb dX5_candidate_11 (by decide) (fun c_34 => ?_) (fun c_34 => ?_)
    · refine lv_iconst (v := 0) hx hb dX5_candidate_24 (by decide) ?_
      have hP9 := hP
      have hD9 := hD
      have hK9 := hK
      exact W.iret (v := 0) hx hb hr (hlocks := hlocks) (fun t ht hW => ⟨⟨0, (m_nodes, m_allMany, fm, fl, fe, vv, vn, av, an, nl, nr, m_partMany, gp, 1), rfl, ⟨s4, q0⟩, by rw [ht]; exact hP9, va_K.moved hW.alike hK9, hD9⟩, hS.F ht⟩) hS.2.2 dX5_candidate_25
    · exact absurd c_34 (by decide)

set_option maxHeartbeats 4000000 in
set_option maxRecDepth 100000 in
theorem c_X5_lost (l : Launch) (dC : Nat → ClassId) (dI : Nat → Nat → Nat) (h0 : Nat) (g_row : Nat) (g_many : Nat) (g_loss : Nat) (g_less : Nat) (g_voteValue : Nat) (g_voteNumber : Nat) (g_allValue : Nat) (g_allNumber : Nat) (g_nodeL : Nat) (g_nodeR : Nat) (g_part : Nat) (g_wasMany : Nat) (g_wasLoss : Nat) (g_wasValue : Nat) (g_wasNumber : Nat) (g_path : Nat) (g_heavyValue : Nat) (g_heavyTimes : Nat) (g_fewest : Nat) (g_which : Nat) (g_met : Nat) (m_n : Int32) (m_slots : Int32) (m_thrown : Int32) (m_allMany : Int32) (m_nodes : Int32) (m_partMany : Int32) (m_pathMany : Int32) (m_heavyMany : Int32) (m_mostMet : Int32) (cyI : ClassId) (fm : Nat → Int32) (fl : Nat → Int32) (fe : Nat → Int32) (vv : Nat → Int32) (vn : Nat → Int32) (f : Nat → Int32) (av : Nat → Int32) (an : Nat → Int32) (nl : Nat → Int32) (nr : Nat → Int32) (gp : Nat → Int32) (p0 : Int32) (p1 : Int32) (p2 : Int32) (sz : Nat) (a0 : 0 ≤ m_n.toInt) (a1 : m_n.toInt ≤ 160) (sl0 : 1 ≤ m_slots.toInt) (sl1 : m_slots.toInt ≤ 6) (s4 : six4 fm) (q0 : parts320 gp) : kx_MQ l (dC, dI) yX5_lost wsX5_lost ({ frames := 13, cells := 0, slots := 0, locals := 585 }) [.ref h0, .int p0, .int p1, .int p2] [kx_5 h0 g_row m_n m_slots m_thrown g_many g_loss g_less g_voteValue g_voteNumber g_allValue g_allNumber m_allMany g_nodeL g_nodeR m_nodes g_part m_partMany g_wasMany g_wasLoss g_wasValue g_wasNumber g_path m_pathMany g_heavyValue g_heavyTimes m_heavyMany g_fewest g_which g_met m_mostMet, kx_a g_row cyI 160 f, kx_a g_many cyI 324 fm, kx_a g_loss cyI 324 fl, kx_a g_less cyI 324 fe, kx_a g_voteValue cyI 1944 vv, kx_a g_voteNumber cyI 1944 vn, kx_a g_allValue cyI 12 av, kx_a g_allNumber cyI 12 an, kx_a g_nodeL cyI 320 nl, kx_a g_nodeR cyI 320 nr, kx_a g_part cyI 320 gp] [(cyI, .int)] sz (fun A => va_Qi (fun (r : Int32) (u : Int32 × Int32 × (Nat → Int32) × (Nat → Int32) × (Nat → Int32) × (Nat → Int32) × (Nat → Int32) × (Nat → Int32) × (Nat → Int32) × (Nat → Int32) × (Nat → Int32) × Int32 × (Nat → Int32)) => six4 u.2.2.1 ∧ parts320 u.2.2.2.2.2.2.2.2.2.2.2.2) (fun (u : Int32 × Int32 × (Nat → Int32) × (Nat → Int32) × (Nat → Int32) × (Nat → Int32) × (Nat → Int32) × (Nat → Int32) × (Nat → Int32) × (Nat → Int32) × (Nat → Int32) × Int32 × (Nat → Int32)) (t : State) => va_P (dC, dI) vwCl [kx_5 h0 g_row m_n m_slots 0 g_many g_loss g_less g_voteValue g_voteNumber g_allValue g_allNumber u.2.1 g_nodeL g_nodeR u.1 g_part u.2.2.2.2.2.2.2.2.2.2.2.1 g_wasMany g_wasLoss g_wasValue g_wasNumber g_path m_pathMany g_heavyValue g_heavyTimes m_heavyMany g_fewest g_which g_met m_mostMet, kx_a g_row cyI 160 f, kx_a g_many cyI 324 u.2.2.1, kx_a g_loss cyI 324 u.2.2.2.1, kx_a g_less cyI 324 u.2.2.2.2.1, kx_a g_voteValue cyI 1944 u.2.2.2.2.2.1, kx_a g_voteNumber cyI 1944 u.2.2.2.2.2.2.1, kx_a g_allValue cyI 12 u.2.2.2.2.2.2.2.1, kx_a g_allNumber cyI 12 u.2.2.2.2.2.2.2.2.1, kx_a g_nodeL cyI 320 u.2.2.2.2.2.2.2.2.2.1, kx_a g_nodeR cyI 320 u.2.2.2.2.2.2.2.2.2.2.1, kx_a g_part cyI 320 u.2.2.2.2.2.2.2.2.2.2.2.2] t.heap ∧ va_K (dC, dI) vwCl [(cyI, .int)] t ∧ va_D A [kx_5 h0 g_row m_n m_slots 0 g_many g_loss g_less g_voteValue g_voteNumber g_allValue g_allNumber u.2.1 g_nodeL g_nodeR u.1 g_part u.2.2.2.2.2.2.2.2.2.2.2.1 g_wasMany g_wasLoss g_wasValue g_wasNumber g_path m_pathMany g_heavyValue g_heavyTimes m_heavyMany g_fewest g_which g_met m_mostMet, kx_a g_row cyI 160 f, kx_a g_many cyI 324 u.2.2.1, kx_a g_loss cyI 324 u.2.2.2.1, kx_a g_less cyI 324 u.2.2.2.2.1, kx_a g_voteValue cyI 1944 u.2.2.2.2.2.1, kx_a g_voteNumber cyI 1944 u.2.2.2.2.2.2.1, kx_a g_allValue cyI 12 u.2.2.2.2.2.2.2.1, kx_a g_allNumber cyI 12 u.2.2.2.2.2.2.2.2.1, kx_a g_nodeL cyI 320 u.2.2.2.2.2.2.2.2.2.1, kx_a g_nodeR cyI 320 u.2.2.2.2.2.2.2.2.2.2.1, kx_a g_part cyI 320 u.2.2.2.2.2.2.2.2.2.2.2.2]) A) := by
  refine kx_stQ (ws := wsX5_lost) (cc := cX5_lost) (maxL := 4) (ret := (some .int)) (by decide) rfl (Nat.le_of_ble_eq_true rfl) ?_
  intro p e s m below meth c A ls hx hb hr hlocks hts hown hml hA hS hP hK hD hl
  have hown : s.vm.findClass RX5 = some m.cls := hown
  have hl : lv_has ls 4 [(0, .ref h0), (1, .int p0), (2, .int p1), (3, .int p2)] := hl
  have hf_77 := hts (.fieldLink RX5 77 "MajorityIndexModel" "thrown" "I") (List.mem_of_getElem? (i := 1) rfl)
  have hi_5 : ∀ w ∈ u_ws RX5 TX5 30, w ∈ wsX5_lost := fun w h => List.mem_cons_of_mem _ (List.mem_append_right _ h)
  refine lv_aload_n hx hb dX5_lost_0 rfl (lv_at hl 0 rfl) ?_
  refine lv_iconst (v := 0) hx hb dX5_lost_1 (by decide) ?_
  refine va_put (D := (dC, dI)) (ci := 5) (v := .int 0) (ty := .int) (C := RX5) (T := TX5) (N := 30) hx hb hts hi_5 tyX5 tyX5_ok nmX5 hown hK hP hD hS 0 rfl rfl 3 (by decide) hf_77 (fun _ h9 => h9) rfl (by decide +kernel) rfl rfl (Nat.le_of_ble_eq_true rfl) dX5_lost_2 (fun H locs hP hD hS => ?_)
  obtain ⟨hP, hD⟩ := kx_re (w2 := [kx_5 h0 g_row m_n m_slots 0 g_many g_loss g_less g_voteValue g_voteNumber g_allValue g_allNumber m_allMany g_nodeL g_nodeR m_nodes g_part m_partMany g_wasMany g_wasLoss g_wasValue g_wasNumber g_path m_pathMany g_heavyValue g_heavyTimes m_heavyMany g_fewest g_which g_met m_mostMet, kx_a g_row cyI 160 f, kx_a g_many cyI 324 fm, kx_a g_loss cyI 324 fl, kx_a g_less cyI 324 fe, kx_a g_voteValue cyI 1944 vv, kx_a g_voteNumber cyI 1944 vn, kx_a g_allValue cyI 12 av, kx_a g_allNumber cyI 12 an, kx_a g_nodeL cyI 320 nl, kx_a g_nodeR cyI 320 nr, kx_a g_part cyI 320 gp]) hP hD rfl
  refine lv_iload_n hx hb dX5_lost_5 rfl (lv_at hl 1 rfl) ?_
  have hPc := hP.sub (ws' := []) [] rfl
  have hKc := hK.sub (tys' := []) [] rfl
  refine vp_callSi (W.runS (As := [.int p0]) (rest := []) ⟨hx, hb, hml, hown, hts⟩ (c_X5_isValue l dC dI p0) (va_cwS 1 hts gX5_lost_X5_isValue rfl rfl rfl (by decide +kernel) ⟨Nat.le_of_ble_eq_true rfl, Nat.le_of_ble_eq_true rfl⟩) ⟨fun a U g mk q => by obtain ⟨q0, qP, qK⟩ := q; exact ⟨q0, qP, va_K.moved (u := U) (U := U.calling g mk a) (Vm.Alike.refl U.vm) qK⟩, fun U hU hW => ⟨rfl, by rw [hU]; exact hPc, va_K.moved hW.alike hKc⟩⟩ rfl rfl hl.1 rfl (lv_room (Nat.le_of_ble_eq_true rfl)) dX5_lost_6 ⟨Nat.le_of_ble_eq_true rfl, Nat.le_of_ble_eq_true rfl⟩) (fun r_1 w_1 => ?_)
  rcases w_1 with ⟨rfl, w_1⟩ | ⟨rfl, w_1⟩
  · have w_1 : (-32768 ≤ p0.toInt ∧ p0.toInt ≤ 32767) := w_1
    refine lv_if_eq (tgt := 21) hx hb dX5_lost_9 (by decide) (fun c_2 => ?_) (fun c_2 => ?_)
    · exact absurd c_2 (by decide)
    · refine lv_aload_n hx hb dX5_lost_12 rfl (lv_at hl 0 rfl) ?_
      refine lv_iload_n hx hb dX5_lost_13 rfl (lv_at hl 2 rfl) ?_
      refine lv_iload_n hx hb dX5_lost_14 rfl (lv_at hl 3 rfl) ?_
      have hPc := hP.sub (ws' := [kx_5 h0 g_row m_n m_slots 0 g_many g_loss g_less g_voteValue g_voteNumber g_allValue g_allNumber m_allMany g_nodeL g_nodeR m_nodes g_part m_partMany g_wasMany g_wasLoss g_wasValue g_wasNumber g_path m_pathMany g_heavyValue g_heavyTimes m_heavyMany g_fewest g_which g_met m_mostMet]) [0] rfl
      have hKc := hK.sub (tys' := []) [] rfl
      refine vp_callSi (W.runV (As := [.int p1, .int p2]) (rest := []) ⟨hx, hb, hml, hown, hts⟩ (c_X5_isRange l dC dI h0 g_row g_many g_loss g_less g_voteValue g_voteNumber g_allValue g_allNumber g_nodeL g_nodeR g_part g_wasMany g_wasLoss g_wasValue g_wasNumber g_path g_heavyValue g_heavyTimes g_fewest g_which g_met m_n m_slots 0 m_allMany m_nodes m_partMany m_pathMany m_heavyMany m_mostMet p1 p2) (cwV 2 hts gX5_lost_X5_isRange rfl rfl rfl (by decide +kernel) ⟨Nat.le_of_ble_eq_true rfl, Nat.le_of_ble_eq_true rfl⟩) ⟨fun a U g mk q => by obtain ⟨q0, qP, qK⟩ := q; exact ⟨q0, qP, va_K.moved (u := U) (U := U.calling g mk a) (Vm.Alike.refl U.vm) qK⟩, kx_rc5 hKc hPc (q0 := 0) rfl, fun U hU hW => ⟨rfl, by rw [hU]; exact hPc, va_K.moved hW.alike hKc⟩⟩ rfl rfl hl.1 rfl (lv_room (Nat.le_of_ble_eq_true rfl)) dX5_lost_15 ⟨Nat.le_of_ble_eq_true rfl, Nat.le_of_ble_eq_true rfl⟩) (fun r_3 w_3 => ?_)
      rcases w_3 with ⟨rfl, w_3⟩ | ⟨rfl, w_3⟩
      · have w_3 : (0 ≤ p1.toInt ∧ p1.toInt < p2.toInt ∧ p2.toInt ≤ m_n.toInt) := w_3
        refine lv_if_ne (tgt := 23) hx hb dX5_lost_18 (by decide) (fun c_4 => ?_) (fun c_4 => ?_)
        · refine lv_aload_n hx hb dX5_lost_23 rfl (lv_at hl 0 rfl) ?_
          refine lv_iload_n hx hb dX5_lost_24 rfl (lv_at hl 2 rfl) ?_
          refine lv_iload_n hx hb dX5_lost_25 rfl (lv_at hl 3 rfl) ?_
          have hPc := hP
          have hKc := hK
          have hDc := hD
          have hFc := kx_free hD hS hA
          refine va_callv (va_runV (As := [.int p1, .int p2]) (rest := []) ⟨hx, hb, hml, hown, hts⟩ (kx_un (c_X5_sums l dC dI h0 g_row g_many g_loss g_less g_voteValue g_voteNumber g_allValue g_allNumber g_nodeL g_nodeR g_part g_wasMany g_wasLoss g_wasValue g_wasNumber g_path g_heavyValue g_heavyTimes g_fewest g_which g_met m_n m_slots 0 m_allMany m_nodes m_partMany m_pathMany m_heavyMany m_mostMet cyI fm fl fe vv vn f av an nl nr gp p1 p2 H.size a0 a1 sl0 sl1 s4 q0 (om_10 w_3.1) (om_11 w_3.2.1) (om_9 w_3.2.2))) (cwV 2 hts gX5_lost_X5_sums rfl rfl rfl (by decide +kernel) ⟨Nat.le_of_ble_eq_true rfl, Nat.le_of_ble_eq_true rfl⟩) ⟨fun a U g mk q => by obtain ⟨q0, q1, qP, qK, qD⟩ := q; exact ⟨q0, q1, qP, va_K.moved (u := U) (U := U.calling g mk a) (Vm.Alike.refl U.vm) qK, qD⟩, kx_rc5 hKc hPc (q0 := 0) rfl, fun U hU hW => ⟨rfl, by rw [hU], by rw [hU]; exact hPc, va_K.moved hW.alike hKc, hDc.weaken (fun _ _ _ _ => trivial)⟩⟩ rfl rfl hl.1 rfl (lv_room (Nat.le_of_ble_eq_true rfl)) dX5_lost_26 ⟨Nat.le_of_ble_eq_true rfl, Nat.le_of_ble_eq_true rfl⟩) hS (fun q _ h => hFc q h) hFc (fun u t H1 locs ht hvm w_5 hB hz1 hk1 hS => ?_)
          obtain ⟨o_6, o_7, o_8, o_9, o_10, o_11, o_12, o_13, o_14, o_15, o_16, o_17, o_18⟩ := u
          dsimp only at w_5 hB
          obtain ⟨hP1, hK1, hD1⟩ := hB
          rw [ht] at hP1
          have hK1 := va_K.moved hvm.symm hK1
          have hD := hD1.weaken (fun _ q _ h => hFc q.1 h)
          have hP := hP1
          clear hP1 hD1 hK1 hk1 hz1 hFc hDc hPc hKc
          generalize H1 = H at hP hS ⊢
          have w_5 : six4 o_8 ∧ parts320 o_18 ∧ mj_L m_slots.toNatClampNeg f o_15 o_16 o_8 o_9 o_10 o_11 o_12 m_n.toInt o_6.toInt ∧ 0 ≤ o_6.toInt ∧ o_6.toInt ≤ 319 ∧ mj_F m_slots.toNatClampNeg o_15 o_16 o_8 o_9 o_11 o_12 o_8 o_9 o_11 o_12 p1.toInt p2.toInt (mj_pq o_15 o_16 p1.toInt p2.toInt o_6.toNatClampNeg) := w_5
          refine lv_aload_n hx hb dX5_lost_29 rfl (lv_at hl 0 rfl) ?_
          refine lv_iload_n hx hb dX5_lost_30 rfl (lv_at hl 1 rfl) ?_
          refine lv_iload_n hx hb dX5_lost_31 rfl (lv_at hl 2 rfl) ?_
          refine lv_iload_n hx hb dX5_lost_32 rfl (lv_at hl 3 rfl) ?_
          have hPc := hP.sub (ws' := [kx_5 h0 g_row m_n m_slots 0 g_many g_loss g_less g_voteValue g_voteNumber g_allValue g_allNumber o_7 g_nodeL g_nodeR o_6 g_part o_17 g_wasMany g_wasLoss g_wasValue g_wasNumber g_path m_pathMany g_heavyValue g_heavyTimes m_heavyMany g_fewest g_which g_met m_mostMet, kx_a g_row cyI 160 f]) [0, 1] rfl
          have hKc := hK
          refine vp_callSi (W.runV (As := [.int p0, .int p1, .int p2]) (rest := []) ⟨hx, hb, hml, hown, hts⟩ (c_X5_times l dC dI h0 g_row g_many g_loss g_less g_voteValue g_voteNumber g_allValue g_allNumber g_nodeL g_nodeR g_part g_wasMany g_wasLoss g_wasValue g_wasNumber g_path g_heavyValue g_heavyTimes g_fewest g_which g_met m_n m_slots 0 o_7 o_6 o_17 m_pathMany m_heavyMany m_mostMet cyI f p0 p1 p2 (om_10 w_3.1) (om_167 a1 w_3.2.2)) (cwV 3 hts gX5_lost_X5_times rfl rfl rfl (by decide +kernel) ⟨Nat.le_of_ble_eq_true rfl, Nat.le_of_ble_eq_true rfl⟩) ⟨fun a U g mk q => by obtain ⟨q0, qP, qK⟩ := q; exact ⟨q0, qP, va_K.moved (u := U) (U := U.calling g mk a) (Vm.Alike.refl U.vm) qK⟩, kx_rc5 hKc hPc (q0 := 0) rfl, fun U hU hW => ⟨rfl, by rw [hU]; exact hPc, va_K.moved hW.alike hKc⟩⟩ rfl rfl hl.1 rfl (lv_room (Nat.le_of_ble_eq_true rfl)) dX5_lost_33 ⟨Nat.le_of_ble_eq_true rfl, Nat.le_of_ble_eq_true rfl⟩) (fun r_19 w_19 => ?_)
          have w_19 : r_19.toInt = (cnt f p0 p1.toNatClampNeg (p2.toInt - p1.toInt).toNat : Int) := w_19
          refine lv_aload_n hx hb dX5_lost_36 rfl (lv_at hl 0 rfl) ?_
          refine lv_sipush (v := 320) hx hb dX5_lost_37 (by decide) ?_
          refine lv_iload_n hx hb dX5_lost_40 rfl (lv_at hl 1 rfl) ?_
          have hPc := hP.sub (ws' := [kx_5 h0 g_row m_n m_slots 0 g_many g_loss g_less g_voteValue g_voteNumber g_allValue g_allNumber o_7 g_nodeL g_nodeR o_6 g_part o_17 g_wasMany g_wasLoss g_wasValue g_wasNumber g_path m_pathMany g_heavyValue g_heavyTimes m_heavyMany g_fewest g_which g_met m_mostMet, kx_a g_many cyI 324 o_8, kx_a g_voteValue cyI 1944 o_11, kx_a g_voteNumber cyI 1944 o_12]) [0, 2, 5, 6] rfl
          have hKc := hK
          have k_20 : (320 : Int32).toInt = 320 := rfl
          refine vp_callSi (W.runV (As := [.int 320, .int p0]) (rest := [.int r_19]) ⟨hx, hb, hml, hown, hts⟩ (c_X5_numberOf l dC dI h0 g_row g_many g_loss g_less g_voteValue g_voteNumber g_allValue g_allNumber g_nodeL g_nodeR g_part g_wasMany g_wasLoss g_wasValue g_wasNumber g_path g_heavyValue g_heavyTimes g_fewest g_which g_met m_n m_slots 0 o_7 o_6 o_17 m_pathMany m_heavyMany m_mostMet cyI o_8 o_11 o_12 320 p0 om_375 om_376 w_5.1) (cwV 2 hts gX5_lost_X5_numberOf rfl rfl rfl (by decide +kernel) ⟨Nat.le_of_ble_eq_true rfl, Nat.le_of_ble_eq_true rfl⟩) ⟨fun a U g mk q => by obtain ⟨q0, qP, qK⟩ := q; exact ⟨q0, qP, va_K.moved (u := U) (U := U.calling g mk a) (Vm.Alike.refl U.vm) qK⟩, kx_rc5 hKc hPc (q0 := 0) rfl, fun U hU hW => ⟨rfl, by rw [hU]; exact hPc, va_K.moved hW.alike hKc⟩⟩ rfl rfl hl.1 rfl (lv_room (Nat.le_of_ble_eq_true rfl)) dX5_lost_41 ⟨Nat.le_of_ble_eq_true rfl, Nat.le_of_ble_eq_true rfl⟩) (fun r_21 w_21 => ?_)
          refine lv_isub hx hb dX5_lost_44 ?_
          refine lv_topi (fun y_22 ey_22 => ?_)
          have hP9 := hP
          have hD9 := hD
          have hK9 := hK
          exact W.iret (v := y_22) hx hb hr (hlocks := hlocks) (fun t ht hW => ⟨⟨y_22, (o_6, o_7, o_8, o_9, o_10, o_11, o_12, o_13, o_14, o_15, o_16, o_17, o_18), rfl, ⟨w_5.1, w_5.2.1⟩, by rw [ht]; exact hP9, va_K.moved hW.alike hK9, hD9⟩, hS.F ht⟩) hS.2.2 dX5_lost_45
        · exact absurd c_4 (by decide)
      · have w_3 : (p1.toInt < 0 ∨ p2.toInt ≤ p1.toInt ∨ m_n.toInt < p2.toInt) := w_3
        refine lv_if_ne (tgt := 23) hx hb dX5_lost_18 (by decide) (fun c_23 => ?_) (fun c_23 => ?_)
        · exact absurd c_23 (by decide)
        · refine lv_iconst (v := (-1)) hx hb dX5_lost_21 (by decide) ?_
          have hP9 := hP
          have hD9 := hD
          have hK9 := hK
          exact W.iret (v := (-1)) hx hb hr (hlocks := hlocks) (fun t ht hW => ⟨⟨(-1), (m_nodes, m_allMany, fm, fl, fe, vv, vn, av, an, nl, nr, m_partMany, gp), rfl, ⟨s4, q0⟩, by rw [ht]; exact hP9, va_K.moved hW.alike hK9, hD9⟩, hS.F ht⟩) hS.2.2 dX5_lost_22
  · have w_1 : (p0.toInt < -32768 ∨ 32767 < p0.toInt) := w_1
    refine lv_if_eq (tgt := 21) hx hb dX5_lost_9 (by decide) (fun c_24 => ?_) (fun c_24 => ?_)
    · refine lv_iconst (v := (-1)) hx hb dX5_lost_21 (by decide) ?_
      have hP9 := hP
      have hD9 := hD
      have hK9 := hK
      exact W.iret (v := (-1)) hx hb hr (hlocks := hlocks) (fun t ht hW => ⟨⟨(-1), (m_nodes, m_allMany, fm, fl, fe, vv, vn, av, an, nl, nr, m_partMany, gp), rfl, ⟨s4, q0⟩, by rw [ht]; exact hP9, va_K.moved hW.alike hK9, hD9⟩, hS.F ht⟩) hS.2.2 dX5_lost_22
    · exact absurd c_24 (by decide)

set_option maxHeartbeats 4000000 in
set_option maxRecDepth 100000 in
theorem c_X5_surely (l : Launch) (dC : Nat → ClassId) (dI : Nat → Nat → Nat) (h0 : Nat) (g_row : Nat) (g_many : Nat) (g_loss : Nat) (g_less : Nat) (g_voteValue : Nat) (g_voteNumber : Nat) (g_allValue : Nat) (g_allNumber : Nat) (g_nodeL : Nat) (g_nodeR : Nat) (g_part : Nat) (g_wasMany : Nat) (g_wasLoss : Nat) (g_wasValue : Nat) (g_wasNumber : Nat) (g_path : Nat) (g_heavyValue : Nat) (g_heavyTimes : Nat) (g_fewest : Nat) (g_which : Nat) (g_met : Nat) (m_n : Int32) (m_slots : Int32) (m_thrown : Int32) (m_allMany : Int32) (m_nodes : Int32) (m_partMany : Int32) (m_pathMany : Int32) (m_heavyMany : Int32) (m_mostMet : Int32) (cyI : ClassId) (fm : Nat → Int32) (fl : Nat → Int32) (fe : Nat → Int32) (vv : Nat → Int32) (vn : Nat → Int32) (f : Nat → Int32) (av : Nat → Int32) (an : Nat → Int32) (nl : Nat → Int32) (nr : Nat → Int32) (gp : Nat → Int32) (p0 : Int32) (p1 : Int32) (sz : Nat) (a0 : 0 ≤ m_n.toInt) (a1 : m_n.toInt ≤ 160) (sl0 : 1 ≤ m_slots.toInt) (sl1 : m_slots.toInt ≤ 6) (s4 : six4 fm) (q0 : parts320 gp) : kx_MQ l (dC, dI) yX5_surely wsX5_surely ({ frames := 13, cells := 0, slots := 0, locals := 585 }) [.ref h0, .int p0, .int p1] [kx_5 h0 g_row m_n m_slots m_thrown g_many g_loss g_less g_voteValue g_voteNumber g_allValue g_allNumber m_allMany g_nodeL g_nodeR m_nodes g_part m_partMany g_wasMany g_wasLoss g_wasValue g_wasNumber g_path m_pathMany g_heavyValue g_heavyTimes m_heavyMany g_fewest g_which g_met m_mostMet, kx_a g_row cyI 160 f, kx_a g_many cyI 324 fm, kx_a g_loss cyI 324 fl, kx_a g_less cyI 324 fe, kx_a g_voteValue cyI 1944 vv, kx_a g_voteNumber cyI 1944 vn, kx_a g_allValue cyI 12 av, kx_a g_allNumber cyI 12 an, kx_a g_nodeL cyI 320 nl, kx_a g_nodeR cyI 320 nr, kx_a g_part cyI 320 gp] [(cyI, .int)] sz (fun A => va_Qi (fun (r : Int32) (u : Int32 × Int32 × (Nat → Int32) × (Nat → Int32) × (Nat → Int32) × (Nat → Int32) × (Nat → Int32) × (Nat → Int32) × (Nat → Int32) × (Nat → Int32) × (Nat → Int32) × Int32 × (Nat → Int32)) => six4 u.2.2.1 ∧ parts320 u.2.2.2.2.2.2.2.2.2.2.2.2) (fun (u : Int32 × Int32 × (Nat → Int32) × (Nat → Int32) × (Nat → Int32) × (Nat → Int32) × (Nat → Int32) × (Nat → Int32) × (Nat → Int32) × (Nat → Int32) × (Nat → Int32) × Int32 × (Nat → Int32)) (t : State) => va_P (dC, dI) vwCl [kx_5 h0 g_row m_n m_slots 0 g_many g_loss g_less g_voteValue g_voteNumber g_allValue g_allNumber u.2.1 g_nodeL g_nodeR u.1 g_part u.2.2.2.2.2.2.2.2.2.2.2.1 g_wasMany g_wasLoss g_wasValue g_wasNumber g_path m_pathMany g_heavyValue g_heavyTimes m_heavyMany g_fewest g_which g_met m_mostMet, kx_a g_row cyI 160 f, kx_a g_many cyI 324 u.2.2.1, kx_a g_loss cyI 324 u.2.2.2.1, kx_a g_less cyI 324 u.2.2.2.2.1, kx_a g_voteValue cyI 1944 u.2.2.2.2.2.1, kx_a g_voteNumber cyI 1944 u.2.2.2.2.2.2.1, kx_a g_allValue cyI 12 u.2.2.2.2.2.2.2.1, kx_a g_allNumber cyI 12 u.2.2.2.2.2.2.2.2.1, kx_a g_nodeL cyI 320 u.2.2.2.2.2.2.2.2.2.1, kx_a g_nodeR cyI 320 u.2.2.2.2.2.2.2.2.2.2.1, kx_a g_part cyI 320 u.2.2.2.2.2.2.2.2.2.2.2.2] t.heap ∧ va_K (dC, dI) vwCl [(cyI, .int)] t ∧ va_D A [kx_5 h0 g_row m_n m_slots 0 g_many g_loss g_less g_voteValue g_voteNumber g_allValue g_allNumber u.2.1 g_nodeL g_nodeR u.1 g_part u.2.2.2.2.2.2.2.2.2.2.2.1 g_wasMany g_wasLoss g_wasValue g_wasNumber g_path m_pathMany g_heavyValue g_heavyTimes m_heavyMany g_fewest g_which g_met m_mostMet, kx_a g_row cyI 160 f, kx_a g_many cyI 324 u.2.2.1, kx_a g_loss cyI 324 u.2.2.2.1, kx_a g_less cyI 324 u.2.2.2.2.1, kx_a g_voteValue cyI 1944 u.2.2.2.2.2.1, kx_a g_voteNumber cyI 1944 u.2.2.2.2.2.2.1, kx_a g_allValue cyI 12 u.2.2.2.2.2.2.2.1, kx_a g_allNumber cyI 12 u.2.2.2.2.2.2.2.2.1, kx_a g_nodeL cyI 320 u.2.2.2.2.2.2.2.2.2.1, kx_a g_nodeR cyI 320 u.2.2.2.2.2.2.2.2.2.2.1, kx_a g_part cyI 320 u.2.2.2.2.2.2.2.2.2.2.2.2]) A) := by
  refine kx_stQ (ws := wsX5_surely) (cc := cX5_surely) (maxL := 5) (ret := (some .int)) (by decide) rfl (Nat.le_of_ble_eq_true rfl) ?_
  intro p e s m below meth c A ls hx hb hr hlocks hts hown hml hA hS hP hK hD hl
  have hown : s.vm.findClass RX5 = some m.cls := hown
  have hl : lv_has ls 5 [(0, .ref h0), (1, .int p0), (2, .int p1)] := hl
  have hf_77 := hts (.fieldLink RX5 77 "MajorityIndexModel" "thrown" "I") (List.mem_of_getElem? (i := 1) rfl)
  have hi_5 : ∀ w ∈ u_ws RX5 TX5 30, w ∈ wsX5_surely := fun w h => List.mem_cons_of_mem _ (List.mem_append_right _ h)
  have hf_17 := hts (.fieldLink RX5 17 "MajorityIndexModel" "many" "[I") (List.mem_of_getElem? (i := 3) rfl)
  have hf_29 := hts (.fieldLink RX5 29 "MajorityIndexModel" "voteNumber" "[I") (List.mem_of_getElem? (i := 4) rfl)
  have hf_20 := hts (.fieldLink RX5 20 "MajorityIndexModel" "loss" "[I") (List.mem_of_getElem? (i := 5) rfl)
  have hk_148 := hts (.constant RX5 148 (-40000)) (List.mem_of_getElem? (i := 2) rfl)
  have hf_26 := hts (.fieldLink RX5 26 "MajorityIndexModel" "voteValue" "[I") (List.mem_of_getElem? (i := 6) rfl)
  refine lv_aload_n hx hb dX5_surely_0 rfl (lv_at hl 0 rfl) ?_
  refine lv_iconst (v := 0) hx hb dX5_surely_1 (by decide) ?_
  refine va_put (D := (dC, dI)) (ci := 5) (v := .int 0) (ty := .int) (C := RX5) (T := TX5) (N := 30) hx hb hts hi_5 tyX5 tyX5_ok nmX5 hown hK hP hD hS 0 rfl rfl 3 (by decide) hf_77 (fun _ h9 => h9) rfl (by decide +kernel) rfl rfl (Nat.le_of_ble_eq_true rfl) dX5_surely_2 (fun H locs hP hD hS => ?_)
  obtain ⟨hP, hD⟩ := kx_re (w2 := [kx_5 h0 g_row m_n m_slots 0 g_many g_loss g_less g_voteValue g_voteNumber g_allValue g_allNumber m_allMany g_nodeL g_nodeR m_nodes g_part m_partMany g_wasMany g_wasLoss g_wasValue g_wasNumber g_path m_pathMany g_heavyValue g_heavyTimes m_heavyMany g_fewest g_which g_met m_mostMet, kx_a g_row cyI 160 f, kx_a g_many cyI 324 fm, kx_a g_loss cyI 324 fl, kx_a g_less cyI 324 fe, kx_a g_voteValue cyI 1944 vv, kx_a g_voteNumber cyI 1944 vn, kx_a g_allValue cyI 12 av, kx_a g_allNumber cyI 12 an, kx_a g_nodeL cyI 320 nl, kx_a g_nodeR cyI 320 nr, kx_a g_part cyI 320 gp]) hP hD rfl
  refine lv_aload_n hx hb dX5_surely_5 rfl (lv_at hl 0 rfl) ?_
  refine lv_iload_n hx hb dX5_surely_6 rfl (lv_at hl 1 rfl) ?_
  refine lv_iload_n hx hb dX5_surely_7 rfl (lv_at hl 2 rfl) ?_
  have hPc := hP.sub (ws' := [kx_5 h0 g_row m_n m_slots 0 g_many g_loss g_less g_voteValue g_voteNumber g_allValue g_allNumber m_allMany g_nodeL g_nodeR m_nodes g_part m_partMany g_wasMany g_wasLoss g_wasValue g_wasNumber g_path m_pathMany g_heavyValue g_heavyTimes m_heavyMany g_fewest g_which g_met m_mostMet]) [0] rfl
  have hKc := hK.sub (tys' := []) [] rfl
  refine vp_callSi (W.runV (As := [.int p0, .int p1]) (rest := []) ⟨hx, hb, hml, hown, hts⟩ (c_X5_isRange l dC dI h0 g_row g_many g_loss g_less g_voteValue g_voteNumber g_allValue g_allNumber g_nodeL g_nodeR g_part g_wasMany g_wasLoss g_wasValue g_wasNumber g_path g_heavyValue g_heavyTimes g_fewest g_which g_met m_n m_slots 0 m_allMany m_nodes m_partMany m_pathMany m_heavyMany m_mostMet p0 p1) (cwV 2 hts gX5_surely_X5_isRange rfl rfl rfl (by decide +kernel) ⟨Nat.le_of_ble_eq_true rfl, Nat.le_of_ble_eq_true rfl⟩) ⟨fun a U g mk q => by obtain ⟨q0, qP, qK⟩ := q; exact ⟨q0, qP, va_K.moved (u := U) (U := U.calling g mk a) (Vm.Alike.refl U.vm) qK⟩, kx_rc5 hKc hPc (q0 := 0) rfl, fun U hU hW => ⟨rfl, by rw [hU]; exact hPc, va_K.moved hW.alike hKc⟩⟩ rfl rfl hl.1 rfl (lv_room (Nat.le_of_ble_eq_true rfl)) dX5_surely_8 ⟨Nat.le_of_ble_eq_true rfl, Nat.le_of_ble_eq_true rfl⟩) (fun r_1 w_1 => ?_)
  rcases w_1 with ⟨rfl, w_1⟩ | ⟨rfl, w_1⟩
  · have w_1 : (0 ≤ p0.toInt ∧ p0.toInt < p1.toInt ∧ p1.toInt ≤ m_n.toInt) := w_1
    refine lv_if_ne (tgt := 17) hx hb dX5_surely_11 (by decide) (fun c_2 => ?_) (fun c_2 => ?_)
    · refine lv_aload_n hx hb dX5_surely_17 rfl (lv_at hl 0 rfl) ?_
      refine lv_iload_n hx hb dX5_surely_18 rfl (lv_at hl 1 rfl) ?_
      refine lv_iload_n hx hb dX5_surely_19 rfl (lv_at hl 2 rfl) ?_
      have hPc := hP
      have hKc := hK
      have hDc := hD
      have hFc := kx_free hD hS hA
      refine va_callv (va_runV (As := [.int p0, .int p1]) (rest := []) ⟨hx, hb, hml, hown, hts⟩ (kx_un (c_X5_sums l dC dI h0 g_row g_many g_loss g_less g_voteValue g_voteNumber g_allValue g_allNumber g_nodeL g_nodeR g_part g_wasMany g_wasLoss g_wasValue g_wasNumber g_path g_heavyValue g_heavyTimes g_fewest g_which g_met m_n m_slots 0 m_allMany m_nodes m_partMany m_pathMany m_heavyMany m_mostMet cyI fm fl fe vv vn f av an nl nr gp p0 p1 H.size a0 a1 sl0 sl1 s4 q0 (om_10 w_1.1) (om_11 w_1.2.1) (om_9 w_1.2.2))) (cwV 2 hts gX5_surely_X5_sums rfl rfl rfl (by decide +kernel) ⟨Nat.le_of_ble_eq_true rfl, Nat.le_of_ble_eq_true rfl⟩) ⟨fun a U g mk q => by obtain ⟨q0, q1, qP, qK, qD⟩ := q; exact ⟨q0, q1, qP, va_K.moved (u := U) (U := U.calling g mk a) (Vm.Alike.refl U.vm) qK, qD⟩, kx_rc5 hKc hPc (q0 := 0) rfl, fun U hU hW => ⟨rfl, by rw [hU], by rw [hU]; exact hPc, va_K.moved hW.alike hKc, hDc.weaken (fun _ _ _ _ => trivial)⟩⟩ rfl rfl hl.1 rfl (lv_room (Nat.le_of_ble_eq_true rfl)) dX5_surely_20 ⟨Nat.le_of_ble_eq_true rfl, Nat.le_of_ble_eq_true rfl⟩) hS (fun q _ h => hFc q h) hFc (fun u t H1 locs ht hvm w_3 hB hz1 hk1 hS => ?_)
      obtain ⟨o_4, o_5, o_6, o_7, o_8, o_9, o_10, o_11, o_12, o_13, o_14, o_15, o_16⟩ := u
      dsimp only at w_3 hB
      obtain ⟨hP1, hK1, hD1⟩ := hB
      rw [ht] at hP1
      have hK1 := va_K.moved hvm.symm hK1
      have hD := hD1.weaken (fun _ q _ h => hFc q.1 h)
      have hP := hP1
      clear hP1 hD1 hK1 hk1 hz1 hFc hDc hPc hKc
      generalize H1 = H at hP hS ⊢
      have w_3 : six4 o_6 ∧ parts320 o_16 ∧ mj_L m_slots.toNatClampNeg f o_13 o_14 o_6 o_7 o_8 o_9 o_10 m_n.toInt o_4.toInt ∧ 0 ≤ o_4.toInt ∧ o_4.toInt ≤ 319 ∧ mj_F m_slots.toNatClampNeg o_13 o_14 o_6 o_7 o_9 o_10 o_6 o_7 o_9 o_10 p0.toInt p1.toInt (mj_pq o_13 o_14 p0.toInt p1.toInt o_4.toNatClampNeg) := w_3
      refine lv_aload_n hx hb dX5_surely_23 rfl (lv_at hl 0 rfl) ?_
      refine va_get (D := (dC, dI)) (ci := 5) (v := .ref g_many) (C := RX5) (T := TX5) (N := 30) hx hb hts hi_5 hown hK hP 0 rfl rfl 4 (by decide) hf_17 (fun _ h9 => h9) rfl dX5_surely_24 ?_
      refine lv_sipush (v := 320) hx hb dX5_surely_27 (by decide) ?_
      refine va_iald hx hb hK hP 2 0 rfl rfl (ki_inl (by decide)) dX5_surely_30 ?_
      refine lv_topi (fun y_17 ey_17 => ?_)
      have j_17 : y_17.toInt = (o_6 (320 : Int32).toNatClampNeg).toInt := congrArg Int32.toInt ey_17
      have n_18 : ((320 : Int32).toNatClampNeg : Int) = 320 := ki_nat _ rfl om_375
      have i_19 := w_3.1 (320 : Int32).toNatClampNeg (om_ln n_18 om_393)
      refine lv_if_ne (tgt := 37) hx hb dX5_surely_31 (by decide) (fun c_20 => ?_) (fun c_20 => ?_)
      · have i_20 : ¬ y_17.toInt = 0 := kc_ne c_20
        refine lv_aload_n hx hb dX5_surely_37 rfl (lv_at hl 0 rfl) ?_
        refine va_get (D := (dC, dI)) (ci := 5) (v := .ref g_voteNumber) (C := RX5) (T := TX5) (N := 30) hx hb hts hi_5 hown hK hP 0 rfl rfl 8 (by decide) hf_29 (fun _ h9 => h9) rfl dX5_surely_38 ?_
        refine lv_sipush (v := 1920) hx hb dX5_surely_41 (by decide) ?_
        refine va_iald hx hb hK hP 6 0 rfl rfl (ki_inl (by decide)) dX5_surely_44 ?_
        refine lv_topi (fun y_21 ey_21 => ?_)
        have j_21 : y_21.toInt = (o_10 (1920 : Int32).toNatClampNeg).toInt := congrArg Int32.toInt ey_21
        refine lv_istore_n (lv' := [(3, .int y_21), (0, .ref h0), (1, .int p0), (2, .int p1)]) hx hb dX5_surely_45 rfl hl (by decide) rfl (fun ls hl => ?_)
        refine lv_aload_n hx hb dX5_surely_46 rfl (lv_at hl 1 rfl) ?_
        refine va_get (D := (dC, dI)) (ci := 5) (v := .ref g_many) (C := RX5) (T := TX5) (N := 30) hx hb hts hi_5 hown hK hP 0 rfl rfl 4 (by decide) hf_17 (fun _ h9 => h9) rfl dX5_surely_47 ?_
        refine lv_sipush (v := 320) hx hb dX5_surely_50 (by decide) ?_
        refine va_iald hx hb hK hP 2 0 rfl rfl (ki_inl (by decide)) dX5_surely_53 ?_
        refine lv_topi (fun y_22 ey_22 => ?_)
        have j_22 : y_22.toInt = (o_6 (320 : Int32).toNatClampNeg).toInt := congrArg Int32.toInt ey_22
        have n_23 : ((320 : Int32).toNatClampNeg : Int) = 320 := ki_nat _ rfl om_375
        have i_24 := w_3.1 (320 : Int32).toNatClampNeg (om_ln n_23 om_393)
        refine lv_iconst (v := 1) hx hb dX5_surely_54 (by decide) ?_
        refine lv_icmp_le (tgt := 69) hx hb dX5_surely_55 (by decide) (fun c_25 => ?_) (fun c_25 => ?_)
        · have i_25 : y_22.toInt ≤ 1 := kc_le c_25
          refine lv_iconst (v := 0) hx hb dX5_surely_69 (by decide) ?_
          refine lv_istore (lv' := [(4, .int 0), (3, .int y_21), (0, .ref h0), (1, .int p0), (2, .int p1)]) hx hb dX5_surely_70 hl (by decide) rfl (fun ls hl => ?_)
          refine lv_iload_n hx hb dX5_surely_72 rfl (lv_at hl 1 rfl) ?_
          refine lv_iload hx hb dX5_surely_73 (lv_at hl 0 rfl) ?_
          refine lv_aload_n hx hb dX5_surely_75 rfl (lv_at hl 2 rfl) ?_
          refine va_get (D := (dC, dI)) (ci := 5) (v := .ref g_loss) (C := RX5) (T := TX5) (N := 30) hx hb hts hi_5 hown hK hP 0 rfl rfl 5 (by decide) hf_20 (fun _ h9 => h9) rfl dX5_surely_76 ?_
          refine lv_sipush (v := 320) hx hb dX5_surely_79 (by decide) ?_
          refine va_iald hx hb hK hP 3 0 rfl rfl (ki_inl (by decide)) dX5_surely_82 ?_
          refine lv_topi (fun y_26 ey_26 => ?_)
          have j_26 : y_26.toInt = (o_7 (320 : Int32).toNatClampNeg).toInt := congrArg Int32.toInt ey_26
          refine lv_iadd hx hb dX5_surely_83 ?_
          refine lv_topi (fun y_27 ey_27 => ?_)
          refine lv_icmp_le (tgt := 98) hx hb dX5_surely_84 (by decide) (fun c_28 => ?_) (fun c_28 => ?_)
          · have i_28 : y_21.toInt ≤ y_27.toInt := kc_le c_28
            refine lv_ldc (v := (-40000)) hx hb hown hk_148 dX5_surely_98 ?_
            have hP9 := hP
            have hD9 := hD
            have hK9 := hK
            exact W.iret (v := (-40000)) hx hb hr (hlocks := hlocks) (fun t ht hW => ⟨⟨(-40000), (o_4, o_5, o_6, o_7, o_8, o_9, o_10, o_11, o_12, o_13, o_14, o_15, o_16), rfl, ⟨w_3.1, w_3.2.1⟩, by rw [ht]; exact hP9, va_K.moved hW.alike hK9, hD9⟩, hS.F ht⟩) hS.2.2 dX5_surely_100
          · have i_28 : y_27.toInt < y_21.toInt := kc_nle c_28
            refine lv_aload_n hx hb dX5_surely_87 rfl (lv_at hl 2 rfl) ?_
            refine va_get (D := (dC, dI)) (ci := 5) (v := .ref g_voteValue) (C := RX5) (T := TX5) (N := 30) hx hb hts hi_5 hown hK hP 0 rfl rfl 7 (by decide) hf_26 (fun _ h9 => h9) rfl dX5_surely_88 ?_
            refine lv_sipush (v := 1920) hx hb dX5_surely_91 (by decide) ?_
            refine va_iald hx hb hK hP 5 0 rfl rfl (ki_inl (by decide)) dX5_surely_94 ?_
            refine lv_topi (fun y_29 ey_29 => ?_)
            have j_29 : y_29.toInt = (o_9 (1920 : Int32).toNatClampNeg).toInt := congrArg Int32.toInt ey_29
            refine lv_goto (tgt := 100) hx hb dX5_surely_95 (by decide) ?_
            have hP9 := hP
            have hD9 := hD
            have hK9 := hK
            exact W.iret (v := y_29) hx hb hr (hlocks := hlocks) (fun t ht hW => ⟨⟨y_29, (o_4, o_5, o_6, o_7, o_8, o_9, o_10, o_11, o_12, o_13, o_14, o_15, o_16), rfl, ⟨w_3.1, w_3.2.1⟩, by rw [ht]; exact hP9, va_K.moved hW.alike hK9, hD9⟩, hS.F ht⟩) hS.2.2 dX5_surely_100
        · have i_25 : 1 < y_22.toInt := kc_nle c_25
          refine lv_aload_n hx hb dX5_surely_58 rfl (lv_at hl 1 rfl) ?_
          refine va_get (D := (dC, dI)) (ci := 5) (v := .ref g_voteNumber) (C := RX5) (T := TX5) (N := 30) hx hb hts hi_5 hown hK hP 0 rfl rfl 8 (by decide) hf_29 (fun _ h9 => h9) rfl dX5_surely_59 ?_
          refine lv_sipush (v := 1921) hx hb dX5_surely_62 (by decide) ?_
          refine va_iald hx hb hK hP 6 0 rfl rfl (ki_inl (by decide)) dX5_surely_65 ?_
          refine lv_topi (fun y_30 ey_30 => ?_)
          have j_30 : y_30.toInt = (o_10 (1921 : Int32).toNatClampNeg).toInt := congrArg Int32.toInt ey_30
          refine lv_goto (tgt := 70) hx hb dX5_surely_66 (by decide) ?_
          refine lv_istore (lv' := [(4, .int y_30), (3, .int y_21), (0, .ref h0), (1, .int p0), (2, .int p1)]) hx hb dX5_surely_70 hl (by decide) rfl (fun ls hl => ?_)
          refine lv_iload_n hx hb dX5_surely_72 rfl (lv_at hl 1 rfl) ?_
          refine lv_iload hx hb dX5_surely_73 (lv_at hl 0 rfl) ?_
          refine lv_aload_n hx hb dX5_surely_75 rfl (lv_at hl 2 rfl) ?_
          refine va_get (D := (dC, dI)) (ci := 5) (v := .ref g_loss) (C := RX5) (T := TX5) (N := 30) hx hb hts hi_5 hown hK hP 0 rfl rfl 5 (by decide) hf_20 (fun _ h9 => h9) rfl dX5_surely_76 ?_
          refine lv_sipush (v := 320) hx hb dX5_surely_79 (by decide) ?_
          refine va_iald hx hb hK hP 3 0 rfl rfl (ki_inl (by decide)) dX5_surely_82 ?_
          refine lv_topi (fun y_31 ey_31 => ?_)
          have j_31 : y_31.toInt = (o_7 (320 : Int32).toNatClampNeg).toInt := congrArg Int32.toInt ey_31
          refine lv_iadd hx hb dX5_surely_83 ?_
          refine lv_topi (fun y_32 ey_32 => ?_)
          refine lv_icmp_le (tgt := 98) hx hb dX5_surely_84 (by decide) (fun c_33 => ?_) (fun c_33 => ?_)
          · have i_33 : y_21.toInt ≤ y_32.toInt := kc_le c_33
            refine lv_ldc (v := (-40000)) hx hb hown hk_148 dX5_surely_98 ?_
            have hP9 := hP
            have hD9 := hD
            have hK9 := hK
            exact W.iret (v := (-40000)) hx hb hr (hlocks := hlocks) (fun t ht hW => ⟨⟨(-40000), (o_4, o_5, o_6, o_7, o_8, o_9, o_10, o_11, o_12, o_13, o_14, o_15, o_16), rfl, ⟨w_3.1, w_3.2.1⟩, by rw [ht]; exact hP9, va_K.moved hW.alike hK9, hD9⟩, hS.F ht⟩) hS.2.2 dX5_surely_100
          · have i_33 : y_32.toInt < y_21.toInt := kc_nle c_33
            refine lv_aload_n hx hb dX5_surely_87 rfl (lv_at hl 2 rfl) ?_
            refine va_get (D := (dC, dI)) (ci := 5) (v := .ref g_voteValue) (C := RX5) (T := TX5) (N := 30) hx hb hts hi_5 hown hK hP 0 rfl rfl 7 (by decide) hf_26 (fun _ h9 => h9) rfl dX5_surely_88 ?_
            refine lv_sipush (v := 1920) hx hb dX5_surely_91 (by decide) ?_
            refine va_iald hx hb hK hP 5 0 rfl rfl (ki_inl (by decide)) dX5_surely_94 ?_
            refine lv_topi (fun y_34 ey_34 => ?_)
            have j_34 : y_34.toInt = (o_9 (1920 : Int32).toNatClampNeg).toInt := congrArg Int32.toInt ey_34
            refine lv_goto (tgt := 100) hx hb dX5_surely_95 (by decide) ?_
            have hP9 := hP
            have hD9 := hD
            have hK9 := hK
            exact W.iret (v := y_34) hx hb hr (hlocks := hlocks) (fun t ht hW => ⟨⟨y_34, (o_4, o_5, o_6, o_7, o_8, o_9, o_10, o_11, o_12, o_13, o_14, o_15, o_16), rfl, ⟨w_3.1, w_3.2.1⟩, by rw [ht]; exact hP9, va_K.moved hW.alike hK9, hD9⟩, hS.F ht⟩) hS.2.2 dX5_surely_100
      · have i_20 : y_17.toInt = 0 := kc_eq c_20
        refine lv_ldc (v := (-40000)) hx hb hown hk_148 dX5_surely_34 ?_
        have hP9 := hP
        have hD9 := hD
        have hK9 := hK
        exact W.iret (v := (-40000)) hx hb hr (hlocks := hlocks) (fun t ht hW => ⟨⟨(-40000), (o_4, o_5, o_6, o_7, o_8, o_9, o_10, o_11, o_12, o_13, o_14, o_15, o_16), rfl, ⟨w_3.1, w_3.2.1⟩, by rw [ht]; exact hP9, va_K.moved hW.alike hK9, hD9⟩, hS.F ht⟩) hS.2.2 dX5_surely_36
    · exact absurd c_2 (by decide)
  · have w_1 : (p0.toInt < 0 ∨ p1.toInt ≤ p0.toInt ∨ m_n.toInt < p1.toInt) := w_1
    refine lv_if_ne (tgt := 17) hx hb dX5_surely_11 (by decide) (fun c_35 => ?_) (fun c_35 => ?_)
    · exact absurd c_35 (by decide)
    · refine lv_ldc (v := (-40000)) hx hb hown hk_148 dX5_surely_14 ?_
      have hP9 := hP
      have hD9 := hD
      have hK9 := hK
      exact W.iret (v := (-40000)) hx hb hr (hlocks := hlocks) (fun t ht hW => ⟨⟨(-40000), (m_nodes, m_allMany, fm, fl, fe, vv, vn, av, an, nl, nr, m_partMany, gp), rfl, ⟨s4, q0⟩, by rw [ht]; exact hP9, va_K.moved hW.alike hK9, hD9⟩, hS.F ht⟩) hS.2.2 dX5_surely_16

set_option maxHeartbeats 4000000 in
set_option maxRecDepth 100000 in
theorem c_X5_failed (l : Launch) (dC : Nat → ClassId) (dI : Nat → Nat → Nat) (h0 : Nat) (g_row : Nat) (g_many : Nat) (g_loss : Nat) (g_less : Nat) (g_voteValue : Nat) (g_voteNumber : Nat) (g_allValue : Nat) (g_allNumber : Nat) (g_nodeL : Nat) (g_nodeR : Nat) (g_part : Nat) (g_wasMany : Nat) (g_wasLoss : Nat) (g_wasValue : Nat) (g_wasNumber : Nat) (g_path : Nat) (g_heavyValue : Nat) (g_heavyTimes : Nat) (g_fewest : Nat) (g_which : Nat) (g_met : Nat) (m_n : Int32) (m_slots : Int32) (m_thrown : Int32) (m_allMany : Int32) (m_nodes : Int32) (m_partMany : Int32) (m_pathMany : Int32) (m_heavyMany : Int32) (m_mostMet : Int32) (cyI : ClassId) (fm : Nat → Int32) (fl : Nat → Int32) (fe : Nat → Int32) (vv : Nat → Int32) (vn : Nat → Int32) (f : Nat → Int32) (av : Nat → Int32) (an : Nat → Int32) (nl : Nat → Int32) (nr : Nat → Int32) (gp : Nat → Int32) (p0 : Int32) (p1 : Int32) (p2 : Int32) (p3 : Int32) (sz : Nat) (a0 : 0 ≤ m_n.toInt) (a1 : m_n.toInt ≤ 160) (sl0 : 1 ≤ m_slots.toInt) (sl1 : m_slots.toInt ≤ 6) (s4 : six4 fm) (q0 : parts320 gp) : kx_MQ l (dC, dI) yX5_failed wsX5_failed ({ frames := 13, cells := 0, slots := 0, locals := 585 }) [.ref h0, .int p0, .int p1, .int p2, .int p3] [kx_5 h0 g_row m_n m_slots m_thrown g_many g_loss g_less g_voteValue g_voteNumber g_allValue g_allNumber m_allMany g_nodeL g_nodeR m_nodes g_part m_partMany g_wasMany g_wasLoss g_wasValue g_wasNumber g_path m_pathMany g_heavyValue g_heavyTimes m_heavyMany g_fewest g_which g_met m_mostMet, kx_a g_row cyI 160 f, kx_a g_many cyI 324 fm, kx_a g_loss cyI 324 fl, kx_a g_less cyI 324 fe, kx_a g_voteValue cyI 1944 vv, kx_a g_voteNumber cyI 1944 vn, kx_a g_allValue cyI 12 av, kx_a g_allNumber cyI 12 an, kx_a g_nodeL cyI 320 nl, kx_a g_nodeR cyI 320 nr, kx_a g_part cyI 320 gp] [(cyI, .int)] sz (fun A => va_Qi (fun (r : Int32) (u : Int32 × Int32 × (Nat → Int32) × (Nat → Int32) × (Nat → Int32) × (Nat → Int32) × (Nat → Int32) × (Nat → Int32) × (Nat → Int32) × (Nat → Int32) × (Nat → Int32) × Int32 × (Nat → Int32)) => six4 u.2.2.1 ∧ parts320 u.2.2.2.2.2.2.2.2.2.2.2.2) (fun (u : Int32 × Int32 × (Nat → Int32) × (Nat → Int32) × (Nat → Int32) × (Nat → Int32) × (Nat → Int32) × (Nat → Int32) × (Nat → Int32) × (Nat → Int32) × (Nat → Int32) × Int32 × (Nat → Int32)) (t : State) => va_P (dC, dI) vwCl [kx_5 h0 g_row m_n m_slots 0 g_many g_loss g_less g_voteValue g_voteNumber g_allValue g_allNumber u.2.1 g_nodeL g_nodeR u.1 g_part u.2.2.2.2.2.2.2.2.2.2.2.1 g_wasMany g_wasLoss g_wasValue g_wasNumber g_path m_pathMany g_heavyValue g_heavyTimes m_heavyMany g_fewest g_which g_met m_mostMet, kx_a g_row cyI 160 f, kx_a g_many cyI 324 u.2.2.1, kx_a g_loss cyI 324 u.2.2.2.1, kx_a g_less cyI 324 u.2.2.2.2.1, kx_a g_voteValue cyI 1944 u.2.2.2.2.2.1, kx_a g_voteNumber cyI 1944 u.2.2.2.2.2.2.1, kx_a g_allValue cyI 12 u.2.2.2.2.2.2.2.1, kx_a g_allNumber cyI 12 u.2.2.2.2.2.2.2.2.1, kx_a g_nodeL cyI 320 u.2.2.2.2.2.2.2.2.2.1, kx_a g_nodeR cyI 320 u.2.2.2.2.2.2.2.2.2.2.1, kx_a g_part cyI 320 u.2.2.2.2.2.2.2.2.2.2.2.2] t.heap ∧ va_K (dC, dI) vwCl [(cyI, .int)] t ∧ va_D A [kx_5 h0 g_row m_n m_slots 0 g_many g_loss g_less g_voteValue g_voteNumber g_allValue g_allNumber u.2.1 g_nodeL g_nodeR u.1 g_part u.2.2.2.2.2.2.2.2.2.2.2.1 g_wasMany g_wasLoss g_wasValue g_wasNumber g_path m_pathMany g_heavyValue g_heavyTimes m_heavyMany g_fewest g_which g_met m_mostMet, kx_a g_row cyI 160 f, kx_a g_many cyI 324 u.2.2.1, kx_a g_loss cyI 324 u.2.2.2.1, kx_a g_less cyI 324 u.2.2.2.2.1, kx_a g_voteValue cyI 1944 u.2.2.2.2.2.1, kx_a g_voteNumber cyI 1944 u.2.2.2.2.2.2.1, kx_a g_allValue cyI 12 u.2.2.2.2.2.2.2.1, kx_a g_allNumber cyI 12 u.2.2.2.2.2.2.2.2.1, kx_a g_nodeL cyI 320 u.2.2.2.2.2.2.2.2.2.1, kx_a g_nodeR cyI 320 u.2.2.2.2.2.2.2.2.2.2.1, kx_a g_part cyI 320 u.2.2.2.2.2.2.2.2.2.2.2.2]) A) := by
  refine kx_stQ (ws := wsX5_failed) (cc := cX5_failed) (maxL := 7) (ret := (some .int)) (by decide) rfl (Nat.le_of_ble_eq_true rfl) ?_
  intro p e s m below meth c A ls hx hb hr hlocks hts hown hml hA hS hP hK hD hl
  have hown : s.vm.findClass RX5 = some m.cls := hown
  have hl : lv_has ls 7 [(0, .ref h0), (1, .int p0), (2, .int p1), (3, .int p2), (4, .int p3)] := hl
  have hf_77 := hts (.fieldLink RX5 77 "MajorityIndexModel" "thrown" "I") (List.mem_of_getElem? (i := 1) rfl)
  have hi_5 : ∀ w ∈ u_ws RX5 TX5 30, w ∈ wsX5_failed := fun w h => List.mem_cons_of_mem _ (List.mem_append_right _ h)
  have hf_17 := hts (.fieldLink RX5 17 "MajorityIndexModel" "many" "[I") (List.mem_of_getElem? (i := 2) rfl)
  have hf_26 := hts (.fieldLink RX5 26 "MajorityIndexModel" "voteValue" "[I") (List.mem_of_getElem? (i := 3) rfl)
  refine lv_aload_n hx hb dX5_failed_0 rfl (lv_at hl 0 rfl) ?_
  refine lv_iconst (v := 0) hx hb dX5_failed_1 (by decide) ?_
  refine va_put (D := (dC, dI)) (ci := 5) (v := .int 0) (ty := .int) (C := RX5) (T := TX5) (N := 30) hx hb hts hi_5 tyX5 tyX5_ok nmX5 hown hK hP hD hS 0 rfl rfl 3 (by decide) hf_77 (fun _ h9 => h9) rfl (by decide +kernel) rfl rfl (Nat.le_of_ble_eq_true rfl) dX5_failed_2 (fun H locs hP hD hS => ?_)
  obtain ⟨hP, hD⟩ := kx_re (w2 := [kx_5 h0 g_row m_n m_slots 0 g_many g_loss g_less g_voteValue g_voteNumber g_allValue g_allNumber m_allMany g_nodeL g_nodeR m_nodes g_part m_partMany g_wasMany g_wasLoss g_wasValue g_wasNumber g_path m_pathMany g_heavyValue g_heavyTimes m_heavyMany g_fewest g_which g_met m_mostMet, kx_a g_row cyI 160 f, kx_a g_many cyI 324 fm, kx_a g_loss cyI 324 fl, kx_a g_less cyI 324 fe, kx_a g_voteValue cyI 1944 vv, kx_a g_voteNumber cyI 1944 vn, kx_a g_allValue cyI 12 av, kx_a g_allNumber cyI 12 an, kx_a g_nodeL cyI 320 nl, kx_a g_nodeR cyI 320 nr, kx_a g_part cyI 320 gp]) hP hD rfl
  refine lv_aload_n hx hb dX5_failed_5 rfl (lv_at hl 0 rfl) ?_
  refine lv_iload_n hx hb dX5_failed_6 rfl (lv_at hl 1 rfl) ?_
  refine lv_iload_n hx hb dX5_failed_7 rfl (lv_at hl 2 rfl) ?_
  have hPc := hP.sub (ws' := [kx_5 h0 g_row m_n m_slots 0 g_many g_loss g_less g_voteValue g_voteNumber g_allValue g_allNumber m_allMany g_nodeL g_nodeR m_nodes g_part m_partMany g_wasMany g_wasLoss g_wasValue g_wasNumber g_path m_pathMany g_heavyValue g_heavyTimes m_heavyMany g_fewest g_which g_met m_mostMet]) [0] rfl
  have hKc := hK.sub (tys' := []) [] rfl
  refine vp_callSi (W.runV (As := [.int p0, .int p1]) (rest := []) ⟨hx, hb, hml, hown, hts⟩ (c_X5_isRange l dC dI h0 g_row g_many g_loss g_less g_voteValue g_voteNumber g_allValue g_allNumber g_nodeL g_nodeR g_part g_wasMany g_wasLoss g_wasValue g_wasNumber g_path g_heavyValue g_heavyTimes g_fewest g_which g_met m_n m_slots 0 m_allMany m_nodes m_partMany m_pathMany m_heavyMany m_mostMet p0 p1) (cwV 2 hts gX5_failed_X5_isRange rfl rfl rfl (by decide +kernel) ⟨Nat.le_of_ble_eq_true rfl, Nat.le_of_ble_eq_true rfl⟩) ⟨fun a U g mk q => by obtain ⟨q0, qP, qK⟩ := q; exact ⟨q0, qP, va_K.moved (u := U) (U := U.calling g mk a) (Vm.Alike.refl U.vm) qK⟩, kx_rc5 hKc hPc (q0 := 0) rfl, fun U hU hW => ⟨rfl, by rw [hU]; exact hPc, va_K.moved hW.alike hKc⟩⟩ rfl rfl hl.1 rfl (lv_room (Nat.le_of_ble_eq_true rfl)) dX5_failed_8 ⟨Nat.le_of_ble_eq_true rfl, Nat.le_of_ble_eq_true rfl⟩) (fun r_1 w_1 => ?_)
  rcases w_1 with ⟨rfl, w_1⟩ | ⟨rfl, w_1⟩
  · have w_1 : (0 ≤ p0.toInt ∧ p0.toInt < p1.toInt ∧ p1.toInt ≤ m_n.toInt) := w_1
    refine lv_if_eq (tgt := 23) hx hb dX5_failed_11 (by decide) (fun c_2 => ?_) (fun c_2 => ?_)
    · exact absurd c_2 (by decide)
    · refine lv_iload_n hx hb dX5_failed_14 rfl (lv_at hl 3 rfl) ?_
      refine lv_iload hx hb dX5_failed_15 (lv_at hl 4 rfl) ?_
      have hPc := hP.sub (ws' := []) [] rfl
      have hKc := hK.sub (tys' := []) [] rfl
      refine vp_callSi (W.runS (As := [.int p2, .int p3]) (rest := []) ⟨hx, hb, hml, hown, hts⟩ (c_X5_isShare l dC dI p2 p3) (va_cwS 2 hts gX5_failed_X5_isShare rfl rfl rfl (by decide +kernel) ⟨Nat.le_of_ble_eq_true rfl, Nat.le_of_ble_eq_true rfl⟩) ⟨fun a U g mk q => by obtain ⟨q0, qP, qK⟩ := q; exact ⟨q0, qP, va_K.moved (u := U) (U := U.calling g mk a) (Vm.Alike.refl U.vm) qK⟩, fun U hU hW => ⟨rfl, by rw [hU]; exact hPc, va_K.moved hW.alike hKc⟩⟩ rfl rfl hl.1 rfl (lv_room (Nat.le_of_ble_eq_true rfl)) dX5_failed_17 ⟨Nat.le_of_ble_eq_true rfl, Nat.le_of_ble_eq_true rfl⟩) (fun r_3 w_3 => ?_)
      rcases w_3 with ⟨rfl, w_3⟩ | ⟨rfl, w_3⟩
      · have w_3 : (1 ≤ p2.toInt ∧ p2.toInt ≤ p3.toInt ∧ p3.toInt ≤ 999) := w_3
        refine lv_if_ne (tgt := 25) hx hb dX5_failed_20 (by decide) (fun c_4 => ?_) (fun c_4 => ?_)
        · refine lv_aload_n hx hb dX5_failed_25 rfl (lv_at hl 0 rfl) ?_
          refine lv_iload_n hx hb dX5_failed_26 rfl (lv_at hl 3 rfl) ?_
          refine lv_iload hx hb dX5_failed_27 (lv_at hl 4 rfl) ?_
          have hPc := hP.sub (ws' := [kx_5 h0 g_row m_n m_slots 0 g_many g_loss g_less g_voteValue g_voteNumber g_allValue g_allNumber m_allMany g_nodeL g_nodeR m_nodes g_part m_partMany g_wasMany g_wasLoss g_wasValue g_wasNumber g_path m_pathMany g_heavyValue g_heavyTimes m_heavyMany g_fewest g_which g_met m_mostMet]) [0] rfl
          have hKc := hK.sub (tys' := []) [] rfl
          refine vp_callSi (W.runV (As := [.int p2, .int p3]) (rest := []) ⟨hx, hb, hml, hown, hts⟩ (c_X5_isEnough l dC dI h0 g_row g_many g_loss g_less g_voteValue g_voteNumber g_allValue g_allNumber g_nodeL g_nodeR g_part g_wasMany g_wasLoss g_wasValue g_wasNumber g_path g_heavyValue g_heavyTimes g_fewest g_which g_met m_n m_slots 0 m_allMany m_nodes m_partMany m_pathMany m_heavyMany m_mostMet p2 p3) (cwV 2 hts gX5_failed_X5_isEnough rfl rfl rfl (by decide +kernel) ⟨Nat.le_of_ble_eq_true rfl, Nat.le_of_ble_eq_true rfl⟩) ⟨fun a U g mk q => by obtain ⟨q0, qP, qK⟩ := q; exact ⟨q0, qP, va_K.moved (u := U) (U := U.calling g mk a) (Vm.Alike.refl U.vm) qK⟩, kx_rc5 hKc hPc (q0 := 0) rfl, fun U hU hW => ⟨rfl, by rw [hU]; exact hPc, va_K.moved hW.alike hKc⟩⟩ rfl rfl hl.1 rfl (lv_room (Nat.le_of_ble_eq_true rfl)) dX5_failed_29 ⟨Nat.le_of_ble_eq_true rfl, Nat.le_of_ble_eq_true rfl⟩) (fun r_5 w_5 => ?_)
          rcases w_5 with ⟨rfl, w_5⟩ | ⟨rfl, w_5⟩
          · have w_5 : (0 : Int) ≤ 1 := w_5
            refine lv_if_ne (tgt := 38) hx hb dX5_failed_32 (by decide) (fun c_6 => ?_) (fun c_6 => ?_)
            · refine lv_aload_n hx hb dX5_failed_38 rfl (lv_at hl 0 rfl) ?_
              refine lv_iload_n hx hb dX5_failed_39 rfl (lv_at hl 1 rfl) ?_
              refine lv_iload_n hx hb dX5_failed_40 rfl (lv_at hl 2 rfl) ?_
              have hPc := hP
              have hKc := hK
              have hDc := hD
              have hFc := kx_free hD hS hA
              refine va_callv (va_runV (As := [.int p0, .int p1]) (rest := []) ⟨hx, hb, hml, hown, hts⟩ (kx_un (c_X5_sums l dC dI h0 g_row g_many g_loss g_less g_voteValue g_voteNumber g_allValue g_allNumber g_nodeL g_nodeR g_part g_wasMany g_wasLoss g_wasValue g_wasNumber g_path g_heavyValue g_heavyTimes g_fewest g_which g_met m_n m_slots 0 m_allMany m_nodes m_partMany m_pathMany m_heavyMany m_mostMet cyI fm fl fe vv vn f av an nl nr gp p0 p1 H.size a0 a1 sl0 sl1 s4 q0 (om_10 w_1.1) (om_11 w_1.2.1) (om_9 w_1.2.2))) (cwV 2 hts gX5_failed_X5_sums rfl rfl rfl (by decide +kernel) ⟨Nat.le_of_ble_eq_true rfl, Nat.le_of_ble_eq_true rfl⟩) ⟨fun a U g mk q => by obtain ⟨q0, q1, qP, qK, qD⟩ := q; exact ⟨q0, q1, qP, va_K.moved (u := U) (U := U.calling g mk a) (Vm.Alike.refl U.vm) qK, qD⟩, kx_rc5 hKc hPc (q0 := 0) rfl, fun U hU hW => ⟨rfl, by rw [hU], by rw [hU]; exact hPc, va_K.moved hW.alike hKc, hDc.weaken (fun _ _ _ _ => trivial)⟩⟩ rfl rfl hl.1 rfl (lv_room (Nat.le_of_ble_eq_true rfl)) dX5_failed_41 ⟨Nat.le_of_ble_eq_true rfl, Nat.le_of_ble_eq_true rfl⟩) hS (fun q _ h => hFc q h) hFc (fun u t H1 locs ht hvm w_7 hB hz1 hk1 hS => ?_)
              obtain ⟨o_8, o_9, o_10, o_11, o_12, o_13, o_14, o_15, o_16, o_17, o_18, o_19, o_20⟩ := u
              dsimp only at w_7 hB
              obtain ⟨hP1, hK1, hD1⟩ := hB
              rw [ht] at hP1
              have hK1 := va_K.moved hvm.symm hK1
              have hD := hD1.weaken (fun _ q _ h => hFc q.1 h)
              have hP := hP1
              clear hP1 hD1 hK1 hk1 hz1 hFc hDc hPc hKc
              generalize H1 = H at hP hS ⊢
              have w_7 : six4 o_10 ∧ parts320 o_20 ∧ mj_L m_slots.toNatClampNeg f o_17 o_18 o_10 o_11 o_12 o_13 o_14 m_n.toInt o_8.toInt ∧ 0 ≤ o_8.toInt ∧ o_8.toInt ≤ 319 ∧ mj_F m_slots.toNatClampNeg o_17 o_18 o_10 o_11 o_13 o_14 o_10 o_11 o_13 o_14 p0.toInt p1.toInt (mj_pq o_17 o_18 p0.toInt p1.toInt o_8.toNatClampNeg) := w_7
              refine lv_iconst (v := 0) hx hb dX5_failed_44 (by decide) ?_
              refine lv_istore (lv' := [(5, .int 0), (0, .ref h0), (1, .int p0), (2, .int p1), (3, .int p2), (4, .int p3)]) hx hb dX5_failed_45 hl (by decide) rfl (fun ls hl => ?_)
              refine lv_iconst (v := 0) hx hb dX5_failed_47 (by decide) ?_
              refine lv_istore (lv' := [(6, .int 0), (5, .int 0), (0, .ref h0), (1, .int p0), (2, .int p1), (3, .int p2), (4, .int p3)]) hx hb dX5_failed_48 hl (by decide) rfl (fun ls hl => ?_)
              have LP1 : ∀ (n : Nat) (i : Int32) (sm : Int32), (0 ≤ i.toInt) → (6 - i.toInt).toNat < n → ∀ (H : Heap) (locs : List Loc), va_P (dC, dI) vwCl [kx_5 h0 g_row m_n m_slots 0 g_many g_loss g_less g_voteValue g_voteNumber g_allValue g_allNumber o_9 g_nodeL g_nodeR o_8 g_part o_19 g_wasMany g_wasLoss g_wasValue g_wasNumber g_path m_pathMany g_heavyValue g_heavyTimes m_heavyMany g_fewest g_which g_met m_mostMet, kx_a g_row cyI 160 f, kx_a g_many cyI 324 o_10, kx_a g_loss cyI 324 o_11, kx_a g_less cyI 324 o_12, kx_a g_voteValue cyI 1944 o_13, kx_a g_voteNumber cyI 1944 o_14, kx_a g_allValue cyI 12 o_15, kx_a g_allNumber cyI 12 o_16, kx_a g_nodeL cyI 320 o_17, kx_a g_nodeR cyI 320 o_18, kx_a g_part cyI 320 o_20] H → va_D A [kx_5 h0 g_row m_n m_slots 0 g_many g_loss g_less g_voteValue g_voteNumber g_allValue g_allNumber o_9 g_nodeL g_nodeR o_8 g_part o_19 g_wasMany g_wasLoss g_wasValue g_wasNumber g_path m_pathMany g_heavyValue g_heavyTimes m_heavyMany g_fewest g_which g_met m_mostMet, kx_a g_row cyI 160 f, kx_a g_many cyI 324 o_10, kx_a g_loss cyI 324 o_11, kx_a g_less cyI 324 o_12, kx_a g_voteValue cyI 1944 o_13, kx_a g_voteNumber cyI 1944 o_14, kx_a g_allValue cyI 12 o_15, kx_a g_allNumber cyI 12 o_16, kx_a g_nodeL cyI 320 o_17, kx_a g_nodeR cyI 320 o_18, kx_a g_part cyI 320 o_20] → va_S A s.heap H locs → ∀ (ls : Array Slot), lv_has ls 7 [(6, .int i), (5, .int sm), (0, .ref h0), (1, .int p0), (2, .int p1), (3, .int p2), (4, .int p3)] → W p l e (headSpec wsX5_failed ({ frames := 13, cells := 0, slots := 0, locals := 585 })).room s m ([.ref h0, .int p0, .int p1, .int p2, .int p3] : List Value).toArray below meth c H locs 0 0 (MQ below (va_Qi (fun (r : Int32) (u : Int32 × Int32 × (Nat → Int32) × (Nat → Int32) × (Nat → Int32) × (Nat → Int32) × (Nat → Int32) × (Nat → Int32) × (Nat → Int32) × (Nat → Int32) × (Nat → Int32) × Int32 × (Nat → Int32)) => six4 u.2.2.1 ∧ parts320 u.2.2.2.2.2.2.2.2.2.2.2.2) (fun (u : Int32 × Int32 × (Nat → Int32) × (Nat → Int32) × (Nat → Int32) × (Nat → Int32) × (Nat → Int32) × (Nat → Int32) × (Nat → Int32) × (Nat → Int32) × (Nat → Int32) × Int32 × (Nat → Int32)) (t : State) => va_P (dC, dI) vwCl [kx_5 h0 g_row m_n m_slots 0 g_many g_loss g_less g_voteValue g_voteNumber g_allValue g_allNumber u.2.1 g_nodeL g_nodeR u.1 g_part u.2.2.2.2.2.2.2.2.2.2.2.1 g_wasMany g_wasLoss g_wasValue g_wasNumber g_path m_pathMany g_heavyValue g_heavyTimes m_heavyMany g_fewest g_which g_met m_mostMet, kx_a g_row cyI 160 f, kx_a g_many cyI 324 u.2.2.1, kx_a g_loss cyI 324 u.2.2.2.1, kx_a g_less cyI 324 u.2.2.2.2.1, kx_a g_voteValue cyI 1944 u.2.2.2.2.2.1, kx_a g_voteNumber cyI 1944 u.2.2.2.2.2.2.1, kx_a g_allValue cyI 12 u.2.2.2.2.2.2.2.1, kx_a g_allNumber cyI 12 u.2.2.2.2.2.2.2.2.1, kx_a g_nodeL cyI 320 u.2.2.2.2.2.2.2.2.2.1, kx_a g_nodeR cyI 320 u.2.2.2.2.2.2.2.2.2.2.1, kx_a g_part cyI 320 u.2.2.2.2.2.2.2.2.2.2.2.2] t.heap ∧ va_K (dC, dI) vwCl [(cyI, .int)] t ∧ va_D A [kx_5 h0 g_row m_n m_slots 0 g_many g_loss g_less g_voteValue g_voteNumber g_allValue g_allNumber u.2.1 g_nodeL g_nodeR u.1 g_part u.2.2.2.2.2.2.2.2.2.2.2.1 g_wasMany g_wasLoss g_wasValue g_wasNumber g_path m_pathMany g_heavyValue g_heavyTimes m_heavyMany g_fewest g_which g_met m_mostMet, kx_a g_row cyI 160 f, kx_a g_many cyI 324 u.2.2.1, kx_a g_loss cyI 324 u.2.2.2.1, kx_a g_less cyI 324 u.2.2.2.2.1, kx_a g_voteValue cyI 1944 u.2.2.2.2.2.1, kx_a g_voteNumber cyI 1944 u.2.2.2.2.2.2.1, kx_a g_allValue cyI 12 u.2.2.2.2.2.2.2.1, kx_a g_allNumber cyI 12 u.2.2.2.2.2.2.2.2.1, kx_a g_nodeL cyI 320 u.2.2.2.2.2.2.2.2.2.1, kx_a g_nodeR cyI 320 u.2.2.2.2.2.2.2.2.2.2.1, kx_a g_part cyI 320 u.2.2.2.2.2.2.2.2.2.2.2.2]) A) ([.ref h0, .int p0, .int p1, .int p2, .int p3] : List Value).toArray s 0 0 A) (F0 m 50 ls []) := by
                intro n
                induction n with
                | zero => intro i sm LP1_h0 hn; exact absurd hn (Nat.not_lt_zero _)
                | succ n ih1 =>
                  intro i sm LP1_h0 hn1 H locs hP hD hS ls hl
                  refine lv_iload hx hb dX5_failed_50 (lv_at hl 0 rfl) ?_
                  refine lv_aload_n hx hb dX5_failed_52 rfl (lv_at hl 2 rfl) ?_
                  refine va_get (D := (dC, dI)) (ci := 5) (v := .ref g_many) (C := RX5) (T := TX5) (N := 30) hx hb hts hi_5 hown hK hP 0 rfl rfl 4 (by decide) hf_17 (fun _ h9 => h9) rfl dX5_failed_53 ?_
                  refine lv_sipush (v := 320) hx hb dX5_failed_56 (by decide) ?_
                  refine va_iald hx hb hK hP 2 0 rfl rfl (ki_inl (by decide)) dX5_failed_59 ?_
                  refine lv_topi (fun y_21 ey_21 => ?_)
                  have j_21 : y_21.toInt = (o_10 (320 : Int32).toNatClampNeg).toInt := congrArg Int32.toInt ey_21
                  have n_22 : ((320 : Int32).toNatClampNeg : Int) = 320 := ki_nat _ rfl om_375
                  have i_23 := w_7.1 (320 : Int32).toNatClampNeg (om_ln n_22 om_393)
                  refine lv_icmp_ge (tgt := 100) hx hb dX5_failed_60 (by decide) (fun c_24 => ?_) (fun c_24 => ?_)
                  · have i_24 : y_21.toInt ≤ i.toInt := kc_le c_24
                    refine lv_iload hx hb dX5_failed_100 (lv_at hl 1 rfl) ?_
                    have hP9 := hP
                    have hD9 := hD
                    have hK9 := hK
                    exact W.iret (v := sm) hx hb hr (hlocks := hlocks) (fun t ht hW => ⟨⟨sm, (o_8, o_9, o_10, o_11, o_12, o_13, o_14, o_15, o_16, o_17, o_18, o_19, o_20), rfl, ⟨w_7.1, w_7.2.1⟩, by rw [ht]; exact hP9, va_K.moved hW.alike hK9, hD9⟩, hS.F ht⟩) hS.2.2 dX5_failed_102
                  · have i_24 : i.toInt < y_21.toInt := kc_nle c_24
                    refine lv_aload_n hx hb dX5_failed_63 rfl (lv_at hl 2 rfl) ?_
                    refine lv_aload_n hx hb dX5_failed_64 rfl (lv_at hl 2 rfl) ?_
                    refine va_get (D := (dC, dI)) (ci := 5) (v := .ref g_voteValue) (C := RX5) (T := TX5) (N := 30) hx hb hts hi_5 hown hK hP 0 rfl rfl 7 (by decide) hf_26 (fun _ h9 => h9) rfl dX5_failed_65 ?_
                    refine lv_sipush (v := 1920) hx hb dX5_failed_68 (by decide) ?_
                    refine lv_iload hx hb dX5_failed_71 (lv_at hl 0 rfl) ?_
                    refine lv_iadd hx hb dX5_failed_73 ?_
                    refine lv_topi (fun y_25 ey_25 => ?_)
                    have i_25 : y_25.toInt = 1920 + i.toInt := ki_add ey_25 rfl rfl (om_394 LP1_h0) (om_398 j_21 i_23.2 i_24)
                    refine va_iald hx hb hK hP 5 0 rfl rfl (ki_in (om_396 LP1_h0 i_25) (om_399 j_21 i_23.2 i_24 i_25)) dX5_failed_74 ?_
                    refine lv_topi (fun y_26 ey_26 => ?_)
                    have j_26 : y_26.toInt = (o_13 y_25.toNatClampNeg).toInt := congrArg Int32.toInt ey_26
                    refine lv_iload_n hx hb dX5_failed_75 rfl (lv_at hl 3 rfl) ?_
                    refine lv_iload_n hx hb dX5_failed_76 rfl (lv_at hl 4 rfl) ?_
                    have hPc := hP.sub (ws' := [kx_5 h0 g_row m_n m_slots 0 g_many g_loss g_less g_voteValue g_voteNumber g_allValue g_allNumber o_9 g_nodeL g_nodeR o_8 g_part o_19 g_wasMany g_wasLoss g_wasValue g_wasNumber g_path m_pathMany g_heavyValue g_heavyTimes m_heavyMany g_fewest g_which g_met m_mostMet, kx_a g_row cyI 160 f]) [0, 1] rfl
                    have hKc := hK
                    refine vp_callSi (W.runV (As := [.int y_26, .int p0, .int p1]) (rest := []) ⟨hx, hb, hml, hown, hts⟩ (c_X5_times l dC dI h0 g_row g_many g_loss g_less g_voteValue g_voteNumber g_allValue g_allNumber g_nodeL g_nodeR g_part g_wasMany g_wasLoss g_wasValue g_wasNumber g_path g_heavyValue g_heavyTimes g_fewest g_which g_met m_n m_slots 0 o_9 o_8 o_19 m_pathMany m_heavyMany m_mostMet cyI f y_26 p0 p1 (om_10 w_1.1) (om_167 a1 w_1.2.2)) (cwV 3 hts gX5_failed_X5_times rfl rfl rfl (by decide +kernel) ⟨Nat.le_of_ble_eq_true rfl, Nat.le_of_ble_eq_true rfl⟩) ⟨fun a U g mk q => by obtain ⟨q0, qP, qK⟩ := q; exact ⟨q0, qP, va_K.moved (u := U) (U := U.calling g mk a) (Vm.Alike.refl U.vm) qK⟩, kx_rc5 hKc hPc (q0 := 0) rfl, fun U hU hW => ⟨rfl, by rw [hU]; exact hPc, va_K.moved hW.alike hKc⟩⟩ rfl rfl hl.1 rfl (lv_room (Nat.le_of_ble_eq_true rfl)) dX5_failed_77 ⟨Nat.le_of_ble_eq_true rfl, Nat.le_of_ble_eq_true rfl⟩) (fun r_27 w_27 => ?_)
                    have w_27 : r_27.toInt = (cnt f y_26 p0.toNatClampNeg (p1.toInt - p0.toInt).toNat : Int) := w_27
                    refine lv_iload hx hb dX5_failed_80 (lv_at hl 6 rfl) ?_
                    refine lv_imul hx hb dX5_failed_82 ?_
                    refine lv_topi (fun y_28 ey_28 => ?_)
                    refine lv_iload_n hx hb dX5_failed_83 rfl (lv_at hl 5 rfl) ?_
                    refine lv_iload_n hx hb dX5_failed_84 rfl (lv_at hl 4 rfl) ?_
                    refine lv_iload_n hx hb dX5_failed_85 rfl (lv_at hl 3 rfl) ?_
                    refine lv_isub hx hb dX5_failed_86 ?_
                    refine lv_topi (fun y_29 ey_29 => ?_)
                    refine lv_imul hx hb dX5_failed_87 ?_
                    refine lv_topi (fun y_30 ey_30 => ?_)
                    refine lv_icmp_gt (tgt := 94) hx hb dX5_failed_88 (by decide) (fun c_31 => ?_) (fun c_31 => ?_)
                    · have i_31 : y_30.toInt < y_28.toInt := kc_lt c_31
                      obtain ⟨x_32, ex_32⟩ : ∃ y : Int32, y = i + 1 := ⟨_, rfl⟩
                      have i_32 : x_32.toInt = i.toInt + 1 := ki_add ex_32 rfl rfl (om_13 LP1_h0) (om_101 j_21 i_23.2 i_24)
                      refine lv_iinc (v := x_32) (lv' := [(6, .int x_32), (5, .int sm), (0, .ref h0), (1, .int p0), (2, .int p1), (3, .int p2), (4, .int p3)]) hx hb dX5_failed_94 hl (k := 0) rfl (by rw [ex_32]; rfl) (by decide) rfl (fun ls hl => ?_)
                      refine lv_goto (tgt := 50) hx hb dX5_failed_97 (by decide) ?_
                      exact ih1 x_32 sm (om_34 LP1_h0 i_32) (om_mu hn1 (om_102 i_32) (om_103 j_21 i_23.2 i_24)) _ _ hP hD hS ls (lv_sub hl [0, 1, 2, 3, 4, 5, 6] rfl)
                    · have i_31 : y_28.toInt ≤ y_30.toInt := kc_nlt c_31
                      obtain ⟨x_33, ex_33⟩ : ∃ y : Int32, y = sm + 1 := ⟨_, rfl⟩
                      refine lv_iinc (v := x_33) (lv' := [(5, .int x_33), (6, .int i), (0, .ref h0), (1, .int p0), (2, .int p1), (3, .int p2), (4, .int p3)]) hx hb dX5_failed_91 hl (k := 1) rfl (by rw [ex_33]; rfl) (by decide) rfl (fun ls hl => ?_)
                      obtain ⟨x_34, ex_34⟩ : ∃ y : Int32, y = i + 1 := ⟨_, rfl⟩
                      have i_34 : x_34.toInt = i.toInt + 1 := ki_add ex_34 rfl rfl (om_13 LP1_h0) (om_101 j_21 i_23.2 i_24)
                      refine lv_iinc (v := x_34) (lv' := [(6, .int x_34), (5, .int x_33), (0, .ref h0), (1, .int p0), (2, .int p1), (3, .int p2), (4, .int p3)]) hx hb dX5_failed_94 hl (k := 1) rfl (by rw [ex_34]; rfl) (by decide) rfl (fun ls hl => ?_)
                      refine lv_goto (tgt := 50) hx hb dX5_failed_97 (by decide) ?_
                      exact ih1 x_34 x_33 (om_34 LP1_h0 i_34) (om_mu hn1 (om_102 i_34) (om_103 j_21 i_23.2 i_24)) _ _ hP hD hS ls (lv_sub hl [0, 1, 2, 3, 4, 5, 6] rfl)
              have k_35 : (0 : Int32).toInt = 0 := rfl
              have k_36 : (0 : Int32).toInt = 0 := rfl
              exact LP1 ((6 - 0 : Int).toNat + 1) 0 0 om_35 (Nat.lt_succ_self _) _ _ hP hD hS ls (lv_sub hl [0, 1, 2, 3, 4, 5, 6] rfl)
            · exact absurd c_6 (by decide)
          · have w_5 : (0 : Int) ≤ 1 := w_5
            refine lv_if_ne (tgt := 38) hx hb dX5_failed_32 (by decide) (fun c_37 => ?_) (fun c_37 => ?_)
            · exact absurd c_37 (by decide)
            · refine lv_bipush (v := (-2)) hx hb dX5_failed_35 (by decide) ?_
              have hP9 := hP
              have hD9 := hD
              have hK9 := hK
              exact W.iret (v := (-2)) hx hb hr (hlocks := hlocks) (fun t ht hW => ⟨⟨(-2), (m_nodes, m_allMany, fm, fl, fe, vv, vn, av, an, nl, nr, m_partMany, gp), rfl, ⟨s4, q0⟩, by rw [ht]; exact hP9, va_K.moved hW.alike hK9, hD9⟩, hS.F ht⟩) hS.2.2 dX5_failed_37
        · exact absurd c_4 (by decide)
      · have w_3 : (p2.toInt < 1 ∨ p3.toInt < p2.toInt ∨ 999 < p3.toInt) := w_3
        refine lv_if_ne (tgt := 25) hx hb dX5_failed_20 (by decide) (fun c_38 => ?_) (fun c_38 => ?_)
        · exact absurd c_38 (by decide)
        · refine lv_iconst (v := (-1)) hx hb dX5_failed_23 (by decide) ?_
          have hP9 := hP
          have hD9 := hD
          have hK9 := hK
          exact W.iret (v := (-1)) hx hb hr (hlocks := hlocks) (fun t ht hW => ⟨⟨(-1), (m_nodes, m_allMany, fm, fl, fe, vv, vn, av, an, nl, nr, m_partMany, gp), rfl, ⟨s4, q0⟩, by rw [ht]; exact hP9, va_K.moved hW.alike hK9, hD9⟩, hS.F ht⟩) hS.2.2 dX5_failed_24
  · have w_1 : (p0.toInt < 0 ∨ p1.toInt ≤ p0.toInt ∨ m_n.toInt < p1.toInt) := w_1
    refine lv_if_eq (tgt := 23) hx hb dX5_failed_11 (by decide) (fun c_39 => ?_) (fun c_39 => ?_)
    · refine lv_iconst (v := (-1)) hx hb dX5_failed_23 (by decide) ?_
      have hP9 := hP
      have hD9 := hD
      have hK9 := hK
      exact W.iret (v := (-1)) hx hb hr (hlocks := hlocks) (fun t ht hW => ⟨⟨(-1), (m_nodes, m_allMany, fm, fl, fe, vv, vn, av, an, nl, nr, m_partMany, gp), rfl, ⟨s4, q0⟩, by rw [ht]; exact hP9, va_K.moved hW.alike hK9, hD9⟩, hS.F ht⟩) hS.2.2 dX5_failed_24
    · exact absurd c_39 (by decide)



/-! what is heavy, majorities -/
def mj_maj (f : Nat → Int32) (l r : Nat) (v : Int32) : Prop := (∃ k : Nat, l ≤ k ∧ k < r ∧ f k = v ∧ ((r - l : Nat) : Int) < 2 * (cnt f v l (r - l) : Int)) ∨ (v = -40000 ∧ ∀ k : Nat, l ≤ k → k < r → 2 * (cnt f (f k) l (r - l) : Int) ≤ ((r - l : Nat) : Int))
theorem mj_maj_one {f : Nat → Int32} {l r : Nat} {v : Int32} (h : mj_maj f l r v) (hs : shorts f) (hl : l < 160) (e : v = -40000) : ¬ r = l + 1 := by
  intro er
  subst er
  subst e
  have e1 : l + 1 - l = 0 + 1 := by omega
  rcases h with ⟨k, h1, h2, h3, -⟩ | ⟨-, h⟩
  · have := hs k (by omega)
    rw [h3] at this
    have k0 : (-40000 : Int32).toInt = -40000 := rfl
    omega
  · have := h l (Nat.le_refl l) (by omega)
    rw [e1] at this
    simp only [cnt, Nat.add_zero, if_pos] at this
    omega
theorem ki_mulb {a b : Int} {A B : Int} (h1 : 0 ≤ a) (h2 : a ≤ A) (h3 : 0 ≤ b) (h4 : b ≤ B) : 0 ≤ a * b ∧ a * b ≤ A * B :=
  ⟨Int.mul_nonneg h1 h3, Int.mul_le_mul h2 h4 h3 (by omega)⟩
theorem ki_mulpos {a b z : Int} (h : z < a * b) (hz : 0 ≤ z) (ha : 0 ≤ a) : 0 < a := by
  rcases Int.lt_or_eq_of_le ha with h1 | h1
  · exact h1
  · rw [← h1, Int.zero_mul] at h
    omega
def nodesOk (nl nr : Nat → Int32) (nd : Int) : Prop := ∀ k : Nat, (k : Int) < nd → 0 ≤ (nl k).toInt ∧ (nl k).toInt < (nr k).toInt ∧ (nr k).toInt ≤ 160
/-! the row changed -/
def mj_fill (f : Nat → Int32) (l r : Nat) (v : Int32) : Nat → Int32 := fun k => if l ≤ k ∧ k < r then v else f k
theorem mj_fill_0 (f : Nat → Int32) {l r : Nat} (v : Int32) (h : r ≤ l) : mj_fill f l r v = f := by
  funext k
  unfold mj_fill
  rw [if_neg (by omega)]
theorem mj_fill_step {f : Nat → Int32} {l r r2 : Nat} {v : Int32} (h : l ≤ r) (e : r2 = r + 1) : upd (mj_fill f l r v) r v = mj_fill f l r2 v := by
  subst e
  funext k
  by_cases hk : k = r
  · subst hk
    rw [upd_at]
    unfold mj_fill
    rw [if_pos (by omega)]
  · rw [upd_ne hk]
    unfold mj_fill
    by_cases h2 : l ≤ k ∧ k < r
    · rw [if_pos h2, if_pos (by omega)]
    · rw [if_neg h2, if_neg (by omega)]
theorem shorts_fill {f : Nat → Int32} {l r : Nat} {v : Int32} (h : shorts f) (h1 : -32768 ≤ v.toInt) (h2 : v.toInt ≤ 32767) : shorts (mj_fill f l r v) := by
  intro k hk
  unfold mj_fill
  split
  · exact ⟨h1, h2⟩
  · exact h k hk
/-- the first n of the one side and of the other have changed their places -/
def mj_tu (f : Nat → Int32) (l r n : Nat) : Nat → Int32 := fun k => if (l ≤ k ∧ k < l + n) ∨ (r - n ≤ k ∧ k < r) then f (l + r - 1 - k) else f k
def mj_turn (f : Nat → Int32) (l r : Nat) : Nat → Int32 := fun k => if l ≤ k ∧ k < r then f (l + r - 1 - k) else f k
theorem mj_tu_0 (f : Nat → Int32) (l r : Nat) {n : Nat} (h : n = 0) : mj_tu f l r n = f := by
  funext k
  unfold mj_tu
  rw [if_neg (by omega)]
theorem mj_tu_step {f : Nat → Int32} {l r n n2 i j : Nat} (hi : i = l + n) (hj : j = r - 1 - n) (hij : i < j) (hr : j < r) (e : n2 = n + 1) : mj_ex (mj_tu f l r n) i j = mj_tu f l r n2 := by
  subst hi; subst hj; subst e
  funext k
  by_cases h1 : k = l + n
  · subst h1
    rw [mj_ex_i]
    unfold mj_tu
    rw [if_neg (by omega), if_pos (by omega)]
    congr 1
    omega
  · by_cases h2 : k = r - 1 - n
    · subst h2
      rw [mj_ex_k]
      unfold mj_tu
      rw [if_neg (by omega), if_pos (by omega)]
      congr 1
      omega
    · rw [mj_ex_o h1 h2]
      unfold mj_tu
      by_cases h3 : (l ≤ k ∧ k < l + n) ∨ (r - n ≤ k ∧ k < r)
      · rw [if_pos h3, if_pos (by omega)]
      · rw [if_neg h3, if_neg (by omega)]
theorem mj_tu_end {f : Nat → Int32} {l r n : Nat} (hl : l < r) (h1 : r ≤ l + 2 * n + 1) (h2 : l + 2 * n ≤ r) : mj_tu f l r n = mj_turn f l r := by
  funext k
  unfold mj_tu mj_turn
  by_cases h3 : l ≤ k ∧ k < r
  · rw [if_pos h3]
    by_cases h4 : (l ≤ k ∧ k < l + n) ∨ (r - n ≤ k ∧ k < r)
    · rw [if_pos h4]
    · rw [if_neg h4]
      congr 1
      omega
  · rw [if_neg h3, if_neg (by omega)]
theorem shorts_mex {f : Nat → Int32} {i j : Nat} (h : shorts f) (hi : i < 160) (hj : j < 160) : shorts (mj_ex f i j) := by
  intro k hk
  rw [mj_ex_sw]
  exact h _ (mj_sw_lt hi hj hk)
theorem shorts_turn {f : Nat → Int32} {l r : Nat} (h : shorts f) (hr : r ≤ 160) : shorts (mj_turn f l r) := by
  intro k hk
  unfold mj_turn
  split
  · exact h _ (by omega)
  · exact h k hk


