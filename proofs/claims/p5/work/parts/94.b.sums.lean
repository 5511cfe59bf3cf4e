set_option maxHeartbeats 4000000 in
set_option maxRecDepth 100000 in
theorem c_X5_parts (l : Launch) (dC : Nat → ClassId) (dI : Nat → Nat → Nat) (h0 : Nat) (g_row : Nat) (g_many : Nat) (g_loss : Nat) (g_less : Nat) (g_voteValue : Nat) (g_voteNumber : Nat) (g_allValue : Nat) (g_allNumber : Nat) (g_nodeL : Nat) (g_nodeR : Nat) (g_part : Nat) (g_wasMany : Nat) (g_wasLoss : Nat) (g_wasValue : Nat) (g_wasNumber : Nat) (g_path : Nat) (g_heavyValue : Nat) (g_heavyTimes : Nat) (g_fewest : Nat) (g_which : Nat) (g_met : Nat) (m_n : Int32) (m_slots : Int32) (m_thrown : Int32) (m_allMany : Int32) (m_nodes : Int32) (m_partMany : Int32) (m_pathMany : Int32) (m_heavyMany : Int32) (m_mostMet : Int32) (cyI : ClassId) (fm : Nat → Int32) (fl : Nat → Int32) (fe : Nat → Int32) (vv : Nat → Int32) (vn : Nat → Int32) (f : Nat → Int32) (av : Nat → Int32) (an : Nat → Int32) (nl : Nat → Int32) (nr : Nat → Int32) (gp : Nat → Int32) (p0 : Int32) (p1 : Int32) (sz : Nat) (a0 : 0 ≤ m_n.toInt) (a1 : m_n.toInt ≤ 160) (sl0 : 1 ≤ m_slots.toInt) (sl1 : m_slots.toInt ≤ 6) (s4 : six4 fm) (q0 : parts320 gp) : Met l yX5_parts wsX5_parts ({ frames := 12, cells := 0, slots := 0, locals := 540 }) (va_Pc [.ref h0, .int p0, .int p1] (fun U => U.heap.size = sz ∧ va_P (dC, dI) vwCl [kx_5 h0 g_row m_n m_slots m_thrown g_many g_loss g_less g_voteValue g_voteNumber g_allValue g_allNumber m_allMany g_nodeL g_nodeR m_nodes g_part m_partMany g_wasMany g_wasLoss g_wasValue g_wasNumber g_path m_pathMany g_heavyValue g_heavyTimes m_heavyMany g_fewest g_which g_met m_mostMet, kx_a g_row cyI 160 f, kx_a g_many cyI 324 fm, kx_a g_loss cyI 324 fl, kx_a g_less cyI 324 fe, kx_a g_voteValue cyI 1944 vv, kx_a g_voteNumber cyI 1944 vn, kx_a g_allValue cyI 12 av, kx_a g_allNumber cyI 12 an, kx_a g_nodeL cyI 320 nl, kx_a g_nodeR cyI 320 nr, kx_a g_part cyI 320 gp] U.heap ∧ va_K (dC, dI) vwCl [(cyI, .int)] U ∧ va_D (fun _ => True) [kx_5 h0 g_row m_n m_slots m_thrown g_many g_loss g_less g_voteValue g_voteNumber g_allValue g_allNumber m_allMany g_nodeL g_nodeR m_nodes g_part m_partMany g_wasMany g_wasLoss g_wasValue g_wasNumber g_path m_pathMany g_heavyValue g_heavyTimes m_heavyMany g_fewest g_which g_met m_mostMet, kx_a g_row cyI 160 f, kx_a g_many cyI 324 fm, kx_a g_loss cyI 324 fl, kx_a g_less cyI 324 fe, kx_a g_voteValue cyI 1944 vv, kx_a g_voteNumber cyI 1944 vn, kx_a g_allValue cyI 12 av, kx_a g_allNumber cyI 12 an, kx_a g_nodeL cyI 320 nl, kx_a g_nodeR cyI 320 nr, kx_a g_part cyI 320 gp])) (va_Qi (fun (r : Int32) (u : Int32 × Int32 × (Nat → Int32) × (Nat → Int32) × (Nat → Int32) × (Nat → Int32) × (Nat → Int32) × (Nat → Int32) × (Nat → Int32) × (Nat → Int32) × (Nat → Int32) × Int32 × (Nat → Int32)) => six4 u.2.2.1 ∧ parts320 u.2.2.2.2.2.2.2.2.2.2.2.2) (fun (u : Int32 × Int32 × (Nat → Int32) × (Nat → Int32) × (Nat → Int32) × (Nat → Int32) × (Nat → Int32) × (Nat → Int32) × (Nat → Int32) × (Nat → Int32) × (Nat → Int32) × Int32 × (Nat → Int32)) (t : State) => va_P (dC, dI) vwCl [kx_5 h0 g_row m_n m_slots 0 g_many g_loss g_less g_voteValue g_voteNumber g_allValue g_allNumber u.2.1 g_nodeL g_nodeR u.1 g_part u.2.2.2.2.2.2.2.2.2.2.2.1 g_wasMany g_wasLoss g_wasValue g_wasNumber g_path m_pathMany g_heavyValue g_heavyTimes m_heavyMany g_fewest g_which g_met m_mostMet, kx_a g_row cyI 160 f, kx_a g_many cyI 324 u.2.2.1, kx_a g_loss cyI 324 u.2.2.2.1, kx_a g_less cyI 324 u.2.2.2.2.1, kx_a g_voteValue cyI 1944 u.2.2.2.2.2.1, kx_a g_voteNumber cyI 1944 u.2.2.2.2.2.2.1, kx_a g_allValue cyI 12 u.2.2.2.2.2.2.2.1, kx_a g_allNumber cyI 12 u.2.2.2.2.2.2.2.2.1, kx_a g_nodeL cyI 320 u.2.2.2.2.2.2.2.2.2.1, kx_a g_nodeR cyI 320 u.2.2.2.2.2.2.2.2.2.2.1, kx_a g_part cyI 320 u.2.2.2.2.2.2.2.2.2.2.2.2] t.heap ∧ va_K (dC, dI) vwCl [(cyI, .int)] t ∧ va_D (va_A [kx_5 h0 g_row m_n m_slots m_thrown g_many g_loss g_less g_voteValue g_voteNumber g_allValue g_allNumber m_allMany g_nodeL g_nodeR m_nodes g_part m_partMany g_wasMany g_wasLoss g_wasValue g_wasNumber g_path m_pathMany g_heavyValue g_heavyTimes m_heavyMany g_fewest g_which g_met m_mostMet, kx_a g_row cyI 160 f, kx_a g_many cyI 324 fm, kx_a g_loss cyI 324 fl, kx_a g_less cyI 324 fe, kx_a g_voteValue cyI 1944 vv, kx_a g_voteNumber cyI 1944 vn, kx_a g_allValue cyI 12 av, kx_a g_allNumber cyI 12 an, kx_a g_nodeL cyI 320 nl, kx_a g_nodeR cyI 320 nr, kx_a g_part cyI 320 gp] sz) [kx_5 h0 g_row m_n m_slots 0 g_many g_loss g_less g_voteValue g_voteNumber g_allValue g_allNumber u.2.1 g_nodeL g_nodeR u.1 g_part u.2.2.2.2.2.2.2.2.2.2.2.1 g_wasMany g_wasLoss g_wasValue g_wasNumber g_path m_pathMany g_heavyValue g_heavyTimes m_heavyMany g_fewest g_which g_met m_mostMet, kx_a g_row cyI 160 f, kx_a g_many cyI 324 u.2.2.1, kx_a g_loss cyI 324 u.2.2.2.1, kx_a g_less cyI 324 u.2.2.2.2.1, kx_a g_voteValue cyI 1944 u.2.2.2.2.2.1, kx_a g_voteNumber cyI 1944 u.2.2.2.2.2.2.1, kx_a g_allValue cyI 12 u.2.2.2.2.2.2.2.1, kx_a g_allNumber cyI 12 u.2.2.2.2.2.2.2.2.1, kx_a g_nodeL cyI 320 u.2.2.2.2.2.2.2.2.2.1, kx_a g_nodeR cyI 320 u.2.2.2.2.2.2.2.2.2.2.1, kx_a g_part cyI 320 u.2.2.2.2.2.2.2.2.2.2.2.2]) (va_A [kx_5 h0 g_row m_n m_slots m_thrown g_many g_loss g_less g_voteValue g_voteNumber g_allValue g_allNumber m_allMany g_nodeL g_nodeR m_nodes g_part m_partMany g_wasMany g_wasLoss g_wasValue g_wasNumber g_path m_pathMany g_heavyValue g_heavyTimes m_heavyMany g_fewest g_which g_met m_mostMet, kx_a g_row cyI 160 f, kx_a g_many cyI 324 fm, kx_a g_loss cyI 324 fl, kx_a g_less cyI 324 fe, kx_a g_voteValue cyI 1944 vv, kx_a g_voteNumber cyI 1944 vn, kx_a g_allValue cyI 12 av, kx_a g_allNumber cyI 12 an, kx_a g_nodeL cyI 320 nl, kx_a g_nodeR cyI 320 nr, kx_a g_part cyI 320 gp] sz)) 0 0 (va_A [kx_5 h0 g_row m_n m_slots m_thrown g_many g_loss g_less g_voteValue g_voteNumber g_allValue g_allNumber m_allMany g_nodeL g_nodeR m_nodes g_part m_partMany g_wasMany g_wasLoss g_wasValue g_wasNumber g_path m_pathMany g_heavyValue g_heavyTimes m_heavyMany g_fewest g_which g_met m_mostMet, kx_a g_row cyI 160 f, kx_a g_many cyI 324 fm, kx_a g_loss cyI 324 fl, kx_a g_less cyI 324 fe, kx_a g_voteValue cyI 1944 vv, kx_a g_voteNumber cyI 1944 vn, kx_a g_allValue cyI 12 av, kx_a g_allNumber cyI 12 an, kx_a g_nodeL cyI 320 nl, kx_a g_nodeR cyI 320 nr, kx_a g_part cyI 320 gp] sz) := by
  refine Met.ofW (cc := cX5_parts) (maxL := 3) (ret := (some .int)) (by decide) rfl ?_
  intro p e s m args below meth c s₁ B hml hv
  obtain ⟨rfl, hsz, hP, hK, hD0⟩ := hv
  have hx := B.exec
  have hb := B.bytes
  have hr := B.returns
  have hts := atoms_spec (ws := wsX5_parts) B.pre
  have hown : s.vm.findClass RX5 = some m.cls := findClass_of_methodNamed B.named
  have hlocks := B.notSynchronized
  subst hsz
  have hD := hD0.self (sz := s.heap.size)
  generalize hAe : va_A [kx_5 h0 g_row m_n m_slots m_thrown g_many g_loss g_less g_voteValue g_voteNumber g_allValue g_allNumber m_allMany g_nodeL g_nodeR m_nodes g_part m_partMany g_wasMany g_wasLoss g_wasValue g_wasNumber g_path m_pathMany g_heavyValue g_heavyTimes m_heavyMany g_fewest g_which g_met m_mostMet, kx_a g_row cyI 160 f, kx_a g_many cyI 324 fm, kx_a g_loss cyI 324 fl, kx_a g_less cyI 324 fe, kx_a g_voteValue cyI 1944 vv, kx_a g_voteNumber cyI 1944 vn, kx_a g_allValue cyI 12 av, kx_a g_allNumber cyI 12 an, kx_a g_nodeL cyI 320 nl, kx_a g_nodeR cyI 320 nr, kx_a g_part cyI 320 gp] s.heap.size = A at hD ⊢
  have hA : ∀ q : Nat, s.heap.size ≤ q → A q := fun q h => by rw [← hAe]; exact Or.inr h
  have hS : va_S A s.heap s.heap [] := va_S.rf
  have hP : va_P (dC, dI) vwCl [kx_5 h0 g_row m_n m_slots m_thrown g_many g_loss g_less g_voteValue g_voteNumber g_allValue g_allNumber m_allMany g_nodeL g_nodeR m_nodes g_part m_partMany g_wasMany g_wasLoss g_wasValue g_wasNumber g_path m_pathMany g_heavyValue g_heavyTimes m_heavyMany g_fewest g_which g_met m_mostMet, kx_a g_row cyI 160 f, kx_a g_many cyI 324 fm, kx_a g_loss cyI 324 fl, kx_a g_less cyI 324 fe, kx_a g_voteValue cyI 1944 vv, kx_a g_voteNumber cyI 1944 vn, kx_a g_allValue cyI 12 av, kx_a g_allNumber cyI 12 an, kx_a g_nodeL cyI 320 nl, kx_a g_nodeR cyI 320 nr, kx_a g_part cyI 320 gp] s.heap := hP
  have hl := lv_entry ([.ref h0, .int p0, .int p1]) (n := 3) (Nat.le_of_ble_eq_true rfl)
  rw [lg_entry_eq]
  generalize (lg_sl ([.ref h0, .int p0, .int p1]) ++ List.replicate (3 - (lg_sl ([.ref h0, .int p0, .int p1])).length) Slot.unset).toArray = ls at hl ⊢
  have hl : lv_has ls 3 [(0, .ref h0), (1, .int p0), (2, .int p1)] := hl
  have hf_77 := hts (.fieldLink RX5 77 "MajorityIndexModel" "thrown" "I") (List.mem_of_getElem? (i := 1) rfl)
  have hi_5 : ∀ w ∈ u_ws RX5 TX5 30, w ∈ wsX5_parts := fun w h => List.mem_cons_of_mem _ (List.mem_append_right _ h)
  have hf_13 := hts (.fieldLink RX5 13 "MajorityIndexModel" "slots" "I") (List.mem_of_getElem? (i := 2) rfl)
  have hf_115 := hts (.fieldLink RX5 115 "MajorityIndexModel" "partMany" "I") (List.mem_of_getElem? (i := 3) rfl)
  refine lv_aload_n hx hb dX5_parts_0 rfl (lv_at hl 0 rfl) ?_
  refine lv_iconst (v := 0) hx hb dX5_parts_1 (by decide) ?_
  refine va_put (D := (dC, dI)) (ci := 5) (v := .int 0) (ty := .int) (C := RX5) (T := TX5) (N := 30) hx hb hts hi_5 tyX5 tyX5_ok nmX5 hown hK hP hD hS 0 rfl rfl 3 (by decide) hf_77 (fun _ h9 => h9) rfl (by decide +kernel) rfl rfl (Nat.le_of_ble_eq_true rfl) dX5_parts_2 (fun H locs hP hD hS => ?_)
  have hP : va_P (dC, dI) vwCl [kx_5 h0 g_row m_n m_slots 0 g_many g_loss g_less g_voteValue g_voteNumber g_allValue g_allNumber m_allMany g_nodeL g_nodeR m_nodes g_part m_partMany g_wasMany g_wasLoss g_wasValue g_wasNumber g_path m_pathMany g_heavyValue g_heavyTimes m_heavyMany g_fewest g_which g_met m_mostMet, kx_a g_row cyI 160 f, kx_a g_many cyI 324 fm, kx_a g_loss cyI 324 fl, kx_a g_less cyI 324 fe, kx_a g_voteValue cyI 1944 vv, kx_a g_voteNumber cyI 1944 vn, kx_a g_allValue cyI 12 av, kx_a g_allNumber cyI 12 an, kx_a g_nodeL cyI 320 nl, kx_a g_nodeR cyI 320 nr, kx_a g_part cyI 320 gp] H := hP
  have hD : va_D A [kx_5 h0 g_row m_n m_slots 0 g_many g_loss g_less g_voteValue g_voteNumber g_allValue g_allNumber m_allMany g_nodeL g_nodeR m_nodes g_part m_partMany g_wasMany g_wasLoss g_wasValue g_wasNumber g_path m_pathMany g_heavyValue g_heavyTimes m_heavyMany g_fewest g_which g_met m_mostMet, kx_a g_row cyI 160 f, kx_a g_many cyI 324 fm, kx_a g_loss cyI 324 fl, kx_a g_less cyI 324 fe, kx_a g_voteValue cyI 1944 vv, kx_a g_voteNumber cyI 1944 vn, kx_a g_allValue cyI 12 av, kx_a g_allNumber cyI 12 an, kx_a g_nodeL cyI 320 nl, kx_a g_nodeR cyI 320 nr, kx_a g_part cyI 320 gp] := hD
  refine lv_aload_n hx hb dX5_parts_5 rfl (lv_at hl 0 rfl) ?_
  refine lv_iload_n hx hb dX5_parts_6 rfl (lv_at hl 1 rfl) ?_
  refine lv_iload_n hx hb dX5_parts_7 rfl (lv_at hl 2 rfl) ?_
  have hPc := hP.sub (ws' := [kx_5 h0 g_row m_n m_slots 0 g_many g_loss g_less g_voteValue g_voteNumber g_allValue g_allNumber m_allMany g_nodeL g_nodeR m_nodes g_part m_partMany g_wasMany g_wasLoss g_wasValue g_wasNumber g_path m_pathMany g_heavyValue g_heavyTimes m_heavyMany g_fewest g_which g_met m_mostMet]) [0] rfl
  have hKc := hK.sub (tys' := []) [] rfl
  refine vp_callSi (W.runV (As := [.int p0, .int p1]) (rest := []) ⟨hx, hb, hml, hown, hts⟩ (c_X5_isRange l dC dI h0 g_row g_many g_loss g_less g_voteValue g_voteNumber g_allValue g_allNumber g_nodeL g_nodeR g_part g_wasMany g_wasLoss g_wasValue g_wasNumber g_path g_heavyValue g_heavyTimes g_fewest g_which g_met m_n m_slots 0 m_allMany m_nodes m_partMany m_pathMany m_heavyMany m_mostMet p0 p1) (cwV 2 hts gX5_parts_X5_isRange rfl rfl rfl (by decide +kernel) ⟨Nat.le_of_ble_eq_true rfl, Nat.le_of_ble_eq_true rfl⟩) ⟨fun a U g mk q => by obtain ⟨q0, qP, qK⟩ := q; exact ⟨q0, qP, va_K.moved (u := U) (U := U.calling g mk a) (Vm.Alike.refl U.vm) qK⟩, va_recv hKc hPc (ci := 5) (q0 := 0) rfl rfl, fun U hU hW => ⟨rfl, by rw [hU]; exact hPc, va_K.moved hW.alike hKc⟩⟩ rfl rfl hl.1 rfl (lv_room (Nat.le_of_ble_eq_true rfl)) dX5_parts_8 ⟨Nat.le_of_ble_eq_true rfl, Nat.le_of_ble_eq_true rfl⟩) (fun r_1 w_1 => ?_)
  rcases w_1 with ⟨rfl, w_1⟩ | ⟨rfl, w_1⟩
  · have w_1 : (0 ≤ p0.toInt ∧ p0.toInt < p1.toInt ∧ p1.toInt ≤ m_n.toInt) := w_1
    refine lv_if_ne (tgt := 16) hx hb dX5_parts_11 (by decide) (fun c_2 => ?_) (fun c_2 => ?_)
    · refine lv_aload_n hx hb dX5_parts_16 rfl (lv_at hl 0 rfl) ?_
      refine lv_aload_n hx hb dX5_parts_17 rfl (lv_at hl 0 rfl) ?_
      refine va_get (D := (dC, dI)) (ci := 5) (v := .int m_slots) (C := RX5) (T := TX5) (N := 30) hx hb hts hi_5 hown hK hP 0 rfl rfl 2 (by decide) hf_13 (fun _ h9 => h9) rfl dX5_parts_18 ?_
      have hPc := hP.sub (ws' := [kx_5 h0 g_row m_n m_slots 0 g_many g_loss g_less g_voteValue g_voteNumber g_allValue g_allNumber m_allMany g_nodeL g_nodeR m_nodes g_part m_partMany g_wasMany g_wasLoss g_wasValue g_wasNumber g_path m_pathMany g_heavyValue g_heavyTimes m_heavyMany g_fewest g_which g_met m_mostMet, kx_a g_row cyI 160 f, kx_a g_many cyI 324 fm, kx_a g_loss cyI 324 fl, kx_a g_less cyI 324 fe, kx_a g_voteValue cyI 1944 vv, kx_a g_voteNumber cyI 1944 vn, kx_a g_allValue cyI 12 av, kx_a g_allNumber cyI 12 an, kx_a g_nodeL cyI 320 nl, kx_a g_nodeR cyI 320 nr]) [0, 1, 2, 3, 4, 5, 6, 7, 8, 9, 10] rfl
      have hKc := hK
      have hDc := hD.sub (ws' := [kx_5 h0 g_row m_n m_slots 0 g_many g_loss g_less g_voteValue g_voteNumber g_allValue g_allNumber m_allMany g_nodeL g_nodeR m_nodes g_part m_partMany g_wasMany g_wasLoss g_wasValue g_wasNumber g_path m_pathMany g_heavyValue g_heavyTimes m_heavyMany g_fewest g_which g_met m_mostMet, kx_a g_row cyI 160 f, kx_a g_many cyI 324 fm, kx_a g_loss cyI 324 fl, kx_a g_less cyI 324 fe, kx_a g_voteValue cyI 1944 vv, kx_a g_voteNumber cyI 1944 vn, kx_a g_allValue cyI 12 av, kx_a g_allNumber cyI 12 an, kx_a g_nodeL cyI 320 nl, kx_a g_nodeR cyI 320 nr]) [0, 1, 2, 3, 4, 5, 6, 7, 8, 9, 10] (by decide) rfl
      have hFc := va_free (wc := [kx_5 h0 g_row m_n m_slots 0 g_many g_loss g_less g_voteValue g_voteNumber g_allValue g_allNumber m_allMany g_nodeL g_nodeR m_nodes g_part m_partMany g_wasMany g_wasLoss g_wasValue g_wasNumber g_path m_pathMany g_heavyValue g_heavyTimes m_heavyMany g_fewest g_which g_met m_mostMet, kx_a g_row cyI 160 f, kx_a g_many cyI 324 fm, kx_a g_loss cyI 324 fl, kx_a g_less cyI 324 fe, kx_a g_voteValue cyI 1944 vv, kx_a g_voteNumber cyI 1944 vn, kx_a g_allValue cyI 12 av, kx_a g_allNumber cyI 12 an, kx_a g_nodeL cyI 320 nl, kx_a g_nodeR cyI 320 nr]) hD hS hA [0, 1, 2, 3, 4, 5, 6, 7, 8, 9, 10] rfl
      refine va_callv (va_runV (As := [.int m_slots]) (rest := []) ⟨hx, hb, hml, hown, hts⟩ (c_X5_laysAll l dC dI h0 g_row g_many g_loss g_less g_voteValue g_voteNumber g_allValue g_allNumber g_nodeL g_nodeR g_part g_wasMany g_wasLoss g_wasValue g_wasNumber g_path g_heavyValue g_heavyTimes g_fewest g_which g_met m_n m_slots 0 m_allMany m_nodes m_partMany m_pathMany m_heavyMany m_mostMet cyI fm fl fe vv vn f av an nl nr m_slots H.size a0 a1 sl0 sl1 s4) (cwV 1 hts gX5_parts_X5_laysAll rfl rfl rfl (by decide +kernel) ⟨Nat.le_of_ble_eq_true rfl, Nat.le_of_ble_eq_true rfl⟩) ⟨fun a U g mk q => by obtain ⟨q0, q1, qP, qK, qD⟩ := q; exact ⟨q0, q1, qP, va_K.moved (u := U) (U := U.calling g mk a) (Vm.Alike.refl U.vm) qK, qD⟩, va_recv hKc hPc (ci := 5) (q0 := 0) rfl rfl, fun U hU hW => ⟨rfl, by rw [hU], by rw [hU]; exact hPc, va_K.moved hW.alike hKc, hDc.weaken (fun _ _ _ _ => trivial)⟩⟩ rfl rfl hl.1 rfl (lv_room (Nat.le_of_ble_eq_true rfl)) dX5_parts_21 ⟨Nat.le_of_ble_eq_true rfl, Nat.le_of_ble_eq_true rfl⟩) hS (fun q _ h => hFc q h) hFc (fun u t H1 locs ht hvm w_3 hB hz1 hk1 hS => ?_)
      obtain ⟨o_4, o_5, o_6, o_7, o_8, o_9, o_10, o_11, o_12, o_13, o_14⟩ := u
      dsimp only at w_3 hB
      obtain ⟨hP1, hK1, hD1⟩ := hB
      rw [ht] at hP1
      have hK1 := va_K.moved hvm.symm hK1
      obtain ⟨hP, hD⟩ := va_join (wr := [kx_a g_part cyI 320 gp]) (w1 := [kx_5 h0 g_row m_n m_slots 0 g_many g_loss g_less g_voteValue g_voteNumber g_allValue g_allNumber o_5 g_nodeL g_nodeR o_4 g_part m_partMany g_wasMany g_wasLoss g_wasValue g_wasNumber g_path m_pathMany g_heavyValue g_heavyTimes m_heavyMany g_fewest g_which g_met m_mostMet, kx_a g_row cyI 160 f, kx_a g_many cyI 324 o_6, kx_a g_loss cyI 324 o_7, kx_a g_less cyI 324 o_8, kx_a g_voteValue cyI 1944 o_9, kx_a g_voteNumber cyI 1944 o_10, kx_a g_allValue cyI 12 o_11, kx_a g_allNumber cyI 12 o_12, kx_a g_nodeL cyI 320 o_13, kx_a g_nodeR cyI 320 o_14]) hP hD [0, 1, 2, 3, 4, 5, 6, 7, 8, 9, 10] [11] rfl rfl (by decide) (by decide) hk1 hFc hP1 hD1
      clear hP1 hD1 hK1 hk1 hz1 hFc hDc hPc hKc
      generalize H1 = H at hP hS ⊢
      have hP : va_P (dC, dI) vwCl [kx_a g_part cyI 320 gp, kx_5 h0 g_row m_n m_slots 0 g_many g_loss g_less g_voteValue g_voteNumber g_allValue g_allNumber o_5 g_nodeL g_nodeR o_4 g_part m_partMany g_wasMany g_wasLoss g_wasValue g_wasNumber g_path m_pathMany g_heavyValue g_heavyTimes m_heavyMany g_fewest g_which g_met m_mostMet, kx_a g_row cyI 160 f, kx_a g_many cyI 324 o_6, kx_a g_loss cyI 324 o_7, kx_a g_less cyI 324 o_8, kx_a g_voteValue cyI 1944 o_9, kx_a g_voteNumber cyI 1944 o_10, kx_a g_allValue cyI 12 o_11, kx_a g_allNumber cyI 12 o_12, kx_a g_nodeL cyI 320 o_13, kx_a g_nodeR cyI 320 o_14] H := hP
      have hD : va_D A [kx_a g_part cyI 320 gp, kx_5 h0 g_row m_n m_slots 0 g_many g_loss g_less g_voteValue g_voteNumber g_allValue g_allNumber o_5 g_nodeL g_nodeR o_4 g_part m_partMany g_wasMany g_wasLoss g_wasValue g_wasNumber g_path m_pathMany g_heavyValue g_heavyTimes m_heavyMany g_fewest g_which g_met m_mostMet, kx_a g_row cyI 160 f, kx_a g_many cyI 324 o_6, kx_a g_loss cyI 324 o_7, kx_a g_less cyI 324 o_8, kx_a g_voteValue cyI 1944 o_9, kx_a g_voteNumber cyI 1944 o_10, kx_a g_allValue cyI 12 o_11, kx_a g_allNumber cyI 12 o_12, kx_a g_nodeL cyI 320 o_13, kx_a g_nodeR cyI 320 o_14] := hD
      have w_3 : mj_L m_slots.toNatClampNeg f o_13 o_14 o_6 o_7 o_8 o_9 o_10 m_n.toInt o_4.toInt ∧ six4 o_6 ∧ 0 ≤ o_4.toInt ∧ o_4.toInt ≤ 319 := w_3
      refine lv_aload_n hx hb dX5_parts_24 rfl (lv_at hl 0 rfl) ?_
      refine lv_iload_n hx hb dX5_parts_25 rfl (lv_at hl 1 rfl) ?_
      refine lv_iload_n hx hb dX5_parts_26 rfl (lv_at hl 2 rfl) ?_
      have hPc := hP.sub (ws' := [kx_5 h0 g_row m_n m_slots 0 g_many g_loss g_less g_voteValue g_voteNumber g_allValue g_allNumber o_5 g_nodeL g_nodeR o_4 g_part m_partMany g_wasMany g_wasLoss g_wasValue g_wasNumber g_path m_pathMany g_heavyValue g_heavyTimes m_heavyMany g_fewest g_which g_met m_mostMet, kx_a g_nodeL cyI 320 o_13, kx_a g_nodeR cyI 320 o_14, kx_a g_part cyI 320 gp]) [1, 10, 11, 0] rfl
      have hKc := hK
      have hDc := hD.sub (ws' := [kx_5 h0 g_row m_n m_slots 0 g_many g_loss g_less g_voteValue g_voteNumber g_allValue g_allNumber o_5 g_nodeL g_nodeR o_4 g_part m_partMany g_wasMany g_wasLoss g_wasValue g_wasNumber g_path m_pathMany g_heavyValue g_heavyTimes m_heavyMany g_fewest g_which g_met m_mostMet, kx_a g_nodeL cyI 320 o_13, kx_a g_nodeR cyI 320 o_14, kx_a g_part cyI 320 gp]) [1, 10, 11, 0] (by decide) rfl
      have hFc := va_free (wc := [kx_5 h0 g_row m_n m_slots 0 g_many g_loss g_less g_voteValue g_voteNumber g_allValue g_allNumber o_5 g_nodeL g_nodeR o_4 g_part m_partMany g_wasMany g_wasLoss g_wasValue g_wasNumber g_path m_pathMany g_heavyValue g_heavyTimes m_heavyMany g_fewest g_which g_met m_mostMet, kx_a g_nodeL cyI 320 o_13, kx_a g_nodeR cyI 320 o_14, kx_a g_part cyI 320 gp]) hD hS hA [1, 10, 11, 0] rfl
      refine va_callv (va_runV (As := [.int p0, .int p1]) (rest := []) ⟨hx, hb, hml, hown, hts⟩ (c_X5_laysParts l dC dI h0 g_row g_many g_loss g_less g_voteValue g_voteNumber g_allValue g_allNumber g_nodeL g_nodeR g_part g_wasMany g_wasLoss g_wasValue g_wasNumber g_path g_heavyValue g_heavyTimes g_fewest g_which g_met m_n m_slots 0 o_5 o_4 m_partMany m_pathMany m_heavyMany m_mostMet cyI o_13 o_14 gp p0 p1 H.size w_3.2.2.1 w_3.2.2.2 q0) (cwV 2 hts gX5_parts_X5_laysParts rfl rfl rfl (by decide +kernel) ⟨Nat.le_of_ble_eq_true rfl, Nat.le_of_ble_eq_true rfl⟩) ⟨fun a U g mk q => by obtain ⟨q0, q1, qP, qK, qD⟩ := q; exact ⟨q0, q1, qP, va_K.moved (u := U) (U := U.calling g mk a) (Vm.Alike.refl U.vm) qK, qD⟩, va_recv hKc hPc (ci := 5) (q0 := 0) rfl rfl, fun U hU hW => ⟨rfl, by rw [hU], by rw [hU]; exact hPc, va_K.moved hW.alike hKc, hDc.weaken (fun _ _ _ _ => trivial)⟩⟩ rfl rfl hl.1 rfl (lv_room (Nat.le_of_ble_eq_true rfl)) dX5_parts_27 ⟨Nat.le_of_ble_eq_true rfl, Nat.le_of_ble_eq_true rfl⟩) hS (fun q _ h => hFc q h) hFc (fun u t H1 locs ht hvm w_15 hB hz1 hk1 hS => ?_)
      obtain ⟨o_16, o_17⟩ := u
      dsimp only at w_15 hB
      obtain ⟨hP1, hK1, hD1⟩ := hB
      rw [ht] at hP1
      have hK1 := va_K.moved hvm.symm hK1
      obtain ⟨hP, hD⟩ := va_join (wr := [kx_a g_row cyI 160 f, kx_a g_many cyI 324 o_6, kx_a g_loss cyI 324 o_7, kx_a g_less cyI 324 o_8, kx_a g_voteValue cyI 1944 o_9, kx_a g_voteNumber cyI 1944 o_10, kx_a g_allValue cyI 12 o_11, kx_a g_allNumber cyI 12 o_12]) (w1 := [kx_5 h0 g_row m_n m_slots 0 g_many g_loss g_less g_voteValue g_voteNumber g_allValue g_allNumber o_5 g_nodeL g_nodeR o_4 g_part o_16 g_wasMany g_wasLoss g_wasValue g_wasNumber g_path m_pathMany g_heavyValue g_heavyTimes m_heavyMany g_fewest g_which g_met m_mostMet, kx_a g_nodeL cyI 320 o_13, kx_a g_nodeR cyI 320 o_14, kx_a g_part cyI 320 o_17]) hP hD [1, 10, 11, 0] [2, 3, 4, 5, 6, 7, 8, 9] rfl rfl (by decide) (by decide) hk1 hFc hP1 hD1
      clear hP1 hD1 hK1 hk1 hz1 hFc hDc hPc hKc
      generalize H1 = H at hP hS ⊢
      have hP : va_P (dC, dI) vwCl [kx_a g_row cyI 160 f, kx_a g_many cyI 324 o_6, kx_a g_loss cyI 324 o_7, kx_a g_less cyI 324 o_8, kx_a g_voteValue cyI 1944 o_9, kx_a g_voteNumber cyI 1944 o_10, kx_a g_allValue cyI 12 o_11, kx_a g_allNumber cyI 12 o_12, kx_5 h0 g_row m_n m_slots 0 g_many g_loss g_less g_voteValue g_voteNumber g_allValue g_allNumber o_5 g_nodeL g_nodeR o_4 g_part o_16 g_wasMany g_wasLoss g_wasValue g_wasNumber g_path m_pathMany g_heavyValue g_heavyTimes m_heavyMany g_fewest g_which g_met m_mostMet, kx_a g_nodeL cyI 320 o_13, kx_a g_nodeR cyI 320 o_14, kx_a g_part cyI 320 o_17] H := hP
      have hD : va_D A [kx_a g_row cyI 160 f, kx_a g_many cyI 324 o_6, kx_a g_loss cyI 324 o_7, kx_a g_less cyI 324 o_8, kx_a g_voteValue cyI 1944 o_9, kx_a g_voteNumber cyI 1944 o_10, kx_a g_allValue cyI 12 o_11, kx_a g_allNumber cyI 12 o_12, kx_5 h0 g_row m_n m_slots 0 g_many g_loss g_less g_voteValue g_voteNumber g_allValue g_allNumber o_5 g_nodeL g_nodeR o_4 g_part o_16 g_wasMany g_wasLoss g_wasValue g_wasNumber g_path m_pathMany g_heavyValue g_heavyTimes m_heavyMany g_fewest g_which g_met m_mostMet, kx_a g_nodeL cyI 320 o_13, kx_a g_nodeR cyI 320 o_14, kx_a g_part cyI 320 o_17] := hD
      have w_15 : o_16.toInt = (mj_pq o_13 o_14 p0.toInt p1.toInt o_4.toNatClampNeg : Int) ∧ mj_pa o_13 o_14 p0.toInt p1.toInt o_17 o_4.toNatClampNeg ∧ parts320 o_17 ∧ 0 ≤ o_16.toInt ∧ o_16.toInt ≤ o_4.toInt := w_15
      refine lv_aload_n hx hb dX5_parts_30 rfl (lv_at hl 0 rfl) ?_
      refine va_get (D := (dC, dI)) (ci := 5) (v := .int o_16) (C := RX5) (T := TX5) (N := 30) hx hb hts hi_5 hown hK hP 8 rfl rfl 16 (by decide) hf_115 (fun _ h9 => h9) rfl dX5_parts_31 ?_
      have hP9 := hP.sub (ws' := [kx_5 h0 g_row m_n m_slots 0 g_many g_loss g_less g_voteValue g_voteNumber g_allValue g_allNumber o_5 g_nodeL g_nodeR o_4 g_part o_16 g_wasMany g_wasLoss g_wasValue g_wasNumber g_path m_pathMany g_heavyValue g_heavyTimes m_heavyMany g_fewest g_which g_met m_mostMet, kx_a g_row cyI 160 f, kx_a g_many cyI 324 o_6, kx_a g_loss cyI 324 o_7, kx_a g_less cyI 324 o_8, kx_a g_voteValue cyI 1944 o_9, kx_a g_voteNumber cyI 1944 o_10, kx_a g_allValue cyI 12 o_11, kx_a g_allNumber cyI 12 o_12, kx_a g_nodeL cyI 320 o_13, kx_a g_nodeR cyI 320 o_14, kx_a g_part cyI 320 o_17]) [8, 0, 1, 2, 3, 4, 5, 6, 7, 9, 10, 11] rfl
      have hD9 := hD.sub (ws' := [kx_5 h0 g_row m_n m_slots 0 g_many g_loss g_less g_voteValue g_voteNumber g_allValue g_allNumber o_5 g_nodeL g_nodeR o_4 g_part o_16 g_wasMany g_wasLoss g_wasValue g_wasNumber g_path m_pathMany g_heavyValue g_heavyTimes m_heavyMany g_fewest g_which g_met m_mostMet, kx_a g_row cyI 160 f, kx_a g_many cyI 324 o_6, kx_a g_loss cyI 324 o_7, kx_a g_less cyI 324 o_8, kx_a g_voteValue cyI 1944 o_9, kx_a g_voteNumber cyI 1944 o_10, kx_a g_allValue cyI 12 o_11, kx_a g_allNumber cyI 12 o_12, kx_a g_nodeL cyI 320 o_13, kx_a g_nodeR cyI 320 o_14, kx_a g_part cyI 320 o_17]) [8, 0, 1, 2, 3, 4, 5, 6, 7, 9, 10, 11] (by decide) rfl
      have hK9 := hK
      exact W.iret (v := o_16) hx hb hr (fun t ht hW => ⟨⟨o_16, (o_4, o_5, o_6, o_7, o_8, o_9, o_10, o_11, o_12, o_13, o_14, o_16, o_17), rfl, ⟨w_3.2.1, w_15.2.2.1⟩, by rw [ht]; exact hP9, va_K.moved hW.alike hK9, hD9⟩, hS.F ht⟩) hS.2.2 dX5_parts_34
    · exact absurd c_2 (by decide)
  · have w_1 : (p0.toInt < 0 ∨ p1.toInt ≤ p0.toInt ∨ m_n.toInt < p1.toInt) := w_1
    refine lv_if_ne (tgt := 16) hx hb dX5_parts_11 (by decide) (fun c_18 => ?_) (fun c_18 => ?_)
    · exact absurd c_18 (by decide)
    · refine lv_iconst (v := (-1)) hx hb dX5_parts_14 (by decide) ?_
      have hP9 := hP
      have hD9 := hD
      have hK9 := hK
      exact W.iret (v := (-1)) hx hb hr (fun t ht hW => ⟨⟨(-1), (m_nodes, m_allMany, fm, fl, fe, vv, vn, av, an, nl, nr, m_partMany, gp), rfl, ⟨s4, q0⟩, by rw [ht]; exact hP9, va_K.moved hW.alike hK9, hD9⟩, hS.F ht⟩) hS.2.2 dX5_parts_15

set_option maxHeartbeats 4000000 in
set_option maxRecDepth 100000 in
theorem c_X5_part (l : Launch) (dC : Nat → ClassId) (dI : Nat → Nat → Nat) (h0 : Nat) (g_row : Nat) (g_many : Nat) (g_loss : Nat) (g_less : Nat) (g_voteValue : Nat) (g_voteNumber : Nat) (g_allValue : Nat) (g_allNumber : Nat) (g_nodeL : Nat) (g_nodeR : Nat) (g_part : Nat) (g_wasMany : Nat) (g_wasLoss : Nat) (g_wasValue : Nat) (g_wasNumber : Nat) (g_path : Nat) (g_heavyValue : Nat) (g_heavyTimes : Nat) (g_fewest : Nat) (g_which : Nat) (g_met : Nat) (m_n : Int32) (m_slots : Int32) (m_thrown : Int32) (m_allMany : Int32) (m_nodes : Int32) (m_partMany : Int32) (m_pathMany : Int32) (m_heavyMany : Int32) (m_mostMet : Int32) (cyI : ClassId) (fm : Nat → Int32) (fl : Nat → Int32) (fe : Nat → Int32) (vv : Nat → Int32) (vn : Nat → Int32) (f : Nat → Int32) (av : Nat → Int32) (an : Nat → Int32) (nl : Nat → Int32) (nr : Nat → Int32) (gp : Nat → Int32) (p0 : Int32) (p1 : Int32) (p2 : Int32) (p3 : Int32) (sz : Nat) (a0 : 0 ≤ m_n.toInt) (a1 : m_n.toInt ≤ 160) (sl0 : 1 ≤ m_slots.toInt) (sl1 : m_slots.toInt ≤ 6) (s4 : six4 fm) (q0 : parts320 gp) : Met l yX5_part wsX5_part ({ frames := 12, cells := 0, slots := 0, locals := 540 }) (va_Pc [.ref h0, .int p0, .int p1, .int p2, .int p3] (fun U => U.heap.size = sz ∧ va_P (dC, dI) vwCl [kx_5 h0 g_row m_n m_slots m_thrown g_many g_loss g_less g_voteValue g_voteNumber g_allValue g_allNumber m_allMany g_nodeL g_nodeR m_nodes g_part m_partMany g_wasMany g_wasLoss g_wasValue g_wasNumber g_path m_pathMany g_heavyValue g_heavyTimes m_heavyMany g_fewest g_which g_met m_mostMet, kx_a g_row cyI 160 f, kx_a g_many cyI 324 fm, kx_a g_loss cyI 324 fl, kx_a g_less cyI 324 fe, kx_a g_voteValue cyI 1944 vv, kx_a g_voteNumber cyI 1944 vn, kx_a g_allValue cyI 12 av, kx_a g_allNumber cyI 12 an, kx_a g_nodeL cyI 320 nl, kx_a g_nodeR cyI 320 nr, kx_a g_part cyI 320 gp] U.heap ∧ va_K (dC, dI) vwCl [(cyI, .int)] U ∧ va_D (fun _ => True) [kx_5 h0 g_row m_n m_slots m_thrown g_many g_loss g_less g_voteValue g_voteNumber g_allValue g_allNumber m_allMany g_nodeL g_nodeR m_nodes g_part m_partMany g_wasMany g_wasLoss g_wasValue g_wasNumber g_path m_pathMany g_heavyValue g_heavyTimes m_heavyMany g_fewest g_which g_met m_mostMet, kx_a g_row cyI 160 f, kx_a g_many cyI 324 fm, kx_a g_loss cyI 324 fl, kx_a g_less cyI 324 fe, kx_a g_voteValue cyI 1944 vv, kx_a g_voteNumber cyI 1944 vn, kx_a g_allValue cyI 12 av, kx_a g_allNumber cyI 12 an, kx_a g_nodeL cyI 320 nl, kx_a g_nodeR cyI 320 nr, kx_a g_part cyI 320 gp])) (va_Qi (fun (r : Int32) (u : Int32 × Int32 × (Nat → Int32) × (Nat → Int32) × (Nat → Int32) × (Nat → Int32) × (Nat → Int32) × (Nat → Int32) × (Nat → Int32) × (Nat → Int32) × (Nat → Int32) × Int32 × (Nat → Int32)) => six4 u.2.2.1 ∧ parts320 u.2.2.2.2.2.2.2.2.2.2.2.2) (fun (u : Int32 × Int32 × (Nat → Int32) × (Nat → Int32) × (Nat → Int32) × (Nat → Int32) × (Nat → Int32) × (Nat → Int32) × (Nat → Int32) × (Nat → Int32) × (Nat → Int32) × Int32 × (Nat → Int32)) (t : State) => va_P (dC, dI) vwCl [kx_5 h0 g_row m_n m_slots 0 g_many g_loss g_less g_voteValue g_voteNumber g_allValue g_allNumber u.2.1 g_nodeL g_nodeR u.1 g_part u.2.2.2.2.2.2.2.2.2.2.2.1 g_wasMany g_wasLoss g_wasValue g_wasNumber g_path m_pathMany g_heavyValue g_heavyTimes m_heavyMany g_fewest g_which g_met m_mostMet, kx_a g_row cyI 160 f, kx_a g_many cyI 324 u.2.2.1, kx_a g_loss cyI 324 u.2.2.2.1, kx_a g_less cyI 324 u.2.2.2.2.1, kx_a g_voteValue cyI 1944 u.2.2.2.2.2.1, kx_a g_voteNumber cyI 1944 u.2.2.2.2.2.2.1, kx_a g_allValue cyI 12 u.2.2.2.2.2.2.2.1, kx_a g_allNumber cyI 12 u.2.2.2.2.2.2.2.2.1, kx_a g_nodeL cyI 320 u.2.2.2.2.2.2.2.2.2.1, kx_a g_nodeR cyI 320 u.2.2.2.2.2.2.2.2.2.2.1, kx_a g_part cyI 320 u.2.2.2.2.2.2.2.2.2.2.2.2] t.heap ∧ va_K (dC, dI) vwCl [(cyI, .int)] t ∧ va_D (va_A [kx_5 h0 g_row m_n m_slots m_thrown g_many g_loss g_less g_voteValue g_voteNumber g_allValue g_allNumber m_allMany g_nodeL g_nodeR m_nodes g_part m_partMany g_wasMany g_wasLoss g_wasValue g_wasNumber g_path m_pathMany g_heavyValue g_heavyTimes m_heavyMany g_fewest g_which g_met m_mostMet, kx_a g_row cyI 160 f, kx_a g_many cyI 324 fm, kx_a g_loss cyI 324 fl, kx_a g_less cyI 324 fe, kx_a g_voteValue cyI 1944 vv, kx_a g_voteNumber cyI 1944 vn, kx_a g_allValue cyI 12 av, kx_a g_allNumber cyI 12 an, kx_a g_nodeL cyI 320 nl, kx_a g_nodeR cyI 320 nr, kx_a g_part cyI 320 gp] sz) [kx_5 h0 g_row m_n m_slots 0 g_many g_loss g_less g_voteValue g_voteNumber g_allValue g_allNumber u.2.1 g_nodeL g_nodeR u.1 g_part u.2.2.2.2.2.2.2.2.2.2.2.1 g_wasMany g_wasLoss g_wasValue g_wasNumber g_path m_pathMany g_heavyValue g_heavyTimes m_heavyMany g_fewest g_which g_met m_mostMet, kx_a g_row cyI 160 f, kx_a g_many cyI 324 u.2.2.1, kx_a g_loss cyI 324 u.2.2.2.1, kx_a g_less cyI 324 u.2.2.2.2.1, kx_a g_voteValue cyI 1944 u.2.2.2.2.2.1, kx_a g_voteNumber cyI 1944 u.2.2.2.2.2.2.1, kx_a g_allValue cyI 12 u.2.2.2.2.2.2.2.1, kx_a g_allNumber cyI 12 u.2.2.2.2.2.2.2.2.1, kx_a g_nodeL cyI 320 u.2.2.2.2.2.2.2.2.2.1, kx_a g_nodeR cyI 320 u.2.2.2.2.2.2.2.2.2.2.1, kx_a g_part cyI 320 u.2.2.2.2.2.2.2.2.2.2.2.2]) (va_A [kx_5 h0 g_row m_n m_slots m_thrown g_many g_loss g_less g_voteValue g_voteNumber g_allValue g_allNumber m_allMany g_nodeL g_nodeR m_nodes g_part m_partMany g_wasMany g_wasLoss g_wasValue g_wasNumber g_path m_pathMany g_heavyValue g_heavyTimes m_heavyMany g_fewest g_which g_met m_mostMet, kx_a g_row cyI 160 f, kx_a g_many cyI 324 fm, kx_a g_loss cyI 324 fl, kx_a g_less cyI 324 fe, kx_a g_voteValue cyI 1944 vv, kx_a g_voteNumber cyI 1944 vn, kx_a g_allValue cyI 12 av, kx_a g_allNumber cyI 12 an, kx_a g_nodeL cyI 320 nl, kx_a g_nodeR cyI 320 nr, kx_a g_part cyI 320 gp] sz)) 0 0 (va_A [kx_5 h0 g_row m_n m_slots m_thrown g_many g_loss g_less g_voteValue g_voteNumber g_allValue g_allNumber m_allMany g_nodeL g_nodeR m_nodes g_part m_partMany g_wasMany g_wasLoss g_wasValue g_wasNumber g_path m_pathMany g_heavyValue g_heavyTimes m_heavyMany g_fewest g_which g_met m_mostMet, kx_a g_row cyI 160 f, kx_a g_many cyI 324 fm, kx_a g_loss cyI 324 fl, kx_a g_less cyI 324 fe, kx_a g_voteValue cyI 1944 vv, kx_a g_voteNumber cyI 1944 vn, kx_a g_allValue cyI 12 av, kx_a g_allNumber cyI 12 an, kx_a g_nodeL cyI 320 nl, kx_a g_nodeR cyI 320 nr, kx_a g_part cyI 320 gp] sz) := by
  refine Met.ofW (cc := cX5_part) (maxL := 5) (ret := (some .int)) (by decide) rfl ?_
  intro p e s m args below meth c s₁ B hml hv
  obtain ⟨rfl, hsz, hP, hK, hD0⟩ := hv
  have hx := B.exec
  have hb := B.bytes
  have hr := B.returns
  have hts := atoms_spec (ws := wsX5_part) B.pre
  have hown : s.vm.findClass RX5 = some m.cls := findClass_of_methodNamed B.named
  have hlocks := B.notSynchronized
  subst hsz
  have hD := hD0.self (sz := s.heap.size)
  generalize hAe : va_A [kx_5 h0 g_row m_n m_slots m_thrown g_many g_loss g_less g_voteValue g_voteNumber g_allValue g_allNumber m_allMany g_nodeL g_nodeR m_nodes g_part m_partMany g_wasMany g_wasLoss g_wasValue g_wasNumber g_path m_pathMany g_heavyValue g_heavyTimes m_heavyMany g_fewest g_which g_met m_mostMet, kx_a g_row cyI 160 f, kx_a g_many cyI 324 fm, kx_a g_loss cyI 324 fl, kx_a g_less cyI 324 fe, kx_a g_voteValue cyI 1944 vv, kx_a g_voteNumber cyI 1944 vn, kx_a g_allValue cyI 12 av, kx_a g_allNumber cyI 12 an, kx_a g_nodeL cyI 320 nl, kx_a g_nodeR cyI 320 nr, kx_a g_part cyI 320 gp] s.heap.size = A at hD ⊢
  have hA : ∀ q : Nat, s.heap.size ≤ q → A q := fun q h => by rw [← hAe]; exact Or.inr h
  have hS : va_S A s.heap s.heap [] := va_S.rf
  have hP : va_P (dC, dI) vwCl [kx_5 h0 g_row m_n m_slots m_thrown g_many g_loss g_less g_voteValue g_voteNumber g_allValue g_allNumber m_allMany g_nodeL g_nodeR m_nodes g_part m_partMany g_wasMany g_wasLoss g_wasValue g_wasNumber g_path m_pathMany g_heavyValue g_heavyTimes m_heavyMany g_fewest g_which g_met m_mostMet, kx_a g_row cyI 160 f, kx_a g_many cyI 324 fm, kx_a g_loss cyI 324 fl, kx_a g_less cyI 324 fe, kx_a g_voteValue cyI 1944 vv, kx_a g_voteNumber cyI 1944 vn, kx_a g_allValue cyI 12 av, kx_a g_allNumber cyI 12 an, kx_a g_nodeL cyI 320 nl, kx_a g_nodeR cyI 320 nr, kx_a g_part cyI 320 gp] s.heap := hP
  have hl := lv_entry ([.ref h0, .int p0, .int p1, .int p2, .int p3]) (n := 5) (Nat.le_of_ble_eq_true rfl)
  rw [lg_entry_eq]
  generalize (lg_sl ([.ref h0, .int p0, .int p1, .int p2, .int p3]) ++ List.replicate (5 - (lg_sl ([.ref h0, .int p0, .int p1, .int p2, .int p3])).length) Slot.unset).toArray = ls at hl ⊢
  have hl : lv_has ls 5 [(0, .ref h0), (1, .int p0), (2, .int p1), (3, .int p2), (4, .int p3)] := hl
  have hf_77 := hts (.fieldLink RX5 77 "MajorityIndexModel" "thrown" "I") (List.mem_of_getElem? (i := 1) rfl)
  have hi_5 : ∀ w ∈ u_ws RX5 TX5 30, w ∈ wsX5_part := fun w h => List.mem_cons_of_mem _ (List.mem_append_right _ h)
  have hf_13 := hts (.fieldLink RX5 13 "MajorityIndexModel" "slots" "I") (List.mem_of_getElem? (i := 2) rfl)
  have hf_115 := hts (.fieldLink RX5 115 "MajorityIndexModel" "partMany" "I") (List.mem_of_getElem? (i := 3) rfl)
  have hf_41 := hts (.fieldLink RX5 41 "MajorityIndexModel" "nodeR" "[I") (List.mem_of_getElem? (i := 6) rfl)
  have hf_44 := hts (.fieldLink RX5 44 "MajorityIndexModel" "part" "[I") (List.mem_of_getElem? (i := 5) rfl)
  have hf_38 := hts (.fieldLink RX5 38 "MajorityIndexModel" "nodeL" "[I") (List.mem_of_getElem? (i := 4) rfl)
  refine lv_aload_n hx hb dX5_part_0 rfl (lv_at hl 0 rfl) ?_
  refine lv_iconst (v := 0) hx hb dX5_part_1 (by decide) ?_
  refine va_put (D := (dC, dI)) (ci := 5) (v := .int 0) (ty := .int) (C := RX5) (T := TX5) (N := 30) hx hb hts hi_5 tyX5 tyX5_ok nmX5 hown hK hP hD hS 0 rfl rfl 3 (by decide) hf_77 (fun _ h9 => h9) rfl (by decide +kernel) rfl rfl (Nat.le_of_ble_eq_true rfl) dX5_part_2 (fun H locs hP hD hS => ?_)
  have hP : va_P (dC, dI) vwCl [kx_5 h0 g_row m_n m_slots 0 g_many g_loss g_less g_voteValue g_voteNumber g_allValue g_allNumber m_allMany g_nodeL g_nodeR m_nodes g_part m_partMany g_wasMany g_wasLoss g_wasValue g_wasNumber g_path m_pathMany g_heavyValue g_heavyTimes m_heavyMany g_fewest g_which g_met m_mostMet, kx_a g_row cyI 160 f, kx_a g_many cyI 324 fm, kx_a g_loss cyI 324 fl, kx_a g_less cyI 324 fe, kx_a g_voteValue cyI 1944 vv, kx_a g_voteNumber cyI 1944 vn, kx_a g_allValue cyI 12 av, kx_a g_allNumber cyI 12 an, kx_a g_nodeL cyI 320 nl, kx_a g_nodeR cyI 320 nr, kx_a g_part cyI 320 gp] H := hP
  have hD : va_D A [kx_5 h0 g_row m_n m_slots 0 g_many g_loss g_less g_voteValue g_voteNumber g_allValue g_allNumber m_allMany g_nodeL g_nodeR m_nodes g_part m_partMany g_wasMany g_wasLoss g_wasValue g_wasNumber g_path m_pathMany g_heavyValue g_heavyTimes m_heavyMany g_fewest g_which g_met m_mostMet, kx_a g_row cyI 160 f, kx_a g_many cyI 324 fm, kx_a g_loss cyI 324 fl, kx_a g_less cyI 324 fe, kx_a g_voteValue cyI 1944 vv, kx_a g_voteNumber cyI 1944 vn, kx_a g_allValue cyI 12 av, kx_a g_allNumber cyI 12 an, kx_a g_nodeL cyI 320 nl, kx_a g_nodeR cyI 320 nr, kx_a g_part cyI 320 gp] := hD
  refine lv_aload_n hx hb dX5_part_5 rfl (lv_at hl 0 rfl) ?_
  refine lv_iload_n hx hb dX5_part_6 rfl (lv_at hl 1 rfl) ?_
  refine lv_iload_n hx hb dX5_part_7 rfl (lv_at hl 2 rfl) ?_
  have hPc := hP.sub (ws' := [kx_5 h0 g_row m_n m_slots 0 g_many g_loss g_less g_voteValue g_voteNumber g_allValue g_allNumber m_allMany g_nodeL g_nodeR m_nodes g_part m_partMany g_wasMany g_wasLoss g_wasValue g_wasNumber g_path m_pathMany g_heavyValue g_heavyTimes m_heavyMany g_fewest g_which g_met m_mostMet]) [0] rfl
  have hKc := hK.sub (tys' := []) [] rfl
  refine vp_callSi (W.runV (As := [.int p0, .int p1]) (rest := []) ⟨hx, hb, hml, hown, hts⟩ (c_X5_isRange l dC dI h0 g_row g_many g_loss g_less g_voteValue g_voteNumber g_allValue g_allNumber g_nodeL g_nodeR g_part g_wasMany g_wasLoss g_wasValue g_wasNumber g_path g_heavyValue g_heavyTimes g_fewest g_which g_met m_n m_slots 0 m_allMany m_nodes m_partMany m_pathMany m_heavyMany m_mostMet p0 p1) (cwV 2 hts gX5_part_X5_isRange rfl rfl rfl (by decide +kernel) ⟨Nat.le_of_ble_eq_true rfl, Nat.le_of_ble_eq_true rfl⟩) ⟨fun a U g mk q => by obtain ⟨q0, qP, qK⟩ := q; exact ⟨q0, qP, va_K.moved (u := U) (U := U.calling g mk a) (Vm.Alike.refl U.vm) qK⟩, va_recv hKc hPc (ci := 5) (q0 := 0) rfl rfl, fun U hU hW => ⟨rfl, by rw [hU]; exact hPc, va_K.moved hW.alike hKc⟩⟩ rfl rfl hl.1 rfl (lv_room (Nat.le_of_ble_eq_true rfl)) dX5_part_8 ⟨Nat.le_of_ble_eq_true rfl, Nat.le_of_ble_eq_true rfl⟩) (fun r_1 w_1 => ?_)
  rcases w_1 with ⟨rfl, w_1⟩ | ⟨rfl, w_1⟩
  · have w_1 : (0 ≤ p0.toInt ∧ p0.toInt < p1.toInt ∧ p1.toInt ≤ m_n.toInt) := w_1
    refine lv_if_eq (tgt := 24) hx hb dX5_part_11 (by decide) (fun c_2 => ?_) (fun c_2 => ?_)
    · exact absurd c_2 (by decide)
    · refine lv_iload hx hb dX5_part_14 (lv_at hl 4 rfl) ?_
      refine lv_iconst (v := 0) hx hb dX5_part_16 (by decide) ?_
      refine lv_iconst (v := 1) hx hb dX5_part_17 (by decide) ?_
      have hPc := hP.sub (ws' := []) [] rfl
      have hKc := hK.sub (tys' := []) [] rfl
      refine vp_callSi (W.runS (As := [.int p3, .int 0, .int 1]) (rest := []) ⟨hx, hb, hml, hown, hts⟩ (c_X5_within l dC dI p3 0 1) (va_cwS 3 hts gX5_part_X5_within rfl rfl rfl (by decide +kernel) ⟨Nat.le_of_ble_eq_true rfl, Nat.le_of_ble_eq_true rfl⟩) ⟨fun a U g mk q => by obtain ⟨q0, qP, qK⟩ := q; exact ⟨q0, qP, va_K.moved (u := U) (U := U.calling g mk a) (Vm.Alike.refl U.vm) qK⟩, fun U hU hW => ⟨rfl, by rw [hU]; exact hPc, va_K.moved hW.alike hKc⟩⟩ rfl rfl hl.1 rfl (lv_room (Nat.le_of_ble_eq_true rfl)) dX5_part_18 ⟨Nat.le_of_ble_eq_true rfl, Nat.le_of_ble_eq_true rfl⟩) (fun r_3 w_3 => ?_)
      rcases w_3 with ⟨rfl, w_3⟩ | ⟨rfl, w_3⟩
      · have w_3 : (0 ≤ p3.toInt ∧ p3.toInt ≤ 1) := w_3
        refine lv_if_ne (tgt := 26) hx hb dX5_part_21 (by decide) (fun c_4 => ?_) (fun c_4 => ?_)
        · refine lv_aload_n hx hb dX5_part_26 rfl (lv_at hl 0 rfl) ?_
          refine lv_aload_n hx hb dX5_part_27 rfl (lv_at hl 0 rfl) ?_
          refine va_get (D := (dC, dI)) (ci := 5) (v := .int m_slots) (C := RX5) (T := TX5) (N := 30) hx hb hts hi_5 hown hK hP 0 rfl rfl 2 (by decide) hf_13 (fun _ h9 => h9) rfl dX5_part_28 ?_
          have hPc := hP.sub (ws' := [kx_5 h0 g_row m_n m_slots 0 g_many g_loss g_less g_voteValue g_voteNumber g_allValue g_allNumber m_allMany g_nodeL g_nodeR m_nodes g_part m_partMany g_wasMany g_wasLoss g_wasValue g_wasNumber g_path m_pathMany g_heavyValue g_heavyTimes m_heavyMany g_fewest g_which g_met m_mostMet, kx_a g_row cyI 160 f, kx_a g_many cyI 324 fm, kx_a g_loss cyI 324 fl, kx_a g_less cyI 324 fe, kx_a g_voteValue cyI 1944 vv, kx_a g_voteNumber cyI 1944 vn, kx_a g_allValue cyI 12 av, kx_a g_allNumber cyI 12 an, kx_a g_nodeL cyI 320 nl, kx_a g_nodeR cyI 320 nr]) [0, 1, 2, 3, 4, 5, 6, 7, 8, 9, 10] rfl
          have hKc := hK
          have hDc := hD.sub (ws' := [kx_5 h0 g_row m_n m_slots 0 g_many g_loss g_less g_voteValue g_voteNumber g_allValue g_allNumber m_allMany g_nodeL g_nodeR m_nodes g_part m_partMany g_wasMany g_wasLoss g_wasValue g_wasNumber g_path m_pathMany g_heavyValue g_heavyTimes m_heavyMany g_fewest g_which g_met m_mostMet, kx_a g_row cyI 160 f, kx_a g_many cyI 324 fm, kx_a g_loss cyI 324 fl, kx_a g_less cyI 324 fe, kx_a g_voteValue cyI 1944 vv, kx_a g_voteNumber cyI 1944 vn, kx_a g_allValue cyI 12 av, kx_a g_allNumber cyI 12 an, kx_a g_nodeL cyI 320 nl, kx_a g_nodeR cyI 320 nr]) [0, 1, 2, 3, 4, 5, 6, 7, 8, 9, 10] (by decide) rfl
          have hFc := va_free (wc := [kx_5 h0 g_row m_n m_slots 0 g_many g_loss g_less g_voteValue g_voteNumber g_allValue g_allNumber m_allMany g_nodeL g_nodeR m_nodes g_part m_partMany g_wasMany g_wasLoss g_wasValue g_wasNumber g_path m_pathMany g_heavyValue g_heavyTimes m_heavyMany g_fewest g_which g_met m_mostMet, kx_a g_row cyI 160 f, kx_a g_many cyI 324 fm, kx_a g_loss cyI 324 fl, kx_a g_less cyI 324 fe, kx_a g_voteValue cyI 1944 vv, kx_a g_voteNumber cyI 1944 vn, kx_a g_allValue cyI 12 av, kx_a g_allNumber cyI 12 an, kx_a g_nodeL cyI 320 nl, kx_a g_nodeR cyI 320 nr]) hD hS hA [0, 1, 2, 3, 4, 5, 6, 7, 8, 9, 10] rfl
          refine va_callv (va_runV (As := [.int m_slots]) (rest := []) ⟨hx, hb, hml, hown, hts⟩ (c_X5_laysAll l dC dI h0 g_row g_many g_loss g_less g_voteValue g_voteNumber g_allValue g_allNumber g_nodeL g_nodeR g_part g_wasMany g_wasLoss g_wasValue g_wasNumber g_path g_heavyValue g_heavyTimes g_fewest g_which g_met m_n m_slots 0 m_allMany m_nodes m_partMany m_pathMany m_heavyMany m_mostMet cyI fm fl fe vv vn f av an nl nr m_slots H.size a0 a1 sl0 sl1 s4) (cwV 1 hts gX5_part_X5_laysAll rfl rfl rfl (by decide +kernel) ⟨Nat.le_of_ble_eq_true rfl, Nat.le_of_ble_eq_true rfl⟩) ⟨fun a U g mk q => by obtain ⟨q0, q1, qP, qK, qD⟩ := q; exact ⟨q0, q1, qP, va_K.moved (u := U) (U := U.calling g mk a) (Vm.Alike.refl U.vm) qK, qD⟩, va_recv hKc hPc (ci := 5) (q0 := 0) rfl rfl, fun U hU hW => ⟨rfl, by rw [hU], by rw [hU]; exact hPc, va_K.moved hW.alike hKc, hDc.weaken (fun _ _ _ _ => trivial)⟩⟩ rfl rfl hl.1 rfl (lv_room (Nat.le_of_ble_eq_true rfl)) dX5_part_31 ⟨Nat.le_of_ble_eq_true rfl, Nat.le_of_ble_eq_true rfl⟩) hS (fun q _ h => hFc q h) hFc (fun u t H1 locs ht hvm w_5 hB hz1 hk1 hS => ?_)
          obtain ⟨o_6, o_7, o_8, o_9, o_10, o_11, o_12, o_13, o_14, o_15, o_16⟩ := u
          dsimp only at w_5 hB
          obtain ⟨hP1, hK1, hD1⟩ := hB
          rw [ht] at hP1
          have hK1 := va_K.moved hvm.symm hK1
          obtain ⟨hP, hD⟩ := va_join (wr := [kx_a g_part cyI 320 gp]) (w1 := [kx_5 h0 g_row m_n m_slots 0 g_many g_loss g_less g_voteValue g_voteNumber g_allValue g_allNumber o_7 g_nodeL g_nodeR o_6 g_part m_partMany g_wasMany g_wasLoss g_wasValue g_wasNumber g_path m_pathMany g_heavyValue g_heavyTimes m_heavyMany g_fewest g_which g_met m_mostMet, kx_a g_row cyI 160 f, kx_a g_many cyI 324 o_8, kx_a g_loss cyI 324 o_9, kx_a g_less cyI 324 o_10, kx_a g_voteValue cyI 1944 o_11, kx_a g_voteNumber cyI 1944 o_12, kx_a g_allValue cyI 12 o_13, kx_a g_allNumber cyI 12 o_14, kx_a g_nodeL cyI 320 o_15, kx_a g_nodeR cyI 320 o_16]) hP hD [0, 1, 2, 3, 4, 5, 6, 7, 8, 9, 10] [11] rfl rfl (by decide) (by decide) hk1 hFc hP1 hD1
          clear hP1 hD1 hK1 hk1 hz1 hFc hDc hPc hKc
          generalize H1 = H at hP hS ⊢
          have hP : va_P (dC, dI) vwCl [kx_a g_part cyI 320 gp, kx_5 h0 g_row m_n m_slots 0 g_many g_loss g_less g_voteValue g_voteNumber g_allValue g_allNumber o_7 g_nodeL g_nodeR o_6 g_part m_partMany g_wasMany g_wasLoss g_wasValue g_wasNumber g_path m_pathMany g_heavyValue g_heavyTimes m_heavyMany g_fewest g_which g_met m_mostMet, kx_a g_row cyI 160 f, kx_a g_many cyI 324 o_8, kx_a g_loss cyI 324 o_9, kx_a g_less cyI 324 o_10, kx_a g_voteValue cyI 1944 o_11, kx_a g_voteNumber cyI 1944 o_12, kx_a g_allValue cyI 12 o_13, kx_a g_allNumber cyI 12 o_14, kx_a g_nodeL cyI 320 o_15, kx_a g_nodeR cyI 320 o_16] H := hP
          have hD : va_D A [kx_a g_part cyI 320 gp, kx_5 h0 g_row m_n m_slots 0 g_many g_loss g_less g_voteValue g_voteNumber g_allValue g_allNumber o_7 g_nodeL g_nodeR o_6 g_part m_partMany g_wasMany g_wasLoss g_wasValue g_wasNumber g_path m_pathMany g_heavyValue g_heavyTimes m_heavyMany g_fewest g_which g_met m_mostMet, kx_a g_row cyI 160 f, kx_a g_many cyI 324 o_8, kx_a g_loss cyI 324 o_9, kx_a g_less cyI 324 o_10, kx_a g_voteValue cyI 1944 o_11, kx_a g_voteNumber cyI 1944 o_12, kx_a g_allValue cyI 12 o_13, kx_a g_allNumber cyI 12 o_14, kx_a g_nodeL cyI 320 o_15, kx_a g_nodeR cyI 320 o_16] := hD
          have w_5 : mj_L m_slots.toNatClampNeg f o_15 o_16 o_8 o_9 o_10 o_11 o_12 m_n.toInt o_6.toInt ∧ six4 o_8 ∧ 0 ≤ o_6.toInt ∧ o_6.toInt ≤ 319 := w_5
          refine lv_aload_n hx hb dX5_part_34 rfl (lv_at hl 0 rfl) ?_
          refine lv_iload_n hx hb dX5_part_35 rfl (lv_at hl 1 rfl) ?_
          refine lv_iload_n hx hb dX5_part_36 rfl (lv_at hl 2 rfl) ?_
          have hPc := hP.sub (ws' := [kx_5 h0 g_row m_n m_slots 0 g_many g_loss g_less g_voteValue g_voteNumber g_allValue g_allNumber o_7 g_nodeL g_nodeR o_6 g_part m_partMany g_wasMany g_wasLoss g_wasValue g_wasNumber g_path m_pathMany g_heavyValue g_heavyTimes m_heavyMany g_fewest g_which g_met m_mostMet, kx_a g_nodeL cyI 320 o_15, kx_a g_nodeR cyI 320 o_16, kx_a g_part cyI 320 gp]) [1, 10, 11, 0] rfl
          have hKc := hK
          have hDc := hD.sub (ws' := [kx_5 h0 g_row m_n m_slots 0 g_many g_loss g_less g_voteValue g_voteNumber g_allValue g_allNumber o_7 g_nodeL g_nodeR o_6 g_part m_partMany g_wasMany g_wasLoss g_wasValue g_wasNumber g_path m_pathMany g_heavyValue g_heavyTimes m_heavyMany g_fewest g_which g_met m_mostMet, kx_a g_nodeL cyI 320 o_15, kx_a g_nodeR cyI 320 o_16, kx_a g_part cyI 320 gp]) [1, 10, 11, 0] (by decide) rfl
          have hFc := va_free (wc := [kx_5 h0 g_row m_n m_slots 0 g_many g_loss g_less g_voteValue g_voteNumber g_allValue g_allNumber o_7 g_nodeL g_nodeR o_6 g_part m_partMany g_wasMany g_wasLoss g_wasValue g_wasNumber g_path m_pathMany g_heavyValue g_heavyTimes m_heavyMany g_fewest g_which g_met m_mostMet, kx_a g_nodeL cyI 320 o_15, kx_a g_nodeR cyI 320 o_16, kx_a g_part cyI 320 gp]) hD hS hA [1, 10, 11, 0] rfl
          refine va_callv (va_runV (As := [.int p0, .int p1]) (rest := []) ⟨hx, hb, hml, hown, hts⟩ (c_X5_laysParts l dC dI h0 g_row g_many g_loss g_less g_voteValue g_voteNumber g_allValue g_allNumber g_nodeL g_nodeR g_part g_wasMany g_wasLoss g_wasValue g_wasNumber g_path g_heavyValue g_heavyTimes g_fewest g_which g_met m_n m_slots 0 o_7 o_6 m_partMany m_pathMany m_heavyMany m_mostMet cyI o_15 o_16 gp p0 p1 H.size w_5.2.2.1 w_5.2.2.2 q0) (cwV 2 hts gX5_part_X5_laysParts rfl rfl rfl (by decide +kernel) ⟨Nat.le_of_ble_eq_true rfl, Nat.le_of_ble_eq_true rfl⟩) ⟨fun a U g mk q => by obtain ⟨q0, q1, qP, qK, qD⟩ := q; exact ⟨q0, q1, qP, va_K.moved (u := U) (U := U.calling g mk a) (Vm.Alike.refl U.vm) qK, qD⟩, va_recv hKc hPc (ci := 5) (q0 := 0) rfl rfl, fun U hU hW => ⟨rfl, by rw [hU], by rw [hU]; exact hPc, va_K.moved hW.alike hKc, hDc.weaken (fun _ _ _ _ => trivial)⟩⟩ rfl rfl hl.1 rfl (lv_room (Nat.le_of_ble_eq_true rfl)) dX5_part_37 ⟨Nat.le_of_ble_eq_true rfl, Nat.le_of_ble_eq_true rfl⟩) hS (fun q _ h => hFc q h) hFc (fun u t H1 locs ht hvm w_17 hB hz1 hk1 hS => ?_)
          obtain ⟨o_18, o_19⟩ := u
          dsimp only at w_17 hB
          obtain ⟨hP1, hK1, hD1⟩ := hB
          rw [ht] at hP1
          have hK1 := va_K.moved hvm.symm hK1
          obtain ⟨hP, hD⟩ := va_join (wr := [kx_a g_row cyI 160 f, kx_a g_many cyI 324 o_8, kx_a g_loss cyI 324 o_9, kx_a g_less cyI 324 o_10, kx_a g_voteValue cyI 1944 o_11, kx_a g_voteNumber cyI 1944 o_12, kx_a g_allValue cyI 12 o_13, kx_a g_allNumber cyI 12 o_14]) (w1 := [kx_5 h0 g_row m_n m_slots 0 g_many g_loss g_less g_voteValue g_voteNumber g_allValue g_allNumber o_7 g_nodeL g_nodeR o_6 g_part o_18 g_wasMany g_wasLoss g_wasValue g_wasNumber g_path m_pathMany g_heavyValue g_heavyTimes m_heavyMany g_fewest g_which g_met m_mostMet, kx_a g_nodeL cyI 320 o_15, kx_a g_nodeR cyI 320 o_16, kx_a g_part cyI 320 o_19]) hP hD [1, 10, 11, 0] [2, 3, 4, 5, 6, 7, 8, 9] rfl rfl (by decide) (by decide) hk1 hFc hP1 hD1
          clear hP1 hD1 hK1 hk1 hz1 hFc hDc hPc hKc
          generalize H1 = H at hP hS ⊢
          have hP : va_P (dC, dI) vwCl [kx_a g_row cyI 160 f, kx_a g_many cyI 324 o_8, kx_a g_loss cyI 324 o_9, kx_a g_less cyI 324 o_10, kx_a g_voteValue cyI 1944 o_11, kx_a g_voteNumber cyI 1944 o_12, kx_a g_allValue cyI 12 o_13, kx_a g_allNumber cyI 12 o_14, kx_5 h0 g_row m_n m_slots 0 g_many g_loss g_less g_voteValue g_voteNumber g_allValue g_allNumber o_7 g_nodeL g_nodeR o_6 g_part o_18 g_wasMany g_wasLoss g_wasValue g_wasNumber g_path m_pathMany g_heavyValue g_heavyTimes m_heavyMany g_fewest g_which g_met m_mostMet, kx_a g_nodeL cyI 320 o_15, kx_a g_nodeR cyI 320 o_16, kx_a g_part cyI 320 o_19] H := hP
          have hD : va_D A [kx_a g_row cyI 160 f, kx_a g_many cyI 324 o_8, kx_a g_loss cyI 324 o_9, kx_a g_less cyI 324 o_10, kx_a g_voteValue cyI 1944 o_11, kx_a g_voteNumber cyI 1944 o_12, kx_a g_allValue cyI 12 o_13, kx_a g_allNumber cyI 12 o_14, kx_5 h0 g_row m_n m_slots 0 g_many g_loss g_less g_voteValue g_voteNumber g_allValue g_allNumber o_7 g_nodeL g_nodeR o_6 g_part o_18 g_wasMany g_wasLoss g_wasValue g_wasNumber g_path m_pathMany g_heavyValue g_heavyTimes m_heavyMany g_fewest g_which g_met m_mostMet, kx_a g_nodeL cyI 320 o_15, kx_a g_nodeR cyI 320 o_16, kx_a g_part cyI 320 o_19] := hD
          have w_17 : o_18.toInt = (mj_pq o_15 o_16 p0.toInt p1.toInt o_6.toNatClampNeg : Int) ∧ mj_pa o_15 o_16 p0.toInt p1.toInt o_19 o_6.toNatClampNeg ∧ parts320 o_19 ∧ 0 ≤ o_18.toInt ∧ o_18.toInt ≤ o_6.toInt := w_17
          refine lv_iload_n hx hb dX5_part_40 rfl (lv_at hl 3 rfl) ?_
          refine lv_iconst (v := 0) hx hb dX5_part_41 (by decide) ?_
          refine lv_aload_n hx hb dX5_part_42 rfl (lv_at hl 0 rfl) ?_
          refine va_get (D := (dC, dI)) (ci := 5) (v := .int o_18) (C := RX5) (T := TX5) (N := 30) hx hb hts hi_5 hown hK hP 8 rfl rfl 16 (by decide) hf_115 (fun _ h9 => h9) rfl dX5_part_43 ?_
          refine lv_iconst (v := 1) hx hb dX5_part_46 (by decide) ?_
          refine lv_isub hx hb dX5_part_47 ?_
          refine lv_topi (fun y_20 ey_20 => ?_)
          have i_20 : y_20.toInt = o_18.toInt - 1 := ki_sub ey_20 rfl rfl (om_90 w_17.2.2.2.1) (om_262 w_5.2.2.2 w_17.2.2.2.2)
          have hPc := hP.sub (ws' := []) [] rfl
          have hKc := hK.sub (tys' := []) [] rfl
          refine vp_callSi (W.runS (As := [.int p2, .int 0, .int y_20]) (rest := []) ⟨hx, hb, hml, hown, hts⟩ (c_X5_within l dC dI p2 0 y_20) (va_cwS 3 hts gX5_part_X5_within rfl rfl rfl (by decide +kernel) ⟨Nat.le_of_ble_eq_true rfl, Nat.le_of_ble_eq_true rfl⟩) ⟨fun a U g mk q => by obtain ⟨q0, qP, qK⟩ := q; exact ⟨q0, qP, va_K.moved (u := U) (U := U.calling g mk a) (Vm.Alike.refl U.vm) qK⟩, fun U hU hW => ⟨rfl, by rw [hU]; exact hPc, va_K.moved hW.alike hKc⟩⟩ rfl rfl hl.1 rfl (lv_room (Nat.le_of_ble_eq_true rfl)) dX5_part_48 ⟨Nat.le_of_ble_eq_true rfl, Nat.le_of_ble_eq_true rfl⟩) (fun r_21 w_21 => ?_)
          rcases w_21 with ⟨rfl, w_21⟩ | ⟨rfl, w_21⟩
          · have w_21 : (0 ≤ p2.toInt ∧ p2.toInt ≤ y_20.toInt) := w_21
            refine lv_if_ne (tgt := 56) hx hb dX5_part_51 (by decide) (fun c_22 => ?_) (fun c_22 => ?_)
            · refine lv_iload hx hb dX5_part_56 (lv_at hl 4 rfl) ?_
              refine lv_if_ne (tgt := 75) hx hb dX5_part_58 (by decide) (fun c_23 => ?_) (fun c_23 => ?_)
              · have i_23 : ¬ p3.toInt = 0 := kc_ne c_23
                refine lv_aload_n hx hb dX5_part_75 rfl (lv_at hl 0 rfl) ?_
                refine va_get (D := (dC, dI)) (ci := 5) (v := .ref g_nodeR) (C := RX5) (T := TX5) (N := 30) hx hb hts hi_5 hown hK hP 8 rfl rfl 13 (by decide) hf_41 (fun _ h9 => h9) rfl dX5_part_76 ?_
                refine lv_aload_n hx hb dX5_part_79 rfl (lv_at hl 0 rfl) ?_
                refine va_get (D := (dC, dI)) (ci := 5) (v := .ref g_part) (C := RX5) (T := TX5) (N := 30) hx hb hts hi_5 hown hK hP 8 rfl rfl 15 (by decide) hf_44 (fun _ h9 => h9) rfl dX5_part_80 ?_
                refine lv_iload_n hx hb dX5_part_83 rfl (lv_at hl 3 rfl) ?_
                refine va_iald hx hb hK hP 11 0 rfl rfl (ki_in (by omega) (by omega)) dX5_part_84 ?_
                refine lv_topi (fun y_24 ey_24 => ?_)
                have j_24 : y_24.toInt = (o_19 p2.toNatClampNeg).toInt := congrArg Int32.toInt ey_24
                have n_25 : (p2.toNatClampNeg : Int) = p2.toInt := ki_nat _ rfl (by omega)
                have i_26 := w_17.2.2.1 p2.toNatClampNeg (by omega)
                refine va_iald hx hb hK hP 10 0 rfl rfl (ki_in (by omega) (by omega)) dX5_part_85 ?_
                refine lv_topi (fun y_27 ey_27 => ?_)
                have j_27 : y_27.toInt = (o_16 y_24.toNatClampNeg).toInt := congrArg Int32.toInt ey_27
                have hP9 := hP.sub (ws' := [kx_5 h0 g_row m_n m_slots 0 g_many g_loss g_less g_voteValue g_voteNumber g_allValue g_allNumber o_7 g_nodeL g_nodeR o_6 g_part o_18 g_wasMany g_wasLoss g_wasValue g_wasNumber g_path m_pathMany g_heavyValue g_heavyTimes m_heavyMany g_fewest g_which g_met m_mostMet, kx_a g_row cyI 160 f, kx_a g_many cyI 324 o_8, kx_a g_loss cyI 324 o_9, kx_a g_less cyI 324 o_10, kx_a g_voteValue cyI 1944 o_11, kx_a g_voteNumber cyI 1944 o_12, kx_a g_allValue cyI 12 o_13, kx_a g_allNumber cyI 12 o_14, kx_a g_nodeL cyI 320 o_15, kx_a g_nodeR cyI 320 o_16, kx_a g_part cyI 320 o_19]) [8, 0, 1, 2, 3, 4, 5, 6, 7, 9, 10, 11] rfl
                have hD9 := hD.sub (ws' := [kx_5 h0 g_row m_n m_slots 0 g_many g_loss g_less g_voteValue g_voteNumber g_allValue g_allNumber o_7 g_nodeL g_nodeR o_6 g_part o_18 g_wasMany g_wasLoss g_wasValue g_wasNumber g_path m_pathMany g_heavyValue g_heavyTimes m_heavyMany g_fewest g_which g_met m_mostMet, kx_a g_row cyI 160 f, kx_a g_many cyI 324 o_8, kx_a g_loss cyI 324 o_9, kx_a g_less cyI 324 o_10, kx_a g_voteValue cyI 1944 o_11, kx_a g_voteNumber cyI 1944 o_12, kx_a g_allValue cyI 12 o_13, kx_a g_allNumber cyI 12 o_14, kx_a g_nodeL cyI 320 o_15, kx_a g_nodeR cyI 320 o_16, kx_a g_part cyI 320 o_19]) [8, 0, 1, 2, 3, 4, 5, 6, 7, 9, 10, 11] (by decide) rfl
                have hK9 := hK
                exact W.iret (v := y_27) hx hb hr (fun t ht hW => ⟨⟨y_27, (o_6, o_7, o_8, o_9, o_10, o_11, o_12, o_13, o_14, o_15, o_16, o_18, o_19), rfl, ⟨w_5.2.1, w_17.2.2.1⟩, by rw [ht]; exact hP9, va_K.moved hW.alike hK9, hD9⟩, hS.F ht⟩) hS.2.2 dX5_part_86
              · have i_23 : p3.toInt = 0 := kc_eq c_23
                refine lv_aload_n hx hb dX5_part_61 rfl (lv_at hl 0 rfl) ?_
                refine va_get (D := (dC, dI)) (ci := 5) (v := .ref g_nodeL) (C := RX5) (T := TX5) (N := 30) hx hb hts hi_5 hown hK hP 8 rfl rfl 12 (by decide) hf_38 (fun _ h9 => h9) rfl dX5_part_62 ?_
                refine lv_aload_n hx hb dX5_part_65 rfl (lv_at hl 0 rfl) ?_
                refine va_get (D := (dC, dI)) (ci := 5) (v := .ref g_part) (C := RX5) (T := TX5) (N := 30) hx hb hts hi_5 hown hK hP 8 rfl rfl 15 (by decide) hf_44 (fun _ h9 => h9) rfl dX5_part_66 ?_
                refine lv_iload_n hx hb dX5_part_69 rfl (lv_at hl 3 rfl) ?_
                refine va_iald hx hb hK hP 11 0 rfl rfl (ki_in (by omega) (by omega)) dX5_part_70 ?_
                refine lv_topi (fun y_28 ey_28 => ?_)
                have j_28 : y_28.toInt = (o_19 p2.toNatClampNeg).toInt := congrArg Int32.toInt ey_28
                have n_29 : (p2.toNatClampNeg : Int) = p2.toInt := ki_nat _ rfl (by omega)
                have i_30 := w_17.2.2.1 p2.toNatClampNeg (by omega)
                refine va_iald hx hb hK hP 9 0 rfl rfl (ki_in (by omega) (by omega)) dX5_part_71 ?_
                refine lv_topi (fun y_31 ey_31 => ?_)
                have j_31 : y_31.toInt = (o_15 y_28.toNatClampNeg).toInt := congrArg Int32.toInt ey_31
                refine lv_goto (tgt := 86) hx hb dX5_part_72 (by decide) ?_
                have hP9 := hP.sub (ws' := [kx_5 h0 g_row m_n m_slots 0 g_many g_loss g_less g_voteValue g_voteNumber g_allValue g_allNumber o_7 g_nodeL g_nodeR o_6 g_part o_18 g_wasMany g_wasLoss g_wasValue g_wasNumber g_path m_pathMany g_heavyValue g_heavyTimes m_heavyMany g_fewest g_which g_met m_mostMet, kx_a g_row cyI 160 f, kx_a g_many cyI 324 o_8, kx_a g_loss cyI 324 o_9, kx_a g_less cyI 324 o_10, kx_a g_voteValue cyI 1944 o_11, kx_a g_voteNumber cyI 1944 o_12, kx_a g_allValue cyI 12 o_13, kx_a g_allNumber cyI 12 o_14, kx_a g_nodeL cyI 320 o_15, kx_a g_nodeR cyI 320 o_16, kx_a g_part cyI 320 o_19]) [8, 0, 1, 2, 3, 4, 5, 6, 7, 9, 10, 11] rfl
                have hD9 := hD.sub (ws' := [kx_5 h0 g_row m_n m_slots 0 g_many g_loss g_less g_voteValue g_voteNumber g_allValue g_allNumber o_7 g_nodeL g_nodeR o_6 g_part o_18 g_wasMany g_wasLoss g_wasValue g_wasNumber g_path m_pathMany g_heavyValue g_heavyTimes m_heavyMany g_fewest g_which g_met m_mostMet, kx_a g_row cyI 160 f, kx_a g_many cyI 324 o_8, kx_a g_loss cyI 324 o_9, kx_a g_less cyI 324 o_10, kx_a g_voteValue cyI 1944 o_11, kx_a g_voteNumber cyI 1944 o_12, kx_a g_allValue cyI 12 o_13, kx_a g_allNumber cyI 12 o_14, kx_a g_nodeL cyI 320 o_15, kx_a g_nodeR cyI 320 o_16, kx_a g_part cyI 320 o_19]) [8, 0, 1, 2, 3, 4, 5, 6, 7, 9, 10, 11] (by decide) rfl
                have hK9 := hK
                exact W.iret (v := y_31) hx hb hr (fun t ht hW => ⟨⟨y_31, (o_6, o_7, o_8, o_9, o_10, o_11, o_12, o_13, o_14, o_15, o_16, o_18, o_19), rfl, ⟨w_5.2.1, w_17.2.2.1⟩, by rw [ht]; exact hP9, va_K.moved hW.alike hK9, hD9⟩, hS.F ht⟩) hS.2.2 dX5_part_86
            · exact absurd c_22 (by decide)
          · have w_21 : (p2.toInt < 0 ∨ y_20.toInt < p2.toInt) := w_21
            refine lv_if_ne (tgt := 56) hx hb dX5_part_51 (by decide) (fun c_32 => ?_) (fun c_32 => ?_)
            · exact absurd c_32 (by decide)
            · refine lv_iconst (v := (-1)) hx hb dX5_part_54 (by decide) ?_
              have hP9 := hP.sub (ws' := [kx_5 h0 g_row m_n m_slots 0 g_many g_loss g_less g_voteValue g_voteNumber g_allValue g_allNumber o_7 g_nodeL g_nodeR o_6 g_part o_18 g_wasMany g_wasLoss g_wasValue g_wasNumber g_path m_pathMany g_heavyValue g_heavyTimes m_heavyMany g_fewest g_which g_met m_mostMet, kx_a g_row cyI 160 f, kx_a g_many cyI 324 o_8, kx_a g_loss cyI 324 o_9, kx_a g_less cyI 324 o_10, kx_a g_voteValue cyI 1944 o_11, kx_a g_voteNumber cyI 1944 o_12, kx_a g_allValue cyI 12 o_13, kx_a g_allNumber cyI 12 o_14, kx_a g_nodeL cyI 320 o_15, kx_a g_nodeR cyI 320 o_16, kx_a g_part cyI 320 o_19]) [8, 0, 1, 2, 3, 4, 5, 6, 7, 9, 10, 11] rfl
              have hD9 := hD.sub (ws' := [kx_5 h0 g_row m_n m_slots 0 g_many g_loss g_less g_voteValue g_voteNumber g_allValue g_allNumber o_7 g_nodeL g_nodeR o_6 g_part o_18 g_wasMany g_wasLoss g_wasValue g_wasNumber g_path m_pathMany g_heavyValue g_heavyTimes m_heavyMany g_fewest g_which g_met m_mostMet, kx_a g_row cyI 160 f, kx_a g_many cyI 324 o_8, kx_a g_loss cyI 324 o_9, kx_a g_less cyI 324 o_10, kx_a g_voteValue cyI 1944 o_11, kx_a g_voteNumber cyI 1944 o_12, kx_a g_allValue cyI 12 o_13, kx_a g_allNumber cyI 12 o_14, kx_a g_nodeL cyI 320 o_15, kx_a g_nodeR cyI 320 o_16, kx_a g_part cyI 320 o_19]) [8, 0, 1, 2, 3, 4, 5, 6, 7, 9, 10, 11] (by decide) rfl
              have hK9 := hK
              exact W.iret (v := (-1)) hx hb hr (fun t ht hW => ⟨⟨(-1), (o_6, o_7, o_8, o_9, o_10, o_11, o_12, o_13, o_14, o_15, o_16, o_18, o_19), rfl, ⟨w_5.2.1, w_17.2.2.1⟩, by rw [ht]; exact hP9, va_K.moved hW.alike hK9, hD9⟩, hS.F ht⟩) hS.2.2 dX5_part_55
        · exact absurd c_4 (by decide)
      · have w_3 : (p3.toInt < 0 ∨ 1 < p3.toInt) := w_3
        refine lv_if_ne (tgt := 26) hx hb dX5_part_21 (by decide) (fun c_33 => ?_) (fun c_33 => ?_)
        · exact absurd c_33 (by decide)
        · refine lv_iconst (v := (-1)) hx hb dX5_part_24 (by decide) ?_
          have hP9 := hP
          have hD9 := hD
          have hK9 := hK
          exact W.iret (v := (-1)) hx hb hr (fun t ht hW => ⟨⟨(-1), (m_nodes, m_allMany, fm, fl, fe, vv, vn, av, an, nl, nr, m_partMany, gp), rfl, ⟨s4, q0⟩, by rw [ht]; exact hP9, va_K.moved hW.alike hK9, hD9⟩, hS.F ht⟩) hS.2.2 dX5_part_25
  · have w_1 : (p0.toInt < 0 ∨ p1.toInt ≤ p0.toInt ∨ m_n.toInt < p1.toInt) := w_1
    refine lv_if_eq (tgt := 24) hx hb dX5_part_11 (by decide) (fun c_34 => ?_) (fun c_34 => ?_)
    · refine lv_iconst (v := (-1)) hx hb dX5_part_24 (by decide) ?_
      have hP9 := hP
      have hD9 := hD
      have hK9 := hK
      exact W.iret (v := (-1)) hx hb hr (fun t ht hW => ⟨⟨(-1), (m_nodes, m_allMany, fm, fl, fe, vv, vn, av, an, nl, nr, m_partMany, gp), rfl, ⟨s4, q0⟩, by rw [ht]; exact hP9, va_K.moved hW.alike hK9, hD9⟩, hS.F ht⟩) hS.2.2 dX5_part_25
    · exact absurd c_34 (by decide)

set_option maxHeartbeats 4000000 in
set_option maxRecDepth 100000 in
theorem c_X5_sums (l : Launch) (dC : Nat → ClassId) (dI : Nat → Nat → Nat) (h0 : Nat) (g_row : Nat) (g_many : Nat) (g_loss : Nat) (g_less : Nat) (g_voteValue : Nat) (g_voteNumber : Nat) (g_allValue : Nat) (g_allNumber : Nat) (g_nodeL : Nat) (g_nodeR : Nat) (g_part : Nat) (g_wasMany : Nat) (g_wasLoss : Nat) (g_wasValue : Nat) (g_wasNumber : Nat) (g_path : Nat) (g_heavyValue : Nat) (g_heavyTimes : Nat) (g_fewest : Nat) (g_which : Nat) (g_met : Nat) (m_n : Int32) (m_slots : Int32) (m_thrown : Int32) (m_allMany : Int32) (m_nodes : Int32) (m_partMany : Int32) (m_pathMany : Int32) (m_heavyMany : Int32) (m_mostMet : Int32) (cyI : ClassId) (fm : Nat → Int32) (fl : Nat → Int32) (fe : Nat → Int32) (vv : Nat → Int32) (vn : Nat → Int32) (f : Nat → Int32) (av : Nat → Int32) (an : Nat → Int32) (nl : Nat → Int32) (nr : Nat → Int32) (gp : Nat → Int32) (p0 : Int32) (p1 : Int32) (sz : Nat) (a0 : 0 ≤ m_n.toInt) (a1 : m_n.toInt ≤ 160) (sl0 : 1 ≤ m_slots.toInt) (sl1 : m_slots.toInt ≤ 6) (s4 : six4 fm) (q0 : parts320 gp) (r0 : 0 ≤ p0.toInt) (r1 : p0.toInt < p1.toInt) (r2 : p1.toInt ≤ m_n.toInt) : Met l yX5_sums wsX5_sums ({ frames := 12, cells := 0, slots := 0, locals := 540 }) (va_Pc [.ref h0, .int p0, .int p1] (fun U => U.heap.size = sz ∧ va_P (dC, dI) vwCl [kx_5 h0 g_row m_n m_slots m_thrown g_many g_loss g_less g_voteValue g_voteNumber g_allValue g_allNumber m_allMany g_nodeL g_nodeR m_nodes g_part m_partMany g_wasMany g_wasLoss g_wasValue g_wasNumber g_path m_pathMany g_heavyValue g_heavyTimes m_heavyMany g_fewest g_which g_met m_mostMet, kx_a g_row cyI 160 f, kx_a g_many cyI 324 fm, kx_a g_loss cyI 324 fl, kx_a g_less cyI 324 fe, kx_a g_voteValue cyI 1944 vv, kx_a g_voteNumber cyI 1944 vn, kx_a g_allValue cyI 12 av, kx_a g_allNumber cyI 12 an, kx_a g_nodeL cyI 320 nl, kx_a g_nodeR cyI 320 nr, kx_a g_part cyI 320 gp] U.heap ∧ va_K (dC, dI) vwCl [(cyI, .int)] U ∧ va_D (fun _ => True) [kx_5 h0 g_row m_n m_slots m_thrown g_many g_loss g_less g_voteValue g_voteNumber g_allValue g_allNumber m_allMany g_nodeL g_nodeR m_nodes g_part m_partMany g_wasMany g_wasLoss g_wasValue g_wasNumber g_path m_pathMany g_heavyValue g_heavyTimes m_heavyMany g_fewest g_which g_met m_mostMet, kx_a g_row cyI 160 f, kx_a g_many cyI 324 fm, kx_a g_loss cyI 324 fl, kx_a g_less cyI 324 fe, kx_a g_voteValue cyI 1944 vv, kx_a g_voteNumber cyI 1944 vn, kx_a g_allValue cyI 12 av, kx_a g_allNumber cyI 12 an, kx_a g_nodeL cyI 320 nl, kx_a g_nodeR cyI 320 nr, kx_a g_part cyI 320 gp])) (va_Qv (fun u : Int32 × Int32 × (Nat → Int32) × (Nat → Int32) × (Nat → Int32) × (Nat → Int32) × (Nat → Int32) × (Nat → Int32) × (Nat → Int32) × (Nat → Int32) × (Nat → Int32) × Int32 × (Nat → Int32) => six4 u.2.2.1 ∧ parts320 u.2.2.2.2.2.2.2.2.2.2.2.2 ∧ mj_L m_slots.toNatClampNeg f u.2.2.2.2.2.2.2.2.2.1 u.2.2.2.2.2.2.2.2.2.2.1 u.2.2.1 u.2.2.2.1 u.2.2.2.2.1 u.2.2.2.2.2.1 u.2.2.2.2.2.2.1 m_n.toInt u.1.toInt ∧ 0 ≤ u.1.toInt ∧ u.1.toInt ≤ 319 ∧ mj_F m_slots.toNatClampNeg u.2.2.2.2.2.2.2.2.2.1 u.2.2.2.2.2.2.2.2.2.2.1 u.2.2.1 u.2.2.2.1 u.2.2.2.2.2.1 u.2.2.2.2.2.2.1 u.2.2.1 u.2.2.2.1 u.2.2.2.2.2.1 u.2.2.2.2.2.2.1 p0.toInt p1.toInt (mj_pq u.2.2.2.2.2.2.2.2.2.1 u.2.2.2.2.2.2.2.2.2.2.1 p0.toInt p1.toInt u.1.toNatClampNeg)) (fun (u : Int32 × Int32 × (Nat → Int32) × (Nat → Int32) × (Nat → Int32) × (Nat → Int32) × (Nat → Int32) × (Nat → Int32) × (Nat → Int32) × (Nat → Int32) × (Nat → Int32) × Int32 × (Nat → Int32)) (t : State) => va_P (dC, dI) vwCl [kx_5 h0 g_row m_n m_slots m_thrown g_many g_loss g_less g_voteValue g_voteNumber g_allValue g_allNumber u.2.1 g_nodeL g_nodeR u.1 g_part u.2.2.2.2.2.2.2.2.2.2.2.1 g_wasMany g_wasLoss g_wasValue g_wasNumber g_path m_pathMany g_heavyValue g_heavyTimes m_heavyMany g_fewest g_which g_met m_mostMet, kx_a g_row cyI 160 f, kx_a g_many cyI 324 u.2.2.1, kx_a g_loss cyI 324 u.2.2.2.1, kx_a g_less cyI 324 u.2.2.2.2.1, kx_a g_voteValue cyI 1944 u.2.2.2.2.2.1, kx_a g_voteNumber cyI 1944 u.2.2.2.2.2.2.1, kx_a g_allValue cyI 12 u.2.2.2.2.2.2.2.1, kx_a g_allNumber cyI 12 u.2.2.2.2.2.2.2.2.1, kx_a g_nodeL cyI 320 u.2.2.2.2.2.2.2.2.2.1, kx_a g_nodeR cyI 320 u.2.2.2.2.2.2.2.2.2.2.1, kx_a g_part cyI 320 u.2.2.2.2.2.2.2.2.2.2.2.2] t.heap ∧ va_K (dC, dI) vwCl [(cyI, .int)] t ∧ va_D (va_A [kx_5 h0 g_row m_n m_slots m_thrown g_many g_loss g_less g_voteValue g_voteNumber g_allValue g_allNumber m_allMany g_nodeL g_nodeR m_nodes g_part m_partMany g_wasMany g_wasLoss g_wasValue g_wasNumber g_path m_pathMany g_heavyValue g_heavyTimes m_heavyMany g_fewest g_which g_met m_mostMet, kx_a g_row cyI 160 f, kx_a g_many cyI 324 fm, kx_a g_loss cyI 324 fl, kx_a g_less cyI 324 fe, kx_a g_voteValue cyI 1944 vv, kx_a g_voteNumber cyI 1944 vn, kx_a g_allValue cyI 12 av, kx_a g_allNumber cyI 12 an, kx_a g_nodeL cyI 320 nl, kx_a g_nodeR cyI 320 nr, kx_a g_part cyI 320 gp] sz) [kx_5 h0 g_row m_n m_slots m_thrown g_many g_loss g_less g_voteValue g_voteNumber g_allValue g_allNumber u.2.1 g_nodeL g_nodeR u.1 g_part u.2.2.2.2.2.2.2.2.2.2.2.1 g_wasMany g_wasLoss g_wasValue g_wasNumber g_path m_pathMany g_heavyValue g_heavyTimes m_heavyMany g_fewest g_which g_met m_mostMet, kx_a g_row cyI 160 f, kx_a g_many cyI 324 u.2.2.1, kx_a g_loss cyI 324 u.2.2.2.1, kx_a g_less cyI 324 u.2.2.2.2.1, kx_a g_voteValue cyI 1944 u.2.2.2.2.2.1, kx_a g_voteNumber cyI 1944 u.2.2.2.2.2.2.1, kx_a g_allValue cyI 12 u.2.2.2.2.2.2.2.1, kx_a g_allNumber cyI 12 u.2.2.2.2.2.2.2.2.1, kx_a g_nodeL cyI 320 u.2.2.2.2.2.2.2.2.2.1, kx_a g_nodeR cyI 320 u.2.2.2.2.2.2.2.2.2.2.1, kx_a g_part cyI 320 u.2.2.2.2.2.2.2.2.2.2.2.2]) (va_A [kx_5 h0 g_row m_n m_slots m_thrown g_many g_loss g_less g_voteValue g_voteNumber g_allValue g_allNumber m_allMany g_nodeL g_nodeR m_nodes g_part m_partMany g_wasMany g_wasLoss g_wasValue g_wasNumber g_path m_pathMany g_heavyValue g_heavyTimes m_heavyMany g_fewest g_which g_met m_mostMet, kx_a g_row cyI 160 f, kx_a g_many cyI 324 fm, kx_a g_loss cyI 324 fl, kx_a g_less cyI 324 fe, kx_a g_voteValue cyI 1944 vv, kx_a g_voteNumber cyI 1944 vn, kx_a g_allValue cyI 12 av, kx_a g_allNumber cyI 12 an, kx_a g_nodeL cyI 320 nl, kx_a g_nodeR cyI 320 nr, kx_a g_part cyI 320 gp] sz)) 0 0 (va_A [kx_5 h0 g_row m_n m_slots m_thrown g_many g_loss g_less g_voteValue g_voteNumber g_allValue g_allNumber m_allMany g_nodeL g_nodeR m_nodes g_part m_partMany g_wasMany g_wasLoss g_wasValue g_wasNumber g_path m_pathMany g_heavyValue g_heavyTimes m_heavyMany g_fewest g_which g_met m_mostMet, kx_a g_row cyI 160 f, kx_a g_many cyI 324 fm, kx_a g_loss cyI 324 fl, kx_a g_less cyI 324 fe, kx_a g_voteValue cyI 1944 vv, kx_a g_voteNumber cyI 1944 vn, kx_a g_allValue cyI 12 av, kx_a g_allNumber cyI 12 an, kx_a g_nodeL cyI 320 nl, kx_a g_nodeR cyI 320 nr, kx_a g_part cyI 320 gp] sz) := by
  refine Met.ofW (cc := cX5_sums) (maxL := 3) (ret := none) (by decide) rfl ?_
  intro p e s m args below meth c s₁ B hml hv
  obtain ⟨rfl, hsz, hP, hK, hD0⟩ := hv
  have hx := B.exec
  have hb := B.bytes
  have hr := B.returns
  have hts := atoms_spec (ws := wsX5_sums) B.pre
  have hown : s.vm.findClass RX5 = some m.cls := findClass_of_methodNamed B.named
  have hlocks := B.notSynchronized
  subst hsz
  have hD := hD0.self (sz := s.heap.size)
  generalize hAe : va_A [kx_5 h0 g_row m_n m_slots m_thrown g_many g_loss g_less g_voteValue g_voteNumber g_allValue g_allNumber m_allMany g_nodeL g_nodeR m_nodes g_part m_partMany g_wasMany g_wasLoss g_wasValue g_wasNumber g_path m_pathMany g_heavyValue g_heavyTimes m_heavyMany g_fewest g_which g_met m_mostMet, kx_a g_row cyI 160 f, kx_a g_many cyI 324 fm, kx_a g_loss cyI 324 fl, kx_a g_less cyI 324 fe, kx_a g_voteValue cyI 1944 vv, kx_a g_voteNumber cyI 1944 vn, kx_a g_allValue cyI 12 av, kx_a g_allNumber cyI 12 an, kx_a g_nodeL cyI 320 nl, kx_a g_nodeR cyI 320 nr, kx_a g_part cyI 320 gp] s.heap.size = A at hD ⊢
  have hA : ∀ q : Nat, s.heap.size ≤ q → A q := fun q h => by rw [← hAe]; exact Or.inr h
  have hS : va_S A s.heap s.heap [] := va_S.rf
  have hP : va_P (dC, dI) vwCl [kx_5 h0 g_row m_n m_slots m_thrown g_many g_loss g_less g_voteValue g_voteNumber g_allValue g_allNumber m_allMany g_nodeL g_nodeR m_nodes g_part m_partMany g_wasMany g_wasLoss g_wasValue g_wasNumber g_path m_pathMany g_heavyValue g_heavyTimes m_heavyMany g_fewest g_which g_met m_mostMet, kx_a g_row cyI 160 f, kx_a g_many cyI 324 fm, kx_a g_loss cyI 324 fl, kx_a g_less cyI 324 fe, kx_a g_voteValue cyI 1944 vv, kx_a g_voteNumber cyI 1944 vn, kx_a g_allValue cyI 12 av, kx_a g_allNumber cyI 12 an, kx_a g_nodeL cyI 320 nl, kx_a g_nodeR cyI 320 nr, kx_a g_part cyI 320 gp] s.heap := hP
  have hl := lv_entry ([.ref h0, .int p0, .int p1]) (n := 3) (Nat.le_of_ble_eq_true rfl)
  rw [lg_entry_eq]
  generalize (lg_sl ([.ref h0, .int p0, .int p1]) ++ List.replicate (3 - (lg_sl ([.ref h0, .int p0, .int p1])).length) Slot.unset).toArray = ls at hl ⊢
  have hl : lv_has ls 3 [(0, .ref h0), (1, .int p0), (2, .int p1)] := hl
  have hf_13 := hts (.fieldLink RX5 13 "MajorityIndexModel" "slots" "I") (List.mem_of_getElem? (i := 1) rfl)
  have hi_5 : ∀ w ∈ u_ws RX5 TX5 30, w ∈ wsX5_sums := fun w h => List.mem_cons_of_mem _ (List.mem_append_right _ h)
  refine lv_aload_n hx hb dX5_sums_0 rfl (lv_at hl 0 rfl) ?_
  refine lv_aload_n hx hb dX5_sums_1 rfl (lv_at hl 0 rfl) ?_
  refine va_get (D := (dC, dI)) (ci := 5) (v := .int m_slots) (C := RX5) (T := TX5) (N := 30) hx hb hts hi_5 hown hK hP 0 rfl rfl 2 (by decide) hf_13 (fun _ h9 => h9) rfl dX5_sums_2 ?_
  have hPc := hP.sub (ws' := [kx_5 h0 g_row m_n m_slots m_thrown g_many g_loss g_less g_voteValue g_voteNumber g_allValue g_allNumber m_allMany g_nodeL g_nodeR m_nodes g_part m_partMany g_wasMany g_wasLoss g_wasValue g_wasNumber g_path m_pathMany g_heavyValue g_heavyTimes m_heavyMany g_fewest g_which g_met m_mostMet, kx_a g_row cyI 160 f, kx_a g_many cyI 324 fm, kx_a g_loss cyI 324 fl, kx_a g_less cyI 324 fe, kx_a g_voteValue cyI 1944 vv, kx_a g_voteNumber cyI 1944 vn, kx_a g_allValue cyI 12 av, kx_a g_allNumber cyI 12 an, kx_a g_nodeL cyI 320 nl, kx_a g_nodeR cyI 320 nr]) [0, 1, 2, 3, 4, 5, 6, 7, 8, 9, 10] rfl
  have hKc := hK
  have hDc := hD.sub (ws' := [kx_5 h0 g_row m_n m_slots m_thrown g_many g_loss g_less g_voteValue g_voteNumber g_allValue g_allNumber m_allMany g_nodeL g_nodeR m_nodes g_part m_partMany g_wasMany g_wasLoss g_wasValue g_wasNumber g_path m_pathMany g_heavyValue g_heavyTimes m_heavyMany g_fewest g_which g_met m_mostMet, kx_a g_row cyI 160 f, kx_a g_many cyI 324 fm, kx_a g_loss cyI 324 fl, kx_a g_less cyI 324 fe, kx_a g_voteValue cyI 1944 vv, kx_a g_voteNumber cyI 1944 vn, kx_a g_allValue cyI 12 av, kx_a g_allNumber cyI 12 an, kx_a g_nodeL cyI 320 nl, kx_a g_nodeR cyI 320 nr]) [0, 1, 2, 3, 4, 5, 6, 7, 8, 9, 10] (by decide) rfl
  have hFc := va_free (wc := [kx_5 h0 g_row m_n m_slots m_thrown g_many g_loss g_less g_voteValue g_voteNumber g_allValue g_allNumber m_allMany g_nodeL g_nodeR m_nodes g_part m_partMany g_wasMany g_wasLoss g_wasValue g_wasNumber g_path m_pathMany g_heavyValue g_heavyTimes m_heavyMany g_fewest g_which g_met m_mostMet, kx_a g_row cyI 160 f, kx_a g_many cyI 324 fm, kx_a g_loss cyI 324 fl, kx_a g_less cyI 324 fe, kx_a g_voteValue cyI 1944 vv, kx_a g_voteNumber cyI 1944 vn, kx_a g_allValue cyI 12 av, kx_a g_allNumber cyI 12 an, kx_a g_nodeL cyI 320 nl, kx_a g_nodeR cyI 320 nr]) hD hS hA [0, 1, 2, 3, 4, 5, 6, 7, 8, 9, 10] rfl
  refine va_callv (va_runV (As := [.int m_slots]) (rest := []) ⟨hx, hb, hml, hown, hts⟩ (c_X5_laysAll l dC dI h0 g_row g_many g_loss g_less g_voteValue g_voteNumber g_allValue g_allNumber g_nodeL g_nodeR g_part g_wasMany g_wasLoss g_wasValue g_wasNumber g_path g_heavyValue g_heavyTimes g_fewest g_which g_met m_n m_slots m_thrown m_allMany m_nodes m_partMany m_pathMany m_heavyMany m_mostMet cyI fm fl fe vv vn f av an nl nr m_slots s.heap.size a0 a1 sl0 sl1 s4) (cwV 1 hts gX5_sums_X5_laysAll rfl rfl rfl (by decide +kernel) ⟨Nat.le_of_ble_eq_true rfl, Nat.le_of_ble_eq_true rfl⟩) ⟨fun a U g mk q => by obtain ⟨q0, q1, qP, qK, qD⟩ := q; exact ⟨q0, q1, qP, va_K.moved (u := U) (U := U.calling g mk a) (Vm.Alike.refl U.vm) qK, qD⟩, va_recv hKc hPc (ci := 5) (q0 := 0) rfl rfl, fun U hU hW => ⟨rfl, by rw [hU], by rw [hU]; exact hPc, va_K.moved hW.alike hKc, hDc.weaken (fun _ _ _ _ => trivial)⟩⟩ rfl rfl hl.1 rfl (lv_room (Nat.le_of_ble_eq_true rfl)) dX5_sums_5 ⟨Nat.le_of_ble_eq_true rfl, Nat.le_of_ble_eq_true rfl⟩) hS (fun q _ h => hFc q h) hFc (fun u t H1 locs ht hvm w_1 hB hz1 hk1 hS => ?_)
  obtain ⟨o_2, o_3, o_4, o_5, o_6, o_7, o_8, o_9, o_10, o_11, o_12⟩ := u
  dsimp only at w_1 hB
  obtain ⟨hP1, hK1, hD1⟩ := hB
  rw [ht] at hP1
  have hK1 := va_K.moved hvm.symm hK1
  obtain ⟨hP, hD⟩ := va_join (wr := [kx_a g_part cyI 320 gp]) (w1 := [kx_5 h0 g_row m_n m_slots m_thrown g_many g_loss g_less g_voteValue g_voteNumber g_allValue g_allNumber o_3 g_nodeL g_nodeR o_2 g_part m_partMany g_wasMany g_wasLoss g_wasValue g_wasNumber g_path m_pathMany g_heavyValue g_heavyTimes m_heavyMany g_fewest g_which g_met m_mostMet, kx_a g_row cyI 160 f, kx_a g_many cyI 324 o_4, kx_a g_loss cyI 324 o_5, kx_a g_less cyI 324 o_6, kx_a g_voteValue cyI 1944 o_7, kx_a g_voteNumber cyI 1944 o_8, kx_a g_allValue cyI 12 o_9, kx_a g_allNumber cyI 12 o_10, kx_a g_nodeL cyI 320 o_11, kx_a g_nodeR cyI 320 o_12]) hP hD [0, 1, 2, 3, 4, 5, 6, 7, 8, 9, 10] [11] rfl rfl (by decide) (by decide) hk1 hFc hP1 hD1
  clear hP1 hD1 hK1 hk1 hz1 hFc hDc hPc hKc
  generalize H1 = H at hP hS ⊢
  have hP : va_P (dC, dI) vwCl [kx_a g_part cyI 320 gp, kx_5 h0 g_row m_n m_slots m_thrown g_many g_loss g_less g_voteValue g_voteNumber g_allValue g_allNumber o_3 g_nodeL g_nodeR o_2 g_part m_partMany g_wasMany g_wasLoss g_wasValue g_wasNumber g_path m_pathMany g_heavyValue g_heavyTimes m_heavyMany g_fewest g_which g_met m_mostMet, kx_a g_row cyI 160 f, kx_a g_many cyI 324 o_4, kx_a g_loss cyI 324 o_5, kx_a g_less cyI 324 o_6, kx_a g_voteValue cyI 1944 o_7, kx_a g_voteNumber cyI 1944 o_8, kx_a g_allValue cyI 12 o_9, kx_a g_allNumber cyI 12 o_10, kx_a g_nodeL cyI 320 o_11, kx_a g_nodeR cyI 320 o_12] H := hP
  have hD : va_D A [kx_a g_part cyI 320 gp, kx_5 h0 g_row m_n m_slots m_thrown g_many g_loss g_less g_voteValue g_voteNumber g_allValue g_allNumber o_3 g_nodeL g_nodeR o_2 g_part m_partMany g_wasMany g_wasLoss g_wasValue g_wasNumber g_path m_pathMany g_heavyValue g_heavyTimes m_heavyMany g_fewest g_which g_met m_mostMet, kx_a g_row cyI 160 f, kx_a g_many cyI 324 o_4, kx_a g_loss cyI 324 o_5, kx_a g_less cyI 324 o_6, kx_a g_voteValue cyI 1944 o_7, kx_a g_voteNumber cyI 1944 o_8, kx_a g_allValue cyI 12 o_9, kx_a g_allNumber cyI 12 o_10, kx_a g_nodeL cyI 320 o_11, kx_a g_nodeR cyI 320 o_12] := hD
  have w_1 : mj_L m_slots.toNatClampNeg f o_11 o_12 o_4 o_5 o_6 o_7 o_8 m_n.toInt o_2.toInt ∧ six4 o_4 ∧ 0 ≤ o_2.toInt ∧ o_2.toInt ≤ 319 := w_1
  refine lv_aload_n hx hb dX5_sums_8 rfl (lv_at hl 0 rfl) ?_
  refine lv_iload_n hx hb dX5_sums_9 rfl (lv_at hl 1 rfl) ?_
  refine lv_iload_n hx hb dX5_sums_10 rfl (lv_at hl 2 rfl) ?_
  refine lv_sipush (v := 320) hx hb dX5_sums_11 (by decide) ?_
  refine lv_aload_n hx hb dX5_sums_14 rfl (lv_at hl 0 rfl) ?_
  refine va_get (D := (dC, dI)) (ci := 5) (v := .int m_slots) (C := RX5) (T := TX5) (N := 30) hx hb hts hi_5 hown hK hP 1 rfl rfl 2 (by decide) hf_13 (fun _ h9 => h9) rfl dX5_sums_15 ?_
  have hPc := hP.sub (ws' := [kx_5 h0 g_row m_n m_slots m_thrown g_many g_loss g_less g_voteValue g_voteNumber g_allValue g_allNumber o_3 g_nodeL g_nodeR o_2 g_part m_partMany g_wasMany g_wasLoss g_wasValue g_wasNumber g_path m_pathMany g_heavyValue g_heavyTimes m_heavyMany g_fewest g_which g_met m_mostMet, kx_a g_many cyI 324 o_4, kx_a g_loss cyI 324 o_5, kx_a g_less cyI 324 o_6, kx_a g_voteValue cyI 1944 o_7, kx_a g_voteNumber cyI 1944 o_8, kx_a g_allValue cyI 12 o_9, kx_a g_allNumber cyI 12 o_10, kx_a g_nodeL cyI 320 o_11, kx_a g_nodeR cyI 320 o_12, kx_a g_part cyI 320 gp]) [1, 3, 4, 5, 6, 7, 8, 9, 10, 11, 0] rfl
  have hKc := hK
  have k_13 : (320 : Int32).toInt = 320 := rfl
  have hDc := hD.sub (ws' := [kx_5 h0 g_row m_n m_slots m_thrown g_many g_loss g_less g_voteValue g_voteNumber g_allValue g_allNumber o_3 g_nodeL g_nodeR o_2 g_part m_partMany g_wasMany g_wasLoss g_wasValue g_wasNumber g_path m_pathMany g_heavyValue g_heavyTimes m_heavyMany g_fewest g_which g_met m_mostMet, kx_a g_many cyI 324 o_4, kx_a g_loss cyI 324 o_5, kx_a g_less cyI 324 o_6, kx_a g_voteValue cyI 1944 o_7, kx_a g_voteNumber cyI 1944 o_8, kx_a g_allValue cyI 12 o_9, kx_a g_allNumber cyI 12 o_10, kx_a g_nodeL cyI 320 o_11, kx_a g_nodeR cyI 320 o_12, kx_a g_part cyI 320 gp]) [1, 3, 4, 5, 6, 7, 8, 9, 10, 11, 0] (by decide) rfl
  have hFc := va_free (wc := [kx_5 h0 g_row m_n m_slots m_thrown g_many g_loss g_less g_voteValue g_voteNumber g_allValue g_allNumber o_3 g_nodeL g_nodeR o_2 g_part m_partMany g_wasMany g_wasLoss g_wasValue g_wasNumber g_path m_pathMany g_heavyValue g_heavyTimes m_heavyMany g_fewest g_which g_met m_mostMet, kx_a g_many cyI 324 o_4, kx_a g_loss cyI 324 o_5, kx_a g_less cyI 324 o_6, kx_a g_voteValue cyI 1944 o_7, kx_a g_voteNumber cyI 1944 o_8, kx_a g_allValue cyI 12 o_9, kx_a g_allNumber cyI 12 o_10, kx_a g_nodeL cyI 320 o_11, kx_a g_nodeR cyI 320 o_12, kx_a g_part cyI 320 gp]) hD hS hA [1, 3, 4, 5, 6, 7, 8, 9, 10, 11, 0] rfl
  refine va_callv (va_runV (As := [.int p0, .int p1, .int 320, .int m_slots]) (rest := []) ⟨hx, hb, hml, hown, hts⟩ (c_X5_folds l dC dI h0 g_row g_many g_loss g_less g_voteValue g_voteNumber g_allValue g_allNumber g_nodeL g_nodeR g_part g_wasMany g_wasLoss g_wasValue g_wasNumber g_path g_heavyValue g_heavyTimes g_fewest g_which g_met m_n m_slots m_thrown o_3 o_2 m_partMany m_pathMany m_heavyMany m_mostMet cyI o_4 o_5 o_6 o_7 o_8 f o_9 o_10 o_11 o_12 gp p0 p1 m_slots H.size a0 a1 w_1.2.2.1 w_1.2.2.2 r0 r1 r2 sl0 sl1 w_1.2.1 q0 w_1.1) (cwV 4 hts gX5_sums_X5_folds rfl rfl rfl (by decide +kernel) ⟨Nat.le_of_ble_eq_true rfl, Nat.le_of_ble_eq_true rfl⟩) ⟨fun a U g mk q => by obtain ⟨q0, q1, qP, qK, qD⟩ := q; exact ⟨q0, q1, qP, va_K.moved (u := U) (U := U.calling g mk a) (Vm.Alike.refl U.vm) qK, qD⟩, va_recv hKc hPc (ci := 5) (q0 := 0) rfl rfl, fun U hU hW => ⟨rfl, by rw [hU], by rw [hU]; exact hPc, va_K.moved hW.alike hKc, hDc.weaken (fun _ _ _ _ => trivial)⟩⟩ rfl rfl hl.1 rfl (lv_room (Nat.le_of_ble_eq_true rfl)) dX5_sums_18 ⟨Nat.le_of_ble_eq_true rfl, Nat.le_of_ble_eq_true rfl⟩) hS (fun q _ h => hFc q h) hFc (fun u t H1 locs ht hvm w_14 hB hz1 hk1 hS => ?_)
  obtain ⟨o_15, o_16, o_17, o_18, o_19, o_20, o_21, o_22, o_23, o_24⟩ := u
  dsimp only at w_14 hB
  obtain ⟨hP1, hK1, hD1⟩ := hB
  rw [ht] at hP1
  have hK1 := va_K.moved hvm.symm hK1
  obtain ⟨hP, hD⟩ := va_join (wr := [kx_a g_row cyI 160 f]) (w1 := [kx_5 h0 g_row m_n m_slots m_thrown g_many g_loss g_less g_voteValue g_voteNumber g_allValue g_allNumber o_15 g_nodeL g_nodeR o_2 g_part o_16 g_wasMany g_wasLoss g_wasValue g_wasNumber g_path m_pathMany g_heavyValue g_heavyTimes m_heavyMany g_fewest g_which g_met m_mostMet, kx_a g_many cyI 324 o_17, kx_a g_loss cyI 324 o_18, kx_a g_less cyI 324 o_19, kx_a g_voteValue cyI 1944 o_20, kx_a g_voteNumber cyI 1944 o_21, kx_a g_allValue cyI 12 o_22, kx_a g_allNumber cyI 12 o_23, kx_a g_nodeL cyI 320 o_11, kx_a g_nodeR cyI 320 o_12, kx_a g_part cyI 320 o_24]) hP hD [1, 3, 4, 5, 6, 7, 8, 9, 10, 11, 0] [2] rfl rfl (by decide) (by decide) hk1 hFc hP1 hD1
  clear hP1 hD1 hK1 hk1 hz1 hFc hDc hPc hKc
  generalize H1 = H at hP hS ⊢
  have hP : va_P (dC, dI) vwCl [kx_a g_row cyI 160 f, kx_5 h0 g_row m_n m_slots m_thrown g_many g_loss g_less g_voteValue g_voteNumber g_allValue g_allNumber o_15 g_nodeL g_nodeR o_2 g_part o_16 g_wasMany g_wasLoss g_wasValue g_wasNumber g_path m_pathMany g_heavyValue g_heavyTimes m_heavyMany g_fewest g_which g_met m_mostMet, kx_a g_many cyI 324 o_17, kx_a g_loss cyI 324 o_18, kx_a g_less cyI 324 o_19, kx_a g_voteValue cyI 1944 o_20, kx_a g_voteNumber cyI 1944 o_21, kx_a g_allValue cyI 12 o_22, kx_a g_allNumber cyI 12 o_23, kx_a g_nodeL cyI 320 o_11, kx_a g_nodeR cyI 320 o_12, kx_a g_part cyI 320 o_24] H := hP
  have hD : va_D A [kx_a g_row cyI 160 f, kx_5 h0 g_row m_n m_slots m_thrown g_many g_loss g_less g_voteValue g_voteNumber g_allValue g_allNumber o_15 g_nodeL g_nodeR o_2 g_part o_16 g_wasMany g_wasLoss g_wasValue g_wasNumber g_path m_pathMany g_heavyValue g_heavyTimes m_heavyMany g_fewest g_which g_met m_mostMet, kx_a g_many cyI 324 o_17, kx_a g_loss cyI 324 o_18, kx_a g_less cyI 324 o_19, kx_a g_voteValue cyI 1944 o_20, kx_a g_voteNumber cyI 1944 o_21, kx_a g_allValue cyI 12 o_22, kx_a g_allNumber cyI 12 o_23, kx_a g_nodeL cyI 320 o_11, kx_a g_nodeR cyI 320 o_12, kx_a g_part cyI 320 o_24] := hD
  have w_14 : six4 o_17 ∧ parts320 o_24 ∧ mj_ag 0 320 o_11 o_12 o_4 o_5 o_6 o_7 o_8 o_11 o_12 o_17 o_18 o_19 o_20 o_21 ∧ mj_F m_slots.toNatClampNeg o_11 o_12 o_17 o_18 o_20 o_21 o_17 o_18 o_20 o_21 p0.toInt p1.toInt (mj_pq o_11 o_12 p0.toInt p1.toInt o_2.toNatClampNeg) := w_14
  have hP9 := hP.sub (ws' := [kx_5 h0 g_row m_n m_slots m_thrown g_many g_loss g_less g_voteValue g_voteNumber g_allValue g_allNumber o_15 g_nodeL g_nodeR o_2 g_part o_16 g_wasMany g_wasLoss g_wasValue g_wasNumber g_path m_pathMany g_heavyValue g_heavyTimes m_heavyMany g_fewest g_which g_met m_mostMet, kx_a g_row cyI 160 f, kx_a g_many cyI 324 o_17, kx_a g_loss cyI 324 o_18, kx_a g_less cyI 324 o_19, kx_a g_voteValue cyI 1944 o_20, kx_a g_voteNumber cyI 1944 o_21, kx_a g_allValue cyI 12 o_22, kx_a g_allNumber cyI 12 o_23, kx_a g_nodeL cyI 320 o_11, kx_a g_nodeR cyI 320 o_12, kx_a g_part cyI 320 o_24]) [1, 0, 2, 3, 4, 5, 6, 7, 8, 9, 10, 11] rfl
  have hD9 := hD.sub (ws' := [kx_5 h0 g_row m_n m_slots m_thrown g_many g_loss g_less g_voteValue g_voteNumber g_allValue g_allNumber o_15 g_nodeL g_nodeR o_2 g_part o_16 g_wasMany g_wasLoss g_wasValue g_wasNumber g_path m_pathMany g_heavyValue g_heavyTimes m_heavyMany g_fewest g_which g_met m_mostMet, kx_a g_row cyI 160 f, kx_a g_many cyI 324 o_17, kx_a g_loss cyI 324 o_18, kx_a g_less cyI 324 o_19, kx_a g_voteValue cyI 1944 o_20, kx_a g_voteNumber cyI 1944 o_21, kx_a g_allValue cyI 12 o_22, kx_a g_allNumber cyI 12 o_23, kx_a g_nodeL cyI 320 o_11, kx_a g_nodeR cyI 320 o_12, kx_a g_part cyI 320 o_24]) [1, 0, 2, 3, 4, 5, 6, 7, 8, 9, 10, 11] (by decide) rfl
  have hK9 := hK
  exact W.vret hx hb hr (fun t ht hW => ⟨⟨(o_2, o_15, o_17, o_18, o_19, o_20, o_21, o_22, o_23, o_11, o_12, o_16, o_24), rfl, ⟨w_14.1, w_14.2.1, mj_L_ag (b := 320) w_1.1 (by (try dsimp only); omega) w_14.2.2.1, (by (try dsimp only); omega), (by (try dsimp only); omega), w_14.2.2.2⟩, by rw [ht]; exact hP9, va_K.moved hW.alike hK9, hD9⟩, hS.F ht⟩) hS.2.2 dX5_sums_21

set_option maxHeartbeats 4000000 in
set_option maxRecDepth 100000 in
theorem c_X5_summary (l : Launch) (dC : Nat → ClassId) (dI : Nat → Nat → Nat) (h0 : Nat) (g_row : Nat) (g_many : Nat) (g_loss : Nat) (g_less : Nat) (g_voteValue : Nat) (g_voteNumber : Nat) (g_allValue : Nat) (g_allNumber : Nat) (g_nodeL : Nat) (g_nodeR : Nat) (g_part : Nat) (g_wasMany : Nat) (g_wasLoss : Nat) (g_wasValue : Nat) (g_wasNumber : Nat) (g_path : Nat) (g_heavyValue : Nat) (g_heavyTimes : Nat) (g_fewest : Nat) (g_which : Nat) (g_met : Nat) (m_n : Int32) (m_slots : Int32) (m_thrown : Int32) (m_allMany : Int32) (m_nodes : Int32) (m_partMany : Int32) (m_pathMany : Int32) (m_heavyMany : Int32) (m_mostMet : Int32) (cyI : ClassId) (fm : Nat → Int32) (fl : Nat → Int32) (fe : Nat → Int32) (vv : Nat → Int32) (vn : Nat → Int32) (f : Nat → Int32) (av : Nat → Int32) (an : Nat → Int32) (nl : Nat → Int32) (nr : Nat → Int32) (gp : Nat → Int32) (p0 : Int32) (p1 : Int32) (p2 : Int32) (sz : Nat) (a0 : 0 ≤ m_n.toInt) (a1 : m_n.toInt ≤ 160) (sl0 : 1 ≤ m_slots.toInt) (sl1 : m_slots.toInt ≤ 6) (s4 : six4 fm) (q0 : parts320 gp) : Met l yX5_summary wsX5_summary ({ frames := 13, cells := 0, slots := 0, locals := 585 }) (va_Pc [.ref h0, .int p0, .int p1, .int p2] (fun U => U.heap.size = sz ∧ va_P (dC, dI) vwCl [kx_5 h0 g_row m_n m_slots m_thrown g_many g_loss g_less g_voteValue g_voteNumber g_allValue g_allNumber m_allMany g_nodeL g_nodeR m_nodes g_part m_partMany g_wasMany g_wasLoss g_wasValue g_wasNumber g_path m_pathMany g_heavyValue g_heavyTimes m_heavyMany g_fewest g_which g_met m_mostMet, kx_a g_row cyI 160 f, kx_a g_many cyI 324 fm, kx_a g_loss cyI 324 fl, kx_a g_less cyI 324 fe, kx_a g_voteValue cyI 1944 vv, kx_a g_voteNumber cyI 1944 vn, kx_a g_allValue cyI 12 av, kx_a g_allNumber cyI 12 an, kx_a g_nodeL cyI 320 nl, kx_a g_nodeR cyI 320 nr, kx_a g_part cyI 320 gp] U.heap ∧ va_K (dC, dI) vwCl [(cyI, .int)] U ∧ va_D (fun _ => True) [kx_5 h0 g_row m_n m_slots m_thrown g_many g_loss g_less g_voteValue g_voteNumber g_allValue g_allNumber m_allMany g_nodeL g_nodeR m_nodes g_part m_partMany g_wasMany g_wasLoss g_wasValue g_wasNumber g_path m_pathMany g_heavyValue g_heavyTimes m_heavyMany g_fewest g_which g_met m_mostMet, kx_a g_row cyI 160 f, kx_a g_many cyI 324 fm, kx_a g_loss cyI 324 fl, kx_a g_less cyI 324 fe, kx_a g_voteValue cyI 1944 vv, kx_a g_voteNumber cyI 1944 vn, kx_a g_allValue cyI 12 av, kx_a g_allNumber cyI 12 an, kx_a g_nodeL cyI 320 nl, kx_a g_nodeR cyI 320 nr, kx_a g_part cyI 320 gp])) (va_Qi (fun (r : Int32) (u : Int32 × Int32 × (Nat → Int32) × (Nat → Int32) × (Nat → Int32) × (Nat → Int32) × (Nat → Int32) × (Nat → Int32) × (Nat → Int32) × (Nat → Int32) × (Nat → Int32) × Int32 × (Nat → Int32)) => six4 u.2.2.1 ∧ parts320 u.2.2.2.2.2.2.2.2.2.2.2.2) (fun (u : Int32 × Int32 × (Nat → Int32) × (Nat → Int32) × (Nat → Int32) × (Nat → Int32) × (Nat → Int32) × (Nat → Int32) × (Nat → Int32) × (Nat → Int32) × (Nat → Int32) × Int32 × (Nat → Int32)) (t : State) => va_P (dC, dI) vwCl [kx_5 h0 g_row m_n m_slots 0 g_many g_loss g_less g_voteValue g_voteNumber g_allValue g_allNumber u.2.1 g_nodeL g_nodeR u.1 g_part u.2.2.2.2.2.2.2.2.2.2.2.1 g_wasMany g_wasLoss g_wasValue g_wasNumber g_path m_pathMany g_heavyValue g_heavyTimes m_heavyMany g_fewest g_which g_met m_mostMet, kx_a g_row cyI 160 f, kx_a g_many cyI 324 u.2.2.1, kx_a g_loss cyI 324 u.2.2.2.1, kx_a g_less cyI 324 u.2.2.2.2.1, kx_a g_voteValue cyI 1944 u.2.2.2.2.2.1, kx_a g_voteNumber cyI 1944 u.2.2.2.2.2.2.1, kx_a g_allValue cyI 12 u.2.2.2.2.2.2.2.1, kx_a g_allNumber cyI 12 u.2.2.2.2.2.2.2.2.1, kx_a g_nodeL cyI 320 u.2.2.2.2.2.2.2.2.2.1, kx_a g_nodeR cyI 320 u.2.2.2.2.2.2.2.2.2.2.1, kx_a g_part cyI 320 u.2.2.2.2.2.2.2.2.2.2.2.2] t.heap ∧ va_K (dC, dI) vwCl [(cyI, .int)] t ∧ va_D (va_A [kx_5 h0 g_row m_n m_slots m_thrown g_many g_loss g_less g_voteValue g_voteNumber g_allValue g_allNumber m_allMany g_nodeL g_nodeR m_nodes g_part m_partMany g_wasMany g_wasLoss g_wasValue g_wasNumber g_path m_pathMany g_heavyValue g_heavyTimes m_heavyMany g_fewest g_which g_met m_mostMet, kx_a g_row cyI 160 f, kx_a g_many cyI 324 fm, kx_a g_loss cyI 324 fl, kx_a g_less cyI 324 fe, kx_a g_voteValue cyI 1944 vv, kx_a g_voteNumber cyI 1944 vn, kx_a g_allValue cyI 12 av, kx_a g_allNumber cyI 12 an, kx_a g_nodeL cyI 320 nl, kx_a g_nodeR cyI 320 nr, kx_a g_part cyI 320 gp] sz) [kx_5 h0 g_row m_n m_slots 0 g_many g_loss g_less g_voteValue g_voteNumber g_allValue g_allNumber u.2.1 g_nodeL g_nodeR u.1 g_part u.2.2.2.2.2.2.2.2.2.2.2.1 g_wasMany g_wasLoss g_wasValue g_wasNumber g_path m_pathMany g_heavyValue g_heavyTimes m_heavyMany g_fewest g_which g_met m_mostMet, kx_a g_row cyI 160 f, kx_a g_many cyI 324 u.2.2.1, kx_a g_loss cyI 324 u.2.2.2.1, kx_a g_less cyI 324 u.2.2.2.2.1, kx_a g_voteValue cyI 1944 u.2.2.2.2.2.1, kx_a g_voteNumber cyI 1944 u.2.2.2.2.2.2.1, kx_a g_allValue cyI 12 u.2.2.2.2.2.2.2.1, kx_a g_allNumber cyI 12 u.2.2.2.2.2.2.2.2.1, kx_a g_nodeL cyI 320 u.2.2.2.2.2.2.2.2.2.1, kx_a g_nodeR cyI 320 u.2.2.2.2.2.2.2.2.2.2.1, kx_a g_part cyI 320 u.2.2.2.2.2.2.2.2.2.2.2.2]) (va_A [kx_5 h0 g_row m_n m_slots m_thrown g_many g_loss g_less g_voteValue g_voteNumber g_allValue g_allNumber m_allMany g_nodeL g_nodeR m_nodes g_part m_partMany g_wasMany g_wasLoss g_wasValue g_wasNumber g_path m_pathMany g_heavyValue g_heavyTimes m_heavyMany g_fewest g_which g_met m_mostMet, kx_a g_row cyI 160 f, kx_a g_many cyI 324 fm, kx_a g_loss cyI 324 fl, kx_a g_less cyI 324 fe, kx_a g_voteValue cyI 1944 vv, kx_a g_voteNumber cyI 1944 vn, kx_a g_allValue cyI 12 av, kx_a g_allNumber cyI 12 an, kx_a g_nodeL cyI 320 nl, kx_a g_nodeR cyI 320 nr, kx_a g_part cyI 320 gp] sz)) 0 0 (va_A [kx_5 h0 g_row m_n m_slots m_thrown g_many g_loss g_less g_voteValue g_voteNumber g_allValue g_allNumber m_allMany g_nodeL g_nodeR m_nodes g_part m_partMany g_wasMany g_wasLoss g_wasValue g_wasNumber g_path m_pathMany g_heavyValue g_heavyTimes m_heavyMany g_fewest g_which g_met m_mostMet, kx_a g_row cyI 160 f, kx_a g_many cyI 324 fm, kx_a g_loss cyI 324 fl, kx_a g_less cyI 324 fe, kx_a g_voteValue cyI 1944 vv, kx_a g_voteNumber cyI 1944 vn, kx_a g_allValue cyI 12 av, kx_a g_allNumber cyI 12 an, kx_a g_nodeL cyI 320 nl, kx_a g_nodeR cyI 320 nr, kx_a g_part cyI 320 gp] sz) := by
  refine Met.ofW (cc := cX5_summary) (maxL := 4) (ret := (some .int)) (by decide) rfl ?_
  intro p e s m args below meth c s₁ B hml hv
  obtain ⟨rfl, hsz, hP, hK, hD0⟩ := hv
  have hx := B.exec
  have hb := B.bytes
  have hr := B.returns
  have hts := atoms_spec (ws := wsX5_summary) B.pre
  have hown : s.vm.findClass RX5 = some m.cls := findClass_of_methodNamed B.named
  have hlocks := B.notSynchronized
  subst hsz
  have hD := hD0.self (sz := s.heap.size)
  generalize hAe : va_A [kx_5 h0 g_row m_n m_slots m_thrown g_many g_loss g_less g_voteValue g_voteNumber g_allValue g_allNumber m_allMany g_nodeL g_nodeR m_nodes g_part m_partMany g_wasMany g_wasLoss g_wasValue g_wasNumber g_path m_pathMany g_heavyValue g_heavyTimes m_heavyMany g_fewest g_which g_met m_mostMet, kx_a g_row cyI 160 f, kx_a g_many cyI 324 fm, kx_a g_loss cyI 324 fl, kx_a g_less cyI 324 fe, kx_a g_voteValue cyI 1944 vv, kx_a g_voteNumber cyI 1944 vn, kx_a g_allValue cyI 12 av, kx_a g_allNumber cyI 12 an, kx_a g_nodeL cyI 320 nl, kx_a g_nodeR cyI 320 nr, kx_a g_part cyI 320 gp] s.heap.size = A at hD ⊢
  have hA : ∀ q : Nat, s.heap.size ≤ q → A q := fun q h => by rw [← hAe]; exact Or.inr h
  have hS : va_S A s.heap s.heap [] := va_S.rf
  have hP : va_P (dC, dI) vwCl [kx_5 h0 g_row m_n m_slots m_thrown g_many g_loss g_less g_voteValue g_voteNumber g_allValue g_allNumber m_allMany g_nodeL g_nodeR m_nodes g_part m_partMany g_wasMany g_wasLoss g_wasValue g_wasNumber g_path m_pathMany g_heavyValue g_heavyTimes m_heavyMany g_fewest g_which g_met m_mostMet, kx_a g_row cyI 160 f, kx_a g_many cyI 324 fm, kx_a g_loss cyI 324 fl, kx_a g_less cyI 324 fe, kx_a g_voteValue cyI 1944 vv, kx_a g_voteNumber cyI 1944 vn, kx_a g_allValue cyI 12 av, kx_a g_allNumber cyI 12 an, kx_a g_nodeL cyI 320 nl, kx_a g_nodeR cyI 320 nr, kx_a g_part cyI 320 gp] s.heap := hP
  have hl := lv_entry ([.ref h0, .int p0, .int p1, .int p2]) (n := 4) (Nat.le_of_ble_eq_true rfl)
  rw [lg_entry_eq]
  generalize (lg_sl ([.ref h0, .int p0, .int p1, .int p2]) ++ List.replicate (4 - (lg_sl ([.ref h0, .int p0, .int p1, .int p2])).length) Slot.unset).toArray = ls at hl ⊢
  have hl : lv_has ls 4 [(0, .ref h0), (1, .int p0), (2, .int p1), (3, .int p2)] := hl
  have hf_77 := hts (.fieldLink RX5 77 "MajorityIndexModel" "thrown" "I") (List.mem_of_getElem? (i := 1) rfl)
  have hi_5 : ∀ w ∈ u_ws RX5 TX5 30, w ∈ wsX5_summary := fun w h => List.mem_cons_of_mem _ (List.mem_append_right _ h)
  have hf_20 := hts (.fieldLink RX5 20 "MajorityIndexModel" "loss" "[I") (List.mem_of_getElem? (i := 3) rfl)
  have hf_17 := hts (.fieldLink RX5 17 "MajorityIndexModel" "many" "[I") (List.mem_of_getElem? (i := 2) rfl)
  refine lv_aload_n hx hb dX5_summary_0 rfl (lv_at hl 0 rfl) ?_
  refine lv_iconst (v := 0) hx hb dX5_summary_1 (by decide) ?_
  refine va_put (D := (dC, dI)) (ci := 5) (v := .int 0) (ty := .int) (C := RX5) (T := TX5) (N := 30) hx hb hts hi_5 tyX5 tyX5_ok nmX5 hown hK hP hD hS 0 rfl rfl 3 (by decide) hf_77 (fun _ h9 => h9) rfl (by decide +kernel) rfl rfl (Nat.le_of_ble_eq_true rfl) dX5_summary_2 (fun H locs hP hD hS => ?_)
  have hP : va_P (dC, dI) vwCl [kx_5 h0 g_row m_n m_slots 0 g_many g_loss g_less g_voteValue g_voteNumber g_allValue g_allNumber m_allMany g_nodeL g_nodeR m_nodes g_part m_partMany g_wasMany g_wasLoss g_wasValue g_wasNumber g_path m_pathMany g_heavyValue g_heavyTimes m_heavyMany g_fewest g_which g_met m_mostMet, kx_a g_row cyI 160 f, kx_a g_many cyI 324 fm, kx_a g_loss cyI 324 fl, kx_a g_less cyI 324 fe, kx_a g_voteValue cyI 1944 vv, kx_a g_voteNumber cyI 1944 vn, kx_a g_allValue cyI 12 av, kx_a g_allNumber cyI 12 an, kx_a g_nodeL cyI 320 nl, kx_a g_nodeR cyI 320 nr, kx_a g_part cyI 320 gp] H := hP
  have hD : va_D A [kx_5 h0 g_row m_n m_slots 0 g_many g_loss g_less g_voteValue g_voteNumber g_allValue g_allNumber m_allMany g_nodeL g_nodeR m_nodes g_part m_partMany g_wasMany g_wasLoss g_wasValue g_wasNumber g_path m_pathMany g_heavyValue g_heavyTimes m_heavyMany g_fewest g_which g_met m_mostMet, kx_a g_row cyI 160 f, kx_a g_many cyI 324 fm, kx_a g_loss cyI 324 fl, kx_a g_less cyI 324 fe, kx_a g_voteValue cyI 1944 vv, kx_a g_voteNumber cyI 1944 vn, kx_a g_allValue cyI 12 av, kx_a g_allNumber cyI 12 an, kx_a g_nodeL cyI 320 nl, kx_a g_nodeR cyI 320 nr, kx_a g_part cyI 320 gp] := hD
  refine lv_aload_n hx hb dX5_summary_5 rfl (lv_at hl 0 rfl) ?_
  refine lv_iload_n hx hb dX5_summary_6 rfl (lv_at hl 1 rfl) ?_
  refine lv_iload_n hx hb dX5_summary_7 rfl (lv_at hl 2 rfl) ?_
  have hPc := hP.sub (ws' := [kx_5 h0 g_row m_n m_slots 0 g_many g_loss g_less g_voteValue g_voteNumber g_allValue g_allNumber m_allMany g_nodeL g_nodeR m_nodes g_part m_partMany g_wasMany g_wasLoss g_wasValue g_wasNumber g_path m_pathMany g_heavyValue g_heavyTimes m_heavyMany g_fewest g_which g_met m_mostMet]) [0] rfl
  have hKc := hK.sub (tys' := []) [] rfl
  refine vp_callSi (W.runV (As := [.int p0, .int p1]) (rest := []) ⟨hx, hb, hml, hown, hts⟩ (c_X5_isRange l dC dI h0 g_row g_many g_loss g_less g_voteValue g_voteNumber g_allValue g_allNumber g_nodeL g_nodeR g_part g_wasMany g_wasLoss g_wasValue g_wasNumber g_path g_heavyValue g_heavyTimes g_fewest g_which g_met m_n m_slots 0 m_allMany m_nodes m_partMany m_pathMany m_heavyMany m_mostMet p0 p1) (cwV 2 hts gX5_summary_X5_isRange rfl rfl rfl (by decide +kernel) ⟨Nat.le_of_ble_eq_true rfl, Nat.le_of_ble_eq_true rfl⟩) ⟨fun a U g mk q => by obtain ⟨q0, qP, qK⟩ := q; exact ⟨q0, qP, va_K.moved (u := U) (U := U.calling g mk a) (Vm.Alike.refl U.vm) qK⟩, va_recv hKc hPc (ci := 5) (q0 := 0) rfl rfl, fun U hU hW => ⟨rfl, by rw [hU]; exact hPc, va_K.moved hW.alike hKc⟩⟩ rfl rfl hl.1 rfl (lv_room (Nat.le_of_ble_eq_true rfl)) dX5_summary_8 ⟨Nat.le_of_ble_eq_true rfl, Nat.le_of_ble_eq_true rfl⟩) (fun r_1 w_1 => ?_)
  rcases w_1 with ⟨rfl, w_1⟩ | ⟨rfl, w_1⟩
  · have w_1 : (0 ≤ p0.toInt ∧ p0.toInt < p1.toInt ∧ p1.toInt ≤ m_n.toInt) := w_1
    refine lv_if_eq (tgt := 23) hx hb dX5_summary_11 (by decide) (fun c_2 => ?_) (fun c_2 => ?_)
    · exact absurd c_2 (by decide)
    · refine lv_iload_n hx hb dX5_summary_14 rfl (lv_at hl 3 rfl) ?_
      refine lv_iconst (v := 0) hx hb dX5_summary_15 (by decide) ?_
      refine lv_iconst (v := 2) hx hb dX5_summary_16 (by decide) ?_
      have hPc := hP.sub (ws' := []) [] rfl
      have hKc := hK.sub (tys' := []) [] rfl
      refine vp_callSi (W.runS (As := [.int p2, .int 0, .int 2]) (rest := []) ⟨hx, hb, hml, hown, hts⟩ (c_X5_within l dC dI p2 0 2) (va_cwS 3 hts gX5_summary_X5_within rfl rfl rfl (by decide +kernel) ⟨Nat.le_of_ble_eq_true rfl, Nat.le_of_ble_eq_true rfl⟩) ⟨fun a U g mk q => by obtain ⟨q0, qP, qK⟩ := q; exact ⟨q0, qP, va_K.moved (u := U) (U := U.calling g mk a) (Vm.Alike.refl U.vm) qK⟩, fun U hU hW => ⟨rfl, by rw [hU]; exact hPc, va_K.moved hW.alike hKc⟩⟩ rfl rfl hl.1 rfl (lv_room (Nat.le_of_ble_eq_true rfl)) dX5_summary_17 ⟨Nat.le_of_ble_eq_true rfl, Nat.le_of_ble_eq_true rfl⟩) (fun r_3 w_3 => ?_)
      rcases w_3 with ⟨rfl, w_3⟩ | ⟨rfl, w_3⟩
      · have w_3 : (0 ≤ p2.toInt ∧ p2.toInt ≤ 2) := w_3
        refine lv_if_ne (tgt := 25) hx hb dX5_summary_20 (by decide) (fun c_4 => ?_) (fun c_4 => ?_)
        · refine lv_aload_n hx hb dX5_summary_25 rfl (lv_at hl 0 rfl) ?_
          refine lv_iload_n hx hb dX5_summary_26 rfl (lv_at hl 1 rfl) ?_
          refine lv_iload_n hx hb dX5_summary_27 rfl (lv_at hl 2 rfl) ?_
          have hPc := hP
          have hKc := hK
          have hDc := hD
          have hFc := kx_free hD hS hA
          refine va_callv (va_runV (As := [.int p0, .int p1]) (rest := []) ⟨hx, hb, hml, hown, hts⟩ (c_X5_sums l dC dI h0 g_row g_many g_loss g_less g_voteValue g_voteNumber g_allValue g_allNumber g_nodeL g_nodeR g_part g_wasMany g_wasLoss g_wasValue g_wasNumber g_path g_heavyValue g_heavyTimes g_fewest g_which g_met m_n m_slots 0 m_allMany m_nodes m_partMany m_pathMany m_heavyMany m_mostMet cyI fm fl fe vv vn f av an nl nr gp p0 p1 H.size a0 a1 sl0 sl1 s4 q0 (by omega) (by omega) (by omega)) (cwV 2 hts gX5_summary_X5_sums rfl rfl rfl (by decide +kernel) ⟨Nat.le_of_ble_eq_true rfl, Nat.le_of_ble_eq_true rfl⟩) ⟨fun a U g mk q => by obtain ⟨q0, q1, qP, qK, qD⟩ := q; exact ⟨q0, q1, qP, va_K.moved (u := U) (U := U.calling g mk a) (Vm.Alike.refl U.vm) qK, qD⟩, va_recv hKc hPc (ci := 5) (q0 := 0) rfl rfl, fun U hU hW => ⟨rfl, by rw [hU], by rw [hU]; exact hPc, va_K.moved hW.alike hKc, hDc.weaken (fun _ _ _ _ => trivial)⟩⟩ rfl rfl hl.1 rfl (lv_room (Nat.le_of_ble_eq_true rfl)) dX5_summary_28 ⟨Nat.le_of_ble_eq_true rfl, Nat.le_of_ble_eq_true rfl⟩) hS (fun q _ h => hFc q h) hFc (fun u t H1 locs ht hvm w_5 hB hz1 hk1 hS => ?_)
          obtain ⟨o_6, o_7, o_8, o_9, o_10, o_11, o_12, o_13, o_14, o_15, o_16, o_17, o_18⟩ := u
          dsimp only at w_5 hB
          obtain ⟨hP1, hK1, hD1⟩ := hB
          rw [ht] at hP1
          have hK1 := va_K.moved hvm.symm hK1
          have hD := hD1.weaken (fun _ q _ h => hFc q.1 h)
          have hP := hP1
          clear hP1 hD1 hK1 hk1 hz1 hFc hDc hPc hKc
          generalize H1 = H at hP hS ⊢
          have w_5 : six4 o_8 ∧ parts320 o_18 ∧ mj_L m_slots.toNatClampNeg f o_15 o_16 o_8 o_9 o_10 o_11 o_12 m_n.toInt o_6.toInt ∧ 0 ≤ o_6.toInt ∧ o_6.toInt ≤ 319 ∧ mj_F m_slots.toNatClampNeg o_15 o_16 o_8 o_9 o_11 o_12 o_8 o_9 o_11 o_12 p0.toInt p1.toInt (mj_pq o_15 o_16 p0.toInt p1.toInt o_6.toNatClampNeg) := w_5
          refine lv_iload_n hx hb dX5_summary_31 rfl (lv_at hl 3 rfl) ?_
          refine lv_if_ne (tgt := 46) hx hb dX5_summary_32 (by decide) (fun c_19 => ?_) (fun c_19 => ?_)
          · have i_19 : ¬ p2.toInt = 0 := kc_ne c_19
            refine lv_iload_n hx hb dX5_summary_46 rfl (lv_at hl 3 rfl) ?_
            refine lv_iconst (v := 1) hx hb dX5_summary_47 (by decide) ?_
            refine lv_icmp_ne (tgt := 61) hx hb dX5_summary_48 (by decide) (fun c_20 => ?_) (fun c_20 => ?_)
            · have i_20 : ¬ p2.toInt = 1 := kc_ne c_20
              refine lv_aload_n hx hb dX5_summary_61 rfl (lv_at hl 0 rfl) ?_
              refine va_get (D := (dC, dI)) (ci := 5) (v := .ref g_loss) (C := RX5) (T := TX5) (N := 30) hx hb hts hi_5 hown hK hP 0 rfl rfl 5 (by decide) hf_20 (fun _ h9 => h9) rfl dX5_summary_62 ?_
              refine lv_sipush (v := 320) hx hb dX5_summary_65 (by decide) ?_
              refine va_iald hx hb hK hP 3 0 rfl rfl (ki_inl (by decide)) dX5_summary_68 ?_
              refine lv_topi (fun y_21 ey_21 => ?_)
              have j_21 : y_21.toInt = (o_9 (320 : Int32).toNatClampNeg).toInt := congrArg Int32.toInt ey_21
              have hP9 := hP
              have hD9 := hD
              have hK9 := hK
              exact W.iret (v := y_21) hx hb hr (fun t ht hW => ⟨⟨y_21, (o_6, o_7, o_8, o_9, o_10, o_11, o_12, o_13, o_14, o_15, o_16, o_17, o_18), rfl, ⟨w_5.1, w_5.2.1⟩, by rw [ht]; exact hP9, va_K.moved hW.alike hK9, hD9⟩, hS.F ht⟩) hS.2.2 dX5_summary_69
            · have i_20 : p2.toInt = 1 := kc_eq c_20
              refine lv_aload_n hx hb dX5_summary_51 rfl (lv_at hl 0 rfl) ?_
              refine lv_sipush (v := 320) hx hb dX5_summary_52 (by decide) ?_
              have hPc := hP.sub (ws' := [kx_5 h0 g_row m_n m_slots 0 g_many g_loss g_less g_voteValue g_voteNumber g_allValue g_allNumber o_7 g_nodeL g_nodeR o_6 g_part o_17 g_wasMany g_wasLoss g_wasValue g_wasNumber g_path m_pathMany g_heavyValue g_heavyTimes m_heavyMany g_fewest g_which g_met m_mostMet, kx_a g_many cyI 324 o_8, kx_a g_voteNumber cyI 1944 o_12]) [0, 2, 6] rfl
              have hKc := hK
              have k_22 : (320 : Int32).toInt = 320 := rfl
              refine vp_callSi (W.runV (As := [.int 320]) (rest := []) ⟨hx, hb, hml, hown, hts⟩ (c_X5_numbersOf l dC dI h0 g_row g_many g_loss g_less g_voteValue g_voteNumber g_allValue g_allNumber g_nodeL g_nodeR g_part g_wasMany g_wasLoss g_wasValue g_wasNumber g_path g_heavyValue g_heavyTimes g_fewest g_which g_met m_n m_slots 0 o_7 o_6 o_17 m_pathMany m_heavyMany m_mostMet cyI o_8 o_12 320 om_252 om_253 w_5.1) (cwV 1 hts gX5_summary_X5_numbersOf rfl rfl rfl (by decide +kernel) ⟨Nat.le_of_ble_eq_true rfl, Nat.le_of_ble_eq_true rfl⟩) ⟨fun a U g mk q => by obtain ⟨q0, qP, qK⟩ := q; exact ⟨q0, qP, va_K.moved (u := U) (U := U.calling g mk a) (Vm.Alike.refl U.vm) qK⟩, va_recv hKc hPc (ci := 5) (q0 := 0) rfl rfl, fun U hU hW => ⟨rfl, by rw [hU]; exact hPc, va_K.moved hW.alike hKc⟩⟩ rfl rfl hl.1 rfl (lv_room (Nat.le_of_ble_eq_true rfl)) dX5_summary_55 ⟨Nat.le_of_ble_eq_true rfl, Nat.le_of_ble_eq_true rfl⟩) (fun r_23 w_23 => ?_)
              refine lv_goto (tgt := 69) hx hb dX5_summary_58 (by decide) ?_
              have hP9 := hP
              have hD9 := hD
              have hK9 := hK
              exact W.iret (v := r_23) hx hb hr (fun t ht hW => ⟨⟨r_23, (o_6, o_7, o_8, o_9, o_10, o_11, o_12, o_13, o_14, o_15, o_16, o_17, o_18), rfl, ⟨w_5.1, w_5.2.1⟩, by rw [ht]; exact hP9, va_K.moved hW.alike hK9, hD9⟩, hS.F ht⟩) hS.2.2 dX5_summary_69
          · have i_19 : p2.toInt = 0 := kc_eq c_19
            refine lv_aload_n hx hb dX5_summary_35 rfl (lv_at hl 0 rfl) ?_
            refine va_get (D := (dC, dI)) (ci := 5) (v := .ref g_many) (C := RX5) (T := TX5) (N := 30) hx hb hts hi_5 hown hK hP 0 rfl rfl 4 (by decide) hf_17 (fun _ h9 => h9) rfl dX5_summary_36 ?_
            refine lv_sipush (v := 320) hx hb dX5_summary_39 (by decide) ?_
            refine va_iald hx hb hK hP 2 0 rfl rfl (ki_inl (by decide)) dX5_summary_42 ?_
            refine lv_topi (fun y_24 ey_24 => ?_)
            have j_24 : y_24.toInt = (o_8 (320 : Int32).toNatClampNeg).toInt := congrArg Int32.toInt ey_24
            have n_25 : ((320 : Int32).toNatClampNeg : Int) = 320 := ki_nat _ rfl om_252
            have i_26 := w_5.1 (320 : Int32).toNatClampNeg (by omega)
            refine lv_goto (tgt := 69) hx hb dX5_summary_43 (by decide) ?_
            have hP9 := hP
            have hD9 := hD
            have hK9 := hK
            exact W.iret (v := y_24) hx hb hr (fun t ht hW => ⟨⟨y_24, (o_6, o_7, o_8, o_9, o_10, o_11, o_12, o_13, o_14, o_15, o_16, o_17, o_18), rfl, ⟨w_5.1, w_5.2.1⟩, by rw [ht]; exact hP9, va_K.moved hW.alike hK9, hD9⟩, hS.F ht⟩) hS.2.2 dX5_summary_69
        · exact absurd c_4 (by decide)
      · have w_3 : (p2.toInt < 0 ∨ 2 < p2.toInt) := w_3
        refine lv_if_ne (tgt := 25) hx hb dX5_summary_20 (by decide) (fun c_27 => ?_) (fun c_27 => ?_)
        · exact absurd c_27 (by decide)
        · refine lv_iconst (v := (-1)) hx hb dX5_summary_23 (by decide) ?_
          have hP9 := hP
          have hD9 := hD
          have hK9 := hK
          exact W.iret (v := (-1)) hx hb hr (fun t ht hW => ⟨⟨(-1), (m_nodes, m_allMany, fm, fl, fe, vv, vn, av, an, nl, nr, m_partMany, gp), rfl, ⟨s4, q0⟩, by rw [ht]; exact hP9, va_K.moved hW.alike hK9, hD9⟩, hS.F ht⟩) hS.2.2 dX5_summary_24
  · have w_1 : (p0.toInt < 0 ∨ p1.toInt ≤ p0.toInt ∨ m_n.toInt < p1.toInt) := w_1
    refine lv_if_eq (tgt := 23) hx hb dX5_summary_11 (by decide) (fun c_28 => ?_) (fun c_28 => ?_)
    · refine lv_iconst (v := (-1)) hx hb dX5_summary_23 (by decide) ?_
      have hP9 := hP
      have hD9 := hD
      have hK9 := hK
      exact W.iret (v := (-1)) hx hb hr (fun t ht hW => ⟨⟨(-1), (m_nodes, m_allMany, fm, fl, fe, vv, vn, av, an, nl, nr, m_partMany, gp), rfl, ⟨s4, q0⟩, by rw [ht]; exact hP9, va_K.moved hW.alike hK9, hD9⟩, hS.F ht⟩) hS.2.2 dX5_summary_24
    · exact absurd c_28 (by decide)

set_option maxHeartbeats 4000000 in
set_option maxRecDepth 100000 in
theorem c_X5_candidate (l : Launch) (dC : Nat → ClassId) (dI : Nat → Nat → Nat) (h0 : Nat) (g_row : Nat) (g_many : Nat) (g_loss : Nat) (g_less : Nat) (g_voteValue : Nat) (g_voteNumber : Nat) (g_allValue : Nat) (g_allNumber : Nat) (g_nodeL : Nat) (g_nodeR : Nat) (g_part : Nat) (g_wasMany : Nat) (g_wasLoss : Nat) (g_wasValue : Nat) (g_wasNumber : Nat) (g_path : Nat) (g_heavyValue : Nat) (g_heavyTimes : Nat) (g_fewest : Nat) (g_which : Nat) (g_met : Nat) (m_n : Int32) (m_slots : Int32) (m_thrown : Int32) (m_allMany : Int32) (m_nodes : Int32) (m_partMany : Int32) (m_pathMany : Int32) (m_heavyMany : Int32) (m_mostMet : Int32) (cyI : ClassId) (fm : Nat → Int32) (fl : Nat → Int32) (fe : Nat → Int32) (vv : Nat → Int32) (vn : Nat → Int32) (f : Nat → Int32) (av : Nat → Int32) (an : Nat → Int32) (nl : Nat → Int32) (nr : Nat → Int32) (gp : Nat → Int32) (p0 : Int32) (p1 : Int32) (p2 : Int32) (p3 : Int32) (sz : Nat) (a0 : 0 ≤ m_n.toInt) (a1 : m_n.toInt ≤ 160) (sl0 : 1 ≤ m_slots.toInt) (sl1 : m_slots.toInt ≤ 6) (s4 : six4 fm) (q0 : parts320 gp) : Met l yX5_candidate wsX5_candidate ({ frames := 13, cells := 0, slots := 0, locals := 585 }) (va_Pc [.ref h0, .int p0, .int p1, .int p2, .int p3] (fun U => U.heap.size = sz ∧ va_P (dC, dI) vwCl [kx_5 h0 g_row m_n m_slots m_thrown g_many g_loss g_less g_voteValue g_voteNumber g_allValue g_allNumber m_allMany g_nodeL g_nodeR m_nodes g_part m_partMany g_wasMany g_wasLoss g_wasValue g_wasNumber g_path m_pathMany g_heavyValue g_heavyTimes m_heavyMany g_fewest g_which g_met m_mostMet, kx_a g_row cyI 160 f, kx_a g_many cyI 324 fm, kx_a g_loss cyI 324 fl, kx_a g_less cyI 324 fe, kx_a g_voteValue cyI 1944 vv, kx_a g_voteNumber cyI 1944 vn, kx_a g_allValue cyI 12 av, kx_a g_allNumber cyI 12 an, kx_a g_nodeL cyI 320 nl, kx_a g_nodeR cyI 320 nr, kx_a g_part cyI 320 gp] U.heap ∧ va_K (dC, dI) vwCl [(cyI, .int)] U ∧ va_D (fun _ => True) [kx_5 h0 g_row m_n m_slots m_thrown g_many g_loss g_less g_voteValue g_voteNumber g_allValue g_allNumber m_allMany g_nodeL g_nodeR m_nodes g_part m_partMany g_wasMany g_wasLoss g_wasValue g_wasNumber g_path m_pathMany g_heavyValue g_heavyTimes m_heavyMany g_fewest g_which g_met m_mostMet, kx_a g_row cyI 160 f, kx_a g_many cyI 324 fm, kx_a g_loss cyI 324 fl, kx_a g_less cyI 324 fe, kx_a g_voteValue cyI 1944 vv, kx_a g_voteNumber cyI 1944 vn, kx_a g_allValue cyI 12 av, kx_a g_allNumber cyI 12 an, kx_a g_nodeL cyI 320 nl, kx_a g_nodeR cyI 320 nr, kx_a g_part cyI 320 gp])) (va_Qi (fun (r : Int32) (u : Int32 × Int32 × (Nat → Int32) × (Nat → Int32) × (Nat → Int32) × (Nat → Int32) × (Nat → Int32) × (Nat → Int32) × (Nat → Int32) × (Nat → Int32) × (Nat → Int32) × Int32 × (Nat → Int32) × Int32) => six4 u.2.2.1 ∧ parts320 u.2.2.2.2.2.2.2.2.2.2.2.2.1) (fun (u : Int32 × Int32 × (Nat → Int32) × (Nat → Int32) × (Nat → Int32) × (Nat → Int32) × (Nat → Int32) × (Nat → Int32) × (Nat → Int32) × (Nat → Int32) × (Nat → Int32) × Int32 × (Nat → Int32) × Int32) (t : State) => va_P (dC, dI) vwCl [kx_5 h0 g_row m_n m_slots u.2.2.2.2.2.2.2.2.2.2.2.2.2 g_many g_loss g_less g_voteValue g_voteNumber g_allValue g_allNumber u.2.1 g_nodeL g_nodeR u.1 g_part u.2.2.2.2.2.2.2.2.2.2.2.1 g_wasMany g_wasLoss g_wasValue g_wasNumber g_path m_pathMany g_heavyValue g_heavyTimes m_heavyMany g_fewest g_which g_met m_mostMet, kx_a g_row cyI 160 f, kx_a g_many cyI 324 u.2.2.1, kx_a g_loss cyI 324 u.2.2.2.1, kx_a g_less cyI 324 u.2.2.2.2.1, kx_a g_voteValue cyI 1944 u.2.2.2.2.2.1, kx_a g_voteNumber cyI 1944 u.2.2.2.2.2.2.1, kx_a g_allValue cyI 12 u.2.2.2.2.2.2.2.1, kx_a g_allNumber cyI 12 u.2.2.2.2.2.2.2.2.1, kx_a g_nodeL cyI 320 u.2.2.2.2.2.2.2.2.2.1, kx_a g_nodeR cyI 320 u.2.2.2.2.2.2.2.2.2.2.1, kx_a g_part cyI 320 u.2.2.2.2.2.2.2.2.2.2.2.2.1] t.heap ∧ va_K (dC, dI) vwCl [(cyI, .int)] t ∧ va_D (va_A [kx_5 h0 g_row m_n m_slots m_thrown g_many g_loss g_less g_voteValue g_voteNumber g_allValue g_allNumber m_allMany g_nodeL g_nodeR m_nodes g_part m_partMany g_wasMany g_wasLoss g_wasValue g_wasNumber g_path m_pathMany g_heavyValue g_heavyTimes m_heavyMany g_fewest g_which g_met m_mostMet, kx_a g_row cyI 160 f, kx_a g_many cyI 324 fm, kx_a g_loss cyI 324 fl, kx_a g_less cyI 324 fe, kx_a g_voteValue cyI 1944 vv, kx_a g_voteNumber cyI 1944 vn, kx_a g_allValue cyI 12 av, kx_a g_allNumber cyI 12 an, kx_a g_nodeL cyI 320 nl, kx_a g_nodeR cyI 320 nr, kx_a g_part cyI 320 gp] sz) [kx_5 h0 g_row m_n m_slots u.2.2.2.2.2.2.2.2.2.2.2.2.2 g_many g_loss g_less g_voteValue g_voteNumber g_allValue g_allNumber u.2.1 g_nodeL g_nodeR u.1 g_part u.2.2.2.2.2.2.2.2.2.2.2.1 g_wasMany g_wasLoss g_wasValue g_wasNumber g_path m_pathMany g_heavyValue g_heavyTimes m_heavyMany g_fewest g_which g_met m_mostMet, kx_a g_row cyI 160 f, kx_a g_many cyI 324 u.2.2.1, kx_a g_loss cyI 324 u.2.2.2.1, kx_a g_less cyI 324 u.2.2.2.2.1, kx_a g_voteValue cyI 1944 u.2.2.2.2.2.1, kx_a g_voteNumber cyI 1944 u.2.2.2.2.2.2.1, kx_a g_allValue cyI 12 u.2.2.2.2.2.2.2.1, kx_a g_allNumber cyI 12 u.2.2.2.2.2.2.2.2.1, kx_a g_nodeL cyI 320 u.2.2.2.2.2.2.2.2.2.1, kx_a g_nodeR cyI 320 u.2.2.2.2.2.2.2.2.2.2.1, kx_a g_part cyI 320 u.2.2.2.2.2.2.2.2.2.2.2.2.1]) (va_A [kx_5 h0 g_row m_n m_slots m_thrown g_many g_loss g_less g_voteValue g_voteNumber g_allValue g_allNumber m_allMany g_nodeL g_nodeR m_nodes g_part m_partMany g_wasMany g_wasLoss g_wasValue g_wasNumber g_path m_pathMany g_heavyValue g_heavyTimes m_heavyMany g_fewest g_which g_met m_mostMet, kx_a g_row cyI 160 f, kx_a g_many cyI 324 fm, kx_a g_loss cyI 324 fl, kx_a g_less cyI 324 fe, kx_a g_voteValue cyI 1944 vv, kx_a g_voteNumber cyI 1944 vn, kx_a g_allValue cyI 12 av, kx_a g_allNumber cyI 12 an, kx_a g_nodeL cyI 320 nl, kx_a g_nodeR cyI 320 nr, kx_a g_part cyI 320 gp] sz)) 0 0 (va_A [kx_5 h0 g_row m_n m_slots m_thrown g_many g_loss g_less g_voteValue g_voteNumber g_allValue g_allNumber m_allMany g_nodeL g_nodeR m_nodes g_part m_partMany g_wasMany g_wasLoss g_wasValue g_wasNumber g_path m_pathMany g_heavyValue g_heavyTimes m_heavyMany g_fewest g_which g_met m_mostMet, kx_a g_row cyI 160 f, kx_a g_many cyI 324 fm, kx_a g_loss cyI 324 fl, kx_a g_less cyI 324 fe, kx_a g_voteValue cyI 1944 vv, kx_a g_voteNumber cyI 1944 vn, kx_a g_allValue cyI 12 av, kx_a g_allNumber cyI 12 an, kx_a g_nodeL cyI 320 nl, kx_a g_nodeR cyI 320 nr, kx_a g_part cyI 320 gp] sz) := by
  refine Met.ofW (cc := cX5_candidate) (maxL := 6) (ret := (some .int)) (by decide) rfl ?_
  intro p e s m args below meth c s₁ B hml hv
  obtain ⟨rfl, hsz, hP, hK, hD0⟩ := hv
  have hx := B.exec
  have hb := B.bytes
  have hr := B.returns
  have hts := atoms_spec (ws := wsX5_candidate) B.pre
  have hown : s.vm.findClass RX5 = some m.cls := findClass_of_methodNamed B.named
  have hlocks := B.notSynchronized
  subst hsz
  have hD := hD0.self (sz := s.heap.size)
  generalize hAe : va_A [kx_5 h0 g_row m_n m_slots m_thrown g_many g_loss g_less g_voteValue g_voteNumber g_allValue g_allNumber m_allMany g_nodeL g_nodeR m_nodes g_part m_partMany g_wasMany g_wasLoss g_wasValue g_wasNumber g_path m_pathMany g_heavyValue g_heavyTimes m_heavyMany g_fewest g_which g_met m_mostMet, kx_a g_row cyI 160 f, kx_a g_many cyI 324 fm, kx_a g_loss cyI 324 fl, kx_a g_less cyI 324 fe, kx_a g_voteValue cyI 1944 vv, kx_a g_voteNumber cyI 1944 vn, kx_a g_allValue cyI 12 av, kx_a g_allNumber cyI 12 an, kx_a g_nodeL cyI 320 nl, kx_a g_nodeR cyI 320 nr, kx_a g_part cyI 320 gp] s.heap.size = A at hD ⊢
  have hA : ∀ q : Nat, s.heap.size ≤ q → A q := fun q h => by rw [← hAe]; exact Or.inr h
  have hS : va_S A s.heap s.heap [] := va_S.rf
  have hP : va_P (dC, dI) vwCl [kx_5 h0 g_row m_n m_slots m_thrown g_many g_loss g_less g_voteValue g_voteNumber g_allValue g_allNumber m_allMany g_nodeL g_nodeR m_nodes g_part m_partMany g_wasMany g_wasLoss g_wasValue g_wasNumber g_path m_pathMany g_heavyValue g_heavyTimes m_heavyMany g_fewest g_which g_met m_mostMet, kx_a g_row cyI 160 f, kx_a g_many cyI 324 fm, kx_a g_loss cyI 324 fl, kx_a g_less cyI 324 fe, kx_a g_voteValue cyI 1944 vv, kx_a g_voteNumber cyI 1944 vn, kx_a g_allValue cyI 12 av, kx_a g_allNumber cyI 12 an, kx_a g_nodeL cyI 320 nl, kx_a g_nodeR cyI 320 nr, kx_a g_part cyI 320 gp] s.heap := hP
  have hl := lv_entry ([.ref h0, .int p0, .int p1, .int p2, .int p3]) (n := 6) (Nat.le_of_ble_eq_true rfl)
  rw [lg_entry_eq]
  generalize (lg_sl ([.ref h0, .int p0, .int p1, .int p2, .int p3]) ++ List.replicate (6 - (lg_sl ([.ref h0, .int p0, .int p1, .int p2, .int p3])).length) Slot.unset).toArray = ls at hl ⊢
  have hl : lv_has ls 6 [(0, .ref h0), (1, .int p0), (2, .int p1), (3, .int p2), (4, .int p3)] := hl
  have hf_77 := hts (.fieldLink RX5 77 "MajorityIndexModel" "thrown" "I") (List.mem_of_getElem? (i := 1) rfl)
  have hi_5 : ∀ w ∈ u_ws RX5 TX5 30, w ∈ wsX5_candidate := fun w h => List.mem_cons_of_mem _ (List.mem_append_right _ h)
  have hf_17 := hts (.fieldLink RX5 17 "MajorityIndexModel" "many" "[I") (List.mem_of_getElem? (i := 2) rfl)
  have hf_26 := hts (.fieldLink RX5 26 "MajorityIndexModel" "voteValue" "[I") (List.mem_of_getElem? (i := 3) rfl)
  have hf_29 := hts (.fieldLink RX5 29 "MajorityIndexModel" "voteNumber" "[I") (List.mem_of_getElem? (i := 4) rfl)
  refine lv_aload_n hx hb dX5_candidate_0 rfl (lv_at hl 0 rfl) ?_
  refine lv_iconst (v := 1) hx hb dX5_candidate_1 (by decide) ?_
  refine va_put (D := (dC, dI)) (ci := 5) (v := .int 1) (ty := .int) (C := RX5) (T := TX5) (N := 30) hx hb hts hi_5 tyX5 tyX5_ok nmX5 hown hK hP hD hS 0 rfl rfl 3 (by decide) hf_77 (fun _ h9 => h9) rfl (by decide +kernel) rfl rfl (Nat.le_of_ble_eq_true rfl) dX5_candidate_2 (fun H locs hP hD hS => ?_)
  have hP : va_P (dC, dI) vwCl [kx_5 h0 g_row m_n m_slots 1 g_many g_loss g_less g_voteValue g_voteNumber g_allValue g_allNumber m_allMany g_nodeL g_nodeR m_nodes g_part m_partMany g_wasMany g_wasLoss g_wasValue g_wasNumber g_path m_pathMany g_heavyValue g_heavyTimes m_heavyMany g_fewest g_which g_met m_mostMet, kx_a g_row cyI 160 f, kx_a g_many cyI 324 fm, kx_a g_loss cyI 324 fl, kx_a g_less cyI 324 fe, kx_a g_voteValue cyI 1944 vv, kx_a g_voteNumber cyI 1944 vn, kx_a g_allValue cyI 12 av, kx_a g_allNumber cyI 12 an, kx_a g_nodeL cyI 320 nl, kx_a g_nodeR cyI 320 nr, kx_a g_part cyI 320 gp] H := hP
  have hD : va_D A [kx_5 h0 g_row m_n m_slots 1 g_many g_loss g_less g_voteValue g_voteNumber g_allValue g_allNumber m_allMany g_nodeL g_nodeR m_nodes g_part m_partMany g_wasMany g_wasLoss g_wasValue g_wasNumber g_path m_pathMany g_heavyValue g_heavyTimes m_heavyMany g_fewest g_which g_met m_mostMet, kx_a g_row cyI 160 f, kx_a g_many cyI 324 fm, kx_a g_loss cyI 324 fl, kx_a g_less cyI 324 fe, kx_a g_voteValue cyI 1944 vv, kx_a g_voteNumber cyI 1944 vn, kx_a g_allValue cyI 12 av, kx_a g_allNumber cyI 12 an, kx_a g_nodeL cyI 320 nl, kx_a g_nodeR cyI 320 nr, kx_a g_part cyI 320 gp] := hD
  refine lv_aload_n hx hb dX5_candidate_5 rfl (lv_at hl 0 rfl) ?_
  refine lv_iload_n hx hb dX5_candidate_6 rfl (lv_at hl 1 rfl) ?_
  refine lv_iload_n hx hb dX5_candidate_7 rfl (lv_at hl 2 rfl) ?_
  have hPc := hP.sub (ws' := [kx_5 h0 g_row m_n m_slots 1 g_many g_loss g_less g_voteValue g_voteNumber g_allValue g_allNumber m_allMany g_nodeL g_nodeR m_nodes g_part m_partMany g_wasMany g_wasLoss g_wasValue g_wasNumber g_path m_pathMany g_heavyValue g_heavyTimes m_heavyMany g_fewest g_which g_met m_mostMet]) [0] rfl
  have hKc := hK.sub (tys' := []) [] rfl
  refine vp_callSi (W.runV (As := [.int p0, .int p1]) (rest := []) ⟨hx, hb, hml, hown, hts⟩ (c_X5_isRange l dC dI h0 g_row g_many g_loss g_less g_voteValue g_voteNumber g_allValue g_allNumber g_nodeL g_nodeR g_part g_wasMany g_wasLoss g_wasValue g_wasNumber g_path g_heavyValue g_heavyTimes g_fewest g_which g_met m_n m_slots 1 m_allMany m_nodes m_partMany m_pathMany m_heavyMany m_mostMet p0 p1) (cwV 2 hts gX5_candidate_X5_isRange rfl rfl rfl (by decide +kernel) ⟨Nat.le_of_ble_eq_true rfl, Nat.le_of_ble_eq_true rfl⟩) ⟨fun a U g mk q => by obtain ⟨q0, qP, qK⟩ := q; exact ⟨q0, qP, va_K.moved (u := U) (U := U.calling g mk a) (Vm.Alike.refl U.vm) qK⟩, va_recv hKc hPc (ci := 5) (q0 := 0) rfl rfl, fun U hU hW => ⟨rfl, by rw [hU]; exact hPc, va_K.moved hW.alike hKc⟩⟩ rfl rfl hl.1 rfl (lv_room (Nat.le_of_ble_eq_true rfl)) dX5_candidate_8 ⟨Nat.le_of_ble_eq_true rfl, Nat.le_of_ble_eq_true rfl⟩) (fun r_1 w_1 => ?_)
  rcases w_1 with ⟨rfl, w_1⟩ | ⟨rfl, w_1⟩
  · have w_1 : (0 ≤ p0.toInt ∧ p0.toInt < p1.toInt ∧ p1.toInt ≤ m_n.toInt) := w_1
    refine lv_if_eq (tgt := 24) hx hb dX5_candidate_11 (by decide) (fun c_2 => ?_) (fun c_2 => ?_)
    · exact absurd c_2 (by decide)
    · refine lv_iload hx hb dX5_candidate_14 (lv_at hl 4 rfl) ?_
      refine lv_iconst (v := 0) hx hb dX5_candidate_16 (by decide) ?_
      refine lv_iconst (v := 2) hx hb dX5_candidate_17 (by decide) ?_
      have hPc := hP.sub (ws' := []) [] rfl
      have hKc := hK.sub (tys' := []) [] rfl
      refine vp_callSi (W.runS (As := [.int p3, .int 0, .int 2]) (rest := []) ⟨hx, hb, hml, hown, hts⟩ (c_X5_within l dC dI p3 0 2) (va_cwS 3 hts gX5_candidate_X5_within rfl rfl rfl (by decide +kernel) ⟨Nat.le_of_ble_eq_true rfl, Nat.le_of_ble_eq_true rfl⟩) ⟨fun a U g mk q => by obtain ⟨q0, qP, qK⟩ := q; exact ⟨q0, qP, va_K.moved (u := U) (U := U.calling g mk a) (Vm.Alike.refl U.vm) qK⟩, fun U hU hW => ⟨rfl, by rw [hU]; exact hPc, va_K.moved hW.alike hKc⟩⟩ rfl rfl hl.1 rfl (lv_room (Nat.le_of_ble_eq_true rfl)) dX5_candidate_18 ⟨Nat.le_of_ble_eq_true rfl, Nat.le_of_ble_eq_true rfl⟩) (fun r_3 w_3 => ?_)
      rcases w_3 with ⟨rfl, w_3⟩ | ⟨rfl, w_3⟩
      · have w_3 : (0 ≤ p3.toInt ∧ p3.toInt ≤ 2) := w_3
        refine lv_if_ne (tgt := 26) hx hb dX5_candidate_21 (by decide) (fun c_4 => ?_) (fun c_4 => ?_)
        · refine lv_aload_n hx hb dX5_candidate_26 rfl (lv_at hl 0 rfl) ?_
          refine lv_iload_n hx hb dX5_candidate_27 rfl (lv_at hl 1 rfl) ?_
          refine lv_iload_n hx hb dX5_candidate_28 rfl (lv_at hl 2 rfl) ?_
          have hPc := hP
          have hKc := hK
          have hDc := hD
          have hFc := kx_free hD hS hA
          refine va_callv (va_runV (As := [.int p0, .int p1]) (rest := []) ⟨hx, hb, hml, hown, hts⟩ (c_X5_sums l dC dI h0 g_row g_many g_loss g_less g_voteValue g_voteNumber g_allValue g_allNumber g_nodeL g_nodeR g_part g_wasMany g_wasLoss g_wasValue g_wasNumber g_path g_heavyValue g_heavyTimes g_fewest g_which g_met m_n m_slots 1 m_allMany m_nodes m_partMany m_pathMany m_heavyMany m_mostMet cyI fm fl fe vv vn f av an nl nr gp p0 p1 H.size a0 a1 sl0 sl1 s4 q0 (by omega) (by omega) (by omega)) (cwV 2 hts gX5_candidate_X5_sums rfl rfl rfl (by decide +kernel) ⟨Nat.le_of_ble_eq_true rfl, Nat.le_of_ble_eq_true rfl⟩) ⟨fun a U g mk q => by obtain ⟨q0, q1, qP, qK, qD⟩ := q; exact ⟨q0, q1, qP, va_K.moved (u := U) (U := U.calling g mk a) (Vm.Alike.refl U.vm) qK, qD⟩, va_recv hKc hPc (ci := 5) (q0 := 0) rfl rfl, fun U hU hW => ⟨rfl, by rw [hU], by rw [hU]; exact hPc, va_K.moved hW.alike hKc, hDc.weaken (fun _ _ _ _ => trivial)⟩⟩ rfl rfl hl.1 rfl (lv_room (Nat.le_of_ble_eq_true rfl)) dX5_candidate_29 ⟨Nat.le_of_ble_eq_true rfl, Nat.le_of_ble_eq_true rfl⟩) hS (fun q _ h => hFc q h) hFc (fun u t H1 locs ht hvm w_5 hB hz1 hk1 hS => ?_)
          obtain ⟨o_6, o_7, o_8, o_9, o_10, o_11, o_12, o_13, o_14, o_15, o_16, o_17, o_18⟩ := u
          dsimp only at w_5 hB
          obtain ⟨hP1, hK1, hD1⟩ := hB
          rw [ht] at hP1
          have hK1 := va_K.moved hvm.symm hK1
          have hD := hD1.weaken (fun _ q _ h => hFc q.1 h)
          have hP := hP1
          clear hP1 hD1 hK1 hk1 hz1 hFc hDc hPc hKc
          generalize H1 = H at hP hS ⊢
          have w_5 : six4 o_8 ∧ parts320 o_18 ∧ mj_L m_slots.toNatClampNeg f o_15 o_16 o_8 o_9 o_10 o_11 o_12 m_n.toInt o_6.toInt ∧ 0 ≤ o_6.toInt ∧ o_6.toInt ≤ 319 ∧ mj_F m_slots.toNatClampNeg o_15 o_16 o_8 o_9 o_11 o_12 o_8 o_9 o_11 o_12 p0.toInt p1.toInt (mj_pq o_15 o_16 p0.toInt p1.toInt o_6.toNatClampNeg) := w_5
          refine lv_iload_n hx hb dX5_candidate_32 rfl (lv_at hl 3 rfl) ?_
          refine lv_iconst (v := 0) hx hb dX5_candidate_33 (by decide) ?_
          refine lv_aload_n hx hb dX5_candidate_34 rfl (lv_at hl 0 rfl) ?_
          refine va_get (D := (dC, dI)) (ci := 5) (v := .ref g_many) (C := RX5) (T := TX5) (N := 30) hx hb hts hi_5 hown hK hP 0 rfl rfl 4 (by decide) hf_17 (fun _ h9 => h9) rfl dX5_candidate_35 ?_
          refine lv_sipush (v := 320) hx hb dX5_candidate_38 (by decide) ?_
          refine va_iald hx hb hK hP 2 0 rfl rfl (ki_inl (by decide)) dX5_candidate_41 ?_
          refine lv_topi (fun y_19 ey_19 => ?_)
          have j_19 : y_19.toInt = (o_8 (320 : Int32).toNatClampNeg).toInt := congrArg Int32.toInt ey_19
          have n_20 : ((320 : Int32).toNatClampNeg : Int) = 320 := ki_nat _ rfl om_252
          have i_21 := w_5.1 (320 : Int32).toNatClampNeg (by omega)
          refine lv_iconst (v := 1) hx hb dX5_candidate_42 (by decide) ?_
          refine lv_isub hx hb dX5_candidate_43 ?_
          refine lv_topi (fun y_22 ey_22 => ?_)
          have i_22 : y_22.toInt = y_19.toInt - 1 := ki_sub ey_22 rfl rfl (by omega) (by omega)
          have hPc := hP.sub (ws' := []) [] rfl
          have hKc := hK.sub (tys' := []) [] rfl
          refine vp_callSi (W.runS (As := [.int p2, .int 0, .int y_22]) (rest := []) ⟨hx, hb, hml, hown, hts⟩ (c_X5_within l dC dI p2 0 y_22) (va_cwS 3 hts gX5_candidate_X5_within rfl rfl rfl (by decide +kernel) ⟨Nat.le_of_ble_eq_true rfl, Nat.le_of_ble_eq_true rfl⟩) ⟨fun a U g mk q => by obtain ⟨q0, qP, qK⟩ := q; exact ⟨q0, qP, va_K.moved (u := U) (U := U.calling g mk a) (Vm.Alike.refl U.vm) qK⟩, fun U hU hW => ⟨rfl, by rw [hU]; exact hPc, va_K.moved hW.alike hKc⟩⟩ rfl rfl hl.1 rfl (lv_room (Nat.le_of_ble_eq_true rfl)) dX5_candidate_44 ⟨Nat.le_of_ble_eq_true rfl, Nat.le_of_ble_eq_true rfl⟩) (fun r_23 w_23 => ?_)
          rcases w_23 with ⟨rfl, w_23⟩ | ⟨rfl, w_23⟩
          · have w_23 : (0 ≤ p2.toInt ∧ p2.toInt ≤ y_22.toInt) := w_23
            refine lv_if_ne (tgt := 52) hx hb dX5_candidate_47 (by decide) (fun c_24 => ?_) (fun c_24 => ?_)
            · refine lv_aload_n hx hb dX5_candidate_52 rfl (lv_at hl 0 rfl) ?_
              refine lv_iconst (v := 0) hx hb dX5_candidate_53 (by decide) ?_
              refine va_put (D := (dC, dI)) (ci := 5) (v := .int 0) (ty := .int) (C := RX5) (T := TX5) (N := 30) hx hb hts hi_5 tyX5 tyX5_ok nmX5 hown hK hP hD hS 0 rfl rfl 3 (by decide) hf_77 (fun _ h9 => h9) rfl (by decide +kernel) rfl rfl (Nat.le_of_ble_eq_true rfl) dX5_candidate_54 (fun H locs hP hD hS => ?_)
              have hP : va_P (dC, dI) vwCl [kx_5 h0 g_row m_n m_slots 0 g_many g_loss g_less g_voteValue g_voteNumber g_allValue g_allNumber o_7 g_nodeL g_nodeR o_6 g_part o_17 g_wasMany g_wasLoss g_wasValue g_wasNumber g_path m_pathMany g_heavyValue g_heavyTimes m_heavyMany g_fewest g_which g_met m_mostMet, kx_a g_row cyI 160 f, kx_a g_many cyI 324 o_8, kx_a g_loss cyI 324 o_9, kx_a g_less cyI 324 o_10, kx_a g_voteValue cyI 1944 o_11, kx_a g_voteNumber cyI 1944 o_12, kx_a g_allValue cyI 12 o_13, kx_a g_allNumber cyI 12 o_14, kx_a g_nodeL cyI 320 o_15, kx_a g_nodeR cyI 320 o_16, kx_a g_part cyI 320 o_18] H := hP
              have hD : va_D A [kx_5 h0 g_row m_n m_slots 0 g_many g_loss g_less g_voteValue g_voteNumber g_allValue g_allNumber o_7 g_nodeL g_nodeR o_6 g_part o_17 g_wasMany g_wasLoss g_wasValue g_wasNumber g_path m_pathMany g_heavyValue g_heavyTimes m_heavyMany g_fewest g_which g_met m_mostMet, kx_a g_row cyI 160 f, kx_a g_many cyI 324 o_8, kx_a g_loss cyI 324 o_9, kx_a g_less cyI 324 o_10, kx_a g_voteValue cyI 1944 o_11, kx_a g_voteNumber cyI 1944 o_12, kx_a g_allValue cyI 12 o_13, kx_a g_allNumber cyI 12 o_14, kx_a g_nodeL cyI 320 o_15, kx_a g_nodeR cyI 320 o_16, kx_a g_part cyI 320 o_18] := hD
              refine lv_aload_n hx hb dX5_candidate_57 rfl (lv_at hl 0 rfl) ?_
              refine va_get (D := (dC, dI)) (ci := 5) (v := .ref g_voteValue) (C := RX5) (T := TX5) (N := 30) hx hb hts hi_5 hown hK hP 0 rfl rfl 7 (by decide) hf_26 (fun _ h9 => h9) rfl dX5_candidate_58 ?_
              refine lv_sipush (v := 1920) hx hb dX5_candidate_61 (by decide) ?_
              refine lv_iload_n hx hb dX5_candidate_64 rfl (lv_at hl 3 rfl) ?_
              refine lv_iadd hx hb dX5_candidate_65 ?_
              refine lv_topi (fun y_25 ey_25 => ?_)
              have i_25 : y_25.toInt = 1920 + p2.toInt := ki_add ey_25 rfl rfl (by omega) (by omega)
              refine va_iald hx hb hK hP 5 0 rfl rfl (ki_in (by omega) (by omega)) dX5_candidate_66 ?_
              refine lv_topi (fun y_26 ey_26 => ?_)
              have j_26 : y_26.toInt = (o_11 y_25.toNatClampNeg).toInt := congrArg Int32.toInt ey_26
              refine lv_istore (lv' := [(5, .int y_26), (0, .ref h0), (1, .int p0), (2, .int p1), (3, .int p2), (4, .int p3)]) hx hb dX5_candidate_67 hl (by decide) rfl (fun ls hl => ?_)
              refine lv_iload hx hb dX5_candidate_69 (lv_at hl 5 rfl) ?_
              refine lv_if_ne (tgt := 79) hx hb dX5_candidate_71 (by decide) (fun c_27 => ?_) (fun c_27 => ?_)
              · have i_27 : ¬ p3.toInt = 0 := kc_ne c_27
                refine lv_iload hx hb dX5_candidate_79 (lv_at hl 5 rfl) ?_
                refine lv_iconst (v := 1) hx hb dX5_candidate_81 (by decide) ?_
                refine lv_icmp_ne (tgt := 98) hx hb dX5_candidate_82 (by decide) (fun c_28 => ?_) (fun c_28 => ?_)
                · have i_28 : ¬ p3.toInt = 1 := kc_ne c_28
                  refine lv_aload_n hx hb dX5_candidate_98 rfl (lv_at hl 1 rfl) ?_
                  refine lv_iload hx hb dX5_candidate_99 (lv_at hl 0 rfl) ?_
                  refine lv_iload_n hx hb dX5_candidate_101 rfl (lv_at hl 2 rfl) ?_
                  refine lv_iload_n hx hb dX5_candidate_102 rfl (lv_at hl 3 rfl) ?_
                  have hPc := hP.sub (ws' := [kx_5 h0 g_row m_n m_slots 0 g_many g_loss g_less g_voteValue g_voteNumber g_allValue g_allNumber o_7 g_nodeL g_nodeR o_6 g_part o_17 g_wasMany g_wasLoss g_wasValue g_wasNumber g_path m_pathMany g_heavyValue g_heavyTimes m_heavyMany g_fewest g_which g_met m_mostMet, kx_a g_row cyI 160 f]) [0, 1] rfl
                  have hKc := hK
                  refine vp_callSi (W.runV (As := [.int y_26, .int p0, .int p1]) (rest := []) ⟨hx, hb, hml, hown, hts⟩ (c_X5_times l dC dI h0 g_row g_many g_loss g_less g_voteValue g_voteNumber g_allValue g_allNumber g_nodeL g_nodeR g_part g_wasMany g_wasLoss g_wasValue g_wasNumber g_path g_heavyValue g_heavyTimes g_fewest g_which g_met m_n m_slots 0 o_7 o_6 o_17 m_pathMany m_heavyMany m_mostMet cyI f y_26 p0 p1 (by omega) (by omega)) (cwV 3 hts gX5_candidate_X5_times rfl rfl rfl (by decide +kernel) ⟨Nat.le_of_ble_eq_true rfl, Nat.le_of_ble_eq_true rfl⟩) ⟨fun a U g mk q => by obtain ⟨q0, qP, qK⟩ := q; exact ⟨q0, qP, va_K.moved (u := U) (U := U.calling g mk a) (Vm.Alike.refl U.vm) qK⟩, va_recv hKc hPc (ci := 5) (q0 := 0) rfl rfl, fun U hU hW => ⟨rfl, by rw [hU]; exact hPc, va_K.moved hW.alike hKc⟩⟩ rfl rfl hl.1 rfl (lv_room (Nat.le_of_ble_eq_true rfl)) dX5_candidate_103 ⟨Nat.le_of_ble_eq_true rfl, Nat.le_of_ble_eq_true rfl⟩) (fun r_29 w_29 => ?_)
                  have w_29 : r_29.toInt = (cnt f y_26 p0.toNatClampNeg (p1.toInt - p0.toInt).toNat : Int) := w_29
                  have hP9 := hP
                  have hD9 := hD
                  have hK9 := hK
                  exact W.iret (v := r_29) hx hb hr (fun t ht hW => ⟨⟨r_29, (o_6, o_7, o_8, o_9, o_10, o_11, o_12, o_13, o_14, o_15, o_16, o_17, o_18, 0), rfl, ⟨w_5.1, w_5.2.1⟩, by rw [ht]; exact hP9, va_K.moved hW.alike hK9, hD9⟩, hS.F ht⟩) hS.2.2 dX5_candidate_106
                · have i_28 : p3.toInt = 1 := kc_eq c_28
                  refine lv_aload_n hx hb dX5_candidate_85 rfl (lv_at hl 1 rfl) ?_
                  refine va_get (D := (dC, dI)) (ci := 5) (v := .ref g_voteNumber) (C := RX5) (T := TX5) (N := 30) hx hb hts hi_5 hown hK hP 0 rfl rfl 8 (by decide) hf_29 (fun _ h9 => h9) rfl dX5_candidate_86 ?_
                  refine lv_sipush (v := 1920) hx hb dX5_candidate_89 (by decide) ?_
                  refine lv_iload_n hx hb dX5_candidate_92 rfl (lv_at hl 4 rfl) ?_
                  refine lv_iadd hx hb dX5_candidate_93 ?_
                  refine lv_topi (fun y_30 ey_30 => ?_)
                  have i_30 : y_30.toInt = 1920 + p2.toInt := ki_add ey_30 rfl rfl (by omega) (by omega)
                  refine va_iald hx hb hK hP 6 0 rfl rfl (ki_in (by omega) (by omega)) dX5_candidate_94 ?_
                  refine lv_topi (fun y_31 ey_31 => ?_)
                  have j_31 : y_31.toInt = (o_12 y_30.toNatClampNeg).toInt := congrArg Int32.toInt ey_31
                  refine lv_goto (tgt := 106) hx hb dX5_candidate_95 (by decide) ?_
                  have hP9 := hP
                  have hD9 := hD
                  have hK9 := hK
                  exact W.iret (v := y_31) hx hb hr (fun t ht hW => ⟨⟨y_31, (o_6, o_7, o_8, o_9, o_10, o_11, o_12, o_13, o_14, o_15, o_16, o_17, o_18, 0), rfl, ⟨w_5.1, w_5.2.1⟩, by rw [ht]; exact hP9, va_K.moved hW.alike hK9, hD9⟩, hS.F ht⟩) hS.2.2 dX5_candidate_106
              · have i_27 : p3.toInt = 0 := kc_eq c_27
                refine lv_iload hx hb dX5_candidate_74 (lv_at hl 0 rfl) ?_
                refine lv_goto (tgt := 106) hx hb dX5_candidate_76 (by decide) ?_
                have hP9 := hP
                have hD9 := hD
                have hK9 := hK
                exact W.iret (v := y_26) hx hb hr (fun t ht hW => ⟨⟨y_26, (o_6, o_7, o_8, o_9, o_10, o_11, o_12, o_13, o_14, o_15, o_16, o_17, o_18, 0), rfl, ⟨w_5.1, w_5.2.1⟩, by rw [ht]; exact hP9, va_K.moved hW.alike hK9, hD9⟩, hS.F ht⟩) hS.2.2 dX5_candidate_106
            · exact absurd c_24 (by decide)
          · have w_23 : (p2.toInt < 0 ∨ y_22.toInt < p2.toInt) := w_23
            refine lv_if_ne (tgt := 52) hx hb dX5_candidate_47 (by decide) (fun c_32 => ?_) (fun c_32 => ?_)
            · exact absurd c_32 (by decide)
            · refine lv_iconst (v := 0) hx hb dX5_candidate_50 (by decide) ?_
              have hP9 := hP
              have hD9 := hD
              have hK9 := hK
              exact W.iret (v := 0) hx hb hr (fun t ht hW => ⟨⟨0, (o_6, o_7, o_8, o_9, o_10, o_11, o_12, o_13, o_14, o_15, o_16, o_17, o_18, 1), rfl, ⟨w_5.1, w_5.2.1⟩, by rw [ht]; exact hP9, va_K.moved hW.alike hK9, hD9⟩, hS.F ht⟩) hS.2.2 dX5_candidate_51
        · exact absurd c_4 (by decide)
      · have w_3 : (p3.toInt < 0 ∨ 2 < p3.toInt) := w_3
        refine lv_if_ne (tgt := 26) hx hb dX5_candidate_21 (by decide) (fun c_33 => ?_) (fun c_33 => ?_)
        · exact absurd c_33 (by decide)
        · refine lv_iconst (v := 0) hx hb dX5_candidate_24 (by decide) ?_
          have hP9 := hP
          have hD9 := hD
          have hK9 := hK
          exact W.iret (v := 0) hx hb hr (fun t ht hW => ⟨⟨0, (m_nodes, m_allMany, fm, fl, fe, vv, vn, av, an, nl, nr, m_partMany, gp, 1), rfl, ⟨s4, q0⟩, by rw [ht]; exact hP9, va_K.moved hW.alike hK9, hD9⟩, hS.F ht⟩) hS.2.2 dX5_candidate_25
  · have w_1 : (p0.toInt < 0 ∨ p1.toInt ≤ p0.toInt ∨ m_n.toInt < p1.toInt) := w_1
    refine lv_if_eq (tgt := 24) hx hb dX5_candidate_11 (by decide) (fun c_34 => ?_) (fun c_34 => ?_)
    · refine lv_iconst (v := 0) hx hb dX5_candidate_24 (by decide) ?_
      have hP9 := hP
      have hD9 := hD
      have hK9 := hK
      exact W.iret (v := 0) hx hb hr (fun t ht hW => ⟨⟨0, (m_nodes, m_allMany, fm, fl, fe, vv, vn, av, an, nl, nr, m_partMany, gp, 1), rfl, ⟨s4, q0⟩, by rw [ht]; exact hP9, va_K.moved hW.alike hK9, hD9⟩, hS.F ht⟩) hS.2.2 dX5_candidate_25
    · exact absurd c_34 (by decide)

set_option maxHeartbeats 4000000 in
set_option maxRecDepth 100000 in
theorem c_X5_lost (l : Launch) (dC : Nat → ClassId) (dI : Nat → Nat → Nat) (h0 : Nat) (g_row : Nat) (g_many : Nat) (g_loss : Nat) (g_less : Nat) (g_voteValue : Nat) (g_voteNumber : Nat) (g_allValue : Nat) (g_allNumber : Nat) (g_nodeL : Nat) (g_nodeR : Nat) (g_part : Nat) (g_wasMany : Nat) (g_wasLoss : Nat) (g_wasValue : Nat) (g_wasNumber : Nat) (g_path : Nat) (g_heavyValue : Nat) (g_heavyTimes : Nat) (g_fewest : Nat) (g_which : Nat) (g_met : Nat) (m_n : Int32) (m_slots : Int32) (m_thrown : Int32) (m_allMany : Int32) (m_nodes : Int32) (m_partMany : Int32) (m_pathMany : Int32) (m_heavyMany : Int32) (m_mostMet : Int32) (cyI : ClassId) (fm : Nat → Int32) (fl : Nat → Int32) (fe : Nat → Int32) (vv : Nat → Int32) (vn : Nat → Int32) (f : Nat → Int32) (av : Nat → Int32) (an : Nat → Int32) (nl : Nat → Int32) (nr : Nat → Int32) (gp : Nat → Int32) (p0 : Int32) (p1 : Int32) (p2 : Int32) (sz : Nat) (a0 : 0 ≤ m_n.toInt) (a1 : m_n.toInt ≤ 160) (sl0 : 1 ≤ m_slots.toInt) (sl1 : m_slots.toInt ≤ 6) (s4 : six4 fm) (q0 : parts320 gp) : Met l yX5_lost wsX5_lost ({ frames := 13, cells := 0, slots := 0, locals := 585 }) (va_Pc [.ref h0, .int p0, .int p1, .int p2] (fun U => U.heap.size = sz ∧ va_P (dC, dI) vwCl [kx_5 h0 g_row m_n m_slots m_thrown g_many g_loss g_less g_voteValue g_voteNumber g_allValue g_allNumber m_allMany g_nodeL g_nodeR m_nodes g_part m_partMany g_wasMany g_wasLoss g_wasValue g_wasNumber g_path m_pathMany g_heavyValue g_heavyTimes m_heavyMany g_fewest g_which g_met m_mostMet, kx_a g_row cyI 160 f, kx_a g_many cyI 324 fm, kx_a g_loss cyI 324 fl, kx_a g_less cyI 324 fe, kx_a g_voteValue cyI 1944 vv, kx_a g_voteNumber cyI 1944 vn, kx_a g_allValue cyI 12 av, kx_a g_allNumber cyI 12 an, kx_a g_nodeL cyI 320 nl, kx_a g_nodeR cyI 320 nr, kx_a g_part cyI 320 gp] U.heap ∧ va_K (dC, dI) vwCl [(cyI, .int)] U ∧ va_D (fun _ => True) [kx_5 h0 g_row m_n m_slots m_thrown g_many g_loss g_less g_voteValue g_voteNumber g_allValue g_allNumber m_allMany g_nodeL g_nodeR m_nodes g_part m_partMany g_wasMany g_wasLoss g_wasValue g_wasNumber g_path m_pathMany g_heavyValue g_heavyTimes m_heavyMany g_fewest g_which g_met m_mostMet, kx_a g_row cyI 160 f, kx_a g_many cyI 324 fm, kx_a g_loss cyI 324 fl, kx_a g_less cyI 324 fe, kx_a g_voteValue cyI 1944 vv, kx_a g_voteNumber cyI 1944 vn, kx_a g_allValue cyI 12 av, kx_a g_allNumber cyI 12 an, kx_a g_nodeL cyI 320 nl, kx_a g_nodeR cyI 320 nr, kx_a g_part cyI 320 gp])) (va_Qi (fun (r : Int32) (u : Int32 × Int32 × (Nat → Int32) × (Nat → Int32) × (Nat → Int32) × (Nat → Int32) × (Nat → Int32) × (Nat → Int32) × (Nat → Int32) × (Nat → Int32) × (Nat → Int32) × Int32 × (Nat → Int32)) => six4 u.2.2.1 ∧ parts320 u.2.2.2.2.2.2.2.2.2.2.2.2) (fun (u : Int32 × Int32 × (Nat → Int32) × (Nat → Int32) × (Nat → Int32) × (Nat → Int32) × (Nat → Int32) × (Nat → Int32) × (Nat → Int32) × (Nat → Int32) × (Nat → Int32) × Int32 × (Nat → Int32)) (t : State) => va_P (dC, dI) vwCl [kx_5 h0 g_row m_n m_slots 0 g_many g_loss g_less g_voteValue g_voteNumber g_allValue g_allNumber u.2.1 g_nodeL g_nodeR u.1 g_part u.2.2.2.2.2.2.2.2.2.2.2.1 g_wasMany g_wasLoss g_wasValue g_wasNumber g_path m_pathMany g_heavyValue g_heavyTimes m_heavyMany g_fewest g_which g_met m_mostMet, kx_a g_row cyI 160 f, kx_a g_many cyI 324 u.2.2.1, kx_a g_loss cyI 324 u.2.2.2.1, kx_a g_less cyI 324 u.2.2.2.2.1, kx_a g_voteValue cyI 1944 u.2.2.2.2.2.1, kx_a g_voteNumber cyI 1944 u.2.2.2.2.2.2.1, kx_a g_allValue cyI 12 u.2.2.2.2.2.2.2.1, kx_a g_allNumber cyI 12 u.2.2.2.2.2.2.2.2.1, kx_a g_nodeL cyI 320 u.2.2.2.2.2.2.2.2.2.1, kx_a g_nodeR cyI 320 u.2.2.2.2.2.2.2.2.2.2.1, kx_a g_part cyI 320 u.2.2.2.2.2.2.2.2.2.2.2.2] t.heap ∧ va_K (dC, dI) vwCl [(cyI, .int)] t ∧ va_D (va_A [kx_5 h0 g_row m_n m_slots m_thrown g_many g_loss g_less g_voteValue g_voteNumber g_allValue g_allNumber m_allMany g_nodeL g_nodeR m_nodes g_part m_partMany g_wasMany g_wasLoss g_wasValue g_wasNumber g_path m_pathMany g_heavyValue g_heavyTimes m_heavyMany g_fewest g_which g_met m_mostMet, kx_a g_row cyI 160 f, kx_a g_many cyI 324 fm, kx_a g_loss cyI 324 fl, kx_a g_less cyI 324 fe, kx_a g_voteValue cyI 1944 vv, kx_a g_voteNumber cyI 1944 vn, kx_a g_allValue cyI 12 av, kx_a g_allNumber cyI 12 an, kx_a g_nodeL cyI 320 nl, kx_a g_nodeR cyI 320 nr, kx_a g_part cyI 320 gp] sz) [kx_5 h0 g_row m_n m_slots 0 g_many g_loss g_less g_voteValue g_voteNumber g_allValue g_allNumber u.2.1 g_nodeL g_nodeR u.1 g_part u.2.2.2.2.2.2.2.2.2.2.2.1 g_wasMany g_wasLoss g_wasValue g_wasNumber g_path m_pathMany g_heavyValue g_heavyTimes m_heavyMany g_fewest g_which g_met m_mostMet, kx_a g_row cyI 160 f, kx_a g_many cyI 324 u.2.2.1, kx_a g_loss cyI 324 u.2.2.2.1, kx_a g_less cyI 324 u.2.2.2.2.1, kx_a g_voteValue cyI 1944 u.2.2.2.2.2.1, kx_a g_voteNumber cyI 1944 u.2.2.2.2.2.2.1, kx_a g_allValue cyI 12 u.2.2.2.2.2.2.2.1, kx_a g_allNumber cyI 12 u.2.2.2.2.2.2.2.2.1, kx_a g_nodeL cyI 320 u.2.2.2.2.2.2.2.2.2.1, kx_a g_nodeR cyI 320 u.2.2.2.2.2.2.2.2.2.2.1, kx_a g_part cyI 320 u.2.2.2.2.2.2.2.2.2.2.2.2]) (va_A [kx_5 h0 g_row m_n m_slots m_thrown g_many g_loss g_less g_voteValue g_voteNumber g_allValue g_allNumber m_allMany g_nodeL g_nodeR m_nodes g_part m_partMany g_wasMany g_wasLoss g_wasValue g_wasNumber g_path m_pathMany g_heavyValue g_heavyTimes m_heavyMany g_fewest g_which g_met m_mostMet, kx_a g_row cyI 160 f, kx_a g_many cyI 324 fm, kx_a g_loss cyI 324 fl, kx_a g_less cyI 324 fe, kx_a g_voteValue cyI 1944 vv, kx_a g_voteNumber cyI 1944 vn, kx_a g_allValue cyI 12 av, kx_a g_allNumber cyI 12 an, kx_a g_nodeL cyI 320 nl, kx_a g_nodeR cyI 320 nr, kx_a g_part cyI 320 gp] sz)) 0 0 (va_A [kx_5 h0 g_row m_n m_slots m_thrown g_many g_loss g_less g_voteValue g_voteNumber g_allValue g_allNumber m_allMany g_nodeL g_nodeR m_nodes g_part m_partMany g_wasMany g_wasLoss g_wasValue g_wasNumber g_path m_pathMany g_heavyValue g_heavyTimes m_heavyMany g_fewest g_which g_met m_mostMet, kx_a g_row cyI 160 f, kx_a g_many cyI 324 fm, kx_a g_loss cyI 324 fl, kx_a g_less cyI 324 fe, kx_a g_voteValue cyI 1944 vv, kx_a g_voteNumber cyI 1944 vn, kx_a g_allValue cyI 12 av, kx_a g_allNumber cyI 12 an, kx_a g_nodeL cyI 320 nl, kx_a g_nodeR cyI 320 nr, kx_a g_part cyI 320 gp] sz) := by
  refine Met.ofW (cc := cX5_lost) (maxL := 4) (ret := (some .int)) (by decide) rfl ?_
  intro p e s m args below meth c s₁ B hml hv
  obtain ⟨rfl, hsz, hP, hK, hD0⟩ := hv
  have hx := B.exec
  have hb := B.bytes
  have hr := B.returns
  have hts := atoms_spec (ws := wsX5_lost) B.pre
  have hown : s.vm.findClass RX5 = some m.cls := findClass_of_methodNamed B.named
  have hlocks := B.notSynchronized
  subst hsz
  have hD := hD0.self (sz := s.heap.size)
  generalize hAe : va_A [kx_5 h0 g_row m_n m_slots m_thrown g_many g_loss g_less g_voteValue g_voteNumber g_allValue g_allNumber m_allMany g_nodeL g_nodeR m_nodes g_part m_partMany g_wasMany g_wasLoss g_wasValue g_wasNumber g_path m_pathMany g_heavyValue g_heavyTimes m_heavyMany g_fewest g_which g_met m_mostMet, kx_a g_row cyI 160 f, kx_a g_many cyI 324 fm, kx_a g_loss cyI 324 fl, kx_a g_less cyI 324 fe, kx_a g_voteValue cyI 1944 vv, kx_a g_voteNumber cyI 1944 vn, kx_a g_allValue cyI 12 av, kx_a g_allNumber cyI 12 an, kx_a g_nodeL cyI 320 nl, kx_a g_nodeR cyI 320 nr, kx_a g_part cyI 320 gp] s.heap.size = A at hD ⊢
  have hA : ∀ q : Nat, s.heap.size ≤ q → A q := fun q h => by rw [← hAe]; exact Or.inr h
  have hS : va_S A s.heap s.heap [] := va_S.rf
  have hP : va_P (dC, dI) vwCl [kx_5 h0 g_row m_n m_slots m_thrown g_many g_loss g_less g_voteValue g_voteNumber g_allValue g_allNumber m_allMany g_nodeL g_nodeR m_nodes g_part m_partMany g_wasMany g_wasLoss g_wasValue g_wasNumber g_path m_pathMany g_heavyValue g_heavyTimes m_heavyMany g_fewest g_which g_met m_mostMet, kx_a g_row cyI 160 f, kx_a g_many cyI 324 fm, kx_a g_loss cyI 324 fl, kx_a g_less cyI 324 fe, kx_a g_voteValue cyI 1944 vv, kx_a g_voteNumber cyI 1944 vn, kx_a g_allValue cyI 12 av, kx_a g_allNumber cyI 12 an, kx_a g_nodeL cyI 320 nl, kx_a g_nodeR cyI 320 nr, kx_a g_part cyI 320 gp] s.heap := hP
  have hl := lv_entry ([.ref h0, .int p0, .int p1, .int p2]) (n := 4) (Nat.le_of_ble_eq_true rfl)
  rw [lg_entry_eq]
  generalize (lg_sl ([.ref h0, .int p0, .int p1, .int p2]) ++ List.replicate (4 - (lg_sl ([.ref h0, .int p0, .int p1, .int p2])).length) Slot.unset).toArray = ls at hl ⊢
  have hl : lv_has ls 4 [(0, .ref h0), (1, .int p0), (2, .int p1), (3, .int p2)] := hl
  have hf_77 := hts (.fieldLink RX5 77 "MajorityIndexModel" "thrown" "I") (List.mem_of_getElem? (i := 1) rfl)
  have hi_5 : ∀ w ∈ u_ws RX5 TX5 30, w ∈ wsX5_lost := fun w h => List.mem_cons_of_mem _ (List.mem_append_right _ h)
  refine lv_aload_n hx hb dX5_lost_0 rfl (lv_at hl 0 rfl) ?_
  refine lv_iconst (v := 0) hx hb dX5_lost_1 (by decide) ?_
  refine va_put (D := (dC, dI)) (ci := 5) (v := .int 0) (ty := .int) (C := RX5) (T := TX5) (N := 30) hx hb hts hi_5 tyX5 tyX5_ok nmX5 hown hK hP hD hS 0 rfl rfl 3 (by decide) hf_77 (fun _ h9 => h9) rfl (by decide +kernel) rfl rfl (Nat.le_of_ble_eq_true rfl) dX5_lost_2 (fun H locs hP hD hS => ?_)
  have hP : va_P (dC, dI) vwCl [kx_5 h0 g_row m_n m_slots 0 g_many g_loss g_less g_voteValue g_voteNumber g_allValue g_allNumber m_allMany g_nodeL g_nodeR m_nodes g_part m_partMany g_wasMany g_wasLoss g_wasValue g_wasNumber g_path m_pathMany g_heavyValue g_heavyTimes m_heavyMany g_fewest g_which g_met m_mostMet, kx_a g_row cyI 160 f, kx_a g_many cyI 324 fm, kx_a g_loss cyI 324 fl, kx_a g_less cyI 324 fe, kx_a g_voteValue cyI 1944 vv, kx_a g_voteNumber cyI 1944 vn, kx_a g_allValue cyI 12 av, kx_a g_allNumber cyI 12 an, kx_a g_nodeL cyI 320 nl, kx_a g_nodeR cyI 320 nr, kx_a g_part cyI 320 gp] H := hP
  have hD : va_D A [kx_5 h0 g_row m_n m_slots 0 g_many g_loss g_less g_voteValue g_voteNumber g_allValue g_allNumber m_allMany g_nodeL g_nodeR m_nodes g_part m_partMany g_wasMany g_wasLoss g_wasValue g_wasNumber g_path m_pathMany g_heavyValue g_heavyTimes m_heavyMany g_fewest g_which g_met m_mostMet, kx_a g_row cyI 160 f, kx_a g_many cyI 324 fm, kx_a g_loss cyI 324 fl, kx_a g_less cyI 324 fe, kx_a g_voteValue cyI 1944 vv, kx_a g_voteNumber cyI 1944 vn, kx_a g_allValue cyI 12 av, kx_a g_allNumber cyI 12 an, kx_a g_nodeL cyI 320 nl, kx_a g_nodeR cyI 320 nr, kx_a g_part cyI 320 gp] := hD
  refine lv_iload_n hx hb dX5_lost_5 rfl (lv_at hl 1 rfl) ?_
  have hPc := hP.sub (ws' := []) [] rfl
  have hKc := hK.sub (tys' := []) [] rfl
  refine vp_callSi (W.runS (As := [.int p0]) (rest := []) ⟨hx, hb, hml, hown, hts⟩ (c_X5_isValue l dC dI p0) (va_cwS 1 hts gX5_lost_X5_isValue rfl rfl rfl (by decide +kernel) ⟨Nat.le_of_ble_eq_true rfl, Nat.le_of_ble_eq_true rfl⟩) ⟨fun a U g mk q => by obtain ⟨q0, qP, qK⟩ := q; exact ⟨q0, qP, va_K.moved (u := U) (U := U.calling g mk a) (Vm.Alike.refl U.vm) qK⟩, fun U hU hW => ⟨rfl, by rw [hU]; exact hPc, va_K.moved hW.alike hKc⟩⟩ rfl rfl hl.1 rfl (lv_room (Nat.le_of_ble_eq_true rfl)) dX5_lost_6 ⟨Nat.le_of_ble_eq_true rfl, Nat.le_of_ble_eq_true rfl⟩) (fun r_1 w_1 => ?_)
  rcases w_1 with ⟨rfl, w_1⟩ | ⟨rfl, w_1⟩
  · have w_1 : (-32768 ≤ p0.toInt ∧ p0.toInt ≤ 32767) := w_1
    refine lv_if_eq (tgt := 21) hx hb dX5_lost_9 (by decide) (fun c_2 => ?_) (fun c_2 => ?_)
    · exact absurd c_2 (by decide)
    · refine lv_aload_n hx hb dX5_lost_12 rfl (lv_at hl 0 rfl) ?_
      refine lv_iload_n hx hb dX5_lost_13 rfl (lv_at hl 2 rfl) ?_
      refine lv_iload_n hx hb dX5_lost_14 rfl (lv_at hl 3 rfl) ?_
      have hPc := hP.sub (ws' := [kx_5 h0 g_row m_n m_slots 0 g_many g_loss g_less g_voteValue g_voteNumber g_allValue g_allNumber m_allMany g_nodeL g_nodeR m_nodes g_part m_partMany g_wasMany g_wasLoss g_wasValue g_wasNumber g_path m_pathMany g_heavyValue g_heavyTimes m_heavyMany g_fewest g_which g_met m_mostMet]) [0] rfl
      have hKc := hK.sub (tys' := []) [] rfl
      refine vp_callSi (W.runV (As := [.int p1, .int p2]) (rest := []) ⟨hx, hb, hml, hown, hts⟩ (c_X5_isRange l dC dI h0 g_row g_many g_loss g_less g_voteValue g_voteNumber g_allValue g_allNumber g_nodeL g_nodeR g_part g_wasMany g_wasLoss g_wasValue g_wasNumber g_path g_heavyValue g_heavyTimes g_fewest g_which g_met m_n m_slots 0 m_allMany m_nodes m_partMany m_pathMany m_heavyMany m_mostMet p1 p2) (cwV 2 hts gX5_lost_X5_isRange rfl rfl rfl (by decide +kernel) ⟨Nat.le_of_ble_eq_true rfl, Nat.le_of_ble_eq_true rfl⟩) ⟨fun a U g mk q => by obtain ⟨q0, qP, qK⟩ := q; exact ⟨q0, qP, va_K.moved (u := U) (U := U.calling g mk a) (Vm.Alike.refl U.vm) qK⟩, va_recv hKc hPc (ci := 5) (q0 := 0) rfl rfl, fun U hU hW => ⟨rfl, by rw [hU]; exact hPc, va_K.moved hW.alike hKc⟩⟩ rfl rfl hl.1 rfl (lv_room (Nat.le_of_ble_eq_true rfl)) dX5_lost_15 ⟨Nat.le_of_ble_eq_true rfl, Nat.le_of_ble_eq_true rfl⟩) (fun r_3 w_3 => ?_)
      rcases w_3 with ⟨rfl, w_3⟩ | ⟨rfl, w_3⟩
      · have w_3 : (0 ≤ p1.toInt ∧ p1.toInt < p2.toInt ∧ p2.toInt ≤ m_n.toInt) := w_3
        refine lv_if_ne (tgt := 23) hx hb dX5_lost_18 (by decide) (fun c_4 => ?_) (fun c_4 => ?_)
        · refine lv_aload_n hx hb dX5_lost_23 rfl (lv_at hl 0 rfl) ?_
          refine lv_iload_n hx hb dX5_lost_24 rfl (lv_at hl 2 rfl) ?_
          refine lv_iload_n hx hb dX5_lost_25 rfl (lv_at hl 3 rfl) ?_
          have hPc := hP
          have hKc := hK
          have hDc := hD
          have hFc := kx_free hD hS hA
          refine va_callv (va_runV (As := [.int p1, .int p2]) (rest := []) ⟨hx, hb, hml, hown, hts⟩ (c_X5_sums l dC dI h0 g_row g_many g_loss g_less g_voteValue g_voteNumber g_allValue g_allNumber g_nodeL g_nodeR g_part g_wasMany g_wasLoss g_wasValue g_wasNumber g_path g_heavyValue g_heavyTimes g_fewest g_which g_met m_n m_slots 0 m_allMany m_nodes m_partMany m_pathMany m_heavyMany m_mostMet cyI fm fl fe vv vn f av an nl nr gp p1 p2 H.size a0 a1 sl0 sl1 s4 q0 (by omega) (by omega) (by omega)) (cwV 2 hts gX5_lost_X5_sums rfl rfl rfl (by decide +kernel) ⟨Nat.le_of_ble_eq_true rfl, Nat.le_of_ble_eq_true rfl⟩) ⟨fun a U g mk q => by obtain ⟨q0, q1, qP, qK, qD⟩ := q; exact ⟨q0, q1, qP, va_K.moved (u := U) (U := U.calling g mk a) (Vm.Alike.refl U.vm) qK, qD⟩, va_recv hKc hPc (ci := 5) (q0 := 0) rfl rfl, fun U hU hW => ⟨rfl, by rw [hU], by rw [hU]; exact hPc, va_K.moved hW.alike hKc, hDc.weaken (fun _ _ _ _ => trivial)⟩⟩ rfl rfl hl.1 rfl (lv_room (Nat.le_of_ble_eq_true rfl)) dX5_lost_26 ⟨Nat.le_of_ble_eq_true rfl, Nat.le_of_ble_eq_true rfl⟩) hS (fun q _ h => hFc q h) hFc (fun u t H1 locs ht hvm w_5 hB hz1 hk1 hS => ?_)
          obtain ⟨o_6, o_7, o_8, o_9, o_10, o_11, o_12, o_13, o_14, o_15, o_16, o_17, o_18⟩ := u
          dsimp only at w_5 hB
          obtain ⟨hP1, hK1, hD1⟩ := hB
          rw [ht] at hP1
          have hK1 := va_K.moved hvm.symm hK1
          have hD := hD1.weaken (fun _ q _ h => hFc q.1 h)
          have hP := hP1
          clear hP1 hD1 hK1 hk1 hz1 hFc hDc hPc hKc
          generalize H1 = H at hP hS ⊢
          have w_5 : six4 o_8 ∧ parts320 o_18 ∧ mj_L m_slots.toNatClampNeg f o_15 o_16 o_8 o_9 o_10 o_11 o_12 m_n.toInt o_6.toInt ∧ 0 ≤ o_6.toInt ∧ o_6.toInt ≤ 319 ∧ mj_F m_slots.toNatClampNeg o_15 o_16 o_8 o_9 o_11 o_12 o_8 o_9 o_11 o_12 p1.toInt p2.toInt (mj_pq o_15 o_16 p1.toInt p2.toInt o_6.toNatClampNeg) := w_5
          refine lv_aload_n hx hb dX5_lost_29 rfl (lv_at hl 0 rfl) ?_
          refine lv_iload_n hx hb dX5_lost_30 rfl (lv_at hl 1 rfl) ?_
          refine lv_iload_n hx hb dX5_lost_31 rfl (lv_at hl 2 rfl) ?_
          refine lv_iload_n hx hb dX5_lost_32 rfl (lv_at hl 3 rfl) ?_
          have hPc := hP.sub (ws' := [kx_5 h0 g_row m_n m_slots 0 g_many g_loss g_less g_voteValue g_voteNumber g_allValue g_allNumber o_7 g_nodeL g_nodeR o_6 g_part o_17 g_wasMany g_wasLoss g_wasValue g_wasNumber g_path m_pathMany g_heavyValue g_heavyTimes m_heavyMany g_fewest g_which g_met m_mostMet, kx_a g_row cyI 160 f]) [0, 1] rfl
          have hKc := hK
          refine vp_callSi (W.runV (As := [.int p0, .int p1, .int p2]) (rest := []) ⟨hx, hb, hml, hown, hts⟩ (c_X5_times l dC dI h0 g_row g_many g_loss g_less g_voteValue g_voteNumber g_allValue g_allNumber g_nodeL g_nodeR g_part g_wasMany g_wasLoss g_wasValue g_wasNumber g_path g_heavyValue g_heavyTimes g_fewest g_which g_met m_n m_slots 0 o_7 o_6 o_17 m_pathMany m_heavyMany m_mostMet cyI f p0 p1 p2 (by omega) (by omega)) (cwV 3 hts gX5_lost_X5_times rfl rfl rfl (by decide +kernel) ⟨Nat.le_of_ble_eq_true rfl, Nat.le_of_ble_eq_true rfl⟩) ⟨fun a U g mk q => by obtain ⟨q0, qP, qK⟩ := q; exact ⟨q0, qP, va_K.moved (u := U) (U := U.calling g mk a) (Vm.Alike.refl U.vm) qK⟩, va_recv hKc hPc (ci := 5) (q0 := 0) rfl rfl, fun U hU hW => ⟨rfl, by rw [hU]; exact hPc, va_K.moved hW.alike hKc⟩⟩ rfl rfl hl.1 rfl (lv_room (Nat.le_of_ble_eq_true rfl)) dX5_lost_33 ⟨Nat.le_of_ble_eq_true rfl, Nat.le_of_ble_eq_true rfl⟩) (fun r_19 w_19 => ?_)
          have w_19 : r_19.toInt = (cnt f p0 p1.toNatClampNeg (p2.toInt - p1.toInt).toNat : Int) := w_19
          refine lv_aload_n hx hb dX5_lost_36 rfl (lv_at hl 0 rfl) ?_
          refine lv_sipush (v := 320) hx hb dX5_lost_37 (by decide) ?_
          refine lv_iload_n hx hb dX5_lost_40 rfl (lv_at hl 1 rfl) ?_
          have hPc := hP.sub (ws' := [kx_5 h0 g_row m_n m_slots 0 g_many g_loss g_less g_voteValue g_voteNumber g_allValue g_allNumber o_7 g_nodeL g_nodeR o_6 g_part o_17 g_wasMany g_wasLoss g_wasValue g_wasNumber g_path m_pathMany g_heavyValue g_heavyTimes m_heavyMany g_fewest g_which g_met m_mostMet, kx_a g_many cyI 324 o_8, kx_a g_voteValue cyI 1944 o_11, kx_a g_voteNumber cyI 1944 o_12]) [0, 2, 5, 6] rfl
          have hKc := hK
          have k_20 : (320 : Int32).toInt = 320 := rfl
          refine vp_callSi (W.runV (As := [.int 320, .int p0]) (rest := [.int r_19]) ⟨hx, hb, hml, hown, hts⟩ (c_X5_numberOf l dC dI h0 g_row g_many g_loss g_less g_voteValue g_voteNumber g_allValue g_allNumber g_nodeL g_nodeR g_part g_wasMany g_wasLoss g_wasValue g_wasNumber g_path g_heavyValue g_heavyTimes g_fewest g_which g_met m_n m_slots 0 o_7 o_6 o_17 m_pathMany m_heavyMany m_mostMet cyI o_8 o_11 o_12 320 p0 om_252 om_253 w_5.1) (cwV 2 hts gX5_lost_X5_numberOf rfl rfl rfl (by decide +kernel) ⟨Nat.le_of_ble_eq_true rfl, Nat.le_of_ble_eq_true rfl⟩) ⟨fun a U g mk q => by obtain ⟨q0, qP, qK⟩ := q; exact ⟨q0, qP, va_K.moved (u := U) (U := U.calling g mk a) (Vm.Alike.refl U.vm) qK⟩, va_recv hKc hPc (ci := 5) (q0 := 0) rfl rfl, fun U hU hW => ⟨rfl, by rw [hU]; exact hPc, va_K.moved hW.alike hKc⟩⟩ rfl rfl hl.1 rfl (lv_room (Nat.le_of_ble_eq_true rfl)) dX5_lost_41 ⟨Nat.le_of_ble_eq_true rfl, Nat.le_of_ble_eq_true rfl⟩) (fun r_21 w_21 => ?_)
          refine lv_isub hx hb dX5_lost_44 ?_
          refine lv_topi (fun y_22 ey_22 => ?_)
          have hP9 := hP
          have hD9 := hD
          have hK9 := hK
          exact W.iret (v := y_22) hx hb hr (fun t ht hW => ⟨⟨y_22, (o_6, o_7, o_8, o_9, o_10, o_11, o_12, o_13, o_14, o_15, o_16, o_17, o_18), rfl, ⟨w_5.1, w_5.2.1⟩, by rw [ht]; exact hP9, va_K.moved hW.alike hK9, hD9⟩, hS.F ht⟩) hS.2.2 dX5_lost_45
        · exact absurd c_4 (by decide)
      · have w_3 : (p1.toInt < 0 ∨ p2.toInt ≤ p1.toInt ∨ m_n.toInt < p2.toInt) := w_3
        refine lv_if_ne (tgt := 23) hx hb dX5_lost_18 (by decide) (fun c_23 => ?_) (fun c_23 => ?_)
        · exact absurd c_23 (by decide)
        · refine lv_iconst (v := (-1)) hx hb dX5_lost_21 (by decide) ?_
          have hP9 := hP
          have hD9 := hD
          have hK9 := hK
          exact W.iret (v := (-1)) hx hb hr (fun t ht hW => ⟨⟨(-1), (m_nodes, m_allMany, fm, fl, fe, vv, vn, av, an, nl, nr, m_partMany, gp), rfl, ⟨s4, q0⟩, by rw [ht]; exact hP9, va_K.moved hW.alike hK9, hD9⟩, hS.F ht⟩) hS.2.2 dX5_lost_22
  · have w_1 : (p0.toInt < -32768 ∨ 32767 < p0.toInt) := w_1
    refine lv_if_eq (tgt := 21) hx hb dX5_lost_9 (by decide) (fun c_24 => ?_) (fun c_24 => ?_)
    · refine lv_iconst (v := (-1)) hx hb dX5_lost_21 (by decide) ?_
      have hP9 := hP
      have hD9 := hD
      have hK9 := hK
      exact W.iret (v := (-1)) hx hb hr (fun t ht hW => ⟨⟨(-1), (m_nodes, m_allMany, fm, fl, fe, vv, vn, av, an, nl, nr, m_partMany, gp), rfl, ⟨s4, q0⟩, by rw [ht]; exact hP9, va_K.moved hW.alike hK9, hD9⟩, hS.F ht⟩) hS.2.2 dX5_lost_22
    · exact absurd c_24 (by decide)

set_option maxHeartbeats 4000000 in
set_option maxRecDepth 100000 in
theorem c_X5_surely (l : Launch) (dC : Nat → ClassId) (dI : Nat → Nat → Nat) (h0 : Nat) (g_row : Nat) (g_many : Nat) (g_loss : Nat) (g_less : Nat) (g_voteValue : Nat) (g_voteNumber : Nat) (g_allValue : Nat) (g_allNumber : Nat) (g_nodeL : Nat) (g_nodeR : Nat) (g_part : Nat) (g_wasMany : Nat) (g_wasLoss : Nat) (g_wasValue : Nat) (g_wasNumber : Nat) (g_path : Nat) (g_heavyValue : Nat) (g_heavyTimes : Nat) (g_fewest : Nat) (g_which : Nat) (g_met : Nat) (m_n : Int32) (m_slots : Int32) (m_thrown : Int32) (m_allMany : Int32) (m_nodes : Int32) (m_partMany : Int32) (m_pathMany : Int32) (m_heavyMany : Int32) (m_mostMet : Int32) (cyI : ClassId) (fm : Nat → Int32) (fl : Nat → Int32) (fe : Nat → Int32) (vv : Nat → Int32) (vn : Nat → Int32) (f : Nat → Int32) (av : Nat → Int32) (an : Nat → Int32) (nl : Nat → Int32) (nr : Nat → Int32) (gp : Nat → Int32) (p0 : Int32) (p1 : Int32) (sz : Nat) (a0 : 0 ≤ m_n.toInt) (a1 : m_n.toInt ≤ 160) (sl0 : 1 ≤ m_slots.toInt) (sl1 : m_slots.toInt ≤ 6) (s4 : six4 fm) (q0 : parts320 gp) : Met l yX5_surely wsX5_surely ({ frames := 13, cells := 0, slots := 0, locals := 585 }) (va_Pc [.ref h0, .int p0, .int p1] (fun U => U.heap.size = sz ∧ va_P (dC, dI) vwCl [kx_5 h0 g_row m_n m_slots m_thrown g_many g_loss g_less g_voteValue g_voteNumber g_allValue g_allNumber m_allMany g_nodeL g_nodeR m_nodes g_part m_partMany g_wasMany g_wasLoss g_wasValue g_wasNumber g_path m_pathMany g_heavyValue g_heavyTimes m_heavyMany g_fewest g_which g_met m_mostMet, kx_a g_row cyI 160 f, kx_a g_many cyI 324 fm, kx_a g_loss cyI 324 fl, kx_a g_less cyI 324 fe, kx_a g_voteValue cyI 1944 vv, kx_a g_voteNumber cyI 1944 vn, kx_a g_allValue cyI 12 av, kx_a g_allNumber cyI 12 an, kx_a g_nodeL cyI 320 nl, kx_a g_nodeR cyI 320 nr, kx_a g_part cyI 320 gp] U.heap ∧ va_K (dC, dI) vwCl [(cyI, .int)] U ∧ va_D (fun _ => True) [kx_5 h0 g_row m_n m_slots m_thrown g_many g_loss g_less g_voteValue g_voteNumber g_allValue g_allNumber m_allMany g_nodeL g_nodeR m_nodes g_part m_partMany g_wasMany g_wasLoss g_wasValue g_wasNumber g_path m_pathMany g_heavyValue g_heavyTimes m_heavyMany g_fewest g_which g_met m_mostMet, kx_a g_row cyI 160 f, kx_a g_many cyI 324 fm, kx_a g_loss cyI 324 fl, kx_a g_less cyI 324 fe, kx_a g_voteValue cyI 1944 vv, kx_a g_voteNumber cyI 1944 vn, kx_a g_allValue cyI 12 av, kx_a g_allNumber cyI 12 an, kx_a g_nodeL cyI 320 nl, kx_a g_nodeR cyI 320 nr, kx_a g_part cyI 320 gp])) (va_Qi (fun (r : Int32) (u : Int32 × Int32 × (Nat → Int32) × (Nat → Int32) × (Nat → Int32) × (Nat → Int32) × (Nat → Int32) × (Nat → Int32) × (Nat → Int32) × (Nat → Int32) × (Nat → Int32) × Int32 × (Nat → Int32)) => six4 u.2.2.1 ∧ parts320 u.2.2.2.2.2.2.2.2.2.2.2.2) (fun (u : Int32 × Int32 × (Nat → Int32) × (Nat → Int32) × (Nat → Int32) × (Nat → Int32) × (Nat → Int32) × (Nat → Int32) × (Nat → Int32) × (Nat → Int32) × (Nat → Int32) × Int32 × (Nat → Int32)) (t : State) => va_P (dC, dI) vwCl [kx_5 h0 g_row m_n m_slots 0 g_many g_loss g_less g_voteValue g_voteNumber g_allValue g_allNumber u.2.1 g_nodeL g_nodeR u.1 g_part u.2.2.2.2.2.2.2.2.2.2.2.1 g_wasMany g_wasLoss g_wasValue g_wasNumber g_path m_pathMany g_heavyValue g_heavyTimes m_heavyMany g_fewest g_which g_met m_mostMet, kx_a g_row cyI 160 f, kx_a g_many cyI 324 u.2.2.1, kx_a g_loss cyI 324 u.2.2.2.1, kx_a g_less cyI 324 u.2.2.2.2.1, kx_a g_voteValue cyI 1944 u.2.2.2.2.2.1, kx_a g_voteNumber cyI 1944 u.2.2.2.2.2.2.1, kx_a g_allValue cyI 12 u.2.2.2.2.2.2.2.1, kx_a g_allNumber cyI 12 u.2.2.2.2.2.2.2.2.1, kx_a g_nodeL cyI 320 u.2.2.2.2.2.2.2.2.2.1, kx_a g_nodeR cyI 320 u.2.2.2.2.2.2.2.2.2.2.1, kx_a g_part cyI 320 u.2.2.2.2.2.2.2.2.2.2.2.2] t.heap ∧ va_K (dC, dI) vwCl [(cyI, .int)] t ∧ va_D (va_A [kx_5 h0 g_row m_n m_slots m_thrown g_many g_loss g_less g_voteValue g_voteNumber g_allValue g_allNumber m_allMany g_nodeL g_nodeR m_nodes g_part m_partMany g_wasMany g_wasLoss g_wasValue g_wasNumber g_path m_pathMany g_heavyValue g_heavyTimes m_heavyMany g_fewest g_which g_met m_mostMet, kx_a g_row cyI 160 f, kx_a g_many cyI 324 fm, kx_a g_loss cyI 324 fl, kx_a g_less cyI 324 fe, kx_a g_voteValue cyI 1944 vv, kx_a g_voteNumber cyI 1944 vn, kx_a g_allValue cyI 12 av, kx_a g_allNumber cyI 12 an, kx_a g_nodeL cyI 320 nl, kx_a g_nodeR cyI 320 nr, kx_a g_part cyI 320 gp] sz) [kx_5 h0 g_row m_n m_slots 0 g_many g_loss g_less g_voteValue g_voteNumber g_allValue g_allNumber u.2.1 g_nodeL g_nodeR u.1 g_part u.2.2.2.2.2.2.2.2.2.2.2.1 g_wasMany g_wasLoss g_wasValue g_wasNumber g_path m_pathMany g_heavyValue g_heavyTimes m_heavyMany g_fewest g_which g_met m_mostMet, kx_a g_row cyI 160 f, kx_a g_many cyI 324 u.2.2.1, kx_a g_loss cyI 324 u.2.2.2.1, kx_a g_less cyI 324 u.2.2.2.2.1, kx_a g_voteValue cyI 1944 u.2.2.2.2.2.1, kx_a g_voteNumber cyI 1944 u.2.2.2.2.2.2.1, kx_a g_allValue cyI 12 u.2.2.2.2.2.2.2.1, kx_a g_allNumber cyI 12 u.2.2.2.2.2.2.2.2.1, kx_a g_nodeL cyI 320 u.2.2.2.2.2.2.2.2.2.1, kx_a g_nodeR cyI 320 u.2.2.2.2.2.2.2.2.2.2.1, kx_a g_part cyI 320 u.2.2.2.2.2.2.2.2.2.2.2.2]) (va_A [kx_5 h0 g_row m_n m_slots m_thrown g_many g_loss g_less g_voteValue g_voteNumber g_allValue g_allNumber m_allMany g_nodeL g_nodeR m_nodes g_part m_partMany g_wasMany g_wasLoss g_wasValue g_wasNumber g_path m_pathMany g_heavyValue g_heavyTimes m_heavyMany g_fewest g_which g_met m_mostMet, kx_a g_row cyI 160 f, kx_a g_many cyI 324 fm, kx_a g_loss cyI 324 fl, kx_a g_less cyI 324 fe, kx_a g_voteValue cyI 1944 vv, kx_a g_voteNumber cyI 1944 vn, kx_a g_allValue cyI 12 av, kx_a g_allNumber cyI 12 an, kx_a g_nodeL cyI 320 nl, kx_a g_nodeR cyI 320 nr, kx_a g_part cyI 320 gp] sz)) 0 0 (va_A [kx_5 h0 g_row m_n m_slots m_thrown g_many g_loss g_less g_voteValue g_voteNumber g_allValue g_allNumber m_allMany g_nodeL g_nodeR m_nodes g_part m_partMany g_wasMany g_wasLoss g_wasValue g_wasNumber g_path m_pathMany g_heavyValue g_heavyTimes m_heavyMany g_fewest g_which g_met m_mostMet, kx_a g_row cyI 160 f, kx_a g_many cyI 324 fm, kx_a g_loss cyI 324 fl, kx_a g_less cyI 324 fe, kx_a g_voteValue cyI 1944 vv, kx_a g_voteNumber cyI 1944 vn, kx_a g_allValue cyI 12 av, kx_a g_allNumber cyI 12 an, kx_a g_nodeL cyI 320 nl, kx_a g_nodeR cyI 320 nr, kx_a g_part cyI 320 gp] sz) := by
  refine Met.ofW (cc := cX5_surely) (maxL := 5) (ret := (some .int)) (by decide) rfl ?_
  intro p e s m args below meth c s₁ B hml hv
  obtain ⟨rfl, hsz, hP, hK, hD0⟩ := hv
  have hx := B.exec
  have hb := B.bytes
  have hr := B.returns
  have hts := atoms_spec (ws := wsX5_surely) B.pre
  have hown : s.vm.findClass RX5 = some m.cls := findClass_of_methodNamed B.named
  have hlocks := B.notSynchronized
  subst hsz
  have hD := hD0.self (sz := s.heap.size)
  generalize hAe : va_A [kx_5 h0 g_row m_n m_slots m_thrown g_many g_loss g_less g_voteValue g_voteNumber g_allValue g_allNumber m_allMany g_nodeL g_nodeR m_nodes g_part m_partMany g_wasMany g_wasLoss g_wasValue g_wasNumber g_path m_pathMany g_heavyValue g_heavyTimes m_heavyMany g_fewest g_which g_met m_mostMet, kx_a g_row cyI 160 f, kx_a g_many cyI 324 fm, kx_a g_loss cyI 324 fl, kx_a g_less cyI 324 fe, kx_a g_voteValue cyI 1944 vv, kx_a g_voteNumber cyI 1944 vn, kx_a g_allValue cyI 12 av, kx_a g_allNumber cyI 12 an, kx_a g_nodeL cyI 320 nl, kx_a g_nodeR cyI 320 nr, kx_a g_part cyI 320 gp] s.heap.size = A at hD ⊢
  have hA : ∀ q : Nat, s.heap.size ≤ q → A q := fun q h => by rw [← hAe]; exact Or.inr h
  have hS : va_S A s.heap s.heap [] := va_S.rf
  have hP : va_P (dC, dI) vwCl [kx_5 h0 g_row m_n m_slots m_thrown g_many g_loss g_less g_voteValue g_voteNumber g_allValue g_allNumber m_allMany g_nodeL g_nodeR m_nodes g_part m_partMany g_wasMany g_wasLoss g_wasValue g_wasNumber g_path m_pathMany g_heavyValue g_heavyTimes m_heavyMany g_fewest g_which g_met m_mostMet, kx_a g_row cyI 160 f, kx_a g_many cyI 324 fm, kx_a g_loss cyI 324 fl, kx_a g_less cyI 324 fe, kx_a g_voteValue cyI 1944 vv, kx_a g_voteNumber cyI 1944 vn, kx_a g_allValue cyI 12 av, kx_a g_allNumber cyI 12 an, kx_a g_nodeL cyI 320 nl, kx_a g_nodeR cyI 320 nr, kx_a g_part cyI 320 gp] s.heap := hP
  have hl := lv_entry ([.ref h0, .int p0, .int p1]) (n := 5) (Nat.le_of_ble_eq_true rfl)
  rw [lg_entry_eq]
  generalize (lg_sl ([.ref h0, .int p0, .int p1]) ++ List.replicate (5 - (lg_sl ([.ref h0, .int p0, .int p1])).length) Slot.unset).toArray = ls at hl ⊢
  have hl : lv_has ls 5 [(0, .ref h0), (1, .int p0), (2, .int p1)] := hl
  have hf_77 := hts (.fieldLink RX5 77 "MajorityIndexModel" "thrown" "I") (List.mem_of_getElem? (i := 1) rfl)
  have hi_5 : ∀ w ∈ u_ws RX5 TX5 30, w ∈ wsX5_surely := fun w h => List.mem_cons_of_mem _ (List.mem_append_right _ h)
  have hf_17 := hts (.fieldLink RX5 17 "MajorityIndexModel" "many" "[I") (List.mem_of_getElem? (i := 3) rfl)
  have hf_29 := hts (.fieldLink RX5 29 "MajorityIndexModel" "voteNumber" "[I") (List.mem_of_getElem? (i := 4) rfl)
  have hf_20 := hts (.fieldLink RX5 20 "MajorityIndexModel" "loss" "[I") (List.mem_of_getElem? (i := 5) rfl)
  have hk_148 := hts (.constant RX5 148 (-40000)) (List.mem_of_getElem? (i := 2) rfl)
  have hf_26 := hts (.fieldLink RX5 26 "MajorityIndexModel" "voteValue" "[I") (List.mem_of_getElem? (i := 6) rfl)
  refine lv_aload_n hx hb dX5_surely_0 rfl (lv_at hl 0 rfl) ?_
  refine lv_iconst (v := 0) hx hb dX5_surely_1 (by decide) ?_
  refine va_put (D := (dC, dI)) (ci := 5) (v := .int 0) (ty := .int) (C := RX5) (T := TX5) (N := 30) hx hb hts hi_5 tyX5 tyX5_ok nmX5 hown hK hP hD hS 0 rfl rfl 3 (by decide) hf_77 (fun _ h9 => h9) rfl (by decide +kernel) rfl rfl (Nat.le_of_ble_eq_true rfl) dX5_surely_2 (fun H locs hP hD hS => ?_)
  have hP : va_P (dC, dI) vwCl [kx_5 h0 g_row m_n m_slots 0 g_many g_loss g_less g_voteValue g_voteNumber g_allValue g_allNumber m_allMany g_nodeL g_nodeR m_nodes g_part m_partMany g_wasMany g_wasLoss g_wasValue g_wasNumber g_path m_pathMany g_heavyValue g_heavyTimes m_heavyMany g_fewest g_which g_met m_mostMet, kx_a g_row cyI 160 f, kx_a g_many cyI 324 fm, kx_a g_loss cyI 324 fl, kx_a g_less cyI 324 fe, kx_a g_voteValue cyI 1944 vv, kx_a g_voteNumber cyI 1944 vn, kx_a g_allValue cyI 12 av, kx_a g_allNumber cyI 12 an, kx_a g_nodeL cyI 320 nl, kx_a g_nodeR cyI 320 nr, kx_a g_part cyI 320 gp] H := hP
  have hD : va_D A [kx_5 h0 g_row m_n m_slots 0 g_many g_loss g_less g_voteValue g_voteNumber g_allValue g_allNumber m_allMany g_nodeL g_nodeR m_nodes g_part m_partMany g_wasMany g_wasLoss g_wasValue g_wasNumber g_path m_pathMany g_heavyValue g_heavyTimes m_heavyMany g_fewest g_which g_met m_mostMet, kx_a g_row cyI 160 f, kx_a g_many cyI 324 fm, kx_a g_loss cyI 324 fl, kx_a g_less cyI 324 fe, kx_a g_voteValue cyI 1944 vv, kx_a g_voteNumber cyI 1944 vn, kx_a g_allValue cyI 12 av, kx_a g_allNumber cyI 12 an, kx_a g_nodeL cyI 320 nl, kx_a g_nodeR cyI 320 nr, kx_a g_part cyI 320 gp] := hD
  refine lv_aload_n hx hb dX5_surely_5 rfl (lv_at hl 0 rfl) ?_
  refine lv_iload_n hx hb dX5_surely_6 rfl (lv_at hl 1 rfl) ?_
  refine lv_iload_n hx hb dX5_surely_7 rfl (lv_at hl 2 rfl) ?_
  have hPc := hP.sub (ws' := [kx_5 h0 g_row m_n m_slots 0 g_many g_loss g_less g_voteValue g_voteNumber g_allValue g_allNumber m_allMany g_nodeL g_nodeR m_nodes g_part m_partMany g_wasMany g_wasLoss g_wasValue g_wasNumber g_path m_pathMany g_heavyValue g_heavyTimes m_heavyMany g_fewest g_which g_met m_mostMet]) [0] rfl
  have hKc := hK.sub (tys' := []) [] rfl
  refine vp_callSi (W.runV (As := [.int p0, .int p1]) (rest := []) ⟨hx, hb, hml, hown, hts⟩ (c_X5_isRange l dC dI h0 g_row g_many g_loss g_less g_voteValue g_voteNumber g_allValue g_allNumber g_nodeL g_nodeR g_part g_wasMany g_wasLoss g_wasValue g_wasNumber g_path g_heavyValue g_heavyTimes g_fewest g_which g_met m_n m_slots 0 m_allMany m_nodes m_partMany m_pathMany m_heavyMany m_mostMet p0 p1) (cwV 2 hts gX5_surely_X5_isRange rfl rfl rfl (by decide +kernel) ⟨Nat.le_of_ble_eq_true rfl, Nat.le_of_ble_eq_true rfl⟩) ⟨fun a U g mk q => by obtain ⟨q0, qP, qK⟩ := q; exact ⟨q0, qP, va_K.moved (u := U) (U := U.calling g mk a) (Vm.Alike.refl U.vm) qK⟩, va_recv hKc hPc (ci := 5) (q0 := 0) rfl rfl, fun U hU hW => ⟨rfl, by rw [hU]; exact hPc, va_K.moved hW.alike hKc⟩⟩ rfl rfl hl.1 rfl (lv_room (Nat.le_of_ble_eq_true rfl)) dX5_surely_8 ⟨Nat.le_of_ble_eq_true rfl, Nat.le_of_ble_eq_true rfl⟩) (fun r_1 w_1 => ?_)
  rcases w_1 with ⟨rfl, w_1⟩ | ⟨rfl, w_1⟩
  · have w_1 : (0 ≤ p0.toInt ∧ p0.toInt < p1.toInt ∧ p1.toInt ≤ m_n.toInt) := w_1
    refine lv_if_ne (tgt := 17) hx hb dX5_surely_11 (by decide) (fun c_2 => ?_) (fun c_2 => ?_)
    · refine lv_aload_n hx hb dX5_surely_17 rfl (lv_at hl 0 rfl) ?_
      refine lv_iload_n hx hb dX5_surely_18 rfl (lv_at hl 1 rfl) ?_
      refine lv_iload_n hx hb dX5_surely_19 rfl (lv_at hl 2 rfl) ?_
      have hPc := hP
      have hKc := hK
      have hDc := hD
      have hFc := kx_free hD hS hA
      refine va_callv (va_runV (As := [.int p0, .int p1]) (rest := []) ⟨hx, hb, hml, hown, hts⟩ (c_X5_sums l dC dI h0 g_row g_many g_loss g_less g_voteValue g_voteNumber g_allValue g_allNumber g_nodeL g_nodeR g_part g_wasMany g_wasLoss g_wasValue g_wasNumber g_path g_heavyValue g_heavyTimes g_fewest g_which g_met m_n m_slots 0 m_allMany m_nodes m_partMany m_pathMany m_heavyMany m_mostMet cyI fm fl fe vv vn f av an nl nr gp p0 p1 H.size a0 a1 sl0 sl1 s4 q0 (by omega) (by omega) (by omega)) (cwV 2 hts gX5_surely_X5_sums rfl rfl rfl (by decide +kernel) ⟨Nat.le_of_ble_eq_true rfl, Nat.le_of_ble_eq_true rfl⟩) ⟨fun a U g mk q => by obtain ⟨q0, q1, qP, qK, qD⟩ := q; exact ⟨q0, q1, qP, va_K.moved (u := U) (U := U.calling g mk a) (Vm.Alike.refl U.vm) qK, qD⟩, va_recv hKc hPc (ci := 5) (q0 := 0) rfl rfl, fun U hU hW => ⟨rfl, by rw [hU], by rw [hU]; exact hPc, va_K.moved hW.alike hKc, hDc.weaken (fun _ _ _ _ => trivial)⟩⟩ rfl rfl hl.1 rfl (lv_room (Nat.le_of_ble_eq_true rfl)) dX5_surely_20 ⟨Nat.le_of_ble_eq_true rfl, Nat.le_of_ble_eq_true rfl⟩) hS (fun q _ h => hFc q h) hFc (fun u t H1 locs ht hvm w_3 hB hz1 hk1 hS => ?_)
      obtain ⟨o_4, o_5, o_6, o_7, o_8, o_9, o_10, o_11, o_12, o_13, o_14, o_15, o_16⟩ := u
      dsimp only at w_3 hB
      obtain ⟨hP1, hK1, hD1⟩ := hB
      rw [ht] at hP1
      have hK1 := va_K.moved hvm.symm hK1
      have hD := hD1.weaken (fun _ q _ h => hFc q.1 h)
      have hP := hP1
      clear hP1 hD1 hK1 hk1 hz1 hFc hDc hPc hKc
      generalize H1 = H at hP hS ⊢
      have w_3 : six4 o_6 ∧ parts320 o_16 ∧ mj_L m_slots.toNatClampNeg f o_13 o_14 o_6 o_7 o_8 o_9 o_10 m_n.toInt o_4.toInt ∧ 0 ≤ o_4.toInt ∧ o_4.toInt ≤ 319 ∧ mj_F m_slots.toNatClampNeg o_13 o_14 o_6 o_7 o_9 o_10 o_6 o_7 o_9 o_10 p0.toInt p1.toInt (mj_pq o_13 o_14 p0.toInt p1.toInt o_4.toNatClampNeg) := w_3
      refine lv_aload_n hx hb dX5_surely_23 rfl (lv_at hl 0 rfl) ?_
      refine va_get (D := (dC, dI)) (ci := 5) (v := .ref g_many) (C := RX5) (T := TX5) (N := 30) hx hb hts hi_5 hown hK hP 0 rfl rfl 4 (by decide) hf_17 (fun _ h9 => h9) rfl dX5_surely_24 ?_
      refine lv_sipush (v := 320) hx hb dX5_surely_27 (by decide) ?_
      refine va_iald hx hb hK hP 2 0 rfl rfl (ki_inl (by decide)) dX5_surely_30 ?_
      refine lv_topi (fun y_17 ey_17 => ?_)
      have j_17 : y_17.toInt = (o_6 (320 : Int32).toNatClampNeg).toInt := congrArg Int32.toInt ey_17
      have n_18 : ((320 : Int32).toNatClampNeg : Int) = 320 := ki_nat _ rfl om_252
      have i_19 := w_3.1 (320 : Int32).toNatClampNeg (by omega)
      refine lv_if_ne (tgt := 37) hx hb dX5_surely_31 (by decide) (fun c_20 => ?_) (fun c_20 => ?_)
      · have i_20 : ¬ y_17.toInt = 0 := kc_ne c_20
        refine lv_aload_n hx hb dX5_surely_37 rfl (lv_at hl 0 rfl) ?_
        refine va_get (D := (dC, dI)) (ci := 5) (v := .ref g_voteNumber) (C := RX5) (T := TX5) (N := 30) hx hb hts hi_5 hown hK hP 0 rfl rfl 8 (by decide) hf_29 (fun _ h9 => h9) rfl dX5_surely_38 ?_
        refine lv_sipush (v := 1920) hx hb dX5_surely_41 (by decide) ?_
        refine va_iald hx hb hK hP 6 0 rfl rfl (ki_inl (by decide)) dX5_surely_44 ?_
        refine lv_topi (fun y_21 ey_21 => ?_)
        have j_21 : y_21.toInt = (o_10 (1920 : Int32).toNatClampNeg).toInt := congrArg Int32.toInt ey_21
        refine lv_istore_n (lv' := [(3, .int y_21), (0, .ref h0), (1, .int p0), (2, .int p1)]) hx hb dX5_surely_45 rfl hl (by decide) rfl (fun ls hl => ?_)
        refine lv_aload_n hx hb dX5_surely_46 rfl (lv_at hl 1 rfl) ?_
        refine va_get (D := (dC, dI)) (ci := 5) (v := .ref g_many) (C := RX5) (T := TX5) (N := 30) hx hb hts hi_5 hown hK hP 0 rfl rfl 4 (by decide) hf_17 (fun _ h9 => h9) rfl dX5_surely_47 ?_
        refine lv_sipush (v := 320) hx hb dX5_surely_50 (by decide) ?_
        refine va_iald hx hb hK hP 2 0 rfl rfl (ki_inl (by decide)) dX5_surely_53 ?_
        refine lv_topi (fun y_22 ey_22 => ?_)
        have j_22 : y_22.toInt = (o_6 (320 : Int32).toNatClampNeg).toInt := congrArg Int32.toInt ey_22
        have n_23 : ((320 : Int32).toNatClampNeg : Int) = 320 := ki_nat _ rfl om_252
        have i_24 := w_3.1 (320 : Int32).toNatClampNeg (by omega)
        refine lv_iconst (v := 1) hx hb dX5_surely_54 (by decide) ?_
        refine lv_icmp_le (tgt := 69) hx hb dX5_surely_55 (by decide) (fun c_25 => ?_) (fun c_25 => ?_)
        · have i_25 : y_22.toInt ≤ 1 := kc_le c_25
          refine lv_iconst (v := 0) hx hb dX5_surely_69 (by decide) ?_
          refine lv_istore (lv' := [(4, .int 0), (3, .int y_21), (0, .ref h0), (1, .int p0), (2, .int p1)]) hx hb dX5_surely_70 hl (by decide) rfl (fun ls hl => ?_)
          refine lv_iload_n hx hb dX5_surely_72 rfl (lv_at hl 1 rfl) ?_
          refine lv_iload hx hb dX5_surely_73 (lv_at hl 0 rfl) ?_
          refine lv_aload_n hx hb dX5_surely_75 rfl (lv_at hl 2 rfl) ?_
          refine va_get (D := (dC, dI)) (ci := 5) (v := .ref g_loss) (C := RX5) (T := TX5) (N := 30) hx hb hts hi_5 hown hK hP 0 rfl rfl 5 (by decide) hf_20 (fun _ h9 => h9) rfl dX5_surely_76 ?_
          refine lv_sipush (v := 320) hx hb dX5_surely_79 (by decide) ?_
          refine va_iald hx hb hK hP 3 0 rfl rfl (ki_inl (by decide)) dX5_surely_82 ?_
          refine lv_topi (fun y_26 ey_26 => ?_)
          have j_26 : y_26.toInt = (o_7 (320 : Int32).toNatClampNeg).toInt := congrArg Int32.toInt ey_26
          refine lv_iadd hx hb dX5_surely_83 ?_
          refine lv_topi (fun y_27 ey_27 => ?_)
          refine lv_icmp_le (tgt := 98) hx hb dX5_surely_84 (by decide) (fun c_28 => ?_) (fun c_28 => ?_)
          · have i_28 : y_21.toInt ≤ y_27.toInt := kc_le c_28
            refine lv_ldc (v := (-40000)) hx hb hown hk_148 dX5_surely_98 ?_
            have hP9 := hP
            have hD9 := hD
            have hK9 := hK
            exact W.iret (v := (-40000)) hx hb hr (fun t ht hW => ⟨⟨(-40000), (o_4, o_5, o_6, o_7, o_8, o_9, o_10, o_11, o_12, o_13, o_14, o_15, o_16), rfl, ⟨w_3.1, w_3.2.1⟩, by rw [ht]; exact hP9, va_K.moved hW.alike hK9, hD9⟩, hS.F ht⟩) hS.2.2 dX5_surely_100
          · have i_28 : y_27.toInt < y_21.toInt := kc_nle c_28
            refine lv_aload_n hx hb dX5_surely_87 rfl (lv_at hl 2 rfl) ?_
            refine va_get (D := (dC, dI)) (ci := 5) (v := .ref g_voteValue) (C := RX5) (T := TX5) (N := 30) hx hb hts hi_5 hown hK hP 0 rfl rfl 7 (by decide) hf_26 (fun _ h9 => h9) rfl dX5_surely_88 ?_
            refine lv_sipush (v := 1920) hx hb dX5_surely_91 (by decide) ?_
            refine va_iald hx hb hK hP 5 0 rfl rfl (ki_inl (by decide)) dX5_surely_94 ?_
            refine lv_topi (fun y_29 ey_29 => ?_)
            have j_29 : y_29.toInt = (o_9 (1920 : Int32).toNatClampNeg).toInt := congrArg Int32.toInt ey_29
            refine lv_goto (tgt := 100) hx hb dX5_surely_95 (by decide) ?_
            have hP9 := hP
            have hD9 := hD
            have hK9 := hK
            exact W.iret (v := y_29) hx hb hr (fun t ht hW => ⟨⟨y_29, (o_4, o_5, o_6, o_7, o_8, o_9, o_10, o_11, o_12, o_13, o_14, o_15, o_16), rfl, ⟨w_3.1, w_3.2.1⟩, by rw [ht]; exact hP9, va_K.moved hW.alike hK9, hD9⟩, hS.F ht⟩) hS.2.2 dX5_surely_100
        · have i_25 : 1 < y_22.toInt := kc_nle c_25
          refine lv_aload_n hx hb dX5_surely_58 rfl (lv_at hl 1 rfl) ?_
          refine va_get (D := (dC, dI)) (ci := 5) (v := .ref g_voteNumber) (C := RX5) (T := TX5) (N := 30) hx hb hts hi_5 hown hK hP 0 rfl rfl 8 (by decide) hf_29 (fun _ h9 => h9) rfl dX5_surely_59 ?_
          refine lv_sipush (v := 1921) hx hb dX5_surely_62 (by decide) ?_
          refine va_iald hx hb hK hP 6 0 rfl rfl (ki_inl (by decide)) dX5_surely_65 ?_
          refine lv_topi (fun y_30 ey_30 => ?_)
          have j_30 : y_30.toInt = (o_10 (1921 : Int32).toNatClampNeg).toInt := congrArg Int32.toInt ey_30
          refine lv_goto (tgt := 70) hx hb dX5_surely_66 (by decide) ?_
          refine lv_istore (lv' := [(4, .int y_30), (3, .int y_21), (0, .ref h0), (1, .int p0), (2, .int p1)]) hx hb dX5_surely_70 hl (by decide) rfl (fun ls hl => ?_)
          refine lv_iload_n hx hb dX5_surely_72 rfl (lv_at hl 1 rfl) ?_
          refine lv_iload hx hb dX5_surely_73 (lv_at hl 0 rfl) ?_
          refine lv_aload_n hx hb dX5_surely_75 rfl (lv_at hl 2 rfl) ?_
          refine va_get (D := (dC, dI)) (ci := 5) (v := .ref g_loss) (C := RX5) (T := TX5) (N := 30) hx hb hts hi_5 hown hK hP 0 rfl rfl 5 (by decide) hf_20 (fun _ h9 => h9) rfl dX5_surely_76 ?_
          refine lv_sipush (v := 320) hx hb dX5_surely_79 (by decide) ?_
          refine va_iald hx hb hK hP 3 0 rfl rfl (ki_inl (by decide)) dX5_surely_82 ?_
          refine lv_topi (fun y_31 ey_31 => ?_)
          have j_31 : y_31.toInt = (o_7 (320 : Int32).toNatClampNeg).toInt := congrArg Int32.toInt ey_31
          refine lv_iadd hx hb dX5_surely_83 ?_
          refine lv_topi (fun y_32 ey_32 => ?_)
          refine lv_icmp_le (tgt := 98) hx hb dX5_surely_84 (by decide) (fun c_33 => ?_) (fun c_33 => ?_)
          · have i_33 : y_21.toInt ≤ y_32.toInt := kc_le c_33
            refine lv_ldc (v := (-40000)) hx hb hown hk_148 dX5_surely_98 ?_
            have hP9 := hP
            have hD9 := hD
            have hK9 := hK
            exact W.iret (v := (-40000)) hx hb hr (fun t ht hW => ⟨⟨(-40000), (o_4, o_5, o_6, o_7, o_8, o_9, o_10, o_11, o_12, o_13, o_14, o_15, o_16), rfl, ⟨w_3.1, w_3.2.1⟩, by rw [ht]; exact hP9, va_K.moved hW.alike hK9, hD9⟩, hS.F ht⟩) hS.2.2 dX5_surely_100
          · have i_33 : y_32.toInt < y_21.toInt := kc_nle c_33
            refine lv_aload_n hx hb dX5_surely_87 rfl (lv_at hl 2 rfl) ?_
            refine va_get (D := (dC, dI)) (ci := 5) (v := .ref g_voteValue) (C := RX5) (T := TX5) (N := 30) hx hb hts hi_5 hown hK hP 0 rfl rfl 7 (by decide) hf_26 (fun _ h9 => h9) rfl dX5_surely_88 ?_
            refine lv_sipush (v := 1920) hx hb dX5_surely_91 (by decide) ?_
            refine va_iald hx hb hK hP 5 0 rfl rfl (ki_inl (by decide)) dX5_surely_94 ?_
            refine lv_topi (fun y_34 ey_34 => ?_)
            have j_34 : y_34.toInt = (o_9 (1920 : Int32).toNatClampNeg).toInt := congrArg Int32.toInt ey_34
            refine lv_goto (tgt := 100) hx hb dX5_surely_95 (by decide) ?_
            have hP9 := hP
            have hD9 := hD
            have hK9 := hK
            exact W.iret (v := y_34) hx hb hr (fun t ht hW => ⟨⟨y_34, (o_4, o_5, o_6, o_7, o_8, o_9, o_10, o_11, o_12, o_13, o_14, o_15, o_16), rfl, ⟨w_3.1, w_3.2.1⟩, by rw [ht]; exact hP9, va_K.moved hW.alike hK9, hD9⟩, hS.F ht⟩) hS.2.2 dX5_surely_100
      · have i_20 : y_17.toInt = 0 := kc_eq c_20
        refine lv_ldc (v := (-40000)) hx hb hown hk_148 dX5_surely_34 ?_
        have hP9 := hP
        have hD9 := hD
        have hK9 := hK
        exact W.iret (v := (-40000)) hx hb hr (fun t ht hW => ⟨⟨(-40000), (o_4, o_5, o_6, o_7, o_8, o_9, o_10, o_11, o_12, o_13, o_14, o_15, o_16), rfl, ⟨w_3.1, w_3.2.1⟩, by rw [ht]; exact hP9, va_K.moved hW.alike hK9, hD9⟩, hS.F ht⟩) hS.2.2 dX5_surely_36
    · exact absurd c_2 (by decide)
  · have w_1 : (p0.toInt < 0 ∨ p1.toInt ≤ p0.toInt ∨ m_n.toInt < p1.toInt) := w_1
    refine lv_if_ne (tgt := 17) hx hb dX5_surely_11 (by decide) (fun c_35 => ?_) (fun c_35 => ?_)
    · exact absurd c_35 (by decide)
    · refine lv_ldc (v := (-40000)) hx hb hown hk_148 dX5_surely_14 ?_
      have hP9 := hP
      have hD9 := hD
      have hK9 := hK
      exact W.iret (v := (-40000)) hx hb hr (fun t ht hW => ⟨⟨(-40000), (m_nodes, m_allMany, fm, fl, fe, vv, vn, av, an, nl, nr, m_partMany, gp), rfl, ⟨s4, q0⟩, by rw [ht]; exact hP9, va_K.moved hW.alike hK9, hD9⟩, hS.F ht⟩) hS.2.2 dX5_surely_16

set_option maxHeartbeats 4000000 in
set_option maxRecDepth 100000 in
theorem c_X5_failed (l : Launch) (dC : Nat → ClassId) (dI : Nat → Nat → Nat) (h0 : Nat) (g_row : Nat) (g_many : Nat) (g_loss : Nat) (g_less : Nat) (g_voteValue : Nat) (g_voteNumber : Nat) (g_allValue : Nat) (g_allNumber : Nat) (g_nodeL : Nat) (g_nodeR : Nat) (g_part : Nat) (g_wasMany : Nat) (g_wasLoss : Nat) (g_wasValue : Nat) (g_wasNumber : Nat) (g_path : Nat) (g_heavyValue : Nat) (g_heavyTimes : Nat) (g_fewest : Nat) (g_which : Nat) (g_met : Nat) (m_n : Int32) (m_slots : Int32) (m_thrown : Int32) (m_allMany : Int32) (m_nodes : Int32) (m_partMany : Int32) (m_pathMany : Int32) (m_heavyMany : Int32) (m_mostMet : Int32) (cyI : ClassId) (fm : Nat → Int32) (fl : Nat → Int32) (fe : Nat → Int32) (vv : Nat → Int32) (vn : Nat → Int32) (f : Nat → Int32) (av : Nat → Int32) (an : Nat → Int32) (nl : Nat → Int32) (nr : Nat → Int32) (gp : Nat → Int32) (p0 : Int32) (p1 : Int32) (p2 : Int32) (p3 : Int32) (sz : Nat) (a0 : 0 ≤ m_n.toInt) (a1 : m_n.toInt ≤ 160) (sl0 : 1 ≤ m_slots.toInt) (sl1 : m_slots.toInt ≤ 6) (s4 : six4 fm) (q0 : parts320 gp) : Met l yX5_failed wsX5_failed ({ frames := 13, cells := 0, slots := 0, locals := 585 }) (va_Pc [.ref h0, .int p0, .int p1, .int p2, .int p3] (fun U => U.heap.size = sz ∧ va_P (dC, dI) vwCl [kx_5 h0 g_row m_n m_slots m_thrown g_many g_loss g_less g_voteValue g_voteNumber g_allValue g_allNumber m_allMany g_nodeL g_nodeR m_nodes g_part m_partMany g_wasMany g_wasLoss g_wasValue g_wasNumber g_path m_pathMany g_heavyValue g_heavyTimes m_heavyMany g_fewest g_which g_met m_mostMet, kx_a g_row cyI 160 f, kx_a g_many cyI 324 fm, kx_a g_loss cyI 324 fl, kx_a g_less cyI 324 fe, kx_a g_voteValue cyI 1944 vv, kx_a g_voteNumber cyI 1944 vn, kx_a g_allValue cyI 12 av, kx_a g_allNumber cyI 12 an, kx_a g_nodeL cyI 320 nl, kx_a g_nodeR cyI 320 nr, kx_a g_part cyI 320 gp] U.heap ∧ va_K (dC, dI) vwCl [(cyI, .int)] U ∧ va_D (fun _ => True) [kx_5 h0 g_row m_n m_slots m_thrown g_many g_loss g_less g_voteValue g_voteNumber g_allValue g_allNumber m_allMany g_nodeL g_nodeR m_nodes g_part m_partMany g_wasMany g_wasLoss g_wasValue g_wasNumber g_path m_pathMany g_heavyValue g_heavyTimes m_heavyMany g_fewest g_which g_met m_mostMet, kx_a g_row cyI 160 f, kx_a g_many cyI 324 fm, kx_a g_loss cyI 324 fl, kx_a g_less cyI 324 fe, kx_a g_voteValue cyI 1944 vv, kx_a g_voteNumber cyI 1944 vn, kx_a g_allValue cyI 12 av, kx_a g_allNumber cyI 12 an, kx_a g_nodeL cyI 320 nl, kx_a g_nodeR cyI 320 nr, kx_a g_part cyI 320 gp])) (va_Qi (fun (r : Int32) (u : Int32 × Int32 × (Nat → Int32) × (Nat → Int32) × (Nat → Int32) × (Nat → Int32) × (Nat → Int32) × (Nat → Int32) × (Nat → Int32) × (Nat → Int32) × (Nat → Int32) × Int32 × (Nat → Int32)) => six4 u.2.2.1 ∧ parts320 u.2.2.2.2.2.2.2.2.2.2.2.2) (fun (u : Int32 × Int32 × (Nat → Int32) × (Nat → Int32) × (Nat → Int32) × (Nat → Int32) × (Nat → Int32) × (Nat → Int32) × (Nat → Int32) × (Nat → Int32) × (Nat → Int32) × Int32 × (Nat → Int32)) (t : State) => va_P (dC, dI) vwCl [kx_5 h0 g_row m_n m_slots 0 g_many g_loss g_less g_voteValue g_voteNumber g_allValue g_allNumber u.2.1 g_nodeL g_nodeR u.1 g_part u.2.2.2.2.2.2.2.2.2.2.2.1 g_wasMany g_wasLoss g_wasValue g_wasNumber g_path m_pathMany g_heavyValue g_heavyTimes m_heavyMany g_fewest g_which g_met m_mostMet, kx_a g_row cyI 160 f, kx_a g_many cyI 324 u.2.2.1, kx_a g_loss cyI 324 u.2.2.2.1, kx_a g_less cyI 324 u.2.2.2.2.1, kx_a g_voteValue cyI 1944 u.2.2.2.2.2.1, kx_a g_voteNumber cyI 1944 u.2.2.2.2.2.2.1, kx_a g_allValue cyI 12 u.2.2.2.2.2.2.2.1, kx_a g_allNumber cyI 12 u.2.2.2.2.2.2.2.2.1, kx_a g_nodeL cyI 320 u.2.2.2.2.2.2.2.2.2.1, kx_a g_nodeR cyI 320 u.2.2.2.2.2.2.2.2.2.2.1, kx_a g_part cyI 320 u.2.2.2.2.2.2.2.2.2.2.2.2] t.heap ∧ va_K (dC, dI) vwCl [(cyI, .int)] t ∧ va_D (va_A [kx_5 h0 g_row m_n m_slots m_thrown g_many g_loss g_less g_voteValue g_voteNumber g_allValue g_allNumber m_allMany g_nodeL g_nodeR m_nodes g_part m_partMany g_wasMany g_wasLoss g_wasValue g_wasNumber g_path m_pathMany g_heavyValue g_heavyTimes m_heavyMany g_fewest g_which g_met m_mostMet, kx_a g_row cyI 160 f, kx_a g_many cyI 324 fm, kx_a g_loss cyI 324 fl, kx_a g_less cyI 324 fe, kx_a g_voteValue cyI 1944 vv, kx_a g_voteNumber cyI 1944 vn, kx_a g_allValue cyI 12 av, kx_a g_allNumber cyI 12 an, kx_a g_nodeL cyI 320 nl, kx_a g_nodeR cyI 320 nr, kx_a g_part cyI 320 gp] sz) [kx_5 h0 g_row m_n m_slots 0 g_many g_loss g_less g_voteValue g_voteNumber g_allValue g_allNumber u.2.1 g_nodeL g_nodeR u.1 g_part u.2.2.2.2.2.2.2.2.2.2.2.1 g_wasMany g_wasLoss g_wasValue g_wasNumber g_path m_pathMany g_heavyValue g_heavyTimes m_heavyMany g_fewest g_which g_met m_mostMet, kx_a g_row cyI 160 f, kx_a g_many cyI 324 u.2.2.1, kx_a g_loss cyI 324 u.2.2.2.1, kx_a g_less cyI 324 u.2.2.2.2.1, kx_a g_voteValue cyI 1944 u.2.2.2.2.2.1, kx_a g_voteNumber cyI 1944 u.2.2.2.2.2.2.1, kx_a g_allValue cyI 12 u.2.2.2.2.2.2.2.1, kx_a g_allNumber cyI 12 u.2.2.2.2.2.2.2.2.1, kx_a g_nodeL cyI 320 u.2.2.2.2.2.2.2.2.2.1, kx_a g_nodeR cyI 320 u.2.2.2.2.2.2.2.2.2.2.1, kx_a g_part cyI 320 u.2.2.2.2.2.2.2.2.2.2.2.2]) (va_A [kx_5 h0 g_row m_n m_slots m_thrown g_many g_loss g_less g_voteValue g_voteNumber g_allValue g_allNumber m_allMany g_nodeL g_nodeR m_nodes g_part m_partMany g_wasMany g_wasLoss g_wasValue g_wasNumber g_path m_pathMany g_heavyValue g_heavyTimes m_heavyMany g_fewest g_which g_met m_mostMet, kx_a g_row cyI 160 f, kx_a g_many cyI 324 fm, kx_a g_loss cyI 324 fl, kx_a g_less cyI 324 fe, kx_a g_voteValue cyI 1944 vv, kx_a g_voteNumber cyI 1944 vn, kx_a g_allValue cyI 12 av, kx_a g_allNumber cyI 12 an, kx_a g_nodeL cyI 320 nl, kx_a g_nodeR cyI 320 nr, kx_a g_part cyI 320 gp] sz)) 0 0 (va_A [kx_5 h0 g_row m_n m_slots m_thrown g_many g_loss g_less g_voteValue g_voteNumber g_allValue g_allNumber m_allMany g_nodeL g_nodeR m_nodes g_part m_partMany g_wasMany g_wasLoss g_wasValue g_wasNumber g_path m_pathMany g_heavyValue g_heavyTimes m_heavyMany g_fewest g_which g_met m_mostMet, kx_a g_row cyI 160 f, kx_a g_many cyI 324 fm, kx_a g_loss cyI 324 fl, kx_a g_less cyI 324 fe, kx_a g_voteValue cyI 1944 vv, kx_a g_voteNumber cyI 1944 vn, kx_a g_allValue cyI 12 av, kx_a g_allNumber cyI 12 an, kx_a g_nodeL cyI 320 nl, kx_a g_nodeR cyI 320 nr, kx_a g_part cyI 320 gp] sz) := by
  refine Met.ofW (cc := cX5_failed) (maxL := 7) (ret := (some .int)) (by decide) rfl ?_
  intro p e s m args below meth c s₁ B hml hv
  obtain ⟨rfl, hsz, hP, hK, hD0⟩ := hv
  have hx := B.exec
  have hb := B.bytes
  have hr := B.returns
  have hts := atoms_spec (ws := wsX5_failed) B.pre
  have hown : s.vm.findClass RX5 = some m.cls := findClass_of_methodNamed B.named
  have hlocks := B.notSynchronized
  subst hsz
  have hD := hD0.self (sz := s.heap.size)
  generalize hAe : va_A [kx_5 h0 g_row m_n m_slots m_thrown g_many g_loss g_less g_voteValue g_voteNumber g_allValue g_allNumber m_allMany g_nodeL g_nodeR m_nodes g_part m_partMany g_wasMany g_wasLoss g_wasValue g_wasNumber g_path m_pathMany g_heavyValue g_heavyTimes m_heavyMany g_fewest g_which g_met m_mostMet, kx_a g_row cyI 160 f, kx_a g_many cyI 324 fm, kx_a g_loss cyI 324 fl, kx_a g_less cyI 324 fe, kx_a g_voteValue cyI 1944 vv, kx_a g_voteNumber cyI 1944 vn, kx_a g_allValue cyI 12 av, kx_a g_allNumber cyI 12 an, kx_a g_nodeL cyI 320 nl, kx_a g_nodeR cyI 320 nr, kx_a g_part cyI 320 gp] s.heap.size = A at hD ⊢
  have hA : ∀ q : Nat, s.heap.size ≤ q → A q := fun q h => by rw [← hAe]; exact Or.inr h
  have hS : va_S A s.heap s.heap [] := va_S.rf
  have hP : va_P (dC, dI) vwCl [kx_5 h0 g_row m_n m_slots m_thrown g_many g_loss g_less g_voteValue g_voteNumber g_allValue g_allNumber m_allMany g_nodeL g_nodeR m_nodes g_part m_partMany g_wasMany g_wasLoss g_wasValue g_wasNumber g_path m_pathMany g_heavyValue g_heavyTimes m_heavyMany g_fewest g_which g_met m_mostMet, kx_a g_row cyI 160 f, kx_a g_many cyI 324 fm, kx_a g_loss cyI 324 fl, kx_a g_less cyI 324 fe, kx_a g_voteValue cyI 1944 vv, kx_a g_voteNumber cyI 1944 vn, kx_a g_allValue cyI 12 av, kx_a g_allNumber cyI 12 an, kx_a g_nodeL cyI 320 nl, kx_a g_nodeR cyI 320 nr, kx_a g_part cyI 320 gp] s.heap := hP
  have hl := lv_entry ([.ref h0, .int p0, .int p1, .int p2, .int p3]) (n := 7) (Nat.le_of_ble_eq_true rfl)
  rw [lg_entry_eq]
  generalize (lg_sl ([.ref h0, .int p0, .int p1, .int p2, .int p3]) ++ List.replicate (7 - (lg_sl ([.ref h0, .int p0, .int p1, .int p2, .int p3])).length) Slot.unset).toArray = ls at hl ⊢
  have hl : lv_has ls 7 [(0, .ref h0), (1, .int p0), (2, .int p1), (3, .int p2), (4, .int p3)] := hl
  have hf_77 := hts (.fieldLink RX5 77 "MajorityIndexModel" "thrown" "I") (List.mem_of_getElem? (i := 1) rfl)
  have hi_5 : ∀ w ∈ u_ws RX5 TX5 30, w ∈ wsX5_failed := fun w h => List.mem_cons_of_mem _ (List.mem_append_right _ h)
  have hf_17 := hts (.fieldLink RX5 17 "MajorityIndexModel" "many" "[I") (List.mem_of_getElem? (i := 2) rfl)
  have hf_26 := hts (.fieldLink RX5 26 "MajorityIndexModel" "voteValue" "[I") (List.mem_of_getElem? (i := 3) rfl)
  refine lv_aload_n hx hb dX5_failed_0 rfl (lv_at hl 0 rfl) ?_
  refine lv_iconst (v := 0) hx hb dX5_failed_1 (by decide) ?_
  refine va_put (D := (dC, dI)) (ci := 5) (v := .int 0) (ty := .int) (C := RX5) (T := TX5) (N := 30) hx hb hts hi_5 tyX5 tyX5_ok nmX5 hown hK hP hD hS 0 rfl rfl 3 (by decide) hf_77 (fun _ h9 => h9) rfl (by decide +kernel) rfl rfl (Nat.le_of_ble_eq_true rfl) dX5_failed_2 (fun H locs hP hD hS => ?_)
  have hP : va_P (dC, dI) vwCl [kx_5 h0 g_row m_n m_slots 0 g_many g_loss g_less g_voteValue g_voteNumber g_allValue g_allNumber m_allMany g_nodeL g_nodeR m_nodes g_part m_partMany g_wasMany g_wasLoss g_wasValue g_wasNumber g_path m_pathMany g_heavyValue g_heavyTimes m_heavyMany g_fewest g_which g_met m_mostMet, kx_a g_row cyI 160 f, kx_a g_many cyI 324 fm, kx_a g_loss cyI 324 fl, kx_a g_less cyI 324 fe, kx_a g_voteValue cyI 1944 vv, kx_a g_voteNumber cyI 1944 vn, kx_a g_allValue cyI 12 av, kx_a g_allNumber cyI 12 an, kx_a g_nodeL cyI 320 nl, kx_a g_nodeR cyI 320 nr, kx_a g_part cyI 320 gp] H := hP
  have hD : va_D A [kx_5 h0 g_row m_n m_slots 0 g_many g_loss g_less g_voteValue g_voteNumber g_allValue g_allNumber m_allMany g_nodeL g_nodeR m_nodes g_part m_partMany g_wasMany g_wasLoss g_wasValue g_wasNumber g_path m_pathMany g_heavyValue g_heavyTimes m_heavyMany g_fewest g_which g_met m_mostMet, kx_a g_row cyI 160 f, kx_a g_many cyI 324 fm, kx_a g_loss cyI 324 fl, kx_a g_less cyI 324 fe, kx_a g_voteValue cyI 1944 vv, kx_a g_voteNumber cyI 1944 vn, kx_a g_allValue cyI 12 av, kx_a g_allNumber cyI 12 an, kx_a g_nodeL cyI 320 nl, kx_a g_nodeR cyI 320 nr, kx_a g_part cyI 320 gp] := hD
  refine lv_aload_n hx hb dX5_failed_5 rfl (lv_at hl 0 rfl) ?_
  refine lv_iload_n hx hb dX5_failed_6 rfl (lv_at hl 1 rfl) ?_
  refine lv_iload_n hx hb dX5_failed_7 rfl (lv_at hl 2 rfl) ?_
  have hPc := hP.sub (ws' := [kx_5 h0 g_row m_n m_slots 0 g_many g_loss g_less g_voteValue g_voteNumber g_allValue g_allNumber m_allMany g_nodeL g_nodeR m_nodes g_part m_partMany g_wasMany g_wasLoss g_wasValue g_wasNumber g_path m_pathMany g_heavyValue g_heavyTimes m_heavyMany g_fewest g_which g_met m_mostMet]) [0] rfl
  have hKc := hK.sub (tys' := []) [] rfl
  refine vp_callSi (W.runV (As := [.int p0, .int p1]) (rest := []) ⟨hx, hb, hml, hown, hts⟩ (c_X5_isRange l dC dI h0 g_row g_many g_loss g_less g_voteValue g_voteNumber g_allValue g_allNumber g_nodeL g_nodeR g_part g_wasMany g_wasLoss g_wasValue g_wasNumber g_path g_heavyValue g_heavyTimes g_fewest g_which g_met m_n m_slots 0 m_allMany m_nodes m_partMany m_pathMany m_heavyMany m_mostMet p0 p1) (cwV 2 hts gX5_failed_X5_isRange rfl rfl rfl (by decide +kernel) ⟨Nat.le_of_ble_eq_true rfl, Nat.le_of_ble_eq_true rfl⟩) ⟨fun a U g mk q => by obtain ⟨q0, qP, qK⟩ := q; exact ⟨q0, qP, va_K.moved (u := U) (U := U.calling g mk a) (Vm.Alike.refl U.vm) qK⟩, va_recv hKc hPc (ci := 5) (q0 := 0) rfl rfl, fun U hU hW => ⟨rfl, by rw [hU]; exact hPc, va_K.moved hW.alike hKc⟩⟩ rfl rfl hl.1 rfl (lv_room (Nat.le_of_ble_eq_true rfl)) dX5_failed_8 ⟨Nat.le_of_ble_eq_true rfl, Nat.le_of_ble_eq_true rfl⟩) (fun r_1 w_1 => ?_)
  rcases w_1 with ⟨rfl, w_1⟩ | ⟨rfl, w_1⟩
  · have w_1 : (0 ≤ p0.toInt ∧ p0.toInt < p1.toInt ∧ p1.toInt ≤ m_n.toInt) := w_1
    refine lv_if_eq (tgt := 23) hx hb dX5_failed_11 (by decide) (fun c_2 => ?_) (fun c_2 => ?_)
    · exact absurd c_2 (by decide)
    · refine lv_iload_n hx hb dX5_failed_14 rfl (lv_at hl 3 rfl) ?_
      refine lv_iload hx hb dX5_failed_15 (lv_at hl 4 rfl) ?_
      have hPc := hP.sub (ws' := []) [] rfl
      have hKc := hK.sub (tys' := []) [] rfl
      refine vp_callSi (W.runS (As := [.int p2, .int p3]) (rest := []) ⟨hx, hb, hml, hown, hts⟩ (c_X5_isShare l dC dI p2 p3) (va_cwS 2 hts gX5_failed_X5_isShare rfl rfl rfl (by decide +kernel) ⟨Nat.le_of_ble_eq_true rfl, Nat.le_of_ble_eq_true rfl⟩) ⟨fun a U g mk q => by obtain ⟨q0, qP, qK⟩ := q; exact ⟨q0, qP, va_K.moved (u := U) (U := U.calling g mk a) (Vm.Alike.refl U.vm) qK⟩, fun U hU hW => ⟨rfl, by rw [hU]; exact hPc, va_K.moved hW.alike hKc⟩⟩ rfl rfl hl.1 rfl (lv_room (Nat.le_of_ble_eq_true rfl)) dX5_failed_17 ⟨Nat.le_of_ble_eq_true rfl, Nat.le_of_ble_eq_true rfl⟩) (fun r_3 w_3 => ?_)
      rcases w_3 with ⟨rfl, w_3⟩ | ⟨rfl, w_3⟩
      · have w_3 : (1 ≤ p2.toInt ∧ p2.toInt ≤ p3.toInt ∧ p3.toInt ≤ 999) := w_3
        refine lv_if_ne (tgt := 25) hx hb dX5_failed_20 (by decide) (fun c_4 => ?_) (fun c_4 => ?_)
        · refine lv_aload_n hx hb dX5_failed_25 rfl (lv_at hl 0 rfl) ?_
          refine lv_iload_n hx hb dX5_failed_26 rfl (lv_at hl 3 rfl) ?_
          refine lv_iload hx hb dX5_failed_27 (lv_at hl 4 rfl) ?_
          have hPc := hP.sub (ws' := [kx_5 h0 g_row m_n m_slots 0 g_many g_loss g_less g_voteValue g_voteNumber g_allValue g_allNumber m_allMany g_nodeL g_nodeR m_nodes g_part m_partMany g_wasMany g_wasLoss g_wasValue g_wasNumber g_path m_pathMany g_heavyValue g_heavyTimes m_heavyMany g_fewest g_which g_met m_mostMet]) [0] rfl
          have hKc := hK.sub (tys' := []) [] rfl
          refine vp_callSi (W.runV (As := [.int p2, .int p3]) (rest := []) ⟨hx, hb, hml, hown, hts⟩ (c_X5_isEnough l dC dI h0 g_row g_many g_loss g_less g_voteValue g_voteNumber g_allValue g_allNumber g_nodeL g_nodeR g_part g_wasMany g_wasLoss g_wasValue g_wasNumber g_path g_heavyValue g_heavyTimes g_fewest g_which g_met m_n m_slots 0 m_allMany m_nodes m_partMany m_pathMany m_heavyMany m_mostMet p2 p3) (cwV 2 hts gX5_failed_X5_isEnough rfl rfl rfl (by decide +kernel) ⟨Nat.le_of_ble_eq_true rfl, Nat.le_of_ble_eq_true rfl⟩) ⟨fun a U g mk q => by obtain ⟨q0, qP, qK⟩ := q; exact ⟨q0, qP, va_K.moved (u := U) (U := U.calling g mk a) (Vm.Alike.refl U.vm) qK⟩, va_recv hKc hPc (ci := 5) (q0 := 0) rfl rfl, fun U hU hW => ⟨rfl, by rw [hU]; exact hPc, va_K.moved hW.alike hKc⟩⟩ rfl rfl hl.1 rfl (lv_room (Nat.le_of_ble_eq_true rfl)) dX5_failed_29 ⟨Nat.le_of_ble_eq_true rfl, Nat.le_of_ble_eq_true rfl⟩) (fun r_5 w_5 => ?_)
          rcases w_5 with ⟨rfl, w_5⟩ | ⟨rfl, w_5⟩
          · have w_5 : (0 : Int) ≤ 1 := w_5
            refine lv_if_ne (tgt := 38) hx hb dX5_failed_32 (by decide) (fun c_6 => ?_) (fun c_6 => ?_)
            · refine lv_aload_n hx hb dX5_failed_38 rfl (lv_at hl 0 rfl) ?_
              refine lv_iload_n hx hb dX5_failed_39 rfl (lv_at hl 1 rfl) ?_
              refine lv_iload_n hx hb dX5_failed_40 rfl (lv_at hl 2 rfl) ?_
              have hPc := hP
              have hKc := hK
              have hDc := hD
              have hFc := kx_free hD hS hA
              refine va_callv (va_runV (As := [.int p0, .int p1]) (rest := []) ⟨hx, hb, hml, hown, hts⟩ (c_X5_sums l dC dI h0 g_row g_many g_loss g_less g_voteValue g_voteNumber g_allValue g_allNumber g_nodeL g_nodeR g_part g_wasMany g_wasLoss g_wasValue g_wasNumber g_path g_heavyValue g_heavyTimes g_fewest g_which g_met m_n m_slots 0 m_allMany m_nodes m_partMany m_pathMany m_heavyMany m_mostMet cyI fm fl fe vv vn f av an nl nr gp p0 p1 H.size a0 a1 sl0 sl1 s4 q0 (by omega) (by omega) (by omega)) (cwV 2 hts gX5_failed_X5_sums rfl rfl rfl (by decide +kernel) ⟨Nat.le_of_ble_eq_true rfl, Nat.le_of_ble_eq_true rfl⟩) ⟨fun a U g mk q => by obtain ⟨q0, q1, qP, qK, qD⟩ := q; exact ⟨q0, q1, qP, va_K.moved (u := U) (U := U.calling g mk a) (Vm.Alike.refl U.vm) qK, qD⟩, va_recv hKc hPc (ci := 5) (q0 := 0) rfl rfl, fun U hU hW => ⟨rfl, by rw [hU], by rw [hU]; exact hPc, va_K.moved hW.alike hKc, hDc.weaken (fun _ _ _ _ => trivial)⟩⟩ rfl rfl hl.1 rfl (lv_room (Nat.le_of_ble_eq_true rfl)) dX5_failed_41 ⟨Nat.le_of_ble_eq_true rfl, Nat.le_of_ble_eq_true rfl⟩) hS (fun q _ h => hFc q h) hFc (fun u t H1 locs ht hvm w_7 hB hz1 hk1 hS => ?_)
              obtain ⟨o_8, o_9, o_10, o_11, o_12, o_13, o_14, o_15, o_16, o_17, o_18, o_19, o_20⟩ := u
              dsimp only at w_7 hB
              obtain ⟨hP1, hK1, hD1⟩ := hB
              rw [ht] at hP1
              have hK1 := va_K.moved hvm.symm hK1
              have hD := hD1.weaken (fun _ q _ h => hFc q.1 h)
              have hP := hP1
              clear hP1 hD1 hK1 hk1 hz1 hFc hDc hPc hKc
              generalize H1 = H at hP hS ⊢
              have w_7 : six4 o_10 ∧ parts320 o_20 ∧ mj_L m_slots.toNatClampNeg f o_17 o_18 o_10 o_11 o_12 o_13 o_14 m_n.toInt o_8.toInt ∧ 0 ≤ o_8.toInt ∧ o_8.toInt ≤ 319 ∧ mj_F m_slots.toNatClampNeg o_17 o_18 o_10 o_11 o_13 o_14 o_10 o_11 o_13 o_14 p0.toInt p1.toInt (mj_pq o_17 o_18 p0.toInt p1.toInt o_8.toNatClampNeg) := w_7
              refine lv_iconst (v := 0) hx hb dX5_failed_44 (by decide) ?_
              refine lv_istore (lv' := [(5, .int 0), (0, .ref h0), (1, .int p0), (2, .int p1), (3, .int p2), (4, .int p3)]) hx hb dX5_failed_45 hl (by decide) rfl (fun ls hl => ?_)
              refine lv_iconst (v := 0) hx hb dX5_failed_47 (by decide) ?_
              refine lv_istore (lv' := [(6, .int 0), (5, .int 0), (0, .ref h0), (1, .int p0), (2, .int p1), (3, .int p2), (4, .int p3)]) hx hb dX5_failed_48 hl (by decide) rfl (fun ls hl => ?_)
              have LP1 : ∀ (n : Nat) (i : Int32) (sm : Int32), (0 ≤ i.toInt) → (6 - i.toInt).toNat < n → ∀ (H : Heap) (locs : List Loc), va_P (dC, dI) vwCl [kx_5 h0 g_row m_n m_slots 0 g_many g_loss g_less g_voteValue g_voteNumber g_allValue g_allNumber o_9 g_nodeL g_nodeR o_8 g_part o_19 g_wasMany g_wasLoss g_wasValue g_wasNumber g_path m_pathMany g_heavyValue g_heavyTimes m_heavyMany g_fewest g_which g_met m_mostMet, kx_a g_row cyI 160 f, kx_a g_many cyI 324 o_10, kx_a g_loss cyI 324 o_11, kx_a g_less cyI 324 o_12, kx_a g_voteValue cyI 1944 o_13, kx_a g_voteNumber cyI 1944 o_14, kx_a g_allValue cyI 12 o_15, kx_a g_allNumber cyI 12 o_16, kx_a g_nodeL cyI 320 o_17, kx_a g_nodeR cyI 320 o_18, kx_a g_part cyI 320 o_20] H → va_D A [kx_5 h0 g_row m_n m_slots 0 g_many g_loss g_less g_voteValue g_voteNumber g_allValue g_allNumber o_9 g_nodeL g_nodeR o_8 g_part o_19 g_wasMany g_wasLoss g_wasValue g_wasNumber g_path m_pathMany g_heavyValue g_heavyTimes m_heavyMany g_fewest g_which g_met m_mostMet, kx_a g_row cyI 160 f, kx_a g_many cyI 324 o_10, kx_a g_loss cyI 324 o_11, kx_a g_less cyI 324 o_12, kx_a g_voteValue cyI 1944 o_13, kx_a g_voteNumber cyI 1944 o_14, kx_a g_allValue cyI 12 o_15, kx_a g_allNumber cyI 12 o_16, kx_a g_nodeL cyI 320 o_17, kx_a g_nodeR cyI 320 o_18, kx_a g_part cyI 320 o_20] → va_S A s.heap H locs → ∀ (ls : Array Slot), lv_has ls 7 [(6, .int i), (5, .int sm), (0, .ref h0), (1, .int p0), (2, .int p1), (3, .int p2), (4, .int p3)] → W p l e (headSpec wsX5_failed ({ frames := 13, cells := 0, slots := 0, locals := 585 })).room s m ([.ref h0, .int p0, .int p1, .int p2, .int p3] : List Value).toArray below meth c H locs 0 0 (MQ below (va_Qi (fun (r : Int32) (u : Int32 × Int32 × (Nat → Int32) × (Nat → Int32) × (Nat → Int32) × (Nat → Int32) × (Nat → Int32) × (Nat → Int32) × (Nat → Int32) × (Nat → Int32) × (Nat → Int32) × Int32 × (Nat → Int32)) => six4 u.2.2.1 ∧ parts320 u.2.2.2.2.2.2.2.2.2.2.2.2) (fun (u : Int32 × Int32 × (Nat → Int32) × (Nat → Int32) × (Nat → Int32) × (Nat → Int32) × (Nat → Int32) × (Nat → Int32) × (Nat → Int32) × (Nat → Int32) × (Nat → Int32) × Int32 × (Nat → Int32)) (t : State) => va_P (dC, dI) vwCl [kx_5 h0 g_row m_n m_slots 0 g_many g_loss g_less g_voteValue g_voteNumber g_allValue g_allNumber u.2.1 g_nodeL g_nodeR u.1 g_part u.2.2.2.2.2.2.2.2.2.2.2.1 g_wasMany g_wasLoss g_wasValue g_wasNumber g_path m_pathMany g_heavyValue g_heavyTimes m_heavyMany g_fewest g_which g_met m_mostMet, kx_a g_row cyI 160 f, kx_a g_many cyI 324 u.2.2.1, kx_a g_loss cyI 324 u.2.2.2.1, kx_a g_less cyI 324 u.2.2.2.2.1, kx_a g_voteValue cyI 1944 u.2.2.2.2.2.1, kx_a g_voteNumber cyI 1944 u.2.2.2.2.2.2.1, kx_a g_allValue cyI 12 u.2.2.2.2.2.2.2.1, kx_a g_allNumber cyI 12 u.2.2.2.2.2.2.2.2.1, kx_a g_nodeL cyI 320 u.2.2.2.2.2.2.2.2.2.1, kx_a g_nodeR cyI 320 u.2.2.2.2.2.2.2.2.2.2.1, kx_a g_part cyI 320 u.2.2.2.2.2.2.2.2.2.2.2.2] t.heap ∧ va_K (dC, dI) vwCl [(cyI, .int)] t ∧ va_D A [kx_5 h0 g_row m_n m_slots 0 g_many g_loss g_less g_voteValue g_voteNumber g_allValue g_allNumber u.2.1 g_nodeL g_nodeR u.1 g_part u.2.2.2.2.2.2.2.2.2.2.2.1 g_wasMany g_wasLoss g_wasValue g_wasNumber g_path m_pathMany g_heavyValue g_heavyTimes m_heavyMany g_fewest g_which g_met m_mostMet, kx_a g_row cyI 160 f, kx_a g_many cyI 324 u.2.2.1, kx_a g_loss cyI 324 u.2.2.2.1, kx_a g_less cyI 324 u.2.2.2.2.1, kx_a g_voteValue cyI 1944 u.2.2.2.2.2.1, kx_a g_voteNumber cyI 1944 u.2.2.2.2.2.2.1, kx_a g_allValue cyI 12 u.2.2.2.2.2.2.2.1, kx_a g_allNumber cyI 12 u.2.2.2.2.2.2.2.2.1, kx_a g_nodeL cyI 320 u.2.2.2.2.2.2.2.2.2.1, kx_a g_nodeR cyI 320 u.2.2.2.2.2.2.2.2.2.2.1, kx_a g_part cyI 320 u.2.2.2.2.2.2.2.2.2.2.2.2]) A) ([.ref h0, .int p0, .int p1, .int p2, .int p3] : List Value).toArray s 0 0 A) (F0 m 50 ls []) := by
                intro n
                induction n with
                | zero => intro i sm LP1_h0 hn; exact absurd hn (Nat.not_lt_zero _)
                | succ n ih1 =>
                  intro i sm LP1_h0 hn1 H locs hP hD hS ls hl
                  refine lv_iload hx hb dX5_failed_50 (lv_at hl 0 rfl) ?_
                  refine lv_aload_n hx hb dX5_failed_52 rfl (lv_at hl 2 rfl) ?_
                  refine va_get (D := (dC, dI)) (ci := 5) (v := .ref g_many) (C := RX5) (T := TX5) (N := 30) hx hb hts hi_5 hown hK hP 0 rfl rfl 4 (by decide) hf_17 (fun _ h9 => h9) rfl dX5_failed_53 ?_
                  refine lv_sipush (v := 320) hx hb dX5_failed_56 (by decide) ?_
                  refine va_iald hx hb hK hP 2 0 rfl rfl (ki_inl (by decide)) dX5_failed_59 ?_
                  refine lv_topi (fun y_21 ey_21 => ?_)
                  have j_21 : y_21.toInt = (o_10 (320 : Int32).toNatClampNeg).toInt := congrArg Int32.toInt ey_21
                  have n_22 : ((320 : Int32).toNatClampNeg : Int) = 320 := ki_nat _ rfl om_252
                  have i_23 := w_7.1 (320 : Int32).toNatClampNeg (by omega)
                  refine lv_icmp_ge (tgt := 100) hx hb dX5_failed_60 (by decide) (fun c_24 => ?_) (fun c_24 => ?_)
                  · have i_24 : y_21.toInt ≤ i.toInt := kc_le c_24
                    refine lv_iload hx hb dX5_failed_100 (lv_at hl 1 rfl) ?_
                    have hP9 := hP
                    have hD9 := hD
                    have hK9 := hK
                    exact W.iret (v := sm) hx hb hr (fun t ht hW => ⟨⟨sm, (o_8, o_9, o_10, o_11, o_12, o_13, o_14, o_15, o_16, o_17, o_18, o_19, o_20), rfl, ⟨w_7.1, w_7.2.1⟩, by rw [ht]; exact hP9, va_K.moved hW.alike hK9, hD9⟩, hS.F ht⟩) hS.2.2 dX5_failed_102
                  · have i_24 : i.toInt < y_21.toInt := kc_nle c_24
                    refine lv_aload_n hx hb dX5_failed_63 rfl (lv_at hl 2 rfl) ?_
                    refine lv_aload_n hx hb dX5_failed_64 rfl (lv_at hl 2 rfl) ?_
                    refine va_get (D := (dC, dI)) (ci := 5) (v := .ref g_voteValue) (C := RX5) (T := TX5) (N := 30) hx hb hts hi_5 hown hK hP 0 rfl rfl 7 (by decide) hf_26 (fun _ h9 => h9) rfl dX5_failed_65 ?_
                    refine lv_sipush (v := 1920) hx hb dX5_failed_68 (by decide) ?_
                    refine lv_iload hx hb dX5_failed_71 (lv_at hl 0 rfl) ?_
                    refine lv_iadd hx hb dX5_failed_73 ?_
                    refine lv_topi (fun y_25 ey_25 => ?_)
                    have i_25 : y_25.toInt = 1920 + i.toInt := ki_add ey_25 rfl rfl (om_263 LP1_h0) (by omega)
                    refine va_iald hx hb hK hP 5 0 rfl rfl (ki_in (om_264 LP1_h0 i_25) (by omega)) dX5_failed_74 ?_
                    refine lv_topi (fun y_26 ey_26 => ?_)
                    have j_26 : y_26.toInt = (o_13 y_25.toNatClampNeg).toInt := congrArg Int32.toInt ey_26
                    refine lv_iload_n hx hb dX5_failed_75 rfl (lv_at hl 3 rfl) ?_
                    refine lv_iload_n hx hb dX5_failed_76 rfl (lv_at hl 4 rfl) ?_
                    have hPc := hP.sub (ws' := [kx_5 h0 g_row m_n m_slots 0 g_many g_loss g_less g_voteValue g_voteNumber g_allValue g_allNumber o_9 g_nodeL g_nodeR o_8 g_part o_19 g_wasMany g_wasLoss g_wasValue g_wasNumber g_path m_pathMany g_heavyValue g_heavyTimes m_heavyMany g_fewest g_which g_met m_mostMet, kx_a g_row cyI 160 f]) [0, 1] rfl
                    have hKc := hK
                    refine vp_callSi (W.runV (As := [.int y_26, .int p0, .int p1]) (rest := []) ⟨hx, hb, hml, hown, hts⟩ (c_X5_times l dC dI h0 g_row g_many g_loss g_less g_voteValue g_voteNumber g_allValue g_allNumber g_nodeL g_nodeR g_part g_wasMany g_wasLoss g_wasValue g_wasNumber g_path g_heavyValue g_heavyTimes g_fewest g_which g_met m_n m_slots 0 o_9 o_8 o_19 m_pathMany m_heavyMany m_mostMet cyI f y_26 p0 p1 (by omega) (by omega)) (cwV 3 hts gX5_failed_X5_times rfl rfl rfl (by decide +kernel) ⟨Nat.le_of_ble_eq_true rfl, Nat.le_of_ble_eq_true rfl⟩) ⟨fun a U g mk q => by obtain ⟨q0, qP, qK⟩ := q; exact ⟨q0, qP, va_K.moved (u := U) (U := U.calling g mk a) (Vm.Alike.refl U.vm) qK⟩, va_recv hKc hPc (ci := 5) (q0 := 0) rfl rfl, fun U hU hW => ⟨rfl, by rw [hU]; exact hPc, va_K.moved hW.alike hKc⟩⟩ rfl rfl hl.1 rfl (lv_room (Nat.le_of_ble_eq_true rfl)) dX5_failed_77 ⟨Nat.le_of_ble_eq_true rfl, Nat.le_of_ble_eq_true rfl⟩) (fun r_27 w_27 => ?_)
                    have w_27 : r_27.toInt = (cnt f y_26 p0.toNatClampNeg (p1.toInt - p0.toInt).toNat : Int) := w_27
                    refine lv_iload hx hb dX5_failed_80 (lv_at hl 6 rfl) ?_
                    refine lv_imul hx hb dX5_failed_82 ?_
                    refine lv_topi (fun y_28 ey_28 => ?_)
                    refine lv_iload_n hx hb dX5_failed_83 rfl (lv_at hl 5 rfl) ?_
                    refine lv_iload_n hx hb dX5_failed_84 rfl (lv_at hl 4 rfl) ?_
                    refine lv_iload_n hx hb dX5_failed_85 rfl (lv_at hl 3 rfl) ?_
                    refine lv_isub hx hb dX5_failed_86 ?_
                    refine lv_topi (fun y_29 ey_29 => ?_)
                    refine lv_imul hx hb dX5_failed_87 ?_
                    refine lv_topi (fun y_30 ey_30 => ?_)
                    refine lv_icmp_gt (tgt := 94) hx hb dX5_failed_88 (by decide) (fun c_31 => ?_) (fun c_31 => ?_)
                    · have i_31 : y_30.toInt < y_28.toInt := kc_lt c_31
                      obtain ⟨x_32, ex_32⟩ : ∃ y : Int32, y = i + 1 := ⟨_, rfl⟩
                      have i_32 : x_32.toInt = i.toInt + 1 := ki_add ex_32 rfl rfl (om_10 LP1_h0) (by omega)
                      refine lv_iinc (v := x_32) (lv' := [(6, .int x_32), (5, .int sm), (0, .ref h0), (1, .int p0), (2, .int p1), (3, .int p2), (4, .int p3)]) hx hb dX5_failed_94 hl (k := 0) rfl (by rw [ex_32]; rfl) (by decide) rfl (fun ls hl => ?_)
                      refine lv_goto (tgt := 50) hx hb dX5_failed_97 (by decide) ?_
                      exact ih1 x_32 sm (om_31 LP1_h0 i_32) (by omega) _ _ hP hD hS ls (lv_sub hl [0, 1, 2, 3, 4, 5, 6] rfl)
                    · have i_31 : y_28.toInt ≤ y_30.toInt := kc_nlt c_31
                      obtain ⟨x_33, ex_33⟩ : ∃ y : Int32, y = sm + 1 := ⟨_, rfl⟩
                      refine lv_iinc (v := x_33) (lv' := [(5, .int x_33), (6, .int i), (0, .ref h0), (1, .int p0), (2, .int p1), (3, .int p2), (4, .int p3)]) hx hb dX5_failed_91 hl (k := 1) rfl (by rw [ex_33]; rfl) (by decide) rfl (fun ls hl => ?_)
                      obtain ⟨x_34, ex_34⟩ : ∃ y : Int32, y = i + 1 := ⟨_, rfl⟩
                      have i_34 : x_34.toInt = i.toInt + 1 := ki_add ex_34 rfl rfl (om_10 LP1_h0) (by omega)
                      refine lv_iinc (v := x_34) (lv' := [(6, .int x_34), (5, .int x_33), (0, .ref h0), (1, .int p0), (2, .int p1), (3, .int p2), (4, .int p3)]) hx hb dX5_failed_94 hl (k := 1) rfl (by rw [ex_34]; rfl) (by decide) rfl (fun ls hl => ?_)
                      refine lv_goto (tgt := 50) hx hb dX5_failed_97 (by decide) ?_
                      exact ih1 x_34 x_33 (om_31 LP1_h0 i_34) (by omega) _ _ hP hD hS ls (lv_sub hl [0, 1, 2, 3, 4, 5, 6] rfl)
              have k_35 : (0 : Int32).toInt = 0 := rfl
              have k_36 : (0 : Int32).toInt = 0 := rfl
              exact LP1 ((6 - 0 : Int).toNat + 1) 0 0 om_32 (Nat.lt_succ_self _) _ _ hP hD hS ls (lv_sub hl [0, 1, 2, 3, 4, 5, 6] rfl)
            · exact absurd c_6 (by decide)
          · have w_5 : (0 : Int) ≤ 1 := w_5
            refine lv_if_ne (tgt := 38) hx hb dX5_failed_32 (by decide) (fun c_37 => ?_) (fun c_37 => ?_)
            · exact absurd c_37 (by decide)
            · refine lv_bipush (v := (-2)) hx hb dX5_failed_35 (by decide) ?_
              have hP9 := hP
              have hD9 := hD
              have hK9 := hK
              exact W.iret (v := (-2)) hx hb hr (fun t ht hW => ⟨⟨(-2), (m_nodes, m_allMany, fm, fl, fe, vv, vn, av, an, nl, nr, m_partMany, gp), rfl, ⟨s4, q0⟩, by rw [ht]; exact hP9, va_K.moved hW.alike hK9, hD9⟩, hS.F ht⟩) hS.2.2 dX5_failed_37
        · exact absurd c_4 (by decide)
      · have w_3 : (p2.toInt < 1 ∨ p3.toInt < p2.toInt ∨ 999 < p3.toInt) := w_3
        refine lv_if_ne (tgt := 25) hx hb dX5_failed_20 (by decide) (fun c_38 => ?_) (fun c_38 => ?_)
        · exact absurd c_38 (by decide)
        · refine lv_iconst (v := (-1)) hx hb dX5_failed_23 (by decide) ?_
          have hP9 := hP
          have hD9 := hD
          have hK9 := hK
          exact W.iret (v := (-1)) hx hb hr (fun t ht hW => ⟨⟨(-1), (m_nodes, m_allMany, fm, fl, fe, vv, vn, av, an, nl, nr, m_partMany, gp), rfl, ⟨s4, q0⟩, by rw [ht]; exact hP9, va_K.moved hW.alike hK9, hD9⟩, hS.F ht⟩) hS.2.2 dX5_failed_24
  · have w_1 : (p0.toInt < 0 ∨ p1.toInt ≤ p0.toInt ∨ m_n.toInt < p1.toInt) := w_1
    refine lv_if_eq (tgt := 23) hx hb dX5_failed_11 (by decide) (fun c_39 => ?_) (fun c_39 => ?_)
    · refine lv_iconst (v := (-1)) hx hb dX5_failed_23 (by decide) ?_
      have hP9 := hP
      have hD9 := hD
      have hK9 := hK
      exact W.iret (v := (-1)) hx hb hr (fun t ht hW => ⟨⟨(-1), (m_nodes, m_allMany, fm, fl, fe, vv, vn, av, an, nl, nr, m_partMany, gp), rfl, ⟨s4, q0⟩, by rw [ht]; exact hP9, va_K.moved hW.alike hK9, hD9⟩, hS.F ht⟩) hS.2.2 dX5_failed_24
    · exact absurd c_39 (by decide)


