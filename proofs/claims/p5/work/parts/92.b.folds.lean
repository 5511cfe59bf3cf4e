set_option maxHeartbeats 4000000 in
set_option maxRecDepth 100000 in
theorem c_X5_copies_x (l : Launch) (dC : Nat → ClassId) (dI : Nat → Nat → Nat) (h0 : Nat) (g_row : Nat) (g_many : Nat) (g_loss : Nat) (g_less : Nat) (g_voteValue : Nat) (g_voteNumber : Nat) (g_allValue : Nat) (g_allNumber : Nat) (g_nodeL : Nat) (g_nodeR : Nat) (g_part : Nat) (g_wasMany : Nat) (g_wasLoss : Nat) (g_wasValue : Nat) (g_wasNumber : Nat) (g_path : Nat) (g_heavyValue : Nat) (g_heavyTimes : Nat) (g_fewest : Nat) (g_which : Nat) (g_met : Nat) (m_n : Int32) (m_slots : Int32) (m_thrown : Int32) (m_allMany : Int32) (m_nodes : Int32) (m_partMany : Int32) (m_pathMany : Int32) (m_heavyMany : Int32) (m_mostMet : Int32) (cyI : ClassId) (fm : Nat → Int32) (fl : Nat → Int32) (fe : Nat → Int32) (vv : Nat → Int32) (vn : Nat → Int32) (p0 : Int32) (p1 : Int32) (sz : Nat) (b0 : 0 ≤ p0.toInt) (b1 : p0.toInt < 324) (b2 : 0 ≤ p1.toInt) (b3 : p1.toInt < 324) : Met l yX5_copies wsX5_copies ({ frames := 0, cells := 0, slots := 0, locals := 0 }) (va_Pc [.ref h0, .int p0, .int p1] (fun U => U.heap.size = sz ∧ va_P (dC, dI) vwCl [kx_5 h0 g_row m_n m_slots m_thrown g_many g_loss g_less g_voteValue g_voteNumber g_allValue g_allNumber m_allMany g_nodeL g_nodeR m_nodes g_part m_partMany g_wasMany g_wasLoss g_wasValue g_wasNumber g_path m_pathMany g_heavyValue g_heavyTimes m_heavyMany g_fewest g_which g_met m_mostMet, kx_a g_many cyI 324 fm, kx_a g_loss cyI 324 fl, kx_a g_less cyI 324 fe, kx_a g_voteValue cyI 1944 vv, kx_a g_voteNumber cyI 1944 vn] U.heap ∧ va_K (dC, dI) vwCl [(cyI, .int)] U ∧ va_D (fun _ => True) [kx_5 h0 g_row m_n m_slots m_thrown g_many g_loss g_less g_voteValue g_voteNumber g_allValue g_allNumber m_allMany g_nodeL g_nodeR m_nodes g_part m_partMany g_wasMany g_wasLoss g_wasValue g_wasNumber g_path m_pathMany g_heavyValue g_heavyTimes m_heavyMany g_fewest g_which g_met m_mostMet, kx_a g_many cyI 324 fm, kx_a g_loss cyI 324 fl, kx_a g_less cyI 324 fe, kx_a g_voteValue cyI 1944 vv, kx_a g_voteNumber cyI 1944 vn])) (va_Qv (fun u : (Nat → Int32) × (Nat → Int32) × (Nat → Int32) × (Nat → Int32) × (Nat → Int32) => u.1 = upd fm p1.toNatClampNeg (fm p0.toNatClampNeg) ∧ u.2.1 = upd fl p1.toNatClampNeg (fl p0.toNatClampNeg) ∧ u.2.2.1 = upd fe p1.toNatClampNeg (fe p0.toNatClampNeg) ∧ mj_cp vv vn u.2.2.2.1 u.2.2.2.2 p0.toNatClampNeg p1.toNatClampNeg 6) (fun (u : (Nat → Int32) × (Nat → Int32) × (Nat → Int32) × (Nat → Int32) × (Nat → Int32)) (t : State) => va_P (dC, dI) vwCl [kx_5 h0 g_row m_n m_slots m_thrown g_many g_loss g_less g_voteValue g_voteNumber g_allValue g_allNumber m_allMany g_nodeL g_nodeR m_nodes g_part m_partMany g_wasMany g_wasLoss g_wasValue g_wasNumber g_path m_pathMany g_heavyValue g_heavyTimes m_heavyMany g_fewest g_which g_met m_mostMet, kx_a g_many cyI 324 u.1, kx_a g_loss cyI 324 u.2.1, kx_a g_less cyI 324 u.2.2.1, kx_a g_voteValue cyI 1944 u.2.2.2.1, kx_a g_voteNumber cyI 1944 u.2.2.2.2] t.heap ∧ va_K (dC, dI) vwCl [(cyI, .int)] t ∧ va_D (va_A [kx_5 h0 g_row m_n m_slots m_thrown g_many g_loss g_less g_voteValue g_voteNumber g_allValue g_allNumber m_allMany g_nodeL g_nodeR m_nodes g_part m_partMany g_wasMany g_wasLoss g_wasValue g_wasNumber g_path m_pathMany g_heavyValue g_heavyTimes m_heavyMany g_fewest g_which g_met m_mostMet, kx_a g_many cyI 324 fm, kx_a g_loss cyI 324 fl, kx_a g_less cyI 324 fe, kx_a g_voteValue cyI 1944 vv, kx_a g_voteNumber cyI 1944 vn] sz) [kx_5 h0 g_row m_n m_slots m_thrown g_many g_loss g_less g_voteValue g_voteNumber g_allValue g_allNumber m_allMany g_nodeL g_nodeR m_nodes g_part m_partMany g_wasMany g_wasLoss g_wasValue g_wasNumber g_path m_pathMany g_heavyValue g_heavyTimes m_heavyMany g_fewest g_which g_met m_mostMet, kx_a g_many cyI 324 u.1, kx_a g_loss cyI 324 u.2.1, kx_a g_less cyI 324 u.2.2.1, kx_a g_voteValue cyI 1944 u.2.2.2.1, kx_a g_voteNumber cyI 1944 u.2.2.2.2]) (va_A [kx_5 h0 g_row m_n m_slots m_thrown g_many g_loss g_less g_voteValue g_voteNumber g_allValue g_allNumber m_allMany g_nodeL g_nodeR m_nodes g_part m_partMany g_wasMany g_wasLoss g_wasValue g_wasNumber g_path m_pathMany g_heavyValue g_heavyTimes m_heavyMany g_fewest g_which g_met m_mostMet, kx_a g_many cyI 324 fm, kx_a g_loss cyI 324 fl, kx_a g_less cyI 324 fe, kx_a g_voteValue cyI 1944 vv, kx_a g_voteNumber cyI 1944 vn] sz)) 0 0 (va_A [kx_5 h0 g_row m_n m_slots m_thrown g_many g_loss g_less g_voteValue g_voteNumber g_allValue g_allNumber m_allMany g_nodeL g_nodeR m_nodes g_part m_partMany g_wasMany g_wasLoss g_wasValue g_wasNumber g_path m_pathMany g_heavyValue g_heavyTimes m_heavyMany g_fewest g_which g_met m_mostMet, kx_a g_many cyI 324 fm, kx_a g_loss cyI 324 fl, kx_a g_less cyI 324 fe, kx_a g_voteValue cyI 1944 vv, kx_a g_voteNumber cyI 1944 vn] sz) := by
  refine Met.ofW (cc := cX5_copies) (maxL := 4) (ret := none) (by decide) rfl ?_
  intro p e s m args below meth c s₁ B hml hv
  obtain ⟨rfl, hsz, hP, hK, hD0⟩ := hv
  have hx := B.exec
  have hb := B.bytes
  have hr := B.returns
  have hts := atoms_spec (ws := wsX5_copies) B.pre
  have hown : s.vm.findClass RX5 = some m.cls := findClass_of_methodNamed B.named
  have hlocks := B.notSynchronized
  subst hsz
  have hD := hD0.self (sz := s.heap.size)
  generalize hAe : va_A [kx_5 h0 g_row m_n m_slots m_thrown g_many g_loss g_less g_voteValue g_voteNumber g_allValue g_allNumber m_allMany g_nodeL g_nodeR m_nodes g_part m_partMany g_wasMany g_wasLoss g_wasValue g_wasNumber g_path m_pathMany g_heavyValue g_heavyTimes m_heavyMany g_fewest g_which g_met m_mostMet, kx_a g_many cyI 324 fm, kx_a g_loss cyI 324 fl, kx_a g_less cyI 324 fe, kx_a g_voteValue cyI 1944 vv, kx_a g_voteNumber cyI 1944 vn] s.heap.size = A at hD ⊢
  have hA : ∀ q : Nat, s.heap.size ≤ q → A q := fun q h => by rw [← hAe]; exact Or.inr h
  have hS : va_S A s.heap s.heap [] := va_S.rf
  have hP : va_P (dC, dI) vwCl [kx_5 h0 g_row m_n m_slots m_thrown g_many g_loss g_less g_voteValue g_voteNumber g_allValue g_allNumber m_allMany g_nodeL g_nodeR m_nodes g_part m_partMany g_wasMany g_wasLoss g_wasValue g_wasNumber g_path m_pathMany g_heavyValue g_heavyTimes m_heavyMany g_fewest g_which g_met m_mostMet, kx_a g_many cyI 324 fm, kx_a g_loss cyI 324 fl, kx_a g_less cyI 324 fe, kx_a g_voteValue cyI 1944 vv, kx_a g_voteNumber cyI 1944 vn] s.heap := hP
  have hl := lv_entry ([.ref h0, .int p0, .int p1]) (n := 4) (Nat.le_of_ble_eq_true rfl)
  rw [lg_entry_eq]
  generalize (lg_sl ([.ref h0, .int p0, .int p1]) ++ List.replicate (4 - (lg_sl ([.ref h0, .int p0, .int p1])).length) Slot.unset).toArray = ls at hl ⊢
  have hl : lv_has ls 4 [(0, .ref h0), (1, .int p0), (2, .int p1)] := hl
  have hf_17 := hts (.fieldLink RX5 17 "MajorityIndexModel" "many" "[I") (List.mem_of_getElem? (i := 1) rfl)
  have hi_5 : ∀ w ∈ u_ws RX5 TX5 30, w ∈ wsX5_copies := fun w h => List.mem_cons_of_mem _ (List.mem_append_right _ h)
  have hf_20 := hts (.fieldLink RX5 20 "MajorityIndexModel" "loss" "[I") (List.mem_of_getElem? (i := 2) rfl)
  have hf_23 := hts (.fieldLink RX5 23 "MajorityIndexModel" "less" "[I") (List.mem_of_getElem? (i := 3) rfl)
  have hf_26 := hts (.fieldLink RX5 26 "MajorityIndexModel" "voteValue" "[I") (List.mem_of_getElem? (i := 4) rfl)
  have hf_29 := hts (.fieldLink RX5 29 "MajorityIndexModel" "voteNumber" "[I") (List.mem_of_getElem? (i := 5) rfl)
  have n_p0 := ki_nat p0 rfl (om_8 b0)
  have n_p1 := ki_nat p1 rfl (om_8 b2)
  refine lv_aload_n hx hb dX5_copies_0 rfl (lv_at hl 0 rfl) ?_
  refine va_get (D := (dC, dI)) (ci := 5) (v := .ref g_many) (C := RX5) (T := TX5) (N := 30) hx hb hts hi_5 hown hK hP 0 rfl rfl 4 (by decide) hf_17 (fun _ h9 => h9) rfl dX5_copies_1 ?_
  refine lv_iload_n hx hb dX5_copies_4 rfl (lv_at hl 2 rfl) ?_
  refine lv_aload_n hx hb dX5_copies_5 rfl (lv_at hl 0 rfl) ?_
  refine va_get (D := (dC, dI)) (ci := 5) (v := .ref g_many) (C := RX5) (T := TX5) (N := 30) hx hb hts hi_5 hown hK hP 0 rfl rfl 4 (by decide) hf_17 (fun _ h9 => h9) rfl dX5_copies_6 ?_
  refine lv_iload_n hx hb dX5_copies_9 rfl (lv_at hl 1 rfl) ?_
  refine va_iald hx hb hK hP 1 0 rfl rfl (ki_in (om_8 b0) (om_166 b1)) dX5_copies_10 ?_
  refine lv_topi (fun y_1 ey_1 => ?_)
  have j_1 : y_1.toInt = (fm p0.toNatClampNeg).toInt := congrArg Int32.toInt ey_1
  refine va_iast hx hb hK hP hD hS 1 0 rfl rfl (ki_in (om_8 b2) (om_166 b3)) dX5_copies_11 (fun H locs hP hD hS => ?_)
  have hP : va_P (dC, dI) vwCl [kx_5 h0 g_row m_n m_slots m_thrown g_many g_loss g_less g_voteValue g_voteNumber g_allValue g_allNumber m_allMany g_nodeL g_nodeR m_nodes g_part m_partMany g_wasMany g_wasLoss g_wasValue g_wasNumber g_path m_pathMany g_heavyValue g_heavyTimes m_heavyMany g_fewest g_which g_met m_mostMet, kx_a g_many cyI 324 (upd fm p1.toNatClampNeg y_1), kx_a g_loss cyI 324 fl, kx_a g_less cyI 324 fe, kx_a g_voteValue cyI 1944 vv, kx_a g_voteNumber cyI 1944 vn] H := hP
  have hD : va_D A [kx_5 h0 g_row m_n m_slots m_thrown g_many g_loss g_less g_voteValue g_voteNumber g_allValue g_allNumber m_allMany g_nodeL g_nodeR m_nodes g_part m_partMany g_wasMany g_wasLoss g_wasValue g_wasNumber g_path m_pathMany g_heavyValue g_heavyTimes m_heavyMany g_fewest g_which g_met m_mostMet, kx_a g_many cyI 324 (upd fm p1.toNatClampNeg y_1), kx_a g_loss cyI 324 fl, kx_a g_less cyI 324 fe, kx_a g_voteValue cyI 1944 vv, kx_a g_voteNumber cyI 1944 vn] := hD
  refine lv_aload_n hx hb dX5_copies_12 rfl (lv_at hl 0 rfl) ?_
  refine va_get (D := (dC, dI)) (ci := 5) (v := .ref g_loss) (C := RX5) (T := TX5) (N := 30) hx hb hts hi_5 hown hK hP 0 rfl rfl 5 (by decide) hf_20 (fun _ h9 => h9) rfl dX5_copies_13 ?_
  refine lv_iload_n hx hb dX5_copies_16 rfl (lv_at hl 2 rfl) ?_
  refine lv_aload_n hx hb dX5_copies_17 rfl (lv_at hl 0 rfl) ?_
  refine va_get (D := (dC, dI)) (ci := 5) (v := .ref g_loss) (C := RX5) (T := TX5) (N := 30) hx hb hts hi_5 hown hK hP 0 rfl rfl 5 (by decide) hf_20 (fun _ h9 => h9) rfl dX5_copies_18 ?_
  refine lv_iload_n hx hb dX5_copies_21 rfl (lv_at hl 1 rfl) ?_
  refine va_iald hx hb hK hP 2 0 rfl rfl (ki_in (om_8 b0) (om_166 b1)) dX5_copies_22 ?_
  refine lv_topi (fun y_2 ey_2 => ?_)
  have j_2 : y_2.toInt = (fl p0.toNatClampNeg).toInt := congrArg Int32.toInt ey_2
  refine va_iast hx hb hK hP hD hS 2 0 rfl rfl (ki_in (om_8 b2) (om_166 b3)) dX5_copies_23 (fun H locs hP hD hS => ?_)
  have hP : va_P (dC, dI) vwCl [kx_5 h0 g_row m_n m_slots m_thrown g_many g_loss g_less g_voteValue g_voteNumber g_allValue g_allNumber m_allMany g_nodeL g_nodeR m_nodes g_part m_partMany g_wasMany g_wasLoss g_wasValue g_wasNumber g_path m_pathMany g_heavyValue g_heavyTimes m_heavyMany g_fewest g_which g_met m_mostMet, kx_a g_many cyI 324 (upd fm p1.toNatClampNeg y_1), kx_a g_loss cyI 324 (upd fl p1.toNatClampNeg y_2), kx_a g_less cyI 324 fe, kx_a g_voteValue cyI 1944 vv, kx_a g_voteNumber cyI 1944 vn] H := hP
  have hD : va_D A [kx_5 h0 g_row m_n m_slots m_thrown g_many g_loss g_less g_voteValue g_voteNumber g_allValue g_allNumber m_allMany g_nodeL g_nodeR m_nodes g_part m_partMany g_wasMany g_wasLoss g_wasValue g_wasNumber g_path m_pathMany g_heavyValue g_heavyTimes m_heavyMany g_fewest g_which g_met m_mostMet, kx_a g_many cyI 324 (upd fm p1.toNatClampNeg y_1), kx_a g_loss cyI 324 (upd fl p1.toNatClampNeg y_2), kx_a g_less cyI 324 fe, kx_a g_voteValue cyI 1944 vv, kx_a g_voteNumber cyI 1944 vn] := hD
  refine lv_aload_n hx hb dX5_copies_24 rfl (lv_at hl 0 rfl) ?_
  refine va_get (D := (dC, dI)) (ci := 5) (v := .ref g_less) (C := RX5) (T := TX5) (N := 30) hx hb hts hi_5 hown hK hP 0 rfl rfl 6 (by decide) hf_23 (fun _ h9 => h9) rfl dX5_copies_25 ?_
  refine lv_iload_n hx hb dX5_copies_28 rfl (lv_at hl 2 rfl) ?_
  refine lv_aload_n hx hb dX5_copies_29 rfl (lv_at hl 0 rfl) ?_
  refine va_get (D := (dC, dI)) (ci := 5) (v := .ref g_less) (C := RX5) (T := TX5) (N := 30) hx hb hts hi_5 hown hK hP 0 rfl rfl 6 (by decide) hf_23 (fun _ h9 => h9) rfl dX5_copies_30 ?_
  refine lv_iload_n hx hb dX5_copies_33 rfl (lv_at hl 1 rfl) ?_
  refine va_iald hx hb hK hP 3 0 rfl rfl (ki_in (om_8 b0) (om_166 b1)) dX5_copies_34 ?_
  refine lv_topi (fun y_3 ey_3 => ?_)
  have j_3 : y_3.toInt = (fe p0.toNatClampNeg).toInt := congrArg Int32.toInt ey_3
  refine va_iast hx hb hK hP hD hS 3 0 rfl rfl (ki_in (om_8 b2) (om_166 b3)) dX5_copies_35 (fun H locs hP hD hS => ?_)
  have hP : va_P (dC, dI) vwCl [kx_5 h0 g_row m_n m_slots m_thrown g_many g_loss g_less g_voteValue g_voteNumber g_allValue g_allNumber m_allMany g_nodeL g_nodeR m_nodes g_part m_partMany g_wasMany g_wasLoss g_wasValue g_wasNumber g_path m_pathMany g_heavyValue g_heavyTimes m_heavyMany g_fewest g_which g_met m_mostMet, kx_a g_many cyI 324 (upd fm p1.toNatClampNeg y_1), kx_a g_loss cyI 324 (upd fl p1.toNatClampNeg y_2), kx_a g_less cyI 324 (upd fe p1.toNatClampNeg y_3), kx_a g_voteValue cyI 1944 vv, kx_a g_voteNumber cyI 1944 vn] H := hP
  have hD : va_D A [kx_5 h0 g_row m_n m_slots m_thrown g_many g_loss g_less g_voteValue g_voteNumber g_allValue g_allNumber m_allMany g_nodeL g_nodeR m_nodes g_part m_partMany g_wasMany g_wasLoss g_wasValue g_wasNumber g_path m_pathMany g_heavyValue g_heavyTimes m_heavyMany g_fewest g_which g_met m_mostMet, kx_a g_many cyI 324 (upd fm p1.toNatClampNeg y_1), kx_a g_loss cyI 324 (upd fl p1.toNatClampNeg y_2), kx_a g_less cyI 324 (upd fe p1.toNatClampNeg y_3), kx_a g_voteValue cyI 1944 vv, kx_a g_voteNumber cyI 1944 vn] := hD
  refine lv_iconst (v := 0) hx hb dX5_copies_36 (by decide) ?_
  refine lv_istore_n (lv' := [(3, .int 0), (0, .ref h0), (1, .int p0), (2, .int p1)]) hx hb dX5_copies_37 rfl hl (by decide) rfl (fun ls hl => ?_)
  have LP1 : ∀ (n : Nat) (i : Int32) (wv : Nat → Int32) (wn : Nat → Int32), (0 ≤ i.toInt) → (i.toInt ≤ 6) → (mj_cp vv vn wv wn p0.toNatClampNeg p1.toNatClampNeg i.toNatClampNeg) → (6 - i.toInt).toNat < n → ∀ (H : Heap) (locs : List Loc), va_P (dC, dI) vwCl [kx_5 h0 g_row m_n m_slots m_thrown g_many g_loss g_less g_voteValue g_voteNumber g_allValue g_allNumber m_allMany g_nodeL g_nodeR m_nodes g_part m_partMany g_wasMany g_wasLoss g_wasValue g_wasNumber g_path m_pathMany g_heavyValue g_heavyTimes m_heavyMany g_fewest g_which g_met m_mostMet, kx_a g_many cyI 324 (upd fm p1.toNatClampNeg y_1), kx_a g_loss cyI 324 (upd fl p1.toNatClampNeg y_2), kx_a g_less cyI 324 (upd fe p1.toNatClampNeg y_3), kx_a g_voteValue cyI 1944 wv, kx_a g_voteNumber cyI 1944 wn] H → va_D A [kx_5 h0 g_row m_n m_slots m_thrown g_many g_loss g_less g_voteValue g_voteNumber g_allValue g_allNumber m_allMany g_nodeL g_nodeR m_nodes g_part m_partMany g_wasMany g_wasLoss g_wasValue g_wasNumber g_path m_pathMany g_heavyValue g_heavyTimes m_heavyMany g_fewest g_which g_met m_mostMet, kx_a g_many cyI 324 (upd fm p1.toNatClampNeg y_1), kx_a g_loss cyI 324 (upd fl p1.toNatClampNeg y_2), kx_a g_less cyI 324 (upd fe p1.toNatClampNeg y_3), kx_a g_voteValue cyI 1944 wv, kx_a g_voteNumber cyI 1944 wn] → va_S A s.heap H locs → ∀ (ls : Array Slot), lv_has ls 4 [(3, .int i), (0, .ref h0), (1, .int p0), (2, .int p1)] → W p l e (headSpec wsX5_copies ({ frames := 0, cells := 0, slots := 0, locals := 0 })).room s m ([.ref h0, .int p0, .int p1] : List Value).toArray below meth c H locs 0 0 (MQ below (va_Qv (fun u : (Nat → Int32) × (Nat → Int32) × (Nat → Int32) × (Nat → Int32) × (Nat → Int32) => u.1 = upd fm p1.toNatClampNeg (fm p0.toNatClampNeg) ∧ u.2.1 = upd fl p1.toNatClampNeg (fl p0.toNatClampNeg) ∧ u.2.2.1 = upd fe p1.toNatClampNeg (fe p0.toNatClampNeg) ∧ mj_cp vv vn u.2.2.2.1 u.2.2.2.2 p0.toNatClampNeg p1.toNatClampNeg 6) (fun (u : (Nat → Int32) × (Nat → Int32) × (Nat → Int32) × (Nat → Int32) × (Nat → Int32)) (t : State) => va_P (dC, dI) vwCl [kx_5 h0 g_row m_n m_slots m_thrown g_many g_loss g_less g_voteValue g_voteNumber g_allValue g_allNumber m_allMany g_nodeL g_nodeR m_nodes g_part m_partMany g_wasMany g_wasLoss g_wasValue g_wasNumber g_path m_pathMany g_heavyValue g_heavyTimes m_heavyMany g_fewest g_which g_met m_mostMet, kx_a g_many cyI 324 u.1, kx_a g_loss cyI 324 u.2.1, kx_a g_less cyI 324 u.2.2.1, kx_a g_voteValue cyI 1944 u.2.2.2.1, kx_a g_voteNumber cyI 1944 u.2.2.2.2] t.heap ∧ va_K (dC, dI) vwCl [(cyI, .int)] t ∧ va_D A [kx_5 h0 g_row m_n m_slots m_thrown g_many g_loss g_less g_voteValue g_voteNumber g_allValue g_allNumber m_allMany g_nodeL g_nodeR m_nodes g_part m_partMany g_wasMany g_wasLoss g_wasValue g_wasNumber g_path m_pathMany g_heavyValue g_heavyTimes m_heavyMany g_fewest g_which g_met m_mostMet, kx_a g_many cyI 324 u.1, kx_a g_loss cyI 324 u.2.1, kx_a g_less cyI 324 u.2.2.1, kx_a g_voteValue cyI 1944 u.2.2.2.1, kx_a g_voteNumber cyI 1944 u.2.2.2.2]) A) ([.ref h0, .int p0, .int p1] : List Value).toArray s 0 0 A) (F0 m 38 ls []) := by
    intro n
    induction n with
    | zero => intro i wv wn LP1_h0 LP1_h1 LP1_h2 hn; exact absurd hn (Nat.not_lt_zero _)
    | succ n ih1 =>
      intro i wv wn LP1_h0 LP1_h1 LP1_h2 hn1 H locs hP hD hS ls hl
      have n_i := ki_nat i rfl (om_8 LP1_h0)
      refine lv_iload_n hx hb dX5_copies_38 rfl (lv_at hl 0 rfl) ?_
      refine lv_bipush (v := 6) hx hb dX5_copies_39 (by decide) ?_
      refine lv_icmp_ge (tgt := 94) hx hb dX5_copies_41 (by decide) (fun c_4 => ?_) (fun c_4 => ?_)
      · have i_4 : 6 ≤ i.toInt := kc_le c_4
        have hP9 := hP
        have hD9 := hD
        have hK9 := hK
        exact W.vret hx hb hr (fun t ht hW => ⟨⟨((upd fm p1.toNatClampNeg y_1), (upd fl p1.toNatClampNeg y_2), (upd fe p1.toNatClampNeg y_3), wv, wn), rfl, ⟨(by (try dsimp only); rw [ey_1]), (by (try dsimp only); rw [ey_2]), (by (try dsimp only); rw [ey_3]), (by (try dsimp only); rw [show (6 : Nat) = i.toNatClampNeg by omega]; exact LP1_h2)⟩, by rw [ht]; exact hP9, va_K.moved hW.alike hK9, hD9⟩, hS.F ht⟩) hS.2.2 dX5_copies_94
      · have i_4 : i.toInt < 6 := kc_nle c_4
        refine lv_aload_n hx hb dX5_copies_44 rfl (lv_at hl 1 rfl) ?_
        refine va_get (D := (dC, dI)) (ci := 5) (v := .ref g_voteValue) (C := RX5) (T := TX5) (N := 30) hx hb hts hi_5 hown hK hP 0 rfl rfl 7 (by decide) hf_26 (fun _ h9 => h9) rfl dX5_copies_45 ?_
        refine lv_bipush (v := 6) hx hb dX5_copies_48 (by decide) ?_
        refine lv_iload_n hx hb dX5_copies_50 rfl (lv_at hl 3 rfl) ?_
        refine lv_imul hx hb dX5_copies_51 ?_
        refine lv_topi (fun y_5 ey_5 => ?_)
        have i_5 : y_5.toInt = 6 * p1.toInt := ki_mul ey_5 rfl rfl (om_167 b2) (om_168 b3)
        refine lv_iload_n hx hb dX5_copies_52 rfl (lv_at hl 0 rfl) ?_
        refine lv_iadd hx hb dX5_copies_53 ?_
        refine lv_topi (fun y_6 ey_6 => ?_)
        have i_6 : y_6.toInt = y_5.toInt + i.toInt := ki_add ey_6 rfl rfl (om_171 b2 LP1_h0 i_5) (om_245 b3 LP1_h1 i_5)
        refine lv_aload_n hx hb dX5_copies_54 rfl (lv_at hl 1 rfl) ?_
        refine va_get (D := (dC, dI)) (ci := 5) (v := .ref g_voteValue) (C := RX5) (T := TX5) (N := 30) hx hb hts hi_5 hown hK hP 0 rfl rfl 7 (by decide) hf_26 (fun _ h9 => h9) rfl dX5_copies_55 ?_
        refine lv_bipush (v := 6) hx hb dX5_copies_58 (by decide) ?_
        refine lv_iload_n hx hb dX5_copies_60 rfl (lv_at hl 2 rfl) ?_
        refine lv_imul hx hb dX5_copies_61 ?_
        refine lv_topi (fun y_7 ey_7 => ?_)
        have i_7 : y_7.toInt = 6 * p0.toInt := ki_mul ey_7 rfl rfl (om_167 b0) (om_168 b1)
        refine lv_iload_n hx hb dX5_copies_62 rfl (lv_at hl 0 rfl) ?_
        refine lv_iadd hx hb dX5_copies_63 ?_
        refine lv_topi (fun y_8 ey_8 => ?_)
        have i_8 : y_8.toInt = y_7.toInt + i.toInt := ki_add ey_8 rfl rfl (om_171 b0 LP1_h0 i_7) (om_245 b1 LP1_h1 i_7)
        refine va_iald hx hb hK hP 4 0 rfl rfl (ki_in (om_172 b0 LP1_h0 i_7 i_8) (om_176 b1 i_4 i_7 i_8)) dX5_copies_64 ?_
        refine lv_topi (fun y_9 ey_9 => ?_)
        have j_9 : y_9.toInt = (wv y_8.toNatClampNeg).toInt := congrArg Int32.toInt ey_9
        refine va_iast hx hb hK hP hD hS 4 0 rfl rfl (ki_in (om_172 b2 LP1_h0 i_5 i_6) (om_176 b3 i_4 i_5 i_6)) dX5_copies_65 (fun H locs hP hD hS => ?_)
        have hP : va_P (dC, dI) vwCl [kx_5 h0 g_row m_n m_slots m_thrown g_many g_loss g_less g_voteValue g_voteNumber g_allValue g_allNumber m_allMany g_nodeL g_nodeR m_nodes g_part m_partMany g_wasMany g_wasLoss g_wasValue g_wasNumber g_path m_pathMany g_heavyValue g_heavyTimes m_heavyMany g_fewest g_which g_met m_mostMet, kx_a g_many cyI 324 (upd fm p1.toNatClampNeg y_1), kx_a g_loss cyI 324 (upd fl p1.toNatClampNeg y_2), kx_a g_less cyI 324 (upd fe p1.toNatClampNeg y_3), kx_a g_voteValue cyI 1944 (upd wv y_6.toNatClampNeg y_9), kx_a g_voteNumber cyI 1944 wn] H := hP
        have hD : va_D A [kx_5 h0 g_row m_n m_slots m_thrown g_many g_loss g_less g_voteValue g_voteNumber g_allValue g_allNumber m_allMany g_nodeL g_nodeR m_nodes g_part m_partMany g_wasMany g_wasLoss g_wasValue g_wasNumber g_path m_pathMany g_heavyValue g_heavyTimes m_heavyMany g_fewest g_which g_met m_mostMet, kx_a g_many cyI 324 (upd fm p1.toNatClampNeg y_1), kx_a g_loss cyI 324 (upd fl p1.toNatClampNeg y_2), kx_a g_less cyI 324 (upd fe p1.toNatClampNeg y_3), kx_a g_voteValue cyI 1944 (upd wv y_6.toNatClampNeg y_9), kx_a g_voteNumber cyI 1944 wn] := hD
        refine lv_aload_n hx hb dX5_copies_66 rfl (lv_at hl 1 rfl) ?_
        refine va_get (D := (dC, dI)) (ci := 5) (v := .ref g_voteNumber) (C := RX5) (T := TX5) (N := 30) hx hb hts hi_5 hown hK hP 0 rfl rfl 8 (by decide) hf_29 (fun _ h9 => h9) rfl dX5_copies_67 ?_
        refine lv_bipush (v := 6) hx hb dX5_copies_70 (by decide) ?_
        refine lv_iload_n hx hb dX5_copies_72 rfl (lv_at hl 3 rfl) ?_
        refine lv_imul hx hb dX5_copies_73 ?_
        refine lv_topi (fun y_10 ey_10 => ?_)
        have i_10 : y_10.toInt = 6 * p1.toInt := ki_mul ey_10 rfl rfl (om_167 b2) (om_168 b3)
        refine lv_iload_n hx hb dX5_copies_74 rfl (lv_at hl 0 rfl) ?_
        refine lv_iadd hx hb dX5_copies_75 ?_
        refine lv_topi (fun y_11 ey_11 => ?_)
        have i_11 : y_11.toInt = y_10.toInt + i.toInt := ki_add ey_11 rfl rfl (om_171 b2 LP1_h0 i_10) (om_245 b3 LP1_h1 i_10)
        refine lv_aload_n hx hb dX5_copies_76 rfl (lv_at hl 1 rfl) ?_
        refine va_get (D := (dC, dI)) (ci := 5) (v := .ref g_voteNumber) (C := RX5) (T := TX5) (N := 30) hx hb hts hi_5 hown hK hP 0 rfl rfl 8 (by decide) hf_29 (fun _ h9 => h9) rfl dX5_copies_77 ?_
        refine lv_bipush (v := 6) hx hb dX5_copies_80 (by decide) ?_
        refine lv_iload_n hx hb dX5_copies_82 rfl (lv_at hl 2 rfl) ?_
        refine lv_imul hx hb dX5_copies_83 ?_
        refine lv_topi (fun y_12 ey_12 => ?_)
        have i_12 : y_12.toInt = 6 * p0.toInt := ki_mul ey_12 rfl rfl (om_167 b0) (om_168 b1)
        refine lv_iload_n hx hb dX5_copies_84 rfl (lv_at hl 0 rfl) ?_
        refine lv_iadd hx hb dX5_copies_85 ?_
        refine lv_topi (fun y_13 ey_13 => ?_)
        have i_13 : y_13.toInt = y_12.toInt + i.toInt := ki_add ey_13 rfl rfl (om_171 b0 LP1_h0 i_12) (om_245 b1 LP1_h1 i_12)
        refine va_iald hx hb hK hP 5 0 rfl rfl (ki_in (om_172 b0 LP1_h0 i_12 i_13) (om_176 b1 i_4 i_12 i_13)) dX5_copies_86 ?_
        refine lv_topi (fun y_14 ey_14 => ?_)
        have j_14 : y_14.toInt = (wn y_13.toNatClampNeg).toInt := congrArg Int32.toInt ey_14
        refine va_iast hx hb hK hP hD hS 5 0 rfl rfl (ki_in (om_172 b2 LP1_h0 i_10 i_11) (om_176 b3 i_4 i_10 i_11)) dX5_copies_87 (fun H locs hP hD hS => ?_)
        have hP : va_P (dC, dI) vwCl [kx_5 h0 g_row m_n m_slots m_thrown g_many g_loss g_less g_voteValue g_voteNumber g_allValue g_allNumber m_allMany g_nodeL g_nodeR m_nodes g_part m_partMany g_wasMany g_wasLoss g_wasValue g_wasNumber g_path m_pathMany g_heavyValue g_heavyTimes m_heavyMany g_fewest g_which g_met m_mostMet, kx_a g_many cyI 324 (upd fm p1.toNatClampNeg y_1), kx_a g_loss cyI 324 (upd fl p1.toNatClampNeg y_2), kx_a g_less cyI 324 (upd fe p1.toNatClampNeg y_3), kx_a g_voteValue cyI 1944 (upd wv y_6.toNatClampNeg y_9), kx_a g_voteNumber cyI 1944 (upd wn y_11.toNatClampNeg y_14)] H := hP
        have hD : va_D A [kx_5 h0 g_row m_n m_slots m_thrown g_many g_loss g_less g_voteValue g_voteNumber g_allValue g_allNumber m_allMany g_nodeL g_nodeR m_nodes g_part m_partMany g_wasMany g_wasLoss g_wasValue g_wasNumber g_path m_pathMany g_heavyValue g_heavyTimes m_heavyMany g_fewest g_which g_met m_mostMet, kx_a g_many cyI 324 (upd fm p1.toNatClampNeg y_1), kx_a g_loss cyI 324 (upd fl p1.toNatClampNeg y_2), kx_a g_less cyI 324 (upd fe p1.toNatClampNeg y_3), kx_a g_voteValue cyI 1944 (upd wv y_6.toNatClampNeg y_9), kx_a g_voteNumber cyI 1944 (upd wn y_11.toNatClampNeg y_14)] := hD
        obtain ⟨x_15, ex_15⟩ : ∃ y : Int32, y = i + 1 := ⟨_, rfl⟩
        have i_15 : x_15.toInt = i.toInt + 1 := ki_add ex_15 rfl rfl (om_10 LP1_h0) (om_138 LP1_h1)
        refine lv_iinc (v := x_15) (lv' := [(3, .int x_15), (0, .ref h0), (1, .int p0), (2, .int p1)]) hx hb dX5_copies_88 hl (k := 0) rfl (by rw [ex_15]; rfl) (by decide) rfl (fun ls hl => ?_)
        refine lv_goto (tgt := 38) hx hb dX5_copies_91 (by decide) ?_
        have n_16 := ki_nat y_6 rfl (om_172 b2 LP1_h0 i_5 i_6)
        have n_17 := ki_nat y_8 rfl (om_172 b0 LP1_h0 i_7 i_8)
        have n_18 := ki_nat y_11 rfl (om_172 b2 LP1_h0 i_10 i_11)
        have n_19 := ki_nat y_13 rfl (om_172 b0 LP1_h0 i_12 i_13)
        have n_20 := ki_nat x_15 rfl (om_31 LP1_h0 i_15)
        exact ih1 x_15 (upd wv y_6.toNatClampNeg y_9) (upd wn y_11.toNatClampNeg y_14) (om_31 LP1_h0 i_15) (om_246 i_4 i_15) (mj_cp_step LP1_h2 (by omega) (by omega) (by omega) (by omega) (by omega) ey_9 ey_14 (by omega)) (om_mu hn1 (om_80 i_15) (om_86 i_4)) _ _ hP hD hS ls (lv_sub hl [0, 1, 2, 3] rfl)
  have k_21 : (0 : Int32).toInt = 0 := rfl
  exact LP1 ((6 - 0 : Int).toNat + 1) 0 vv vn om_32 om_247 (mj_cp_0 _ _ _ _ rfl) (Nat.lt_succ_self _) _ _ hP hD hS ls (lv_sub hl [0, 1, 2, 3] rfl)

set_option maxHeartbeats 4000000 in
set_option maxRecDepth 100000 in
theorem c_X5_laysParts (l : Launch) (dC : Nat → ClassId) (dI : Nat → Nat → Nat) (h0 : Nat) (g_row : Nat) (g_many : Nat) (g_loss : Nat) (g_less : Nat) (g_voteValue : Nat) (g_voteNumber : Nat) (g_allValue : Nat) (g_allNumber : Nat) (g_nodeL : Nat) (g_nodeR : Nat) (g_part : Nat) (g_wasMany : Nat) (g_wasLoss : Nat) (g_wasValue : Nat) (g_wasNumber : Nat) (g_path : Nat) (g_heavyValue : Nat) (g_heavyTimes : Nat) (g_fewest : Nat) (g_which : Nat) (g_met : Nat) (m_n : Int32) (m_slots : Int32) (m_thrown : Int32) (m_allMany : Int32) (m_nodes : Int32) (m_partMany : Int32) (m_pathMany : Int32) (m_heavyMany : Int32) (m_mostMet : Int32) (cyI : ClassId) (nl : Nat → Int32) (nr : Nat → Int32) (gp : Nat → Int32) (p0 : Int32) (p1 : Int32) (sz : Nat) (b0 : 0 ≤ m_nodes.toInt) (b1 : m_nodes.toInt ≤ 319) (q0 : parts320 gp) : Met l yX5_laysParts wsX5_laysParts ({ frames := 0, cells := 0, slots := 0, locals := 0 }) (va_Pc [.ref h0, .int p0, .int p1] (fun U => U.heap.size = sz ∧ va_P (dC, dI) vwCl [kx_5 h0 g_row m_n m_slots m_thrown g_many g_loss g_less g_voteValue g_voteNumber g_allValue g_allNumber m_allMany g_nodeL g_nodeR m_nodes g_part m_partMany g_wasMany g_wasLoss g_wasValue g_wasNumber g_path m_pathMany g_heavyValue g_heavyTimes m_heavyMany g_fewest g_which g_met m_mostMet, kx_a g_nodeL cyI 320 nl, kx_a g_nodeR cyI 320 nr, kx_a g_part cyI 320 gp] U.heap ∧ va_K (dC, dI) vwCl [(cyI, .int)] U ∧ va_D (fun _ => True) [kx_5 h0 g_row m_n m_slots m_thrown g_many g_loss g_less g_voteValue g_voteNumber g_allValue g_allNumber m_allMany g_nodeL g_nodeR m_nodes g_part m_partMany g_wasMany g_wasLoss g_wasValue g_wasNumber g_path m_pathMany g_heavyValue g_heavyTimes m_heavyMany g_fewest g_which g_met m_mostMet, kx_a g_nodeL cyI 320 nl, kx_a g_nodeR cyI 320 nr, kx_a g_part cyI 320 gp])) (va_Qv (fun u : Int32 × (Nat → Int32) => u.1.toInt = (mj_pq nl nr p0.toInt p1.toInt m_nodes.toNatClampNeg : Int) ∧ mj_pa nl nr p0.toInt p1.toInt u.2 m_nodes.toNatClampNeg ∧ parts320 u.2 ∧ 0 ≤ u.1.toInt ∧ u.1.toInt ≤ m_nodes.toInt) (fun (u : Int32 × (Nat → Int32)) (t : State) => va_P (dC, dI) vwCl [kx_5 h0 g_row m_n m_slots m_thrown g_many g_loss g_less g_voteValue g_voteNumber g_allValue g_allNumber m_allMany g_nodeL g_nodeR m_nodes g_part u.1 g_wasMany g_wasLoss g_wasValue g_wasNumber g_path m_pathMany g_heavyValue g_heavyTimes m_heavyMany g_fewest g_which g_met m_mostMet, kx_a g_nodeL cyI 320 nl, kx_a g_nodeR cyI 320 nr, kx_a g_part cyI 320 u.2] t.heap ∧ va_K (dC, dI) vwCl [(cyI, .int)] t ∧ va_D (va_A [kx_5 h0 g_row m_n m_slots m_thrown g_many g_loss g_less g_voteValue g_voteNumber g_allValue g_allNumber m_allMany g_nodeL g_nodeR m_nodes g_part m_partMany g_wasMany g_wasLoss g_wasValue g_wasNumber g_path m_pathMany g_heavyValue g_heavyTimes m_heavyMany g_fewest g_which g_met m_mostMet, kx_a g_nodeL cyI 320 nl, kx_a g_nodeR cyI 320 nr, kx_a g_part cyI 320 gp] sz) [kx_5 h0 g_row m_n m_slots m_thrown g_many g_loss g_less g_voteValue g_voteNumber g_allValue g_allNumber m_allMany g_nodeL g_nodeR m_nodes g_part u.1 g_wasMany g_wasLoss g_wasValue g_wasNumber g_path m_pathMany g_heavyValue g_heavyTimes m_heavyMany g_fewest g_which g_met m_mostMet, kx_a g_nodeL cyI 320 nl, kx_a g_nodeR cyI 320 nr, kx_a g_part cyI 320 u.2]) (va_A [kx_5 h0 g_row m_n m_slots m_thrown g_many g_loss g_less g_voteValue g_voteNumber g_allValue g_allNumber m_allMany g_nodeL g_nodeR m_nodes g_part m_partMany g_wasMany g_wasLoss g_wasValue g_wasNumber g_path m_pathMany g_heavyValue g_heavyTimes m_heavyMany g_fewest g_which g_met m_mostMet, kx_a g_nodeL cyI 320 nl, kx_a g_nodeR cyI 320 nr, kx_a g_part cyI 320 gp] sz)) 0 0 (va_A [kx_5 h0 g_row m_n m_slots m_thrown g_many g_loss g_less g_voteValue g_voteNumber g_allValue g_allNumber m_allMany g_nodeL g_nodeR m_nodes g_part m_partMany g_wasMany g_wasLoss g_wasValue g_wasNumber g_path m_pathMany g_heavyValue g_heavyTimes m_heavyMany g_fewest g_which g_met m_mostMet, kx_a g_nodeL cyI 320 nl, kx_a g_nodeR cyI 320 nr, kx_a g_part cyI 320 gp] sz) := by
  refine Met.ofW (cc := cX5_laysParts) (maxL := 5) (ret := none) (by decide) rfl ?_
  intro p e s m args below meth c s₁ B hml hv
  obtain ⟨rfl, hsz, hP, hK, hD0⟩ := hv
  have hx := B.exec
  have hb := B.bytes
  have hr := B.returns
  have hts := atoms_spec (ws := wsX5_laysParts) B.pre
  have hown : s.vm.findClass RX5 = some m.cls := findClass_of_methodNamed B.named
  have hlocks := B.notSynchronized
  subst hsz
  have hD := hD0.self (sz := s.heap.size)
  generalize hAe : va_A [kx_5 h0 g_row m_n m_slots m_thrown g_many g_loss g_less g_voteValue g_voteNumber g_allValue g_allNumber m_allMany g_nodeL g_nodeR m_nodes g_part m_partMany g_wasMany g_wasLoss g_wasValue g_wasNumber g_path m_pathMany g_heavyValue g_heavyTimes m_heavyMany g_fewest g_which g_met m_mostMet, kx_a g_nodeL cyI 320 nl, kx_a g_nodeR cyI 320 nr, kx_a g_part cyI 320 gp] s.heap.size = A at hD ⊢
  have hA : ∀ q : Nat, s.heap.size ≤ q → A q := fun q h => by rw [← hAe]; exact Or.inr h
  have hS : va_S A s.heap s.heap [] := va_S.rf
  have hP : va_P (dC, dI) vwCl [kx_5 h0 g_row m_n m_slots m_thrown g_many g_loss g_less g_voteValue g_voteNumber g_allValue g_allNumber m_allMany g_nodeL g_nodeR m_nodes g_part m_partMany g_wasMany g_wasLoss g_wasValue g_wasNumber g_path m_pathMany g_heavyValue g_heavyTimes m_heavyMany g_fewest g_which g_met m_mostMet, kx_a g_nodeL cyI 320 nl, kx_a g_nodeR cyI 320 nr, kx_a g_part cyI 320 gp] s.heap := hP
  have hl := lv_entry ([.ref h0, .int p0, .int p1]) (n := 5) (Nat.le_of_ble_eq_true rfl)
  rw [lg_entry_eq]
  generalize (lg_sl ([.ref h0, .int p0, .int p1]) ++ List.replicate (5 - (lg_sl ([.ref h0, .int p0, .int p1])).length) Slot.unset).toArray = ls at hl ⊢
  have hl : lv_has ls 5 [(0, .ref h0), (1, .int p0), (2, .int p1)] := hl
  have hf_115 := hts (.fieldLink RX5 115 "MajorityIndexModel" "partMany" "I") (List.mem_of_getElem? (i := 1) rfl)
  have hi_5 : ∀ w ∈ u_ws RX5 TX5 30, w ∈ wsX5_laysParts := fun w h => List.mem_cons_of_mem _ (List.mem_append_right _ h)
  have hf_101 := hts (.fieldLink RX5 101 "MajorityIndexModel" "nodes" "I") (List.mem_of_getElem? (i := 2) rfl)
  have hf_38 := hts (.fieldLink RX5 38 "MajorityIndexModel" "nodeL" "[I") (List.mem_of_getElem? (i := 3) rfl)
  have hf_41 := hts (.fieldLink RX5 41 "MajorityIndexModel" "nodeR" "[I") (List.mem_of_getElem? (i := 4) rfl)
  have hf_44 := hts (.fieldLink RX5 44 "MajorityIndexModel" "part" "[I") (List.mem_of_getElem? (i := 5) rfl)
  refine lv_aload_n hx hb dX5_laysParts_0 rfl (lv_at hl 0 rfl) ?_
  refine lv_iconst (v := 0) hx hb dX5_laysParts_1 (by decide) ?_
  refine va_put (D := (dC, dI)) (ci := 5) (v := .int 0) (ty := .int) (C := RX5) (T := TX5) (N := 30) hx hb hts hi_5 tyX5 tyX5_ok nmX5 hown hK hP hD hS 0 rfl rfl 16 (by decide) hf_115 (fun _ h9 => h9) rfl (by decide +kernel) rfl rfl (Nat.le_of_ble_eq_true rfl) dX5_laysParts_2 (fun H locs hP hD hS => ?_)
  have hP : va_P (dC, dI) vwCl [kx_5 h0 g_row m_n m_slots m_thrown g_many g_loss g_less g_voteValue g_voteNumber g_allValue g_allNumber m_allMany g_nodeL g_nodeR m_nodes g_part 0 g_wasMany g_wasLoss g_wasValue g_wasNumber g_path m_pathMany g_heavyValue g_heavyTimes m_heavyMany g_fewest g_which g_met m_mostMet, kx_a g_nodeL cyI 320 nl, kx_a g_nodeR cyI 320 nr, kx_a g_part cyI 320 gp] H := hP
  have hD : va_D A [kx_5 h0 g_row m_n m_slots m_thrown g_many g_loss g_less g_voteValue g_voteNumber g_allValue g_allNumber m_allMany g_nodeL g_nodeR m_nodes g_part 0 g_wasMany g_wasLoss g_wasValue g_wasNumber g_path m_pathMany g_heavyValue g_heavyTimes m_heavyMany g_fewest g_which g_met m_mostMet, kx_a g_nodeL cyI 320 nl, kx_a g_nodeR cyI 320 nr, kx_a g_part cyI 320 gp] := hD
  refine lv_iload_n hx hb dX5_laysParts_5 rfl (lv_at hl 1 rfl) ?_
  refine lv_istore_n (lv' := [(3, .int p0), (0, .ref h0), (1, .int p0), (2, .int p1)]) hx hb dX5_laysParts_6 rfl hl (by decide) rfl (fun ls hl => ?_)
  refine lv_iconst (v := 0) hx hb dX5_laysParts_7 (by decide) ?_
  refine lv_istore (lv' := [(4, .int 0), (3, .int p0), (0, .ref h0), (1, .int p0), (2, .int p1)]) hx hb dX5_laysParts_8 hl (by decide) rfl (fun ls hl => ?_)
  have LP1 : ∀ (n : Nat) (i : Int32) (bh : Int32) (pq : Int32) (gq : Nat → Int32), (0 ≤ i.toInt) → (i.toInt ≤ m_nodes.toInt) → (bh.toInt = mj_pb nl nr p0.toInt p1.toInt i.toNatClampNeg) → (pq.toInt = (mj_pq nl nr p0.toInt p1.toInt i.toNatClampNeg : Int)) → (mj_pa nl nr p0.toInt p1.toInt gq i.toNatClampNeg) → (parts320 gq) → (0 ≤ pq.toInt) → (pq.toInt ≤ i.toInt) → (m_nodes.toInt - i.toInt).toNat < n → ∀ (H : Heap) (locs : List Loc), va_P (dC, dI) vwCl [kx_5 h0 g_row m_n m_slots m_thrown g_many g_loss g_less g_voteValue g_voteNumber g_allValue g_allNumber m_allMany g_nodeL g_nodeR m_nodes g_part pq g_wasMany g_wasLoss g_wasValue g_wasNumber g_path m_pathMany g_heavyValue g_heavyTimes m_heavyMany g_fewest g_which g_met m_mostMet, kx_a g_nodeL cyI 320 nl, kx_a g_nodeR cyI 320 nr, kx_a g_part cyI 320 gq] H → va_D A [kx_5 h0 g_row m_n m_slots m_thrown g_many g_loss g_less g_voteValue g_voteNumber g_allValue g_allNumber m_allMany g_nodeL g_nodeR m_nodes g_part pq g_wasMany g_wasLoss g_wasValue g_wasNumber g_path m_pathMany g_heavyValue g_heavyTimes m_heavyMany g_fewest g_which g_met m_mostMet, kx_a g_nodeL cyI 320 nl, kx_a g_nodeR cyI 320 nr, kx_a g_part cyI 320 gq] → va_S A s.heap H locs → ∀ (ls : Array Slot), lv_has ls 5 [(4, .int i), (3, .int bh), (0, .ref h0), (1, .int p0), (2, .int p1)] → W p l e (headSpec wsX5_laysParts ({ frames := 0, cells := 0, slots := 0, locals := 0 })).room s m ([.ref h0, .int p0, .int p1] : List Value).toArray below meth c H locs 0 0 (MQ below (va_Qv (fun u : Int32 × (Nat → Int32) => u.1.toInt = (mj_pq nl nr p0.toInt p1.toInt m_nodes.toNatClampNeg : Int) ∧ mj_pa nl nr p0.toInt p1.toInt u.2 m_nodes.toNatClampNeg ∧ parts320 u.2 ∧ 0 ≤ u.1.toInt ∧ u.1.toInt ≤ m_nodes.toInt) (fun (u : Int32 × (Nat → Int32)) (t : State) => va_P (dC, dI) vwCl [kx_5 h0 g_row m_n m_slots m_thrown g_many g_loss g_less g_voteValue g_voteNumber g_allValue g_allNumber m_allMany g_nodeL g_nodeR m_nodes g_part u.1 g_wasMany g_wasLoss g_wasValue g_wasNumber g_path m_pathMany g_heavyValue g_heavyTimes m_heavyMany g_fewest g_which g_met m_mostMet, kx_a g_nodeL cyI 320 nl, kx_a g_nodeR cyI 320 nr, kx_a g_part cyI 320 u.2] t.heap ∧ va_K (dC, dI) vwCl [(cyI, .int)] t ∧ va_D A [kx_5 h0 g_row m_n m_slots m_thrown g_many g_loss g_less g_voteValue g_voteNumber g_allValue g_allNumber m_allMany g_nodeL g_nodeR m_nodes g_part u.1 g_wasMany g_wasLoss g_wasValue g_wasNumber g_path m_pathMany g_heavyValue g_heavyTimes m_heavyMany g_fewest g_which g_met m_mostMet, kx_a g_nodeL cyI 320 nl, kx_a g_nodeR cyI 320 nr, kx_a g_part cyI 320 u.2]) A) ([.ref h0, .int p0, .int p1] : List Value).toArray s 0 0 A) (F0 m 10 ls []) := by
    intro n
    induction n with
    | zero => intro i bh pq gq LP1_h0 LP1_h1 LP1_h2 LP1_h3 LP1_h4 LP1_h5 LP1_h6 LP1_h7 hn; exact absurd hn (Nat.not_lt_zero _)
    | succ n ih1 =>
      intro i bh pq gq LP1_h0 LP1_h1 LP1_h2 LP1_h3 LP1_h4 LP1_h5 LP1_h6 LP1_h7 hn1 H locs hP hD hS ls hl
      have n_i := ki_nat i rfl (om_8 LP1_h0)
      have n_pq := ki_nat pq rfl (om_8 LP1_h6)
      refine lv_iload hx hb dX5_laysParts_10 (lv_at hl 0 rfl) ?_
      refine lv_aload_n hx hb dX5_laysParts_12 rfl (lv_at hl 2 rfl) ?_
      refine va_get (D := (dC, dI)) (ci := 5) (v := .int m_nodes) (C := RX5) (T := TX5) (N := 30) hx hb hts hi_5 hown hK hP 0 rfl rfl 14 (by decide) hf_101 (fun _ h9 => h9) rfl dX5_laysParts_13 ?_
      refine lv_icmp_ge (tgt := 79) hx hb dX5_laysParts_16 (by decide) (fun c_1 => ?_) (fun c_1 => ?_)
      · have i_1 : m_nodes.toInt ≤ i.toInt := kc_le c_1
        have hP9 := hP
        have hD9 := hD
        have hK9 := hK
        have e_i : i.toNatClampNeg = m_nodes.toNatClampNeg := by have := ki_nat m_nodes rfl (by omega); omega
        exact W.vret hx hb hr (fun t ht hW => ⟨⟨(pq, gq), rfl, ⟨(by (try dsimp only); rw [← e_i]; exact LP1_h3), (by (try dsimp only); rw [← e_i]; exact LP1_h4), LP1_h5, (by (try dsimp only); omega), (by (try dsimp only); omega)⟩, by rw [ht]; exact hP9, va_K.moved hW.alike hK9, hD9⟩, hS.F ht⟩) hS.2.2 dX5_laysParts_79
      · have i_1 : i.toInt < m_nodes.toInt := kc_nle c_1
        refine lv_aload_n hx hb dX5_laysParts_19 rfl (lv_at hl 2 rfl) ?_
        refine va_get (D := (dC, dI)) (ci := 5) (v := .ref g_nodeL) (C := RX5) (T := TX5) (N := 30) hx hb hts hi_5 hown hK hP 0 rfl rfl 12 (by decide) hf_38 (fun _ h9 => h9) rfl dX5_laysParts_20 ?_
        refine lv_iload hx hb dX5_laysParts_23 (lv_at hl 0 rfl) ?_
        refine va_iald hx hb hK hP 1 0 rfl rfl (ki_in (om_8 LP1_h0) (om_248 b1 LP1_h1)) dX5_laysParts_25 ?_
        refine lv_topi (fun y_2 ey_2 => ?_)
        have j_2 : y_2.toInt = (nl i.toNatClampNeg).toInt := congrArg Int32.toInt ey_2
        refine lv_iload_n hx hb dX5_laysParts_26 rfl (lv_at hl 1 rfl) ?_
        refine lv_icmp_ne (tgt := 73) hx hb dX5_laysParts_27 (by decide) (fun c_3 => ?_) (fun c_3 => ?_)
        · have i_3 : ¬ y_2.toInt = bh.toInt := kc_ne c_3
          obtain ⟨x_4, ex_4⟩ : ∃ y : Int32, y = i + 1 := ⟨_, rfl⟩
          have i_4 : x_4.toInt = i.toInt + 1 := ki_add ex_4 rfl rfl (om_10 LP1_h0) (om_249 b1 LP1_h1)
          refine lv_iinc (v := x_4) (lv' := [(4, .int x_4), (3, .int bh), (0, .ref h0), (1, .int p0), (2, .int p1)]) hx hb dX5_laysParts_73 hl (k := 0) rfl (by rw [ex_4]; rfl) (by decide) rfl (fun ls hl => ?_)
          refine lv_goto (tgt := 10) hx hb dX5_laysParts_76 (by decide) ?_
          have n_5 := ki_nat x_4 rfl (om_31 LP1_h0 i_4)
          have st := mj_pa_skip LP1_h4 (k2 := x_4.toNatClampNeg) (fun h => by unfold mj_isp at h; omega) (by omega)
          exact ih1 x_4 bh pq gq (om_31 LP1_h0 i_4) (om_47 i_1 i_4) (by rw [st.2.1]; omega) (by rw [st.2.2]; omega) st.1 LP1_h5 (om_8 LP1_h6) (om_4 LP1_h7 i_4) (om_mu hn1 (om_5 i_4) (om_6 i_1)) _ _ hP hD hS ls (lv_sub hl [0, 1, 2, 3, 4] rfl)
        · have i_3 : y_2.toInt = bh.toInt := kc_eq c_3
          refine lv_aload_n hx hb dX5_laysParts_30 rfl (lv_at hl 2 rfl) ?_
          refine va_get (D := (dC, dI)) (ci := 5) (v := .ref g_nodeR) (C := RX5) (T := TX5) (N := 30) hx hb hts hi_5 hown hK hP 0 rfl rfl 13 (by decide) hf_41 (fun _ h9 => h9) rfl dX5_laysParts_31 ?_
          refine lv_iload hx hb dX5_laysParts_34 (lv_at hl 0 rfl) ?_
          refine va_iald hx hb hK hP 2 0 rfl rfl (ki_in (om_8 LP1_h0) (om_248 b1 LP1_h1)) dX5_laysParts_36 ?_
          refine lv_topi (fun y_6 ey_6 => ?_)
          have j_6 : y_6.toInt = (nr i.toNatClampNeg).toInt := congrArg Int32.toInt ey_6
          refine lv_iload_n hx hb dX5_laysParts_37 rfl (lv_at hl 4 rfl) ?_
          refine lv_icmp_le (tgt := 44) hx hb dX5_laysParts_38 (by decide) (fun c_7 => ?_) (fun c_7 => ?_)
          · have i_7 : y_6.toInt ≤ p1.toInt := kc_le c_7
            refine lv_aload_n hx hb dX5_laysParts_44 rfl (lv_at hl 2 rfl) ?_
            refine va_get (D := (dC, dI)) (ci := 5) (v := .ref g_part) (C := RX5) (T := TX5) (N := 30) hx hb hts hi_5 hown hK hP 0 rfl rfl 15 (by decide) hf_44 (fun _ h9 => h9) rfl dX5_laysParts_45 ?_
            refine lv_aload_n hx hb dX5_laysParts_48 rfl (lv_at hl 2 rfl) ?_
            refine va_get (D := (dC, dI)) (ci := 5) (v := .int pq) (C := RX5) (T := TX5) (N := 30) hx hb hts hi_5 hown hK hP 0 rfl rfl 16 (by decide) hf_115 (fun _ h9 => h9) rfl dX5_laysParts_49 ?_
            refine lv_iload hx hb dX5_laysParts_52 (lv_at hl 0 rfl) ?_
            refine va_iast hx hb hK hP hD hS 3 0 rfl rfl (ki_in (om_8 LP1_h6) (om_250 b1 LP1_h1 LP1_h7)) dX5_laysParts_54 (fun H locs hP hD hS => ?_)
            have hP : va_P (dC, dI) vwCl [kx_5 h0 g_row m_n m_slots m_thrown g_many g_loss g_less g_voteValue g_voteNumber g_allValue g_allNumber m_allMany g_nodeL g_nodeR m_nodes g_part pq g_wasMany g_wasLoss g_wasValue g_wasNumber g_path m_pathMany g_heavyValue g_heavyTimes m_heavyMany g_fewest g_which g_met m_mostMet, kx_a g_nodeL cyI 320 nl, kx_a g_nodeR cyI 320 nr, kx_a g_part cyI 320 (upd gq pq.toNatClampNeg i)] H := hP
            have hD : va_D A [kx_5 h0 g_row m_n m_slots m_thrown g_many g_loss g_less g_voteValue g_voteNumber g_allValue g_allNumber m_allMany g_nodeL g_nodeR m_nodes g_part pq g_wasMany g_wasLoss g_wasValue g_wasNumber g_path m_pathMany g_heavyValue g_heavyTimes m_heavyMany g_fewest g_which g_met m_mostMet, kx_a g_nodeL cyI 320 nl, kx_a g_nodeR cyI 320 nr, kx_a g_part cyI 320 (upd gq pq.toNatClampNeg i)] := hD
            refine lv_aload_n hx hb dX5_laysParts_55 rfl (lv_at hl 2 rfl) ?_
            refine lv_dup hx hb dX5_laysParts_56 rfl ?_
            refine va_get (D := (dC, dI)) (ci := 5) (v := .int pq) (C := RX5) (T := TX5) (N := 30) hx hb hts hi_5 hown hK hP 0 rfl rfl 16 (by decide) hf_115 (fun _ h9 => h9) rfl dX5_laysParts_57 ?_
            refine lv_iconst (v := 1) hx hb dX5_laysParts_60 (by decide) ?_
            refine lv_iadd hx hb dX5_laysParts_61 ?_
            refine lv_topi (fun y_8 ey_8 => ?_)
            have i_8 : y_8.toInt = pq.toInt + 1 := ki_add ey_8 rfl rfl (om_10 LP1_h6) (om_251 b1 LP1_h1 LP1_h7)
            refine va_put (D := (dC, dI)) (ci := 5) (v := .int y_8) (ty := .int) (C := RX5) (T := TX5) (N := 30) hx hb hts hi_5 tyX5 tyX5_ok nmX5 hown hK hP hD hS 0 rfl rfl 16 (by decide) hf_115 (fun _ h9 => h9) rfl (by decide +kernel) rfl rfl (Nat.le_of_ble_eq_true rfl) dX5_laysParts_62 (fun H locs hP hD hS => ?_)
            have hP : va_P (dC, dI) vwCl [kx_5 h0 g_row m_n m_slots m_thrown g_many g_loss g_less g_voteValue g_voteNumber g_allValue g_allNumber m_allMany g_nodeL g_nodeR m_nodes g_part y_8 g_wasMany g_wasLoss g_wasValue g_wasNumber g_path m_pathMany g_heavyValue g_heavyTimes m_heavyMany g_fewest g_which g_met m_mostMet, kx_a g_nodeL cyI 320 nl, kx_a g_nodeR cyI 320 nr, kx_a g_part cyI 320 (upd gq pq.toNatClampNeg i)] H := hP
            have hD : va_D A [kx_5 h0 g_row m_n m_slots m_thrown g_many g_loss g_less g_voteValue g_voteNumber g_allValue g_allNumber m_allMany g_nodeL g_nodeR m_nodes g_part y_8 g_wasMany g_wasLoss g_wasValue g_wasNumber g_path m_pathMany g_heavyValue g_heavyTimes m_heavyMany g_fewest g_which g_met m_mostMet, kx_a g_nodeL cyI 320 nl, kx_a g_nodeR cyI 320 nr, kx_a g_part cyI 320 (upd gq pq.toNatClampNeg i)] := hD
            refine lv_aload_n hx hb dX5_laysParts_65 rfl (lv_at hl 2 rfl) ?_
            refine va_get (D := (dC, dI)) (ci := 5) (v := .ref g_nodeR) (C := RX5) (T := TX5) (N := 30) hx hb hts hi_5 hown hK hP 0 rfl rfl 13 (by decide) hf_41 (fun _ h9 => h9) rfl dX5_laysParts_66 ?_
            refine lv_iload hx hb dX5_laysParts_69 (lv_at hl 0 rfl) ?_
            refine va_iald hx hb hK hP 2 0 rfl rfl (ki_in (om_8 LP1_h0) (om_248 b1 LP1_h1)) dX5_laysParts_71 ?_
            refine lv_topi (fun y_9 ey_9 => ?_)
            have j_9 : y_9.toInt = (nr i.toNatClampNeg).toInt := congrArg Int32.toInt ey_9
            refine lv_istore_n (lv' := [(3, .int y_9), (4, .int i), (0, .ref h0), (1, .int p0), (2, .int p1)]) hx hb dX5_laysParts_72 rfl hl (by decide) rfl (fun ls hl => ?_)
            obtain ⟨x_10, ex_10⟩ : ∃ y : Int32, y = i + 1 := ⟨_, rfl⟩
            have i_10 : x_10.toInt = i.toInt + 1 := ki_add ex_10 rfl rfl (om_10 LP1_h0) (om_249 b1 LP1_h1)
            refine lv_iinc (v := x_10) (lv' := [(4, .int x_10), (3, .int y_9), (0, .ref h0), (1, .int p0), (2, .int p1)]) hx hb dX5_laysParts_73 hl (k := 1) rfl (by rw [ex_10]; rfl) (by decide) rfl (fun ls hl => ?_)
            refine lv_goto (tgt := 10) hx hb dX5_laysParts_76 (by decide) ?_
            have n_11 := ki_nat x_10 rfl (om_31 LP1_h0 i_10)
            have n_12 := ki_nat y_8 rfl (om_31 LP1_h6 i_8)
            have st := mj_pa_put LP1_h4 (q := pq.toNatClampNeg) (x := i) (k2 := x_10.toNatClampNeg) (by unfold mj_isp; omega) (by omega) (by omega) (by omega)
            exact ih1 x_10 y_9 y_8 (upd gq pq.toNatClampNeg i) (om_31 LP1_h0 i_10) (om_47 i_1 i_10) (by rw [st.2.1]; omega) (by rw [st.2.2]; omega) st.1 (parts320_upd LP1_h5 (by omega) (by omega)) (om_31 LP1_h6 i_8) (om_49 LP1_h7 i_8 i_10) (om_mu hn1 (om_5 i_10) (om_6 i_1)) _ _ hP hD hS ls (lv_sub hl [0, 1, 2, 3, 4] rfl)
          · have i_7 : p1.toInt < y_6.toInt := kc_nle c_7
            refine lv_goto (tgt := 73) hx hb dX5_laysParts_41 (by decide) ?_
            obtain ⟨x_13, ex_13⟩ : ∃ y : Int32, y = i + 1 := ⟨_, rfl⟩
            have i_13 : x_13.toInt = i.toInt + 1 := ki_add ex_13 rfl rfl (om_10 LP1_h0) (om_249 b1 LP1_h1)
            refine lv_iinc (v := x_13) (lv' := [(4, .int x_13), (3, .int bh), (0, .ref h0), (1, .int p0), (2, .int p1)]) hx hb dX5_laysParts_73 hl (k := 0) rfl (by rw [ex_13]; rfl) (by decide) rfl (fun ls hl => ?_)
            refine lv_goto (tgt := 10) hx hb dX5_laysParts_76 (by decide) ?_
            have n_14 := ki_nat x_13 rfl (om_31 LP1_h0 i_13)
            have st := mj_pa_skip LP1_h4 (k2 := x_13.toNatClampNeg) (fun h => by unfold mj_isp at h; omega) (by omega)
            exact ih1 x_13 bh pq gq (om_31 LP1_h0 i_13) (om_47 i_1 i_13) (by rw [st.2.1]; omega) (by rw [st.2.2]; omega) st.1 LP1_h5 (om_8 LP1_h6) (om_4 LP1_h7 i_13) (om_mu hn1 (om_5 i_13) (om_6 i_1)) _ _ hP hD hS ls (lv_sub hl [0, 1, 2, 3, 4] rfl)
  have k_15 : (0 : Int32).toInt = 0 := rfl
  have k_16 : (0 : Int32).toInt = 0 := rfl
  exact LP1 ((m_nodes.toInt - 0 : Int).toNat + 1) 0 p0 0 gp om_32 (om_8 b0) rfl rfl (mj_pa_0 _ _ _ _ _ rfl) q0 om_32 om_32 (Nat.lt_succ_self _) _ _ hP hD hS ls (lv_sub hl [0, 1, 2, 3, 4] rfl)

set_option maxHeartbeats 4000000 in
set_option maxRecDepth 100000 in
theorem c_X5_folds (l : Launch) (dC : Nat → ClassId) (dI : Nat → Nat → Nat) (h0 : Nat) (g_row : Nat) (g_many : Nat) (g_loss : Nat) (g_less : Nat) (g_voteValue : Nat) (g_voteNumber : Nat) (g_allValue : Nat) (g_allNumber : Nat) (g_nodeL : Nat) (g_nodeR : Nat) (g_part : Nat) (g_wasMany : Nat) (g_wasLoss : Nat) (g_wasValue : Nat) (g_wasNumber : Nat) (g_path : Nat) (g_heavyValue : Nat) (g_heavyTimes : Nat) (g_fewest : Nat) (g_which : Nat) (g_met : Nat) (m_n : Int32) (m_slots : Int32) (m_thrown : Int32) (m_allMany : Int32) (m_nodes : Int32) (m_partMany : Int32) (m_pathMany : Int32) (m_heavyMany : Int32) (m_mostMet : Int32) (cyI : ClassId) (fm : Nat → Int32) (fl : Nat → Int32) (fe : Nat → Int32) (vv : Nat → Int32) (vn : Nat → Int32) (f : Nat → Int32) (av : Nat → Int32) (an : Nat → Int32) (nl : Nat → Int32) (nr : Nat → Int32) (gp : Nat → Int32) (p0 : Int32) (p1 : Int32) (p2 : Int32) (sz : Nat) (a0 : 0 ≤ m_n.toInt) (a1 : m_n.toInt ≤ 160) (b0 : 0 ≤ m_nodes.toInt) (b1 : m_nodes.toInt ≤ 319) (r0 : 0 ≤ p0.toInt) (r1 : p0.toInt < p1.toInt) (r2 : p1.toInt ≤ m_n.toInt) (k0 : 1 ≤ p2.toInt) (k1 : p2.toInt ≤ 6) (s4 : six4 fm) (q0 : parts320 gp) (hL : mj_L p2.toNatClampNeg f nl nr fm fl fe vv vn m_n.toInt m_nodes.toInt) : Met l yX5_folds wsX5_folds ({ frames := 3, cells := 0, slots := 0, locals := 135 }) (va_Pc [.ref h0, .int p0, .int p1, .int 320, .int p2] (fun U => U.heap.size = sz ∧ va_P (dC, dI) vwCl [kx_5 h0 g_row m_n m_slots m_thrown g_many g_loss g_less g_voteValue g_voteNumber g_allValue g_allNumber m_allMany g_nodeL g_nodeR m_nodes g_part m_partMany g_wasMany g_wasLoss g_wasValue g_wasNumber g_path m_pathMany g_heavyValue g_heavyTimes m_heavyMany g_fewest g_which g_met m_mostMet, kx_a g_many cyI 324 fm, kx_a g_loss cyI 324 fl, kx_a g_less cyI 324 fe, kx_a g_voteValue cyI 1944 vv, kx_a g_voteNumber cyI 1944 vn, kx_a g_allValue cyI 12 av, kx_a g_allNumber cyI 12 an, kx_a g_nodeL cyI 320 nl, kx_a g_nodeR cyI 320 nr, kx_a g_part cyI 320 gp] U.heap ∧ va_K (dC, dI) vwCl [(cyI, .int)] U ∧ va_D (fun _ => True) [kx_5 h0 g_row m_n m_slots m_thrown g_many g_loss g_less g_voteValue g_voteNumber g_allValue g_allNumber m_allMany g_nodeL g_nodeR m_nodes g_part m_partMany g_wasMany g_wasLoss g_wasValue g_wasNumber g_path m_pathMany g_heavyValue g_heavyTimes m_heavyMany g_fewest g_which g_met m_mostMet, kx_a g_many cyI 324 fm, kx_a g_loss cyI 324 fl, kx_a g_less cyI 324 fe, kx_a g_voteValue cyI 1944 vv, kx_a g_voteNumber cyI 1944 vn, kx_a g_allValue cyI 12 av, kx_a g_allNumber cyI 12 an, kx_a g_nodeL cyI 320 nl, kx_a g_nodeR cyI 320 nr, kx_a g_part cyI 320 gp])) (va_Qv (fun u : Int32 × Int32 × (Nat → Int32) × (Nat → Int32) × (Nat → Int32) × (Nat → Int32) × (Nat → Int32) × (Nat → Int32) × (Nat → Int32) × (Nat → Int32) => six4 u.2.2.1 ∧ parts320 u.2.2.2.2.2.2.2.2.2 ∧ mj_ag 0 320 nl nr fm fl fe vv vn nl nr u.2.2.1 u.2.2.2.1 u.2.2.2.2.1 u.2.2.2.2.2.1 u.2.2.2.2.2.2.1 ∧ mj_F p2.toNatClampNeg nl nr u.2.2.1 u.2.2.2.1 u.2.2.2.2.2.1 u.2.2.2.2.2.2.1 u.2.2.1 u.2.2.2.1 u.2.2.2.2.2.1 u.2.2.2.2.2.2.1 p0.toInt p1.toInt (mj_pq nl nr p0.toInt p1.toInt m_nodes.toNatClampNeg)) (fun (u : Int32 × Int32 × (Nat → Int32) × (Nat → Int32) × (Nat → Int32) × (Nat → Int32) × (Nat → Int32) × (Nat → Int32) × (Nat → Int32) × (Nat → Int32)) (t : State) => va_P (dC, dI) vwCl [kx_5 h0 g_row m_n m_slots m_thrown g_many g_loss g_less g_voteValue g_voteNumber g_allValue g_allNumber u.1 g_nodeL g_nodeR m_nodes g_part u.2.1 g_wasMany g_wasLoss g_wasValue g_wasNumber g_path m_pathMany g_heavyValue g_heavyTimes m_heavyMany g_fewest g_which g_met m_mostMet, kx_a g_many cyI 324 u.2.2.1, kx_a g_loss cyI 324 u.2.2.2.1, kx_a g_less cyI 324 u.2.2.2.2.1, kx_a g_voteValue cyI 1944 u.2.2.2.2.2.1, kx_a g_voteNumber cyI 1944 u.2.2.2.2.2.2.1, kx_a g_allValue cyI 12 u.2.2.2.2.2.2.2.1, kx_a g_allNumber cyI 12 u.2.2.2.2.2.2.2.2.1, kx_a g_nodeL cyI 320 nl, kx_a g_nodeR cyI 320 nr, kx_a g_part cyI 320 u.2.2.2.2.2.2.2.2.2] t.heap ∧ va_K (dC, dI) vwCl [(cyI, .int)] t ∧ va_D (va_A [kx_5 h0 g_row m_n m_slots m_thrown g_many g_loss g_less g_voteValue g_voteNumber g_allValue g_allNumber m_allMany g_nodeL g_nodeR m_nodes g_part m_partMany g_wasMany g_wasLoss g_wasValue g_wasNumber g_path m_pathMany g_heavyValue g_heavyTimes m_heavyMany g_fewest g_which g_met m_mostMet, kx_a g_many cyI 324 fm, kx_a g_loss cyI 324 fl, kx_a g_less cyI 324 fe, kx_a g_voteValue cyI 1944 vv, kx_a g_voteNumber cyI 1944 vn, kx_a g_allValue cyI 12 av, kx_a g_allNumber cyI 12 an, kx_a g_nodeL cyI 320 nl, kx_a g_nodeR cyI 320 nr, kx_a g_part cyI 320 gp] sz) [kx_5 h0 g_row m_n m_slots m_thrown g_many g_loss g_less g_voteValue g_voteNumber g_allValue g_allNumber u.1 g_nodeL g_nodeR m_nodes g_part u.2.1 g_wasMany g_wasLoss g_wasValue g_wasNumber g_path m_pathMany g_heavyValue g_heavyTimes m_heavyMany g_fewest g_which g_met m_mostMet, kx_a g_many cyI 324 u.2.2.1, kx_a g_loss cyI 324 u.2.2.2.1, kx_a g_less cyI 324 u.2.2.2.2.1, kx_a g_voteValue cyI 1944 u.2.2.2.2.2.1, kx_a g_voteNumber cyI 1944 u.2.2.2.2.2.2.1, kx_a g_allValue cyI 12 u.2.2.2.2.2.2.2.1, kx_a g_allNumber cyI 12 u.2.2.2.2.2.2.2.2.1, kx_a g_nodeL cyI 320 nl, kx_a g_nodeR cyI 320 nr, kx_a g_part cyI 320 u.2.2.2.2.2.2.2.2.2]) (va_A [kx_5 h0 g_row m_n m_slots m_thrown g_many g_loss g_less g_voteValue g_voteNumber g_allValue g_allNumber m_allMany g_nodeL g_nodeR m_nodes g_part m_partMany g_wasMany g_wasLoss g_wasValue g_wasNumber g_path m_pathMany g_heavyValue g_heavyTimes m_heavyMany g_fewest g_which g_met m_mostMet, kx_a g_many cyI 324 fm, kx_a g_loss cyI 324 fl, kx_a g_less cyI 324 fe, kx_a g_voteValue cyI 1944 vv, kx_a g_voteNumber cyI 1944 vn, kx_a g_allValue cyI 12 av, kx_a g_allNumber cyI 12 an, kx_a g_nodeL cyI 320 nl, kx_a g_nodeR cyI 320 nr, kx_a g_part cyI 320 gp] sz)) 0 0 (va_A [kx_5 h0 g_row m_n m_slots m_thrown g_many g_loss g_less g_voteValue g_voteNumber g_allValue g_allNumber m_allMany g_nodeL g_nodeR m_nodes g_part m_partMany g_wasMany g_wasLoss g_wasValue g_wasNumber g_path m_pathMany g_heavyValue g_heavyTimes m_heavyMany g_fewest g_which g_met m_mostMet, kx_a g_many cyI 324 fm, kx_a g_loss cyI 324 fl, kx_a g_less cyI 324 fe, kx_a g_voteValue cyI 1944 vv, kx_a g_voteNumber cyI 1944 vn, kx_a g_allValue cyI 12 av, kx_a g_allNumber cyI 12 an, kx_a g_nodeL cyI 320 nl, kx_a g_nodeR cyI 320 nr, kx_a g_part cyI 320 gp] sz) := by
  refine Met.ofW (cc := cX5_folds) (maxL := 6) (ret := none) (by decide) rfl ?_
  intro p e s m args below meth c s₁ B hml hv
  obtain ⟨rfl, hsz, hP, hK, hD0⟩ := hv
  have hx := B.exec
  have hb := B.bytes
  have hr := B.returns
  have hts := atoms_spec (ws := wsX5_folds) B.pre
  have hown : s.vm.findClass RX5 = some m.cls := findClass_of_methodNamed B.named
  have hlocks := B.notSynchronized
  subst hsz
  have hD := hD0.self (sz := s.heap.size)
  generalize hAe : va_A [kx_5 h0 g_row m_n m_slots m_thrown g_many g_loss g_less g_voteValue g_voteNumber g_allValue g_allNumber m_allMany g_nodeL g_nodeR m_nodes g_part m_partMany g_wasMany g_wasLoss g_wasValue g_wasNumber g_path m_pathMany g_heavyValue g_heavyTimes m_heavyMany g_fewest g_which g_met m_mostMet, kx_a g_many cyI 324 fm, kx_a g_loss cyI 324 fl, kx_a g_less cyI 324 fe, kx_a g_voteValue cyI 1944 vv, kx_a g_voteNumber cyI 1944 vn, kx_a g_allValue cyI 12 av, kx_a g_allNumber cyI 12 an, kx_a g_nodeL cyI 320 nl, kx_a g_nodeR cyI 320 nr, kx_a g_part cyI 320 gp] s.heap.size = A at hD ⊢
  have hA : ∀ q : Nat, s.heap.size ≤ q → A q := fun q h => by rw [← hAe]; exact Or.inr h
  have hS : va_S A s.heap s.heap [] := va_S.rf
  have hP : va_P (dC, dI) vwCl [kx_5 h0 g_row m_n m_slots m_thrown g_many g_loss g_less g_voteValue g_voteNumber g_allValue g_allNumber m_allMany g_nodeL g_nodeR m_nodes g_part m_partMany g_wasMany g_wasLoss g_wasValue g_wasNumber g_path m_pathMany g_heavyValue g_heavyTimes m_heavyMany g_fewest g_which g_met m_mostMet, kx_a g_many cyI 324 fm, kx_a g_loss cyI 324 fl, kx_a g_less cyI 324 fe, kx_a g_voteValue cyI 1944 vv, kx_a g_voteNumber cyI 1944 vn, kx_a g_allValue cyI 12 av, kx_a g_allNumber cyI 12 an, kx_a g_nodeL cyI 320 nl, kx_a g_nodeR cyI 320 nr, kx_a g_part cyI 320 gp] s.heap := hP
  have hl := lv_entry ([.ref h0, .int p0, .int p1, .int 320, .int p2]) (n := 6) (Nat.le_of_ble_eq_true rfl)
  rw [lg_entry_eq]
  generalize (lg_sl ([.ref h0, .int p0, .int p1, .int 320, .int p2]) ++ List.replicate (6 - (lg_sl ([.ref h0, .int p0, .int p1, .int 320, .int p2])).length) Slot.unset).toArray = ls at hl ⊢
  have hl : lv_has ls 6 [(0, .ref h0), (1, .int p0), (2, .int p1), (3, .int 320), (4, .int p2)] := hl
  have hf_44 := hts (.fieldLink RX5 44 "MajorityIndexModel" "part" "[I") (List.mem_of_getElem? (i := 1) rfl)
  have hi_5 : ∀ w ∈ u_ws RX5 TX5 30, w ∈ wsX5_folds := fun w h => List.mem_cons_of_mem _ (List.mem_append_right _ h)
  have hf_115 := hts (.fieldLink RX5 115 "MajorityIndexModel" "partMany" "I") (List.mem_of_getElem? (i := 2) rfl)
  refine lv_aload_n hx hb dX5_folds_0 rfl (lv_at hl 0 rfl) ?_
  refine lv_iload_n hx hb dX5_folds_1 rfl (lv_at hl 1 rfl) ?_
  refine lv_iload_n hx hb dX5_folds_2 rfl (lv_at hl 2 rfl) ?_
  have hPc := hP.sub (ws' := [kx_5 h0 g_row m_n m_slots m_thrown g_many g_loss g_less g_voteValue g_voteNumber g_allValue g_allNumber m_allMany g_nodeL g_nodeR m_nodes g_part m_partMany g_wasMany g_wasLoss g_wasValue g_wasNumber g_path m_pathMany g_heavyValue g_heavyTimes m_heavyMany g_fewest g_which g_met m_mostMet, kx_a g_nodeL cyI 320 nl, kx_a g_nodeR cyI 320 nr, kx_a g_part cyI 320 gp]) [0, 8, 9, 10] rfl
  have hKc := hK
  have hDc := hD.sub (ws' := [kx_5 h0 g_row m_n m_slots m_thrown g_many g_loss g_less g_voteValue g_voteNumber g_allValue g_allNumber m_allMany g_nodeL g_nodeR m_nodes g_part m_partMany g_wasMany g_wasLoss g_wasValue g_wasNumber g_path m_pathMany g_heavyValue g_heavyTimes m_heavyMany g_fewest g_which g_met m_mostMet, kx_a g_nodeL cyI 320 nl, kx_a g_nodeR cyI 320 nr, kx_a g_part cyI 320 gp]) [0, 8, 9, 10] (by decide) rfl
  have hFc := va_free (wc := [kx_5 h0 g_row m_n m_slots m_thrown g_many g_loss g_less g_voteValue g_voteNumber g_allValue g_allNumber m_allMany g_nodeL g_nodeR m_nodes g_part m_partMany g_wasMany g_wasLoss g_wasValue g_wasNumber g_path m_pathMany g_heavyValue g_heavyTimes m_heavyMany g_fewest g_which g_met m_mostMet, kx_a g_nodeL cyI 320 nl, kx_a g_nodeR cyI 320 nr, kx_a g_part cyI 320 gp]) hD hS hA [0, 8, 9, 10] rfl
  refine va_callv (va_runV (As := [.int p0, .int p1]) (rest := []) ⟨hx, hb, hml, hown, hts⟩ (c_X5_laysParts l dC dI h0 g_row g_many g_loss g_less g_voteValue g_voteNumber g_allValue g_allNumber g_nodeL g_nodeR g_part g_wasMany g_wasLoss g_wasValue g_wasNumber g_path g_heavyValue g_heavyTimes g_fewest g_which g_met m_n m_slots m_thrown m_allMany m_nodes m_partMany m_pathMany m_heavyMany m_mostMet cyI nl nr gp p0 p1 s.heap.size b0 b1 q0) (cwV 2 hts gX5_folds_X5_laysParts rfl rfl rfl (by decide +kernel) ⟨Nat.le_of_ble_eq_true rfl, Nat.le_of_ble_eq_true rfl⟩) ⟨fun a U g mk q => by obtain ⟨q0, q1, qP, qK, qD⟩ := q; exact ⟨q0, q1, qP, va_K.moved (u := U) (U := U.calling g mk a) (Vm.Alike.refl U.vm) qK, qD⟩, va_recv hKc hPc (ci := 5) (q0 := 0) rfl rfl, fun U hU hW => ⟨rfl, by rw [hU], by rw [hU]; exact hPc, va_K.moved hW.alike hKc, hDc.weaken (fun _ _ _ _ => trivial)⟩⟩ rfl rfl hl.1 rfl (lv_room (Nat.le_of_ble_eq_true rfl)) dX5_folds_3 ⟨Nat.le_of_ble_eq_true rfl, Nat.le_of_ble_eq_true rfl⟩) hS (fun q _ h => hFc q h) hFc (fun u t H1 locs ht hvm w_1 hB hz1 hk1 hS => ?_)
  obtain ⟨o_2, o_3⟩ := u
  dsimp only at w_1 hB
  obtain ⟨hP1, hK1, hD1⟩ := hB
  rw [ht] at hP1
  have hK1 := va_K.moved hvm.symm hK1
  obtain ⟨hP, hD⟩ := va_join (wr := [kx_a g_many cyI 324 fm, kx_a g_loss cyI 324 fl, kx_a g_less cyI 324 fe, kx_a g_voteValue cyI 1944 vv, kx_a g_voteNumber cyI 1944 vn, kx_a g_allValue cyI 12 av, kx_a g_allNumber cyI 12 an]) (w1 := [kx_5 h0 g_row m_n m_slots m_thrown g_many g_loss g_less g_voteValue g_voteNumber g_allValue g_allNumber m_allMany g_nodeL g_nodeR m_nodes g_part o_2 g_wasMany g_wasLoss g_wasValue g_wasNumber g_path m_pathMany g_heavyValue g_heavyTimes m_heavyMany g_fewest g_which g_met m_mostMet, kx_a g_nodeL cyI 320 nl, kx_a g_nodeR cyI 320 nr, kx_a g_part cyI 320 o_3]) hP hD [0, 8, 9, 10] [1, 2, 3, 4, 5, 6, 7] rfl rfl (by decide) (by decide) hk1 hFc hP1 hD1
  clear hP1 hD1 hK1 hk1 hz1 hFc hDc hPc hKc
  generalize H1 = H at hP hS ⊢
  have hP : va_P (dC, dI) vwCl [kx_a g_many cyI 324 fm, kx_a g_loss cyI 324 fl, kx_a g_less cyI 324 fe, kx_a g_voteValue cyI 1944 vv, kx_a g_voteNumber cyI 1944 vn, kx_a g_allValue cyI 12 av, kx_a g_allNumber cyI 12 an, kx_5 h0 g_row m_n m_slots m_thrown g_many g_loss g_less g_voteValue g_voteNumber g_allValue g_allNumber m_allMany g_nodeL g_nodeR m_nodes g_part o_2 g_wasMany g_wasLoss g_wasValue g_wasNumber g_path m_pathMany g_heavyValue g_heavyTimes m_heavyMany g_fewest g_which g_met m_mostMet, kx_a g_nodeL cyI 320 nl, kx_a g_nodeR cyI 320 nr, kx_a g_part cyI 320 o_3] H := hP
  have hD : va_D A [kx_a g_many cyI 324 fm, kx_a g_loss cyI 324 fl, kx_a g_less cyI 324 fe, kx_a g_voteValue cyI 1944 vv, kx_a g_voteNumber cyI 1944 vn, kx_a g_allValue cyI 12 av, kx_a g_allNumber cyI 12 an, kx_5 h0 g_row m_n m_slots m_thrown g_many g_loss g_less g_voteValue g_voteNumber g_allValue g_allNumber m_allMany g_nodeL g_nodeR m_nodes g_part o_2 g_wasMany g_wasLoss g_wasValue g_wasNumber g_path m_pathMany g_heavyValue g_heavyTimes m_heavyMany g_fewest g_which g_met m_mostMet, kx_a g_nodeL cyI 320 nl, kx_a g_nodeR cyI 320 nr, kx_a g_part cyI 320 o_3] := hD
  have w_1 : o_2.toInt = (mj_pq nl nr p0.toInt p1.toInt m_nodes.toNatClampNeg : Int) ∧ mj_pa nl nr p0.toInt p1.toInt o_3 m_nodes.toNatClampNeg ∧ parts320 o_3 ∧ 0 ≤ o_2.toInt ∧ o_2.toInt ≤ m_nodes.toInt := w_1
  refine lv_aload_n hx hb dX5_folds_6 rfl (lv_at hl 0 rfl) ?_
  refine lv_aload_n hx hb dX5_folds_7 rfl (lv_at hl 0 rfl) ?_
  refine va_get (D := (dC, dI)) (ci := 5) (v := .ref g_part) (C := RX5) (T := TX5) (N := 30) hx hb hts hi_5 hown hK hP 7 rfl rfl 15 (by decide) hf_44 (fun _ h9 => h9) rfl dX5_folds_8 ?_
  refine lv_iconst (v := 0) hx hb dX5_folds_11 (by decide) ?_
  refine va_iald hx hb hK hP 10 0 rfl rfl (ki_inl (by decide)) dX5_folds_12 ?_
  refine lv_topi (fun y_4 ey_4 => ?_)
  have j_4 : y_4.toInt = (o_3 (0 : Int32).toNatClampNeg).toInt := congrArg Int32.toInt ey_4
  have n_5 : ((0 : Int32).toNatClampNeg : Int) = 0 := ki_nat _ rfl om_32
  have i_6 := w_1.2.2.1 (0 : Int32).toNatClampNeg (by omega)
  refine lv_iload_n hx hb dX5_folds_13 rfl (lv_at hl 3 rfl) ?_
  have hPc := hP.sub (ws' := [kx_5 h0 g_row m_n m_slots m_thrown g_many g_loss g_less g_voteValue g_voteNumber g_allValue g_allNumber m_allMany g_nodeL g_nodeR m_nodes g_part o_2 g_wasMany g_wasLoss g_wasValue g_wasNumber g_path m_pathMany g_heavyValue g_heavyTimes m_heavyMany g_fewest g_which g_met m_mostMet, kx_a g_many cyI 324 fm, kx_a g_loss cyI 324 fl, kx_a g_less cyI 324 fe, kx_a g_voteValue cyI 1944 vv, kx_a g_voteNumber cyI 1944 vn]) [7, 0, 1, 2, 3, 4] rfl
  have hKc := hK
  have k_7 : (320 : Int32).toInt = 320 := rfl
  have hDc := hD.sub (ws' := [kx_5 h0 g_row m_n m_slots m_thrown g_many g_loss g_less g_voteValue g_voteNumber g_allValue g_allNumber m_allMany g_nodeL g_nodeR m_nodes g_part o_2 g_wasMany g_wasLoss g_wasValue g_wasNumber g_path m_pathMany g_heavyValue g_heavyTimes m_heavyMany g_fewest g_which g_met m_mostMet, kx_a g_many cyI 324 fm, kx_a g_loss cyI 324 fl, kx_a g_less cyI 324 fe, kx_a g_voteValue cyI 1944 vv, kx_a g_voteNumber cyI 1944 vn]) [7, 0, 1, 2, 3, 4] (by decide) rfl
  have hFc := va_free (wc := [kx_5 h0 g_row m_n m_slots m_thrown g_many g_loss g_less g_voteValue g_voteNumber g_allValue g_allNumber m_allMany g_nodeL g_nodeR m_nodes g_part o_2 g_wasMany g_wasLoss g_wasValue g_wasNumber g_path m_pathMany g_heavyValue g_heavyTimes m_heavyMany g_fewest g_which g_met m_mostMet, kx_a g_many cyI 324 fm, kx_a g_loss cyI 324 fl, kx_a g_less cyI 324 fe, kx_a g_voteValue cyI 1944 vv, kx_a g_voteNumber cyI 1944 vn]) hD hS hA [7, 0, 1, 2, 3, 4] rfl
  refine va_callv (va_runV (As := [.int y_4, .int 320]) (rest := []) ⟨hx, hb, hml, hown, hts⟩ (c_X5_copies_x l dC dI h0 g_row g_many g_loss g_less g_voteValue g_voteNumber g_allValue g_allNumber g_nodeL g_nodeR g_part g_wasMany g_wasLoss g_wasValue g_wasNumber g_path g_heavyValue g_heavyTimes g_fewest g_which g_met m_n m_slots m_thrown m_allMany m_nodes o_2 m_pathMany m_heavyMany m_mostMet cyI fm fl fe vv vn y_4 320 H.size (by omega) (by omega) om_252 om_253) (cwV 2 hts gX5_folds_X5_copies rfl rfl rfl (by decide +kernel) ⟨Nat.le_of_ble_eq_true rfl, Nat.le_of_ble_eq_true rfl⟩) ⟨fun a U g mk q => by obtain ⟨q0, q1, qP, qK, qD⟩ := q; exact ⟨q0, q1, qP, va_K.moved (u := U) (U := U.calling g mk a) (Vm.Alike.refl U.vm) qK, qD⟩, va_recv hKc hPc (ci := 5) (q0 := 0) rfl rfl, fun U hU hW => ⟨rfl, by rw [hU], by rw [hU]; exact hPc, va_K.moved hW.alike hKc, hDc.weaken (fun _ _ _ _ => trivial)⟩⟩ rfl rfl hl.1 rfl (lv_room (Nat.le_of_ble_eq_true rfl)) dX5_folds_14 ⟨Nat.le_of_ble_eq_true rfl, Nat.le_of_ble_eq_true rfl⟩) hS (fun q _ h => hFc q h) hFc (fun u t H1 locs ht hvm w_8 hB hz1 hk1 hS => ?_)
  obtain ⟨o_9, o_10, o_11, o_12, o_13⟩ := u
  dsimp only at w_8 hB
  obtain ⟨hP1, hK1, hD1⟩ := hB
  rw [ht] at hP1
  have hK1 := va_K.moved hvm.symm hK1
  obtain ⟨hP, hD⟩ := va_join (wr := [kx_a g_allValue cyI 12 av, kx_a g_allNumber cyI 12 an, kx_a g_nodeL cyI 320 nl, kx_a g_nodeR cyI 320 nr, kx_a g_part cyI 320 o_3]) (w1 := [kx_5 h0 g_row m_n m_slots m_thrown g_many g_loss g_less g_voteValue g_voteNumber g_allValue g_allNumber m_allMany g_nodeL g_nodeR m_nodes g_part o_2 g_wasMany g_wasLoss g_wasValue g_wasNumber g_path m_pathMany g_heavyValue g_heavyTimes m_heavyMany g_fewest g_which g_met m_mostMet, kx_a g_many cyI 324 o_9, kx_a g_loss cyI 324 o_10, kx_a g_less cyI 324 o_11, kx_a g_voteValue cyI 1944 o_12, kx_a g_voteNumber cyI 1944 o_13]) hP hD [7, 0, 1, 2, 3, 4] [5, 6, 8, 9, 10] rfl rfl (by decide) (by decide) hk1 hFc hP1 hD1
  clear hP1 hD1 hK1 hk1 hz1 hFc hDc hPc hKc
  generalize H1 = H at hP hS ⊢
  have hP : va_P (dC, dI) vwCl [kx_a g_allValue cyI 12 av, kx_a g_allNumber cyI 12 an, kx_a g_nodeL cyI 320 nl, kx_a g_nodeR cyI 320 nr, kx_a g_part cyI 320 o_3, kx_5 h0 g_row m_n m_slots m_thrown g_many g_loss g_less g_voteValue g_voteNumber g_allValue g_allNumber m_allMany g_nodeL g_nodeR m_nodes g_part o_2 g_wasMany g_wasLoss g_wasValue g_wasNumber g_path m_pathMany g_heavyValue g_heavyTimes m_heavyMany g_fewest g_which g_met m_mostMet, kx_a g_many cyI 324 o_9, kx_a g_loss cyI 324 o_10, kx_a g_less cyI 324 o_11, kx_a g_voteValue cyI 1944 o_12, kx_a g_voteNumber cyI 1944 o_13] H := hP
  have hD : va_D A [kx_a g_allValue cyI 12 av, kx_a g_allNumber cyI 12 an, kx_a g_nodeL cyI 320 nl, kx_a g_nodeR cyI 320 nr, kx_a g_part cyI 320 o_3, kx_5 h0 g_row m_n m_slots m_thrown g_many g_loss g_less g_voteValue g_voteNumber g_allValue g_allNumber m_allMany g_nodeL g_nodeR m_nodes g_part o_2 g_wasMany g_wasLoss g_wasValue g_wasNumber g_path m_pathMany g_heavyValue g_heavyTimes m_heavyMany g_fewest g_which g_met m_mostMet, kx_a g_many cyI 324 o_9, kx_a g_loss cyI 324 o_10, kx_a g_less cyI 324 o_11, kx_a g_voteValue cyI 1944 o_12, kx_a g_voteNumber cyI 1944 o_13] := hD
  have w_8 : o_9 = upd fm (320 : Int32).toNatClampNeg (fm y_4.toNatClampNeg) ∧ o_10 = upd fl (320 : Int32).toNatClampNeg (fl y_4.toNatClampNeg) ∧ o_11 = upd fe (320 : Int32).toNatClampNeg (fe y_4.toNatClampNeg) ∧ mj_cp vv vn o_12 o_13 y_4.toNatClampNeg (320 : Int32).toNatClampNeg 6 := w_8
  have n_nd := ki_nat m_nodes rfl (om_8 b0)
  have n_y := ki_nat y_4 rfl (by omega)
  have n_p2 := ki_nat p2 rfl (om_44 k0)
  have hpos := mj_L_pq hL (show 0 ≤ p0.toInt by omega) (show p0.toInt < p1.toInt by omega) (by omega)
  have hpos : 0 < mj_pq nl nr p0.toInt p1.toInt m_nodes.toNatClampNeg := hpos
  obtain ⟨i0, x1, x2, x3⟩ := mj_pq_at nl nr p0.toInt p1.toInt 0 m_nodes.toNatClampNeg hpos
  have x4 := w_1.2.1 i0 x1 x2
  rw [x3] at x4
  have x5 : y_4.toNatClampNeg = i0 := by have : y_4.toInt = (o_3 0).toInt := congrArg Int32.toInt ey_4; omega
  obtain ⟨v0, v6, vK, mu0, hv0, hs0, hb0⟩ := mj_L_vs hL (by omega) i0 (by omega)
  have hc1 := w_8.1
  have hc2 := w_8.2.1
  have hc3 := w_8.2.2.1
  have hc4 := w_8.2.2.2
  rw [x5] at hc1 hc2 hc3 hc4
  have hF1 := mj_F_one (nl := nl) (nr := nr) (l := p0.toInt) (r := p1.toInt) (by omega) x2 x3 v0 v6 vK hv0 hs0 hb0 hc1 hc2 hc4
  have hg1 := mj_ag_cp (nl := nl) (nr := nr) hc1 hc2 hc3 hc4
  have hs1 : six4 o_9 := by rw [hc1]; exact six4_upd s4 v0 v6
  refine lv_iconst (v := 1) hx hb dX5_folds_17 (by decide) ?_
  refine lv_istore (lv' := [(5, .int 1), (0, .ref h0), (1, .int p0), (2, .int p1), (3, .int 320), (4, .int p2)]) hx hb dX5_folds_18 hl (by decide) rfl (fun ls hl => ?_)
  have LP1 : ∀ (n : Nat) (j : Int32) (k_am : Int32) (km : Nat → Int32) (kl : Nat → Int32) (ke : Nat → Int32) (kvv : Nat → Int32) (kvn : Nat → Int32) (kav : Nat → Int32) (kan : Nat → Int32), (1 ≤ j.toInt) → (j.toInt ≤ o_2.toInt) → (six4 km) → (mj_ag 0 320 nl nr fm fl fe vv vn nl nr km kl ke kvv kvn) → (mj_F p2.toNatClampNeg nl nr fm fl vv vn km kl kvv kvn p0.toInt p1.toInt j.toNatClampNeg) → (o_2.toInt - j.toInt).toNat < n → ∀ (H : Heap) (locs : List Loc), va_P (dC, dI) vwCl [kx_a g_allValue cyI 12 kav, kx_a g_allNumber cyI 12 kan, kx_a g_nodeL cyI 320 nl, kx_a g_nodeR cyI 320 nr, kx_a g_part cyI 320 o_3, kx_5 h0 g_row m_n m_slots m_thrown g_many g_loss g_less g_voteValue g_voteNumber g_allValue g_allNumber k_am g_nodeL g_nodeR m_nodes g_part o_2 g_wasMany g_wasLoss g_wasValue g_wasNumber g_path m_pathMany g_heavyValue g_heavyTimes m_heavyMany g_fewest g_which g_met m_mostMet, kx_a g_many cyI 324 km, kx_a g_loss cyI 324 kl, kx_a g_less cyI 324 ke, kx_a g_voteValue cyI 1944 kvv, kx_a g_voteNumber cyI 1944 kvn] H → va_D A [kx_a g_allValue cyI 12 kav, kx_a g_allNumber cyI 12 kan, kx_a g_nodeL cyI 320 nl, kx_a g_nodeR cyI 320 nr, kx_a g_part cyI 320 o_3, kx_5 h0 g_row m_n m_slots m_thrown g_many g_loss g_less g_voteValue g_voteNumber g_allValue g_allNumber k_am g_nodeL g_nodeR m_nodes g_part o_2 g_wasMany g_wasLoss g_wasValue g_wasNumber g_path m_pathMany g_heavyValue g_heavyTimes m_heavyMany g_fewest g_which g_met m_mostMet, kx_a g_many cyI 324 km, kx_a g_loss cyI 324 kl, kx_a g_less cyI 324 ke, kx_a g_voteValue cyI 1944 kvv, kx_a g_voteNumber cyI 1944 kvn] → va_S A s.heap H locs → ∀ (ls : Array Slot), lv_has ls 6 [(5, .int j), (0, .ref h0), (1, .int p0), (2, .int p1), (3, .int 320), (4, .int p2)] → W p l e (headSpec wsX5_folds ({ frames := 3, cells := 0, slots := 0, locals := 135 })).room s m ([.ref h0, .int p0, .int p1, .int 320, .int p2] : List Value).toArray below meth c H locs 0 0 (MQ below (va_Qv (fun u : Int32 × Int32 × (Nat → Int32) × (Nat → Int32) × (Nat → Int32) × (Nat → Int32) × (Nat → Int32) × (Nat → Int32) × (Nat → Int32) × (Nat → Int32) => six4 u.2.2.1 ∧ parts320 u.2.2.2.2.2.2.2.2.2 ∧ mj_ag 0 320 nl nr fm fl fe vv vn nl nr u.2.2.1 u.2.2.2.1 u.2.2.2.2.1 u.2.2.2.2.2.1 u.2.2.2.2.2.2.1 ∧ mj_F p2.toNatClampNeg nl nr u.2.2.1 u.2.2.2.1 u.2.2.2.2.2.1 u.2.2.2.2.2.2.1 u.2.2.1 u.2.2.2.1 u.2.2.2.2.2.1 u.2.2.2.2.2.2.1 p0.toInt p1.toInt (mj_pq nl nr p0.toInt p1.toInt m_nodes.toNatClampNeg)) (fun (u : Int32 × Int32 × (Nat → Int32) × (Nat → Int32) × (Nat → Int32) × (Nat → Int32) × (Nat → Int32) × (Nat → Int32) × (Nat → Int32) × (Nat → Int32)) (t : State) => va_P (dC, dI) vwCl [kx_5 h0 g_row m_n m_slots m_thrown g_many g_loss g_less g_voteValue g_voteNumber g_allValue g_allNumber u.1 g_nodeL g_nodeR m_nodes g_part u.2.1 g_wasMany g_wasLoss g_wasValue g_wasNumber g_path m_pathMany g_heavyValue g_heavyTimes m_heavyMany g_fewest g_which g_met m_mostMet, kx_a g_many cyI 324 u.2.2.1, kx_a g_loss cyI 324 u.2.2.2.1, kx_a g_less cyI 324 u.2.2.2.2.1, kx_a g_voteValue cyI 1944 u.2.2.2.2.2.1, kx_a g_voteNumber cyI 1944 u.2.2.2.2.2.2.1, kx_a g_allValue cyI 12 u.2.2.2.2.2.2.2.1, kx_a g_allNumber cyI 12 u.2.2.2.2.2.2.2.2.1, kx_a g_nodeL cyI 320 nl, kx_a g_nodeR cyI 320 nr, kx_a g_part cyI 320 u.2.2.2.2.2.2.2.2.2] t.heap ∧ va_K (dC, dI) vwCl [(cyI, .int)] t ∧ va_D A [kx_5 h0 g_row m_n m_slots m_thrown g_many g_loss g_less g_voteValue g_voteNumber g_allValue g_allNumber u.1 g_nodeL g_nodeR m_nodes g_part u.2.1 g_wasMany g_wasLoss g_wasValue g_wasNumber g_path m_pathMany g_heavyValue g_heavyTimes m_heavyMany g_fewest g_which g_met m_mostMet, kx_a g_many cyI 324 u.2.2.1, kx_a g_loss cyI 324 u.2.2.2.1, kx_a g_less cyI 324 u.2.2.2.2.1, kx_a g_voteValue cyI 1944 u.2.2.2.2.2.1, kx_a g_voteNumber cyI 1944 u.2.2.2.2.2.2.1, kx_a g_allValue cyI 12 u.2.2.2.2.2.2.2.1, kx_a g_allNumber cyI 12 u.2.2.2.2.2.2.2.2.1, kx_a g_nodeL cyI 320 nl, kx_a g_nodeR cyI 320 nr, kx_a g_part cyI 320 u.2.2.2.2.2.2.2.2.2]) A) ([.ref h0, .int p0, .int p1, .int 320, .int p2] : List Value).toArray s 0 0 A) (F0 m 20 ls []) := by
    intro n
    induction n with
    | zero => intro j k_am km kl ke kvv kvn kav kan LP1_h0 LP1_h1 LP1_h2 LP1_h3 LP1_h4 hn; exact absurd hn (Nat.not_lt_zero _)
    | succ n ih1 =>
      intro j k_am km kl ke kvv kvn kav kan LP1_h0 LP1_h1 LP1_h2 LP1_h3 LP1_h4 hn1 H locs hP hD hS ls hl
      have n_j := ki_nat j rfl (om_44 LP1_h0)
      refine lv_iload hx hb dX5_folds_20 (lv_at hl 0 rfl) ?_
      refine lv_aload_n hx hb dX5_folds_22 rfl (lv_at hl 1 rfl) ?_
      refine va_get (D := (dC, dI)) (ci := 5) (v := .int o_2) (C := RX5) (T := TX5) (N := 30) hx hb hts hi_5 hown hK hP 5 rfl rfl 16 (by decide) hf_115 (fun _ h9 => h9) rfl dX5_folds_23 ?_
      refine lv_icmp_ge (tgt := 50) hx hb dX5_folds_26 (by decide) (fun c_14 => ?_) (fun c_14 => ?_)
      · have i_14 : o_2.toInt ≤ j.toInt := kc_le c_14
        have hP9 := hP.sub (ws' := [kx_5 h0 g_row m_n m_slots m_thrown g_many g_loss g_less g_voteValue g_voteNumber g_allValue g_allNumber k_am g_nodeL g_nodeR m_nodes g_part o_2 g_wasMany g_wasLoss g_wasValue g_wasNumber g_path m_pathMany g_heavyValue g_heavyTimes m_heavyMany g_fewest g_which g_met m_mostMet, kx_a g_many cyI 324 km, kx_a g_loss cyI 324 kl, kx_a g_less cyI 324 ke, kx_a g_voteValue cyI 1944 kvv, kx_a g_voteNumber cyI 1944 kvn, kx_a g_allValue cyI 12 kav, kx_a g_allNumber cyI 12 kan, kx_a g_nodeL cyI 320 nl, kx_a g_nodeR cyI 320 nr, kx_a g_part cyI 320 o_3]) [5, 6, 7, 8, 9, 10, 0, 1, 2, 3, 4] rfl
        have hD9 := hD.sub (ws' := [kx_5 h0 g_row m_n m_slots m_thrown g_many g_loss g_less g_voteValue g_voteNumber g_allValue g_allNumber k_am g_nodeL g_nodeR m_nodes g_part o_2 g_wasMany g_wasLoss g_wasValue g_wasNumber g_path m_pathMany g_heavyValue g_heavyTimes m_heavyMany g_fewest g_which g_met m_mostMet, kx_a g_many cyI 324 km, kx_a g_loss cyI 324 kl, kx_a g_less cyI 324 ke, kx_a g_voteValue cyI 1944 kvv, kx_a g_voteNumber cyI 1944 kvn, kx_a g_allValue cyI 12 kav, kx_a g_allNumber cyI 12 kan, kx_a g_nodeL cyI 320 nl, kx_a g_nodeR cyI 320 nr, kx_a g_part cyI 320 o_3]) [5, 6, 7, 8, 9, 10, 0, 1, 2, 3, 4] (by decide) rfl
        have hK9 := hK
        exact W.vret hx hb hr (fun t ht hW => ⟨⟨(k_am, o_2, km, kl, ke, kvv, kvn, kav, kan, o_3), rfl, ⟨LP1_h2, w_1.2.2.1, LP1_h3, mj_F_self LP1_h4 LP1_h3 (by (try dsimp only); omega)⟩, by rw [ht]; exact hP9, va_K.moved hW.alike hK9, hD9⟩, hS.F ht⟩) hS.2.2 dX5_folds_50
      · have i_14 : j.toInt < o_2.toInt := kc_nle c_14
        refine lv_aload_n hx hb dX5_folds_29 rfl (lv_at hl 1 rfl) ?_
        refine lv_iload_n hx hb dX5_folds_30 rfl (lv_at hl 4 rfl) ?_
        refine lv_aload_n hx hb dX5_folds_31 rfl (lv_at hl 1 rfl) ?_
        refine va_get (D := (dC, dI)) (ci := 5) (v := .ref g_part) (C := RX5) (T := TX5) (N := 30) hx hb hts hi_5 hown hK hP 5 rfl rfl 15 (by decide) hf_44 (fun _ h9 => h9) rfl dX5_folds_32 ?_
        refine lv_iload hx hb dX5_folds_35 (lv_at hl 0 rfl) ?_
        refine va_iald hx hb hK hP 4 0 rfl rfl (ki_in (om_44 LP1_h0) (om_250 b1 w_1.2.2.2.2 LP1_h1)) dX5_folds_37 ?_
        refine lv_topi (fun y_15 ey_15 => ?_)
        have j_15 : y_15.toInt = (o_3 j.toNatClampNeg).toInt := congrArg Int32.toInt ey_15
        have n_16 : (j.toNatClampNeg : Int) = j.toInt := ki_nat _ rfl (om_44 LP1_h0)
        have i_17 := w_1.2.2.1 j.toNatClampNeg (by omega)
        obtain ⟨k9, z1, z2, z3⟩ := mj_pq_at nl nr p0.toInt p1.toInt j.toNatClampNeg m_nodes.toNatClampNeg (by omega)
        have z4 := w_1.2.1 k9 z1 z2
        rw [z3] at z4
        have z5 : y_15.toNatClampNeg = k9 := by have := ki_nat y_15 rfl (by omega); omega
        obtain ⟨w0, w6, wK, mub, hvb, hsb, hbb⟩ := mj_L_vs hL (by omega) k9 (by omega)
        obtain ⟨u0, u6, hvg, elg⟩ := mj_vs_ag LP1_h3 (show k9 < 320 by omega) w0 w6 hvb
        obtain ⟨mua, L0, hH, hva, hsa, c0, cK, eL, hba⟩ := LP1_h4
        refine lv_iload_n hx hb dX5_folds_38 rfl (lv_at hl 4 rfl) ?_
        refine lv_iload hx hb dX5_folds_39 (lv_at hl 5 rfl) ?_
        have hPc := hP.sub (ws' := [kx_5 h0 g_row m_n m_slots m_thrown g_many g_loss g_less g_voteValue g_voteNumber g_allValue g_allNumber k_am g_nodeL g_nodeR m_nodes g_part o_2 g_wasMany g_wasLoss g_wasValue g_wasNumber g_path m_pathMany g_heavyValue g_heavyTimes m_heavyMany g_fewest g_which g_met m_mostMet, kx_a g_many cyI 324 km, kx_a g_loss cyI 324 kl, kx_a g_less cyI 324 ke, kx_a g_voteValue cyI 1944 kvv, kx_a g_voteNumber cyI 1944 kvn, kx_a g_allValue cyI 12 kav, kx_a g_allNumber cyI 12 kan]) [5, 6, 7, 8, 9, 10, 0, 1] rfl
        have hKc := hK
        have k_18 : (320 : Int32).toInt = 320 := rfl
        have hDc := hD.sub (ws' := [kx_5 h0 g_row m_n m_slots m_thrown g_many g_loss g_less g_voteValue g_voteNumber g_allValue g_allNumber k_am g_nodeL g_nodeR m_nodes g_part o_2 g_wasMany g_wasLoss g_wasValue g_wasNumber g_path m_pathMany g_heavyValue g_heavyTimes m_heavyMany g_fewest g_which g_met m_mostMet, kx_a g_many cyI 324 km, kx_a g_loss cyI 324 kl, kx_a g_less cyI 324 ke, kx_a g_voteValue cyI 1944 kvv, kx_a g_voteNumber cyI 1944 kvn, kx_a g_allValue cyI 12 kav, kx_a g_allNumber cyI 12 kan]) [5, 6, 7, 8, 9, 10, 0, 1] (by decide) rfl
        have hFc := va_free (wc := [kx_5 h0 g_row m_n m_slots m_thrown g_many g_loss g_less g_voteValue g_voteNumber g_allValue g_allNumber k_am g_nodeL g_nodeR m_nodes g_part o_2 g_wasMany g_wasLoss g_wasValue g_wasNumber g_path m_pathMany g_heavyValue g_heavyTimes m_heavyMany g_fewest g_which g_met m_mostMet, kx_a g_many cyI 324 km, kx_a g_loss cyI 324 kl, kx_a g_less cyI 324 ke, kx_a g_voteValue cyI 1944 kvv, kx_a g_voteNumber cyI 1944 kvn, kx_a g_allValue cyI 12 kav, kx_a g_allNumber cyI 12 kan]) hD hS hA [5, 6, 7, 8, 9, 10, 0, 1] rfl
        refine va_callv (va_runV (As := [.int 320, .int y_15, .int 320, .int p2]) (rest := []) ⟨hx, hb, hml, hown, hts⟩ (c_X5_together l dC dI h0 g_row g_many g_loss g_less g_voteValue g_voteNumber g_allValue g_allNumber g_nodeL g_nodeR g_part g_wasMany g_wasLoss g_wasValue g_wasNumber g_path g_heavyValue g_heavyTimes g_fewest g_which g_met m_n m_slots m_thrown k_am m_nodes o_2 m_pathMany m_heavyMany m_mostMet cyI km kl ke kvv kvn kav kan mua mub 320 y_15 320 p2 H.size (by omega) (by omega) (by omega) (by omega) (by omega) (by omega) (by omega) (by omega) c0 (Int.le_trans cK (by omega)) (by rw [z5]; exact u0) (by rw [z5]; exact u6) hva (by rw [z5]; exact hvg) (fun v => by have h1 := hba v; have h2 := hbb v; omega)) (cwV 4 hts gX5_folds_X5_together rfl rfl rfl (by decide +kernel) ⟨Nat.le_of_ble_eq_true rfl, Nat.le_of_ble_eq_true rfl⟩) ⟨fun a U g mk q => by obtain ⟨q0, q1, qP, qK, qD⟩ := q; exact ⟨q0, q1, qP, va_K.moved (u := U) (U := U.calling g mk a) (Vm.Alike.refl U.vm) qK, qD⟩, va_recv hKc hPc (ci := 5) (q0 := 0) rfl rfl, fun U hU hW => ⟨rfl, by rw [hU], by rw [hU]; exact hPc, va_K.moved hW.alike hKc, hDc.weaken (fun _ _ _ _ => trivial)⟩⟩ rfl rfl hl.1 rfl (lv_room (Nat.le_of_ble_eq_true rfl)) dX5_folds_41 ⟨Nat.le_of_ble_eq_true rfl, Nat.le_of_ble_eq_true rfl⟩) hS (fun q _ h => hFc q h) hFc (fun u t H1 locs ht hvm w_19 hB hz1 hk1 hS => ?_)
        obtain ⟨o_20, o_21, o_22, o_23, o_24, o_25, o_26, o_27, o_28, o_29, o_30⟩ := u
        dsimp only at w_19 hB
        obtain ⟨hP1, hK1, hD1⟩ := hB
        rw [ht] at hP1
        have hK1 := va_K.moved hvm.symm hK1
        obtain ⟨hP, hD⟩ := va_join (wr := [kx_a g_nodeL cyI 320 nl, kx_a g_nodeR cyI 320 nr, kx_a g_part cyI 320 o_3]) (w1 := [kx_5 h0 g_row m_n m_slots m_thrown g_many g_loss g_less g_voteValue g_voteNumber g_allValue g_allNumber o_20 g_nodeL g_nodeR m_nodes g_part o_2 g_wasMany g_wasLoss g_wasValue g_wasNumber g_path m_pathMany g_heavyValue g_heavyTimes m_heavyMany g_fewest g_which g_met m_mostMet, kx_a g_many cyI 324 o_24, kx_a g_loss cyI 324 o_25, kx_a g_less cyI 324 o_26, kx_a g_voteValue cyI 1944 o_27, kx_a g_voteNumber cyI 1944 o_28, kx_a g_allValue cyI 12 o_29, kx_a g_allNumber cyI 12 o_30]) hP hD [5, 6, 7, 8, 9, 10, 0, 1] [2, 3, 4] rfl rfl (by decide) (by decide) hk1 hFc hP1 hD1
        clear hP1 hD1 hK1 hk1 hz1 hFc hDc hPc hKc
        generalize H1 = H at hP hS ⊢
        have hP : va_P (dC, dI) vwCl [kx_a g_nodeL cyI 320 nl, kx_a g_nodeR cyI 320 nr, kx_a g_part cyI 320 o_3, kx_5 h0 g_row m_n m_slots m_thrown g_many g_loss g_less g_voteValue g_voteNumber g_allValue g_allNumber o_20 g_nodeL g_nodeR m_nodes g_part o_2 g_wasMany g_wasLoss g_wasValue g_wasNumber g_path m_pathMany g_heavyValue g_heavyTimes m_heavyMany g_fewest g_which g_met m_mostMet, kx_a g_many cyI 324 o_24, kx_a g_loss cyI 324 o_25, kx_a g_less cyI 324 o_26, kx_a g_voteValue cyI 1944 o_27, kx_a g_voteNumber cyI 1944 o_28, kx_a g_allValue cyI 12 o_29, kx_a g_allNumber cyI 12 o_30] H := hP
        have hD : va_D A [kx_a g_nodeL cyI 320 nl, kx_a g_nodeR cyI 320 nr, kx_a g_part cyI 320 o_3, kx_5 h0 g_row m_n m_slots m_thrown g_many g_loss g_less g_voteValue g_voteNumber g_allValue g_allNumber o_20 g_nodeL g_nodeR m_nodes g_part o_2 g_wasMany g_wasLoss g_wasValue g_wasNumber g_path m_pathMany g_heavyValue g_heavyTimes m_heavyMany g_fewest g_which g_met m_mostMet, kx_a g_many cyI 324 o_24, kx_a g_loss cyI 324 o_25, kx_a g_less cyI 324 o_26, kx_a g_voteValue cyI 1944 o_27, kx_a g_voteNumber cyI 1944 o_28, kx_a g_allValue cyI 12 o_29, kx_a g_allNumber cyI 12 o_30] := hD
        have w_19 : mj_tog p2.toNatClampNeg mua mub o_23 o_21 ∧ o_25 = upd kl (320 : Int32).toNatClampNeg (kl (320 : Int32).toNatClampNeg + kl y_15.toNatClampNeg + o_21) ∧ o_26 = upd ke (320 : Int32).toNatClampNeg o_21 ∧ o_24 = upd km (320 : Int32).toNatClampNeg o_22 ∧ 0 ≤ o_22.toInt ∧ o_22.toInt ≤ p2.toInt ∧ mj_vs o_27 o_28 (6 * (320 : Int32).toNatClampNeg) o_22.toNatClampNeg o_23 ∧ mj_srt o_27 o_28 (6 * (320 : Int32).toNatClampNeg) o_22.toNatClampNeg ∧ ∀ q : Nat, (q < 6 * (320 : Int32).toNatClampNeg ∨ 6 * (320 : Int32).toNatClampNeg + 6 ≤ q) → o_27 q = kvv q ∧ o_28 q = kvn q := w_19
        obtain ⟨x_31, ex_31⟩ : ∃ y : Int32, y = j + 1 := ⟨_, rfl⟩
        have i_31 : x_31.toInt = j.toInt + 1 := ki_add ex_31 rfl rfl (om_33 LP1_h0) (om_251 b1 w_1.2.2.2.2 LP1_h1)
        refine lv_iinc (v := x_31) (lv' := [(5, .int x_31), (0, .ref h0), (1, .int p0), (2, .int p1), (3, .int 320), (4, .int p2)]) hx hb dX5_folds_44 hl (k := 0) rfl (by rw [ex_31]; rfl) (by decide) rfl (fun ls hl => ?_)
        refine lv_goto (tgt := 20) hx hb dX5_folds_47 (by decide) ?_
        have hP : va_P (dC, dI) vwCl [kx_a g_allValue cyI 12 o_29, kx_a g_allNumber cyI 12 o_30, kx_a g_nodeL cyI 320 nl, kx_a g_nodeR cyI 320 nr, kx_a g_part cyI 320 o_3, kx_5 h0 g_row m_n m_slots m_thrown g_many g_loss g_less g_voteValue g_voteNumber g_allValue g_allNumber o_20 g_nodeL g_nodeR m_nodes g_part o_2 g_wasMany g_wasLoss g_wasValue g_wasNumber g_path m_pathMany g_heavyValue g_heavyTimes m_heavyMany g_fewest g_which g_met m_mostMet, kx_a g_many cyI 324 o_24, kx_a g_loss cyI 324 o_25, kx_a g_less cyI 324 o_26, kx_a g_voteValue cyI 1944 o_27, kx_a g_voteNumber cyI 1944 o_28] _ := hP.sub [9, 10, 0, 1, 2, 3, 4, 5, 6, 7, 8] rfl
        have hD : va_D A [kx_a g_allValue cyI 12 o_29, kx_a g_allNumber cyI 12 o_30, kx_a g_nodeL cyI 320 nl, kx_a g_nodeR cyI 320 nr, kx_a g_part cyI 320 o_3, kx_5 h0 g_row m_n m_slots m_thrown g_many g_loss g_less g_voteValue g_voteNumber g_allValue g_allNumber o_20 g_nodeL g_nodeR m_nodes g_part o_2 g_wasMany g_wasLoss g_wasValue g_wasNumber g_path m_pathMany g_heavyValue g_heavyTimes m_heavyMany g_fewest g_which g_met m_mostMet, kx_a g_many cyI 324 o_24, kx_a g_loss cyI 324 o_25, kx_a g_less cyI 324 o_26, kx_a g_voteValue cyI 1944 o_27, kx_a g_voteNumber cyI 1944 o_28] := hD.sub [9, 10, 0, 1, 2, 3, 4, 5, 6, 7, 8] (by decide) rfl
        have n_32 := ki_nat x_31 rfl (om_254 LP1_h0 i_31)
        have t_fl := w_19.2.1
        rw [z5] at t_fl
        have t_fm := w_19.2.2.2.1
        have t_fe := w_19.2.2.1
        exact ih1 x_31 o_20 o_24 o_25 o_26 o_27 o_28 o_29 o_30 (om_34 LP1_h0 i_31) (om_47 i_14 i_31) (by rw [t_fm]; exact six4_upd LP1_h2 w_19.2.2.2.2.1 (Int.le_trans w_19.2.2.2.2.2.1 (by omega))) (mj_ag_tg LP1_h3 t_fm t_fl t_fe w_19.2.2.2.2.2.2.2.2) (mj_F_step hH (by omega) z2 z3 w0 w6 hvb w_19.1 t_fl eL elg t_fm w_19.2.2.2.2.1 (Int.le_trans w_19.2.2.2.2.2.1 (by omega)) w_19.2.2.2.2.2.2.1 w_19.2.2.2.2.2.2.2.1 hba hbb (by omega)) (om_mu hn1 (om_5 i_31) (om_6 i_14)) _ _ hP hD hS ls (lv_sub hl [0, 1, 2, 3, 4, 5] rfl)
  have k_33 : (1 : Int32).toInt = 1 := rfl
  exact LP1 ((o_2.toInt - 1 : Int).toNat + 1) 1 m_allMany o_9 o_10 o_11 o_12 o_13 av an om_45 (by omega) hs1 hg1 hF1 (Nat.lt_succ_self _) _ _ hP hD hS ls (lv_sub hl [0, 1, 2, 3, 4, 5] rfl)


