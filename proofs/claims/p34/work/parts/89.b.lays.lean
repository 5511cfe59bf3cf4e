set_option maxHeartbeats 4000000 in
set_option maxRecDepth 100000 in
theorem c_X5_one_x (l : Launch) (dC : Nat → ClassId) (dI : Nat → Nat → Nat) (h0 : Nat) (g_row : Nat) (g_many : Nat) (g_loss : Nat) (g_less : Nat) (g_voteValue : Nat) (g_voteNumber : Nat) (g_allValue : Nat) (g_allNumber : Nat) (g_nodeL : Nat) (g_nodeR : Nat) (g_part : Nat) (g_wasMany : Nat) (g_wasLoss : Nat) (g_wasValue : Nat) (g_wasNumber : Nat) (g_path : Nat) (g_heavyValue : Nat) (g_heavyTimes : Nat) (g_fewest : Nat) (g_which : Nat) (g_met : Nat) (m_n : Int32) (m_slots : Int32) (m_thrown : Int32) (m_allMany : Int32) (m_nodes : Int32) (m_partMany : Int32) (m_pathMany : Int32) (m_heavyMany : Int32) (m_mostMet : Int32) (cyI : ClassId) (fm : Nat → Int32) (fl : Nat → Int32) (fe : Nat → Int32) (vv : Nat → Int32) (vn : Nat → Int32) (p0 : Int32) (p1 : Int32) (sz : Nat) (b0 : 0 ≤ p0.toInt) (b1 : p0.toInt < 324) : kx_MQ l (dC, dI) yX5_one wsX5_one ({ frames := 0, cells := 0, slots := 0, locals := 0 }) [.ref h0, .int p0, .int p1] [kx_5 h0 g_row m_n m_slots m_thrown g_many g_loss g_less g_voteValue g_voteNumber g_allValue g_allNumber m_allMany g_nodeL g_nodeR m_nodes g_part m_partMany g_wasMany g_wasLoss g_wasValue g_wasNumber g_path m_pathMany g_heavyValue g_heavyTimes m_heavyMany g_fewest g_which g_met m_mostMet, kx_a g_many cyI 324 fm, kx_a g_loss cyI 324 fl, kx_a g_less cyI 324 fe, kx_a g_voteValue cyI 1944 vv, kx_a g_voteNumber cyI 1944 vn] [(cyI, .int)] sz (fun A => va_Qv (fun u : (Nat → Int32) × (Nat → Int32) × (Nat → Int32) × (Nat → Int32) × (Nat → Int32) => u.1 = upd fm p0.toNatClampNeg 1 ∧ u.2.1 = upd fl p0.toNatClampNeg 0 ∧ u.2.2.1 = upd fe p0.toNatClampNeg 0 ∧ u.2.2.2.1 = upd vv (6 * p0.toNatClampNeg) p1 ∧ u.2.2.2.2 = upd vn (6 * p0.toNatClampNeg) 1) (fun (u : (Nat → Int32) × (Nat → Int32) × (Nat → Int32) × (Nat → Int32) × (Nat → Int32)) (t : State) => va_P (dC, dI) vwCl [kx_5 h0 g_row m_n m_slots m_thrown g_many g_loss g_less g_voteValue g_voteNumber g_allValue g_allNumber m_allMany g_nodeL g_nodeR m_nodes g_part m_partMany g_wasMany g_wasLoss g_wasValue g_wasNumber g_path m_pathMany g_heavyValue g_heavyTimes m_heavyMany g_fewest g_which g_met m_mostMet, kx_a g_many cyI 324 u.1, kx_a g_loss cyI 324 u.2.1, kx_a g_less cyI 324 u.2.2.1, kx_a g_voteValue cyI 1944 u.2.2.2.1, kx_a g_voteNumber cyI 1944 u.2.2.2.2] t.heap ∧ va_K (dC, dI) vwCl [(cyI, .int)] t ∧ va_D A [kx_5 h0 g_row m_n m_slots m_thrown g_many g_loss g_less g_voteValue g_voteNumber g_allValue g_allNumber m_allMany g_nodeL g_nodeR m_nodes g_part m_partMany g_wasMany g_wasLoss g_wasValue g_wasNumber g_path m_pathMany g_heavyValue g_heavyTimes m_heavyMany g_fewest g_which g_met m_mostMet, kx_a g_many cyI 324 u.1, kx_a g_loss cyI 324 u.2.1, kx_a g_less cyI 324 u.2.2.1, kx_a g_voteValue cyI 1944 u.2.2.2.1, kx_a g_voteNumber cyI 1944 u.2.2.2.2]) A) := by
  refine kx_stQ (ws := wsX5_one) (cc := cX5_one) (maxL := 3) (ret := none) (by decide) rfl (Nat.le_of_ble_eq_true rfl) ?_
  intro p e s m below meth c A ls hx hb hr hlocks hts hown hml hA hS hP hK hD hl
  have hown : s.vm.findClass RX5 = some m.cls := hown
  have hl : lv_has ls 3 [(0, .ref h0), (1, .int p0), (2, .int p1)] := hl
  have hf_17 := hts (.fieldLink RX5 17 "MajorityIndexModel" "many" "[I") (List.mem_of_getElem? (i := 1) rfl)
  have hi_5 : ∀ w ∈ u_ws RX5 TX5 30, w ∈ wsX5_one := fun w h => List.mem_cons_of_mem _ (List.mem_append_right _ h)
  have hf_20 := hts (.fieldLink RX5 20 "MajorityIndexModel" "loss" "[I") (List.mem_of_getElem? (i := 2) rfl)
  have hf_23 := hts (.fieldLink RX5 23 "MajorityIndexModel" "less" "[I") (List.mem_of_getElem? (i := 3) rfl)
  have hf_26 := hts (.fieldLink RX5 26 "MajorityIndexModel" "voteValue" "[I") (List.mem_of_getElem? (i := 4) rfl)
  have hf_29 := hts (.fieldLink RX5 29 "MajorityIndexModel" "voteNumber" "[I") (List.mem_of_getElem? (i := 5) rfl)
  refine lv_aload_n hx hb dX5_one_0 rfl (lv_at hl 0 rfl) ?_
  refine va_get (D := (dC, dI)) (ci := 5) (v := .ref g_many) (C := RX5) (T := TX5) (N := 30) hx hb hts hi_5 hown hK hP 0 rfl rfl 4 (by decide) hf_17 (fun _ h9 => h9) rfl dX5_one_1 ?_
  refine lv_iload_n hx hb dX5_one_4 rfl (lv_at hl 1 rfl) ?_
  refine lv_iconst (v := 1) hx hb dX5_one_5 (by decide) ?_
  refine va_iast hx hb hK hP hD hS 1 0 rfl rfl (ki_in (om_10 b0) (om_246 b1)) dX5_one_6 (fun H locs hP hD hS => ?_)
  obtain ⟨hP, hD⟩ := kx_re (w2 := [kx_5 h0 g_row m_n m_slots m_thrown g_many g_loss g_less g_voteValue g_voteNumber g_allValue g_allNumber m_allMany g_nodeL g_nodeR m_nodes g_part m_partMany g_wasMany g_wasLoss g_wasValue g_wasNumber g_path m_pathMany g_heavyValue g_heavyTimes m_heavyMany g_fewest g_which g_met m_mostMet, kx_a g_many cyI 324 (upd fm p0.toNatClampNeg 1), kx_a g_loss cyI 324 fl, kx_a g_less cyI 324 fe, kx_a g_voteValue cyI 1944 vv, kx_a g_voteNumber cyI 1944 vn]) hP hD rfl
  refine lv_aload_n hx hb dX5_one_7 rfl (lv_at hl 0 rfl) ?_
  refine va_get (D := (dC, dI)) (ci := 5) (v := .ref g_loss) (C := RX5) (T := TX5) (N := 30) hx hb hts hi_5 hown hK hP 0 rfl rfl 5 (by decide) hf_20 (fun _ h9 => h9) rfl dX5_one_8 ?_
  refine lv_iload_n hx hb dX5_one_11 rfl (lv_at hl 1 rfl) ?_
  refine lv_iconst (v := 0) hx hb dX5_one_12 (by decide) ?_
  refine va_iast hx hb hK hP hD hS 2 0 rfl rfl (ki_in (om_10 b0) (om_246 b1)) dX5_one_13 (fun H locs hP hD hS => ?_)
  obtain ⟨hP, hD⟩ := kx_re (w2 := [kx_5 h0 g_row m_n m_slots m_thrown g_many g_loss g_less g_voteValue g_voteNumber g_allValue g_allNumber m_allMany g_nodeL g_nodeR m_nodes g_part m_partMany g_wasMany g_wasLoss g_wasValue g_wasNumber g_path m_pathMany g_heavyValue g_heavyTimes m_heavyMany g_fewest g_which g_met m_mostMet, kx_a g_many cyI 324 (upd fm p0.toNatClampNeg 1), kx_a g_loss cyI 324 (upd fl p0.toNatClampNeg 0), kx_a g_less cyI 324 fe, kx_a g_voteValue cyI 1944 vv, kx_a g_voteNumber cyI 1944 vn]) hP hD rfl
  refine lv_aload_n hx hb dX5_one_14 rfl (lv_at hl 0 rfl) ?_
  refine va_get (D := (dC, dI)) (ci := 5) (v := .ref g_less) (C := RX5) (T := TX5) (N := 30) hx hb hts hi_5 hown hK hP 0 rfl rfl 6 (by decide) hf_23 (fun _ h9 => h9) rfl dX5_one_15 ?_
  refine lv_iload_n hx hb dX5_one_18 rfl (lv_at hl 1 rfl) ?_
  refine lv_iconst (v := 0) hx hb dX5_one_19 (by decide) ?_
  refine va_iast hx hb hK hP hD hS 3 0 rfl rfl (ki_in (om_10 b0) (om_246 b1)) dX5_one_20 (fun H locs hP hD hS => ?_)
  obtain ⟨hP, hD⟩ := kx_re (w2 := [kx_5 h0 g_row m_n m_slots m_thrown g_many g_loss g_less g_voteValue g_voteNumber g_allValue g_allNumber m_allMany g_nodeL g_nodeR m_nodes g_part m_partMany g_wasMany g_wasLoss g_wasValue g_wasNumber g_path m_pathMany g_heavyValue g_heavyTimes m_heavyMany g_fewest g_which g_met m_mostMet, kx_a g_many cyI 324 (upd fm p0.toNatClampNeg 1), kx_a g_loss cyI 324 (upd fl p0.toNatClampNeg 0), kx_a g_less cyI 324 (upd fe p0.toNatClampNeg 0), kx_a g_voteValue cyI 1944 vv, kx_a g_voteNumber cyI 1944 vn]) hP hD rfl
  refine lv_aload_n hx hb dX5_one_21 rfl (lv_at hl 0 rfl) ?_
  refine va_get (D := (dC, dI)) (ci := 5) (v := .ref g_voteValue) (C := RX5) (T := TX5) (N := 30) hx hb hts hi_5 hown hK hP 0 rfl rfl 7 (by decide) hf_26 (fun _ h9 => h9) rfl dX5_one_22 ?_
  refine lv_bipush (v := 6) hx hb dX5_one_25 (by decide) ?_
  refine lv_iload_n hx hb dX5_one_27 rfl (lv_at hl 1 rfl) ?_
  refine lv_imul hx hb dX5_one_28 ?_
  refine lv_topi (fun y_1 ey_1 => ?_)
  have i_1 : y_1.toInt = 6 * p0.toInt := ki_mul ey_1 rfl rfl (om_247 b0) (om_248 b1)
  refine lv_iload_n hx hb dX5_one_29 rfl (lv_at hl 2 rfl) ?_
  refine va_iast hx hb hK hP hD hS 4 0 rfl rfl (ki_in (om_249 b0 i_1) (om_250 b1 i_1)) dX5_one_30 (fun H locs hP hD hS => ?_)
  obtain ⟨hP, hD⟩ := kx_re (w2 := [kx_5 h0 g_row m_n m_slots m_thrown g_many g_loss g_less g_voteValue g_voteNumber g_allValue g_allNumber m_allMany g_nodeL g_nodeR m_nodes g_part m_partMany g_wasMany g_wasLoss g_wasValue g_wasNumber g_path m_pathMany g_heavyValue g_heavyTimes m_heavyMany g_fewest g_which g_met m_mostMet, kx_a g_many cyI 324 (upd fm p0.toNatClampNeg 1), kx_a g_loss cyI 324 (upd fl p0.toNatClampNeg 0), kx_a g_less cyI 324 (upd fe p0.toNatClampNeg 0), kx_a g_voteValue cyI 1944 (upd vv y_1.toNatClampNeg p1), kx_a g_voteNumber cyI 1944 vn]) hP hD rfl
  refine lv_aload_n hx hb dX5_one_31 rfl (lv_at hl 0 rfl) ?_
  refine va_get (D := (dC, dI)) (ci := 5) (v := .ref g_voteNumber) (C := RX5) (T := TX5) (N := 30) hx hb hts hi_5 hown hK hP 0 rfl rfl 8 (by decide) hf_29 (fun _ h9 => h9) rfl dX5_one_32 ?_
  refine lv_bipush (v := 6) hx hb dX5_one_35 (by decide) ?_
  refine lv_iload_n hx hb dX5_one_37 rfl (lv_at hl 1 rfl) ?_
  refine lv_imul hx hb dX5_one_38 ?_
  refine lv_topi (fun y_2 ey_2 => ?_)
  have i_2 : y_2.toInt = 6 * p0.toInt := ki_mul ey_2 rfl rfl (om_247 b0) (om_248 b1)
  refine lv_iconst (v := 1) hx hb dX5_one_39 (by decide) ?_
  refine va_iast hx hb hK hP hD hS 5 0 rfl rfl (ki_in (om_249 b0 i_2) (om_250 b1 i_2)) dX5_one_40 (fun H locs hP hD hS => ?_)
  obtain ⟨hP, hD⟩ := kx_re (w2 := [kx_5 h0 g_row m_n m_slots m_thrown g_many g_loss g_less g_voteValue g_voteNumber g_allValue g_allNumber m_allMany g_nodeL g_nodeR m_nodes g_part m_partMany g_wasMany g_wasLoss g_wasValue g_wasNumber g_path m_pathMany g_heavyValue g_heavyTimes m_heavyMany g_fewest g_which g_met m_mostMet, kx_a g_many cyI 324 (upd fm p0.toNatClampNeg 1), kx_a g_loss cyI 324 (upd fl p0.toNatClampNeg 0), kx_a g_less cyI 324 (upd fe p0.toNatClampNeg 0), kx_a g_voteValue cyI 1944 (upd vv y_1.toNatClampNeg p1), kx_a g_voteNumber cyI 1944 (upd vn y_2.toNatClampNeg 1)]) hP hD rfl
  have hP9 := hP
  have hD9 := hD
  have hK9 := hK
  have n_3 := ki_nat y_1 rfl (om_249 b0 i_1)
  have n_4 := ki_nat y_2 rfl (om_249 b0 i_2)
  have n_5 := ki_nat p0 rfl (om_10 b0)
  exact W.vret hx hb hr (hlocks := hlocks) (fun t ht hW => ⟨⟨((upd fm p0.toNatClampNeg 1), (upd fl p0.toNatClampNeg 0), (upd fe p0.toNatClampNeg 0), (upd vv y_1.toNatClampNeg p1), (upd vn y_2.toNatClampNeg 1)), rfl, ⟨rfl, rfl, rfl, (by (try dsimp only); rw [show y_1.toNatClampNeg = 6 * p0.toNatClampNeg by omega]), (by (try dsimp only); rw [show y_2.toNatClampNeg = 6 * p0.toNatClampNeg by omega])⟩, by rw [ht]; exact hP9, va_K.moved hW.alike hK9, hD9⟩, hS.F ht⟩) hS.2.2 dX5_one_41

theorem mj_ly9 {p0 p1 a y12 yd s z oL : Int} {l r A Y M O : Nat} (n0 : (l : Int) = p0) (n1 : (r : Int) = p1) (na : (A : Int) = a) (ny : (Y : Int) = y12) (nm : (M : Int) = yd) (no : (O : Int) = oL) (i1 : y12 = a + 1) (i4 : s = p0 + p1) (i5 : yd = s / 2) (w2 : oL = y12 + 2 * (yd - p0) - 1) (b1 : p0 < p1) (iz : z = p1 - p0) (ne : ¬ z = 1) : Y + 2 * (M - l) - 1 ≤ O ∧ M = (l + r) / 2 ∧ l + 2 ≤ r ∧ Y = A + 1 ∧ O = A + 2 * (M - l) ∧ A + 1 ≤ Y := by
  refine ⟨?_, ?_, ?_, ?_, ?_, ?_⟩ <;> omega
theorem mj_lf9 {p0 p1 z : Int} {l r : Nat} (n0 : (l : Int) = p0) (n1 : (r : Int) = p1) (iz : z = p1 - p0) (e : z = 1) : r = l + 1 := by omega
theorem mj_ln1 {K : Nat} {x : Int} (n : (K : Int) = x) (h : 1 ≤ x) : 1 ≤ K := by omega
theorem mj_ln6 {K : Nat} {x : Int} (n : (K : Int) = x) (h : x ≤ 6) : K ≤ 6 := by omega

set_option maxHeartbeats 4000000 in
set_option maxRecDepth 100000 in
theorem c_X5_lays_0 (l : Launch) (dC : Nat → ClassId) (dI : Nat → Nat → Nat) (h0 : Nat) (g_row : Nat) (g_many : Nat) (g_loss : Nat) (g_less : Nat) (g_voteValue : Nat) (g_voteNumber : Nat) (g_allValue : Nat) (g_allNumber : Nat) (g_nodeL : Nat) (g_nodeR : Nat) (g_part : Nat) (g_wasMany : Nat) (g_wasLoss : Nat) (g_wasValue : Nat) (g_wasNumber : Nat) (g_path : Nat) (g_heavyValue : Nat) (g_heavyTimes : Nat) (g_fewest : Nat) (g_which : Nat) (g_met : Nat) (m_n : Int32) (m_slots : Int32) (m_thrown : Int32) (m_allMany : Int32) (m_nodes : Int32) (m_partMany : Int32) (m_pathMany : Int32) (m_heavyMany : Int32) (m_mostMet : Int32) (cyI : ClassId) (fm : Nat → Int32) (fl : Nat → Int32) (fe : Nat → Int32) (vv : Nat → Int32) (vn : Nat → Int32) (f : Nat → Int32) (av : Nat → Int32) (an : Nat → Int32) (nl : Nat → Int32) (nr : Nat → Int32) (p0 : Int32) (p1 : Int32) (p2 : Int32) (sz : Nat) (b0 : 0 ≤ p0.toInt) (b1 : p0.toInt < p1.toInt) (b2 : p1.toInt ≤ 160) (b3 : 1 ≤ p2.toInt) (b4 : p2.toInt ≤ 6) (b5 : 0 ≤ m_nodes.toInt) (b6 : m_nodes.toInt + 2 * (p1.toInt - p0.toInt) - 1 ≤ 319) (s4 : six4 fm) (b7 : p1.toInt - p0.toInt ≤ 1) : kx_MQ l (dC, dI) yX5_lays wsX5_lays ({ frames := 1, cells := 0, slots := 0, locals := 45 }) [.ref h0, .int p0, .int p1, .int p2] [kx_5 h0 g_row m_n m_slots m_thrown g_many g_loss g_less g_voteValue g_voteNumber g_allValue g_allNumber m_allMany g_nodeL g_nodeR m_nodes g_part m_partMany g_wasMany g_wasLoss g_wasValue g_wasNumber g_path m_pathMany g_heavyValue g_heavyTimes m_heavyMany g_fewest g_which g_met m_mostMet, kx_a g_row cyI 160 f, kx_a g_many cyI 324 fm, kx_a g_loss cyI 324 fl, kx_a g_less cyI 324 fe, kx_a g_voteValue cyI 1944 vv, kx_a g_voteNumber cyI 1944 vn, kx_a g_allValue cyI 12 av, kx_a g_allNumber cyI 12 an, kx_a g_nodeL cyI 320 nl, kx_a g_nodeR cyI 320 nr] [(cyI, .int)] sz (fun A => va_Qi (fun (r : Int32) (u : Int32 × Int32 × (Nat → Int32) × (Nat → Int32) × (Nat → Int32) × (Nat → Int32) × (Nat → Int32) × (Nat → Int32) × (Nat → Int32) × (Nat → Int32) × (Nat → Int32)) => r = m_nodes ∧ u.1.toInt = m_nodes.toInt + 2 * (p1.toInt - p0.toInt) - 1 ∧ six4 u.2.2.1 ∧ mj_S p2.toNatClampNeg f u.2.2.2.2.2.2.2.2.2.1 u.2.2.2.2.2.2.2.2.2.2 u.2.2.1 u.2.2.2.1 u.2.2.2.2.1 u.2.2.2.2.2.1 u.2.2.2.2.2.2.1 0 m_nodes.toNatClampNeg p0.toNatClampNeg p1.toNatClampNeg ∧ mj_ag 0 m_nodes.toNatClampNeg nl nr fm fl fe vv vn u.2.2.2.2.2.2.2.2.2.1 u.2.2.2.2.2.2.2.2.2.2 u.2.2.1 u.2.2.2.1 u.2.2.2.2.1 u.2.2.2.2.2.1 u.2.2.2.2.2.2.1) (fun (u : Int32 × Int32 × (Nat → Int32) × (Nat → Int32) × (Nat → Int32) × (Nat → Int32) × (Nat → Int32) × (Nat → Int32) × (Nat → Int32) × (Nat → Int32) × (Nat → Int32)) (t : State) => va_P (dC, dI) vwCl [kx_5 h0 g_row m_n m_slots m_thrown g_many g_loss g_less g_voteValue g_voteNumber g_allValue g_allNumber u.2.1 g_nodeL g_nodeR u.1 g_part m_partMany g_wasMany g_wasLoss g_wasValue g_wasNumber g_path m_pathMany g_heavyValue g_heavyTimes m_heavyMany g_fewest g_which g_met m_mostMet, kx_a g_row cyI 160 f, kx_a g_many cyI 324 u.2.2.1, kx_a g_loss cyI 324 u.2.2.2.1, kx_a g_less cyI 324 u.2.2.2.2.1, kx_a g_voteValue cyI 1944 u.2.2.2.2.2.1, kx_a g_voteNumber cyI 1944 u.2.2.2.2.2.2.1, kx_a g_allValue cyI 12 u.2.2.2.2.2.2.2.1, kx_a g_allNumber cyI 12 u.2.2.2.2.2.2.2.2.1, kx_a g_nodeL cyI 320 u.2.2.2.2.2.2.2.2.2.1, kx_a g_nodeR cyI 320 u.2.2.2.2.2.2.2.2.2.2] t.heap ∧ va_K (dC, dI) vwCl [(cyI, .int)] t ∧ va_D A [kx_5 h0 g_row m_n m_slots m_thrown g_many g_loss g_less g_voteValue g_voteNumber g_allValue g_allNumber u.2.1 g_nodeL g_nodeR u.1 g_part m_partMany g_wasMany g_wasLoss g_wasValue g_wasNumber g_path m_pathMany g_heavyValue g_heavyTimes m_heavyMany g_fewest g_which g_met m_mostMet, kx_a g_row cyI 160 f, kx_a g_many cyI 324 u.2.2.1, kx_a g_loss cyI 324 u.2.2.2.1, kx_a g_less cyI 324 u.2.2.2.2.1, kx_a g_voteValue cyI 1944 u.2.2.2.2.2.1, kx_a g_voteNumber cyI 1944 u.2.2.2.2.2.2.1, kx_a g_allValue cyI 12 u.2.2.2.2.2.2.2.1, kx_a g_allNumber cyI 12 u.2.2.2.2.2.2.2.2.1, kx_a g_nodeL cyI 320 u.2.2.2.2.2.2.2.2.2.1, kx_a g_nodeR cyI 320 u.2.2.2.2.2.2.2.2.2.2]) A) := by
  refine kx_stQ (ws := wsX5_lays) (cc := cX5_lays) (maxL := 8) (ret := (some .int)) (by decide) rfl (Nat.le_of_ble_eq_true rfl) ?_
  intro p e s m below meth c A ls hx hb hr hlocks hts hown hml hA hS hP hK hD hl
  have hown : s.vm.findClass RX5 = some m.cls := hown
  have hl : lv_has ls 8 [(0, .ref h0), (1, .int p0), (2, .int p1), (3, .int p2)] := hl
  have hf_101 := hts (.fieldLink RX5 101 "MajorityIndexModel" "nodes" "I") (List.mem_of_getElem? (i := 1) rfl)
  have hi_5 : ∀ w ∈ u_ws RX5 TX5 30, w ∈ wsX5_lays := fun w h => List.mem_cons_of_mem _ (List.mem_append_right _ h)
  have hf_38 := hts (.fieldLink RX5 38 "MajorityIndexModel" "nodeL" "[I") (List.mem_of_getElem? (i := 2) rfl)
  have hf_41 := hts (.fieldLink RX5 41 "MajorityIndexModel" "nodeR" "[I") (List.mem_of_getElem? (i := 3) rfl)
  have hf_7 := hts (.fieldLink RX5 7 "MajorityIndexModel" "row" "[I") (List.mem_of_getElem? (i := 4) rfl)
  refine lv_aload_n hx hb dX5_lays_0 rfl (lv_at hl 0 rfl) ?_
  refine va_get (D := (dC, dI)) (ci := 5) (v := .int m_nodes) (C := RX5) (T := TX5) (N := 30) hx hb hts hi_5 hown hK hP 0 rfl rfl 14 (by decide) hf_101 (fun _ h9 => h9) rfl dX5_lays_1 ?_
  refine lv_istore (lv' := [(4, .int m_nodes), (0, .ref h0), (1, .int p0), (2, .int p1), (3, .int p2)]) hx hb dX5_lays_4 hl (by decide) rfl (fun ls hl => ?_)
  refine lv_aload_n hx hb dX5_lays_6 rfl (lv_at hl 1 rfl) ?_
  refine lv_dup hx hb dX5_lays_7 rfl ?_
  refine va_get (D := (dC, dI)) (ci := 5) (v := .int m_nodes) (C := RX5) (T := TX5) (N := 30) hx hb hts hi_5 hown hK hP 0 rfl rfl 14 (by decide) hf_101 (fun _ h9 => h9) rfl dX5_lays_8 ?_
  refine lv_iconst (v := 1) hx hb dX5_lays_11 (by decide) ?_
  refine lv_iadd hx hb dX5_lays_12 ?_
  refine lv_topi (fun y_1 ey_1 => ?_)
  have i_1 : y_1.toInt = m_nodes.toInt + 1 := ki_add ey_1 rfl rfl (om_13 b5) (om_324 b1 b6)
  refine va_put (D := (dC, dI)) (ci := 5) (v := .int y_1) (ty := .int) (C := RX5) (T := TX5) (N := 30) hx hb hts hi_5 tyX5 tyX5_ok nmX5 hown hK hP hD hS 0 rfl rfl 14 (by decide) hf_101 (fun _ h9 => h9) rfl (by decide +kernel) rfl rfl (Nat.le_of_ble_eq_true rfl) dX5_lays_13 (fun H locs hP hD hS => ?_)
  obtain ⟨hP, hD⟩ := kx_re (w2 := [kx_5 h0 g_row m_n m_slots m_thrown g_many g_loss g_less g_voteValue g_voteNumber g_allValue g_allNumber m_allMany g_nodeL g_nodeR y_1 g_part m_partMany g_wasMany g_wasLoss g_wasValue g_wasNumber g_path m_pathMany g_heavyValue g_heavyTimes m_heavyMany g_fewest g_which g_met m_mostMet, kx_a g_row cyI 160 f, kx_a g_many cyI 324 fm, kx_a g_loss cyI 324 fl, kx_a g_less cyI 324 fe, kx_a g_voteValue cyI 1944 vv, kx_a g_voteNumber cyI 1944 vn, kx_a g_allValue cyI 12 av, kx_a g_allNumber cyI 12 an, kx_a g_nodeL cyI 320 nl, kx_a g_nodeR cyI 320 nr]) hP hD rfl
  refine lv_aload_n hx hb dX5_lays_16 rfl (lv_at hl 1 rfl) ?_
  refine va_get (D := (dC, dI)) (ci := 5) (v := .ref g_nodeL) (C := RX5) (T := TX5) (N := 30) hx hb hts hi_5 hown hK hP 0 rfl rfl 12 (by decide) hf_38 (fun _ h9 => h9) rfl dX5_lays_17 ?_
  refine lv_iload hx hb dX5_lays_20 (lv_at hl 0 rfl) ?_
  refine lv_iload_n hx hb dX5_lays_22 rfl (lv_at hl 2 rfl) ?_
  refine va_iast hx hb hK hP hD hS 9 0 rfl rfl (ki_in (om_10 b5) (om_325 b1 b6)) dX5_lays_23 (fun H locs hP hD hS => ?_)
  obtain ⟨hP, hD⟩ := kx_re (w2 := [kx_5 h0 g_row m_n m_slots m_thrown g_many g_loss g_less g_voteValue g_voteNumber g_allValue g_allNumber m_allMany g_nodeL g_nodeR y_1 g_part m_partMany g_wasMany g_wasLoss g_wasValue g_wasNumber g_path m_pathMany g_heavyValue g_heavyTimes m_heavyMany g_fewest g_which g_met m_mostMet, kx_a g_row cyI 160 f, kx_a g_many cyI 324 fm, kx_a g_loss cyI 324 fl, kx_a g_less cyI 324 fe, kx_a g_voteValue cyI 1944 vv, kx_a g_voteNumber cyI 1944 vn, kx_a g_allValue cyI 12 av, kx_a g_allNumber cyI 12 an, kx_a g_nodeL cyI 320 (upd nl m_nodes.toNatClampNeg p0), kx_a g_nodeR cyI 320 nr]) hP hD rfl
  refine lv_aload_n hx hb dX5_lays_24 rfl (lv_at hl 1 rfl) ?_
  refine va_get (D := (dC, dI)) (ci := 5) (v := .ref g_nodeR) (C := RX5) (T := TX5) (N := 30) hx hb hts hi_5 hown hK hP 0 rfl rfl 13 (by decide) hf_41 (fun _ h9 => h9) rfl dX5_lays_25 ?_
  refine lv_iload hx hb dX5_lays_28 (lv_at hl 0 rfl) ?_
  refine lv_iload_n hx hb dX5_lays_30 rfl (lv_at hl 3 rfl) ?_
  refine va_iast hx hb hK hP hD hS 10 0 rfl rfl (ki_in (om_10 b5) (om_325 b1 b6)) dX5_lays_31 (fun H locs hP hD hS => ?_)
  obtain ⟨hP, hD⟩ := kx_re (w2 := [kx_5 h0 g_row m_n m_slots m_thrown g_many g_loss g_less g_voteValue g_voteNumber g_allValue g_allNumber m_allMany g_nodeL g_nodeR y_1 g_part m_partMany g_wasMany g_wasLoss g_wasValue g_wasNumber g_path m_pathMany g_heavyValue g_heavyTimes m_heavyMany g_fewest g_which g_met m_mostMet, kx_a g_row cyI 160 f, kx_a g_many cyI 324 fm, kx_a g_loss cyI 324 fl, kx_a g_less cyI 324 fe, kx_a g_voteValue cyI 1944 vv, kx_a g_voteNumber cyI 1944 vn, kx_a g_allValue cyI 12 av, kx_a g_allNumber cyI 12 an, kx_a g_nodeL cyI 320 (upd nl m_nodes.toNatClampNeg p0), kx_a g_nodeR cyI 320 (upd nr m_nodes.toNatClampNeg p1)]) hP hD rfl
  refine lv_iload_n hx hb dX5_lays_32 rfl (lv_at hl 3 rfl) ?_
  refine lv_iload_n hx hb dX5_lays_33 rfl (lv_at hl 2 rfl) ?_
  refine lv_isub hx hb dX5_lays_34 ?_
  refine lv_topi (fun y_2 ey_2 => ?_)
  have i_2 : y_2.toInt = p1.toInt - p0.toInt := ki_sub ey_2 rfl rfl (om_168 b1) (om_326 b7)
  refine lv_iconst (v := 1) hx hb dX5_lays_35 (by decide) ?_
  refine lv_icmp_ne (tgt := 54) hx hb dX5_lays_36 (by decide) (fun c_3 => ?_) (fun c_3 => ?_)
  · have i_3 : ¬ y_2.toInt = 1 := kc_ne c_3
    exfalso; omega
  · have i_3 : y_2.toInt = 1 := kc_eq c_3
    refine lv_aload_n hx hb dX5_lays_39 rfl (lv_at hl 1 rfl) ?_
    refine lv_iload hx hb dX5_lays_40 (lv_at hl 0 rfl) ?_
    refine lv_aload_n hx hb dX5_lays_42 rfl (lv_at hl 1 rfl) ?_
    refine va_get (D := (dC, dI)) (ci := 5) (v := .ref g_row) (C := RX5) (T := TX5) (N := 30) hx hb hts hi_5 hown hK hP 0 rfl rfl 0 (by decide) hf_7 (fun _ h9 => h9) rfl dX5_lays_43 ?_
    refine lv_iload_n hx hb dX5_lays_46 rfl (lv_at hl 2 rfl) ?_
    refine va_iald hx hb hK hP 1 0 rfl rfl (ki_in (om_10 b0) (om_85 b1 b2)) dX5_lays_47 ?_
    refine lv_topi (fun y_4 ey_4 => ?_)
    have j_4 : y_4.toInt = (f p0.toNatClampNeg).toInt := congrArg Int32.toInt ey_4
    obtain ⟨hPc, hDc, hFc, hCc⟩ := kx_preM (wc := [kx_5 h0 g_row m_n m_slots m_thrown g_many g_loss g_less g_voteValue g_voteNumber g_allValue g_allNumber m_allMany g_nodeL g_nodeR y_1 g_part m_partMany g_wasMany g_wasLoss g_wasValue g_wasNumber g_path m_pathMany g_heavyValue g_heavyTimes m_heavyMany g_fewest g_which g_met m_mostMet, kx_a g_many cyI 324 fm, kx_a g_loss cyI 324 fl, kx_a g_less cyI 324 fe, kx_a g_voteValue cyI 1944 vv, kx_a g_voteNumber cyI 1944 vn]) hP hD hS hA [true, false, true, true, true, true, true, false, false, false, false] rfl
    have hKc := hK
    refine va_callv (va_runV (As := [.int m_nodes, .int y_4]) (rest := []) ⟨hx, hb, hml, hown, hts⟩ (kx_un (c_X5_one_x l dC dI h0 g_row g_many g_loss g_less g_voteValue g_voteNumber g_allValue g_allNumber g_nodeL g_nodeR g_part g_wasMany g_wasLoss g_wasValue g_wasNumber g_path g_heavyValue g_heavyTimes g_fewest g_which g_met m_n m_slots m_thrown m_allMany y_1 m_partMany m_pathMany m_heavyMany m_mostMet cyI fm fl fe vv vn m_nodes y_4 H.size b5 (om_327 b1 b6))) (cwV 2 hts gX5_lays_X5_one rfl rfl rfl (by decide +kernel) ⟨Nat.le_of_ble_eq_true rfl, Nat.le_of_ble_eq_true rfl⟩) ⟨fun a U g mk q => by obtain ⟨q0, q1, qP, qK, qD⟩ := q; exact ⟨q0, q1, qP, va_K.moved (u := U) (U := U.calling g mk a) (Vm.Alike.refl U.vm) qK, qD⟩, kx_rc5 hKc hPc (q0 := 0) rfl, fun U hU hW => ⟨rfl, by rw [hU], by rw [hU]; exact hPc, va_K.moved hW.alike hKc, hDc.weaken (fun _ _ _ _ => trivial)⟩⟩ rfl rfl hl.1 rfl (lv_room (Nat.le_of_ble_eq_true rfl)) dX5_lays_48 ⟨Nat.le_of_ble_eq_true rfl, Nat.le_of_ble_eq_true rfl⟩) hS (fun q _ h => hFc q h) hFc (fun u t H1 locs ht hvm w_5 hB hz1 hk1 hS => ?_)
    obtain ⟨o_6, o_7, o_8, o_9, o_10⟩ := u
    dsimp only at w_5 hB
    obtain ⟨hP1, hK1, hD1⟩ := hB
    rw [ht] at hP1
    have hK1 := va_K.moved hvm.symm hK1
    obtain ⟨hP, hD⟩ := kx_joinM (w2 := [kx_5 h0 g_row m_n m_slots m_thrown g_many g_loss g_less g_voteValue g_voteNumber g_allValue g_allNumber m_allMany g_nodeL g_nodeR y_1 g_part m_partMany g_wasMany g_wasLoss g_wasValue g_wasNumber g_path m_pathMany g_heavyValue g_heavyTimes m_heavyMany g_fewest g_which g_met m_mostMet, kx_a g_row cyI 160 f, kx_a g_many cyI 324 o_6, kx_a g_loss cyI 324 o_7, kx_a g_less cyI 324 o_8, kx_a g_voteValue cyI 1944 o_9, kx_a g_voteNumber cyI 1944 o_10, kx_a g_allValue cyI 12 av, kx_a g_allNumber cyI 12 an, kx_a g_nodeL cyI 320 (upd nl m_nodes.toNatClampNeg p0), kx_a g_nodeR cyI 320 (upd nr m_nodes.toNatClampNeg p1)]) hP hD hP1 hD1 hk1 hFc [true, false, true, true, true, true, true, false, false, false, false] hCc rfl
    clear hP1 hD1 hK1 hk1 hz1 hFc hDc hPc hKc hCc
    generalize H1 = H at hP hS ⊢
    have w_5 : o_6 = upd fm m_nodes.toNatClampNeg 1 ∧ o_7 = upd fl m_nodes.toNatClampNeg 0 ∧ o_8 = upd fe m_nodes.toNatClampNeg 0 ∧ o_9 = upd vv (6 * m_nodes.toNatClampNeg) y_4 ∧ o_10 = upd vn (6 * m_nodes.toNatClampNeg) 1 := w_5
    refine lv_iload hx hb dX5_lays_51 (lv_at hl 0 rfl) ?_
    have hP9 := hP
    have hD9 := hD
    have hK9 := hK
    have n_p0 := ki_nat p0 rfl (om_10 b0)
    have n_p1 := ki_nat p1 rfl (om_21 b0 b1)
    have n_p2 := ki_nat p2 rfl (om_51 b3)
    have n_nd := ki_nat m_nodes rfl (om_10 b5)
    have e_vv := w_5.2.2.2.1
    rw [ey_4] at e_vv
    have hN := mj_lay_leaf (K := p2.toNatClampNeg) (f := f) (nl := nl) (nr := nr) (l := p0.toNatClampNeg) (r := p1.toNatClampNeg) (l32 := p0) (r32 := p1) 0 (mj_ln1 n_p2 b3) (mj_lf9 n_p0 n_p1 i_2 i_3) n_p0.symm n_p1.symm w_5.1 w_5.2.1 w_5.2.2.1 e_vv w_5.2.2.2.2
    exact W.iret (v := m_nodes) hx hb hr (hlocks := hlocks) (fun t ht hW => ⟨⟨m_nodes, (y_1, m_allMany, o_6, o_7, o_8, o_9, o_10, av, an, (upd nl m_nodes.toNatClampNeg p0), (upd nr m_nodes.toNatClampNeg p1)), rfl, ⟨rfl, (om_328 b1 b7 i_1), (by (try dsimp only); rw [w_5.1]; exact six4_upd s4 (by decide) (by decide)), hN.1, hN.2⟩, by rw [ht]; exact hP9, va_K.moved hW.alike hK9, hD9⟩, hS.F ht⟩) hS.2.2 dX5_lays_53

set_option maxHeartbeats 4000000 in
set_option maxRecDepth 100000 in
theorem c_X5_lays_1 (l : Launch) (dC : Nat → ClassId) (dI : Nat → Nat → Nat) (h0 : Nat) (g_row : Nat) (g_many : Nat) (g_loss : Nat) (g_less : Nat) (g_voteValue : Nat) (g_voteNumber : Nat) (g_allValue : Nat) (g_allNumber : Nat) (g_nodeL : Nat) (g_nodeR : Nat) (g_part : Nat) (g_wasMany : Nat) (g_wasLoss : Nat) (g_wasValue : Nat) (g_wasNumber : Nat) (g_path : Nat) (g_heavyValue : Nat) (g_heavyTimes : Nat) (g_fewest : Nat) (g_which : Nat) (g_met : Nat) (m_n : Int32) (m_slots : Int32) (m_thrown : Int32) (m_allMany : Int32) (m_nodes : Int32) (m_partMany : Int32) (m_pathMany : Int32) (m_heavyMany : Int32) (m_mostMet : Int32) (cyI : ClassId) (fm : Nat → Int32) (fl : Nat → Int32) (fe : Nat → Int32) (vv : Nat → Int32) (vn : Nat → Int32) (f : Nat → Int32) (av : Nat → Int32) (an : Nat → Int32) (nl : Nat → Int32) (nr : Nat → Int32) (p0 : Int32) (p1 : Int32) (p2 : Int32) (sz : Nat) (b0 : 0 ≤ p0.toInt) (b1 : p0.toInt < p1.toInt) (b2 : p1.toInt ≤ 160) (b3 : 1 ≤ p2.toInt) (b4 : p2.toInt ≤ 6) (b5 : 0 ≤ m_nodes.toInt) (b6 : m_nodes.toInt + 2 * (p1.toInt - p0.toInt) - 1 ≤ 319) (s4 : six4 fm) (b7 : p1.toInt - p0.toInt ≤ 2) : kx_MQ l (dC, dI) yX5_lays wsX5_lays ({ frames := 3, cells := 0, slots := 0, locals := 135 }) [.ref h0, .int p0, .int p1, .int p2] [kx_5 h0 g_row m_n m_slots m_thrown g_many g_loss g_less g_voteValue g_voteNumber g_allValue g_allNumber m_allMany g_nodeL g_nodeR m_nodes g_part m_partMany g_wasMany g_wasLoss g_wasValue g_wasNumber g_path m_pathMany g_heavyValue g_heavyTimes m_heavyMany g_fewest g_which g_met m_mostMet, kx_a g_row cyI 160 f, kx_a g_many cyI 324 fm, kx_a g_loss cyI 324 fl, kx_a g_less cyI 324 fe, kx_a g_voteValue cyI 1944 vv, kx_a g_voteNumber cyI 1944 vn, kx_a g_allValue cyI 12 av, kx_a g_allNumber cyI 12 an, kx_a g_nodeL cyI 320 nl, kx_a g_nodeR cyI 320 nr] [(cyI, .int)] sz (fun A => va_Qi (fun (r : Int32) (u : Int32 × Int32 × (Nat → Int32) × (Nat → Int32) × (Nat → Int32) × (Nat → Int32) × (Nat → Int32) × (Nat → Int32) × (Nat → Int32) × (Nat → Int32) × (Nat → Int32)) => r = m_nodes ∧ u.1.toInt = m_nodes.toInt + 2 * (p1.toInt - p0.toInt) - 1 ∧ six4 u.2.2.1 ∧ mj_S p2.toNatClampNeg f u.2.2.2.2.2.2.2.2.2.1 u.2.2.2.2.2.2.2.2.2.2 u.2.2.1 u.2.2.2.1 u.2.2.2.2.1 u.2.2.2.2.2.1 u.2.2.2.2.2.2.1 1 m_nodes.toNatClampNeg p0.toNatClampNeg p1.toNatClampNeg ∧ mj_ag 0 m_nodes.toNatClampNeg nl nr fm fl fe vv vn u.2.2.2.2.2.2.2.2.2.1 u.2.2.2.2.2.2.2.2.2.2 u.2.2.1 u.2.2.2.1 u.2.2.2.2.1 u.2.2.2.2.2.1 u.2.2.2.2.2.2.1) (fun (u : Int32 × Int32 × (Nat → Int32) × (Nat → Int32) × (Nat → Int32) × (Nat → Int32) × (Nat → Int32) × (Nat → Int32) × (Nat → Int32) × (Nat → Int32) × (Nat → Int32)) (t : State) => va_P (dC, dI) vwCl [kx_5 h0 g_row m_n m_slots m_thrown g_many g_loss g_less g_voteValue g_voteNumber g_allValue g_allNumber u.2.1 g_nodeL g_nodeR u.1 g_part m_partMany g_wasMany g_wasLoss g_wasValue g_wasNumber g_path m_pathMany g_heavyValue g_heavyTimes m_heavyMany g_fewest g_which g_met m_mostMet, kx_a g_row cyI 160 f, kx_a g_many cyI 324 u.2.2.1, kx_a g_loss cyI 324 u.2.2.2.1, kx_a g_less cyI 324 u.2.2.2.2.1, kx_a g_voteValue cyI 1944 u.2.2.2.2.2.1, kx_a g_voteNumber cyI 1944 u.2.2.2.2.2.2.1, kx_a g_allValue cyI 12 u.2.2.2.2.2.2.2.1, kx_a g_allNumber cyI 12 u.2.2.2.2.2.2.2.2.1, kx_a g_nodeL cyI 320 u.2.2.2.2.2.2.2.2.2.1, kx_a g_nodeR cyI 320 u.2.2.2.2.2.2.2.2.2.2] t.heap ∧ va_K (dC, dI) vwCl [(cyI, .int)] t ∧ va_D A [kx_5 h0 g_row m_n m_slots m_thrown g_many g_loss g_less g_voteValue g_voteNumber g_allValue g_allNumber u.2.1 g_nodeL g_nodeR u.1 g_part m_partMany g_wasMany g_wasLoss g_wasValue g_wasNumber g_path m_pathMany g_heavyValue g_heavyTimes m_heavyMany g_fewest g_which g_met m_mostMet, kx_a g_row cyI 160 f, kx_a g_many cyI 324 u.2.2.1, kx_a g_loss cyI 324 u.2.2.2.1, kx_a g_less cyI 324 u.2.2.2.2.1, kx_a g_voteValue cyI 1944 u.2.2.2.2.2.1, kx_a g_voteNumber cyI 1944 u.2.2.2.2.2.2.1, kx_a g_allValue cyI 12 u.2.2.2.2.2.2.2.1, kx_a g_allNumber cyI 12 u.2.2.2.2.2.2.2.2.1, kx_a g_nodeL cyI 320 u.2.2.2.2.2.2.2.2.2.1, kx_a g_nodeR cyI 320 u.2.2.2.2.2.2.2.2.2.2]) A) := by
  refine kx_stQ (ws := wsX5_lays) (cc := cX5_lays) (maxL := 8) (ret := (some .int)) (by decide) rfl (Nat.le_of_ble_eq_true rfl) ?_
  intro p e s m below meth c A ls hx hb hr hlocks hts hown hml hA hS hP hK hD hl
  have hown : s.vm.findClass RX5 = some m.cls := hown
  have hl : lv_has ls 8 [(0, .ref h0), (1, .int p0), (2, .int p1), (3, .int p2)] := hl
  have hf_101 := hts (.fieldLink RX5 101 "MajorityIndexModel" "nodes" "I") (List.mem_of_getElem? (i := 1) rfl)
  have hi_5 : ∀ w ∈ u_ws RX5 TX5 30, w ∈ wsX5_lays := fun w h => List.mem_cons_of_mem _ (List.mem_append_right _ h)
  have hf_38 := hts (.fieldLink RX5 38 "MajorityIndexModel" "nodeL" "[I") (List.mem_of_getElem? (i := 2) rfl)
  have hf_41 := hts (.fieldLink RX5 41 "MajorityIndexModel" "nodeR" "[I") (List.mem_of_getElem? (i := 3) rfl)
  have hf_7 := hts (.fieldLink RX5 7 "MajorityIndexModel" "row" "[I") (List.mem_of_getElem? (i := 4) rfl)
  refine lv_aload_n hx hb dX5_lays_0 rfl (lv_at hl 0 rfl) ?_
  refine va_get (D := (dC, dI)) (ci := 5) (v := .int m_nodes) (C := RX5) (T := TX5) (N := 30) hx hb hts hi_5 hown hK hP 0 rfl rfl 14 (by decide) hf_101 (fun _ h9 => h9) rfl dX5_lays_1 ?_
  refine lv_istore (lv' := [(4, .int m_nodes), (0, .ref h0), (1, .int p0), (2, .int p1), (3, .int p2)]) hx hb dX5_lays_4 hl (by decide) rfl (fun ls hl => ?_)
  refine lv_aload_n hx hb dX5_lays_6 rfl (lv_at hl 1 rfl) ?_
  refine lv_dup hx hb dX5_lays_7 rfl ?_
  refine va_get (D := (dC, dI)) (ci := 5) (v := .int m_nodes) (C := RX5) (T := TX5) (N := 30) hx hb hts hi_5 hown hK hP 0 rfl rfl 14 (by decide) hf_101 (fun _ h9 => h9) rfl dX5_lays_8 ?_
  refine lv_iconst (v := 1) hx hb dX5_lays_11 (by decide) ?_
  refine lv_iadd hx hb dX5_lays_12 ?_
  refine lv_topi (fun y_1 ey_1 => ?_)
  have i_1 : y_1.toInt = m_nodes.toInt + 1 := ki_add ey_1 rfl rfl (om_13 b5) (om_324 b1 b6)
  refine va_put (D := (dC, dI)) (ci := 5) (v := .int y_1) (ty := .int) (C := RX5) (T := TX5) (N := 30) hx hb hts hi_5 tyX5 tyX5_ok nmX5 hown hK hP hD hS 0 rfl rfl 14 (by decide) hf_101 (fun _ h9 => h9) rfl (by decide +kernel) rfl rfl (Nat.le_of_ble_eq_true rfl) dX5_lays_13 (fun H locs hP hD hS => ?_)
  obtain ⟨hP, hD⟩ := kx_re (w2 := [kx_5 h0 g_row m_n m_slots m_thrown g_many g_loss g_less g_voteValue g_voteNumber g_allValue g_allNumber m_allMany g_nodeL g_nodeR y_1 g_part m_partMany g_wasMany g_wasLoss g_wasValue g_wasNumber g_path m_pathMany g_heavyValue g_heavyTimes m_heavyMany g_fewest g_which g_met m_mostMet, kx_a g_row cyI 160 f, kx_a g_many cyI 324 fm, kx_a g_loss cyI 324 fl, kx_a g_less cyI 324 fe, kx_a g_voteValue cyI 1944 vv, kx_a g_voteNumber cyI 1944 vn, kx_a g_allValue cyI 12 av, kx_a g_allNumber cyI 12 an, kx_a g_nodeL cyI 320 nl, kx_a g_nodeR cyI 320 nr]) hP hD rfl
  refine lv_aload_n hx hb dX5_lays_16 rfl (lv_at hl 1 rfl) ?_
  refine va_get (D := (dC, dI)) (ci := 5) (v := .ref g_nodeL) (C := RX5) (T := TX5) (N := 30) hx hb hts hi_5 hown hK hP 0 rfl rfl 12 (by decide) hf_38 (fun _ h9 => h9) rfl dX5_lays_17 ?_
  refine lv_iload hx hb dX5_lays_20 (lv_at hl 0 rfl) ?_
  refine lv_iload_n hx hb dX5_lays_22 rfl (lv_at hl 2 rfl) ?_
  refine va_iast hx hb hK hP hD hS 9 0 rfl rfl (ki_in (om_10 b5) (om_325 b1 b6)) dX5_lays_23 (fun H locs hP hD hS => ?_)
  obtain ⟨hP, hD⟩ := kx_re (w2 := [kx_5 h0 g_row m_n m_slots m_thrown g_many g_loss g_less g_voteValue g_voteNumber g_allValue g_allNumber m_allMany g_nodeL g_nodeR y_1 g_part m_partMany g_wasMany g_wasLoss g_wasValue g_wasNumber g_path m_pathMany g_heavyValue g_heavyTimes m_heavyMany g_fewest g_which g_met m_mostMet, kx_a g_row cyI 160 f, kx_a g_many cyI 324 fm, kx_a g_loss cyI 324 fl, kx_a g_less cyI 324 fe, kx_a g_voteValue cyI 1944 vv, kx_a g_voteNumber cyI 1944 vn, kx_a g_allValue cyI 12 av, kx_a g_allNumber cyI 12 an, kx_a g_nodeL cyI 320 (upd nl m_nodes.toNatClampNeg p0), kx_a g_nodeR cyI 320 nr]) hP hD rfl
  refine lv_aload_n hx hb dX5_lays_24 rfl (lv_at hl 1 rfl) ?_
  refine va_get (D := (dC, dI)) (ci := 5) (v := .ref g_nodeR) (C := RX5) (T := TX5) (N := 30) hx hb hts hi_5 hown hK hP 0 rfl rfl 13 (by decide) hf_41 (fun _ h9 => h9) rfl dX5_lays_25 ?_
  refine lv_iload hx hb dX5_lays_28 (lv_at hl 0 rfl) ?_
  refine lv_iload_n hx hb dX5_lays_30 rfl (lv_at hl 3 rfl) ?_
  refine va_iast hx hb hK hP hD hS 10 0 rfl rfl (ki_in (om_10 b5) (om_325 b1 b6)) dX5_lays_31 (fun H locs hP hD hS => ?_)
  obtain ⟨hP, hD⟩ := kx_re (w2 := [kx_5 h0 g_row m_n m_slots m_thrown g_many g_loss g_less g_voteValue g_voteNumber g_allValue g_allNumber m_allMany g_nodeL g_nodeR y_1 g_part m_partMany g_wasMany g_wasLoss g_wasValue g_wasNumber g_path m_pathMany g_heavyValue g_heavyTimes m_heavyMany g_fewest g_which g_met m_mostMet, kx_a g_row cyI 160 f, kx_a g_many cyI 324 fm, kx_a g_loss cyI 324 fl, kx_a g_less cyI 324 fe, kx_a g_voteValue cyI 1944 vv, kx_a g_voteNumber cyI 1944 vn, kx_a g_allValue cyI 12 av, kx_a g_allNumber cyI 12 an, kx_a g_nodeL cyI 320 (upd nl m_nodes.toNatClampNeg p0), kx_a g_nodeR cyI 320 (upd nr m_nodes.toNatClampNeg p1)]) hP hD rfl
  refine lv_iload_n hx hb dX5_lays_32 rfl (lv_at hl 3 rfl) ?_
  refine lv_iload_n hx hb dX5_lays_33 rfl (lv_at hl 2 rfl) ?_
  refine lv_isub hx hb dX5_lays_34 ?_
  refine lv_topi (fun y_2 ey_2 => ?_)
  have i_2 : y_2.toInt = p1.toInt - p0.toInt := ki_sub ey_2 rfl rfl (om_168 b1) (om_329 b7)
  refine lv_iconst (v := 1) hx hb dX5_lays_35 (by decide) ?_
  refine lv_icmp_ne (tgt := 54) hx hb dX5_lays_36 (by decide) (fun c_3 => ?_) (fun c_3 => ?_)
  · have i_3 : ¬ y_2.toInt = 1 := kc_ne c_3
    refine lv_iload_n hx hb dX5_lays_54 rfl (lv_at hl 2 rfl) ?_
    refine lv_iload_n hx hb dX5_lays_55 rfl (lv_at hl 3 rfl) ?_
    refine lv_iadd hx hb dX5_lays_56 ?_
    refine lv_topi (fun y_4 ey_4 => ?_)
    have i_4 : y_4.toInt = p0.toInt + p1.toInt := ki_add ey_4 rfl rfl (om_330 b0 b1) (om_331 b1 b2)
    refine lv_iconst (v := 2) hx hb dX5_lays_57 (by decide) ?_
    refine lv_idiv hx hb dX5_lays_58 (by decide) ?_
    refine lv_topi (fun y_5 ey_5 => ?_)
    have i_5 : y_5.toInt = y_4.toInt / 2 := ki_div2 ey_5 rfl (om_332 b0 b1 i_4)
    have d_6 := om_dv i_5
    refine lv_istore (lv' := [(5, .int y_5), (4, .int m_nodes), (0, .ref h0), (1, .int p0), (2, .int p1), (3, .int p2)]) hx hb dX5_lays_59 hl (by decide) rfl (fun ls hl => ?_)
    refine lv_aload_n hx hb dX5_lays_61 rfl (lv_at hl 2 rfl) ?_
    refine lv_iload_n hx hb dX5_lays_62 rfl (lv_at hl 3 rfl) ?_
    refine lv_iload hx hb dX5_lays_63 (lv_at hl 0 rfl) ?_
    refine lv_iload_n hx hb dX5_lays_65 rfl (lv_at hl 5 rfl) ?_
    have hPc := hP
    have hKc := hK
    have hDc := hD
    have hFc := kx_free hD hS hA
    refine va_calli (va_runV (As := [.int p0, .int y_5, .int p2]) (rest := []) ⟨hx, hb, hml, hown, hts⟩ (kx_un (c_X5_lays_0 l dC dI h0 g_row g_many g_loss g_less g_voteValue g_voteNumber g_allValue g_allNumber g_nodeL g_nodeR g_part g_wasMany g_wasLoss g_wasValue g_wasNumber g_path g_heavyValue g_heavyTimes g_fewest g_which g_met m_n m_slots m_thrown m_allMany y_1 m_partMany m_pathMany m_heavyMany m_mostMet cyI fm fl fe vv vn f av an (upd nl m_nodes.toNatClampNeg p0) (upd nr m_nodes.toNatClampNeg p1) p0 y_5 p2 H.size b0 (by omega) (om_333 b1 b2 i_4 d_6.1) b3 b4 (om_34 b5 i_1) (om_334 b1 b6 i_1 i_4 d_6.1) s4 (om_335 b7 i_4 d_6.1))) (cwV 3 hts gX5_lays_X5_lays rfl rfl rfl (by decide +kernel) ⟨Nat.le_of_ble_eq_true rfl, Nat.le_of_ble_eq_true rfl⟩) ⟨fun a U g mk q => by obtain ⟨q0, q1, qP, qK, qD⟩ := q; exact ⟨q0, q1, qP, va_K.moved (u := U) (U := U.calling g mk a) (Vm.Alike.refl U.vm) qK, qD⟩, kx_rc5 hKc hPc (q0 := 0) rfl, fun U hU hW => ⟨rfl, by rw [hU], by rw [hU]; exact hPc, va_K.moved hW.alike hKc, hDc.weaken (fun _ _ _ _ => trivial)⟩⟩ rfl rfl hl.1 rfl (lv_room (Nat.le_of_ble_eq_true rfl)) dX5_lays_66 ⟨Nat.le_of_ble_eq_true rfl, Nat.le_of_ble_eq_true rfl⟩) hS (fun q _ h => hFc q h) hFc (fun r_7 u t H1 locs ht hvm w_7 hB hz1 hk1 hS => ?_)
    obtain ⟨o_8, o_9, o_10, o_11, o_12, o_13, o_14, o_15, o_16, o_17, o_18⟩ := u
    dsimp only at w_7 hB
    obtain ⟨hP1, hK1, hD1⟩ := hB
    rw [ht] at hP1
    have hK1 := va_K.moved hvm.symm hK1
    have hD := hD1.weaken (fun _ q _ h => hFc q.1 h)
    have hP := hP1
    clear hP1 hD1 hK1 hk1 hz1 hFc hDc hPc hKc
    generalize H1 = H at hP hS ⊢
    have w_7 : r_7 = y_1 ∧ o_8.toInt = y_1.toInt + 2 * (y_5.toInt - p0.toInt) - 1 ∧ six4 o_10 ∧ mj_S p2.toNatClampNeg f o_17 o_18 o_10 o_11 o_12 o_13 o_14 0 y_1.toNatClampNeg p0.toNatClampNeg y_5.toNatClampNeg ∧ mj_ag 0 y_1.toNatClampNeg (upd nl m_nodes.toNatClampNeg p0) (upd nr m_nodes.toNatClampNeg p1) fm fl fe vv vn o_17 o_18 o_10 o_11 o_12 o_13 o_14 := w_7
    refine lv_istore (lv' := [(6, .int r_7), (5, .int y_5), (4, .int m_nodes), (0, .ref h0), (1, .int p0), (2, .int p1), (3, .int p2)]) hx hb dX5_lays_69 hl (by decide) rfl (fun ls hl => ?_)
    refine lv_aload_n hx hb dX5_lays_71 rfl (lv_at hl 3 rfl) ?_
    refine lv_iload hx hb dX5_lays_72 (lv_at hl 1 rfl) ?_
    refine lv_iload_n hx hb dX5_lays_74 rfl (lv_at hl 5 rfl) ?_
    refine lv_iload_n hx hb dX5_lays_75 rfl (lv_at hl 6 rfl) ?_
    have hPc := hP
    have hKc := hK
    have hDc := hD
    have hFc := kx_free hD hS hA
    refine va_calli (va_runV (As := [.int y_5, .int p1, .int p2]) (rest := []) ⟨hx, hb, hml, hown, hts⟩ (kx_un (c_X5_lays_0 l dC dI h0 g_row g_many g_loss g_less g_voteValue g_voteNumber g_allValue g_allNumber g_nodeL g_nodeR g_part g_wasMany g_wasLoss g_wasValue g_wasNumber g_path g_heavyValue g_heavyTimes g_fewest g_which g_met m_n m_slots m_thrown o_9 o_8 m_partMany m_pathMany m_heavyMany m_mostMet cyI o_10 o_11 o_12 o_13 o_14 f o_15 o_16 o_17 o_18 y_5 p1 p2 H.size (om_336 b0 b1 i_4 d_6.2) (by omega) b2 b3 b4 (om_337 b1 b5 i_1 i_4 d_6.2 w_7.2.1) (om_338 b6 i_1 w_7.2.1) w_7.2.2.1 (by omega))) (cwV 3 hts gX5_lays_X5_lays rfl rfl rfl (by decide +kernel) ⟨Nat.le_of_ble_eq_true rfl, Nat.le_of_ble_eq_true rfl⟩) ⟨fun a U g mk q => by obtain ⟨q0, q1, qP, qK, qD⟩ := q; exact ⟨q0, q1, qP, va_K.moved (u := U) (U := U.calling g mk a) (Vm.Alike.refl U.vm) qK, qD⟩, kx_rc5 hKc hPc (q0 := 0) rfl, fun U hU hW => ⟨rfl, by rw [hU], by rw [hU]; exact hPc, va_K.moved hW.alike hKc, hDc.weaken (fun _ _ _ _ => trivial)⟩⟩ rfl rfl hl.1 rfl (lv_room (Nat.le_of_ble_eq_true rfl)) dX5_lays_76 ⟨Nat.le_of_ble_eq_true rfl, Nat.le_of_ble_eq_true rfl⟩) hS (fun q _ h => hFc q h) hFc (fun r_19 u t H1 locs ht hvm w_19 hB hz1 hk1 hS => ?_)
    obtain ⟨o_20, o_21, o_22, o_23, o_24, o_25, o_26, o_27, o_28, o_29, o_30⟩ := u
    dsimp only at w_19 hB
    obtain ⟨hP1, hK1, hD1⟩ := hB
    rw [ht] at hP1
    have hK1 := va_K.moved hvm.symm hK1
    have hD := hD1.weaken (fun _ q _ h => hFc q.1 h)
    have hP := hP1
    clear hP1 hD1 hK1 hk1 hz1 hFc hDc hPc hKc
    generalize H1 = H at hP hS ⊢
    have w_19 : r_19 = o_8 ∧ o_20.toInt = o_8.toInt + 2 * (p1.toInt - y_5.toInt) - 1 ∧ six4 o_22 ∧ mj_S p2.toNatClampNeg f o_29 o_30 o_22 o_23 o_24 o_25 o_26 0 o_8.toNatClampNeg y_5.toNatClampNeg p1.toNatClampNeg ∧ mj_ag 0 o_8.toNatClampNeg o_17 o_18 o_10 o_11 o_12 o_13 o_14 o_29 o_30 o_22 o_23 o_24 o_25 o_26 := w_19
    refine lv_istore (lv' := [(7, .int r_19), (6, .int r_7), (5, .int y_5), (4, .int m_nodes), (0, .ref h0), (1, .int p0), (2, .int p1), (3, .int p2)]) hx hb dX5_lays_79 hl (by decide) rfl (fun ls hl => ?_)
    have n_p0 := ki_nat p0 rfl (om_10 b0)
    have n_p1 := ki_nat p1 rfl (om_21 b0 b1)
    have n_p2 := ki_nat p2 rfl (om_51 b3)
    have n_nd := ki_nat m_nodes rfl (om_10 b5)
    have n_y := ki_nat y_1 rfl (om_34 b5 i_1)
    have n_md := ki_nat y_5 rfl (om_336 b0 b1 i_4 d_6.2)
    have n_oL := ki_nat o_8 rfl (om_337 b1 b5 i_1 i_4 d_6.2 w_7.2.1)
    have i_rL : r_7.toInt = y_1.toInt := congrArg Int32.toInt w_7.1
    have i_rR : r_19.toInt = o_8.toInt := congrArg Int32.toInt w_19.1
    obtain ⟨mua, La, ca, tA⟩ := w_7.2.2.2.1
    obtain ⟨mub, Lb, cb, tB⟩ := w_19.2.2.2.1
    obtain ⟨g_1, g_2, g_3, g_4, g_5, g_6⟩ := mj_ly9 n_p0 n_p1 n_nd n_y n_md n_oL i_1 i_4 i_5 w_7.2.1 b1 i_2 i_3
    have tA2 := mj_T_ag _ _ o_8.toNatClampNeg _ _ _ _ _ tA g_1 (mj_ag_sub w_19.2.2.2.2 (Nat.zero_le _) (Nat.le_refl _))
    have nA := mj_T_nd tA2
    have nB := mj_T_nd tB
    refine lv_aload_n hx hb dX5_lays_81 rfl (lv_at hl 4 rfl) ?_
    refine lv_iload hx hb dX5_lays_82 (lv_at hl 1 rfl) ?_
    refine lv_iload hx hb dX5_lays_84 (lv_at hl 0 rfl) ?_
    refine lv_iload hx hb dX5_lays_86 (lv_at hl 3 rfl) ?_
    refine lv_iload_n hx hb dX5_lays_88 rfl (lv_at hl 7 rfl) ?_
    obtain ⟨hPc, hDc, hFc, hCc⟩ := kx_preM (wc := [kx_5 h0 g_row m_n m_slots m_thrown g_many g_loss g_less g_voteValue g_voteNumber g_allValue g_allNumber o_21 g_nodeL g_nodeR o_20 g_part m_partMany g_wasMany g_wasLoss g_wasValue g_wasNumber g_path m_pathMany g_heavyValue g_heavyTimes m_heavyMany g_fewest g_which g_met m_mostMet, kx_a g_many cyI 324 o_22, kx_a g_loss cyI 324 o_23, kx_a g_less cyI 324 o_24, kx_a g_voteValue cyI 1944 o_25, kx_a g_voteNumber cyI 1944 o_26, kx_a g_allValue cyI 12 o_27, kx_a g_allNumber cyI 12 o_28]) hP hD hS hA [true, false, true, true, true, true, true, true, true, false, false] rfl
    have hKc := hK
    refine va_callv (va_runV (As := [.int r_7, .int r_19, .int m_nodes, .int p2]) (rest := []) ⟨hx, hb, hml, hown, hts⟩ (kx_un (c_X5_together l dC dI h0 g_row g_many g_loss g_less g_voteValue g_voteNumber g_allValue g_allNumber g_nodeL g_nodeR g_part g_wasMany g_wasLoss g_wasValue g_wasNumber g_path g_heavyValue g_heavyTimes g_fewest g_which g_met m_n m_slots m_thrown o_21 o_20 m_partMany m_pathMany m_heavyMany m_mostMet cyI o_22 o_23 o_24 o_25 o_26 o_27 o_28 mua mub r_7 r_19 m_nodes p2 H.size (om_339 b5 i_1 i_rL) (om_340 b1 b6 i_1 i_rL) (om_341 b1 b5 i_1 i_4 d_6.2 w_7.2.1 i_rR) (om_342 b1 b6 i_1 i_4 d_6.1 w_7.2.1 i_rR) (om_10 b5) (om_343 b1 b6) (om_51 b3) (om_344 b4) (by rw [w_7.1]; exact nA.2.2.1) (by rw [w_7.1]; exact nA.2.2.2.1) (by rw [w_19.1]; exact nB.2.2.1) (by rw [w_19.1]; exact nB.2.2.2.1) (by rw [w_7.1]; exact nA.2.2.2.2.2.2.2.1) (by rw [w_19.1]; exact nB.2.2.2.2.2.2.2.1) (fun v => by have h1 := mj_T_le _ _ _ _ _ _ _ tA2 v; have h2 := mj_T_le _ _ _ _ _ _ _ tB v; omega))) (cwV 4 hts gX5_lays_X5_together rfl rfl rfl (by decide +kernel) ⟨Nat.le_of_ble_eq_true rfl, Nat.le_of_ble_eq_true rfl⟩) ⟨fun a U g mk q => by obtain ⟨q0, q1, qP, qK, qD⟩ := q; exact ⟨q0, q1, qP, va_K.moved (u := U) (U := U.calling g mk a) (Vm.Alike.refl U.vm) qK, qD⟩, kx_rc5 hKc hPc (q0 := 0) rfl, fun U hU hW => ⟨rfl, by rw [hU], by rw [hU]; exact hPc, va_K.moved hW.alike hKc, hDc.weaken (fun _ _ _ _ => trivial)⟩⟩ rfl rfl hl.1 rfl (lv_room (Nat.le_of_ble_eq_true rfl)) dX5_lays_89 ⟨Nat.le_of_ble_eq_true rfl, Nat.le_of_ble_eq_true rfl⟩) hS (fun q _ h => hFc q h) hFc (fun u t H1 locs ht hvm w_31 hB hz1 hk1 hS => ?_)
    obtain ⟨o_32, o_33, o_34, o_35, o_36, o_37, o_38, o_39, o_40, o_41, o_42⟩ := u
    dsimp only at w_31 hB
    obtain ⟨hP1, hK1, hD1⟩ := hB
    rw [ht] at hP1
    have hK1 := va_K.moved hvm.symm hK1
    obtain ⟨hP, hD⟩ := kx_joinM (w2 := [kx_5 h0 g_row m_n m_slots m_thrown g_many g_loss g_less g_voteValue g_voteNumber g_allValue g_allNumber o_32 g_nodeL g_nodeR o_20 g_part m_partMany g_wasMany g_wasLoss g_wasValue g_wasNumber g_path m_pathMany g_heavyValue g_heavyTimes m_heavyMany g_fewest g_which g_met m_mostMet, kx_a g_row cyI 160 f, kx_a g_many cyI 324 o_36, kx_a g_loss cyI 324 o_37, kx_a g_less cyI 324 o_38, kx_a g_voteValue cyI 1944 o_39, kx_a g_voteNumber cyI 1944 o_40, kx_a g_allValue cyI 12 o_41, kx_a g_allNumber cyI 12 o_42, kx_a g_nodeL cyI 320 o_29, kx_a g_nodeR cyI 320 o_30]) hP hD hP1 hD1 hk1 hFc [true, false, true, true, true, true, true, true, true, false, false] hCc rfl
    clear hP1 hD1 hK1 hk1 hz1 hFc hDc hPc hKc hCc
    generalize H1 = H at hP hS ⊢
    have w_31 : mj_tog p2.toNatClampNeg mua mub o_35 o_33 ∧ o_37 = upd o_23 m_nodes.toNatClampNeg (o_23 r_7.toNatClampNeg + o_23 r_19.toNatClampNeg + o_33) ∧ o_38 = upd o_24 m_nodes.toNatClampNeg o_33 ∧ o_36 = upd o_22 m_nodes.toNatClampNeg o_34 ∧ 0 ≤ o_34.toInt ∧ o_34.toInt ≤ p2.toInt ∧ mj_vs o_39 o_40 (6 * m_nodes.toNatClampNeg) o_34.toNatClampNeg o_35 ∧ mj_srt o_39 o_40 (6 * m_nodes.toNatClampNeg) o_34.toNatClampNeg ∧ ∀ q : Nat, (q < 6 * m_nodes.toNatClampNeg ∨ 6 * m_nodes.toNatClampNeg + 6 ≤ q) → o_39 q = o_25 q ∧ o_40 q = o_26 q := w_31
    refine lv_iload hx hb dX5_lays_92 (lv_at hl 3 rfl) ?_
    have hP9 := hP
    have hD9 := hD
    have hK9 := hK
    have e_fl := w_31.2.1
    rw [w_7.1, w_19.1] at e_fl
    have hN := mj_lay_node (l := p0.toNatClampNeg) (r := p1.toNatClampNeg) (md := y_5.toNatClampNeg) (a := m_nodes.toNatClampNeg) g_2 g_3 n_p0.symm n_p1.symm g_4 g_5 (mj_ag_sub w_7.2.2.2.2 (Nat.le_refl _) g_6) w_19.2.2.2.2 tA2 tB w_31.1 w_31.2.2.2.1 w_31.2.2.2.2.1 (Int.le_trans w_31.2.2.2.2.2.1 (Int.le_of_eq n_p2.symm)) (mj_ln6 n_p2 b4) e_fl w_31.2.2.1 w_31.2.2.2.2.2.2.1 w_31.2.2.2.2.2.2.2.1 w_31.2.2.2.2.2.2.2.2
    exact W.iret (v := m_nodes) hx hb hr (hlocks := hlocks) (fun t ht hW => ⟨⟨m_nodes, (o_20, o_32, o_36, o_37, o_38, o_39, o_40, o_41, o_42, o_29, o_30), rfl, ⟨rfl, (om_345 i_1 w_7.2.1 w_19.2.1), (by (try dsimp only); rw [w_31.2.2.2.1]; exact six4_upd w_19.2.2.1 w_31.2.2.2.2.1 (om_346 b4 w_31.2.2.2.2.2.1)), hN.1, hN.2⟩, by rw [ht]; exact hP9, va_K.moved hW.alike hK9, hD9⟩, hS.F ht⟩) hS.2.2 dX5_lays_94
  · have i_3 : y_2.toInt = 1 := kc_eq c_3
    refine lv_aload_n hx hb dX5_lays_39 rfl (lv_at hl 1 rfl) ?_
    refine lv_iload hx hb dX5_lays_40 (lv_at hl 0 rfl) ?_
    refine lv_aload_n hx hb dX5_lays_42 rfl (lv_at hl 1 rfl) ?_
    refine va_get (D := (dC, dI)) (ci := 5) (v := .ref g_row) (C := RX5) (T := TX5) (N := 30) hx hb hts hi_5 hown hK hP 0 rfl rfl 0 (by decide) hf_7 (fun _ h9 => h9) rfl dX5_lays_43 ?_
    refine lv_iload_n hx hb dX5_lays_46 rfl (lv_at hl 2 rfl) ?_
    refine va_iald hx hb hK hP 1 0 rfl rfl (ki_in (om_10 b0) (om_85 b1 b2)) dX5_lays_47 ?_
    refine lv_topi (fun y_43 ey_43 => ?_)
    have j_43 : y_43.toInt = (f p0.toNatClampNeg).toInt := congrArg Int32.toInt ey_43
    obtain ⟨hPc, hDc, hFc, hCc⟩ := kx_preM (wc := [kx_5 h0 g_row m_n m_slots m_thrown g_many g_loss g_less g_voteValue g_voteNumber g_allValue g_allNumber m_allMany g_nodeL g_nodeR y_1 g_part m_partMany g_wasMany g_wasLoss g_wasValue g_wasNumber g_path m_pathMany g_heavyValue g_heavyTimes m_heavyMany g_fewest g_which g_met m_mostMet, kx_a g_many cyI 324 fm, kx_a g_loss cyI 324 fl, kx_a g_less cyI 324 fe, kx_a g_voteValue cyI 1944 vv, kx_a g_voteNumber cyI 1944 vn]) hP hD hS hA [true, false, true, true, true, true, true, false, false, false, false] rfl
    have hKc := hK
    refine va_callv (va_runV (As := [.int m_nodes, .int y_43]) (rest := []) ⟨hx, hb, hml, hown, hts⟩ (kx_un (c_X5_one_x l dC dI h0 g_row g_many g_loss g_less g_voteValue g_voteNumber g_allValue g_allNumber g_nodeL g_nodeR g_part g_wasMany g_wasLoss g_wasValue g_wasNumber g_path g_heavyValue g_heavyTimes g_fewest g_which g_met m_n m_slots m_thrown m_allMany y_1 m_partMany m_pathMany m_heavyMany m_mostMet cyI fm fl fe vv vn m_nodes y_43 H.size b5 (om_327 b1 b6))) (cwV 2 hts gX5_lays_X5_one rfl rfl rfl (by decide +kernel) ⟨Nat.le_of_ble_eq_true rfl, Nat.le_of_ble_eq_true rfl⟩) ⟨fun a U g mk q => by obtain ⟨q0, q1, qP, qK, qD⟩ := q; exact ⟨q0, q1, qP, va_K.moved (u := U) (U := U.calling g mk a) (Vm.Alike.refl U.vm) qK, qD⟩, kx_rc5 hKc hPc (q0 := 0) rfl, fun U hU hW => ⟨rfl, by rw [hU], by rw [hU]; exact hPc, va_K.moved hW.alike hKc, hDc.weaken (fun _ _ _ _ => trivial)⟩⟩ rfl rfl hl.1 rfl (lv_room (Nat.le_of_ble_eq_true rfl)) dX5_lays_48 ⟨Nat.le_of_ble_eq_true rfl, Nat.le_of_ble_eq_true rfl⟩) hS (fun q _ h => hFc q h) hFc (fun u t H1 locs ht hvm w_44 hB hz1 hk1 hS => ?_)
    obtain ⟨o_45, o_46, o_47, o_48, o_49⟩ := u
    dsimp only at w_44 hB
    obtain ⟨hP1, hK1, hD1⟩ := hB
    rw [ht] at hP1
    have hK1 := va_K.moved hvm.symm hK1
    obtain ⟨hP, hD⟩ := kx_joinM (w2 := [kx_5 h0 g_row m_n m_slots m_thrown g_many g_loss g_less g_voteValue g_voteNumber g_allValue g_allNumber m_allMany g_nodeL g_nodeR y_1 g_part m_partMany g_wasMany g_wasLoss g_wasValue g_wasNumber g_path m_pathMany g_heavyValue g_heavyTimes m_heavyMany g_fewest g_which g_met m_mostMet, kx_a g_row cyI 160 f, kx_a g_many cyI 324 o_45, kx_a g_loss cyI 324 o_46, kx_a g_less cyI 324 o_47, kx_a g_voteValue cyI 1944 o_48, kx_a g_voteNumber cyI 1944 o_49, kx_a g_allValue cyI 12 av, kx_a g_allNumber cyI 12 an, kx_a g_nodeL cyI 320 (upd nl m_nodes.toNatClampNeg p0), kx_a g_nodeR cyI 320 (upd nr m_nodes.toNatClampNeg p1)]) hP hD hP1 hD1 hk1 hFc [true, false, true, true, true, true, true, false, false, false, false] hCc rfl
    clear hP1 hD1 hK1 hk1 hz1 hFc hDc hPc hKc hCc
    generalize H1 = H at hP hS ⊢
    have w_44 : o_45 = upd fm m_nodes.toNatClampNeg 1 ∧ o_46 = upd fl m_nodes.toNatClampNeg 0 ∧ o_47 = upd fe m_nodes.toNatClampNeg 0 ∧ o_48 = upd vv (6 * m_nodes.toNatClampNeg) y_43 ∧ o_49 = upd vn (6 * m_nodes.toNatClampNeg) 1 := w_44
    refine lv_iload hx hb dX5_lays_51 (lv_at hl 0 rfl) ?_
    have hP9 := hP
    have hD9 := hD
    have hK9 := hK
    have n_p0 := ki_nat p0 rfl (om_10 b0)
    have n_p1 := ki_nat p1 rfl (om_21 b0 b1)
    have n_p2 := ki_nat p2 rfl (om_51 b3)
    have n_nd := ki_nat m_nodes rfl (om_10 b5)
    have e_vv := w_44.2.2.2.1
    rw [ey_43] at e_vv
    have hN := mj_lay_leaf (K := p2.toNatClampNeg) (f := f) (nl := nl) (nr := nr) (l := p0.toNatClampNeg) (r := p1.toNatClampNeg) (l32 := p0) (r32 := p1) 1 (mj_ln1 n_p2 b3) (mj_lf9 n_p0 n_p1 i_2 i_3) n_p0.symm n_p1.symm w_44.1 w_44.2.1 w_44.2.2.1 e_vv w_44.2.2.2.2
    exact W.iret (v := m_nodes) hx hb hr (hlocks := hlocks) (fun t ht hW => ⟨⟨m_nodes, (y_1, m_allMany, o_45, o_46, o_47, o_48, o_49, av, an, (upd nl m_nodes.toNatClampNeg p0), (upd nr m_nodes.toNatClampNeg p1)), rfl, ⟨rfl, (om_347 b1 i_1 i_2 i_3), (by (try dsimp only); rw [w_44.1]; exact six4_upd s4 (by decide) (by decide)), hN.1, hN.2⟩, by rw [ht]; exact hP9, va_K.moved hW.alike hK9, hD9⟩, hS.F ht⟩) hS.2.2 dX5_lays_53

set_option maxHeartbeats 4000000 in
set_option maxRecDepth 100000 in
theorem c_X5_lays_2 (l : Launch) (dC : Nat → ClassId) (dI : Nat → Nat → Nat) (h0 : Nat) (g_row : Nat) (g_many : Nat) (g_loss : Nat) (g_less : Nat) (g_voteValue : Nat) (g_voteNumber : Nat) (g_allValue : Nat) (g_allNumber : Nat) (g_nodeL : Nat) (g_nodeR : Nat) (g_part : Nat) (g_wasMany : Nat) (g_wasLoss : Nat) (g_wasValue : Nat) (g_wasNumber : Nat) (g_path : Nat) (g_heavyValue : Nat) (g_heavyTimes : Nat) (g_fewest : Nat) (g_which : Nat) (g_met : Nat) (m_n : Int32) (m_slots : Int32) (m_thrown : Int32) (m_allMany : Int32) (m_nodes : Int32) (m_partMany : Int32) (m_pathMany : Int32) (m_heavyMany : Int32) (m_mostMet : Int32) (cyI : ClassId) (fm : Nat → Int32) (fl : Nat → Int32) (fe : Nat → Int32) (vv : Nat → Int32) (vn : Nat → Int32) (f : Nat → Int32) (av : Nat → Int32) (an : Nat → Int32) (nl : Nat → Int32) (nr : Nat → Int32) (p0 : Int32) (p1 : Int32) (p2 : Int32) (sz : Nat) (b0 : 0 ≤ p0.toInt) (b1 : p0.toInt < p1.toInt) (b2 : p1.toInt ≤ 160) (b3 : 1 ≤ p2.toInt) (b4 : p2.toInt ≤ 6) (b5 : 0 ≤ m_nodes.toInt) (b6 : m_nodes.toInt + 2 * (p1.toInt - p0.toInt) - 1 ≤ 319) (s4 : six4 fm) (b7 : p1.toInt - p0.toInt ≤ 4) : kx_MQ l (dC, dI) yX5_lays wsX5_lays ({ frames := 4, cells := 0, slots := 0, locals := 180 }) [.ref h0, .int p0, .int p1, .int p2] [kx_5 h0 g_row m_n m_slots m_thrown g_many g_loss g_less g_voteValue g_voteNumber g_allValue g_allNumber m_allMany g_nodeL g_nodeR m_nodes g_part m_partMany g_wasMany g_wasLoss g_wasValue g_wasNumber g_path m_pathMany g_heavyValue g_heavyTimes m_heavyMany g_fewest g_which g_met m_mostMet, kx_a g_row cyI 160 f, kx_a g_many cyI 324 fm, kx_a g_loss cyI 324 fl, kx_a g_less cyI 324 fe, kx_a g_voteValue cyI 1944 vv, kx_a g_voteNumber cyI 1944 vn, kx_a g_allValue cyI 12 av, kx_a g_allNumber cyI 12 an, kx_a g_nodeL cyI 320 nl, kx_a g_nodeR cyI 320 nr] [(cyI, .int)] sz (fun A => va_Qi (fun (r : Int32) (u : Int32 × Int32 × (Nat → Int32) × (Nat → Int32) × (Nat → Int32) × (Nat → Int32) × (Nat → Int32) × (Nat → Int32) × (Nat → Int32) × (Nat → Int32) × (Nat → Int32)) => r = m_nodes ∧ u.1.toInt = m_nodes.toInt + 2 * (p1.toInt - p0.toInt) - 1 ∧ six4 u.2.2.1 ∧ mj_S p2.toNatClampNeg f u.2.2.2.2.2.2.2.2.2.1 u.2.2.2.2.2.2.2.2.2.2 u.2.2.1 u.2.2.2.1 u.2.2.2.2.1 u.2.2.2.2.2.1 u.2.2.2.2.2.2.1 2 m_nodes.toNatClampNeg p0.toNatClampNeg p1.toNatClampNeg ∧ mj_ag 0 m_nodes.toNatClampNeg nl nr fm fl fe vv vn u.2.2.2.2.2.2.2.2.2.1 u.2.2.2.2.2.2.2.2.2.2 u.2.2.1 u.2.2.2.1 u.2.2.2.2.1 u.2.2.2.2.2.1 u.2.2.2.2.2.2.1) (fun (u : Int32 × Int32 × (Nat → Int32) × (Nat → Int32) × (Nat → Int32) × (Nat → Int32) × (Nat → Int32) × (Nat → Int32) × (Nat → Int32) × (Nat → Int32) × (Nat → Int32)) (t : State) => va_P (dC, dI) vwCl [kx_5 h0 g_row m_n m_slots m_thrown g_many g_loss g_less g_voteValue g_voteNumber g_allValue g_allNumber u.2.1 g_nodeL g_nodeR u.1 g_part m_partMany g_wasMany g_wasLoss g_wasValue g_wasNumber g_path m_pathMany g_heavyValue g_heavyTimes m_heavyMany g_fewest g_which g_met m_mostMet, kx_a g_row cyI 160 f, kx_a g_many cyI 324 u.2.2.1, kx_a g_loss cyI 324 u.2.2.2.1, kx_a g_less cyI 324 u.2.2.2.2.1, kx_a g_voteValue cyI 1944 u.2.2.2.2.2.1, kx_a g_voteNumber cyI 1944 u.2.2.2.2.2.2.1, kx_a g_allValue cyI 12 u.2.2.2.2.2.2.2.1, kx_a g_allNumber cyI 12 u.2.2.2.2.2.2.2.2.1, kx_a g_nodeL cyI 320 u.2.2.2.2.2.2.2.2.2.1, kx_a g_nodeR cyI 320 u.2.2.2.2.2.2.2.2.2.2] t.heap ∧ va_K (dC, dI) vwCl [(cyI, .int)] t ∧ va_D A [kx_5 h0 g_row m_n m_slots m_thrown g_many g_loss g_less g_voteValue g_voteNumber g_allValue g_allNumber u.2.1 g_nodeL g_nodeR u.1 g_part m_partMany g_wasMany g_wasLoss g_wasValue g_wasNumber g_path m_pathMany g_heavyValue g_heavyTimes m_heavyMany g_fewest g_which g_met m_mostMet, kx_a g_row cyI 160 f, kx_a g_many cyI 324 u.2.2.1, kx_a g_loss cyI 324 u.2.2.2.1, kx_a g_less cyI 324 u.2.2.2.2.1, kx_a g_voteValue cyI 1944 u.2.2.2.2.2.1, kx_a g_voteNumber cyI 1944 u.2.2.2.2.2.2.1, kx_a g_allValue cyI 12 u.2.2.2.2.2.2.2.1, kx_a g_allNumber cyI 12 u.2.2.2.2.2.2.2.2.1, kx_a g_nodeL cyI 320 u.2.2.2.2.2.2.2.2.2.1, kx_a g_nodeR cyI 320 u.2.2.2.2.2.2.2.2.2.2]) A) := by
  refine kx_stQ (ws := wsX5_lays) (cc := cX5_lays) (maxL := 8) (ret := (some .int)) (by decide) rfl (Nat.le_of_ble_eq_true rfl) ?_
  intro p e s m below meth c A ls hx hb hr hlocks hts hown hml hA hS hP hK hD hl
  have hown : s.vm.findClass RX5 = some m.cls := hown
  have hl : lv_has ls 8 [(0, .ref h0), (1, .int p0), (2, .int p1), (3, .int p2)] := hl
  have hf_101 := hts (.fieldLink RX5 101 "MajorityIndexModel" "nodes" "I") (List.mem_of_getElem? (i := 1) rfl)
  have hi_5 : ∀ w ∈ u_ws RX5 TX5 30, w ∈ wsX5_lays := fun w h => List.mem_cons_of_mem _ (List.mem_append_right _ h)
  have hf_38 := hts (.fieldLink RX5 38 "MajorityIndexModel" "nodeL" "[I") (List.mem_of_getElem? (i := 2) rfl)
  have hf_41 := hts (.fieldLink RX5 41 "MajorityIndexModel" "nodeR" "[I") (List.mem_of_getElem? (i := 3) rfl)
  have hf_7 := hts (.fieldLink RX5 7 "MajorityIndexModel" "row" "[I") (List.mem_of_getElem? (i := 4) rfl)
  refine lv_aload_n hx hb dX5_lays_0 rfl (lv_at hl 0 rfl) ?_
  refine va_get (D := (dC, dI)) (ci := 5) (v := .int m_nodes) (C := RX5) (T := TX5) (N := 30) hx hb hts hi_5 hown hK hP 0 rfl rfl 14 (by decide) hf_101 (fun _ h9 => h9) rfl dX5_lays_1 ?_
  refine lv_istore (lv' := [(4, .int m_nodes), (0, .ref h0), (1, .int p0), (2, .int p1), (3, .int p2)]) hx hb dX5_lays_4 hl (by decide) rfl (fun ls hl => ?_)
  refine lv_aload_n hx hb dX5_lays_6 rfl (lv_at hl 1 rfl) ?_
  refine lv_dup hx hb dX5_lays_7 rfl ?_
  refine va_get (D := (dC, dI)) (ci := 5) (v := .int m_nodes) (C := RX5) (T := TX5) (N := 30) hx hb hts hi_5 hown hK hP 0 rfl rfl 14 (by decide) hf_101 (fun _ h9 => h9) rfl dX5_lays_8 ?_
  refine lv_iconst (v := 1) hx hb dX5_lays_11 (by decide) ?_
  refine lv_iadd hx hb dX5_lays_12 ?_
  refine lv_topi (fun y_1 ey_1 => ?_)
  have i_1 : y_1.toInt = m_nodes.toInt + 1 := ki_add ey_1 rfl rfl (om_13 b5) (om_324 b1 b6)
  refine va_put (D := (dC, dI)) (ci := 5) (v := .int y_1) (ty := .int) (C := RX5) (T := TX5) (N := 30) hx hb hts hi_5 tyX5 tyX5_ok nmX5 hown hK hP hD hS 0 rfl rfl 14 (by decide) hf_101 (fun _ h9 => h9) rfl (by decide +kernel) rfl rfl (Nat.le_of_ble_eq_true rfl) dX5_lays_13 (fun H locs hP hD hS => ?_)
  obtain ⟨hP, hD⟩ := kx_re (w2 := [kx_5 h0 g_row m_n m_slots m_thrown g_many g_loss g_less g_voteValue g_voteNumber g_allValue g_allNumber m_allMany g_nodeL g_nodeR y_1 g_part m_partMany g_wasMany g_wasLoss g_wasValue g_wasNumber g_path m_pathMany g_heavyValue g_heavyTimes m_heavyMany g_fewest g_which g_met m_mostMet, kx_a g_row cyI 160 f, kx_a g_many cyI 324 fm, kx_a g_loss cyI 324 fl, kx_a g_less cyI 324 fe, kx_a g_voteValue cyI 1944 vv, kx_a g_voteNumber cyI 1944 vn, kx_a g_allValue cyI 12 av, kx_a g_allNumber cyI 12 an, kx_a g_nodeL cyI 320 nl, kx_a g_nodeR cyI 320 nr]) hP hD rfl
  refine lv_aload_n hx hb dX5_lays_16 rfl (lv_at hl 1 rfl) ?_
  refine va_get (D := (dC, dI)) (ci := 5) (v := .ref g_nodeL) (C := RX5) (T := TX5) (N := 30) hx hb hts hi_5 hown hK hP 0 rfl rfl 12 (by decide) hf_38 (fun _ h9 => h9) rfl dX5_lays_17 ?_
  refine lv_iload hx hb dX5_lays_20 (lv_at hl 0 rfl) ?_
  refine lv_iload_n hx hb dX5_lays_22 rfl (lv_at hl 2 rfl) ?_
  refine va_iast hx hb hK hP hD hS 9 0 rfl rfl (ki_in (om_10 b5) (om_325 b1 b6)) dX5_lays_23 (fun H locs hP hD hS => ?_)
  obtain ⟨hP, hD⟩ := kx_re (w2 := [kx_5 h0 g_row m_n m_slots m_thrown g_many g_loss g_less g_voteValue g_voteNumber g_allValue g_allNumber m_allMany g_nodeL g_nodeR y_1 g_part m_partMany g_wasMany g_wasLoss g_wasValue g_wasNumber g_path m_pathMany g_heavyValue g_heavyTimes m_heavyMany g_fewest g_which g_met m_mostMet, kx_a g_row cyI 160 f, kx_a g_many cyI 324 fm, kx_a g_loss cyI 324 fl, kx_a g_less cyI 324 fe, kx_a g_voteValue cyI 1944 vv, kx_a g_voteNumber cyI 1944 vn, kx_a g_allValue cyI 12 av, kx_a g_allNumber cyI 12 an, kx_a g_nodeL cyI 320 (upd nl m_nodes.toNatClampNeg p0), kx_a g_nodeR cyI 320 nr]) hP hD rfl
  refine lv_aload_n hx hb dX5_lays_24 rfl (lv_at hl 1 rfl) ?_
  refine va_get (D := (dC, dI)) (ci := 5) (v := .ref g_nodeR) (C := RX5) (T := TX5) (N := 30) hx hb hts hi_5 hown hK hP 0 rfl rfl 13 (by decide) hf_41 (fun _ h9 => h9) rfl dX5_lays_25 ?_
  refine lv_iload hx hb dX5_lays_28 (lv_at hl 0 rfl) ?_
  refine lv_iload_n hx hb dX5_lays_30 rfl (lv_at hl 3 rfl) ?_
  refine va_iast hx hb hK hP hD hS 10 0 rfl rfl (ki_in (om_10 b5) (om_325 b1 b6)) dX5_lays_31 (fun H locs hP hD hS => ?_)
  obtain ⟨hP, hD⟩ := kx_re (w2 := [kx_5 h0 g_row m_n m_slots m_thrown g_many g_loss g_less g_voteValue g_voteNumber g_allValue g_allNumber m_allMany g_nodeL g_nodeR y_1 g_part m_partMany g_wasMany g_wasLoss g_wasValue g_wasNumber g_path m_pathMany g_heavyValue g_heavyTimes m_heavyMany g_fewest g_which g_met m_mostMet, kx_a g_row cyI 160 f, kx_a g_many cyI 324 fm, kx_a g_loss cyI 324 fl, kx_a g_less cyI 324 fe, kx_a g_voteValue cyI 1944 vv, kx_a g_voteNumber cyI 1944 vn, kx_a g_allValue cyI 12 av, kx_a g_allNumber cyI 12 an, kx_a g_nodeL cyI 320 (upd nl m_nodes.toNatClampNeg p0), kx_a g_nodeR cyI 320 (upd nr m_nodes.toNatClampNeg p1)]) hP hD rfl
  refine lv_iload_n hx hb dX5_lays_32 rfl (lv_at hl 3 rfl) ?_
  refine lv_iload_n hx hb dX5_lays_33 rfl (lv_at hl 2 rfl) ?_
  refine lv_isub hx hb dX5_lays_34 ?_
  refine lv_topi (fun y_2 ey_2 => ?_)
  have i_2 : y_2.toInt = p1.toInt - p0.toInt := ki_sub ey_2 rfl rfl (om_168 b1) (om_348 b7)
  refine lv_iconst (v := 1) hx hb dX5_lays_35 (by decide) ?_
  refine lv_icmp_ne (tgt := 54) hx hb dX5_lays_36 (by decide) (fun c_3 => ?_) (fun c_3 => ?_)
  · have i_3 : ¬ y_2.toInt = 1 := kc_ne c_3
    refine lv_iload_n hx hb dX5_lays_54 rfl (lv_at hl 2 rfl) ?_
    refine lv_iload_n hx hb dX5_lays_55 rfl (lv_at hl 3 rfl) ?_
    refine lv_iadd hx hb dX5_lays_56 ?_
    refine lv_topi (fun y_4 ey_4 => ?_)
    have i_4 : y_4.toInt = p0.toInt + p1.toInt := ki_add ey_4 rfl rfl (om_330 b0 b1) (om_331 b1 b2)
    refine lv_iconst (v := 2) hx hb dX5_lays_57 (by decide) ?_
    refine lv_idiv hx hb dX5_lays_58 (by decide) ?_
    refine lv_topi (fun y_5 ey_5 => ?_)
    have i_5 : y_5.toInt = y_4.toInt / 2 := ki_div2 ey_5 rfl (om_332 b0 b1 i_4)
    have d_6 := om_dv i_5
    refine lv_istore (lv' := [(5, .int y_5), (4, .int m_nodes), (0, .ref h0), (1, .int p0), (2, .int p1), (3, .int p2)]) hx hb dX5_lays_59 hl (by decide) rfl (fun ls hl => ?_)
    refine lv_aload_n hx hb dX5_lays_61 rfl (lv_at hl 2 rfl) ?_
    refine lv_iload_n hx hb dX5_lays_62 rfl (lv_at hl 3 rfl) ?_
    refine lv_iload hx hb dX5_lays_63 (lv_at hl 0 rfl) ?_
    refine lv_iload_n hx hb dX5_lays_65 rfl (lv_at hl 5 rfl) ?_
    have hPc := hP
    have hKc := hK
    have hDc := hD
    have hFc := kx_free hD hS hA
    refine va_calli (va_runV (As := [.int p0, .int y_5, .int p2]) (rest := []) ⟨hx, hb, hml, hown, hts⟩ (kx_un (c_X5_lays_1 l dC dI h0 g_row g_many g_loss g_less g_voteValue g_voteNumber g_allValue g_allNumber g_nodeL g_nodeR g_part g_wasMany g_wasLoss g_wasValue g_wasNumber g_path g_heavyValue g_heavyTimes g_fewest g_which g_met m_n m_slots m_thrown m_allMany y_1 m_partMany m_pathMany m_heavyMany m_mostMet cyI fm fl fe vv vn f av an (upd nl m_nodes.toNatClampNeg p0) (upd nr m_nodes.toNatClampNeg p1) p0 y_5 p2 H.size b0 (by omega) (om_333 b1 b2 i_4 d_6.1) b3 b4 (om_34 b5 i_1) (om_334 b1 b6 i_1 i_4 d_6.1) s4 (om_349 b7 i_4 d_6.1))) (cwV 3 hts gX5_lays_X5_lays rfl rfl rfl (by decide +kernel) ⟨Nat.le_of_ble_eq_true rfl, Nat.le_of_ble_eq_true rfl⟩) ⟨fun a U g mk q => by obtain ⟨q0, q1, qP, qK, qD⟩ := q; exact ⟨q0, q1, qP, va_K.moved (u := U) (U := U.calling g mk a) (Vm.Alike.refl U.vm) qK, qD⟩, kx_rc5 hKc hPc (q0 := 0) rfl, fun U hU hW => ⟨rfl, by rw [hU], by rw [hU]; exact hPc, va_K.moved hW.alike hKc, hDc.weaken (fun _ _ _ _ => trivial)⟩⟩ rfl rfl hl.1 rfl (lv_room (Nat.le_of_ble_eq_true rfl)) dX5_lays_66 ⟨Nat.le_of_ble_eq_true rfl, Nat.le_of_ble_eq_true rfl⟩) hS (fun q _ h => hFc q h) hFc (fun r_7 u t H1 locs ht hvm w_7 hB hz1 hk1 hS => ?_)
    obtain ⟨o_8, o_9, o_10, o_11, o_12, o_13, o_14, o_15, o_16, o_17, o_18⟩ := u
    dsimp only at w_7 hB
    obtain ⟨hP1, hK1, hD1⟩ := hB
    rw [ht] at hP1
    have hK1 := va_K.moved hvm.symm hK1
    have hD := hD1.weaken (fun _ q _ h => hFc q.1 h)
    have hP := hP1
    clear hP1 hD1 hK1 hk1 hz1 hFc hDc hPc hKc
    generalize H1 = H at hP hS ⊢
    have w_7 : r_7 = y_1 ∧ o_8.toInt = y_1.toInt + 2 * (y_5.toInt - p0.toInt) - 1 ∧ six4 o_10 ∧ mj_S p2.toNatClampNeg f o_17 o_18 o_10 o_11 o_12 o_13 o_14 1 y_1.toNatClampNeg p0.toNatClampNeg y_5.toNatClampNeg ∧ mj_ag 0 y_1.toNatClampNeg (upd nl m_nodes.toNatClampNeg p0) (upd nr m_nodes.toNatClampNeg p1) fm fl fe vv vn o_17 o_18 o_10 o_11 o_12 o_13 o_14 := w_7
    refine lv_istore (lv' := [(6, .int r_7), (5, .int y_5), (4, .int m_nodes), (0, .ref h0), (1, .int p0), (2, .int p1), (3, .int p2)]) hx hb dX5_lays_69 hl (by decide) rfl (fun ls hl => ?_)
    refine lv_aload_n hx hb dX5_lays_71 rfl (lv_at hl 3 rfl) ?_
    refine lv_iload hx hb dX5_lays_72 (lv_at hl 1 rfl) ?_
    refine lv_iload_n hx hb dX5_lays_74 rfl (lv_at hl 5 rfl) ?_
    refine lv_iload_n hx hb dX5_lays_75 rfl (lv_at hl 6 rfl) ?_
    have hPc := hP
    have hKc := hK
    have hDc := hD
    have hFc := kx_free hD hS hA
    refine va_calli (va_runV (As := [.int y_5, .int p1, .int p2]) (rest := []) ⟨hx, hb, hml, hown, hts⟩ (kx_un (c_X5_lays_1 l dC dI h0 g_row g_many g_loss g_less g_voteValue g_voteNumber g_allValue g_allNumber g_nodeL g_nodeR g_part g_wasMany g_wasLoss g_wasValue g_wasNumber g_path g_heavyValue g_heavyTimes g_fewest g_which g_met m_n m_slots m_thrown o_9 o_8 m_partMany m_pathMany m_heavyMany m_mostMet cyI o_10 o_11 o_12 o_13 o_14 f o_15 o_16 o_17 o_18 y_5 p1 p2 H.size (om_336 b0 b1 i_4 d_6.2) (by omega) b2 b3 b4 (om_337 b1 b5 i_1 i_4 d_6.2 w_7.2.1) (om_338 b6 i_1 w_7.2.1) w_7.2.2.1 (by omega))) (cwV 3 hts gX5_lays_X5_lays rfl rfl rfl (by decide +kernel) ⟨Nat.le_of_ble_eq_true rfl, Nat.le_of_ble_eq_true rfl⟩) ⟨fun a U g mk q => by obtain ⟨q0, q1, qP, qK, qD⟩ := q; exact ⟨q0, q1, qP, va_K.moved (u := U) (U := U.calling g mk a) (Vm.Alike.refl U.vm) qK, qD⟩, kx_rc5 hKc hPc (q0 := 0) rfl, fun U hU hW => ⟨rfl, by rw [hU], by rw [hU]; exact hPc, va_K.moved hW.alike hKc, hDc.weaken (fun _ _ _ _ => trivial)⟩⟩ rfl rfl hl.1 rfl (lv_room (Nat.le_of_ble_eq_true rfl)) dX5_lays_76 ⟨Nat.le_of_ble_eq_true rfl, Nat.le_of_ble_eq_true rfl⟩) hS (fun q _ h => hFc q h) hFc (fun r_19 u t H1 locs ht hvm w_19 hB hz1 hk1 hS => ?_)
    obtain ⟨o_20, o_21, o_22, o_23, o_24, o_25, o_26, o_27, o_28, o_29, o_30⟩ := u
    dsimp only at w_19 hB
    obtain ⟨hP1, hK1, hD1⟩ := hB
    rw [ht] at hP1
    have hK1 := va_K.moved hvm.symm hK1
    have hD := hD1.weaken (fun _ q _ h => hFc q.1 h)
    have hP := hP1
    clear hP1 hD1 hK1 hk1 hz1 hFc hDc hPc hKc
    generalize H1 = H at hP hS ⊢
    have w_19 : r_19 = o_8 ∧ o_20.toInt = o_8.toInt + 2 * (p1.toInt - y_5.toInt) - 1 ∧ six4 o_22 ∧ mj_S p2.toNatClampNeg f o_29 o_30 o_22 o_23 o_24 o_25 o_26 1 o_8.toNatClampNeg y_5.toNatClampNeg p1.toNatClampNeg ∧ mj_ag 0 o_8.toNatClampNeg o_17 o_18 o_10 o_11 o_12 o_13 o_14 o_29 o_30 o_22 o_23 o_24 o_25 o_26 := w_19
    refine lv_istore (lv' := [(7, .int r_19), (6, .int r_7), (5, .int y_5), (4, .int m_nodes), (0, .ref h0), (1, .int p0), (2, .int p1), (3, .int p2)]) hx hb dX5_lays_79 hl (by decide) rfl (fun ls hl => ?_)
    have n_p0 := ki_nat p0 rfl (om_10 b0)
    have n_p1 := ki_nat p1 rfl (om_21 b0 b1)
    have n_p2 := ki_nat p2 rfl (om_51 b3)
    have n_nd := ki_nat m_nodes rfl (om_10 b5)
    have n_y := ki_nat y_1 rfl (om_34 b5 i_1)
    have n_md := ki_nat y_5 rfl (om_336 b0 b1 i_4 d_6.2)
    have n_oL := ki_nat o_8 rfl (om_337 b1 b5 i_1 i_4 d_6.2 w_7.2.1)
    have i_rL : r_7.toInt = y_1.toInt := congrArg Int32.toInt w_7.1
    have i_rR : r_19.toInt = o_8.toInt := congrArg Int32.toInt w_19.1
    obtain ⟨mua, La, ca, tA⟩ := w_7.2.2.2.1
    obtain ⟨mub, Lb, cb, tB⟩ := w_19.2.2.2.1
    obtain ⟨g_1, g_2, g_3, g_4, g_5, g_6⟩ := mj_ly9 n_p0 n_p1 n_nd n_y n_md n_oL i_1 i_4 i_5 w_7.2.1 b1 i_2 i_3
    have tA2 := mj_T_ag _ _ o_8.toNatClampNeg _ _ _ _ _ tA g_1 (mj_ag_sub w_19.2.2.2.2 (Nat.zero_le _) (Nat.le_refl _))
    have nA := mj_T_nd tA2
    have nB := mj_T_nd tB
    refine lv_aload_n hx hb dX5_lays_81 rfl (lv_at hl 4 rfl) ?_
    refine lv_iload hx hb dX5_lays_82 (lv_at hl 1 rfl) ?_
    refine lv_iload hx hb dX5_lays_84 (lv_at hl 0 rfl) ?_
    refine lv_iload hx hb dX5_lays_86 (lv_at hl 3 rfl) ?_
    refine lv_iload_n hx hb dX5_lays_88 rfl (lv_at hl 7 rfl) ?_
    obtain ⟨hPc, hDc, hFc, hCc⟩ := kx_preM (wc := [kx_5 h0 g_row m_n m_slots m_thrown g_many g_loss g_less g_voteValue g_voteNumber g_allValue g_allNumber o_21 g_nodeL g_nodeR o_20 g_part m_partMany g_wasMany g_wasLoss g_wasValue g_wasNumber g_path m_pathMany g_heavyValue g_heavyTimes m_heavyMany g_fewest g_which g_met m_mostMet, kx_a g_many cyI 324 o_22, kx_a g_loss cyI 324 o_23, kx_a g_less cyI 324 o_24, kx_a g_voteValue cyI 1944 o_25, kx_a g_voteNumber cyI 1944 o_26, kx_a g_allValue cyI 12 o_27, kx_a g_allNumber cyI 12 o_28]) hP hD hS hA [true, false, true, true, true, true, true, true, true, false, false] rfl
    have hKc := hK
    refine va_callv (va_runV (As := [.int r_7, .int r_19, .int m_nodes, .int p2]) (rest := []) ⟨hx, hb, hml, hown, hts⟩ (kx_un (c_X5_together l dC dI h0 g_row g_many g_loss g_less g_voteValue g_voteNumber g_allValue g_allNumber g_nodeL g_nodeR g_part g_wasMany g_wasLoss g_wasValue g_wasNumber g_path g_heavyValue g_heavyTimes g_fewest g_which g_met m_n m_slots m_thrown o_21 o_20 m_partMany m_pathMany m_heavyMany m_mostMet cyI o_22 o_23 o_24 o_25 o_26 o_27 o_28 mua mub r_7 r_19 m_nodes p2 H.size (om_339 b5 i_1 i_rL) (om_340 b1 b6 i_1 i_rL) (om_341 b1 b5 i_1 i_4 d_6.2 w_7.2.1 i_rR) (om_342 b1 b6 i_1 i_4 d_6.1 w_7.2.1 i_rR) (om_10 b5) (om_343 b1 b6) (om_51 b3) (om_344 b4) (by rw [w_7.1]; exact nA.2.2.1) (by rw [w_7.1]; exact nA.2.2.2.1) (by rw [w_19.1]; exact nB.2.2.1) (by rw [w_19.1]; exact nB.2.2.2.1) (by rw [w_7.1]; exact nA.2.2.2.2.2.2.2.1) (by rw [w_19.1]; exact nB.2.2.2.2.2.2.2.1) (fun v => by have h1 := mj_T_le _ _ _ _ _ _ _ tA2 v; have h2 := mj_T_le _ _ _ _ _ _ _ tB v; omega))) (cwV 4 hts gX5_lays_X5_together rfl rfl rfl (by decide +kernel) ⟨Nat.le_of_ble_eq_true rfl, Nat.le_of_ble_eq_true rfl⟩) ⟨fun a U g mk q => by obtain ⟨q0, q1, qP, qK, qD⟩ := q; exact ⟨q0, q1, qP, va_K.moved (u := U) (U := U.calling g mk a) (Vm.Alike.refl U.vm) qK, qD⟩, kx_rc5 hKc hPc (q0 := 0) rfl, fun U hU hW => ⟨rfl, by rw [hU], by rw [hU]; exact hPc, va_K.moved hW.alike hKc, hDc.weaken (fun _ _ _ _ => trivial)⟩⟩ rfl rfl hl.1 rfl (lv_room (Nat.le_of_ble_eq_true rfl)) dX5_lays_89 ⟨Nat.le_of_ble_eq_true rfl, Nat.le_of_ble_eq_true rfl⟩) hS (fun q _ h => hFc q h) hFc (fun u t H1 locs ht hvm w_31 hB hz1 hk1 hS => ?_)
    obtain ⟨o_32, o_33, o_34, o_35, o_36, o_37, o_38, o_39, o_40, o_41, o_42⟩ := u
    dsimp only at w_31 hB
    obtain ⟨hP1, hK1, hD1⟩ := hB
    rw [ht] at hP1
    have hK1 := va_K.moved hvm.symm hK1
    obtain ⟨hP, hD⟩ := kx_joinM (w2 := [kx_5 h0 g_row m_n m_slots m_thrown g_many g_loss g_less g_voteValue g_voteNumber g_allValue g_allNumber o_32 g_nodeL g_nodeR o_20 g_part m_partMany g_wasMany g_wasLoss g_wasValue g_wasNumber g_path m_pathMany g_heavyValue g_heavyTimes m_heavyMany g_fewest g_which g_met m_mostMet, kx_a g_row cyI 160 f, kx_a g_many cyI 324 o_36, kx_a g_loss cyI 324 o_37, kx_a g_less cyI 324 o_38, kx_a g_voteValue cyI 1944 o_39, kx_a g_voteNumber cyI 1944 o_40, kx_a g_allValue cyI 12 o_41, kx_a g_allNumber cyI 12 o_42, kx_a g_nodeL cyI 320 o_29, kx_a g_nodeR cyI 320 o_30]) hP hD hP1 hD1 hk1 hFc [true, false, true, true, true, true, true, true, true, false, false] hCc rfl
    clear hP1 hD1 hK1 hk1 hz1 hFc hDc hPc hKc hCc
    generalize H1 = H at hP hS ⊢
    have w_31 : mj_tog p2.toNatClampNeg mua mub o_35 o_33 ∧ o_37 = upd o_23 m_nodes.toNatClampNeg (o_23 r_7.toNatClampNeg + o_23 r_19.toNatClampNeg + o_33) ∧ o_38 = upd o_24 m_nodes.toNatClampNeg o_33 ∧ o_36 = upd o_22 m_nodes.toNatClampNeg o_34 ∧ 0 ≤ o_34.toInt ∧ o_34.toInt ≤ p2.toInt ∧ mj_vs o_39 o_40 (6 * m_nodes.toNatClampNeg) o_34.toNatClampNeg o_35 ∧ mj_srt o_39 o_40 (6 * m_nodes.toNatClampNeg) o_34.toNatClampNeg ∧ ∀ q : Nat, (q < 6 * m_nodes.toNatClampNeg ∨ 6 * m_nodes.toNatClampNeg + 6 ≤ q) → o_39 q = o_25 q ∧ o_40 q = o_26 q := w_31
    refine lv_iload hx hb dX5_lays_92 (lv_at hl 3 rfl) ?_
    have hP9 := hP
    have hD9 := hD
    have hK9 := hK
    have e_fl := w_31.2.1
    rw [w_7.1, w_19.1] at e_fl
    have hN := mj_lay_node (l := p0.toNatClampNeg) (r := p1.toNatClampNeg) (md := y_5.toNatClampNeg) (a := m_nodes.toNatClampNeg) g_2 g_3 n_p0.symm n_p1.symm g_4 g_5 (mj_ag_sub w_7.2.2.2.2 (Nat.le_refl _) g_6) w_19.2.2.2.2 tA2 tB w_31.1 w_31.2.2.2.1 w_31.2.2.2.2.1 (Int.le_trans w_31.2.2.2.2.2.1 (Int.le_of_eq n_p2.symm)) (mj_ln6 n_p2 b4) e_fl w_31.2.2.1 w_31.2.2.2.2.2.2.1 w_31.2.2.2.2.2.2.2.1 w_31.2.2.2.2.2.2.2.2
    exact W.iret (v := m_nodes) hx hb hr (hlocks := hlocks) (fun t ht hW => ⟨⟨m_nodes, (o_20, o_32, o_36, o_37, o_38, o_39, o_40, o_41, o_42, o_29, o_30), rfl, ⟨rfl, (om_345 i_1 w_7.2.1 w_19.2.1), (by (try dsimp only); rw [w_31.2.2.2.1]; exact six4_upd w_19.2.2.1 w_31.2.2.2.2.1 (om_346 b4 w_31.2.2.2.2.2.1)), hN.1, hN.2⟩, by rw [ht]; exact hP9, va_K.moved hW.alike hK9, hD9⟩, hS.F ht⟩) hS.2.2 dX5_lays_94
  · have i_3 : y_2.toInt = 1 := kc_eq c_3
    refine lv_aload_n hx hb dX5_lays_39 rfl (lv_at hl 1 rfl) ?_
    refine lv_iload hx hb dX5_lays_40 (lv_at hl 0 rfl) ?_
    refine lv_aload_n hx hb dX5_lays_42 rfl (lv_at hl 1 rfl) ?_
    refine va_get (D := (dC, dI)) (ci := 5) (v := .ref g_row) (C := RX5) (T := TX5) (N := 30) hx hb hts hi_5 hown hK hP 0 rfl rfl 0 (by decide) hf_7 (fun _ h9 => h9) rfl dX5_lays_43 ?_
    refine lv_iload_n hx hb dX5_lays_46 rfl (lv_at hl 2 rfl) ?_
    refine va_iald hx hb hK hP 1 0 rfl rfl (ki_in (om_10 b0) (om_85 b1 b2)) dX5_lays_47 ?_
    refine lv_topi (fun y_43 ey_43 => ?_)
    have j_43 : y_43.toInt = (f p0.toNatClampNeg).toInt := congrArg Int32.toInt ey_43
    obtain ⟨hPc, hDc, hFc, hCc⟩ := kx_preM (wc := [kx_5 h0 g_row m_n m_slots m_thrown g_many g_loss g_less g_voteValue g_voteNumber g_allValue g_allNumber m_allMany g_nodeL g_nodeR y_1 g_part m_partMany g_wasMany g_wasLoss g_wasValue g_wasNumber g_path m_pathMany g_heavyValue g_heavyTimes m_heavyMany g_fewest g_which g_met m_mostMet, kx_a g_many cyI 324 fm, kx_a g_loss cyI 324 fl, kx_a g_less cyI 324 fe, kx_a g_voteValue cyI 1944 vv, kx_a g_voteNumber cyI 1944 vn]) hP hD hS hA [true, false, true, true, true, true, true, false, false, false, false] rfl
    have hKc := hK
    refine va_callv (va_runV (As := [.int m_nodes, .int y_43]) (rest := []) ⟨hx, hb, hml, hown, hts⟩ (kx_un (c_X5_one_x l dC dI h0 g_row g_many g_loss g_less g_voteValue g_voteNumber g_allValue g_allNumber g_nodeL g_nodeR g_part g_wasMany g_wasLoss g_wasValue g_wasNumber g_path g_heavyValue g_heavyTimes g_fewest g_which g_met m_n m_slots m_thrown m_allMany y_1 m_partMany m_pathMany m_heavyMany m_mostMet cyI fm fl fe vv vn m_nodes y_43 H.size b5 (om_327 b1 b6))) (cwV 2 hts gX5_lays_X5_one rfl rfl rfl (by decide +kernel) ⟨Nat.le_of_ble_eq_true rfl, Nat.le_of_ble_eq_true rfl⟩) ⟨fun a U g mk q => by obtain ⟨q0, q1, qP, qK, qD⟩ := q; exact ⟨q0, q1, qP, va_K.moved (u := U) (U := U.calling g mk a) (Vm.Alike.refl U.vm) qK, qD⟩, kx_rc5 hKc hPc (q0 := 0) rfl, fun U hU hW => ⟨rfl, by rw [hU], by rw [hU]; exact hPc, va_K.moved hW.alike hKc, hDc.weaken (fun _ _ _ _ => trivial)⟩⟩ rfl rfl hl.1 rfl (lv_room (Nat.le_of_ble_eq_true rfl)) dX5_lays_48 ⟨Nat.le_of_ble_eq_true rfl, Nat.le_of_ble_eq_true rfl⟩) hS (fun q _ h => hFc q h) hFc (fun u t H1 locs ht hvm w_44 hB hz1 hk1 hS => ?_)
    obtain ⟨o_45, o_46, o_47, o_48, o_49⟩ := u
    dsimp only at w_44 hB
    obtain ⟨hP1, hK1, hD1⟩ := hB
    rw [ht] at hP1
    have hK1 := va_K.moved hvm.symm hK1
    obtain ⟨hP, hD⟩ := kx_joinM (w2 := [kx_5 h0 g_row m_n m_slots m_thrown g_many g_loss g_less g_voteValue g_voteNumber g_allValue g_allNumber m_allMany g_nodeL g_nodeR y_1 g_part m_partMany g_wasMany g_wasLoss g_wasValue g_wasNumber g_path m_pathMany g_heavyValue g_heavyTimes m_heavyMany g_fewest g_which g_met m_mostMet, kx_a g_row cyI 160 f, kx_a g_many cyI 324 o_45, kx_a g_loss cyI 324 o_46, kx_a g_less cyI 324 o_47, kx_a g_voteValue cyI 1944 o_48, kx_a g_voteNumber cyI 1944 o_49, kx_a g_allValue cyI 12 av, kx_a g_allNumber cyI 12 an, kx_a g_nodeL cyI 320 (upd nl m_nodes.toNatClampNeg p0), kx_a g_nodeR cyI 320 (upd nr m_nodes.toNatClampNeg p1)]) hP hD hP1 hD1 hk1 hFc [true, false, true, true, true, true, true, false, false, false, false] hCc rfl
    clear hP1 hD1 hK1 hk1 hz1 hFc hDc hPc hKc hCc
    generalize H1 = H at hP hS ⊢
    have w_44 : o_45 = upd fm m_nodes.toNatClampNeg 1 ∧ o_46 = upd fl m_nodes.toNatClampNeg 0 ∧ o_47 = upd fe m_nodes.toNatClampNeg 0 ∧ o_48 = upd vv (6 * m_nodes.toNatClampNeg) y_43 ∧ o_49 = upd vn (6 * m_nodes.toNatClampNeg) 1 := w_44
    refine lv_iload hx hb dX5_lays_51 (lv_at hl 0 rfl) ?_
    have hP9 := hP
    have hD9 := hD
    have hK9 := hK
    have n_p0 := ki_nat p0 rfl (om_10 b0)
    have n_p1 := ki_nat p1 rfl (om_21 b0 b1)
    have n_p2 := ki_nat p2 rfl (om_51 b3)
    have n_nd := ki_nat m_nodes rfl (om_10 b5)
    have e_vv := w_44.2.2.2.1
    rw [ey_43] at e_vv
    have hN := mj_lay_leaf (K := p2.toNatClampNeg) (f := f) (nl := nl) (nr := nr) (l := p0.toNatClampNeg) (r := p1.toNatClampNeg) (l32 := p0) (r32 := p1) 2 (mj_ln1 n_p2 b3) (mj_lf9 n_p0 n_p1 i_2 i_3) n_p0.symm n_p1.symm w_44.1 w_44.2.1 w_44.2.2.1 e_vv w_44.2.2.2.2
    exact W.iret (v := m_nodes) hx hb hr (hlocks := hlocks) (fun t ht hW => ⟨⟨m_nodes, (y_1, m_allMany, o_45, o_46, o_47, o_48, o_49, av, an, (upd nl m_nodes.toNatClampNeg p0), (upd nr m_nodes.toNatClampNeg p1)), rfl, ⟨rfl, (om_347 b1 i_1 i_2 i_3), (by (try dsimp only); rw [w_44.1]; exact six4_upd s4 (by decide) (by decide)), hN.1, hN.2⟩, by rw [ht]; exact hP9, va_K.moved hW.alike hK9, hD9⟩, hS.F ht⟩) hS.2.2 dX5_lays_53

set_option maxHeartbeats 4000000 in
set_option maxRecDepth 100000 in
theorem c_X5_lays_3 (l : Launch) (dC : Nat → ClassId) (dI : Nat → Nat → Nat) (h0 : Nat) (g_row : Nat) (g_many : Nat) (g_loss : Nat) (g_less : Nat) (g_voteValue : Nat) (g_voteNumber : Nat) (g_allValue : Nat) (g_allNumber : Nat) (g_nodeL : Nat) (g_nodeR : Nat) (g_part : Nat) (g_wasMany : Nat) (g_wasLoss : Nat) (g_wasValue : Nat) (g_wasNumber : Nat) (g_path : Nat) (g_heavyValue : Nat) (g_heavyTimes : Nat) (g_fewest : Nat) (g_which : Nat) (g_met : Nat) (m_n : Int32) (m_slots : Int32) (m_thrown : Int32) (m_allMany : Int32) (m_nodes : Int32) (m_partMany : Int32) (m_pathMany : Int32) (m_heavyMany : Int32) (m_mostMet : Int32) (cyI : ClassId) (fm : Nat → Int32) (fl : Nat → Int32) (fe : Nat → Int32) (vv : Nat → Int32) (vn : Nat → Int32) (f : Nat → Int32) (av : Nat → Int32) (an : Nat → Int32) (nl : Nat → Int32) (nr : Nat → Int32) (p0 : Int32) (p1 : Int32) (p2 : Int32) (sz : Nat) (b0 : 0 ≤ p0.toInt) (b1 : p0.toInt < p1.toInt) (b2 : p1.toInt ≤ 160) (b3 : 1 ≤ p2.toInt) (b4 : p2.toInt ≤ 6) (b5 : 0 ≤ m_nodes.toInt) (b6 : m_nodes.toInt + 2 * (p1.toInt - p0.toInt) - 1 ≤ 319) (s4 : six4 fm) (b7 : p1.toInt - p0.toInt ≤ 8) : kx_MQ l (dC, dI) yX5_lays wsX5_lays ({ frames := 5, cells := 0, slots := 0, locals := 225 }) [.ref h0, .int p0, .int p1, .int p2] [kx_5 h0 g_row m_n m_slots m_thrown g_many g_loss g_less g_voteValue g_voteNumber g_allValue g_allNumber m_allMany g_nodeL g_nodeR m_nodes g_part m_partMany g_wasMany g_wasLoss g_wasValue g_wasNumber g_path m_pathMany g_heavyValue g_heavyTimes m_heavyMany g_fewest g_which g_met m_mostMet, kx_a g_row cyI 160 f, kx_a g_many cyI 324 fm, kx_a g_loss cyI 324 fl, kx_a g_less cyI 324 fe, kx_a g_voteValue cyI 1944 vv, kx_a g_voteNumber cyI 1944 vn, kx_a g_allValue cyI 12 av, kx_a g_allNumber cyI 12 an, kx_a g_nodeL cyI 320 nl, kx_a g_nodeR cyI 320 nr] [(cyI, .int)] sz (fun A => va_Qi (fun (r : Int32) (u : Int32 × Int32 × (Nat → Int32) × (Nat → Int32) × (Nat → Int32) × (Nat → Int32) × (Nat → Int32) × (Nat → Int32) × (Nat → Int32) × (Nat → Int32) × (Nat → Int32)) => r = m_nodes ∧ u.1.toInt = m_nodes.toInt + 2 * (p1.toInt - p0.toInt) - 1 ∧ six4 u.2.2.1 ∧ mj_S p2.toNatClampNeg f u.2.2.2.2.2.2.2.2.2.1 u.2.2.2.2.2.2.2.2.2.2 u.2.2.1 u.2.2.2.1 u.2.2.2.2.1 u.2.2.2.2.2.1 u.2.2.2.2.2.2.1 3 m_nodes.toNatClampNeg p0.toNatClampNeg p1.toNatClampNeg ∧ mj_ag 0 m_nodes.toNatClampNeg nl nr fm fl fe vv vn u.2.2.2.2.2.2.2.2.2.1 u.2.2.2.2.2.2.2.2.2.2 u.2.2.1 u.2.2.2.1 u.2.2.2.2.1 u.2.2.2.2.2.1 u.2.2.2.2.2.2.1) (fun (u : Int32 × Int32 × (Nat → Int32) × (Nat → Int32) × (Nat → Int32) × (Nat → Int32) × (Nat → Int32) × (Nat → Int32) × (Nat → Int32) × (Nat → Int32) × (Nat → Int32)) (t : State) => va_P (dC, dI) vwCl [kx_5 h0 g_row m_n m_slots m_thrown g_many g_loss g_less g_voteValue g_voteNumber g_allValue g_allNumber u.2.1 g_nodeL g_nodeR u.1 g_part m_partMany g_wasMany g_wasLoss g_wasValue g_wasNumber g_path m_pathMany g_heavyValue g_heavyTimes m_heavyMany g_fewest g_which g_met m_mostMet, kx_a g_row cyI 160 f, kx_a g_many cyI 324 u.2.2.1, kx_a g_loss cyI 324 u.2.2.2.1, kx_a g_less cyI 324 u.2.2.2.2.1, kx_a g_voteValue cyI 1944 u.2.2.2.2.2.1, kx_a g_voteNumber cyI 1944 u.2.2.2.2.2.2.1, kx_a g_allValue cyI 12 u.2.2.2.2.2.2.2.1, kx_a g_allNumber cyI 12 u.2.2.2.2.2.2.2.2.1, kx_a g_nodeL cyI 320 u.2.2.2.2.2.2.2.2.2.1, kx_a g_nodeR cyI 320 u.2.2.2.2.2.2.2.2.2.2] t.heap ∧ va_K (dC, dI) vwCl [(cyI, .int)] t ∧ va_D A [kx_5 h0 g_row m_n m_slots m_thrown g_many g_loss g_less g_voteValue g_voteNumber g_allValue g_allNumber u.2.1 g_nodeL g_nodeR u.1 g_part m_partMany g_wasMany g_wasLoss g_wasValue g_wasNumber g_path m_pathMany g_heavyValue g_heavyTimes m_heavyMany g_fewest g_which g_met m_mostMet, kx_a g_row cyI 160 f, kx_a g_many cyI 324 u.2.2.1, kx_a g_loss cyI 324 u.2.2.2.1, kx_a g_less cyI 324 u.2.2.2.2.1, kx_a g_voteValue cyI 1944 u.2.2.2.2.2.1, kx_a g_voteNumber cyI 1944 u.2.2.2.2.2.2.1, kx_a g_allValue cyI 12 u.2.2.2.2.2.2.2.1, kx_a g_allNumber cyI 12 u.2.2.2.2.2.2.2.2.1, kx_a g_nodeL cyI 320 u.2.2.2.2.2.2.2.2.2.1, kx_a g_nodeR cyI 320 u.2.2.2.2.2.2.2.2.2.2]) A) := by
  refine kx_stQ (ws := wsX5_lays) (cc := cX5_lays) (maxL := 8) (ret := (some .int)) (by decide) rfl (Nat.le_of_ble_eq_true rfl) ?_
  intro p e s m below meth c A ls hx hb hr hlocks hts hown hml hA hS hP hK hD hl
  have hown : s.vm.findClass RX5 = some m.cls := hown
  have hl : lv_has ls 8 [(0, .ref h0), (1, .int p0), (2, .int p1), (3, .int p2)] := hl
  have hf_101 := hts (.fieldLink RX5 101 "MajorityIndexModel" "nodes" "I") (List.mem_of_getElem? (i := 1) rfl)
  have hi_5 : ∀ w ∈ u_ws RX5 TX5 30, w ∈ wsX5_lays := fun w h => List.mem_cons_of_mem _ (List.mem_append_right _ h)
  have hf_38 := hts (.fieldLink RX5 38 "MajorityIndexModel" "nodeL" "[I") (List.mem_of_getElem? (i := 2) rfl)
  have hf_41 := hts (.fieldLink RX5 41 "MajorityIndexModel" "nodeR" "[I") (List.mem_of_getElem? (i := 3) rfl)
  have hf_7 := hts (.fieldLink RX5 7 "MajorityIndexModel" "row" "[I") (List.mem_of_getElem? (i := 4) rfl)
  refine lv_aload_n hx hb dX5_lays_0 rfl (lv_at hl 0 rfl) ?_
  refine va_get (D := (dC, dI)) (ci := 5) (v := .int m_nodes) (C := RX5) (T := TX5) (N := 30) hx hb hts hi_5 hown hK hP 0 rfl rfl 14 (by decide) hf_101 (fun _ h9 => h9) rfl dX5_lays_1 ?_
  refine lv_istore (lv' := [(4, .int m_nodes), (0, .ref h0), (1, .int p0), (2, .int p1), (3, .int p2)]) hx hb dX5_lays_4 hl (by decide) rfl (fun ls hl => ?_)
  refine lv_aload_n hx hb dX5_lays_6 rfl (lv_at hl 1 rfl) ?_
  refine lv_dup hx hb dX5_lays_7 rfl ?_
  refine va_get (D := (dC, dI)) (ci := 5) (v := .int m_nodes) (C := RX5) (T := TX5) (N := 30) hx hb hts hi_5 hown hK hP 0 rfl rfl 14 (by decide) hf_101 (fun _ h9 => h9) rfl dX5_lays_8 ?_
  refine lv_iconst (v := 1) hx hb dX5_lays_11 (by decide) ?_
  refine lv_iadd hx hb dX5_lays_12 ?_
  refine lv_topi (fun y_1 ey_1 => ?_)
  have i_1 : y_1.toInt = m_nodes.toInt + 1 := ki_add ey_1 rfl rfl (om_13 b5) (om_324 b1 b6)
  refine va_put (D := (dC, dI)) (ci := 5) (v := .int y_1) (ty := .int) (C := RX5) (T := TX5) (N := 30) hx hb hts hi_5 tyX5 tyX5_ok nmX5 hown hK hP hD hS 0 rfl rfl 14 (by decide) hf_101 (fun _ h9 => h9) rfl (by decide +kernel) rfl rfl (Nat.le_of_ble_eq_true rfl) dX5_lays_13 (fun H locs hP hD hS => ?_)
  obtain ⟨hP, hD⟩ := kx_re (w2 := [kx_5 h0 g_row m_n m_slots m_thrown g_many g_loss g_less g_voteValue g_voteNumber g_allValue g_allNumber m_allMany g_nodeL g_nodeR y_1 g_part m_partMany g_wasMany g_wasLoss g_wasValue g_wasNumber g_path m_pathMany g_heavyValue g_heavyTimes m_heavyMany g_fewest g_which g_met m_mostMet, kx_a g_row cyI 160 f, kx_a g_many cyI 324 fm, kx_a g_loss cyI 324 fl, kx_a g_less cyI 324 fe, kx_a g_voteValue cyI 1944 vv, kx_a g_voteNumber cyI 1944 vn, kx_a g_allValue cyI 12 av, kx_a g_allNumber cyI 12 an, kx_a g_nodeL cyI 320 nl, kx_a g_nodeR cyI 320 nr]) hP hD rfl
  refine lv_aload_n hx hb dX5_lays_16 rfl (lv_at hl 1 rfl) ?_
  refine va_get (D := (dC, dI)) (ci := 5) (v := .ref g_nodeL) (C := RX5) (T := TX5) (N := 30) hx hb hts hi_5 hown hK hP 0 rfl rfl 12 (by decide) hf_38 (fun _ h9 => h9) rfl dX5_lays_17 ?_
  refine lv_iload hx hb dX5_lays_20 (lv_at hl 0 rfl) ?_
  refine lv_iload_n hx hb dX5_lays_22 rfl (lv_at hl 2 rfl) ?_
  refine va_iast hx hb hK hP hD hS 9 0 rfl rfl (ki_in (om_10 b5) (om_325 b1 b6)) dX5_lays_23 (fun H locs hP hD hS => ?_)
  obtain ⟨hP, hD⟩ := kx_re (w2 := [kx_5 h0 g_row m_n m_slots m_thrown g_many g_loss g_less g_voteValue g_voteNumber g_allValue g_allNumber m_allMany g_nodeL g_nodeR y_1 g_part m_partMany g_wasMany g_wasLoss g_wasValue g_wasNumber g_path m_pathMany g_heavyValue g_heavyTimes m_heavyMany g_fewest g_which g_met m_mostMet, kx_a g_row cyI 160 f, kx_a g_many cyI 324 fm, kx_a g_loss cyI 324 fl, kx_a g_less cyI 324 fe, kx_a g_voteValue cyI 1944 vv, kx_a g_voteNumber cyI 1944 vn, kx_a g_allValue cyI 12 av, kx_a g_allNumber cyI 12 an, kx_a g_nodeL cyI 320 (upd nl m_nodes.toNatClampNeg p0), kx_a g_nodeR cyI 320 nr]) hP hD rfl
  refine lv_aload_n hx hb dX5_lays_24 rfl (lv_at hl 1 rfl) ?_
  refine va_get (D := (dC, dI)) (ci := 5) (v := .ref g_nodeR) (C := RX5) (T := TX5) (N := 30) hx hb hts hi_5 hown hK hP 0 rfl rfl 13 (by decide) hf_41 (fun _ h9 => h9) rfl dX5_lays_25 ?_
  refine lv_iload hx hb dX5_lays_28 (lv_at hl 0 rfl) ?_
  refine lv_iload_n hx hb dX5_lays_30 rfl (lv_at hl 3 rfl) ?_
  refine va_iast hx hb hK hP hD hS 10 0 rfl rfl (ki_in (om_10 b5) (om_325 b1 b6)) dX5_lays_31 (fun H locs hP hD hS => ?_)
  obtain ⟨hP, hD⟩ := kx_re (w2 := [kx_5 h0 g_row m_n m_slots m_thrown g_many g_loss g_less g_voteValue g_voteNumber g_allValue g_allNumber m_allMany g_nodeL g_nodeR y_1 g_part m_partMany g_wasMany g_wasLoss g_wasValue g_wasNumber g_path m_pathMany g_heavyValue g_heavyTimes m_heavyMany g_fewest g_which g_met m_mostMet, kx_a g_row cyI 160 f, kx_a g_many cyI 324 fm, kx_a g_loss cyI 324 fl, kx_a g_less cyI 324 fe, kx_a g_voteValue cyI 1944 vv, kx_a g_voteNumber cyI 1944 vn, kx_a g_allValue cyI 12 av, kx_a g_allNumber cyI 12 an, kx_a g_nodeL cyI 320 (upd nl m_nodes.toNatClampNeg p0), kx_a g_nodeR cyI 320 (upd nr m_nodes.toNatClampNeg p1)]) hP hD rfl
  refine lv_iload_n hx hb dX5_lays_32 rfl (lv_at hl 3 rfl) ?_
  refine lv_iload_n hx hb dX5_lays_33 rfl (lv_at hl 2 rfl) ?_
  refine lv_isub hx hb dX5_lays_34 ?_
  refine lv_topi (fun y_2 ey_2 => ?_)
  have i_2 : y_2.toInt = p1.toInt - p0.toInt := ki_sub ey_2 rfl rfl (om_168 b1) (om_350 b7)
  refine lv_iconst (v := 1) hx hb dX5_lays_35 (by decide) ?_
  refine lv_icmp_ne (tgt := 54) hx hb dX5_lays_36 (by decide) (fun c_3 => ?_) (fun c_3 => ?_)
  · have i_3 : ¬ y_2.toInt = 1 := kc_ne c_3
    refine lv_iload_n hx hb dX5_lays_54 rfl (lv_at hl 2 rfl) ?_
    refine lv_iload_n hx hb dX5_lays_55 rfl (lv_at hl 3 rfl) ?_
    refine lv_iadd hx hb dX5_lays_56 ?_
    refine lv_topi (fun y_4 ey_4 => ?_)
    have i_4 : y_4.toInt = p0.toInt + p1.toInt := ki_add ey_4 rfl rfl (om_330 b0 b1) (om_331 b1 b2)
    refine lv_iconst (v := 2) hx hb dX5_lays_57 (by decide) ?_
    refine lv_idiv hx hb dX5_lays_58 (by decide) ?_
    refine lv_topi (fun y_5 ey_5 => ?_)
    have i_5 : y_5.toInt = y_4.toInt / 2 := ki_div2 ey_5 rfl (om_332 b0 b1 i_4)
    have d_6 := om_dv i_5
    refine lv_istore (lv' := [(5, .int y_5), (4, .int m_nodes), (0, .ref h0), (1, .int p0), (2, .int p1), (3, .int p2)]) hx hb dX5_lays_59 hl (by decide) rfl (fun ls hl => ?_)
    refine lv_aload_n hx hb dX5_lays_61 rfl (lv_at hl 2 rfl) ?_
    refine lv_iload_n hx hb dX5_lays_62 rfl (lv_at hl 3 rfl) ?_
    refine lv_iload hx hb dX5_lays_63 (lv_at hl 0 rfl) ?_
    refine lv_iload_n hx hb dX5_lays_65 rfl (lv_at hl 5 rfl) ?_
    have hPc := hP
    have hKc := hK
    have hDc := hD
    have hFc := kx_free hD hS hA
    refine va_calli (va_runV (As := [.int p0, .int y_5, .int p2]) (rest := []) ⟨hx, hb, hml, hown, hts⟩ (kx_un (c_X5_lays_2 l dC dI h0 g_row g_many g_loss g_less g_voteValue g_voteNumber g_allValue g_allNumber g_nodeL g_nodeR g_part g_wasMany g_wasLoss g_wasValue g_wasNumber g_path g_heavyValue g_heavyTimes g_fewest g_which g_met m_n m_slots m_thrown m_allMany y_1 m_partMany m_pathMany m_heavyMany m_mostMet cyI fm fl fe vv vn f av an (upd nl m_nodes.toNatClampNeg p0) (upd nr m_nodes.toNatClampNeg p1) p0 y_5 p2 H.size b0 (by omega) (om_333 b1 b2 i_4 d_6.1) b3 b4 (om_34 b5 i_1) (om_334 b1 b6 i_1 i_4 d_6.1) s4 (om_351 b7 i_4 d_6.1))) (cwV 3 hts gX5_lays_X5_lays rfl rfl rfl (by decide +kernel) ⟨Nat.le_of_ble_eq_true rfl, Nat.le_of_ble_eq_true rfl⟩) ⟨fun a U g mk q => by obtain ⟨q0, q1, qP, qK, qD⟩ := q; exact ⟨q0, q1, qP, va_K.moved (u := U) (U := U.calling g mk a) (Vm.Alike.refl U.vm) qK, qD⟩, kx_rc5 hKc hPc (q0 := 0) rfl, fun U hU hW => ⟨rfl, by rw [hU], by rw [hU]; exact hPc, va_K.moved hW.alike hKc, hDc.weaken (fun _ _ _ _ => trivial)⟩⟩ rfl rfl hl.1 rfl (lv_room (Nat.le_of_ble_eq_true rfl)) dX5_lays_66 ⟨Nat.le_of_ble_eq_true rfl, Nat.le_of_ble_eq_true rfl⟩) hS (fun q _ h => hFc q h) hFc (fun r_7 u t H1 locs ht hvm w_7 hB hz1 hk1 hS => ?_)
    obtain ⟨o_8, o_9, o_10, o_11, o_12, o_13, o_14, o_15, o_16, o_17, o_18⟩ := u
    dsimp only at w_7 hB
    obtain ⟨hP1, hK1, hD1⟩ := hB
    rw [ht] at hP1
    have hK1 := va_K.moved hvm.symm hK1
    have hD := hD1.weaken (fun _ q _ h => hFc q.1 h)
    have hP := hP1
    clear hP1 hD1 hK1 hk1 hz1 hFc hDc hPc hKc
    generalize H1 = H at hP hS ⊢
    have w_7 : r_7 = y_1 ∧ o_8.toInt = y_1.toInt + 2 * (y_5.toInt - p0.toInt) - 1 ∧ six4 o_10 ∧ mj_S p2.toNatClampNeg f o_17 o_18 o_10 o_11 o_12 o_13 o_14 2 y_1.toNatClampNeg p0.toNatClampNeg y_5.toNatClampNeg ∧ mj_ag 0 y_1.toNatClampNeg (upd nl m_nodes.toNatClampNeg p0) (upd nr m_nodes.toNatClampNeg p1) fm fl fe vv vn o_17 o_18 o_10 o_11 o_12 o_13 o_14 := w_7
    refine lv_istore (lv' := [(6, .int r_7), (5, .int y_5), (4, .int m_nodes), (0, .ref h0), (1, .int p0), (2, .int p1), (3, .int p2)]) hx hb dX5_lays_69 hl (by decide) rfl (fun ls hl => ?_)
    refine lv_aload_n hx hb dX5_lays_71 rfl (lv_at hl 3 rfl) ?_
    refine lv_iload hx hb dX5_lays_72 (lv_at hl 1 rfl) ?_
    refine lv_iload_n hx hb dX5_lays_74 rfl (lv_at hl 5 rfl) ?_
    refine lv_iload_n hx hb dX5_lays_75 rfl (lv_at hl 6 rfl) ?_
    have hPc := hP
    have hKc := hK
    have hDc := hD
    have hFc := kx_free hD hS hA
    refine va_calli (va_runV (As := [.int y_5, .int p1, .int p2]) (rest := []) ⟨hx, hb, hml, hown, hts⟩ (kx_un (c_X5_lays_2 l dC dI h0 g_row g_many g_loss g_less g_voteValue g_voteNumber g_allValue g_allNumber g_nodeL g_nodeR g_part g_wasMany g_wasLoss g_wasValue g_wasNumber g_path g_heavyValue g_heavyTimes g_fewest g_which g_met m_n m_slots m_thrown o_9 o_8 m_partMany m_pathMany m_heavyMany m_mostMet cyI o_10 o_11 o_12 o_13 o_14 f o_15 o_16 o_17 o_18 y_5 p1 p2 H.size (om_336 b0 b1 i_4 d_6.2) (by omega) b2 b3 b4 (om_337 b1 b5 i_1 i_4 d_6.2 w_7.2.1) (om_338 b6 i_1 w_7.2.1) w_7.2.2.1 (by omega))) (cwV 3 hts gX5_lays_X5_lays rfl rfl rfl (by decide +kernel) ⟨Nat.le_of_ble_eq_true rfl, Nat.le_of_ble_eq_true rfl⟩) ⟨fun a U g mk q => by obtain ⟨q0, q1, qP, qK, qD⟩ := q; exact ⟨q0, q1, qP, va_K.moved (u := U) (U := U.calling g mk a) (Vm.Alike.refl U.vm) qK, qD⟩, kx_rc5 hKc hPc (q0 := 0) rfl, fun U hU hW => ⟨rfl, by rw [hU], by rw [hU]; exact hPc, va_K.moved hW.alike hKc, hDc.weaken (fun _ _ _ _ => trivial)⟩⟩ rfl rfl hl.1 rfl (lv_room (Nat.le_of_ble_eq_true rfl)) dX5_lays_76 ⟨Nat.le_of_ble_eq_true rfl, Nat.le_of_ble_eq_true rfl⟩) hS (fun q _ h => hFc q h) hFc (fun r_19 u t H1 locs ht hvm w_19 hB hz1 hk1 hS => ?_)
    obtain ⟨o_20, o_21, o_22, o_23, o_24, o_25, o_26, o_27, o_28, o_29, o_30⟩ := u
    dsimp only at w_19 hB
    obtain ⟨hP1, hK1, hD1⟩ := hB
    rw [ht] at hP1
    have hK1 := va_K.moved hvm.symm hK1
    have hD := hD1.weaken (fun _ q _ h => hFc q.1 h)
    have hP := hP1
    clear hP1 hD1 hK1 hk1 hz1 hFc hDc hPc hKc
    generalize H1 = H at hP hS ⊢
    have w_19 : r_19 = o_8 ∧ o_20.toInt = o_8.toInt + 2 * (p1.toInt - y_5.toInt) - 1 ∧ six4 o_22 ∧ mj_S p2.toNatClampNeg f o_29 o_30 o_22 o_23 o_24 o_25 o_26 2 o_8.toNatClampNeg y_5.toNatClampNeg p1.toNatClampNeg ∧ mj_ag 0 o_8.toNatClampNeg o_17 o_18 o_10 o_11 o_12 o_13 o_14 o_29 o_30 o_22 o_23 o_24 o_25 o_26 := w_19
    refine lv_istore (lv' := [(7, .int r_19), (6, .int r_7), (5, .int y_5), (4, .int m_nodes), (0, .ref h0), (1, .int p0), (2, .int p1), (3, .int p2)]) hx hb dX5_lays_79 hl (by decide) rfl (fun ls hl => ?_)
    have n_p0 := ki_nat p0 rfl (om_10 b0)
    have n_p1 := ki_nat p1 rfl (om_21 b0 b1)
    have n_p2 := ki_nat p2 rfl (om_51 b3)
    have n_nd := ki_nat m_nodes rfl (om_10 b5)
    have n_y := ki_nat y_1 rfl (om_34 b5 i_1)
    have n_md := ki_nat y_5 rfl (om_336 b0 b1 i_4 d_6.2)
    have n_oL := ki_nat o_8 rfl (om_337 b1 b5 i_1 i_4 d_6.2 w_7.2.1)
    have i_rL : r_7.toInt = y_1.toInt := congrArg Int32.toInt w_7.1
    have i_rR : r_19.toInt = o_8.toInt := congrArg Int32.toInt w_19.1
    obtain ⟨mua, La, ca, tA⟩ := w_7.2.2.2.1
    obtain ⟨mub, Lb, cb, tB⟩ := w_19.2.2.2.1
    obtain ⟨g_1, g_2, g_3, g_4, g_5, g_6⟩ := mj_ly9 n_p0 n_p1 n_nd n_y n_md n_oL i_1 i_4 i_5 w_7.2.1 b1 i_2 i_3
    have tA2 := mj_T_ag _ _ o_8.toNatClampNeg _ _ _ _ _ tA g_1 (mj_ag_sub w_19.2.2.2.2 (Nat.zero_le _) (Nat.le_refl _))
    have nA := mj_T_nd tA2
    have nB := mj_T_nd tB
    refine lv_aload_n hx hb dX5_lays_81 rfl (lv_at hl 4 rfl) ?_
    refine lv_iload hx hb dX5_lays_82 (lv_at hl 1 rfl) ?_
    refine lv_iload hx hb dX5_lays_84 (lv_at hl 0 rfl) ?_
    refine lv_iload hx hb dX5_lays_86 (lv_at hl 3 rfl) ?_
    refine lv_iload_n hx hb dX5_lays_88 rfl (lv_at hl 7 rfl) ?_
    obtain ⟨hPc, hDc, hFc, hCc⟩ := kx_preM (wc := [kx_5 h0 g_row m_n m_slots m_thrown g_many g_loss g_less g_voteValue g_voteNumber g_allValue g_allNumber o_21 g_nodeL g_nodeR o_20 g_part m_partMany g_wasMany g_wasLoss g_wasValue g_wasNumber g_path m_pathMany g_heavyValue g_heavyTimes m_heavyMany g_fewest g_which g_met m_mostMet, kx_a g_many cyI 324 o_22, kx_a g_loss cyI 324 o_23, kx_a g_less cyI 324 o_24, kx_a g_voteValue cyI 1944 o_25, kx_a g_voteNumber cyI 1944 o_26, kx_a g_allValue cyI 12 o_27, kx_a g_allNumber cyI 12 o_28]) hP hD hS hA [true, false, true, true, true, true, true, true, true, false, false] rfl
    have hKc := hK
    refine va_callv (va_runV (As := [.int r_7, .int r_19, .int m_nodes, .int p2]) (rest := []) ⟨hx, hb, hml, hown, hts⟩ (kx_un (c_X5_together l dC dI h0 g_row g_many g_loss g_less g_voteValue g_voteNumber g_allValue g_allNumber g_nodeL g_nodeR g_part g_wasMany g_wasLoss g_wasValue g_wasNumber g_path g_heavyValue g_heavyTimes g_fewest g_which g_met m_n m_slots m_thrown o_21 o_20 m_partMany m_pathMany m_heavyMany m_mostMet cyI o_22 o_23 o_24 o_25 o_26 o_27 o_28 mua mub r_7 r_19 m_nodes p2 H.size (om_339 b5 i_1 i_rL) (om_340 b1 b6 i_1 i_rL) (om_341 b1 b5 i_1 i_4 d_6.2 w_7.2.1 i_rR) (om_342 b1 b6 i_1 i_4 d_6.1 w_7.2.1 i_rR) (om_10 b5) (om_343 b1 b6) (om_51 b3) (om_344 b4) (by rw [w_7.1]; exact nA.2.2.1) (by rw [w_7.1]; exact nA.2.2.2.1) (by rw [w_19.1]; exact nB.2.2.1) (by rw [w_19.1]; exact nB.2.2.2.1) (by rw [w_7.1]; exact nA.2.2.2.2.2.2.2.1) (by rw [w_19.1]; exact nB.2.2.2.2.2.2.2.1) (fun v => by have h1 := mj_T_le _ _ _ _ _ _ _ tA2 v; have h2 := mj_T_le _ _ _ _ _ _ _ tB v; omega))) (cwV 4 hts gX5_lays_X5_together rfl rfl rfl (by decide +kernel) ⟨Nat.le_of_ble_eq_true rfl, Nat.le_of_ble_eq_true rfl⟩) ⟨fun a U g mk q => by obtain ⟨q0, q1, qP, qK, qD⟩ := q; exact ⟨q0, q1, qP, va_K.moved (u := U) (U := U.calling g mk a) (Vm.Alike.refl U.vm) qK, qD⟩, kx_rc5 hKc hPc (q0 := 0) rfl, fun U hU hW => ⟨rfl, by rw [hU], by rw [hU]; exact hPc, va_K.moved hW.alike hKc, hDc.weaken (fun _ _ _ _ => trivial)⟩⟩ rfl rfl hl.1 rfl (lv_room (Nat.le_of_ble_eq_true rfl)) dX5_lays_89 ⟨Nat.le_of_ble_eq_true rfl, Nat.le_of_ble_eq_true rfl⟩) hS (fun q _ h => hFc q h) hFc (fun u t H1 locs ht hvm w_31 hB hz1 hk1 hS => ?_)
    obtain ⟨o_32, o_33, o_34, o_35, o_36, o_37, o_38, o_39, o_40, o_41, o_42⟩ := u
    dsimp only at w_31 hB
    obtain ⟨hP1, hK1, hD1⟩ := hB
    rw [ht] at hP1
    have hK1 := va_K.moved hvm.symm hK1
    obtain ⟨hP, hD⟩ := kx_joinM (w2 := [kx_5 h0 g_row m_n m_slots m_thrown g_many g_loss g_less g_voteValue g_voteNumber g_allValue g_allNumber o_32 g_nodeL g_nodeR o_20 g_part m_partMany g_wasMany g_wasLoss g_wasValue g_wasNumber g_path m_pathMany g_heavyValue g_heavyTimes m_heavyMany g_fewest g_which g_met m_mostMet, kx_a g_row cyI 160 f, kx_a g_many cyI 324 o_36, kx_a g_loss cyI 324 o_37, kx_a g_less cyI 324 o_38, kx_a g_voteValue cyI 1944 o_39, kx_a g_voteNumber cyI 1944 o_40, kx_a g_allValue cyI 12 o_41, kx_a g_allNumber cyI 12 o_42, kx_a g_nodeL cyI 320 o_29, kx_a g_nodeR cyI 320 o_30]) hP hD hP1 hD1 hk1 hFc [true, false, true, true, true, true, true, true, true, false, false] hCc rfl
    clear hP1 hD1 hK1 hk1 hz1 hFc hDc hPc hKc hCc
    generalize H1 = H at hP hS ⊢
    have w_31 : mj_tog p2.toNatClampNeg mua mub o_35 o_33 ∧ o_37 = upd o_23 m_nodes.toNatClampNeg (o_23 r_7.toNatClampNeg + o_23 r_19.toNatClampNeg + o_33) ∧ o_38 = upd o_24 m_nodes.toNatClampNeg o_33 ∧ o_36 = upd o_22 m_nodes.toNatClampNeg o_34 ∧ 0 ≤ o_34.toInt ∧ o_34.toInt ≤ p2.toInt ∧ mj_vs o_39 o_40 (6 * m_nodes.toNatClampNeg) o_34.toNatClampNeg o_35 ∧ mj_srt o_39 o_40 (6 * m_nodes.toNatClampNeg) o_34.toNatClampNeg ∧ ∀ q : Nat, (q < 6 * m_nodes.toNatClampNeg ∨ 6 * m_nodes.toNatClampNeg + 6 ≤ q) → o_39 q = o_25 q ∧ o_40 q = o_26 q := w_31
    refine lv_iload hx hb dX5_lays_92 (lv_at hl 3 rfl) ?_
    have hP9 := hP
    have hD9 := hD
    have hK9 := hK
    have e_fl := w_31.2.1
    rw [w_7.1, w_19.1] at e_fl
    have hN := mj_lay_node (l := p0.toNatClampNeg) (r := p1.toNatClampNeg) (md := y_5.toNatClampNeg) (a := m_nodes.toNatClampNeg) g_2 g_3 n_p0.symm n_p1.symm g_4 g_5 (mj_ag_sub w_7.2.2.2.2 (Nat.le_refl _) g_6) w_19.2.2.2.2 tA2 tB w_31.1 w_31.2.2.2.1 w_31.2.2.2.2.1 (Int.le_trans w_31.2.2.2.2.2.1 (Int.le_of_eq n_p2.symm)) (mj_ln6 n_p2 b4) e_fl w_31.2.2.1 w_31.2.2.2.2.2.2.1 w_31.2.2.2.2.2.2.2.1 w_31.2.2.2.2.2.2.2.2
    exact W.iret (v := m_nodes) hx hb hr (hlocks := hlocks) (fun t ht hW => ⟨⟨m_nodes, (o_20, o_32, o_36, o_37, o_38, o_39, o_40, o_41, o_42, o_29, o_30), rfl, ⟨rfl, (om_345 i_1 w_7.2.1 w_19.2.1), (by (try dsimp only); rw [w_31.2.2.2.1]; exact six4_upd w_19.2.2.1 w_31.2.2.2.2.1 (om_346 b4 w_31.2.2.2.2.2.1)), hN.1, hN.2⟩, by rw [ht]; exact hP9, va_K.moved hW.alike hK9, hD9⟩, hS.F ht⟩) hS.2.2 dX5_lays_94
  · have i_3 : y_2.toInt = 1 := kc_eq c_3
    refine lv_aload_n hx hb dX5_lays_39 rfl (lv_at hl 1 rfl) ?_
    refine lv_iload hx hb dX5_lays_40 (lv_at hl 0 rfl) ?_
    refine lv_aload_n hx hb dX5_lays_42 rfl (lv_at hl 1 rfl) ?_
    refine va_get (D := (dC, dI)) (ci := 5) (v := .ref g_row) (C := RX5) (T := TX5) (N := 30) hx hb hts hi_5 hown hK hP 0 rfl rfl 0 (by decide) hf_7 (fun _ h9 => h9) rfl dX5_lays_43 ?_
    refine lv_iload_n hx hb dX5_lays_46 rfl (lv_at hl 2 rfl) ?_
    refine va_iald hx hb hK hP 1 0 rfl rfl (ki_in (om_10 b0) (om_85 b1 b2)) dX5_lays_47 ?_
    refine lv_topi (fun y_43 ey_43 => ?_)
    have j_43 : y_43.toInt = (f p0.toNatClampNeg).toInt := congrArg Int32.toInt ey_43
    obtain ⟨hPc, hDc, hFc, hCc⟩ := kx_preM (wc := [kx_5 h0 g_row m_n m_slots m_thrown g_many g_loss g_less g_voteValue g_voteNumber g_allValue g_allNumber m_allMany g_nodeL g_nodeR y_1 g_part m_partMany g_wasMany g_wasLoss g_wasValue g_wasNumber g_path m_pathMany g_heavyValue g_heavyTimes m_heavyMany g_fewest g_which g_met m_mostMet, kx_a g_many cyI 324 fm, kx_a g_loss cyI 324 fl, kx_a g_less cyI 324 fe, kx_a g_voteValue cyI 1944 vv, kx_a g_voteNumber cyI 1944 vn]) hP hD hS hA [true, false, true, true, true, true, true, false, false, false, false] rfl
    have hKc := hK
    refine va_callv (va_runV (As := [.int m_nodes, .int y_43]) (rest := []) ⟨hx, hb, hml, hown, hts⟩ (kx_un (c_X5_one_x l dC dI h0 g_row g_many g_loss g_less g_voteValue g_voteNumber g_allValue g_allNumber g_nodeL g_nodeR g_part g_wasMany g_wasLoss g_wasValue g_wasNumber g_path g_heavyValue g_heavyTimes g_fewest g_which g_met m_n m_slots m_thrown m_allMany y_1 m_partMany m_pathMany m_heavyMany m_mostMet cyI fm fl fe vv vn m_nodes y_43 H.size b5 (om_327 b1 b6))) (cwV 2 hts gX5_lays_X5_one rfl rfl rfl (by decide +kernel) ⟨Nat.le_of_ble_eq_true rfl, Nat.le_of_ble_eq_true rfl⟩) ⟨fun a U g mk q => by obtain ⟨q0, q1, qP, qK, qD⟩ := q; exact ⟨q0, q1, qP, va_K.moved (u := U) (U := U.calling g mk a) (Vm.Alike.refl U.vm) qK, qD⟩, kx_rc5 hKc hPc (q0 := 0) rfl, fun U hU hW => ⟨rfl, by rw [hU], by rw [hU]; exact hPc, va_K.moved hW.alike hKc, hDc.weaken (fun _ _ _ _ => trivial)⟩⟩ rfl rfl hl.1 rfl (lv_room (Nat.le_of_ble_eq_true rfl)) dX5_lays_48 ⟨Nat.le_of_ble_eq_true rfl, Nat.le_of_ble_eq_true rfl⟩) hS (fun q _ h => hFc q h) hFc (fun u t H1 locs ht hvm w_44 hB hz1 hk1 hS => ?_)
    obtain ⟨o_45, o_46, o_47, o_48, o_49⟩ := u
    dsimp only at w_44 hB
    obtain ⟨hP1, hK1, hD1⟩ := hB
    rw [ht] at hP1
    have hK1 := va_K.moved hvm.symm hK1
    obtain ⟨hP, hD⟩ := kx_joinM (w2 := [kx_5 h0 g_row m_n m_slots m_thrown g_many g_loss g_less g_voteValue g_voteNumber g_allValue g_allNumber m_allMany g_nodeL g_nodeR y_1 g_part m_partMany g_wasMany g_wasLoss g_wasValue g_wasNumber g_path m_pathMany g_heavyValue g_heavyTimes m_heavyMany g_fewest g_which g_met m_mostMet, kx_a g_row cyI 160 f, kx_a g_many cyI 324 o_45, kx_a g_loss cyI 324 o_46, kx_a g_less cyI 324 o_47, kx_a g_voteValue cyI 1944 o_48, kx_a g_voteNumber cyI 1944 o_49, kx_a g_allValue cyI 12 av, kx_a g_allNumber cyI 12 an, kx_a g_nodeL cyI 320 (upd nl m_nodes.toNatClampNeg p0), kx_a g_nodeR cyI 320 (upd nr m_nodes.toNatClampNeg p1)]) hP hD hP1 hD1 hk1 hFc [true, false, true, true, true, true, true, false, false, false, false] hCc rfl
    clear hP1 hD1 hK1 hk1 hz1 hFc hDc hPc hKc hCc
    generalize H1 = H at hP hS ⊢
    have w_44 : o_45 = upd fm m_nodes.toNatClampNeg 1 ∧ o_46 = upd fl m_nodes.toNatClampNeg 0 ∧ o_47 = upd fe m_nodes.toNatClampNeg 0 ∧ o_48 = upd vv (6 * m_nodes.toNatClampNeg) y_43 ∧ o_49 = upd vn (6 * m_nodes.toNatClampNeg) 1 := w_44
    refine lv_iload hx hb dX5_lays_51 (lv_at hl 0 rfl) ?_
    have hP9 := hP
    have hD9 := hD
    have hK9 := hK
    have n_p0 := ki_nat p0 rfl (om_10 b0)
    have n_p1 := ki_nat p1 rfl (om_21 b0 b1)
    have n_p2 := ki_nat p2 rfl (om_51 b3)
    have n_nd := ki_nat m_nodes rfl (om_10 b5)
    have e_vv := w_44.2.2.2.1
    rw [ey_43] at e_vv
    have hN := mj_lay_leaf (K := p2.toNatClampNeg) (f := f) (nl := nl) (nr := nr) (l := p0.toNatClampNeg) (r := p1.toNatClampNeg) (l32 := p0) (r32 := p1) 3 (mj_ln1 n_p2 b3) (mj_lf9 n_p0 n_p1 i_2 i_3) n_p0.symm n_p1.symm w_44.1 w_44.2.1 w_44.2.2.1 e_vv w_44.2.2.2.2
    exact W.iret (v := m_nodes) hx hb hr (hlocks := hlocks) (fun t ht hW => ⟨⟨m_nodes, (y_1, m_allMany, o_45, o_46, o_47, o_48, o_49, av, an, (upd nl m_nodes.toNatClampNeg p0), (upd nr m_nodes.toNatClampNeg p1)), rfl, ⟨rfl, (om_347 b1 i_1 i_2 i_3), (by (try dsimp only); rw [w_44.1]; exact six4_upd s4 (by decide) (by decide)), hN.1, hN.2⟩, by rw [ht]; exact hP9, va_K.moved hW.alike hK9, hD9⟩, hS.F ht⟩) hS.2.2 dX5_lays_53

set_option maxHeartbeats 4000000 in
set_option maxRecDepth 100000 in
theorem c_X5_lays_4 (l : Launch) (dC : Nat → ClassId) (dI : Nat → Nat → Nat) (h0 : Nat) (g_row : Nat) (g_many : Nat) (g_loss : Nat) (g_less : Nat) (g_voteValue : Nat) (g_voteNumber : Nat) (g_allValue : Nat) (g_allNumber : Nat) (g_nodeL : Nat) (g_nodeR : Nat) (g_part : Nat) (g_wasMany : Nat) (g_wasLoss : Nat) (g_wasValue : Nat) (g_wasNumber : Nat) (g_path : Nat) (g_heavyValue : Nat) (g_heavyTimes : Nat) (g_fewest : Nat) (g_which : Nat) (g_met : Nat) (m_n : Int32) (m_slots : Int32) (m_thrown : Int32) (m_allMany : Int32) (m_nodes : Int32) (m_partMany : Int32) (m_pathMany : Int32) (m_heavyMany : Int32) (m_mostMet : Int32) (cyI : ClassId) (fm : Nat → Int32) (fl : Nat → Int32) (fe : Nat → Int32) (vv : Nat → Int32) (vn : Nat → Int32) (f : Nat → Int32) (av : Nat → Int32) (an : Nat → Int32) (nl : Nat → Int32) (nr : Nat → Int32) (p0 : Int32) (p1 : Int32) (p2 : Int32) (sz : Nat) (b0 : 0 ≤ p0.toInt) (b1 : p0.toInt < p1.toInt) (b2 : p1.toInt ≤ 160) (b3 : 1 ≤ p2.toInt) (b4 : p2.toInt ≤ 6) (b5 : 0 ≤ m_nodes.toInt) (b6 : m_nodes.toInt + 2 * (p1.toInt - p0.toInt) - 1 ≤ 319) (s4 : six4 fm) (b7 : p1.toInt - p0.toInt ≤ 16) : kx_MQ l (dC, dI) yX5_lays wsX5_lays ({ frames := 6, cells := 0, slots := 0, locals := 270 }) [.ref h0, .int p0, .int p1, .int p2] [kx_5 h0 g_row m_n m_slots m_thrown g_many g_loss g_less g_voteValue g_voteNumber g_allValue g_allNumber m_allMany g_nodeL g_nodeR m_nodes g_part m_partMany g_wasMany g_wasLoss g_wasValue g_wasNumber g_path m_pathMany g_heavyValue g_heavyTimes m_heavyMany g_fewest g_which g_met m_mostMet, kx_a g_row cyI 160 f, kx_a g_many cyI 324 fm, kx_a g_loss cyI 324 fl, kx_a g_less cyI 324 fe, kx_a g_voteValue cyI 1944 vv, kx_a g_voteNumber cyI 1944 vn, kx_a g_allValue cyI 12 av, kx_a g_allNumber cyI 12 an, kx_a g_nodeL cyI 320 nl, kx_a g_nodeR cyI 320 nr] [(cyI, .int)] sz (fun A => va_Qi (fun (r : Int32) (u : Int32 × Int32 × (Nat → Int32) × (Nat → Int32) × (Nat → Int32) × (Nat → Int32) × (Nat → Int32) × (Nat → Int32) × (Nat → Int32) × (Nat → Int32) × (Nat → Int32)) => r = m_nodes ∧ u.1.toInt = m_nodes.toInt + 2 * (p1.toInt - p0.toInt) - 1 ∧ six4 u.2.2.1 ∧ mj_S p2.toNatClampNeg f u.2.2.2.2.2.2.2.2.2.1 u.2.2.2.2.2.2.2.2.2.2 u.2.2.1 u.2.2.2.1 u.2.2.2.2.1 u.2.2.2.2.2.1 u.2.2.2.2.2.2.1 4 m_nodes.toNatClampNeg p0.toNatClampNeg p1.toNatClampNeg ∧ mj_ag 0 m_nodes.toNatClampNeg nl nr fm fl fe vv vn u.2.2.2.2.2.2.2.2.2.1 u.2.2.2.2.2.2.2.2.2.2 u.2.2.1 u.2.2.2.1 u.2.2.2.2.1 u.2.2.2.2.2.1 u.2.2.2.2.2.2.1) (fun (u : Int32 × Int32 × (Nat → Int32) × (Nat → Int32) × (Nat → Int32) × (Nat → Int32) × (Nat → Int32) × (Nat → Int32) × (Nat → Int32) × (Nat → Int32) × (Nat → Int32)) (t : State) => va_P (dC, dI) vwCl [kx_5 h0 g_row m_n m_slots m_thrown g_many g_loss g_less g_voteValue g_voteNumber g_allValue g_allNumber u.2.1 g_nodeL g_nodeR u.1 g_part m_partMany g_wasMany g_wasLoss g_wasValue g_wasNumber g_path m_pathMany g_heavyValue g_heavyTimes m_heavyMany g_fewest g_which g_met m_mostMet, kx_a g_row cyI 160 f, kx_a g_many cyI 324 u.2.2.1, kx_a g_loss cyI 324 u.2.2.2.1, kx_a g_less cyI 324 u.2.2.2.2.1, kx_a g_voteValue cyI 1944 u.2.2.2.2.2.1, kx_a g_voteNumber cyI 1944 u.2.2.2.2.2.2.1, kx_a g_allValue cyI 12 u.2.2.2.2.2.2.2.1, kx_a g_allNumber cyI 12 u.2.2.2.2.2.2.2.2.1, kx_a g_nodeL cyI 320 u.2.2.2.2.2.2.2.2.2.1, kx_a g_nodeR cyI 320 u.2.2.2.2.2.2.2.2.2.2] t.heap ∧ va_K (dC, dI) vwCl [(cyI, .int)] t ∧ va_D A [kx_5 h0 g_row m_n m_slots m_thrown g_many g_loss g_less g_voteValue g_voteNumber g_allValue g_allNumber u.2.1 g_nodeL g_nodeR u.1 g_part m_partMany g_wasMany g_wasLoss g_wasValue g_wasNumber g_path m_pathMany g_heavyValue g_heavyTimes m_heavyMany g_fewest g_which g_met m_mostMet, kx_a g_row cyI 160 f, kx_a g_many cyI 324 u.2.2.1, kx_a g_loss cyI 324 u.2.2.2.1, kx_a g_less cyI 324 u.2.2.2.2.1, kx_a g_voteValue cyI 1944 u.2.2.2.2.2.1, kx_a g_voteNumber cyI 1944 u.2.2.2.2.2.2.1, kx_a g_allValue cyI 12 u.2.2.2.2.2.2.2.1, kx_a g_allNumber cyI 12 u.2.2.2.2.2.2.2.2.1, kx_a g_nodeL cyI 320 u.2.2.2.2.2.2.2.2.2.1, kx_a g_nodeR cyI 320 u.2.2.2.2.2.2.2.2.2.2]) A) := by
  refine kx_stQ (ws := wsX5_lays) (cc := cX5_lays) (maxL := 8) (ret := (some .int)) (by decide) rfl (Nat.le_of_ble_eq_true rfl) ?_
  intro p e s m below meth c A ls hx hb hr hlocks hts hown hml hA hS hP hK hD hl
  have hown : s.vm.findClass RX5 = some m.cls := hown
  have hl : lv_has ls 8 [(0, .ref h0), (1, .int p0), (2, .int p1), (3, .int p2)] := hl
  have hf_101 := hts (.fieldLink RX5 101 "MajorityIndexModel" "nodes" "I") (List.mem_of_getElem? (i := 1) rfl)
  have hi_5 : ∀ w ∈ u_ws RX5 TX5 30, w ∈ wsX5_lays := fun w h => List.mem_cons_of_mem _ (List.mem_append_right _ h)
  have hf_38 := hts (.fieldLink RX5 38 "MajorityIndexModel" "nodeL" "[I") (List.mem_of_getElem? (i := 2) rfl)
  have hf_41 := hts (.fieldLink RX5 41 "MajorityIndexModel" "nodeR" "[I") (List.mem_of_getElem? (i := 3) rfl)
  have hf_7 := hts (.fieldLink RX5 7 "MajorityIndexModel" "row" "[I") (List.mem_of_getElem? (i := 4) rfl)
  refine lv_aload_n hx hb dX5_lays_0 rfl (lv_at hl 0 rfl) ?_
  refine va_get (D := (dC, dI)) (ci := 5) (v := .int m_nodes) (C := RX5) (T := TX5) (N := 30) hx hb hts hi_5 hown hK hP 0 rfl rfl 14 (by decide) hf_101 (fun _ h9 => h9) rfl dX5_lays_1 ?_
  refine lv_istore (lv' := [(4, .int m_nodes), (0, .ref h0), (1, .int p0), (2, .int p1), (3, .int p2)]) hx hb dX5_lays_4 hl (by decide) rfl (fun ls hl => ?_)
  refine lv_aload_n hx hb dX5_lays_6 rfl (lv_at hl 1 rfl) ?_
  refine lv_dup hx hb dX5_lays_7 rfl ?_
  refine va_get (D := (dC, dI)) (ci := 5) (v := .int m_nodes) (C := RX5) (T := TX5) (N := 30) hx hb hts hi_5 hown hK hP 0 rfl rfl 14 (by decide) hf_101 (fun _ h9 => h9) rfl dX5_lays_8 ?_
  refine lv_iconst (v := 1) hx hb dX5_lays_11 (by decide) ?_
  refine lv_iadd hx hb dX5_lays_12 ?_
  refine lv_topi (fun y_1 ey_1 => ?_)
  have i_1 : y_1.toInt = m_nodes.toInt + 1 := ki_add ey_1 rfl rfl (om_13 b5) (om_324 b1 b6)
  refine va_put (D := (dC, dI)) (ci := 5) (v := .int y_1) (ty := .int) (C := RX5) (T := TX5) (N := 30) hx hb hts hi_5 tyX5 tyX5_ok nmX5 hown hK hP hD hS 0 rfl rfl 14 (by decide) hf_101 (fun _ h9 => h9) rfl (by decide +kernel) rfl rfl (Nat.le_of_ble_eq_true rfl) dX5_lays_13 (fun H locs hP hD hS => ?_)
  obtain ⟨hP, hD⟩ := kx_re (w2 := [kx_5 h0 g_row m_n m_slots m_thrown g_many g_loss g_less g_voteValue g_voteNumber g_allValue g_allNumber m_allMany g_nodeL g_nodeR y_1 g_part m_partMany g_wasMany g_wasLoss g_wasValue g_wasNumber g_path m_pathMany g_heavyValue g_heavyTimes m_heavyMany g_fewest g_which g_met m_mostMet, kx_a g_row cyI 160 f, kx_a g_many cyI 324 fm, kx_a g_loss cyI 324 fl, kx_a g_less cyI 324 fe, kx_a g_voteValue cyI 1944 vv, kx_a g_voteNumber cyI 1944 vn, kx_a g_allValue cyI 12 av, kx_a g_allNumber cyI 12 an, kx_a g_nodeL cyI 320 nl, kx_a g_nodeR cyI 320 nr]) hP hD rfl
  refine lv_aload_n hx hb dX5_lays_16 rfl (lv_at hl 1 rfl) ?_
  refine va_get (D := (dC, dI)) (ci := 5) (v := .ref g_nodeL) (C := RX5) (T := TX5) (N := 30) hx hb hts hi_5 hown hK hP 0 rfl rfl 12 (by decide) hf_38 (fun _ h9 => h9) rfl dX5_lays_17 ?_
  refine lv_iload hx hb dX5_lays_20 (lv_at hl 0 rfl) ?_
  refine lv_iload_n hx hb dX5_lays_22 rfl (lv_at hl 2 rfl) ?_
  refine va_iast hx hb hK hP hD hS 9 0 rfl rfl (ki_in (om_10 b5) (om_325 b1 b6)) dX5_lays_23 (fun H locs hP hD hS => ?_)
  obtain ⟨hP, hD⟩ := kx_re (w2 := [kx_5 h0 g_row m_n m_slots m_thrown g_many g_loss g_less g_voteValue g_voteNumber g_allValue g_allNumber m_allMany g_nodeL g_nodeR y_1 g_part m_partMany g_wasMany g_wasLoss g_wasValue g_wasNumber g_path m_pathMany g_heavyValue g_heavyTimes m_heavyMany g_fewest g_which g_met m_mostMet, kx_a g_row cyI 160 f, kx_a g_many cyI 324 fm, kx_a g_loss cyI 324 fl, kx_a g_less cyI 324 fe, kx_a g_voteValue cyI 1944 vv, kx_a g_voteNumber cyI 1944 vn, kx_a g_allValue cyI 12 av, kx_a g_allNumber cyI 12 an, kx_a g_nodeL cyI 320 (upd nl m_nodes.toNatClampNeg p0), kx_a g_nodeR cyI 320 nr]) hP hD rfl
  refine lv_aload_n hx hb dX5_lays_24 rfl (lv_at hl 1 rfl) ?_
  refine va_get (D := (dC, dI)) (ci := 5) (v := .ref g_nodeR) (C := RX5) (T := TX5) (N := 30) hx hb hts hi_5 hown hK hP 0 rfl rfl 13 (by decide) hf_41 (fun _ h9 => h9) rfl dX5_lays_25 ?_
  refine lv_iload hx hb dX5_lays_28 (lv_at hl 0 rfl) ?_
  refine lv_iload_n hx hb dX5_lays_30 rfl (lv_at hl 3 rfl) ?_
  refine va_iast hx hb hK hP hD hS 10 0 rfl rfl (ki_in (om_10 b5) (om_325 b1 b6)) dX5_lays_31 (fun H locs hP hD hS => ?_)
  obtain ⟨hP, hD⟩ := kx_re (w2 := [kx_5 h0 g_row m_n m_slots m_thrown g_many g_loss g_less g_voteValue g_voteNumber g_allValue g_allNumber m_allMany g_nodeL g_nodeR y_1 g_part m_partMany g_wasMany g_wasLoss g_wasValue g_wasNumber g_path m_pathMany g_heavyValue g_heavyTimes m_heavyMany g_fewest g_which g_met m_mostMet, kx_a g_row cyI 160 f, kx_a g_many cyI 324 fm, kx_a g_loss cyI 324 fl, kx_a g_less cyI 324 fe, kx_a g_voteValue cyI 1944 vv, kx_a g_voteNumber cyI 1944 vn, kx_a g_allValue cyI 12 av, kx_a g_allNumber cyI 12 an, kx_a g_nodeL cyI 320 (upd nl m_nodes.toNatClampNeg p0), kx_a g_nodeR cyI 320 (upd nr m_nodes.toNatClampNeg p1)]) hP hD rfl
  refine lv_iload_n hx hb dX5_lays_32 rfl (lv_at hl 3 rfl) ?_
  refine lv_iload_n hx hb dX5_lays_33 rfl (lv_at hl 2 rfl) ?_
  refine lv_isub hx hb dX5_lays_34 ?_
  refine lv_topi (fun y_2 ey_2 => ?_)
  have i_2 : y_2.toInt = p1.toInt - p0.toInt := ki_sub ey_2 rfl rfl (om_168 b1) (om_352 b7)
  refine lv_iconst (v := 1) hx hb dX5_lays_35 (by decide) ?_
  refine lv_icmp_ne (tgt := 54) hx hb dX5_lays_36 (by decide) (fun c_3 => ?_) (fun c_3 => ?_)
  · have i_3 : ¬ y_2.toInt = 1 := kc_ne c_3
    refine lv_iload_n hx hb dX5_lays_54 rfl (lv_at hl 2 rfl) ?_
    refine lv_iload_n hx hb dX5_lays_55 rfl (lv_at hl 3 rfl) ?_
    refine lv_iadd hx hb dX5_lays_56 ?_
    refine lv_topi (fun y_4 ey_4 => ?_)
    have i_4 : y_4.toInt = p0.toInt + p1.toInt := ki_add ey_4 rfl rfl (om_330 b0 b1) (om_331 b1 b2)
    refine lv_iconst (v := 2) hx hb dX5_lays_57 (by decide) ?_
    refine lv_idiv hx hb dX5_lays_58 (by decide) ?_
    refine lv_topi (fun y_5 ey_5 => ?_)
    have i_5 : y_5.toInt = y_4.toInt / 2 := ki_div2 ey_5 rfl (om_332 b0 b1 i_4)
    have d_6 := om_dv i_5
    refine lv_istore (lv' := [(5, .int y_5), (4, .int m_nodes), (0, .ref h0), (1, .int p0), (2, .int p1), (3, .int p2)]) hx hb dX5_lays_59 hl (by decide) rfl (fun ls hl => ?_)
    refine lv_aload_n hx hb dX5_lays_61 rfl (lv_at hl 2 rfl) ?_
    refine lv_iload_n hx hb dX5_lays_62 rfl (lv_at hl 3 rfl) ?_
    refine lv_iload hx hb dX5_lays_63 (lv_at hl 0 rfl) ?_
    refine lv_iload_n hx hb dX5_lays_65 rfl (lv_at hl 5 rfl) ?_
    have hPc := hP
    have hKc := hK
    have hDc := hD
    have hFc := kx_free hD hS hA
    refine va_calli (va_runV (As := [.int p0, .int y_5, .int p2]) (rest := []) ⟨hx, hb, hml, hown, hts⟩ (kx_un (c_X5_lays_3 l dC dI h0 g_row g_many g_loss g_less g_voteValue g_voteNumber g_allValue g_allNumber g_nodeL g_nodeR g_part g_wasMany g_wasLoss g_wasValue g_wasNumber g_path g_heavyValue g_heavyTimes g_fewest g_which g_met m_n m_slots m_thrown m_allMany y_1 m_partMany m_pathMany m_heavyMany m_mostMet cyI fm fl fe vv vn f av an (upd nl m_nodes.toNatClampNeg p0) (upd nr m_nodes.toNatClampNeg p1) p0 y_5 p2 H.size b0 (by omega) (om_333 b1 b2 i_4 d_6.1) b3 b4 (om_34 b5 i_1) (om_334 b1 b6 i_1 i_4 d_6.1) s4 (om_353 b7 i_4 d_6.1))) (cwV 3 hts gX5_lays_X5_lays rfl rfl rfl (by decide +kernel) ⟨Nat.le_of_ble_eq_true rfl, Nat.le_of_ble_eq_true rfl⟩) ⟨fun a U g mk q => by obtain ⟨q0, q1, qP, qK, qD⟩ := q; exact ⟨q0, q1, qP, va_K.moved (u := U) (U := U.calling g mk a) (Vm.Alike.refl U.vm) qK, qD⟩, kx_rc5 hKc hPc (q0 := 0) rfl, fun U hU hW => ⟨rfl, by rw [hU], by rw [hU]; exact hPc, va_K.moved hW.alike hKc, hDc.weaken (fun _ _ _ _ => trivial)⟩⟩ rfl rfl hl.1 rfl (lv_room (Nat.le_of_ble_eq_true rfl)) dX5_lays_66 ⟨Nat.le_of_ble_eq_true rfl, Nat.le_of_ble_eq_true rfl⟩) hS (fun q _ h => hFc q h) hFc (fun r_7 u t H1 locs ht hvm w_7 hB hz1 hk1 hS => ?_)
    obtain ⟨o_8, o_9, o_10, o_11, o_12, o_13, o_14, o_15, o_16, o_17, o_18⟩ := u
    dsimp only at w_7 hB
    obtain ⟨hP1, hK1, hD1⟩ := hB
    rw [ht] at hP1
    have hK1 := va_K.moved hvm.symm hK1
    have hD := hD1.weaken (fun _ q _ h => hFc q.1 h)
    have hP := hP1
    clear hP1 hD1 hK1 hk1 hz1 hFc hDc hPc hKc
    generalize H1 = H at hP hS ⊢
    have w_7 : r_7 = y_1 ∧ o_8.toInt = y_1.toInt + 2 * (y_5.toInt - p0.toInt) - 1 ∧ six4 o_10 ∧ mj_S p2.toNatClampNeg f o_17 o_18 o_10 o_11 o_12 o_13 o_14 3 y_1.toNatClampNeg p0.toNatClampNeg y_5.toNatClampNeg ∧ mj_ag 0 y_1.toNatClampNeg (upd nl m_nodes.toNatClampNeg p0) (upd nr m_nodes.toNatClampNeg p1) fm fl fe vv vn o_17 o_18 o_10 o_11 o_12 o_13 o_14 := w_7
    refine lv_istore (lv' := [(6, .int r_7), (5, .int y_5), (4, .int m_nodes), (0, .ref h0), (1, .int p0), (2, .int p1), (3, .int p2)]) hx hb dX5_lays_69 hl (by decide) rfl (fun ls hl => ?_)
    refine lv_aload_n hx hb dX5_lays_71 rfl (lv_at hl 3 rfl) ?_
    refine lv_iload hx hb dX5_lays_72 (lv_at hl 1 rfl) ?_
    refine lv_iload_n hx hb dX5_lays_74 rfl (lv_at hl 5 rfl) ?_
    refine lv_iload_n hx hb dX5_lays_75 rfl (lv_at hl 6 rfl) ?_
    have hPc := hP
    have hKc := hK
    have hDc := hD
    have hFc := kx_free hD hS hA
    refine va_calli (va_runV (As := [.int y_5, .int p1, .int p2]) (rest := []) ⟨hx, hb, hml, hown, hts⟩ (kx_un (c_X5_lays_3 l dC dI h0 g_row g_many g_loss g_less g_voteValue g_voteNumber g_allValue g_allNumber g_nodeL g_nodeR g_part g_wasMany g_wasLoss g_wasValue g_wasNumber g_path g_heavyValue g_heavyTimes g_fewest g_which g_met m_n m_slots m_thrown o_9 o_8 m_partMany m_pathMany m_heavyMany m_mostMet cyI o_10 o_11 o_12 o_13 o_14 f o_15 o_16 o_17 o_18 y_5 p1 p2 H.size (om_336 b0 b1 i_4 d_6.2) (by omega) b2 b3 b4 (om_337 b1 b5 i_1 i_4 d_6.2 w_7.2.1) (om_338 b6 i_1 w_7.2.1) w_7.2.2.1 (by omega))) (cwV 3 hts gX5_lays_X5_lays rfl rfl rfl (by decide +kernel) ⟨Nat.le_of_ble_eq_true rfl, Nat.le_of_ble_eq_true rfl⟩) ⟨fun a U g mk q => by obtain ⟨q0, q1, qP, qK, qD⟩ := q; exact ⟨q0, q1, qP, va_K.moved (u := U) (U := U.calling g mk a) (Vm.Alike.refl U.vm) qK, qD⟩, kx_rc5 hKc hPc (q0 := 0) rfl, fun U hU hW => ⟨rfl, by rw [hU], by rw [hU]; exact hPc, va_K.moved hW.alike hKc, hDc.weaken (fun _ _ _ _ => trivial)⟩⟩ rfl rfl hl.1 rfl (lv_room (Nat.le_of_ble_eq_true rfl)) dX5_lays_76 ⟨Nat.le_of_ble_eq_true rfl, Nat.le_of_ble_eq_true rfl⟩) hS (fun q _ h => hFc q h) hFc (fun r_19 u t H1 locs ht hvm w_19 hB hz1 hk1 hS => ?_)
    obtain ⟨o_20, o_21, o_22, o_23, o_24, o_25, o_26, o_27, o_28, o_29, o_30⟩ := u
    dsimp only at w_19 hB
    obtain ⟨hP1, hK1, hD1⟩ := hB
    rw [ht] at hP1
    have hK1 := va_K.moved hvm.symm hK1
    have hD := hD1.weaken (fun _ q _ h => hFc q.1 h)
    have hP := hP1
    clear hP1 hD1 hK1 hk1 hz1 hFc hDc hPc hKc
    generalize H1 = H at hP hS ⊢
    have w_19 : r_19 = o_8 ∧ o_20.toInt = o_8.toInt + 2 * (p1.toInt - y_5.toInt) - 1 ∧ six4 o_22 ∧ mj_S p2.toNatClampNeg f o_29 o_30 o_22 o_23 o_24 o_25 o_26 3 o_8.toNatClampNeg y_5.toNatClampNeg p1.toNatClampNeg ∧ mj_ag 0 o_8.toNatClampNeg o_17 o_18 o_10 o_11 o_12 o_13 o_14 o_29 o_30 o_22 o_23 o_24 o_25 o_26 := w_19
    refine lv_istore (lv' := [(7, .int r_19), (6, .int r_7), (5, .int y_5), (4, .int m_nodes), (0, .ref h0), (1, .int p0), (2, .int p1), (3, .int p2)]) hx hb dX5_lays_79 hl (by decide) rfl (fun ls hl => ?_)
    have n_p0 := ki_nat p0 rfl (om_10 b0)
    have n_p1 := ki_nat p1 rfl (om_21 b0 b1)
    have n_p2 := ki_nat p2 rfl (om_51 b3)
    have n_nd := ki_nat m_nodes rfl (om_10 b5)
    have n_y := ki_nat y_1 rfl (om_34 b5 i_1)
    have n_md := ki_nat y_5 rfl (om_336 b0 b1 i_4 d_6.2)
    have n_oL := ki_nat o_8 rfl (om_337 b1 b5 i_1 i_4 d_6.2 w_7.2.1)
    have i_rL : r_7.toInt = y_1.toInt := congrArg Int32.toInt w_7.1
    have i_rR : r_19.toInt = o_8.toInt := congrArg Int32.toInt w_19.1
    obtain ⟨mua, La, ca, tA⟩ := w_7.2.2.2.1
    obtain ⟨mub, Lb, cb, tB⟩ := w_19.2.2.2.1
    obtain ⟨g_1, g_2, g_3, g_4, g_5, g_6⟩ := mj_ly9 n_p0 n_p1 n_nd n_y n_md n_oL i_1 i_4 i_5 w_7.2.1 b1 i_2 i_3
    have tA2 := mj_T_ag _ _ o_8.toNatClampNeg _ _ _ _ _ tA g_1 (mj_ag_sub w_19.2.2.2.2 (Nat.zero_le _) (Nat.le_refl _))
    have nA := mj_T_nd tA2
    have nB := mj_T_nd tB
    refine lv_aload_n hx hb dX5_lays_81 rfl (lv_at hl 4 rfl) ?_
    refine lv_iload hx hb dX5_lays_82 (lv_at hl 1 rfl) ?_
    refine lv_iload hx hb dX5_lays_84 (lv_at hl 0 rfl) ?_
    refine lv_iload hx hb dX5_lays_86 (lv_at hl 3 rfl) ?_
    refine lv_iload_n hx hb dX5_lays_88 rfl (lv_at hl 7 rfl) ?_
    obtain ⟨hPc, hDc, hFc, hCc⟩ := kx_preM (wc := [kx_5 h0 g_row m_n m_slots m_thrown g_many g_loss g_less g_voteValue g_voteNumber g_allValue g_allNumber o_21 g_nodeL g_nodeR o_20 g_part m_partMany g_wasMany g_wasLoss g_wasValue g_wasNumber g_path m_pathMany g_heavyValue g_heavyTimes m_heavyMany g_fewest g_which g_met m_mostMet, kx_a g_many cyI 324 o_22, kx_a g_loss cyI 324 o_23, kx_a g_less cyI 324 o_24, kx_a g_voteValue cyI 1944 o_25, kx_a g_voteNumber cyI 1944 o_26, kx_a g_allValue cyI 12 o_27, kx_a g_allNumber cyI 12 o_28]) hP hD hS hA [true, false, true, true, true, true, true, true, true, false, false] rfl
    have hKc := hK
    refine va_callv (va_runV (As := [.int r_7, .int r_19, .int m_nodes, .int p2]) (rest := []) ⟨hx, hb, hml, hown, hts⟩ (kx_un (c_X5_together l dC dI h0 g_row g_many g_loss g_less g_voteValue g_voteNumber g_allValue g_allNumber g_nodeL g_nodeR g_part g_wasMany g_wasLoss g_wasValue g_wasNumber g_path g_heavyValue g_heavyTimes g_fewest g_which g_met m_n m_slots m_thrown o_21 o_20 m_partMany m_pathMany m_heavyMany m_mostMet cyI o_22 o_23 o_24 o_25 o_26 o_27 o_28 mua mub r_7 r_19 m_nodes p2 H.size (om_339 b5 i_1 i_rL) (om_340 b1 b6 i_1 i_rL) (om_341 b1 b5 i_1 i_4 d_6.2 w_7.2.1 i_rR) (om_342 b1 b6 i_1 i_4 d_6.1 w_7.2.1 i_rR) (om_10 b5) (om_343 b1 b6) (om_51 b3) (om_344 b4) (by rw [w_7.1]; exact nA.2.2.1) (by rw [w_7.1]; exact nA.2.2.2.1) (by rw [w_19.1]; exact nB.2.2.1) (by rw [w_19.1]; exact nB.2.2.2.1) (by rw [w_7.1]; exact nA.2.2.2.2.2.2.2.1) (by rw [w_19.1]; exact nB.2.2.2.2.2.2.2.1) (fun v => by have h1 := mj_T_le _ _ _ _ _ _ _ tA2 v; have h2 := mj_T_le _ _ _ _ _ _ _ tB v; omega))) (cwV 4 hts gX5_lays_X5_together rfl rfl rfl (by decide +kernel) ⟨Nat.le_of_ble_eq_true rfl, Nat.le_of_ble_eq_true rfl⟩) ⟨fun a U g mk q => by obtain ⟨q0, q1, qP, qK, qD⟩ := q; exact ⟨q0, q1, qP, va_K.moved (u := U) (U := U.calling g mk a) (Vm.Alike.refl U.vm) qK, qD⟩, kx_rc5 hKc hPc (q0 := 0) rfl, fun U hU hW => ⟨rfl, by rw [hU], by rw [hU]; exact hPc, va_K.moved hW.alike hKc, hDc.weaken (fun _ _ _ _ => trivial)⟩⟩ rfl rfl hl.1 rfl (lv_room (Nat.le_of_ble_eq_true rfl)) dX5_lays_89 ⟨Nat.le_of_ble_eq_true rfl, Nat.le_of_ble_eq_true rfl⟩) hS (fun q _ h => hFc q h) hFc (fun u t H1 locs ht hvm w_31 hB hz1 hk1 hS => ?_)
    obtain ⟨o_32, o_33, o_34, o_35, o_36, o_37, o_38, o_39, o_40, o_41, o_42⟩ := u
    dsimp only at w_31 hB
    obtain ⟨hP1, hK1, hD1⟩ := hB
    rw [ht] at hP1
    have hK1 := va_K.moved hvm.symm hK1
    obtain ⟨hP, hD⟩ := kx_joinM (w2 := [kx_5 h0 g_row m_n m_slots m_thrown g_many g_loss g_less g_voteValue g_voteNumber g_allValue g_allNumber o_32 g_nodeL g_nodeR o_20 g_part m_partMany g_wasMany g_wasLoss g_wasValue g_wasNumber g_path m_pathMany g_heavyValue g_heavyTimes m_heavyMany g_fewest g_which g_met m_mostMet, kx_a g_row cyI 160 f, kx_a g_many cyI 324 o_36, kx_a g_loss cyI 324 o_37, kx_a g_less cyI 324 o_38, kx_a g_voteValue cyI 1944 o_39, kx_a g_voteNumber cyI 1944 o_40, kx_a g_allValue cyI 12 o_41, kx_a g_allNumber cyI 12 o_42, kx_a g_nodeL cyI 320 o_29, kx_a g_nodeR cyI 320 o_30]) hP hD hP1 hD1 hk1 hFc [true, false, true, true, true, true, true, true, true, false, false] hCc rfl
    clear hP1 hD1 hK1 hk1 hz1 hFc hDc hPc hKc hCc
    generalize H1 = H at hP hS ⊢
    have w_31 : mj_tog p2.toNatClampNeg mua mub o_35 o_33 ∧ o_37 = upd o_23 m_nodes.toNatClampNeg (o_23 r_7.toNatClampNeg + o_23 r_19.toNatClampNeg + o_33) ∧ o_38 = upd o_24 m_nodes.toNatClampNeg o_33 ∧ o_36 = upd o_22 m_nodes.toNatClampNeg o_34 ∧ 0 ≤ o_34.toInt ∧ o_34.toInt ≤ p2.toInt ∧ mj_vs o_39 o_40 (6 * m_nodes.toNatClampNeg) o_34.toNatClampNeg o_35 ∧ mj_srt o_39 o_40 (6 * m_nodes.toNatClampNeg) o_34.toNatClampNeg ∧ ∀ q : Nat, (q < 6 * m_nodes.toNatClampNeg ∨ 6 * m_nodes.toNatClampNeg + 6 ≤ q) → o_39 q = o_25 q ∧ o_40 q = o_26 q := w_31
    refine lv_iload hx hb dX5_lays_92 (lv_at hl 3 rfl) ?_
    have hP9 := hP
    have hD9 := hD
    have hK9 := hK
    have e_fl := w_31.2.1
    rw [w_7.1, w_19.1] at e_fl
    have hN := mj_lay_node (l := p0.toNatClampNeg) (r := p1.toNatClampNeg) (md := y_5.toNatClampNeg) (a := m_nodes.toNatClampNeg) g_2 g_3 n_p0.symm n_p1.symm g_4 g_5 (mj_ag_sub w_7.2.2.2.2 (Nat.le_refl _) g_6) w_19.2.2.2.2 tA2 tB w_31.1 w_31.2.2.2.1 w_31.2.2.2.2.1 (Int.le_trans w_31.2.2.2.2.2.1 (Int.le_of_eq n_p2.symm)) (mj_ln6 n_p2 b4) e_fl w_31.2.2.1 w_31.2.2.2.2.2.2.1 w_31.2.2.2.2.2.2.2.1 w_31.2.2.2.2.2.2.2.2
    exact W.iret (v := m_nodes) hx hb hr (hlocks := hlocks) (fun t ht hW => ⟨⟨m_nodes, (o_20, o_32, o_36, o_37, o_38, o_39, o_40, o_41, o_42, o_29, o_30), rfl, ⟨rfl, (om_345 i_1 w_7.2.1 w_19.2.1), (by (try dsimp only); rw [w_31.2.2.2.1]; exact six4_upd w_19.2.2.1 w_31.2.2.2.2.1 (om_346 b4 w_31.2.2.2.2.2.1)), hN.1, hN.2⟩, by rw [ht]; exact hP9, va_K.moved hW.alike hK9, hD9⟩, hS.F ht⟩) hS.2.2 dX5_lays_94
  · have i_3 : y_2.toInt = 1 := kc_eq c_3
    refine lv_aload_n hx hb dX5_lays_39 rfl (lv_at hl 1 rfl) ?_
    refine lv_iload hx hb dX5_lays_40 (lv_at hl 0 rfl) ?_
    refine lv_aload_n hx hb dX5_lays_42 rfl (lv_at hl 1 rfl) ?_
    refine va_get (D := (dC, dI)) (ci := 5) (v := .ref g_row) (C := RX5) (T := TX5) (N := 30) hx hb hts hi_5 hown hK hP 0 rfl rfl 0 (by decide) hf_7 (fun _ h9 => h9) rfl dX5_lays_43 ?_
    refine lv_iload_n hx hb dX5_lays_46 rfl (lv_at hl 2 rfl) ?_
    refine va_iald hx hb hK hP 1 0 rfl rfl (ki_in (om_10 b0) (om_85 b1 b2)) dX5_lays_47 ?_
    refine lv_topi (fun y_43 ey_43 => ?_)
    have j_43 : y_43.toInt = (f p0.toNatClampNeg).toInt := congrArg Int32.toInt ey_43
    obtain ⟨hPc, hDc, hFc, hCc⟩ := kx_preM (wc := [kx_5 h0 g_row m_n m_slots m_thrown g_many g_loss g_less g_voteValue g_voteNumber g_allValue g_allNumber m_allMany g_nodeL g_nodeR y_1 g_part m_partMany g_wasMany g_wasLoss g_wasValue g_wasNumber g_path m_pathMany g_heavyValue g_heavyTimes m_heavyMany g_fewest g_which g_met m_mostMet, kx_a g_many cyI 324 fm, kx_a g_loss cyI 324 fl, kx_a g_less cyI 324 fe, kx_a g_voteValue cyI 1944 vv, kx_a g_voteNumber cyI 1944 vn]) hP hD hS hA [true, false, true, true, true, true, true, false, false, false, false] rfl
    have hKc := hK
    refine va_callv (va_runV (As := [.int m_nodes, .int y_43]) (rest := []) ⟨hx, hb, hml, hown, hts⟩ (kx_un (c_X5_one_x l dC dI h0 g_row g_many g_loss g_less g_voteValue g_voteNumber g_allValue g_allNumber g_nodeL g_nodeR g_part g_wasMany g_wasLoss g_wasValue g_wasNumber g_path g_heavyValue g_heavyTimes g_fewest g_which g_met m_n m_slots m_thrown m_allMany y_1 m_partMany m_pathMany m_heavyMany m_mostMet cyI fm fl fe vv vn m_nodes y_43 H.size b5 (om_327 b1 b6))) (cwV 2 hts gX5_lays_X5_one rfl rfl rfl (by decide +kernel) ⟨Nat.le_of_ble_eq_true rfl, Nat.le_of_ble_eq_true rfl⟩) ⟨fun a U g mk q => by obtain ⟨q0, q1, qP, qK, qD⟩ := q; exact ⟨q0, q1, qP, va_K.moved (u := U) (U := U.calling g mk a) (Vm.Alike.refl U.vm) qK, qD⟩, kx_rc5 hKc hPc (q0 := 0) rfl, fun U hU hW => ⟨rfl, by rw [hU], by rw [hU]; exact hPc, va_K.moved hW.alike hKc, hDc.weaken (fun _ _ _ _ => trivial)⟩⟩ rfl rfl hl.1 rfl (lv_room (Nat.le_of_ble_eq_true rfl)) dX5_lays_48 ⟨Nat.le_of_ble_eq_true rfl, Nat.le_of_ble_eq_true rfl⟩) hS (fun q _ h => hFc q h) hFc (fun u t H1 locs ht hvm w_44 hB hz1 hk1 hS => ?_)
    obtain ⟨o_45, o_46, o_47, o_48, o_49⟩ := u
    dsimp only at w_44 hB
    obtain ⟨hP1, hK1, hD1⟩ := hB
    rw [ht] at hP1
    have hK1 := va_K.moved hvm.symm hK1
    obtain ⟨hP, hD⟩ := kx_joinM (w2 := [kx_5 h0 g_row m_n m_slots m_thrown g_many g_loss g_less g_voteValue g_voteNumber g_allValue g_allNumber m_allMany g_nodeL g_nodeR y_1 g_part m_partMany g_wasMany g_wasLoss g_wasValue g_wasNumber g_path m_pathMany g_heavyValue g_heavyTimes m_heavyMany g_fewest g_which g_met m_mostMet, kx_a g_row cyI 160 f, kx_a g_many cyI 324 o_45, kx_a g_loss cyI 324 o_46, kx_a g_less cyI 324 o_47, kx_a g_voteValue cyI 1944 o_48, kx_a g_voteNumber cyI 1944 o_49, kx_a g_allValue cyI 12 av, kx_a g_allNumber cyI 12 an, kx_a g_nodeL cyI 320 (upd nl m_nodes.toNatClampNeg p0), kx_a g_nodeR cyI 320 (upd nr m_nodes.toNatClampNeg p1)]) hP hD hP1 hD1 hk1 hFc [true, false, true, true, true, true, true, false, false, false, false] hCc rfl
    clear hP1 hD1 hK1 hk1 hz1 hFc hDc hPc hKc hCc
    generalize H1 = H at hP hS ⊢
    have w_44 : o_45 = upd fm m_nodes.toNatClampNeg 1 ∧ o_46 = upd fl m_nodes.toNatClampNeg 0 ∧ o_47 = upd fe m_nodes.toNatClampNeg 0 ∧ o_48 = upd vv (6 * m_nodes.toNatClampNeg) y_43 ∧ o_49 = upd vn (6 * m_nodes.toNatClampNeg) 1 := w_44
    refine lv_iload hx hb dX5_lays_51 (lv_at hl 0 rfl) ?_
    have hP9 := hP
    have hD9 := hD
    have hK9 := hK
    have n_p0 := ki_nat p0 rfl (om_10 b0)
    have n_p1 := ki_nat p1 rfl (om_21 b0 b1)
    have n_p2 := ki_nat p2 rfl (om_51 b3)
    have n_nd := ki_nat m_nodes rfl (om_10 b5)
    have e_vv := w_44.2.2.2.1
    rw [ey_43] at e_vv
    have hN := mj_lay_leaf (K := p2.toNatClampNeg) (f := f) (nl := nl) (nr := nr) (l := p0.toNatClampNeg) (r := p1.toNatClampNeg) (l32 := p0) (r32 := p1) 4 (mj_ln1 n_p2 b3) (mj_lf9 n_p0 n_p1 i_2 i_3) n_p0.symm n_p1.symm w_44.1 w_44.2.1 w_44.2.2.1 e_vv w_44.2.2.2.2
    exact W.iret (v := m_nodes) hx hb hr (hlocks := hlocks) (fun t ht hW => ⟨⟨m_nodes, (y_1, m_allMany, o_45, o_46, o_47, o_48, o_49, av, an, (upd nl m_nodes.toNatClampNeg p0), (upd nr m_nodes.toNatClampNeg p1)), rfl, ⟨rfl, (om_347 b1 i_1 i_2 i_3), (by (try dsimp only); rw [w_44.1]; exact six4_upd s4 (by decide) (by decide)), hN.1, hN.2⟩, by rw [ht]; exact hP9, va_K.moved hW.alike hK9, hD9⟩, hS.F ht⟩) hS.2.2 dX5_lays_53



abbrev cX5_laysAll : ByteArray := prog_7_method_14_code
def yX5_laysAll : MethodName := ⟨RX5, "laysAll", "(I)V"⟩
def wsX5_laysAll_r1 : List Cond := [Cond.fieldLink RX5 101 "MajorityIndexModel" "nodes" "I", Cond.fieldLink RX5 84 "MajorityIndexModel" "n" "I", Cond.methodLink RX5 107 yX5_lays, Cond.instanceMethod yX5_lays, Cond.selects RX5 yX5_lays yX5_lays, Cond.initialized RX5, Cond.code yX5_lays cX5_lays 8 (some .int), Cond.fieldLink RX5 38 "MajorityIndexModel" "nodeL" "[I", Cond.fieldLink RX5 41 "MajorityIndexModel" "nodeR" "[I", Cond.fieldLink RX5 7 "MajorityIndexModel" "row" "[I", Cond.methodLink RX5 104 yX5_one, Cond.instanceMethod yX5_one, Cond.selects RX5 yX5_one yX5_one, Cond.code yX5_one cX5_one 3 none, Cond.fieldLink RX5 17 "MajorityIndexModel" "many" "[I", Cond.fieldLink RX5 20 "MajorityIndexModel" "loss" "[I", Cond.fieldLink RX5 23 "MajorityIndexModel" "less" "[I", Cond.fieldLink RX5 26 "MajorityIndexModel" "voteValue" "[I", Cond.fieldLink RX5 29 "MajorityIndexModel" "voteNumber" "[I", Cond.methodLink RX5 111 yX5_together, Cond.instanceMethod yX5_together, Cond.selects RX5 yX5_together yX5_together, Cond.code yX5_together cX5_together 9 none, Cond.fieldLink RX5 87 "MajorityIndexModel" "allMany" "I"]
def wsX5_laysAll_r2 : List Cond := [Cond.fieldLink RX5 35 "MajorityIndexModel" "allNumber" "[I", Cond.fieldLink RX5 32 "MajorityIndexModel" "allValue" "[I", Cond.methodLink RX5 94 yX5_adds, Cond.instanceMethod yX5_adds, Cond.selects RX5 yX5_adds yX5_adds, Cond.code yX5_adds cX5_adds 4 none, Cond.methodLink RX5 98 yX5_sorts, Cond.instanceMethod yX5_sorts, Cond.selects RX5 yX5_sorts yX5_sorts, Cond.code yX5_sorts cX5_sorts 4 none, Cond.methodLink RX5 90 yX5_isAhead, Cond.instanceMethod yX5_isAhead, Cond.selects RX5 yX5_isAhead yX5_isAhead, Cond.code yX5_isAhead cX5_isAhead 3 (some .boolean)]
def wsX5_laysAll : List Cond := .code yX5_laysAll cX5_laysAll 2 none :: ((wsX5_laysAll_r1 ++ wsX5_laysAll_r2) ++ wsX50)
theorem mi_wsX5_laysAll_wsX5_laysAll_r1 : ∀ w ∈ wsX5_laysAll_r1, w ∈ wsX5_laysAll := fun _ h => (List.mem_cons_of_mem _ (List.mem_append_left _ (List.mem_append_left _ h)))
theorem mi_wsX5_laysAll_wsX5_laysAll_r2 : ∀ w ∈ wsX5_laysAll_r2, w ∈ wsX5_laysAll := fun _ h => (List.mem_cons_of_mem _ (List.mem_append_left _ (List.mem_append_right _ h)))
theorem mi_wsX5_laysAll_wsX50 : ∀ w ∈ wsX50, w ∈ wsX5_laysAll := fun _ h => (List.mem_cons_of_mem _ (List.mem_append_right _ h))
set_option maxRecDepth 20000 in
theorem ggX5_laysAll_X5_lays : GoodIn wsX5_laysAll wsX5_lays := goodIn_m _ [(wsX5_laysAll_r1, [false, false, false, false, false, false, true]), (wsX5_laysAll_r1, [true, false, false, false, false, false, false, true, true, true, true, true, true]), (wsX5_laysAll_r1, [false, false, false, false, false, true, false, false, false, false, false, false, false, true, true, true, true, true, true]), (wsX5_laysAll_r1, [false, false, true, true, true, false, false, false, false, false, false, false, false, false, false, false, false, false, false, true, true, true, true, true]), (wsX5_laysAll_r2, [true, true, true, true, true, true, true, true, true, true, true, true, true, true]), (wsX50, [true, true, true, true, true, true, true, true, true, true, true, true, true, true, true, true, true, true, true, true, true, true, true, true, true, true, true, true, true, true])] (gm_c mi_wsX5_laysAll_wsX5_laysAll_r1 (gm_c mi_wsX5_laysAll_wsX5_laysAll_r1 (gm_c mi_wsX5_laysAll_wsX5_laysAll_r1 (gm_c mi_wsX5_laysAll_wsX5_laysAll_r1 (gm_c mi_wsX5_laysAll_wsX5_laysAll_r2 (gm_c mi_wsX5_laysAll_wsX50 gm_n)))))) rfl (by decide +kernel)
set_option maxRecDepth 20000 in
theorem gX5_laysAll_X5_lays : GoodIn wsX5_laysAll (wsV RX5 107 RX5 yX5_lays wsX5_lays) := goodIn_app (goodIn_m _ [(wsX5_laysAll_r1, [false, false, true, true, true, true])] (gm_c mi_wsX5_laysAll_wsX5_laysAll_r1 gm_n) rfl (by decide +kernel)) ggX5_laysAll_X5_lays
def dt_cX5_laysAll_0 : List (Nat × Nat × Nat × Nat) := [(0, 42, 0, 0), (1, 3, 0, 0), (2, 181, 2, 101), (5, 42, 0, 0), (6, 180, 2, 84), (9, 158, 2, 14), (12, 42, 0, 0), (13, 3, 0, 0), (14, 42, 0, 0), (15, 180, 2, 84), (18, 27, 0, 0), (19, 182, 2, 107), (22, 87, 0, 0), (23, 177, 0, 0)]
theorem da_cX5_laysAll_0 : fw dt_cX5_laysAll_0 0 cX5_laysAll.data.toList = true := by decide +kernel
theorem dX5_laysAll_0 : decode cX5_laysAll 0 = .ok (.aload_n 0, 1) := fo_42 (fw_get da_cX5_laysAll_0 0 rfl)
theorem dX5_laysAll_1 : decode cX5_laysAll 1 = .ok (.iconst 0, 1) := fo_3 (fw_get da_cX5_laysAll_0 1 rfl)
theorem dX5_laysAll_2 : decode cX5_laysAll 2 = .ok (.putfield 101, 3) := fo_181 (fw_get da_cX5_laysAll_0 2 rfl)
theorem dX5_laysAll_5 : decode cX5_laysAll 5 = .ok (.aload_n 0, 1) := fo_42 (fw_get da_cX5_laysAll_0 3 rfl)
theorem dX5_laysAll_6 : decode cX5_laysAll 6 = .ok (.getfield 84, 3) := fo_180 (fw_get da_cX5_laysAll_0 4 rfl)
theorem dX5_laysAll_9 : decode cX5_laysAll 9 = .ok (.ifCond .le 14, 3) := fo_158 (fw_get da_cX5_laysAll_0 5 rfl) (by decide +kernel)
theorem dX5_laysAll_12 : decode cX5_laysAll 12 = .ok (.aload_n 0, 1) := fo_42 (fw_get da_cX5_laysAll_0 6 rfl)
theorem dX5_laysAll_13 : decode cX5_laysAll 13 = .ok (.iconst 0, 1) := fo_3 (fw_get da_cX5_laysAll_0 7 rfl)
theorem dX5_laysAll_14 : decode cX5_laysAll 14 = .ok (.aload_n 0, 1) := fo_42 (fw_get da_cX5_laysAll_0 8 rfl)
theorem dX5_laysAll_15 : decode cX5_laysAll 15 = .ok (.getfield 84, 3) := fo_180 (fw_get da_cX5_laysAll_0 9 rfl)
theorem dX5_laysAll_18 : decode cX5_laysAll 18 = .ok (.iload_n 1, 1) := fo_27 (fw_get da_cX5_laysAll_0 10 rfl)
theorem dX5_laysAll_19 : decode cX5_laysAll 19 = .ok (.invokevirtual 107, 3) := fo_182 (fw_get da_cX5_laysAll_0 11 rfl)
theorem dX5_laysAll_22 : decode cX5_laysAll 22 = .ok (.pop, 1) := fo_87 (fw_get da_cX5_laysAll_0 12 rfl)
theorem dX5_laysAll_23 : decode cX5_laysAll 23 = .ok (.return_, 1) := fo_177 (fw_get da_cX5_laysAll_0 13 rfl)


set_option maxHeartbeats 4000000 in
set_option maxRecDepth 100000 in
theorem c_X5_lays_5 (l : Launch) (dC : Nat → ClassId) (dI : Nat → Nat → Nat) (h0 : Nat) (g_row : Nat) (g_many : Nat) (g_loss : Nat) (g_less : Nat) (g_voteValue : Nat) (g_voteNumber : Nat) (g_allValue : Nat) (g_allNumber : Nat) (g_nodeL : Nat) (g_nodeR : Nat) (g_part : Nat) (g_wasMany : Nat) (g_wasLoss : Nat) (g_wasValue : Nat) (g_wasNumber : Nat) (g_path : Nat) (g_heavyValue : Nat) (g_heavyTimes : Nat) (g_fewest : Nat) (g_which : Nat) (g_met : Nat) (m_n : Int32) (m_slots : Int32) (m_thrown : Int32) (m_allMany : Int32) (m_nodes : Int32) (m_partMany : Int32) (m_pathMany : Int32) (m_heavyMany : Int32) (m_mostMet : Int32) (cyI : ClassId) (fm : Nat → Int32) (fl : Nat → Int32) (fe : Nat → Int32) (vv : Nat → Int32) (vn : Nat → Int32) (f : Nat → Int32) (av : Nat → Int32) (an : Nat → Int32) (nl : Nat → Int32) (nr : Nat → Int32) (p0 : Int32) (p1 : Int32) (p2 : Int32) (sz : Nat) (b0 : 0 ≤ p0.toInt) (b1 : p0.toInt < p1.toInt) (b2 : p1.toInt ≤ 160) (b3 : 1 ≤ p2.toInt) (b4 : p2.toInt ≤ 6) (b5 : 0 ≤ m_nodes.toInt) (b6 : m_nodes.toInt + 2 * (p1.toInt - p0.toInt) - 1 ≤ 319) (s4 : six4 fm) (b7 : p1.toInt - p0.toInt ≤ 32) : kx_MQ l (dC, dI) yX5_lays wsX5_lays ({ frames := 7, cells := 0, slots := 0, locals := 315 }) [.ref h0, .int p0, .int p1, .int p2] [kx_5 h0 g_row m_n m_slots m_thrown g_many g_loss g_less g_voteValue g_voteNumber g_allValue g_allNumber m_allMany g_nodeL g_nodeR m_nodes g_part m_partMany g_wasMany g_wasLoss g_wasValue g_wasNumber g_path m_pathMany g_heavyValue g_heavyTimes m_heavyMany g_fewest g_which g_met m_mostMet, kx_a g_row cyI 160 f, kx_a g_many cyI 324 fm, kx_a g_loss cyI 324 fl, kx_a g_less cyI 324 fe, kx_a g_voteValue cyI 1944 vv, kx_a g_voteNumber cyI 1944 vn, kx_a g_allValue cyI 12 av, kx_a g_allNumber cyI 12 an, kx_a g_nodeL cyI 320 nl, kx_a g_nodeR cyI 320 nr] [(cyI, .int)] sz (fun A => va_Qi (fun (r : Int32) (u : Int32 × Int32 × (Nat → Int32) × (Nat → Int32) × (Nat → Int32) × (Nat → Int32) × (Nat → Int32) × (Nat → Int32) × (Nat → Int32) × (Nat → Int32) × (Nat → Int32)) => r = m_nodes ∧ u.1.toInt = m_nodes.toInt + 2 * (p1.toInt - p0.toInt) - 1 ∧ six4 u.2.2.1 ∧ mj_S p2.toNatClampNeg f u.2.2.2.2.2.2.2.2.2.1 u.2.2.2.2.2.2.2.2.2.2 u.2.2.1 u.2.2.2.1 u.2.2.2.2.1 u.2.2.2.2.2.1 u.2.2.2.2.2.2.1 5 m_nodes.toNatClampNeg p0.toNatClampNeg p1.toNatClampNeg ∧ mj_ag 0 m_nodes.toNatClampNeg nl nr fm fl fe vv vn u.2.2.2.2.2.2.2.2.2.1 u.2.2.2.2.2.2.2.2.2.2 u.2.2.1 u.2.2.2.1 u.2.2.2.2.1 u.2.2.2.2.2.1 u.2.2.2.2.2.2.1) (fun (u : Int32 × Int32 × (Nat → Int32) × (Nat → Int32) × (Nat → Int32) × (Nat → Int32) × (Nat → Int32) × (Nat → Int32) × (Nat → Int32) × (Nat → Int32) × (Nat → Int32)) (t : State) => va_P (dC, dI) vwCl [kx_5 h0 g_row m_n m_slots m_thrown g_many g_loss g_less g_voteValue g_voteNumber g_allValue g_allNumber u.2.1 g_nodeL g_nodeR u.1 g_part m_partMany g_wasMany g_wasLoss g_wasValue g_wasNumber g_path m_pathMany g_heavyValue g_heavyTimes m_heavyMany g_fewest g_which g_met m_mostMet, kx_a g_row cyI 160 f, kx_a g_many cyI 324 u.2.2.1, kx_a g_loss cyI 324 u.2.2.2.1, kx_a g_less cyI 324 u.2.2.2.2.1, kx_a g_voteValue cyI 1944 u.2.2.2.2.2.1, kx_a g_voteNumber cyI 1944 u.2.2.2.2.2.2.1, kx_a g_allValue cyI 12 u.2.2.2.2.2.2.2.1, kx_a g_allNumber cyI 12 u.2.2.2.2.2.2.2.2.1, kx_a g_nodeL cyI 320 u.2.2.2.2.2.2.2.2.2.1, kx_a g_nodeR cyI 320 u.2.2.2.2.2.2.2.2.2.2] t.heap ∧ va_K (dC, dI) vwCl [(cyI, .int)] t ∧ va_D A [kx_5 h0 g_row m_n m_slots m_thrown g_many g_loss g_less g_voteValue g_voteNumber g_allValue g_allNumber u.2.1 g_nodeL g_nodeR u.1 g_part m_partMany g_wasMany g_wasLoss g_wasValue g_wasNumber g_path m_pathMany g_heavyValue g_heavyTimes m_heavyMany g_fewest g_which g_met m_mostMet, kx_a g_row cyI 160 f, kx_a g_many cyI 324 u.2.2.1, kx_a g_loss cyI 324 u.2.2.2.1, kx_a g_less cyI 324 u.2.2.2.2.1, kx_a g_voteValue cyI 1944 u.2.2.2.2.2.1, kx_a g_voteNumber cyI 1944 u.2.2.2.2.2.2.1, kx_a g_allValue cyI 12 u.2.2.2.2.2.2.2.1, kx_a g_allNumber cyI 12 u.2.2.2.2.2.2.2.2.1, kx_a g_nodeL cyI 320 u.2.2.2.2.2.2.2.2.2.1, kx_a g_nodeR cyI 320 u.2.2.2.2.2.2.2.2.2.2]) A) := by
  refine kx_stQ (ws := wsX5_lays) (cc := cX5_lays) (maxL := 8) (ret := (some .int)) (by decide) rfl (Nat.le_of_ble_eq_true rfl) ?_
  intro p e s m below meth c A ls hx hb hr hlocks hts hown hml hA hS hP hK hD hl
  have hown : s.vm.findClass RX5 = some m.cls := hown
  have hl : lv_has ls 8 [(0, .ref h0), (1, .int p0), (2, .int p1), (3, .int p2)] := hl
  have hf_101 := hts (.fieldLink RX5 101 "MajorityIndexModel" "nodes" "I") (List.mem_of_getElem? (i := 1) rfl)
  have hi_5 : ∀ w ∈ u_ws RX5 TX5 30, w ∈ wsX5_lays := fun w h => List.mem_cons_of_mem _ (List.mem_append_right _ h)
  have hf_38 := hts (.fieldLink RX5 38 "MajorityIndexModel" "nodeL" "[I") (List.mem_of_getElem? (i := 2) rfl)
  have hf_41 := hts (.fieldLink RX5 41 "MajorityIndexModel" "nodeR" "[I") (List.mem_of_getElem? (i := 3) rfl)
  have hf_7 := hts (.fieldLink RX5 7 "MajorityIndexModel" "row" "[I") (List.mem_of_getElem? (i := 4) rfl)
  refine lv_aload_n hx hb dX5_lays_0 rfl (lv_at hl 0 rfl) ?_
  refine va_get (D := (dC, dI)) (ci := 5) (v := .int m_nodes) (C := RX5) (T := TX5) (N := 30) hx hb hts hi_5 hown hK hP 0 rfl rfl 14 (by decide) hf_101 (fun _ h9 => h9) rfl dX5_lays_1 ?_
  refine lv_istore (lv' := [(4, .int m_nodes), (0, .ref h0), (1, .int p0), (2, .int p1), (3, .int p2)]) hx hb dX5_lays_4 hl (by decide) rfl (fun ls hl => ?_)
  refine lv_aload_n hx hb dX5_lays_6 rfl (lv_at hl 1 rfl) ?_
  refine lv_dup hx hb dX5_lays_7 rfl ?_
  refine va_get (D := (dC, dI)) (ci := 5) (v := .int m_nodes) (C := RX5) (T := TX5) (N := 30) hx hb hts hi_5 hown hK hP 0 rfl rfl 14 (by decide) hf_101 (fun _ h9 => h9) rfl dX5_lays_8 ?_
  refine lv_iconst (v := 1) hx hb dX5_lays_11 (by decide) ?_
  refine lv_iadd hx hb dX5_lays_12 ?_
  refine lv_topi (fun y_1 ey_1 => ?_)
  have i_1 : y_1.toInt = m_nodes.toInt + 1 := ki_add ey_1 rfl rfl (om_13 b5) (om_324 b1 b6)
  refine va_put (D := (dC, dI)) (ci := 5) (v := .int y_1) (ty := .int) (C := RX5) (T := TX5) (N := 30) hx hb hts hi_5 tyX5 tyX5_ok nmX5 hown hK hP hD hS 0 rfl rfl 14 (by decide) hf_101 (fun _ h9 => h9) rfl (by decide +kernel) rfl rfl (Nat.le_of_ble_eq_true rfl) dX5_lays_13 (fun H locs hP hD hS => ?_)
  obtain ⟨hP, hD⟩ := kx_re (w2 := [kx_5 h0 g_row m_n m_slots m_thrown g_many g_loss g_less g_voteValue g_voteNumber g_allValue g_allNumber m_allMany g_nodeL g_nodeR y_1 g_part m_partMany g_wasMany g_wasLoss g_wasValue g_wasNumber g_path m_pathMany g_heavyValue g_heavyTimes m_heavyMany g_fewest g_which g_met m_mostMet, kx_a g_row cyI 160 f, kx_a g_many cyI 324 fm, kx_a g_loss cyI 324 fl, kx_a g_less cyI 324 fe, kx_a g_voteValue cyI 1944 vv, kx_a g_voteNumber cyI 1944 vn, kx_a g_allValue cyI 12 av, kx_a g_allNumber cyI 12 an, kx_a g_nodeL cyI 320 nl, kx_a g_nodeR cyI 320 nr]) hP hD rfl
  refine lv_aload_n hx hb dX5_lays_16 rfl (lv_at hl 1 rfl) ?_
  refine va_get (D := (dC, dI)) (ci := 5) (v := .ref g_nodeL) (C := RX5) (T := TX5) (N := 30) hx hb hts hi_5 hown hK hP 0 rfl rfl 12 (by decide) hf_38 (fun _ h9 => h9) rfl dX5_lays_17 ?_
  refine lv_iload hx hb dX5_lays_20 (lv_at hl 0 rfl) ?_
  refine lv_iload_n hx hb dX5_lays_22 rfl (lv_at hl 2 rfl) ?_
  refine va_iast hx hb hK hP hD hS 9 0 rfl rfl (ki_in (om_10 b5) (om_325 b1 b6)) dX5_lays_23 (fun H locs hP hD hS => ?_)
  obtain ⟨hP, hD⟩ := kx_re (w2 := [kx_5 h0 g_row m_n m_slots m_thrown g_many g_loss g_less g_voteValue g_voteNumber g_allValue g_allNumber m_allMany g_nodeL g_nodeR y_1 g_part m_partMany g_wasMany g_wasLoss g_wasValue g_wasNumber g_path m_pathMany g_heavyValue g_heavyTimes m_heavyMany g_fewest g_which g_met m_mostMet, kx_a g_row cyI 160 f, kx_a g_many cyI 324 fm, kx_a g_loss cyI 324 fl, kx_a g_less cyI 324 fe, kx_a g_voteValue cyI 1944 vv, kx_a g_voteNumber cyI 1944 vn, kx_a g_allValue cyI 12 av, kx_a g_allNumber cyI 12 an, kx_a g_nodeL cyI 320 (upd nl m_nodes.toNatClampNeg p0), kx_a g_nodeR cyI 320 nr]) hP hD rfl
  refine lv_aload_n hx hb dX5_lays_24 rfl (lv_at hl 1 rfl) ?_
  refine va_get (D := (dC, dI)) (ci := 5) (v := .ref g_nodeR) (C := RX5) (T := TX5) (N := 30) hx hb hts hi_5 hown hK hP 0 rfl rfl 13 (by decide) hf_41 (fun _ h9 => h9) rfl dX5_lays_25 ?_
  refine lv_iload hx hb dX5_lays_28 (lv_at hl 0 rfl) ?_
  refine lv_iload_n hx hb dX5_lays_30 rfl (lv_at hl 3 rfl) ?_
  refine va_iast hx hb hK hP hD hS 10 0 rfl rfl (ki_in (om_10 b5) (om_325 b1 b6)) dX5_lays_31 (fun H locs hP hD hS => ?_)
  obtain ⟨hP, hD⟩ := kx_re (w2 := [kx_5 h0 g_row m_n m_slots m_thrown g_many g_loss g_less g_voteValue g_voteNumber g_allValue g_allNumber m_allMany g_nodeL g_nodeR y_1 g_part m_partMany g_wasMany g_wasLoss g_wasValue g_wasNumber g_path m_pathMany g_heavyValue g_heavyTimes m_heavyMany g_fewest g_which g_met m_mostMet, kx_a g_row cyI 160 f, kx_a g_many cyI 324 fm, kx_a g_loss cyI 324 fl, kx_a g_less cyI 324 fe, kx_a g_voteValue cyI 1944 vv, kx_a g_voteNumber cyI 1944 vn, kx_a g_allValue cyI 12 av, kx_a g_allNumber cyI 12 an, kx_a g_nodeL cyI 320 (upd nl m_nodes.toNatClampNeg p0), kx_a g_nodeR cyI 320 (upd nr m_nodes.toNatClampNeg p1)]) hP hD rfl
  refine lv_iload_n hx hb dX5_lays_32 rfl (lv_at hl 3 rfl) ?_
  refine lv_iload_n hx hb dX5_lays_33 rfl (lv_at hl 2 rfl) ?_
  refine lv_isub hx hb dX5_lays_34 ?_
  refine lv_topi (fun y_2 ey_2 => ?_)
  have i_2 : y_2.toInt = p1.toInt - p0.toInt := ki_sub ey_2 rfl rfl (om_168 b1) (om_354 b7)
  refine lv_iconst (v := 1) hx hb dX5_lays_35 (by decide) ?_
  refine lv_icmp_ne (tgt := 54) hx hb dX5_lays_36 (by decide) (fun c_3 => ?_) (fun c_3 => ?_)
  · have i_3 : ¬ y_2.toInt = 1 := kc_ne c_3
    refine lv_iload_n hx hb dX5_lays_54 rfl (lv_at hl 2 rfl) ?_
    refine lv_iload_n hx hb dX5_lays_55 rfl (lv_at hl 3 rfl) ?_
    refine lv_iadd hx hb dX5_lays_56 ?_
    refine lv_topi (fun y_4 ey_4 => ?_)
    have i_4 : y_4.toInt = p0.toInt + p1.toInt := ki_add ey_4 rfl rfl (om_330 b0 b1) (om_331 b1 b2)
    refine lv_iconst (v := 2) hx hb dX5_lays_57 (by decide) ?_
    refine lv_idiv hx hb dX5_lays_58 (by decide) ?_
    refine lv_topi (fun y_5 ey_5 => ?_)
    have i_5 : y_5.toInt = y_4.toInt / 2 := ki_div2 ey_5 rfl (om_332 b0 b1 i_4)
    have d_6 := om_dv i_5
    refine lv_istore (lv' := [(5, .int y_5), (4, .int m_nodes), (0, .ref h0), (1, .int p0), (2, .int p1), (3, .int p2)]) hx hb dX5_lays_59 hl (by decide) rfl (fun ls hl => ?_)
    refine lv_aload_n hx hb dX5_lays_61 rfl (lv_at hl 2 rfl) ?_
    refine lv_iload_n hx hb dX5_lays_62 rfl (lv_at hl 3 rfl) ?_
    refine lv_iload hx hb dX5_lays_63 (lv_at hl 0 rfl) ?_
    refine lv_iload_n hx hb dX5_lays_65 rfl (lv_at hl 5 rfl) ?_
    have hPc := hP
    have hKc := hK
    have hDc := hD
    have hFc := kx_free hD hS hA
    refine va_calli (va_runV (As := [.int p0, .int y_5, .int p2]) (rest := []) ⟨hx, hb, hml, hown, hts⟩ (kx_un (c_X5_lays_4 l dC dI h0 g_row g_many g_loss g_less g_voteValue g_voteNumber g_allValue g_allNumber g_nodeL g_nodeR g_part g_wasMany g_wasLoss g_wasValue g_wasNumber g_path g_heavyValue g_heavyTimes g_fewest g_which g_met m_n m_slots m_thrown m_allMany y_1 m_partMany m_pathMany m_heavyMany m_mostMet cyI fm fl fe vv vn f av an (upd nl m_nodes.toNatClampNeg p0) (upd nr m_nodes.toNatClampNeg p1) p0 y_5 p2 H.size b0 (by omega) (om_333 b1 b2 i_4 d_6.1) b3 b4 (om_34 b5 i_1) (om_334 b1 b6 i_1 i_4 d_6.1) s4 (om_355 b7 i_4 d_6.1))) (cwV 3 hts gX5_lays_X5_lays rfl rfl rfl (by decide +kernel) ⟨Nat.le_of_ble_eq_true rfl, Nat.le_of_ble_eq_true rfl⟩) ⟨fun a U g mk q => by obtain ⟨q0, q1, qP, qK, qD⟩ := q; exact ⟨q0, q1, qP, va_K.moved (u := U) (U := U.calling g mk a) (Vm.Alike.refl U.vm) qK, qD⟩, kx_rc5 hKc hPc (q0 := 0) rfl, fun U hU hW => ⟨rfl, by rw [hU], by rw [hU]; exact hPc, va_K.moved hW.alike hKc, hDc.weaken (fun _ _ _ _ => trivial)⟩⟩ rfl rfl hl.1 rfl (lv_room (Nat.le_of_ble_eq_true rfl)) dX5_lays_66 ⟨Nat.le_of_ble_eq_true rfl, Nat.le_of_ble_eq_true rfl⟩) hS (fun q _ h => hFc q h) hFc (fun r_7 u t H1 locs ht hvm w_7 hB hz1 hk1 hS => ?_)
    obtain ⟨o_8, o_9, o_10, o_11, o_12, o_13, o_14, o_15, o_16, o_17, o_18⟩ := u
    dsimp only at w_7 hB
    obtain ⟨hP1, hK1, hD1⟩ := hB
    rw [ht] at hP1
    have hK1 := va_K.moved hvm.symm hK1
    have hD := hD1.weaken (fun _ q _ h => hFc q.1 h)
    have hP := hP1
    clear hP1 hD1 hK1 hk1 hz1 hFc hDc hPc hKc
    generalize H1 = H at hP hS ⊢
    have w_7 : r_7 = y_1 ∧ o_8.toInt = y_1.toInt + 2 * (y_5.toInt - p0.toInt) - 1 ∧ six4 o_10 ∧ mj_S p2.toNatClampNeg f o_17 o_18 o_10 o_11 o_12 o_13 o_14 4 y_1.toNatClampNeg p0.toNatClampNeg y_5.toNatClampNeg ∧ mj_ag 0 y_1.toNatClampNeg (upd nl m_nodes.toNatClampNeg p0) (upd nr m_nodes.toNatClampNeg p1) fm fl fe vv vn o_17 o_18 o_10 o_11 o_12 o_13 o_14 := w_7
    refine lv_istore (lv' := [(6, .int r_7), (5, .int y_5), (4, .int m_nodes), (0, .ref h0), (1, .int p0), (2, .int p1), (3, .int p2)]) hx hb dX5_lays_69 hl (by decide) rfl (fun ls hl => ?_)
    refine lv_aload_n hx hb dX5_lays_71 rfl (lv_at hl 3 rfl) ?_
    refine lv_iload hx hb dX5_lays_72 (lv_at hl 1 rfl) ?_
    refine lv_iload_n hx hb dX5_lays_74 rfl (lv_at hl 5 rfl) ?_
    refine lv_iload_n hx hb dX5_lays_75 rfl (lv_at hl 6 rfl) ?_
    have hPc := hP
    have hKc := hK
    have hDc := hD
    have hFc := kx_free hD hS hA
    refine va_calli (va_runV (As := [.int y_5, .int p1, .int p2]) (rest := []) ⟨hx, hb, hml, hown, hts⟩ (kx_un (c_X5_lays_4 l dC dI h0 g_row g_many g_loss g_less g_voteValue g_voteNumber g_allValue g_allNumber g_nodeL g_nodeR g_part g_wasMany g_wasLoss g_wasValue g_wasNumber g_path g_heavyValue g_heavyTimes g_fewest g_which g_met m_n m_slots m_thrown o_9 o_8 m_partMany m_pathMany m_heavyMany m_mostMet cyI o_10 o_11 o_12 o_13 o_14 f o_15 o_16 o_17 o_18 y_5 p1 p2 H.size (om_336 b0 b1 i_4 d_6.2) (by omega) b2 b3 b4 (om_337 b1 b5 i_1 i_4 d_6.2 w_7.2.1) (om_338 b6 i_1 w_7.2.1) w_7.2.2.1 (by omega))) (cwV 3 hts gX5_lays_X5_lays rfl rfl rfl (by decide +kernel) ⟨Nat.le_of_ble_eq_true rfl, Nat.le_of_ble_eq_true rfl⟩) ⟨fun a U g mk q => by obtain ⟨q0, q1, qP, qK, qD⟩ := q; exact ⟨q0, q1, qP, va_K.moved (u := U) (U := U.calling g mk a) (Vm.Alike.refl U.vm) qK, qD⟩, kx_rc5 hKc hPc (q0 := 0) rfl, fun U hU hW => ⟨rfl, by rw [hU], by rw [hU]; exact hPc, va_K.moved hW.alike hKc, hDc.weaken (fun _ _ _ _ => trivial)⟩⟩ rfl rfl hl.1 rfl (lv_room (Nat.le_of_ble_eq_true rfl)) dX5_lays_76 ⟨Nat.le_of_ble_eq_true rfl, Nat.le_of_ble_eq_true rfl⟩) hS (fun q _ h => hFc q h) hFc (fun r_19 u t H1 locs ht hvm w_19 hB hz1 hk1 hS => ?_)
    obtain ⟨o_20, o_21, o_22, o_23, o_24, o_25, o_26, o_27, o_28, o_29, o_30⟩ := u
    dsimp only at w_19 hB
    obtain ⟨hP1, hK1, hD1⟩ := hB
    rw [ht] at hP1
    have hK1 := va_K.moved hvm.symm hK1
    have hD := hD1.weaken (fun _ q _ h => hFc q.1 h)
    have hP := hP1
    clear hP1 hD1 hK1 hk1 hz1 hFc hDc hPc hKc
    generalize H1 = H at hP hS ⊢
    have w_19 : r_19 = o_8 ∧ o_20.toInt = o_8.toInt + 2 * (p1.toInt - y_5.toInt) - 1 ∧ six4 o_22 ∧ mj_S p2.toNatClampNeg f o_29 o_30 o_22 o_23 o_24 o_25 o_26 4 o_8.toNatClampNeg y_5.toNatClampNeg p1.toNatClampNeg ∧ mj_ag 0 o_8.toNatClampNeg o_17 o_18 o_10 o_11 o_12 o_13 o_14 o_29 o_30 o_22 o_23 o_24 o_25 o_26 := w_19
    refine lv_istore (lv' := [(7, .int r_19), (6, .int r_7), (5, .int y_5), (4, .int m_nodes), (0, .ref h0), (1, .int p0), (2, .int p1), (3, .int p2)]) hx hb dX5_lays_79 hl (by decide) rfl (fun ls hl => ?_)
    have n_p0 := ki_nat p0 rfl (om_10 b0)
    have n_p1 := ki_nat p1 rfl (om_21 b0 b1)
    have n_p2 := ki_nat p2 rfl (om_51 b3)
    have n_nd := ki_nat m_nodes rfl (om_10 b5)
    have n_y := ki_nat y_1 rfl (om_34 b5 i_1)
    have n_md := ki_nat y_5 rfl (om_336 b0 b1 i_4 d_6.2)
    have n_oL := ki_nat o_8 rfl (om_337 b1 b5 i_1 i_4 d_6.2 w_7.2.1)
    have i_rL : r_7.toInt = y_1.toInt := congrArg Int32.toInt w_7.1
    have i_rR : r_19.toInt = o_8.toInt := congrArg Int32.toInt w_19.1
    obtain ⟨mua, La, ca, tA⟩ := w_7.2.2.2.1
    obtain ⟨mub, Lb, cb, tB⟩ := w_19.2.2.2.1
    obtain ⟨g_1, g_2, g_3, g_4, g_5, g_6⟩ := mj_ly9 n_p0 n_p1 n_nd n_y n_md n_oL i_1 i_4 i_5 w_7.2.1 b1 i_2 i_3
    have tA2 := mj_T_ag _ _ o_8.toNatClampNeg _ _ _ _ _ tA g_1 (mj_ag_sub w_19.2.2.2.2 (Nat.zero_le _) (Nat.le_refl _))
    have nA := mj_T_nd tA2
    have nB := mj_T_nd tB
    refine lv_aload_n hx hb dX5_lays_81 rfl (lv_at hl 4 rfl) ?_
    refine lv_iload hx hb dX5_lays_82 (lv_at hl 1 rfl) ?_
    refine lv_iload hx hb dX5_lays_84 (lv_at hl 0 rfl) ?_
    refine lv_iload hx hb dX5_lays_86 (lv_at hl 3 rfl) ?_
    refine lv_iload_n hx hb dX5_lays_88 rfl (lv_at hl 7 rfl) ?_
    obtain ⟨hPc, hDc, hFc, hCc⟩ := kx_preM (wc := [kx_5 h0 g_row m_n m_slots m_thrown g_many g_loss g_less g_voteValue g_voteNumber g_allValue g_allNumber o_21 g_nodeL g_nodeR o_20 g_part m_partMany g_wasMany g_wasLoss g_wasValue g_wasNumber g_path m_pathMany g_heavyValue g_heavyTimes m_heavyMany g_fewest g_which g_met m_mostMet, kx_a g_many cyI 324 o_22, kx_a g_loss cyI 324 o_23, kx_a g_less cyI 324 o_24, kx_a g_voteValue cyI 1944 o_25, kx_a g_voteNumber cyI 1944 o_26, kx_a g_allValue cyI 12 o_27, kx_a g_allNumber cyI 12 o_28]) hP hD hS hA [true, false, true, true, true, true, true, true, true, false, false] rfl
    have hKc := hK
    refine va_callv (va_runV (As := [.int r_7, .int r_19, .int m_nodes, .int p2]) (rest := []) ⟨hx, hb, hml, hown, hts⟩ (kx_un (c_X5_together l dC dI h0 g_row g_many g_loss g_less g_voteValue g_voteNumber g_allValue g_allNumber g_nodeL g_nodeR g_part g_wasMany g_wasLoss g_wasValue g_wasNumber g_path g_heavyValue g_heavyTimes g_fewest g_which g_met m_n m_slots m_thrown o_21 o_20 m_partMany m_pathMany m_heavyMany m_mostMet cyI o_22 o_23 o_24 o_25 o_26 o_27 o_28 mua mub r_7 r_19 m_nodes p2 H.size (om_339 b5 i_1 i_rL) (om_340 b1 b6 i_1 i_rL) (om_341 b1 b5 i_1 i_4 d_6.2 w_7.2.1 i_rR) (om_342 b1 b6 i_1 i_4 d_6.1 w_7.2.1 i_rR) (om_10 b5) (om_343 b1 b6) (om_51 b3) (om_344 b4) (by rw [w_7.1]; exact nA.2.2.1) (by rw [w_7.1]; exact nA.2.2.2.1) (by rw [w_19.1]; exact nB.2.2.1) (by rw [w_19.1]; exact nB.2.2.2.1) (by rw [w_7.1]; exact nA.2.2.2.2.2.2.2.1) (by rw [w_19.1]; exact nB.2.2.2.2.2.2.2.1) (fun v => by have h1 := mj_T_le _ _ _ _ _ _ _ tA2 v; have h2 := mj_T_le _ _ _ _ _ _ _ tB v; omega))) (cwV 4 hts gX5_lays_X5_together rfl rfl rfl (by decide +kernel) ⟨Nat.le_of_ble_eq_true rfl, Nat.le_of_ble_eq_true rfl⟩) ⟨fun a U g mk q => by obtain ⟨q0, q1, qP, qK, qD⟩ := q; exact ⟨q0, q1, qP, va_K.moved (u := U) (U := U.calling g mk a) (Vm.Alike.refl U.vm) qK, qD⟩, kx_rc5 hKc hPc (q0 := 0) rfl, fun U hU hW => ⟨rfl, by rw [hU], by rw [hU]; exact hPc, va_K.moved hW.alike hKc, hDc.weaken (fun _ _ _ _ => trivial)⟩⟩ rfl rfl hl.1 rfl (lv_room (Nat.le_of_ble_eq_true rfl)) dX5_lays_89 ⟨Nat.le_of_ble_eq_true rfl, Nat.le_of_ble_eq_true rfl⟩) hS (fun q _ h => hFc q h) hFc (fun u t H1 locs ht hvm w_31 hB hz1 hk1 hS => ?_)
    obtain ⟨o_32, o_33, o_34, o_35, o_36, o_37, o_38, o_39, o_40, o_41, o_42⟩ := u
    dsimp only at w_31 hB
    obtain ⟨hP1, hK1, hD1⟩ := hB
    rw [ht] at hP1
    have hK1 := va_K.moved hvm.symm hK1
    obtain ⟨hP, hD⟩ := kx_joinM (w2 := [kx_5 h0 g_row m_n m_slots m_thrown g_many g_loss g_less g_voteValue g_voteNumber g_allValue g_allNumber o_32 g_nodeL g_nodeR o_20 g_part m_partMany g_wasMany g_wasLoss g_wasValue g_wasNumber g_path m_pathMany g_heavyValue g_heavyTimes m_heavyMany g_fewest g_which g_met m_mostMet, kx_a g_row cyI 160 f, kx_a g_many cyI 324 o_36, kx_a g_loss cyI 324 o_37, kx_a g_less cyI 324 o_38, kx_a g_voteValue cyI 1944 o_39, kx_a g_voteNumber cyI 1944 o_40, kx_a g_allValue cyI 12 o_41, kx_a g_allNumber cyI 12 o_42, kx_a g_nodeL cyI 320 o_29, kx_a g_nodeR cyI 320 o_30]) hP hD hP1 hD1 hk1 hFc [true, false, true, true, true, true, true, true, true, false, false] hCc rfl
    clear hP1 hD1 hK1 hk1 hz1 hFc hDc hPc hKc hCc
    generalize H1 = H at hP hS ⊢
    have w_31 : mj_tog p2.toNatClampNeg mua mub o_35 o_33 ∧ o_37 = upd o_23 m_nodes.toNatClampNeg (o_23 r_7.toNatClampNeg + o_23 r_19.toNatClampNeg + o_33) ∧ o_38 = upd o_24 m_nodes.toNatClampNeg o_33 ∧ o_36 = upd o_22 m_nodes.toNatClampNeg o_34 ∧ 0 ≤ o_34.toInt ∧ o_34.toInt ≤ p2.toInt ∧ mj_vs o_39 o_40 (6 * m_nodes.toNatClampNeg) o_34.toNatClampNeg o_35 ∧ mj_srt o_39 o_40 (6 * m_nodes.toNatClampNeg) o_34.toNatClampNeg ∧ ∀ q : Nat, (q < 6 * m_nodes.toNatClampNeg ∨ 6 * m_nodes.toNatClampNeg + 6 ≤ q) → o_39 q = o_25 q ∧ o_40 q = o_26 q := w_31
    refine lv_iload hx hb dX5_lays_92 (lv_at hl 3 rfl) ?_
    have hP9 := hP
    have hD9 := hD
    have hK9 := hK
    have e_fl := w_31.2.1
    rw [w_7.1, w_19.1] at e_fl
    have hN := mj_lay_node (l := p0.toNatClampNeg) (r := p1.toNatClampNeg) (md := y_5.toNatClampNeg) (a := m_nodes.toNatClampNeg) g_2 g_3 n_p0.symm n_p1.symm g_4 g_5 (mj_ag_sub w_7.2.2.2.2 (Nat.le_refl _) g_6) w_19.2.2.2.2 tA2 tB w_31.1 w_31.2.2.2.1 w_31.2.2.2.2.1 (Int.le_trans w_31.2.2.2.2.2.1 (Int.le_of_eq n_p2.symm)) (mj_ln6 n_p2 b4) e_fl w_31.2.2.1 w_31.2.2.2.2.2.2.1 w_31.2.2.2.2.2.2.2.1 w_31.2.2.2.2.2.2.2.2
    exact W.iret (v := m_nodes) hx hb hr (hlocks := hlocks) (fun t ht hW => ⟨⟨m_nodes, (o_20, o_32, o_36, o_37, o_38, o_39, o_40, o_41, o_42, o_29, o_30), rfl, ⟨rfl, (om_345 i_1 w_7.2.1 w_19.2.1), (by (try dsimp only); rw [w_31.2.2.2.1]; exact six4_upd w_19.2.2.1 w_31.2.2.2.2.1 (om_346 b4 w_31.2.2.2.2.2.1)), hN.1, hN.2⟩, by rw [ht]; exact hP9, va_K.moved hW.alike hK9, hD9⟩, hS.F ht⟩) hS.2.2 dX5_lays_94
  · have i_3 : y_2.toInt = 1 := kc_eq c_3
    refine lv_aload_n hx hb dX5_lays_39 rfl (lv_at hl 1 rfl) ?_
    refine lv_iload hx hb dX5_lays_40 (lv_at hl 0 rfl) ?_
    refine lv_aload_n hx hb dX5_lays_42 rfl (lv_at hl 1 rfl) ?_
    refine va_get (D := (dC, dI)) (ci := 5) (v := .ref g_row) (C := RX5) (T := TX5) (N := 30) hx hb hts hi_5 hown hK hP 0 rfl rfl 0 (by decide) hf_7 (fun _ h9 => h9) rfl dX5_lays_43 ?_
    refine lv_iload_n hx hb dX5_lays_46 rfl (lv_at hl 2 rfl) ?_
    refine va_iald hx hb hK hP 1 0 rfl rfl (ki_in (om_10 b0) (om_85 b1 b2)) dX5_lays_47 ?_
    refine lv_topi (fun y_43 ey_43 => ?_)
    have j_43 : y_43.toInt = (f p0.toNatClampNeg).toInt := congrArg Int32.toInt ey_43
    obtain ⟨hPc, hDc, hFc, hCc⟩ := kx_preM (wc := [kx_5 h0 g_row m_n m_slots m_thrown g_many g_loss g_less g_voteValue g_voteNumber g_allValue g_allNumber m_allMany g_nodeL g_nodeR y_1 g_part m_partMany g_wasMany g_wasLoss g_wasValue g_wasNumber g_path m_pathMany g_heavyValue g_heavyTimes m_heavyMany g_fewest g_which g_met m_mostMet, kx_a g_many cyI 324 fm, kx_a g_loss cyI 324 fl, kx_a g_less cyI 324 fe, kx_a g_voteValue cyI 1944 vv, kx_a g_voteNumber cyI 1944 vn]) hP hD hS hA [true, false, true, true, true, true, true, false, false, false, false] rfl
    have hKc := hK
    refine va_callv (va_runV (As := [.int m_nodes, .int y_43]) (rest := []) ⟨hx, hb, hml, hown, hts⟩ (kx_un (c_X5_one_x l dC dI h0 g_row g_many g_loss g_less g_voteValue g_voteNumber g_allValue g_allNumber g_nodeL g_nodeR g_part g_wasMany g_wasLoss g_wasValue g_wasNumber g_path g_heavyValue g_heavyTimes g_fewest g_which g_met m_n m_slots m_thrown m_allMany y_1 m_partMany m_pathMany m_heavyMany m_mostMet cyI fm fl fe vv vn m_nodes y_43 H.size b5 (om_327 b1 b6))) (cwV 2 hts gX5_lays_X5_one rfl rfl rfl (by decide +kernel) ⟨Nat.le_of_ble_eq_true rfl, Nat.le_of_ble_eq_true rfl⟩) ⟨fun a U g mk q => by obtain ⟨q0, q1, qP, qK, qD⟩ := q; exact ⟨q0, q1, qP, va_K.moved (u := U) (U := U.calling g mk a) (Vm.Alike.refl U.vm) qK, qD⟩, kx_rc5 hKc hPc (q0 := 0) rfl, fun U hU hW => ⟨rfl, by rw [hU], by rw [hU]; exact hPc, va_K.moved hW.alike hKc, hDc.weaken (fun _ _ _ _ => trivial)⟩⟩ rfl rfl hl.1 rfl (lv_room (Nat.le_of_ble_eq_true rfl)) dX5_lays_48 ⟨Nat.le_of_ble_eq_true rfl, Nat.le_of_ble_eq_true rfl⟩) hS (fun q _ h => hFc q h) hFc (fun u t H1 locs ht hvm w_44 hB hz1 hk1 hS => ?_)
    obtain ⟨o_45, o_46, o_47, o_48, o_49⟩ := u
    dsimp only at w_44 hB
    obtain ⟨hP1, hK1, hD1⟩ := hB
    rw [ht] at hP1
    have hK1 := va_K.moved hvm.symm hK1
    obtain ⟨hP, hD⟩ := kx_joinM (w2 := [kx_5 h0 g_row m_n m_slots m_thrown g_many g_loss g_less g_voteValue g_voteNumber g_allValue g_allNumber m_allMany g_nodeL g_nodeR y_1 g_part m_partMany g_wasMany g_wasLoss g_wasValue g_wasNumber g_path m_pathMany g_heavyValue g_heavyTimes m_heavyMany g_fewest g_which g_met m_mostMet, kx_a g_row cyI 160 f, kx_a g_many cyI 324 o_45, kx_a g_loss cyI 324 o_46, kx_a g_less cyI 324 o_47, kx_a g_voteValue cyI 1944 o_48, kx_a g_voteNumber cyI 1944 o_49, kx_a g_allValue cyI 12 av, kx_a g_allNumber cyI 12 an, kx_a g_nodeL cyI 320 (upd nl m_nodes.toNatClampNeg p0), kx_a g_nodeR cyI 320 (upd nr m_nodes.toNatClampNeg p1)]) hP hD hP1 hD1 hk1 hFc [true, false, true, true, true, true, true, false, false, false, false] hCc rfl
    clear hP1 hD1 hK1 hk1 hz1 hFc hDc hPc hKc hCc
    generalize H1 = H at hP hS ⊢
    have w_44 : o_45 = upd fm m_nodes.toNatClampNeg 1 ∧ o_46 = upd fl m_nodes.toNatClampNeg 0 ∧ o_47 = upd fe m_nodes.toNatClampNeg 0 ∧ o_48 = upd vv (6 * m_nodes.toNatClampNeg) y_43 ∧ o_49 = upd vn (6 * m_nodes.toNatClampNeg) 1 := w_44
    refine lv_iload hx hb dX5_lays_51 (lv_at hl 0 rfl) ?_
    have hP9 := hP
    have hD9 := hD
    have hK9 := hK
    have n_p0 := ki_nat p0 rfl (om_10 b0)
    have n_p1 := ki_nat p1 rfl (om_21 b0 b1)
    have n_p2 := ki_nat p2 rfl (om_51 b3)
    have n_nd := ki_nat m_nodes rfl (om_10 b5)
    have e_vv := w_44.2.2.2.1
    rw [ey_43] at e_vv
    have hN := mj_lay_leaf (K := p2.toNatClampNeg) (f := f) (nl := nl) (nr := nr) (l := p0.toNatClampNeg) (r := p1.toNatClampNeg) (l32 := p0) (r32 := p1) 5 (mj_ln1 n_p2 b3) (mj_lf9 n_p0 n_p1 i_2 i_3) n_p0.symm n_p1.symm w_44.1 w_44.2.1 w_44.2.2.1 e_vv w_44.2.2.2.2
    exact W.iret (v := m_nodes) hx hb hr (hlocks := hlocks) (fun t ht hW => ⟨⟨m_nodes, (y_1, m_allMany, o_45, o_46, o_47, o_48, o_49, av, an, (upd nl m_nodes.toNatClampNeg p0), (upd nr m_nodes.toNatClampNeg p1)), rfl, ⟨rfl, (om_347 b1 i_1 i_2 i_3), (by (try dsimp only); rw [w_44.1]; exact six4_upd s4 (by decide) (by decide)), hN.1, hN.2⟩, by rw [ht]; exact hP9, va_K.moved hW.alike hK9, hD9⟩, hS.F ht⟩) hS.2.2 dX5_lays_53

set_option maxHeartbeats 4000000 in
set_option maxRecDepth 100000 in
theorem c_X5_lays_6 (l : Launch) (dC : Nat → ClassId) (dI : Nat → Nat → Nat) (h0 : Nat) (g_row : Nat) (g_many : Nat) (g_loss : Nat) (g_less : Nat) (g_voteValue : Nat) (g_voteNumber : Nat) (g_allValue : Nat) (g_allNumber : Nat) (g_nodeL : Nat) (g_nodeR : Nat) (g_part : Nat) (g_wasMany : Nat) (g_wasLoss : Nat) (g_wasValue : Nat) (g_wasNumber : Nat) (g_path : Nat) (g_heavyValue : Nat) (g_heavyTimes : Nat) (g_fewest : Nat) (g_which : Nat) (g_met : Nat) (m_n : Int32) (m_slots : Int32) (m_thrown : Int32) (m_allMany : Int32) (m_nodes : Int32) (m_partMany : Int32) (m_pathMany : Int32) (m_heavyMany : Int32) (m_mostMet : Int32) (cyI : ClassId) (fm : Nat → Int32) (fl : Nat → Int32) (fe : Nat → Int32) (vv : Nat → Int32) (vn : Nat → Int32) (f : Nat → Int32) (av : Nat → Int32) (an : Nat → Int32) (nl : Nat → Int32) (nr : Nat → Int32) (p0 : Int32) (p1 : Int32) (p2 : Int32) (sz : Nat) (b0 : 0 ≤ p0.toInt) (b1 : p0.toInt < p1.toInt) (b2 : p1.toInt ≤ 160) (b3 : 1 ≤ p2.toInt) (b4 : p2.toInt ≤ 6) (b5 : 0 ≤ m_nodes.toInt) (b6 : m_nodes.toInt + 2 * (p1.toInt - p0.toInt) - 1 ≤ 319) (s4 : six4 fm) (b7 : p1.toInt - p0.toInt ≤ 64) : kx_MQ l (dC, dI) yX5_lays wsX5_lays ({ frames := 8, cells := 0, slots := 0, locals := 360 }) [.ref h0, .int p0, .int p1, .int p2] [kx_5 h0 g_row m_n m_slots m_thrown g_many g_loss g_less g_voteValue g_voteNumber g_allValue g_allNumber m_allMany g_nodeL g_nodeR m_nodes g_part m_partMany g_wasMany g_wasLoss g_wasValue g_wasNumber g_path m_pathMany g_heavyValue g_heavyTimes m_heavyMany g_fewest g_which g_met m_mostMet, kx_a g_row cyI 160 f, kx_a g_many cyI 324 fm, kx_a g_loss cyI 324 fl, kx_a g_less cyI 324 fe, kx_a g_voteValue cyI 1944 vv, kx_a g_voteNumber cyI 1944 vn, kx_a g_allValue cyI 12 av, kx_a g_allNumber cyI 12 an, kx_a g_nodeL cyI 320 nl, kx_a g_nodeR cyI 320 nr] [(cyI, .int)] sz (fun A => va_Qi (fun (r : Int32) (u : Int32 × Int32 × (Nat → Int32) × (Nat → Int32) × (Nat → Int32) × (Nat → Int32) × (Nat → Int32) × (Nat → Int32) × (Nat → Int32) × (Nat → Int32) × (Nat → Int32)) => r = m_nodes ∧ u.1.toInt = m_nodes.toInt + 2 * (p1.toInt - p0.toInt) - 1 ∧ six4 u.2.2.1 ∧ mj_S p2.toNatClampNeg f u.2.2.2.2.2.2.2.2.2.1 u.2.2.2.2.2.2.2.2.2.2 u.2.2.1 u.2.2.2.1 u.2.2.2.2.1 u.2.2.2.2.2.1 u.2.2.2.2.2.2.1 6 m_nodes.toNatClampNeg p0.toNatClampNeg p1.toNatClampNeg ∧ mj_ag 0 m_nodes.toNatClampNeg nl nr fm fl fe vv vn u.2.2.2.2.2.2.2.2.2.1 u.2.2.2.2.2.2.2.2.2.2 u.2.2.1 u.2.2.2.1 u.2.2.2.2.1 u.2.2.2.2.2.1 u.2.2.2.2.2.2.1) (fun (u : Int32 × Int32 × (Nat → Int32) × (Nat → Int32) × (Nat → Int32) × (Nat → Int32) × (Nat → Int32) × (Nat → Int32) × (Nat → Int32) × (Nat → Int32) × (Nat → Int32)) (t : State) => va_P (dC, dI) vwCl [kx_5 h0 g_row m_n m_slots m_thrown g_many g_loss g_less g_voteValue g_voteNumber g_allValue g_allNumber u.2.1 g_nodeL g_nodeR u.1 g_part m_partMany g_wasMany g_wasLoss g_wasValue g_wasNumber g_path m_pathMany g_heavyValue g_heavyTimes m_heavyMany g_fewest g_which g_met m_mostMet, kx_a g_row cyI 160 f, kx_a g_many cyI 324 u.2.2.1, kx_a g_loss cyI 324 u.2.2.2.1, kx_a g_less cyI 324 u.2.2.2.2.1, kx_a g_voteValue cyI 1944 u.2.2.2.2.2.1, kx_a g_voteNumber cyI 1944 u.2.2.2.2.2.2.1, kx_a g_allValue cyI 12 u.2.2.2.2.2.2.2.1, kx_a g_allNumber cyI 12 u.2.2.2.2.2.2.2.2.1, kx_a g_nodeL cyI 320 u.2.2.2.2.2.2.2.2.2.1, kx_a g_nodeR cyI 320 u.2.2.2.2.2.2.2.2.2.2] t.heap ∧ va_K (dC, dI) vwCl [(cyI, .int)] t ∧ va_D A [kx_5 h0 g_row m_n m_slots m_thrown g_many g_loss g_less g_voteValue g_voteNumber g_allValue g_allNumber u.2.1 g_nodeL g_nodeR u.1 g_part m_partMany g_wasMany g_wasLoss g_wasValue g_wasNumber g_path m_pathMany g_heavyValue g_heavyTimes m_heavyMany g_fewest g_which g_met m_mostMet, kx_a g_row cyI 160 f, kx_a g_many cyI 324 u.2.2.1, kx_a g_loss cyI 324 u.2.2.2.1, kx_a g_less cyI 324 u.2.2.2.2.1, kx_a g_voteValue cyI 1944 u.2.2.2.2.2.1, kx_a g_voteNumber cyI 1944 u.2.2.2.2.2.2.1, kx_a g_allValue cyI 12 u.2.2.2.2.2.2.2.1, kx_a g_allNumber cyI 12 u.2.2.2.2.2.2.2.2.1, kx_a g_nodeL cyI 320 u.2.2.2.2.2.2.2.2.2.1, kx_a g_nodeR cyI 320 u.2.2.2.2.2.2.2.2.2.2]) A) := by
  refine kx_stQ (ws := wsX5_lays) (cc := cX5_lays) (maxL := 8) (ret := (some .int)) (by decide) rfl (Nat.le_of_ble_eq_true rfl) ?_
  intro p e s m below meth c A ls hx hb hr hlocks hts hown hml hA hS hP hK hD hl
  have hown : s.vm.findClass RX5 = some m.cls := hown
  have hl : lv_has ls 8 [(0, .ref h0), (1, .int p0), (2, .int p1), (3, .int p2)] := hl
  have hf_101 := hts (.fieldLink RX5 101 "MajorityIndexModel" "nodes" "I") (List.mem_of_getElem? (i := 1) rfl)
  have hi_5 : ∀ w ∈ u_ws RX5 TX5 30, w ∈ wsX5_lays := fun w h => List.mem_cons_of_mem _ (List.mem_append_right _ h)
  have hf_38 := hts (.fieldLink RX5 38 "MajorityIndexModel" "nodeL" "[I") (List.mem_of_getElem? (i := 2) rfl)
  have hf_41 := hts (.fieldLink RX5 41 "MajorityIndexModel" "nodeR" "[I") (List.mem_of_getElem? (i := 3) rfl)
  have hf_7 := hts (.fieldLink RX5 7 "MajorityIndexModel" "row" "[I") (List.mem_of_getElem? (i := 4) rfl)
  refine lv_aload_n hx hb dX5_lays_0 rfl (lv_at hl 0 rfl) ?_
  refine va_get (D := (dC, dI)) (ci := 5) (v := .int m_nodes) (C := RX5) (T := TX5) (N := 30) hx hb hts hi_5 hown hK hP 0 rfl rfl 14 (by decide) hf_101 (fun _ h9 => h9) rfl dX5_lays_1 ?_
  refine lv_istore (lv' := [(4, .int m_nodes), (0, .ref h0), (1, .int p0), (2, .int p1), (3, .int p2)]) hx hb dX5_lays_4 hl (by decide) rfl (fun ls hl => ?_)
  refine lv_aload_n hx hb dX5_lays_6 rfl (lv_at hl 1 rfl) ?_
  refine lv_dup hx hb dX5_lays_7 rfl ?_
  refine va_get (D := (dC, dI)) (ci := 5) (v := .int m_nodes) (C := RX5) (T := TX5) (N := 30) hx hb hts hi_5 hown hK hP 0 rfl rfl 14 (by decide) hf_101 (fun _ h9 => h9) rfl dX5_lays_8 ?_
  refine lv_iconst (v := 1) hx hb dX5_lays_11 (by decide) ?_
  refine lv_iadd hx hb dX5_lays_12 ?_
  refine lv_topi (fun y_1 ey_1 => ?_)
  have i_1 : y_1.toInt = m_nodes.toInt + 1 := ki_add ey_1 rfl rfl (om_13 b5) (om_324 b1 b6)
  refine va_put (D := (dC, dI)) (ci := 5) (v := .int y_1) (ty := .int) (C := RX5) (T := TX5) (N := 30) hx hb hts hi_5 tyX5 tyX5_ok nmX5 hown hK hP hD hS 0 rfl rfl 14 (by decide) hf_101 (fun _ h9 => h9) rfl (by decide +kernel) rfl rfl (Nat.le_of_ble_eq_true rfl) dX5_lays_13 (fun H locs hP hD hS => ?_)
  obtain ⟨hP, hD⟩ := kx_re (w2 := [kx_5 h0 g_row m_n m_slots m_thrown g_many g_loss g_less g_voteValue g_voteNumber g_allValue g_allNumber m_allMany g_nodeL g_nodeR y_1 g_part m_partMany g_wasMany g_wasLoss g_wasValue g_wasNumber g_path m_pathMany g_heavyValue g_heavyTimes m_heavyMany g_fewest g_which g_met m_mostMet, kx_a g_row cyI 160 f, kx_a g_many cyI 324 fm, kx_a g_loss cyI 324 fl, kx_a g_less cyI 324 fe, kx_a g_voteValue cyI 1944 vv, kx_a g_voteNumber cyI 1944 vn, kx_a g_allValue cyI 12 av, kx_a g_allNumber cyI 12 an, kx_a g_nodeL cyI 320 nl, kx_a g_nodeR cyI 320 nr]) hP hD rfl
  refine lv_aload_n hx hb dX5_lays_16 rfl (lv_at hl 1 rfl) ?_
  refine va_get (D := (dC, dI)) (ci := 5) (v := .ref g_nodeL) (C := RX5) (T := TX5) (N := 30) hx hb hts hi_5 hown hK hP 0 rfl rfl 12 (by decide) hf_38 (fun _ h9 => h9) rfl dX5_lays_17 ?_
  refine lv_iload hx hb dX5_lays_20 (lv_at hl 0 rfl) ?_
  refine lv_iload_n hx hb dX5_lays_22 rfl (lv_at hl 2 rfl) ?_
  refine va_iast hx hb hK hP hD hS 9 0 rfl rfl (ki_in (om_10 b5) (om_325 b1 b6)) dX5_lays_23 (fun H locs hP hD hS => ?_)
  obtain ⟨hP, hD⟩ := kx_re (w2 := [kx_5 h0 g_row m_n m_slots m_thrown g_many g_loss g_less g_voteValue g_voteNumber g_allValue g_allNumber m_allMany g_nodeL g_nodeR y_1 g_part m_partMany g_wasMany g_wasLoss g_wasValue g_wasNumber g_path m_pathMany g_heavyValue g_heavyTimes m_heavyMany g_fewest g_which g_met m_mostMet, kx_a g_row cyI 160 f, kx_a g_many cyI 324 fm, kx_a g_loss cyI 324 fl, kx_a g_less cyI 324 fe, kx_a g_voteValue cyI 1944 vv, kx_a g_voteNumber cyI 1944 vn, kx_a g_allValue cyI 12 av, kx_a g_allNumber cyI 12 an, kx_a g_nodeL cyI 320 (upd nl m_nodes.toNatClampNeg p0), kx_a g_nodeR cyI 320 nr]) hP hD rfl
  refine lv_aload_n hx hb dX5_lays_24 rfl (lv_at hl 1 rfl) ?_
  refine va_get (D := (dC, dI)) (ci := 5) (v := .ref g_nodeR) (C := RX5) (T := TX5) (N := 30) hx hb hts hi_5 hown hK hP 0 rfl rfl 13 (by decide) hf_41 (fun _ h9 => h9) rfl dX5_lays_25 ?_
  refine lv_iload hx hb dX5_lays_28 (lv_at hl 0 rfl) ?_
  refine lv_iload_n hx hb dX5_lays_30 rfl (lv_at hl 3 rfl) ?_
  refine va_iast hx hb hK hP hD hS 10 0 rfl rfl (ki_in (om_10 b5) (om_325 b1 b6)) dX5_lays_31 (fun H locs hP hD hS => ?_)
  obtain ⟨hP, hD⟩ := kx_re (w2 := [kx_5 h0 g_row m_n m_slots m_thrown g_many g_loss g_less g_voteValue g_voteNumber g_allValue g_allNumber m_allMany g_nodeL g_nodeR y_1 g_part m_partMany g_wasMany g_wasLoss g_wasValue g_wasNumber g_path m_pathMany g_heavyValue g_heavyTimes m_heavyMany g_fewest g_which g_met m_mostMet, kx_a g_row cyI 160 f, kx_a g_many cyI 324 fm, kx_a g_loss cyI 324 fl, kx_a g_less cyI 324 fe, kx_a g_voteValue cyI 1944 vv, kx_a g_voteNumber cyI 1944 vn, kx_a g_allValue cyI 12 av, kx_a g_allNumber cyI 12 an, kx_a g_nodeL cyI 320 (upd nl m_nodes.toNatClampNeg p0), kx_a g_nodeR cyI 320 (upd nr m_nodes.toNatClampNeg p1)]) hP hD rfl
  refine lv_iload_n hx hb dX5_lays_32 rfl (lv_at hl 3 rfl) ?_
  refine lv_iload_n hx hb dX5_lays_33 rfl (lv_at hl 2 rfl) ?_
  refine lv_isub hx hb dX5_lays_34 ?_
  refine lv_topi (fun y_2 ey_2 => ?_)
  have i_2 : y_2.toInt = p1.toInt - p0.toInt := ki_sub ey_2 rfl rfl (om_168 b1) (om_356 b7)
  refine lv_iconst (v := 1) hx hb dX5_lays_35 (by decide) ?_
  refine lv_icmp_ne (tgt := 54) hx hb dX5_lays_36 (by decide) (fun c_3 => ?_) (fun c_3 => ?_)
  · have i_3 : ¬ y_2.toInt = 1 := kc_ne c_3
    refine lv_iload_n hx hb dX5_lays_54 rfl (lv_at hl 2 rfl) ?_
    refine lv_iload_n hx hb dX5_lays_55 rfl (lv_at hl 3 rfl) ?_
    refine lv_iadd hx hb dX5_lays_56 ?_
    refine lv_topi (fun y_4 ey_4 => ?_)
    have i_4 : y_4.toInt = p0.toInt + p1.toInt := ki_add ey_4 rfl rfl (om_330 b0 b1) (om_331 b1 b2)
    refine lv_iconst (v := 2) hx hb dX5_lays_57 (by decide) ?_
    refine lv_idiv hx hb dX5_lays_58 (by decide) ?_
    refine lv_topi (fun y_5 ey_5 => ?_)
    have i_5 : y_5.toInt = y_4.toInt / 2 := ki_div2 ey_5 rfl (om_332 b0 b1 i_4)
    have d_6 := om_dv i_5
    refine lv_istore (lv' := [(5, .int y_5), (4, .int m_nodes), (0, .ref h0), (1, .int p0), (2, .int p1), (3, .int p2)]) hx hb dX5_lays_59 hl (by decide) rfl (fun ls hl => ?_)
    refine lv_aload_n hx hb dX5_lays_61 rfl (lv_at hl 2 rfl) ?_
    refine lv_iload_n hx hb dX5_lays_62 rfl (lv_at hl 3 rfl) ?_
    refine lv_iload hx hb dX5_lays_63 (lv_at hl 0 rfl) ?_
    refine lv_iload_n hx hb dX5_lays_65 rfl (lv_at hl 5 rfl) ?_
    have hPc := hP
    have hKc := hK
    have hDc := hD
    have hFc := kx_free hD hS hA
    refine va_calli (va_runV (As := [.int p0, .int y_5, .int p2]) (rest := []) ⟨hx, hb, hml, hown, hts⟩ (kx_un (c_X5_lays_5 l dC dI h0 g_row g_many g_loss g_less g_voteValue g_voteNumber g_allValue g_allNumber g_nodeL g_nodeR g_part g_wasMany g_wasLoss g_wasValue g_wasNumber g_path g_heavyValue g_heavyTimes g_fewest g_which g_met m_n m_slots m_thrown m_allMany y_1 m_partMany m_pathMany m_heavyMany m_mostMet cyI fm fl fe vv vn f av an (upd nl m_nodes.toNatClampNeg p0) (upd nr m_nodes.toNatClampNeg p1) p0 y_5 p2 H.size b0 (by omega) (om_333 b1 b2 i_4 d_6.1) b3 b4 (om_34 b5 i_1) (om_334 b1 b6 i_1 i_4 d_6.1) s4 (om_357 b7 i_4 d_6.1))) (cwV 3 hts gX5_lays_X5_lays rfl rfl rfl (by decide +kernel) ⟨Nat.le_of_ble_eq_true rfl, Nat.le_of_ble_eq_true rfl⟩) ⟨fun a U g mk q => by obtain ⟨q0, q1, qP, qK, qD⟩ := q; exact ⟨q0, q1, qP, va_K.moved (u := U) (U := U.calling g mk a) (Vm.Alike.refl U.vm) qK, qD⟩, kx_rc5 hKc hPc (q0 := 0) rfl, fun U hU hW => ⟨rfl, by rw [hU], by rw [hU]; exact hPc, va_K.moved hW.alike hKc, hDc.weaken (fun _ _ _ _ => trivial)⟩⟩ rfl rfl hl.1 rfl (lv_room (Nat.le_of_ble_eq_true rfl)) dX5_lays_66 ⟨Nat.le_of_ble_eq_true rfl, Nat.le_of_ble_eq_true rfl⟩) hS (fun q _ h => hFc q h) hFc (fun r_7 u t H1 locs ht hvm w_7 hB hz1 hk1 hS => ?_)
    obtain ⟨o_8, o_9, o_10, o_11, o_12, o_13, o_14, o_15, o_16, o_17, o_18⟩ := u
    dsimp only at w_7 hB
    obtain ⟨hP1, hK1, hD1⟩ := hB
    rw [ht] at hP1
    have hK1 := va_K.moved hvm.symm hK1
    have hD := hD1.weaken (fun _ q _ h => hFc q.1 h)
    have hP := hP1
    clear hP1 hD1 hK1 hk1 hz1 hFc hDc hPc hKc
    generalize H1 = H at hP hS ⊢
    have w_7 : r_7 = y_1 ∧ o_8.toInt = y_1.toInt + 2 * (y_5.toInt - p0.toInt) - 1 ∧ six4 o_10 ∧ mj_S p2.toNatClampNeg f o_17 o_18 o_10 o_11 o_12 o_13 o_14 5 y_1.toNatClampNeg p0.toNatClampNeg y_5.toNatClampNeg ∧ mj_ag 0 y_1.toNatClampNeg (upd nl m_nodes.toNatClampNeg p0) (upd nr m_nodes.toNatClampNeg p1) fm fl fe vv vn o_17 o_18 o_10 o_11 o_12 o_13 o_14 := w_7
    refine lv_istore (lv' := [(6, .int r_7), (5, .int y_5), (4, .int m_nodes), (0, .ref h0), (1, .int p0), (2, .int p1), (3, .int p2)]) hx hb dX5_lays_69 hl (by decide) rfl (fun ls hl => ?_)
    refine lv_aload_n hx hb dX5_lays_71 rfl (lv_at hl 3 rfl) ?_
    refine lv_iload hx hb dX5_lays_72 (lv_at hl 1 rfl) ?_
    refine lv_iload_n hx hb dX5_lays_74 rfl (lv_at hl 5 rfl) ?_
    refine lv_iload_n hx hb dX5_lays_75 rfl (lv_at hl 6 rfl) ?_
    have hPc := hP
    have hKc := hK
    have hDc := hD
    have hFc := kx_free hD hS hA
    refine va_calli (va_runV (As := [.int y_5, .int p1, .int p2]) (rest := []) ⟨hx, hb, hml, hown, hts⟩ (kx_un (c_X5_lays_5 l dC dI h0 g_row g_many g_loss g_less g_voteValue g_voteNumber g_allValue g_allNumber g_nodeL g_nodeR g_part g_wasMany g_wasLoss g_wasValue g_wasNumber g_path g_heavyValue g_heavyTimes g_fewest g_which g_met m_n m_slots m_thrown o_9 o_8 m_partMany m_pathMany m_heavyMany m_mostMet cyI o_10 o_11 o_12 o_13 o_14 f o_15 o_16 o_17 o_18 y_5 p1 p2 H.size (om_336 b0 b1 i_4 d_6.2) (by omega) b2 b3 b4 (om_337 b1 b5 i_1 i_4 d_6.2 w_7.2.1) (om_338 b6 i_1 w_7.2.1) w_7.2.2.1 (by omega))) (cwV 3 hts gX5_lays_X5_lays rfl rfl rfl (by decide +kernel) ⟨Nat.le_of_ble_eq_true rfl, Nat.le_of_ble_eq_true rfl⟩) ⟨fun a U g mk q => by obtain ⟨q0, q1, qP, qK, qD⟩ := q; exact ⟨q0, q1, qP, va_K.moved (u := U) (U := U.calling g mk a) (Vm.Alike.refl U.vm) qK, qD⟩, kx_rc5 hKc hPc (q0 := 0) rfl, fun U hU hW => ⟨rfl, by rw [hU], by rw [hU]; exact hPc, va_K.moved hW.alike hKc, hDc.weaken (fun _ _ _ _ => trivial)⟩⟩ rfl rfl hl.1 rfl (lv_room (Nat.le_of_ble_eq_true rfl)) dX5_lays_76 ⟨Nat.le_of_ble_eq_true rfl, Nat.le_of_ble_eq_true rfl⟩) hS (fun q _ h => hFc q h) hFc (fun r_19 u t H1 locs ht hvm w_19 hB hz1 hk1 hS => ?_)
    obtain ⟨o_20, o_21, o_22, o_23, o_24, o_25, o_26, o_27, o_28, o_29, o_30⟩ := u
    dsimp only at w_19 hB
    obtain ⟨hP1, hK1, hD1⟩ := hB
    rw [ht] at hP1
    have hK1 := va_K.moved hvm.symm hK1
    have hD := hD1.weaken (fun _ q _ h => hFc q.1 h)
    have hP := hP1
    clear hP1 hD1 hK1 hk1 hz1 hFc hDc hPc hKc
    generalize H1 = H at hP hS ⊢
    have w_19 : r_19 = o_8 ∧ o_20.toInt = o_8.toInt + 2 * (p1.toInt - y_5.toInt) - 1 ∧ six4 o_22 ∧ mj_S p2.toNatClampNeg f o_29 o_30 o_22 o_23 o_24 o_25 o_26 5 o_8.toNatClampNeg y_5.toNatClampNeg p1.toNatClampNeg ∧ mj_ag 0 o_8.toNatClampNeg o_17 o_18 o_10 o_11 o_12 o_13 o_14 o_29 o_30 o_22 o_23 o_24 o_25 o_26 := w_19
    refine lv_istore (lv' := [(7, .int r_19), (6, .int r_7), (5, .int y_5), (4, .int m_nodes), (0, .ref h0), (1, .int p0), (2, .int p1), (3, .int p2)]) hx hb dX5_lays_79 hl (by decide) rfl (fun ls hl => ?_)
    have n_p0 := ki_nat p0 rfl (om_10 b0)
    have n_p1 := ki_nat p1 rfl (om_21 b0 b1)
    have n_p2 := ki_nat p2 rfl (om_51 b3)
    have n_nd := ki_nat m_nodes rfl (om_10 b5)
    have n_y := ki_nat y_1 rfl (om_34 b5 i_1)
    have n_md := ki_nat y_5 rfl (om_336 b0 b1 i_4 d_6.2)
    have n_oL := ki_nat o_8 rfl (om_337 b1 b5 i_1 i_4 d_6.2 w_7.2.1)
    have i_rL : r_7.toInt = y_1.toInt := congrArg Int32.toInt w_7.1
    have i_rR : r_19.toInt = o_8.toInt := congrArg Int32.toInt w_19.1
    obtain ⟨mua, La, ca, tA⟩ := w_7.2.2.2.1
    obtain ⟨mub, Lb, cb, tB⟩ := w_19.2.2.2.1
    obtain ⟨g_1, g_2, g_3, g_4, g_5, g_6⟩ := mj_ly9 n_p0 n_p1 n_nd n_y n_md n_oL i_1 i_4 i_5 w_7.2.1 b1 i_2 i_3
    have tA2 := mj_T_ag _ _ o_8.toNatClampNeg _ _ _ _ _ tA g_1 (mj_ag_sub w_19.2.2.2.2 (Nat.zero_le _) (Nat.le_refl _))
    have nA := mj_T_nd tA2
    have nB := mj_T_nd tB
    refine lv_aload_n hx hb dX5_lays_81 rfl (lv_at hl 4 rfl) ?_
    refine lv_iload hx hb dX5_lays_82 (lv_at hl 1 rfl) ?_
    refine lv_iload hx hb dX5_lays_84 (lv_at hl 0 rfl) ?_
    refine lv_iload hx hb dX5_lays_86 (lv_at hl 3 rfl) ?_
    refine lv_iload_n hx hb dX5_lays_88 rfl (lv_at hl 7 rfl) ?_
    obtain ⟨hPc, hDc, hFc, hCc⟩ := kx_preM (wc := [kx_5 h0 g_row m_n m_slots m_thrown g_many g_loss g_less g_voteValue g_voteNumber g_allValue g_allNumber o_21 g_nodeL g_nodeR o_20 g_part m_partMany g_wasMany g_wasLoss g_wasValue g_wasNumber g_path m_pathMany g_heavyValue g_heavyTimes m_heavyMany g_fewest g_which g_met m_mostMet, kx_a g_many cyI 324 o_22, kx_a g_loss cyI 324 o_23, kx_a g_less cyI 324 o_24, kx_a g_voteValue cyI 1944 o_25, kx_a g_voteNumber cyI 1944 o_26, kx_a g_allValue cyI 12 o_27, kx_a g_allNumber cyI 12 o_28]) hP hD hS hA [true, false, true, true, true, true, true, true, true, false, false] rfl
    have hKc := hK
    refine va_callv (va_runV (As := [.int r_7, .int r_19, .int m_nodes, .int p2]) (rest := []) ⟨hx, hb, hml, hown, hts⟩ (kx_un (c_X5_together l dC dI h0 g_row g_many g_loss g_less g_voteValue g_voteNumber g_allValue g_allNumber g_nodeL g_nodeR g_part g_wasMany g_wasLoss g_wasValue g_wasNumber g_path g_heavyValue g_heavyTimes g_fewest g_which g_met m_n m_slots m_thrown o_21 o_20 m_partMany m_pathMany m_heavyMany m_mostMet cyI o_22 o_23 o_24 o_25 o_26 o_27 o_28 mua mub r_7 r_19 m_nodes p2 H.size (om_339 b5 i_1 i_rL) (om_340 b1 b6 i_1 i_rL) (om_341 b1 b5 i_1 i_4 d_6.2 w_7.2.1 i_rR) (om_342 b1 b6 i_1 i_4 d_6.1 w_7.2.1 i_rR) (om_10 b5) (om_343 b1 b6) (om_51 b3) (om_344 b4) (by rw [w_7.1]; exact nA.2.2.1) (by rw [w_7.1]; exact nA.2.2.2.1) (by rw [w_19.1]; exact nB.2.2.1) (by rw [w_19.1]; exact nB.2.2.2.1) (by rw [w_7.1]; exact nA.2.2.2.2.2.2.2.1) (by rw [w_19.1]; exact nB.2.2.2.2.2.2.2.1) (fun v => by have h1 := mj_T_le _ _ _ _ _ _ _ tA2 v; have h2 := mj_T_le _ _ _ _ _ _ _ tB v; omega))) (cwV 4 hts gX5_lays_X5_together rfl rfl rfl (by decide +kernel) ⟨Nat.le_of_ble_eq_true rfl, Nat.le_of_ble_eq_true rfl⟩) ⟨fun a U g mk q => by obtain ⟨q0, q1, qP, qK, qD⟩ := q; exact ⟨q0, q1, qP, va_K.moved (u := U) (U := U.calling g mk a) (Vm.Alike.refl U.vm) qK, qD⟩, kx_rc5 hKc hPc (q0 := 0) rfl, fun U hU hW => ⟨rfl, by rw [hU], by rw [hU]; exact hPc, va_K.moved hW.alike hKc, hDc.weaken (fun _ _ _ _ => trivial)⟩⟩ rfl rfl hl.1 rfl (lv_room (Nat.le_of_ble_eq_true rfl)) dX5_lays_89 ⟨Nat.le_of_ble_eq_true rfl, Nat.le_of_ble_eq_true rfl⟩) hS (fun q _ h => hFc q h) hFc (fun u t H1 locs ht hvm w_31 hB hz1 hk1 hS => ?_)
    obtain ⟨o_32, o_33, o_34, o_35, o_36, o_37, o_38, o_39, o_40, o_41, o_42⟩ := u
    dsimp only at w_31 hB
    obtain ⟨hP1, hK1, hD1⟩ := hB
    rw [ht] at hP1
    have hK1 := va_K.moved hvm.symm hK1
    obtain ⟨hP, hD⟩ := kx_joinM (w2 := [kx_5 h0 g_row m_n m_slots m_thrown g_many g_loss g_less g_voteValue g_voteNumber g_allValue g_allNumber o_32 g_nodeL g_nodeR o_20 g_part m_partMany g_wasMany g_wasLoss g_wasValue g_wasNumber g_path m_pathMany g_heavyValue g_heavyTimes m_heavyMany g_fewest g_which g_met m_mostMet, kx_a g_row cyI 160 f, kx_a g_many cyI 324 o_36, kx_a g_loss cyI 324 o_37, kx_a g_less cyI 324 o_38, kx_a g_voteValue cyI 1944 o_39, kx_a g_voteNumber cyI 1944 o_40, kx_a g_allValue cyI 12 o_41, kx_a g_allNumber cyI 12 o_42, kx_a g_nodeL cyI 320 o_29, kx_a g_nodeR cyI 320 o_30]) hP hD hP1 hD1 hk1 hFc [true, false, true, true, true, true, true, true, true, false, false] hCc rfl
    clear hP1 hD1 hK1 hk1 hz1 hFc hDc hPc hKc hCc
    generalize H1 = H at hP hS ⊢
    have w_31 : mj_tog p2.toNatClampNeg mua mub o_35 o_33 ∧ o_37 = upd o_23 m_nodes.toNatClampNeg (o_23 r_7.toNatClampNeg + o_23 r_19.toNatClampNeg + o_33) ∧ o_38 = upd o_24 m_nodes.toNatClampNeg o_33 ∧ o_36 = upd o_22 m_nodes.toNatClampNeg o_34 ∧ 0 ≤ o_34.toInt ∧ o_34.toInt ≤ p2.toInt ∧ mj_vs o_39 o_40 (6 * m_nodes.toNatClampNeg) o_34.toNatClampNeg o_35 ∧ mj_srt o_39 o_40 (6 * m_nodes.toNatClampNeg) o_34.toNatClampNeg ∧ ∀ q : Nat, (q < 6 * m_nodes.toNatClampNeg ∨ 6 * m_nodes.toNatClampNeg + 6 ≤ q) → o_39 q = o_25 q ∧ o_40 q = o_26 q := w_31
    refine lv_iload hx hb dX5_lays_92 (lv_at hl 3 rfl) ?_
    have hP9 := hP
    have hD9 := hD
    have hK9 := hK
    have e_fl := w_31.2.1
    rw [w_7.1, w_19.1] at e_fl
    have hN := mj_lay_node (l := p0.toNatClampNeg) (r := p1.toNatClampNeg) (md := y_5.toNatClampNeg) (a := m_nodes.toNatClampNeg) g_2 g_3 n_p0.symm n_p1.symm g_4 g_5 (mj_ag_sub w_7.2.2.2.2 (Nat.le_refl _) g_6) w_19.2.2.2.2 tA2 tB w_31.1 w_31.2.2.2.1 w_31.2.2.2.2.1 (Int.le_trans w_31.2.2.2.2.2.1 (Int.le_of_eq n_p2.symm)) (mj_ln6 n_p2 b4) e_fl w_31.2.2.1 w_31.2.2.2.2.2.2.1 w_31.2.2.2.2.2.2.2.1 w_31.2.2.2.2.2.2.2.2
    exact W.iret (v := m_nodes) hx hb hr (hlocks := hlocks) (fun t ht hW => ⟨⟨m_nodes, (o_20, o_32, o_36, o_37, o_38, o_39, o_40, o_41, o_42, o_29, o_30), rfl, ⟨rfl, (om_345 i_1 w_7.2.1 w_19.2.1), (by (try dsimp only); rw [w_31.2.2.2.1]; exact six4_upd w_19.2.2.1 w_31.2.2.2.2.1 (om_346 b4 w_31.2.2.2.2.2.1)), hN.1, hN.2⟩, by rw [ht]; exact hP9, va_K.moved hW.alike hK9, hD9⟩, hS.F ht⟩) hS.2.2 dX5_lays_94
  · have i_3 : y_2.toInt = 1 := kc_eq c_3
    refine lv_aload_n hx hb dX5_lays_39 rfl (lv_at hl 1 rfl) ?_
    refine lv_iload hx hb dX5_lays_40 (lv_at hl 0 rfl) ?_
    refine lv_aload_n hx hb dX5_lays_42 rfl (lv_at hl 1 rfl) ?_
    refine va_get (D := (dC, dI)) (ci := 5) (v := .ref g_row) (C := RX5) (T := TX5) (N := 30) hx hb hts hi_5 hown hK hP 0 rfl rfl 0 (by decide) hf_7 (fun _ h9 => h9) rfl dX5_lays_43 ?_
    refine lv_iload_n hx hb dX5_lays_46 rfl (lv_at hl 2 rfl) ?_
    refine va_iald hx hb hK hP 1 0 rfl rfl (ki_in (om_10 b0) (om_85 b1 b2)) dX5_lays_47 ?_
    refine lv_topi (fun y_43 ey_43 => ?_)
    have j_43 : y_43.toInt = (f p0.toNatClampNeg).toInt := congrArg Int32.toInt ey_43
    obtain ⟨hPc, hDc, hFc, hCc⟩ := kx_preM (wc := [kx_5 h0 g_row m_n m_slots m_thrown g_many g_loss g_less g_voteValue g_voteNumber g_allValue g_allNumber m_allMany g_nodeL g_nodeR y_1 g_part m_partMany g_wasMany g_wasLoss g_wasValue g_wasNumber g_path m_pathMany g_heavyValue g_heavyTimes m_heavyMany g_fewest g_which g_met m_mostMet, kx_a g_many cyI 324 fm, kx_a g_loss cyI 324 fl, kx_a g_less cyI 324 fe, kx_a g_voteValue cyI 1944 vv, kx_a g_voteNumber cyI 1944 vn]) hP hD hS hA [true, false, true, true, true, true, true, false, false, false, false] rfl
    have hKc := hK
    refine va_callv (va_runV (As := [.int m_nodes, .int y_43]) (rest := []) ⟨hx, hb, hml, hown, hts⟩ (kx_un (c_X5_one_x l dC dI h0 g_row g_many g_loss g_less g_voteValue g_voteNumber g_allValue g_allNumber g_nodeL g_nodeR g_part g_wasMany g_wasLoss g_wasValue g_wasNumber g_path g_heavyValue g_heavyTimes g_fewest g_which g_met m_n m_slots m_thrown m_allMany y_1 m_partMany m_pathMany m_heavyMany m_mostMet cyI fm fl fe vv vn m_nodes y_43 H.size b5 (om_327 b1 b6))) (cwV 2 hts gX5_lays_X5_one rfl rfl rfl (by decide +kernel) ⟨Nat.le_of_ble_eq_true rfl, Nat.le_of_ble_eq_true rfl⟩) ⟨fun a U g mk q => by obtain ⟨q0, q1, qP, qK, qD⟩ := q; exact ⟨q0, q1, qP, va_K.moved (u := U) (U := U.calling g mk a) (Vm.Alike.refl U.vm) qK, qD⟩, kx_rc5 hKc hPc (q0 := 0) rfl, fun U hU hW => ⟨rfl, by rw [hU], by rw [hU]; exact hPc, va_K.moved hW.alike hKc, hDc.weaken (fun _ _ _ _ => trivial)⟩⟩ rfl rfl hl.1 rfl (lv_room (Nat.le_of_ble_eq_true rfl)) dX5_lays_48 ⟨Nat.le_of_ble_eq_true rfl, Nat.le_of_ble_eq_true rfl⟩) hS (fun q _ h => hFc q h) hFc (fun u t H1 locs ht hvm w_44 hB hz1 hk1 hS => ?_)
    obtain ⟨o_45, o_46, o_47, o_48, o_49⟩ := u
    dsimp only at w_44 hB
    obtain ⟨hP1, hK1, hD1⟩ := hB
    rw [ht] at hP1
    have hK1 := va_K.moved hvm.symm hK1
    obtain ⟨hP, hD⟩ := kx_joinM (w2 := [kx_5 h0 g_row m_n m_slots m_thrown g_many g_loss g_less g_voteValue g_voteNumber g_allValue g_allNumber m_allMany g_nodeL g_nodeR y_1 g_part m_partMany g_wasMany g_wasLoss g_wasValue g_wasNumber g_path m_pathMany g_heavyValue g_heavyTimes m_heavyMany g_fewest g_which g_met m_mostMet, kx_a g_row cyI 160 f, kx_a g_many cyI 324 o_45, kx_a g_loss cyI 324 o_46, kx_a g_less cyI 324 o_47, kx_a g_voteValue cyI 1944 o_48, kx_a g_voteNumber cyI 1944 o_49, kx_a g_allValue cyI 12 av, kx_a g_allNumber cyI 12 an, kx_a g_nodeL cyI 320 (upd nl m_nodes.toNatClampNeg p0), kx_a g_nodeR cyI 320 (upd nr m_nodes.toNatClampNeg p1)]) hP hD hP1 hD1 hk1 hFc [true, false, true, true, true, true, true, false, false, false, false] hCc rfl
    clear hP1 hD1 hK1 hk1 hz1 hFc hDc hPc hKc hCc
    generalize H1 = H at hP hS ⊢
    have w_44 : o_45 = upd fm m_nodes.toNatClampNeg 1 ∧ o_46 = upd fl m_nodes.toNatClampNeg 0 ∧ o_47 = upd fe m_nodes.toNatClampNeg 0 ∧ o_48 = upd vv (6 * m_nodes.toNatClampNeg) y_43 ∧ o_49 = upd vn (6 * m_nodes.toNatClampNeg) 1 := w_44
    refine lv_iload hx hb dX5_lays_51 (lv_at hl 0 rfl) ?_
    have hP9 := hP
    have hD9 := hD
    have hK9 := hK
    have n_p0 := ki_nat p0 rfl (om_10 b0)
    have n_p1 := ki_nat p1 rfl (om_21 b0 b1)
    have n_p2 := ki_nat p2 rfl (om_51 b3)
    have n_nd := ki_nat m_nodes rfl (om_10 b5)
    have e_vv := w_44.2.2.2.1
    rw [ey_43] at e_vv
    have hN := mj_lay_leaf (K := p2.toNatClampNeg) (f := f) (nl := nl) (nr := nr) (l := p0.toNatClampNeg) (r := p1.toNatClampNeg) (l32 := p0) (r32 := p1) 6 (mj_ln1 n_p2 b3) (mj_lf9 n_p0 n_p1 i_2 i_3) n_p0.symm n_p1.symm w_44.1 w_44.2.1 w_44.2.2.1 e_vv w_44.2.2.2.2
    exact W.iret (v := m_nodes) hx hb hr (hlocks := hlocks) (fun t ht hW => ⟨⟨m_nodes, (y_1, m_allMany, o_45, o_46, o_47, o_48, o_49, av, an, (upd nl m_nodes.toNatClampNeg p0), (upd nr m_nodes.toNatClampNeg p1)), rfl, ⟨rfl, (om_347 b1 i_1 i_2 i_3), (by (try dsimp only); rw [w_44.1]; exact six4_upd s4 (by decide) (by decide)), hN.1, hN.2⟩, by rw [ht]; exact hP9, va_K.moved hW.alike hK9, hD9⟩, hS.F ht⟩) hS.2.2 dX5_lays_53

set_option maxHeartbeats 4000000 in
set_option maxRecDepth 100000 in
theorem c_X5_lays_7 (l : Launch) (dC : Nat → ClassId) (dI : Nat → Nat → Nat) (h0 : Nat) (g_row : Nat) (g_many : Nat) (g_loss : Nat) (g_less : Nat) (g_voteValue : Nat) (g_voteNumber : Nat) (g_allValue : Nat) (g_allNumber : Nat) (g_nodeL : Nat) (g_nodeR : Nat) (g_part : Nat) (g_wasMany : Nat) (g_wasLoss : Nat) (g_wasValue : Nat) (g_wasNumber : Nat) (g_path : Nat) (g_heavyValue : Nat) (g_heavyTimes : Nat) (g_fewest : Nat) (g_which : Nat) (g_met : Nat) (m_n : Int32) (m_slots : Int32) (m_thrown : Int32) (m_allMany : Int32) (m_nodes : Int32) (m_partMany : Int32) (m_pathMany : Int32) (m_heavyMany : Int32) (m_mostMet : Int32) (cyI : ClassId) (fm : Nat → Int32) (fl : Nat → Int32) (fe : Nat → Int32) (vv : Nat → Int32) (vn : Nat → Int32) (f : Nat → Int32) (av : Nat → Int32) (an : Nat → Int32) (nl : Nat → Int32) (nr : Nat → Int32) (p0 : Int32) (p1 : Int32) (p2 : Int32) (sz : Nat) (b0 : 0 ≤ p0.toInt) (b1 : p0.toInt < p1.toInt) (b2 : p1.toInt ≤ 160) (b3 : 1 ≤ p2.toInt) (b4 : p2.toInt ≤ 6) (b5 : 0 ≤ m_nodes.toInt) (b6 : m_nodes.toInt + 2 * (p1.toInt - p0.toInt) - 1 ≤ 319) (s4 : six4 fm) (b7 : p1.toInt - p0.toInt ≤ 128) : kx_MQ l (dC, dI) yX5_lays wsX5_lays ({ frames := 9, cells := 0, slots := 0, locals := 405 }) [.ref h0, .int p0, .int p1, .int p2] [kx_5 h0 g_row m_n m_slots m_thrown g_many g_loss g_less g_voteValue g_voteNumber g_allValue g_allNumber m_allMany g_nodeL g_nodeR m_nodes g_part m_partMany g_wasMany g_wasLoss g_wasValue g_wasNumber g_path m_pathMany g_heavyValue g_heavyTimes m_heavyMany g_fewest g_which g_met m_mostMet, kx_a g_row cyI 160 f, kx_a g_many cyI 324 fm, kx_a g_loss cyI 324 fl, kx_a g_less cyI 324 fe, kx_a g_voteValue cyI 1944 vv, kx_a g_voteNumber cyI 1944 vn, kx_a g_allValue cyI 12 av, kx_a g_allNumber cyI 12 an, kx_a g_nodeL cyI 320 nl, kx_a g_nodeR cyI 320 nr] [(cyI, .int)] sz (fun A => va_Qi (fun (r : Int32) (u : Int32 × Int32 × (Nat → Int32) × (Nat → Int32) × (Nat → Int32) × (Nat → Int32) × (Nat → Int32) × (Nat → Int32) × (Nat → Int32) × (Nat → Int32) × (Nat → Int32)) => r = m_nodes ∧ u.1.toInt = m_nodes.toInt + 2 * (p1.toInt - p0.toInt) - 1 ∧ six4 u.2.2.1 ∧ mj_S p2.toNatClampNeg f u.2.2.2.2.2.2.2.2.2.1 u.2.2.2.2.2.2.2.2.2.2 u.2.2.1 u.2.2.2.1 u.2.2.2.2.1 u.2.2.2.2.2.1 u.2.2.2.2.2.2.1 7 m_nodes.toNatClampNeg p0.toNatClampNeg p1.toNatClampNeg ∧ mj_ag 0 m_nodes.toNatClampNeg nl nr fm fl fe vv vn u.2.2.2.2.2.2.2.2.2.1 u.2.2.2.2.2.2.2.2.2.2 u.2.2.1 u.2.2.2.1 u.2.2.2.2.1 u.2.2.2.2.2.1 u.2.2.2.2.2.2.1) (fun (u : Int32 × Int32 × (Nat → Int32) × (Nat → Int32) × (Nat → Int32) × (Nat → Int32) × (Nat → Int32) × (Nat → Int32) × (Nat → Int32) × (Nat → Int32) × (Nat → Int32)) (t : State) => va_P (dC, dI) vwCl [kx_5 h0 g_row m_n m_slots m_thrown g_many g_loss g_less g_voteValue g_voteNumber g_allValue g_allNumber u.2.1 g_nodeL g_nodeR u.1 g_part m_partMany g_wasMany g_wasLoss g_wasValue g_wasNumber g_path m_pathMany g_heavyValue g_heavyTimes m_heavyMany g_fewest g_which g_met m_mostMet, kx_a g_row cyI 160 f, kx_a g_many cyI 324 u.2.2.1, kx_a g_loss cyI 324 u.2.2.2.1, kx_a g_less cyI 324 u.2.2.2.2.1, kx_a g_voteValue cyI 1944 u.2.2.2.2.2.1, kx_a g_voteNumber cyI 1944 u.2.2.2.2.2.2.1, kx_a g_allValue cyI 12 u.2.2.2.2.2.2.2.1, kx_a g_allNumber cyI 12 u.2.2.2.2.2.2.2.2.1, kx_a g_nodeL cyI 320 u.2.2.2.2.2.2.2.2.2.1, kx_a g_nodeR cyI 320 u.2.2.2.2.2.2.2.2.2.2] t.heap ∧ va_K (dC, dI) vwCl [(cyI, .int)] t ∧ va_D A [kx_5 h0 g_row m_n m_slots m_thrown g_many g_loss g_less g_voteValue g_voteNumber g_allValue g_allNumber u.2.1 g_nodeL g_nodeR u.1 g_part m_partMany g_wasMany g_wasLoss g_wasValue g_wasNumber g_path m_pathMany g_heavyValue g_heavyTimes m_heavyMany g_fewest g_which g_met m_mostMet, kx_a g_row cyI 160 f, kx_a g_many cyI 324 u.2.2.1, kx_a g_loss cyI 324 u.2.2.2.1, kx_a g_less cyI 324 u.2.2.2.2.1, kx_a g_voteValue cyI 1944 u.2.2.2.2.2.1, kx_a g_voteNumber cyI 1944 u.2.2.2.2.2.2.1, kx_a g_allValue cyI 12 u.2.2.2.2.2.2.2.1, kx_a g_allNumber cyI 12 u.2.2.2.2.2.2.2.2.1, kx_a g_nodeL cyI 320 u.2.2.2.2.2.2.2.2.2.1, kx_a g_nodeR cyI 320 u.2.2.2.2.2.2.2.2.2.2]) A) := by
  refine kx_stQ (ws := wsX5_lays) (cc := cX5_lays) (maxL := 8) (ret := (some .int)) (by decide) rfl (Nat.le_of_ble_eq_true rfl) ?_
  intro p e s m below meth c A ls hx hb hr hlocks hts hown hml hA hS hP hK hD hl
  have hown : s.vm.findClass RX5 = some m.cls := hown
  have hl : lv_has ls 8 [(0, .ref h0), (1, .int p0), (2, .int p1), (3, .int p2)] := hl
  have hf_101 := hts (.fieldLink RX5 101 "MajorityIndexModel" "nodes" "I") (List.mem_of_getElem? (i := 1) rfl)
  have hi_5 : ∀ w ∈ u_ws RX5 TX5 30, w ∈ wsX5_lays := fun w h => List.mem_cons_of_mem _ (List.mem_append_right _ h)
  have hf_38 := hts (.fieldLink RX5 38 "MajorityIndexModel" "nodeL" "[I") (List.mem_of_getElem? (i := 2) rfl)
  have hf_41 := hts (.fieldLink RX5 41 "MajorityIndexModel" "nodeR" "[I") (List.mem_of_getElem? (i := 3) rfl)
  have hf_7 := hts (.fieldLink RX5 7 "MajorityIndexModel" "row" "[I") (List.mem_of_getElem? (i := 4) rfl)
  refine lv_aload_n hx hb dX5_lays_0 rfl (lv_at hl 0 rfl) ?_
  refine va_get (D := (dC, dI)) (ci := 5) (v := .int m_nodes) (C := RX5) (T := TX5) (N := 30) hx hb hts hi_5 hown hK hP 0 rfl rfl 14 (by decide) hf_101 (fun _ h9 => h9) rfl dX5_lays_1 ?_
  refine lv_istore (lv' := [(4, .int m_nodes), (0, .ref h0), (1, .int p0), (2, .int p1), (3, .int p2)]) hx hb dX5_lays_4 hl (by decide) rfl (fun ls hl => ?_)
  refine lv_aload_n hx hb dX5_lays_6 rfl (lv_at hl 1 rfl) ?_
  refine lv_dup hx hb dX5_lays_7 rfl ?_
  refine va_get (D := (dC, dI)) (ci := 5) (v := .int m_nodes) (C := RX5) (T := TX5) (N := 30) hx hb hts hi_5 hown hK hP 0 rfl rfl 14 (by decide) hf_101 (fun _ h9 => h9) rfl dX5_lays_8 ?_
  refine lv_iconst (v := 1) hx hb dX5_lays_11 (by decide) ?_
  refine lv_iadd hx hb dX5_lays_12 ?_
  refine lv_topi (fun y_1 ey_1 => ?_)
  have i_1 : y_1.toInt = m_nodes.toInt + 1 := ki_add ey_1 rfl rfl (om_13 b5) (om_324 b1 b6)
  refine va_put (D := (dC, dI)) (ci := 5) (v := .int y_1) (ty := .int) (C := RX5) (T := TX5) (N := 30) hx hb hts hi_5 tyX5 tyX5_ok nmX5 hown hK hP hD hS 0 rfl rfl 14 (by decide) hf_101 (fun _ h9 => h9) rfl (by decide +kernel) rfl rfl (Nat.le_of_ble_eq_true rfl) dX5_lays_13 (fun H locs hP hD hS => ?_)
  obtain ⟨hP, hD⟩ := kx_re (w2 := [kx_5 h0 g_row m_n m_slots m_thrown g_many g_loss g_less g_voteValue g_voteNumber g_allValue g_allNumber m_allMany g_nodeL g_nodeR y_1 g_part m_partMany g_wasMany g_wasLoss g_wasValue g_wasNumber g_path m_pathMany g_heavyValue g_heavyTimes m_heavyMany g_fewest g_which g_met m_mostMet, kx_a g_row cyI 160 f, kx_a g_many cyI 324 fm, kx_a g_loss cyI 324 fl, kx_a g_less cyI 324 fe, kx_a g_voteValue cyI 1944 vv, kx_a g_voteNumber cyI 1944 vn, kx_a g_allValue cyI 12 av, kx_a g_allNumber cyI 12 an, kx_a g_nodeL cyI 320 nl, kx_a g_nodeR cyI 320 nr]) hP hD rfl
  refine lv_aload_n hx hb dX5_lays_16 rfl (lv_at hl 1 rfl) ?_
  refine va_get (D := (dC, dI)) (ci := 5) (v := .ref g_nodeL) (C := RX5) (T := TX5) (N := 30) hx hb hts hi_5 hown hK hP 0 rfl rfl 12 (by decide) hf_38 (fun _ h9 => h9) rfl dX5_lays_17 ?_
  refine lv_iload hx hb dX5_lays_20 (lv_at hl 0 rfl) ?_
  refine lv_iload_n hx hb dX5_lays_22 rfl (lv_at hl 2 rfl) ?_
  refine va_iast hx hb hK hP hD hS 9 0 rfl rfl (ki_in (om_10 b5) (om_325 b1 b6)) dX5_lays_23 (fun H locs hP hD hS => ?_)
  obtain ⟨hP, hD⟩ := kx_re (w2 := [kx_5 h0 g_row m_n m_slots m_thrown g_many g_loss g_less g_voteValue g_voteNumber g_allValue g_allNumber m_allMany g_nodeL g_nodeR y_1 g_part m_partMany g_wasMany g_wasLoss g_wasValue g_wasNumber g_path m_pathMany g_heavyValue g_heavyTimes m_heavyMany g_fewest g_which g_met m_mostMet, kx_a g_row cyI 160 f, kx_a g_many cyI 324 fm, kx_a g_loss cyI 324 fl, kx_a g_less cyI 324 fe, kx_a g_voteValue cyI 1944 vv, kx_a g_voteNumber cyI 1944 vn, kx_a g_allValue cyI 12 av, kx_a g_allNumber cyI 12 an, kx_a g_nodeL cyI 320 (upd nl m_nodes.toNatClampNeg p0), kx_a g_nodeR cyI 320 nr]) hP hD rfl
  refine lv_aload_n hx hb dX5_lays_24 rfl (lv_at hl 1 rfl) ?_
  refine va_get (D := (dC, dI)) (ci := 5) (v := .ref g_nodeR) (C := RX5) (T := TX5) (N := 30) hx hb hts hi_5 hown hK hP 0 rfl rfl 13 (by decide) hf_41 (fun _ h9 => h9) rfl dX5_lays_25 ?_
  refine lv_iload hx hb dX5_lays_28 (lv_at hl 0 rfl) ?_
  refine lv_iload_n hx hb dX5_lays_30 rfl (lv_at hl 3 rfl) ?_
  refine va_iast hx hb hK hP hD hS 10 0 rfl rfl (ki_in (om_10 b5) (om_325 b1 b6)) dX5_lays_31 (fun H locs hP hD hS => ?_)
  obtain ⟨hP, hD⟩ := kx_re (w2 := [kx_5 h0 g_row m_n m_slots m_thrown g_many g_loss g_less g_voteValue g_voteNumber g_allValue g_allNumber m_allMany g_nodeL g_nodeR y_1 g_part m_partMany g_wasMany g_wasLoss g_wasValue g_wasNumber g_path m_pathMany g_heavyValue g_heavyTimes m_heavyMany g_fewest g_which g_met m_mostMet, kx_a g_row cyI 160 f, kx_a g_many cyI 324 fm, kx_a g_loss cyI 324 fl, kx_a g_less cyI 324 fe, kx_a g_voteValue cyI 1944 vv, kx_a g_voteNumber cyI 1944 vn, kx_a g_allValue cyI 12 av, kx_a g_allNumber cyI 12 an, kx_a g_nodeL cyI 320 (upd nl m_nodes.toNatClampNeg p0), kx_a g_nodeR cyI 320 (upd nr m_nodes.toNatClampNeg p1)]) hP hD rfl
  refine lv_iload_n hx hb dX5_lays_32 rfl (lv_at hl 3 rfl) ?_
  refine lv_iload_n hx hb dX5_lays_33 rfl (lv_at hl 2 rfl) ?_
  refine lv_isub hx hb dX5_lays_34 ?_
  refine lv_topi (fun y_2 ey_2 => ?_)
  have i_2 : y_2.toInt = p1.toInt - p0.toInt := ki_sub ey_2 rfl rfl (om_168 b1) (om_358 b7)
  refine lv_iconst (v := 1) hx hb dX5_lays_35 (by decide) ?_
  refine lv_icmp_ne (tgt := 54) hx hb dX5_lays_36 (by decide) (fun c_3 => ?_) (fun c_3 => ?_)
  · have i_3 : ¬ y_2.toInt = 1 := kc_ne c_3
    refine lv_iload_n hx hb dX5_lays_54 rfl (lv_at hl 2 rfl) ?_
    refine lv_iload_n hx hb dX5_lays_55 rfl (lv_at hl 3 rfl) ?_
    refine lv_iadd hx hb dX5_lays_56 ?_
    refine lv_topi (fun y_4 ey_4 => ?_)
    have i_4 : y_4.toInt = p0.toInt + p1.toInt := ki_add ey_4 rfl rfl (om_330 b0 b1) (om_331 b1 b2)
    refine lv_iconst (v := 2) hx hb dX5_lays_57 (by decide) ?_
    refine lv_idiv hx hb dX5_lays_58 (by decide) ?_
    refine lv_topi (fun y_5 ey_5 => ?_)
    have i_5 : y_5.toInt = y_4.toInt / 2 := ki_div2 ey_5 rfl (om_332 b0 b1 i_4)
    have d_6 := om_dv i_5
    refine lv_istore (lv' := [(5, .int y_5), (4, .int m_nodes), (0, .ref h0), (1, .int p0), (2, .int p1), (3, .int p2)]) hx hb dX5_lays_59 hl (by decide) rfl (fun ls hl => ?_)
    refine lv_aload_n hx hb dX5_lays_61 rfl (lv_at hl 2 rfl) ?_
    refine lv_iload_n hx hb dX5_lays_62 rfl (lv_at hl 3 rfl) ?_
    refine lv_iload hx hb dX5_lays_63 (lv_at hl 0 rfl) ?_
    refine lv_iload_n hx hb dX5_lays_65 rfl (lv_at hl 5 rfl) ?_
    have hPc := hP
    have hKc := hK
    have hDc := hD
    have hFc := kx_free hD hS hA
    refine va_calli (va_runV (As := [.int p0, .int y_5, .int p2]) (rest := []) ⟨hx, hb, hml, hown, hts⟩ (kx_un (c_X5_lays_6 l dC dI h0 g_row g_many g_loss g_less g_voteValue g_voteNumber g_allValue g_allNumber g_nodeL g_nodeR g_part g_wasMany g_wasLoss g_wasValue g_wasNumber g_path g_heavyValue g_heavyTimes g_fewest g_which g_met m_n m_slots m_thrown m_allMany y_1 m_partMany m_pathMany m_heavyMany m_mostMet cyI fm fl fe vv vn f av an (upd nl m_nodes.toNatClampNeg p0) (upd nr m_nodes.toNatClampNeg p1) p0 y_5 p2 H.size b0 (by omega) (om_333 b1 b2 i_4 d_6.1) b3 b4 (om_34 b5 i_1) (om_334 b1 b6 i_1 i_4 d_6.1) s4 (om_359 b7 i_4 d_6.1))) (cwV 3 hts gX5_lays_X5_lays rfl rfl rfl (by decide +kernel) ⟨Nat.le_of_ble_eq_true rfl, Nat.le_of_ble_eq_true rfl⟩) ⟨fun a U g mk q => by obtain ⟨q0, q1, qP, qK, qD⟩ := q; exact ⟨q0, q1, qP, va_K.moved (u := U) (U := U.calling g mk a) (Vm.Alike.refl U.vm) qK, qD⟩, kx_rc5 hKc hPc (q0 := 0) rfl, fun U hU hW => ⟨rfl, by rw [hU], by rw [hU]; exact hPc, va_K.moved hW.alike hKc, hDc.weaken (fun _ _ _ _ => trivial)⟩⟩ rfl rfl hl.1 rfl (lv_room (Nat.le_of_ble_eq_true rfl)) dX5_lays_66 ⟨Nat.le_of_ble_eq_true rfl, Nat.le_of_ble_eq_true rfl⟩) hS (fun q _ h => hFc q h) hFc (fun r_7 u t H1 locs ht hvm w_7 hB hz1 hk1 hS => ?_)
    obtain ⟨o_8, o_9, o_10, o_11, o_12, o_13, o_14, o_15, o_16, o_17, o_18⟩ := u
    dsimp only at w_7 hB
    obtain ⟨hP1, hK1, hD1⟩ := hB
    rw [ht] at hP1
    have hK1 := va_K.moved hvm.symm hK1
    have hD := hD1.weaken (fun _ q _ h => hFc q.1 h)
    have hP := hP1
    clear hP1 hD1 hK1 hk1 hz1 hFc hDc hPc hKc
    generalize H1 = H at hP hS ⊢
    have w_7 : r_7 = y_1 ∧ o_8.toInt = y_1.toInt + 2 * (y_5.toInt - p0.toInt) - 1 ∧ six4 o_10 ∧ mj_S p2.toNatClampNeg f o_17 o_18 o_10 o_11 o_12 o_13 o_14 6 y_1.toNatClampNeg p0.toNatClampNeg y_5.toNatClampNeg ∧ mj_ag 0 y_1.toNatClampNeg (upd nl m_nodes.toNatClampNeg p0) (upd nr m_nodes.toNatClampNeg p1) fm fl fe vv vn o_17 o_18 o_10 o_11 o_12 o_13 o_14 := w_7
    refine lv_istore (lv' := [(6, .int r_7), (5, .int y_5), (4, .int m_nodes), (0, .ref h0), (1, .int p0), (2, .int p1), (3, .int p2)]) hx hb dX5_lays_69 hl (by decide) rfl (fun ls hl => ?_)
    refine lv_aload_n hx hb dX5_lays_71 rfl (lv_at hl 3 rfl) ?_
    refine lv_iload hx hb dX5_lays_72 (lv_at hl 1 rfl) ?_
    refine lv_iload_n hx hb dX5_lays_74 rfl (lv_at hl 5 rfl) ?_
    refine lv_iload_n hx hb dX5_lays_75 rfl (lv_at hl 6 rfl) ?_
    have hPc := hP
    have hKc := hK
    have hDc := hD
    have hFc := kx_free hD hS hA
    refine va_calli (va_runV (As := [.int y_5, .int p1, .int p2]) (rest := []) ⟨hx, hb, hml, hown, hts⟩ (kx_un (c_X5_lays_6 l dC dI h0 g_row g_many g_loss g_less g_voteValue g_voteNumber g_allValue g_allNumber g_nodeL g_nodeR g_part g_wasMany g_wasLoss g_wasValue g_wasNumber g_path g_heavyValue g_heavyTimes g_fewest g_which g_met m_n m_slots m_thrown o_9 o_8 m_partMany m_pathMany m_heavyMany m_mostMet cyI o_10 o_11 o_12 o_13 o_14 f o_15 o_16 o_17 o_18 y_5 p1 p2 H.size (om_336 b0 b1 i_4 d_6.2) (by omega) b2 b3 b4 (om_337 b1 b5 i_1 i_4 d_6.2 w_7.2.1) (om_338 b6 i_1 w_7.2.1) w_7.2.2.1 (by omega))) (cwV 3 hts gX5_lays_X5_lays rfl rfl rfl (by decide +kernel) ⟨Nat.le_of_ble_eq_true rfl, Nat.le_of_ble_eq_true rfl⟩) ⟨fun a U g mk q => by obtain ⟨q0, q1, qP, qK, qD⟩ := q; exact ⟨q0, q1, qP, va_K.moved (u := U) (U := U.calling g mk a) (Vm.Alike.refl U.vm) qK, qD⟩, kx_rc5 hKc hPc (q0 := 0) rfl, fun U hU hW => ⟨rfl, by rw [hU], by rw [hU]; exact hPc, va_K.moved hW.alike hKc, hDc.weaken (fun _ _ _ _ => trivial)⟩⟩ rfl rfl hl.1 rfl (lv_room (Nat.le_of_ble_eq_true rfl)) dX5_lays_76 ⟨Nat.le_of_ble_eq_true rfl, Nat.le_of_ble_eq_true rfl⟩) hS (fun q _ h => hFc q h) hFc (fun r_19 u t H1 locs ht hvm w_19 hB hz1 hk1 hS => ?_)
    obtain ⟨o_20, o_21, o_22, o_23, o_24, o_25, o_26, o_27, o_28, o_29, o_30⟩ := u
    dsimp only at w_19 hB
    obtain ⟨hP1, hK1, hD1⟩ := hB
    rw [ht] at hP1
    have hK1 := va_K.moved hvm.symm hK1
    have hD := hD1.weaken (fun _ q _ h => hFc q.1 h)
    have hP := hP1
    clear hP1 hD1 hK1 hk1 hz1 hFc hDc hPc hKc
    generalize H1 = H at hP hS ⊢
    have w_19 : r_19 = o_8 ∧ o_20.toInt = o_8.toInt + 2 * (p1.toInt - y_5.toInt) - 1 ∧ six4 o_22 ∧ mj_S p2.toNatClampNeg f o_29 o_30 o_22 o_23 o_24 o_25 o_26 6 o_8.toNatClampNeg y_5.toNatClampNeg p1.toNatClampNeg ∧ mj_ag 0 o_8.toNatClampNeg o_17 o_18 o_10 o_11 o_12 o_13 o_14 o_29 o_30 o_22 o_23 o_24 o_25 o_26 := w_19
    refine lv_istore (lv' := [(7, .int r_19), (6, .int r_7), (5, .int y_5), (4, .int m_nodes), (0, .ref h0), (1, .int p0), (2, .int p1), (3, .int p2)]) hx hb dX5_lays_79 hl (by decide) rfl (fun ls hl => ?_)
    have n_p0 := ki_nat p0 rfl (om_10 b0)
    have n_p1 := ki_nat p1 rfl (om_21 b0 b1)
    have n_p2 := ki_nat p2 rfl (om_51 b3)
    have n_nd := ki_nat m_nodes rfl (om_10 b5)
    have n_y := ki_nat y_1 rfl (om_34 b5 i_1)
    have n_md := ki_nat y_5 rfl (om_336 b0 b1 i_4 d_6.2)
    have n_oL := ki_nat o_8 rfl (om_337 b1 b5 i_1 i_4 d_6.2 w_7.2.1)
    have i_rL : r_7.toInt = y_1.toInt := congrArg Int32.toInt w_7.1
    have i_rR : r_19.toInt = o_8.toInt := congrArg Int32.toInt w_19.1
    obtain ⟨mua, La, ca, tA⟩ := w_7.2.2.2.1
    obtain ⟨mub, Lb, cb, tB⟩ := w_19.2.2.2.1
    obtain ⟨g_1, g_2, g_3, g_4, g_5, g_6⟩ := mj_ly9 n_p0 n_p1 n_nd n_y n_md n_oL i_1 i_4 i_5 w_7.2.1 b1 i_2 i_3
    have tA2 := mj_T_ag _ _ o_8.toNatClampNeg _ _ _ _ _ tA g_1 (mj_ag_sub w_19.2.2.2.2 (Nat.zero_le _) (Nat.le_refl _))
    have nA := mj_T_nd tA2
    have nB := mj_T_nd tB
    refine lv_aload_n hx hb dX5_lays_81 rfl (lv_at hl 4 rfl) ?_
    refine lv_iload hx hb dX5_lays_82 (lv_at hl 1 rfl) ?_
    refine lv_iload hx hb dX5_lays_84 (lv_at hl 0 rfl) ?_
    refine lv_iload hx hb dX5_lays_86 (lv_at hl 3 rfl) ?_
    refine lv_iload_n hx hb dX5_lays_88 rfl (lv_at hl 7 rfl) ?_
    obtain ⟨hPc, hDc, hFc, hCc⟩ := kx_preM (wc := [kx_5 h0 g_row m_n m_slots m_thrown g_many g_loss g_less g_voteValue g_voteNumber g_allValue g_allNumber o_21 g_nodeL g_nodeR o_20 g_part m_partMany g_wasMany g_wasLoss g_wasValue g_wasNumber g_path m_pathMany g_heavyValue g_heavyTimes m_heavyMany g_fewest g_which g_met m_mostMet, kx_a g_many cyI 324 o_22, kx_a g_loss cyI 324 o_23, kx_a g_less cyI 324 o_24, kx_a g_voteValue cyI 1944 o_25, kx_a g_voteNumber cyI 1944 o_26, kx_a g_allValue cyI 12 o_27, kx_a g_allNumber cyI 12 o_28]) hP hD hS hA [true, false, true, true, true, true, true, true, true, false, false] rfl
    have hKc := hK
    refine va_callv (va_runV (As := [.int r_7, .int r_19, .int m_nodes, .int p2]) (rest := []) ⟨hx, hb, hml, hown, hts⟩ (kx_un (c_X5_together l dC dI h0 g_row g_many g_loss g_less g_voteValue g_voteNumber g_allValue g_allNumber g_nodeL g_nodeR g_part g_wasMany g_wasLoss g_wasValue g_wasNumber g_path g_heavyValue g_heavyTimes g_fewest g_which g_met m_n m_slots m_thrown o_21 o_20 m_partMany m_pathMany m_heavyMany m_mostMet cyI o_22 o_23 o_24 o_25 o_26 o_27 o_28 mua mub r_7 r_19 m_nodes p2 H.size (om_339 b5 i_1 i_rL) (om_340 b1 b6 i_1 i_rL) (om_341 b1 b5 i_1 i_4 d_6.2 w_7.2.1 i_rR) (om_342 b1 b6 i_1 i_4 d_6.1 w_7.2.1 i_rR) (om_10 b5) (om_343 b1 b6) (om_51 b3) (om_344 b4) (by rw [w_7.1]; exact nA.2.2.1) (by rw [w_7.1]; exact nA.2.2.2.1) (by rw [w_19.1]; exact nB.2.2.1) (by rw [w_19.1]; exact nB.2.2.2.1) (by rw [w_7.1]; exact nA.2.2.2.2.2.2.2.1) (by rw [w_19.1]; exact nB.2.2.2.2.2.2.2.1) (fun v => by have h1 := mj_T_le _ _ _ _ _ _ _ tA2 v; have h2 := mj_T_le _ _ _ _ _ _ _ tB v; omega))) (cwV 4 hts gX5_lays_X5_together rfl rfl rfl (by decide +kernel) ⟨Nat.le_of_ble_eq_true rfl, Nat.le_of_ble_eq_true rfl⟩) ⟨fun a U g mk q => by obtain ⟨q0, q1, qP, qK, qD⟩ := q; exact ⟨q0, q1, qP, va_K.moved (u := U) (U := U.calling g mk a) (Vm.Alike.refl U.vm) qK, qD⟩, kx_rc5 hKc hPc (q0 := 0) rfl, fun U hU hW => ⟨rfl, by rw [hU], by rw [hU]; exact hPc, va_K.moved hW.alike hKc, hDc.weaken (fun _ _ _ _ => trivial)⟩⟩ rfl rfl hl.1 rfl (lv_room (Nat.le_of_ble_eq_true rfl)) dX5_lays_89 ⟨Nat.le_of_ble_eq_true rfl, Nat.le_of_ble_eq_true rfl⟩) hS (fun q _ h => hFc q h) hFc (fun u t H1 locs ht hvm w_31 hB hz1 hk1 hS => ?_)
    obtain ⟨o_32, o_33, o_34, o_35, o_36, o_37, o_38, o_39, o_40, o_41, o_42⟩ := u
    dsimp only at w_31 hB
    obtain ⟨hP1, hK1, hD1⟩ := hB
    rw [ht] at hP1
    have hK1 := va_K.moved hvm.symm hK1
    obtain ⟨hP, hD⟩ := kx_joinM (w2 := [kx_5 h0 g_row m_n m_slots m_thrown g_many g_loss g_less g_voteValue g_voteNumber g_allValue g_allNumber o_32 g_nodeL g_nodeR o_20 g_part m_partMany g_wasMany g_wasLoss g_wasValue g_wasNumber g_path m_pathMany g_heavyValue g_heavyTimes m_heavyMany g_fewest g_which g_met m_mostMet, kx_a g_row cyI 160 f, kx_a g_many cyI 324 o_36, kx_a g_loss cyI 324 o_37, kx_a g_less cyI 324 o_38, kx_a g_voteValue cyI 1944 o_39, kx_a g_voteNumber cyI 1944 o_40, kx_a g_allValue cyI 12 o_41, kx_a g_allNumber cyI 12 o_42, kx_a g_nodeL cyI 320 o_29, kx_a g_nodeR cyI 320 o_30]) hP hD hP1 hD1 hk1 hFc [true, false, true, true, true, true, true, true, true, false, false] hCc rfl
    clear hP1 hD1 hK1 hk1 hz1 hFc hDc hPc hKc hCc
    generalize H1 = H at hP hS ⊢
    have w_31 : mj_tog p2.toNatClampNeg mua mub o_35 o_33 ∧ o_37 = upd o_23 m_nodes.toNatClampNeg (o_23 r_7.toNatClampNeg + o_23 r_19.toNatClampNeg + o_33) ∧ o_38 = upd o_24 m_nodes.toNatClampNeg o_33 ∧ o_36 = upd o_22 m_nodes.toNatClampNeg o_34 ∧ 0 ≤ o_34.toInt ∧ o_34.toInt ≤ p2.toInt ∧ mj_vs o_39 o_40 (6 * m_nodes.toNatClampNeg) o_34.toNatClampNeg o_35 ∧ mj_srt o_39 o_40 (6 * m_nodes.toNatClampNeg) o_34.toNatClampNeg ∧ ∀ q : Nat, (q < 6 * m_nodes.toNatClampNeg ∨ 6 * m_nodes.toNatClampNeg + 6 ≤ q) → o_39 q = o_25 q ∧ o_40 q = o_26 q := w_31
    refine lv_iload hx hb dX5_lays_92 (lv_at hl 3 rfl) ?_
    have hP9 := hP
    have hD9 := hD
    have hK9 := hK
    have e_fl := w_31.2.1
    rw [w_7.1, w_19.1] at e_fl
    have hN := mj_lay_node (l := p0.toNatClampNeg) (r := p1.toNatClampNeg) (md := y_5.toNatClampNeg) (a := m_nodes.toNatClampNeg) g_2 g_3 n_p0.symm n_p1.symm g_4 g_5 (mj_ag_sub w_7.2.2.2.2 (Nat.le_refl _) g_6) w_19.2.2.2.2 tA2 tB w_31.1 w_31.2.2.2.1 w_31.2.2.2.2.1 (Int.le_trans w_31.2.2.2.2.2.1 (Int.le_of_eq n_p2.symm)) (mj_ln6 n_p2 b4) e_fl w_31.2.2.1 w_31.2.2.2.2.2.2.1 w_31.2.2.2.2.2.2.2.1 w_31.2.2.2.2.2.2.2.2
    exact W.iret (v := m_nodes) hx hb hr (hlocks := hlocks) (fun t ht hW => ⟨⟨m_nodes, (o_20, o_32, o_36, o_37, o_38, o_39, o_40, o_41, o_42, o_29, o_30), rfl, ⟨rfl, (om_345 i_1 w_7.2.1 w_19.2.1), (by (try dsimp only); rw [w_31.2.2.2.1]; exact six4_upd w_19.2.2.1 w_31.2.2.2.2.1 (om_346 b4 w_31.2.2.2.2.2.1)), hN.1, hN.2⟩, by rw [ht]; exact hP9, va_K.moved hW.alike hK9, hD9⟩, hS.F ht⟩) hS.2.2 dX5_lays_94
  · have i_3 : y_2.toInt = 1 := kc_eq c_3
    refine lv_aload_n hx hb dX5_lays_39 rfl (lv_at hl 1 rfl) ?_
    refine lv_iload hx hb dX5_lays_40 (lv_at hl 0 rfl) ?_
    refine lv_aload_n hx hb dX5_lays_42 rfl (lv_at hl 1 rfl) ?_
    refine va_get (D := (dC, dI)) (ci := 5) (v := .ref g_row) (C := RX5) (T := TX5) (N := 30) hx hb hts hi_5 hown hK hP 0 rfl rfl 0 (by decide) hf_7 (fun _ h9 => h9) rfl dX5_lays_43 ?_
    refine lv_iload_n hx hb dX5_lays_46 rfl (lv_at hl 2 rfl) ?_
    refine va_iald hx hb hK hP 1 0 rfl rfl (ki_in (om_10 b0) (om_85 b1 b2)) dX5_lays_47 ?_
    refine lv_topi (fun y_43 ey_43 => ?_)
    have j_43 : y_43.toInt = (f p0.toNatClampNeg).toInt := congrArg Int32.toInt ey_43
    obtain ⟨hPc, hDc, hFc, hCc⟩ := kx_preM (wc := [kx_5 h0 g_row m_n m_slots m_thrown g_many g_loss g_less g_voteValue g_voteNumber g_allValue g_allNumber m_allMany g_nodeL g_nodeR y_1 g_part m_partMany g_wasMany g_wasLoss g_wasValue g_wasNumber g_path m_pathMany g_heavyValue g_heavyTimes m_heavyMany g_fewest g_which g_met m_mostMet, kx_a g_many cyI 324 fm, kx_a g_loss cyI 324 fl, kx_a g_less cyI 324 fe, kx_a g_voteValue cyI 1944 vv, kx_a g_voteNumber cyI 1944 vn]) hP hD hS hA [true, false, true, true, true, true, true, false, false, false, false] rfl
    have hKc := hK
    refine va_callv (va_runV (As := [.int m_nodes, .int y_43]) (rest := []) ⟨hx, hb, hml, hown, hts⟩ (kx_un (c_X5_one_x l dC dI h0 g_row g_many g_loss g_less g_voteValue g_voteNumber g_allValue g_allNumber g_nodeL g_nodeR g_part g_wasMany g_wasLoss g_wasValue g_wasNumber g_path g_heavyValue g_heavyTimes g_fewest g_which g_met m_n m_slots m_thrown m_allMany y_1 m_partMany m_pathMany m_heavyMany m_mostMet cyI fm fl fe vv vn m_nodes y_43 H.size b5 (om_327 b1 b6))) (cwV 2 hts gX5_lays_X5_one rfl rfl rfl (by decide +kernel) ⟨Nat.le_of_ble_eq_true rfl, Nat.le_of_ble_eq_true rfl⟩) ⟨fun a U g mk q => by obtain ⟨q0, q1, qP, qK, qD⟩ := q; exact ⟨q0, q1, qP, va_K.moved (u := U) (U := U.calling g mk a) (Vm.Alike.refl U.vm) qK, qD⟩, kx_rc5 hKc hPc (q0 := 0) rfl, fun U hU hW => ⟨rfl, by rw [hU], by rw [hU]; exact hPc, va_K.moved hW.alike hKc, hDc.weaken (fun _ _ _ _ => trivial)⟩⟩ rfl rfl hl.1 rfl (lv_room (Nat.le_of_ble_eq_true rfl)) dX5_lays_48 ⟨Nat.le_of_ble_eq_true rfl, Nat.le_of_ble_eq_true rfl⟩) hS (fun q _ h => hFc q h) hFc (fun u t H1 locs ht hvm w_44 hB hz1 hk1 hS => ?_)
    obtain ⟨o_45, o_46, o_47, o_48, o_49⟩ := u
    dsimp only at w_44 hB
    obtain ⟨hP1, hK1, hD1⟩ := hB
    rw [ht] at hP1
    have hK1 := va_K.moved hvm.symm hK1
    obtain ⟨hP, hD⟩ := kx_joinM (w2 := [kx_5 h0 g_row m_n m_slots m_thrown g_many g_loss g_less g_voteValue g_voteNumber g_allValue g_allNumber m_allMany g_nodeL g_nodeR y_1 g_part m_partMany g_wasMany g_wasLoss g_wasValue g_wasNumber g_path m_pathMany g_heavyValue g_heavyTimes m_heavyMany g_fewest g_which g_met m_mostMet, kx_a g_row cyI 160 f, kx_a g_many cyI 324 o_45, kx_a g_loss cyI 324 o_46, kx_a g_less cyI 324 o_47, kx_a g_voteValue cyI 1944 o_48, kx_a g_voteNumber cyI 1944 o_49, kx_a g_allValue cyI 12 av, kx_a g_allNumber cyI 12 an, kx_a g_nodeL cyI 320 (upd nl m_nodes.toNatClampNeg p0), kx_a g_nodeR cyI 320 (upd nr m_nodes.toNatClampNeg p1)]) hP hD hP1 hD1 hk1 hFc [true, false, true, true, true, true, true, false, false, false, false] hCc rfl
    clear hP1 hD1 hK1 hk1 hz1 hFc hDc hPc hKc hCc
    generalize H1 = H at hP hS ⊢
    have w_44 : o_45 = upd fm m_nodes.toNatClampNeg 1 ∧ o_46 = upd fl m_nodes.toNatClampNeg 0 ∧ o_47 = upd fe m_nodes.toNatClampNeg 0 ∧ o_48 = upd vv (6 * m_nodes.toNatClampNeg) y_43 ∧ o_49 = upd vn (6 * m_nodes.toNatClampNeg) 1 := w_44
    refine lv_iload hx hb dX5_lays_51 (lv_at hl 0 rfl) ?_
    have hP9 := hP
    have hD9 := hD
    have hK9 := hK
    have n_p0 := ki_nat p0 rfl (om_10 b0)
    have n_p1 := ki_nat p1 rfl (om_21 b0 b1)
    have n_p2 := ki_nat p2 rfl (om_51 b3)
    have n_nd := ki_nat m_nodes rfl (om_10 b5)
    have e_vv := w_44.2.2.2.1
    rw [ey_43] at e_vv
    have hN := mj_lay_leaf (K := p2.toNatClampNeg) (f := f) (nl := nl) (nr := nr) (l := p0.toNatClampNeg) (r := p1.toNatClampNeg) (l32 := p0) (r32 := p1) 7 (mj_ln1 n_p2 b3) (mj_lf9 n_p0 n_p1 i_2 i_3) n_p0.symm n_p1.symm w_44.1 w_44.2.1 w_44.2.2.1 e_vv w_44.2.2.2.2
    exact W.iret (v := m_nodes) hx hb hr (hlocks := hlocks) (fun t ht hW => ⟨⟨m_nodes, (y_1, m_allMany, o_45, o_46, o_47, o_48, o_49, av, an, (upd nl m_nodes.toNatClampNeg p0), (upd nr m_nodes.toNatClampNeg p1)), rfl, ⟨rfl, (om_347 b1 i_1 i_2 i_3), (by (try dsimp only); rw [w_44.1]; exact six4_upd s4 (by decide) (by decide)), hN.1, hN.2⟩, by rw [ht]; exact hP9, va_K.moved hW.alike hK9, hD9⟩, hS.F ht⟩) hS.2.2 dX5_lays_53

set_option maxHeartbeats 4000000 in
set_option maxRecDepth 100000 in
theorem c_X5_lays_8 (l : Launch) (dC : Nat → ClassId) (dI : Nat → Nat → Nat) (h0 : Nat) (g_row : Nat) (g_many : Nat) (g_loss : Nat) (g_less : Nat) (g_voteValue : Nat) (g_voteNumber : Nat) (g_allValue : Nat) (g_allNumber : Nat) (g_nodeL : Nat) (g_nodeR : Nat) (g_part : Nat) (g_wasMany : Nat) (g_wasLoss : Nat) (g_wasValue : Nat) (g_wasNumber : Nat) (g_path : Nat) (g_heavyValue : Nat) (g_heavyTimes : Nat) (g_fewest : Nat) (g_which : Nat) (g_met : Nat) (m_n : Int32) (m_slots : Int32) (m_thrown : Int32) (m_allMany : Int32) (m_nodes : Int32) (m_partMany : Int32) (m_pathMany : Int32) (m_heavyMany : Int32) (m_mostMet : Int32) (cyI : ClassId) (fm : Nat → Int32) (fl : Nat → Int32) (fe : Nat → Int32) (vv : Nat → Int32) (vn : Nat → Int32) (f : Nat → Int32) (av : Nat → Int32) (an : Nat → Int32) (nl : Nat → Int32) (nr : Nat → Int32) (p0 : Int32) (p1 : Int32) (p2 : Int32) (sz : Nat) (b0 : 0 ≤ p0.toInt) (b1 : p0.toInt < p1.toInt) (b2 : p1.toInt ≤ 160) (b3 : 1 ≤ p2.toInt) (b4 : p2.toInt ≤ 6) (b5 : 0 ≤ m_nodes.toInt) (b6 : m_nodes.toInt + 2 * (p1.toInt - p0.toInt) - 1 ≤ 319) (s4 : six4 fm) (b7 : p1.toInt - p0.toInt ≤ 256) : kx_MQ l (dC, dI) yX5_lays wsX5_lays ({ frames := 10, cells := 0, slots := 0, locals := 450 }) [.ref h0, .int p0, .int p1, .int p2] [kx_5 h0 g_row m_n m_slots m_thrown g_many g_loss g_less g_voteValue g_voteNumber g_allValue g_allNumber m_allMany g_nodeL g_nodeR m_nodes g_part m_partMany g_wasMany g_wasLoss g_wasValue g_wasNumber g_path m_pathMany g_heavyValue g_heavyTimes m_heavyMany g_fewest g_which g_met m_mostMet, kx_a g_row cyI 160 f, kx_a g_many cyI 324 fm, kx_a g_loss cyI 324 fl, kx_a g_less cyI 324 fe, kx_a g_voteValue cyI 1944 vv, kx_a g_voteNumber cyI 1944 vn, kx_a g_allValue cyI 12 av, kx_a g_allNumber cyI 12 an, kx_a g_nodeL cyI 320 nl, kx_a g_nodeR cyI 320 nr] [(cyI, .int)] sz (fun A => va_Qi (fun (r : Int32) (u : Int32 × Int32 × (Nat → Int32) × (Nat → Int32) × (Nat → Int32) × (Nat → Int32) × (Nat → Int32) × (Nat → Int32) × (Nat → Int32) × (Nat → Int32) × (Nat → Int32)) => r = m_nodes ∧ u.1.toInt = m_nodes.toInt + 2 * (p1.toInt - p0.toInt) - 1 ∧ six4 u.2.2.1 ∧ mj_S p2.toNatClampNeg f u.2.2.2.2.2.2.2.2.2.1 u.2.2.2.2.2.2.2.2.2.2 u.2.2.1 u.2.2.2.1 u.2.2.2.2.1 u.2.2.2.2.2.1 u.2.2.2.2.2.2.1 8 m_nodes.toNatClampNeg p0.toNatClampNeg p1.toNatClampNeg ∧ mj_ag 0 m_nodes.toNatClampNeg nl nr fm fl fe vv vn u.2.2.2.2.2.2.2.2.2.1 u.2.2.2.2.2.2.2.2.2.2 u.2.2.1 u.2.2.2.1 u.2.2.2.2.1 u.2.2.2.2.2.1 u.2.2.2.2.2.2.1) (fun (u : Int32 × Int32 × (Nat → Int32) × (Nat → Int32) × (Nat → Int32) × (Nat → Int32) × (Nat → Int32) × (Nat → Int32) × (Nat → Int32) × (Nat → Int32) × (Nat → Int32)) (t : State) => va_P (dC, dI) vwCl [kx_5 h0 g_row m_n m_slots m_thrown g_many g_loss g_less g_voteValue g_voteNumber g_allValue g_allNumber u.2.1 g_nodeL g_nodeR u.1 g_part m_partMany g_wasMany g_wasLoss g_wasValue g_wasNumber g_path m_pathMany g_heavyValue g_heavyTimes m_heavyMany g_fewest g_which g_met m_mostMet, kx_a g_row cyI 160 f, kx_a g_many cyI 324 u.2.2.1, kx_a g_loss cyI 324 u.2.2.2.1, kx_a g_less cyI 324 u.2.2.2.2.1, kx_a g_voteValue cyI 1944 u.2.2.2.2.2.1, kx_a g_voteNumber cyI 1944 u.2.2.2.2.2.2.1, kx_a g_allValue cyI 12 u.2.2.2.2.2.2.2.1, kx_a g_allNumber cyI 12 u.2.2.2.2.2.2.2.2.1, kx_a g_nodeL cyI 320 u.2.2.2.2.2.2.2.2.2.1, kx_a g_nodeR cyI 320 u.2.2.2.2.2.2.2.2.2.2] t.heap ∧ va_K (dC, dI) vwCl [(cyI, .int)] t ∧ va_D A [kx_5 h0 g_row m_n m_slots m_thrown g_many g_loss g_less g_voteValue g_voteNumber g_allValue g_allNumber u.2.1 g_nodeL g_nodeR u.1 g_part m_partMany g_wasMany g_wasLoss g_wasValue g_wasNumber g_path m_pathMany g_heavyValue g_heavyTimes m_heavyMany g_fewest g_which g_met m_mostMet, kx_a g_row cyI 160 f, kx_a g_many cyI 324 u.2.2.1, kx_a g_loss cyI 324 u.2.2.2.1, kx_a g_less cyI 324 u.2.2.2.2.1, kx_a g_voteValue cyI 1944 u.2.2.2.2.2.1, kx_a g_voteNumber cyI 1944 u.2.2.2.2.2.2.1, kx_a g_allValue cyI 12 u.2.2.2.2.2.2.2.1, kx_a g_allNumber cyI 12 u.2.2.2.2.2.2.2.2.1, kx_a g_nodeL cyI 320 u.2.2.2.2.2.2.2.2.2.1, kx_a g_nodeR cyI 320 u.2.2.2.2.2.2.2.2.2.2]) A) := by
  refine kx_stQ (ws := wsX5_lays) (cc := cX5_lays) (maxL := 8) (ret := (some .int)) (by decide) rfl (Nat.le_of_ble_eq_true rfl) ?_
  intro p e s m below meth c A ls hx hb hr hlocks hts hown hml hA hS hP hK hD hl
  have hown : s.vm.findClass RX5 = some m.cls := hown
  have hl : lv_has ls 8 [(0, .ref h0), (1, .int p0), (2, .int p1), (3, .int p2)] := hl
  have hf_101 := hts (.fieldLink RX5 101 "MajorityIndexModel" "nodes" "I") (List.mem_of_getElem? (i := 1) rfl)
  have hi_5 : ∀ w ∈ u_ws RX5 TX5 30, w ∈ wsX5_lays := fun w h => List.mem_cons_of_mem _ (List.mem_append_right _ h)
  have hf_38 := hts (.fieldLink RX5 38 "MajorityIndexModel" "nodeL" "[I") (List.mem_of_getElem? (i := 2) rfl)
  have hf_41 := hts (.fieldLink RX5 41 "MajorityIndexModel" "nodeR" "[I") (List.mem_of_getElem? (i := 3) rfl)
  have hf_7 := hts (.fieldLink RX5 7 "MajorityIndexModel" "row" "[I") (List.mem_of_getElem? (i := 4) rfl)
  refine lv_aload_n hx hb dX5_lays_0 rfl (lv_at hl 0 rfl) ?_
  refine va_get (D := (dC, dI)) (ci := 5) (v := .int m_nodes) (C := RX5) (T := TX5) (N := 30) hx hb hts hi_5 hown hK hP 0 rfl rfl 14 (by decide) hf_101 (fun _ h9 => h9) rfl dX5_lays_1 ?_
  refine lv_istore (lv' := [(4, .int m_nodes), (0, .ref h0), (1, .int p0), (2, .int p1), (3, .int p2)]) hx hb dX5_lays_4 hl (by decide) rfl (fun ls hl => ?_)
  refine lv_aload_n hx hb dX5_lays_6 rfl (lv_at hl 1 rfl) ?_
  refine lv_dup hx hb dX5_lays_7 rfl ?_
  refine va_get (D := (dC, dI)) (ci := 5) (v := .int m_nodes) (C := RX5) (T := TX5) (N := 30) hx hb hts hi_5 hown hK hP 0 rfl rfl 14 (by decide) hf_101 (fun _ h9 => h9) rfl dX5_lays_8 ?_
  refine lv_iconst (v := 1) hx hb dX5_lays_11 (by decide) ?_
  refine lv_iadd hx hb dX5_lays_12 ?_
  refine lv_topi (fun y_1 ey_1 => ?_)
  have i_1 : y_1.toInt = m_nodes.toInt + 1 := ki_add ey_1 rfl rfl (om_13 b5) (om_324 b1 b6)
  refine va_put (D := (dC, dI)) (ci := 5) (v := .int y_1) (ty := .int) (C := RX5) (T := TX5) (N := 30) hx hb hts hi_5 tyX5 tyX5_ok nmX5 hown hK hP hD hS 0 rfl rfl 14 (by decide) hf_101 (fun _ h9 => h9) rfl (by decide +kernel) rfl rfl (Nat.le_of_ble_eq_true rfl) dX5_lays_13 (fun H locs hP hD hS => ?_)
  obtain ⟨hP, hD⟩ := kx_re (w2 := [kx_5 h0 g_row m_n m_slots m_thrown g_many g_loss g_less g_voteValue g_voteNumber g_allValue g_allNumber m_allMany g_nodeL g_nodeR y_1 g_part m_partMany g_wasMany g_wasLoss g_wasValue g_wasNumber g_path m_pathMany g_heavyValue g_heavyTimes m_heavyMany g_fewest g_which g_met m_mostMet, kx_a g_row cyI 160 f, kx_a g_many cyI 324 fm, kx_a g_loss cyI 324 fl, kx_a g_less cyI 324 fe, kx_a g_voteValue cyI 1944 vv, kx_a g_voteNumber cyI 1944 vn, kx_a g_allValue cyI 12 av, kx_a g_allNumber cyI 12 an, kx_a g_nodeL cyI 320 nl, kx_a g_nodeR cyI 320 nr]) hP hD rfl
  refine lv_aload_n hx hb dX5_lays_16 rfl (lv_at hl 1 rfl) ?_
  refine va_get (D := (dC, dI)) (ci := 5) (v := .ref g_nodeL) (C := RX5) (T := TX5) (N := 30) hx hb hts hi_5 hown hK hP 0 rfl rfl 12 (by decide) hf_38 (fun _ h9 => h9) rfl dX5_lays_17 ?_
  refine lv_iload hx hb dX5_lays_20 (lv_at hl 0 rfl) ?_
  refine lv_iload_n hx hb dX5_lays_22 rfl (lv_at hl 2 rfl) ?_
  refine va_iast hx hb hK hP hD hS 9 0 rfl rfl (ki_in (om_10 b5) (om_325 b1 b6)) dX5_lays_23 (fun H locs hP hD hS => ?_)
  obtain ⟨hP, hD⟩ := kx_re (w2 := [kx_5 h0 g_row m_n m_slots m_thrown g_many g_loss g_less g_voteValue g_voteNumber g_allValue g_allNumber m_allMany g_nodeL g_nodeR y_1 g_part m_partMany g_wasMany g_wasLoss g_wasValue g_wasNumber g_path m_pathMany g_heavyValue g_heavyTimes m_heavyMany g_fewest g_which g_met m_mostMet, kx_a g_row cyI 160 f, kx_a g_many cyI 324 fm, kx_a g_loss cyI 324 fl, kx_a g_less cyI 324 fe, kx_a g_voteValue cyI 1944 vv, kx_a g_voteNumber cyI 1944 vn, kx_a g_allValue cyI 12 av, kx_a g_allNumber cyI 12 an, kx_a g_nodeL cyI 320 (upd nl m_nodes.toNatClampNeg p0), kx_a g_nodeR cyI 320 nr]) hP hD rfl
  refine lv_aload_n hx hb dX5_lays_24 rfl (lv_at hl 1 rfl) ?_
  refine va_get (D := (dC, dI)) (ci := 5) (v := .ref g_nodeR) (C := RX5) (T := TX5) (N := 30) hx hb hts hi_5 hown hK hP 0 rfl rfl 13 (by decide) hf_41 (fun _ h9 => h9) rfl dX5_lays_25 ?_
  refine lv_iload hx hb dX5_lays_28 (lv_at hl 0 rfl) ?_
  refine lv_iload_n hx hb dX5_lays_30 rfl (lv_at hl 3 rfl) ?_
  refine va_iast hx hb hK hP hD hS 10 0 rfl rfl (ki_in (om_10 b5) (om_325 b1 b6)) dX5_lays_31 (fun H locs hP hD hS => ?_)
  obtain ⟨hP, hD⟩ := kx_re (w2 := [kx_5 h0 g_row m_n m_slots m_thrown g_many g_loss g_less g_voteValue g_voteNumber g_allValue g_allNumber m_allMany g_nodeL g_nodeR y_1 g_part m_partMany g_wasMany g_wasLoss g_wasValue g_wasNumber g_path m_pathMany g_heavyValue g_heavyTimes m_heavyMany g_fewest g_which g_met m_mostMet, kx_a g_row cyI 160 f, kx_a g_many cyI 324 fm, kx_a g_loss cyI 324 fl, kx_a g_less cyI 324 fe, kx_a g_voteValue cyI 1944 vv, kx_a g_voteNumber cyI 1944 vn, kx_a g_allValue cyI 12 av, kx_a g_allNumber cyI 12 an, kx_a g_nodeL cyI 320 (upd nl m_nodes.toNatClampNeg p0), kx_a g_nodeR cyI 320 (upd nr m_nodes.toNatClampNeg p1)]) hP hD rfl
  refine lv_iload_n hx hb dX5_lays_32 rfl (lv_at hl 3 rfl) ?_
  refine lv_iload_n hx hb dX5_lays_33 rfl (lv_at hl 2 rfl) ?_
  refine lv_isub hx hb dX5_lays_34 ?_
  refine lv_topi (fun y_2 ey_2 => ?_)
  have i_2 : y_2.toInt = p1.toInt - p0.toInt := ki_sub ey_2 rfl rfl (om_168 b1) (om_360 b7)
  refine lv_iconst (v := 1) hx hb dX5_lays_35 (by decide) ?_
  refine lv_icmp_ne (tgt := 54) hx hb dX5_lays_36 (by decide) (fun c_3 => ?_) (fun c_3 => ?_)
  · have i_3 : ¬ y_2.toInt = 1 := kc_ne c_3
    refine lv_iload_n hx hb dX5_lays_54 rfl (lv_at hl 2 rfl) ?_
    refine lv_iload_n hx hb dX5_lays_55 rfl (lv_at hl 3 rfl) ?_
    refine lv_iadd hx hb dX5_lays_56 ?_
    refine lv_topi (fun y_4 ey_4 => ?_)
    have i_4 : y_4.toInt = p0.toInt + p1.toInt := ki_add ey_4 rfl rfl (om_330 b0 b1) (om_331 b1 b2)
    refine lv_iconst (v := 2) hx hb dX5_lays_57 (by decide) ?_
    refine lv_idiv hx hb dX5_lays_58 (by decide) ?_
    refine lv_topi (fun y_5 ey_5 => ?_)
    have i_5 : y_5.toInt = y_4.toInt / 2 := ki_div2 ey_5 rfl (om_332 b0 b1 i_4)
    have d_6 := om_dv i_5
    refine lv_istore (lv' := [(5, .int y_5), (4, .int m_nodes), (0, .ref h0), (1, .int p0), (2, .int p1), (3, .int p2)]) hx hb dX5_lays_59 hl (by decide) rfl (fun ls hl => ?_)
    refine lv_aload_n hx hb dX5_lays_61 rfl (lv_at hl 2 rfl) ?_
    refine lv_iload_n hx hb dX5_lays_62 rfl (lv_at hl 3 rfl) ?_
    refine lv_iload hx hb dX5_lays_63 (lv_at hl 0 rfl) ?_
    refine lv_iload_n hx hb dX5_lays_65 rfl (lv_at hl 5 rfl) ?_
    have hPc := hP
    have hKc := hK
    have hDc := hD
    have hFc := kx_free hD hS hA
    refine va_calli (va_runV (As := [.int p0, .int y_5, .int p2]) (rest := []) ⟨hx, hb, hml, hown, hts⟩ (kx_un (c_X5_lays_7 l dC dI h0 g_row g_many g_loss g_less g_voteValue g_voteNumber g_allValue g_allNumber g_nodeL g_nodeR g_part g_wasMany g_wasLoss g_wasValue g_wasNumber g_path g_heavyValue g_heavyTimes g_fewest g_which g_met m_n m_slots m_thrown m_allMany y_1 m_partMany m_pathMany m_heavyMany m_mostMet cyI fm fl fe vv vn f av an (upd nl m_nodes.toNatClampNeg p0) (upd nr m_nodes.toNatClampNeg p1) p0 y_5 p2 H.size b0 (by omega) (om_333 b1 b2 i_4 d_6.1) b3 b4 (om_34 b5 i_1) (om_334 b1 b6 i_1 i_4 d_6.1) s4 (om_361 b7 i_4 d_6.1))) (cwV 3 hts gX5_lays_X5_lays rfl rfl rfl (by decide +kernel) ⟨Nat.le_of_ble_eq_true rfl, Nat.le_of_ble_eq_true rfl⟩) ⟨fun a U g mk q => by obtain ⟨q0, q1, qP, qK, qD⟩ := q; exact ⟨q0, q1, qP, va_K.moved (u := U) (U := U.calling g mk a) (Vm.Alike.refl U.vm) qK, qD⟩, kx_rc5 hKc hPc (q0 := 0) rfl, fun U hU hW => ⟨rfl, by rw [hU], by rw [hU]; exact hPc, va_K.moved hW.alike hKc, hDc.weaken (fun _ _ _ _ => trivial)⟩⟩ rfl rfl hl.1 rfl (lv_room (Nat.le_of_ble_eq_true rfl)) dX5_lays_66 ⟨Nat.le_of_ble_eq_true rfl, Nat.le_of_ble_eq_true rfl⟩) hS (fun q _ h => hFc q h) hFc (fun r_7 u t H1 locs ht hvm w_7 hB hz1 hk1 hS => ?_)
    obtain ⟨o_8, o_9, o_10, o_11, o_12, o_13, o_14, o_15, o_16, o_17, o_18⟩ := u
    dsimp only at w_7 hB
    obtain ⟨hP1, hK1, hD1⟩ := hB
    rw [ht] at hP1
    have hK1 := va_K.moved hvm.symm hK1
    have hD := hD1.weaken (fun _ q _ h => hFc q.1 h)
    have hP := hP1
    clear hP1 hD1 hK1 hk1 hz1 hFc hDc hPc hKc
    generalize H1 = H at hP hS ⊢
    have w_7 : r_7 = y_1 ∧ o_8.toInt = y_1.toInt + 2 * (y_5.toInt - p0.toInt) - 1 ∧ six4 o_10 ∧ mj_S p2.toNatClampNeg f o_17 o_18 o_10 o_11 o_12 o_13 o_14 7 y_1.toNatClampNeg p0.toNatClampNeg y_5.toNatClampNeg ∧ mj_ag 0 y_1.toNatClampNeg (upd nl m_nodes.toNatClampNeg p0) (upd nr m_nodes.toNatClampNeg p1) fm fl fe vv vn o_17 o_18 o_10 o_11 o_12 o_13 o_14 := w_7
    refine lv_istore (lv' := [(6, .int r_7), (5, .int y_5), (4, .int m_nodes), (0, .ref h0), (1, .int p0), (2, .int p1), (3, .int p2)]) hx hb dX5_lays_69 hl (by decide) rfl (fun ls hl => ?_)
    refine lv_aload_n hx hb dX5_lays_71 rfl (lv_at hl 3 rfl) ?_
    refine lv_iload hx hb dX5_lays_72 (lv_at hl 1 rfl) ?_
    refine lv_iload_n hx hb dX5_lays_74 rfl (lv_at hl 5 rfl) ?_
    refine lv_iload_n hx hb dX5_lays_75 rfl (lv_at hl 6 rfl) ?_
    have hPc := hP
    have hKc := hK
    have hDc := hD
    have hFc := kx_free hD hS hA
    refine va_calli (va_runV (As := [.int y_5, .int p1, .int p2]) (rest := []) ⟨hx, hb, hml, hown, hts⟩ (kx_un (c_X5_lays_7 l dC dI h0 g_row g_many g_loss g_less g_voteValue g_voteNumber g_allValue g_allNumber g_nodeL g_nodeR g_part g_wasMany g_wasLoss g_wasValue g_wasNumber g_path g_heavyValue g_heavyTimes g_fewest g_which g_met m_n m_slots m_thrown o_9 o_8 m_partMany m_pathMany m_heavyMany m_mostMet cyI o_10 o_11 o_12 o_13 o_14 f o_15 o_16 o_17 o_18 y_5 p1 p2 H.size (om_336 b0 b1 i_4 d_6.2) (by omega) b2 b3 b4 (om_337 b1 b5 i_1 i_4 d_6.2 w_7.2.1) (om_338 b6 i_1 w_7.2.1) w_7.2.2.1 (om_362 b5 b6 i_4 d_6.2))) (cwV 3 hts gX5_lays_X5_lays rfl rfl rfl (by decide +kernel) ⟨Nat.le_of_ble_eq_true rfl, Nat.le_of_ble_eq_true rfl⟩) ⟨fun a U g mk q => by obtain ⟨q0, q1, qP, qK, qD⟩ := q; exact ⟨q0, q1, qP, va_K.moved (u := U) (U := U.calling g mk a) (Vm.Alike.refl U.vm) qK, qD⟩, kx_rc5 hKc hPc (q0 := 0) rfl, fun U hU hW => ⟨rfl, by rw [hU], by rw [hU]; exact hPc, va_K.moved hW.alike hKc, hDc.weaken (fun _ _ _ _ => trivial)⟩⟩ rfl rfl hl.1 rfl (lv_room (Nat.le_of_ble_eq_true rfl)) dX5_lays_76 ⟨Nat.le_of_ble_eq_true rfl, Nat.le_of_ble_eq_true rfl⟩) hS (fun q _ h => hFc q h) hFc (fun r_19 u t H1 locs ht hvm w_19 hB hz1 hk1 hS => ?_)
    obtain ⟨o_20, o_21, o_22, o_23, o_24, o_25, o_26, o_27, o_28, o_29, o_30⟩ := u
    dsimp only at w_19 hB
    obtain ⟨hP1, hK1, hD1⟩ := hB
    rw [ht] at hP1
    have hK1 := va_K.moved hvm.symm hK1
    have hD := hD1.weaken (fun _ q _ h => hFc q.1 h)
    have hP := hP1
    clear hP1 hD1 hK1 hk1 hz1 hFc hDc hPc hKc
    generalize H1 = H at hP hS ⊢
    have w_19 : r_19 = o_8 ∧ o_20.toInt = o_8.toInt + 2 * (p1.toInt - y_5.toInt) - 1 ∧ six4 o_22 ∧ mj_S p2.toNatClampNeg f o_29 o_30 o_22 o_23 o_24 o_25 o_26 7 o_8.toNatClampNeg y_5.toNatClampNeg p1.toNatClampNeg ∧ mj_ag 0 o_8.toNatClampNeg o_17 o_18 o_10 o_11 o_12 o_13 o_14 o_29 o_30 o_22 o_23 o_24 o_25 o_26 := w_19
    refine lv_istore (lv' := [(7, .int r_19), (6, .int r_7), (5, .int y_5), (4, .int m_nodes), (0, .ref h0), (1, .int p0), (2, .int p1), (3, .int p2)]) hx hb dX5_lays_79 hl (by decide) rfl (fun ls hl => ?_)
    have n_p0 := ki_nat p0 rfl (om_10 b0)
    have n_p1 := ki_nat p1 rfl (om_21 b0 b1)
    have n_p2 := ki_nat p2 rfl (om_51 b3)
    have n_nd := ki_nat m_nodes rfl (om_10 b5)
    have n_y := ki_nat y_1 rfl (om_34 b5 i_1)
    have n_md := ki_nat y_5 rfl (om_336 b0 b1 i_4 d_6.2)
    have n_oL := ki_nat o_8 rfl (om_337 b1 b5 i_1 i_4 d_6.2 w_7.2.1)
    have i_rL : r_7.toInt = y_1.toInt := congrArg Int32.toInt w_7.1
    have i_rR : r_19.toInt = o_8.toInt := congrArg Int32.toInt w_19.1
    obtain ⟨mua, La, ca, tA⟩ := w_7.2.2.2.1
    obtain ⟨mub, Lb, cb, tB⟩ := w_19.2.2.2.1
    obtain ⟨g_1, g_2, g_3, g_4, g_5, g_6⟩ := mj_ly9 n_p0 n_p1 n_nd n_y n_md n_oL i_1 i_4 i_5 w_7.2.1 b1 i_2 i_3
    have tA2 := mj_T_ag _ _ o_8.toNatClampNeg _ _ _ _ _ tA g_1 (mj_ag_sub w_19.2.2.2.2 (Nat.zero_le _) (Nat.le_refl _))
    have nA := mj_T_nd tA2
    have nB := mj_T_nd tB
    refine lv_aload_n hx hb dX5_lays_81 rfl (lv_at hl 4 rfl) ?_
    refine lv_iload hx hb dX5_lays_82 (lv_at hl 1 rfl) ?_
    refine lv_iload hx hb dX5_lays_84 (lv_at hl 0 rfl) ?_
    refine lv_iload hx hb dX5_lays_86 (lv_at hl 3 rfl) ?_
    refine lv_iload_n hx hb dX5_lays_88 rfl (lv_at hl 7 rfl) ?_
    obtain ⟨hPc, hDc, hFc, hCc⟩ := kx_preM (wc := [kx_5 h0 g_row m_n m_slots m_thrown g_many g_loss g_less g_voteValue g_voteNumber g_allValue g_allNumber o_21 g_nodeL g_nodeR o_20 g_part m_partMany g_wasMany g_wasLoss g_wasValue g_wasNumber g_path m_pathMany g_heavyValue g_heavyTimes m_heavyMany g_fewest g_which g_met m_mostMet, kx_a g_many cyI 324 o_22, kx_a g_loss cyI 324 o_23, kx_a g_less cyI 324 o_24, kx_a g_voteValue cyI 1944 o_25, kx_a g_voteNumber cyI 1944 o_26, kx_a g_allValue cyI 12 o_27, kx_a g_allNumber cyI 12 o_28]) hP hD hS hA [true, false, true, true, true, true, true, true, true, false, false] rfl
    have hKc := hK
    refine va_callv (va_runV (As := [.int r_7, .int r_19, .int m_nodes, .int p2]) (rest := []) ⟨hx, hb, hml, hown, hts⟩ (kx_un (c_X5_together l dC dI h0 g_row g_many g_loss g_less g_voteValue g_voteNumber g_allValue g_allNumber g_nodeL g_nodeR g_part g_wasMany g_wasLoss g_wasValue g_wasNumber g_path g_heavyValue g_heavyTimes g_fewest g_which g_met m_n m_slots m_thrown o_21 o_20 m_partMany m_pathMany m_heavyMany m_mostMet cyI o_22 o_23 o_24 o_25 o_26 o_27 o_28 mua mub r_7 r_19 m_nodes p2 H.size (om_339 b5 i_1 i_rL) (om_340 b1 b6 i_1 i_rL) (om_341 b1 b5 i_1 i_4 d_6.2 w_7.2.1 i_rR) (om_342 b1 b6 i_1 i_4 d_6.1 w_7.2.1 i_rR) (om_10 b5) (om_343 b1 b6) (om_51 b3) (om_344 b4) (by rw [w_7.1]; exact nA.2.2.1) (by rw [w_7.1]; exact nA.2.2.2.1) (by rw [w_19.1]; exact nB.2.2.1) (by rw [w_19.1]; exact nB.2.2.2.1) (by rw [w_7.1]; exact nA.2.2.2.2.2.2.2.1) (by rw [w_19.1]; exact nB.2.2.2.2.2.2.2.1) (fun v => by have h1 := mj_T_le _ _ _ _ _ _ _ tA2 v; have h2 := mj_T_le _ _ _ _ _ _ _ tB v; omega))) (cwV 4 hts gX5_lays_X5_together rfl rfl rfl (by decide +kernel) ⟨Nat.le_of_ble_eq_true rfl, Nat.le_of_ble_eq_true rfl⟩) ⟨fun a U g mk q => by obtain ⟨q0, q1, qP, qK, qD⟩ := q; exact ⟨q0, q1, qP, va_K.moved (u := U) (U := U.calling g mk a) (Vm.Alike.refl U.vm) qK, qD⟩, kx_rc5 hKc hPc (q0 := 0) rfl, fun U hU hW => ⟨rfl, by rw [hU], by rw [hU]; exact hPc, va_K.moved hW.alike hKc, hDc.weaken (fun _ _ _ _ => trivial)⟩⟩ rfl rfl hl.1 rfl (lv_room (Nat.le_of_ble_eq_true rfl)) dX5_lays_89 ⟨Nat.le_of_ble_eq_true rfl, Nat.le_of_ble_eq_true rfl⟩) hS (fun q _ h => hFc q h) hFc (fun u t H1 locs ht hvm w_31 hB hz1 hk1 hS => ?_)
    obtain ⟨o_32, o_33, o_34, o_35, o_36, o_37, o_38, o_39, o_40, o_41, o_42⟩ := u
    dsimp only at w_31 hB
    obtain ⟨hP1, hK1, hD1⟩ := hB
    rw [ht] at hP1
    have hK1 := va_K.moved hvm.symm hK1
    obtain ⟨hP, hD⟩ := kx_joinM (w2 := [kx_5 h0 g_row m_n m_slots m_thrown g_many g_loss g_less g_voteValue g_voteNumber g_allValue g_allNumber o_32 g_nodeL g_nodeR o_20 g_part m_partMany g_wasMany g_wasLoss g_wasValue g_wasNumber g_path m_pathMany g_heavyValue g_heavyTimes m_heavyMany g_fewest g_which g_met m_mostMet, kx_a g_row cyI 160 f, kx_a g_many cyI 324 o_36, kx_a g_loss cyI 324 o_37, kx_a g_less cyI 324 o_38, kx_a g_voteValue cyI 1944 o_39, kx_a g_voteNumber cyI 1944 o_40, kx_a g_allValue cyI 12 o_41, kx_a g_allNumber cyI 12 o_42, kx_a g_nodeL cyI 320 o_29, kx_a g_nodeR cyI 320 o_30]) hP hD hP1 hD1 hk1 hFc [true, false, true, true, true, true, true, true, true, false, false] hCc rfl
    clear hP1 hD1 hK1 hk1 hz1 hFc hDc hPc hKc hCc
    generalize H1 = H at hP hS ⊢
    have w_31 : mj_tog p2.toNatClampNeg mua mub o_35 o_33 ∧ o_37 = upd o_23 m_nodes.toNatClampNeg (o_23 r_7.toNatClampNeg + o_23 r_19.toNatClampNeg + o_33) ∧ o_38 = upd o_24 m_nodes.toNatClampNeg o_33 ∧ o_36 = upd o_22 m_nodes.toNatClampNeg o_34 ∧ 0 ≤ o_34.toInt ∧ o_34.toInt ≤ p2.toInt ∧ mj_vs o_39 o_40 (6 * m_nodes.toNatClampNeg) o_34.toNatClampNeg o_35 ∧ mj_srt o_39 o_40 (6 * m_nodes.toNatClampNeg) o_34.toNatClampNeg ∧ ∀ q : Nat, (q < 6 * m_nodes.toNatClampNeg ∨ 6 * m_nodes.toNatClampNeg + 6 ≤ q) → o_39 q = o_25 q ∧ o_40 q = o_26 q := w_31
    refine lv_iload hx hb dX5_lays_92 (lv_at hl 3 rfl) ?_
    have hP9 := hP
    have hD9 := hD
    have hK9 := hK
    have e_fl := w_31.2.1
    rw [w_7.1, w_19.1] at e_fl
    have hN := mj_lay_node (l := p0.toNatClampNeg) (r := p1.toNatClampNeg) (md := y_5.toNatClampNeg) (a := m_nodes.toNatClampNeg) g_2 g_3 n_p0.symm n_p1.symm g_4 g_5 (mj_ag_sub w_7.2.2.2.2 (Nat.le_refl _) g_6) w_19.2.2.2.2 tA2 tB w_31.1 w_31.2.2.2.1 w_31.2.2.2.2.1 (Int.le_trans w_31.2.2.2.2.2.1 (Int.le_of_eq n_p2.symm)) (mj_ln6 n_p2 b4) e_fl w_31.2.2.1 w_31.2.2.2.2.2.2.1 w_31.2.2.2.2.2.2.2.1 w_31.2.2.2.2.2.2.2.2
    exact W.iret (v := m_nodes) hx hb hr (hlocks := hlocks) (fun t ht hW => ⟨⟨m_nodes, (o_20, o_32, o_36, o_37, o_38, o_39, o_40, o_41, o_42, o_29, o_30), rfl, ⟨rfl, (om_345 i_1 w_7.2.1 w_19.2.1), (by (try dsimp only); rw [w_31.2.2.2.1]; exact six4_upd w_19.2.2.1 w_31.2.2.2.2.1 (om_346 b4 w_31.2.2.2.2.2.1)), hN.1, hN.2⟩, by rw [ht]; exact hP9, va_K.moved hW.alike hK9, hD9⟩, hS.F ht⟩) hS.2.2 dX5_lays_94
  · have i_3 : y_2.toInt = 1 := kc_eq c_3
    refine lv_aload_n hx hb dX5_lays_39 rfl (lv_at hl 1 rfl) ?_
    refine lv_iload hx hb dX5_lays_40 (lv_at hl 0 rfl) ?_
    refine lv_aload_n hx hb dX5_lays_42 rfl (lv_at hl 1 rfl) ?_
    refine va_get (D := (dC, dI)) (ci := 5) (v := .ref g_row) (C := RX5) (T := TX5) (N := 30) hx hb hts hi_5 hown hK hP 0 rfl rfl 0 (by decide) hf_7 (fun _ h9 => h9) rfl dX5_lays_43 ?_
    refine lv_iload_n hx hb dX5_lays_46 rfl (lv_at hl 2 rfl) ?_
    refine va_iald hx hb hK hP 1 0 rfl rfl (ki_in (om_10 b0) (om_85 b1 b2)) dX5_lays_47 ?_
    refine lv_topi (fun y_43 ey_43 => ?_)
    have j_43 : y_43.toInt = (f p0.toNatClampNeg).toInt := congrArg Int32.toInt ey_43
    obtain ⟨hPc, hDc, hFc, hCc⟩ := kx_preM (wc := [kx_5 h0 g_row m_n m_slots m_thrown g_many g_loss g_less g_voteValue g_voteNumber g_allValue g_allNumber m_allMany g_nodeL g_nodeR y_1 g_part m_partMany g_wasMany g_wasLoss g_wasValue g_wasNumber g_path m_pathMany g_heavyValue g_heavyTimes m_heavyMany g_fewest g_which g_met m_mostMet, kx_a g_many cyI 324 fm, kx_a g_loss cyI 324 fl, kx_a g_less cyI 324 fe, kx_a g_voteValue cyI 1944 vv, kx_a g_voteNumber cyI 1944 vn]) hP hD hS hA [true, false, true, true, true, true, true, false, false, false, false] rfl
    have hKc := hK
    refine va_callv (va_runV (As := [.int m_nodes, .int y_43]) (rest := []) ⟨hx, hb, hml, hown, hts⟩ (kx_un (c_X5_one_x l dC dI h0 g_row g_many g_loss g_less g_voteValue g_voteNumber g_allValue g_allNumber g_nodeL g_nodeR g_part g_wasMany g_wasLoss g_wasValue g_wasNumber g_path g_heavyValue g_heavyTimes g_fewest g_which g_met m_n m_slots m_thrown m_allMany y_1 m_partMany m_pathMany m_heavyMany m_mostMet cyI fm fl fe vv vn m_nodes y_43 H.size b5 (om_327 b1 b6))) (cwV 2 hts gX5_lays_X5_one rfl rfl rfl (by decide +kernel) ⟨Nat.le_of_ble_eq_true rfl, Nat.le_of_ble_eq_true rfl⟩) ⟨fun a U g mk q => by obtain ⟨q0, q1, qP, qK, qD⟩ := q; exact ⟨q0, q1, qP, va_K.moved (u := U) (U := U.calling g mk a) (Vm.Alike.refl U.vm) qK, qD⟩, kx_rc5 hKc hPc (q0 := 0) rfl, fun U hU hW => ⟨rfl, by rw [hU], by rw [hU]; exact hPc, va_K.moved hW.alike hKc, hDc.weaken (fun _ _ _ _ => trivial)⟩⟩ rfl rfl hl.1 rfl (lv_room (Nat.le_of_ble_eq_true rfl)) dX5_lays_48 ⟨Nat.le_of_ble_eq_true rfl, Nat.le_of_ble_eq_true rfl⟩) hS (fun q _ h => hFc q h) hFc (fun u t H1 locs ht hvm w_44 hB hz1 hk1 hS => ?_)
    obtain ⟨o_45, o_46, o_47, o_48, o_49⟩ := u
    dsimp only at w_44 hB
    obtain ⟨hP1, hK1, hD1⟩ := hB
    rw [ht] at hP1
    have hK1 := va_K.moved hvm.symm hK1
    obtain ⟨hP, hD⟩ := kx_joinM (w2 := [kx_5 h0 g_row m_n m_slots m_thrown g_many g_loss g_less g_voteValue g_voteNumber g_allValue g_allNumber m_allMany g_nodeL g_nodeR y_1 g_part m_partMany g_wasMany g_wasLoss g_wasValue g_wasNumber g_path m_pathMany g_heavyValue g_heavyTimes m_heavyMany g_fewest g_which g_met m_mostMet, kx_a g_row cyI 160 f, kx_a g_many cyI 324 o_45, kx_a g_loss cyI 324 o_46, kx_a g_less cyI 324 o_47, kx_a g_voteValue cyI 1944 o_48, kx_a g_voteNumber cyI 1944 o_49, kx_a g_allValue cyI 12 av, kx_a g_allNumber cyI 12 an, kx_a g_nodeL cyI 320 (upd nl m_nodes.toNatClampNeg p0), kx_a g_nodeR cyI 320 (upd nr m_nodes.toNatClampNeg p1)]) hP hD hP1 hD1 hk1 hFc [true, false, true, true, true, true, true, false, false, false, false] hCc rfl
    clear hP1 hD1 hK1 hk1 hz1 hFc hDc hPc hKc hCc
    generalize H1 = H at hP hS ⊢
    have w_44 : o_45 = upd fm m_nodes.toNatClampNeg 1 ∧ o_46 = upd fl m_nodes.toNatClampNeg 0 ∧ o_47 = upd fe m_nodes.toNatClampNeg 0 ∧ o_48 = upd vv (6 * m_nodes.toNatClampNeg) y_43 ∧ o_49 = upd vn (6 * m_nodes.toNatClampNeg) 1 := w_44
    refine lv_iload hx hb dX5_lays_51 (lv_at hl 0 rfl) ?_
    have hP9 := hP
    have hD9 := hD
    have hK9 := hK
    have n_p0 := ki_nat p0 rfl (om_10 b0)
    have n_p1 := ki_nat p1 rfl (om_21 b0 b1)
    have n_p2 := ki_nat p2 rfl (om_51 b3)
    have n_nd := ki_nat m_nodes rfl (om_10 b5)
    have e_vv := w_44.2.2.2.1
    rw [ey_43] at e_vv
    have hN := mj_lay_leaf (K := p2.toNatClampNeg) (f := f) (nl := nl) (nr := nr) (l := p0.toNatClampNeg) (r := p1.toNatClampNeg) (l32 := p0) (r32 := p1) 8 (mj_ln1 n_p2 b3) (mj_lf9 n_p0 n_p1 i_2 i_3) n_p0.symm n_p1.symm w_44.1 w_44.2.1 w_44.2.2.1 e_vv w_44.2.2.2.2
    exact W.iret (v := m_nodes) hx hb hr (hlocks := hlocks) (fun t ht hW => ⟨⟨m_nodes, (y_1, m_allMany, o_45, o_46, o_47, o_48, o_49, av, an, (upd nl m_nodes.toNatClampNeg p0), (upd nr m_nodes.toNatClampNeg p1)), rfl, ⟨rfl, (om_347 b1 i_1 i_2 i_3), (by (try dsimp only); rw [w_44.1]; exact six4_upd s4 (by decide) (by decide)), hN.1, hN.2⟩, by rw [ht]; exact hP9, va_K.moved hW.alike hK9, hD9⟩, hS.F ht⟩) hS.2.2 dX5_lays_53

set_option maxHeartbeats 4000000 in
set_option maxRecDepth 100000 in
theorem c_X5_laysAll (l : Launch) (dC : Nat → ClassId) (dI : Nat → Nat → Nat) (h0 : Nat) (g_row : Nat) (g_many : Nat) (g_loss : Nat) (g_less : Nat) (g_voteValue : Nat) (g_voteNumber : Nat) (g_allValue : Nat) (g_allNumber : Nat) (g_nodeL : Nat) (g_nodeR : Nat) (g_part : Nat) (g_wasMany : Nat) (g_wasLoss : Nat) (g_wasValue : Nat) (g_wasNumber : Nat) (g_path : Nat) (g_heavyValue : Nat) (g_heavyTimes : Nat) (g_fewest : Nat) (g_which : Nat) (g_met : Nat) (m_n : Int32) (m_slots : Int32) (m_thrown : Int32) (m_allMany : Int32) (m_nodes : Int32) (m_partMany : Int32) (m_pathMany : Int32) (m_heavyMany : Int32) (m_mostMet : Int32) (cyI : ClassId) (fm : Nat → Int32) (fl : Nat → Int32) (fe : Nat → Int32) (vv : Nat → Int32) (vn : Nat → Int32) (f : Nat → Int32) (av : Nat → Int32) (an : Nat → Int32) (nl : Nat → Int32) (nr : Nat → Int32) (p0 : Int32) (sz : Nat) (a0 : 0 ≤ m_n.toInt) (a1 : m_n.toInt ≤ 160) (b3 : 1 ≤ p0.toInt) (b4 : p0.toInt ≤ 6) (s4 : six4 fm) : kx_MQ l (dC, dI) yX5_laysAll wsX5_laysAll ({ frames := 11, cells := 0, slots := 0, locals := 495 }) [.ref h0, .int p0] [kx_5 h0 g_row m_n m_slots m_thrown g_many g_loss g_less g_voteValue g_voteNumber g_allValue g_allNumber m_allMany g_nodeL g_nodeR m_nodes g_part m_partMany g_wasMany g_wasLoss g_wasValue g_wasNumber g_path m_pathMany g_heavyValue g_heavyTimes m_heavyMany g_fewest g_which g_met m_mostMet, kx_a g_row cyI 160 f, kx_a g_many cyI 324 fm, kx_a g_loss cyI 324 fl, kx_a g_less cyI 324 fe, kx_a g_voteValue cyI 1944 vv, kx_a g_voteNumber cyI 1944 vn, kx_a g_allValue cyI 12 av, kx_a g_allNumber cyI 12 an, kx_a g_nodeL cyI 320 nl, kx_a g_nodeR cyI 320 nr] [(cyI, .int)] sz (fun A => va_Qv (fun u : Int32 × Int32 × (Nat → Int32) × (Nat → Int32) × (Nat → Int32) × (Nat → Int32) × (Nat → Int32) × (Nat → Int32) × (Nat → Int32) × (Nat → Int32) × (Nat → Int32) => mj_L p0.toNatClampNeg f u.2.2.2.2.2.2.2.2.2.1 u.2.2.2.2.2.2.2.2.2.2 u.2.2.1 u.2.2.2.1 u.2.2.2.2.1 u.2.2.2.2.2.1 u.2.2.2.2.2.2.1 m_n.toInt u.1.toInt ∧ six4 u.2.2.1 ∧ 0 ≤ u.1.toInt ∧ u.1.toInt ≤ 319) (fun (u : Int32 × Int32 × (Nat → Int32) × (Nat → Int32) × (Nat → Int32) × (Nat → Int32) × (Nat → Int32) × (Nat → Int32) × (Nat → Int32) × (Nat → Int32) × (Nat → Int32)) (t : State) => va_P (dC, dI) vwCl [kx_5 h0 g_row m_n m_slots m_thrown g_many g_loss g_less g_voteValue g_voteNumber g_allValue g_allNumber u.2.1 g_nodeL g_nodeR u.1 g_part m_partMany g_wasMany g_wasLoss g_wasValue g_wasNumber g_path m_pathMany g_heavyValue g_heavyTimes m_heavyMany g_fewest g_which g_met m_mostMet, kx_a g_row cyI 160 f, kx_a g_many cyI 324 u.2.2.1, kx_a g_loss cyI 324 u.2.2.2.1, kx_a g_less cyI 324 u.2.2.2.2.1, kx_a g_voteValue cyI 1944 u.2.2.2.2.2.1, kx_a g_voteNumber cyI 1944 u.2.2.2.2.2.2.1, kx_a g_allValue cyI 12 u.2.2.2.2.2.2.2.1, kx_a g_allNumber cyI 12 u.2.2.2.2.2.2.2.2.1, kx_a g_nodeL cyI 320 u.2.2.2.2.2.2.2.2.2.1, kx_a g_nodeR cyI 320 u.2.2.2.2.2.2.2.2.2.2] t.heap ∧ va_K (dC, dI) vwCl [(cyI, .int)] t ∧ va_D A [kx_5 h0 g_row m_n m_slots m_thrown g_many g_loss g_less g_voteValue g_voteNumber g_allValue g_allNumber u.2.1 g_nodeL g_nodeR u.1 g_part m_partMany g_wasMany g_wasLoss g_wasValue g_wasNumber g_path m_pathMany g_heavyValue g_heavyTimes m_heavyMany g_fewest g_which g_met m_mostMet, kx_a g_row cyI 160 f, kx_a g_many cyI 324 u.2.2.1, kx_a g_loss cyI 324 u.2.2.2.1, kx_a g_less cyI 324 u.2.2.2.2.1, kx_a g_voteValue cyI 1944 u.2.2.2.2.2.1, kx_a g_voteNumber cyI 1944 u.2.2.2.2.2.2.1, kx_a g_allValue cyI 12 u.2.2.2.2.2.2.2.1, kx_a g_allNumber cyI 12 u.2.2.2.2.2.2.2.2.1, kx_a g_nodeL cyI 320 u.2.2.2.2.2.2.2.2.2.1, kx_a g_nodeR cyI 320 u.2.2.2.2.2.2.2.2.2.2]) A) := by
  refine kx_stQ (ws := wsX5_laysAll) (cc := cX5_laysAll) (maxL := 2) (ret := none) (by decide) rfl (Nat.le_of_ble_eq_true rfl) ?_
  intro p e s m below meth c A ls hx hb hr hlocks hts hown hml hA hS hP hK hD hl
  have hown : s.vm.findClass RX5 = some m.cls := hown
  have hl : lv_has ls 2 [(0, .ref h0), (1, .int p0)] := hl
  have hf_101 := hts (.fieldLink RX5 101 "MajorityIndexModel" "nodes" "I") (List.mem_of_getElem? (i := 1) rfl)
  have hi_5 : ∀ w ∈ u_ws RX5 TX5 30, w ∈ wsX5_laysAll := fun w h => List.mem_cons_of_mem _ (List.mem_append_right _ h)
  have hf_84 := hts (.fieldLink RX5 84 "MajorityIndexModel" "n" "I") (List.mem_of_getElem? (i := 2) rfl)
  refine lv_aload_n hx hb dX5_laysAll_0 rfl (lv_at hl 0 rfl) ?_
  refine lv_iconst (v := 0) hx hb dX5_laysAll_1 (by decide) ?_
  refine va_put (D := (dC, dI)) (ci := 5) (v := .int 0) (ty := .int) (C := RX5) (T := TX5) (N := 30) hx hb hts hi_5 tyX5 tyX5_ok nmX5 hown hK hP hD hS 0 rfl rfl 14 (by decide) hf_101 (fun _ h9 => h9) rfl (by decide +kernel) rfl rfl (Nat.le_of_ble_eq_true rfl) dX5_laysAll_2 (fun H locs hP hD hS => ?_)
  obtain ⟨hP, hD⟩ := kx_re (w2 := [kx_5 h0 g_row m_n m_slots m_thrown g_many g_loss g_less g_voteValue g_voteNumber g_allValue g_allNumber m_allMany g_nodeL g_nodeR 0 g_part m_partMany g_wasMany g_wasLoss g_wasValue g_wasNumber g_path m_pathMany g_heavyValue g_heavyTimes m_heavyMany g_fewest g_which g_met m_mostMet, kx_a g_row cyI 160 f, kx_a g_many cyI 324 fm, kx_a g_loss cyI 324 fl, kx_a g_less cyI 324 fe, kx_a g_voteValue cyI 1944 vv, kx_a g_voteNumber cyI 1944 vn, kx_a g_allValue cyI 12 av, kx_a g_allNumber cyI 12 an, kx_a g_nodeL cyI 320 nl, kx_a g_nodeR cyI 320 nr]) hP hD rfl
  refine lv_aload_n hx hb dX5_laysAll_5 rfl (lv_at hl 0 rfl) ?_
  refine va_get (D := (dC, dI)) (ci := 5) (v := .int m_n) (C := RX5) (T := TX5) (N := 30) hx hb hts hi_5 hown hK hP 0 rfl rfl 1 (by decide) hf_84 (fun _ h9 => h9) rfl dX5_laysAll_6 ?_
  refine lv_if_le (tgt := 23) hx hb dX5_laysAll_9 (by decide) (fun c_1 => ?_) (fun c_1 => ?_)
  · have i_1 : m_n.toInt ≤ 0 := kc_le c_1
    have hP9 := hP
    have hD9 := hD
    have hK9 := hK
    exact W.vret hx hb hr (hlocks := hlocks) (fun t ht hW => ⟨⟨(0, m_allMany, fm, fl, fe, vv, vn, av, an, nl, nr), rfl, ⟨Or.inl ⟨by omega, rfl⟩, s4, (by (try dsimp only); decide), (by (try dsimp only); decide)⟩, by rw [ht]; exact hP9, va_K.moved hW.alike hK9, hD9⟩, hS.F ht⟩) hS.2.2 dX5_laysAll_23
  · have i_1 : 0 < m_n.toInt := kc_nle c_1
    refine lv_aload_n hx hb dX5_laysAll_12 rfl (lv_at hl 0 rfl) ?_
    refine lv_iconst (v := 0) hx hb dX5_laysAll_13 (by decide) ?_
    refine lv_aload_n hx hb dX5_laysAll_14 rfl (lv_at hl 0 rfl) ?_
    refine va_get (D := (dC, dI)) (ci := 5) (v := .int m_n) (C := RX5) (T := TX5) (N := 30) hx hb hts hi_5 hown hK hP 0 rfl rfl 1 (by decide) hf_84 (fun _ h9 => h9) rfl dX5_laysAll_15 ?_
    refine lv_iload_n hx hb dX5_laysAll_18 rfl (lv_at hl 1 rfl) ?_
    have hPc := hP
    have hKc := hK
    have k_2 : (0 : Int32).toInt = 0 := rfl
    have hDc := hD
    have hFc := kx_free hD hS hA
    refine va_calli (va_runV (As := [.int 0, .int m_n, .int p0]) (rest := []) ⟨hx, hb, hml, hown, hts⟩ (kx_un (c_X5_lays_8 l dC dI h0 g_row g_many g_loss g_less g_voteValue g_voteNumber g_allValue g_allNumber g_nodeL g_nodeR g_part g_wasMany g_wasLoss g_wasValue g_wasNumber g_path g_heavyValue g_heavyTimes g_fewest g_which g_met m_n m_slots m_thrown m_allMany 0 m_partMany m_pathMany m_heavyMany m_mostMet cyI fm fl fe vv vn f av an nl nr 0 m_n p0 H.size om_35 i_1 a1 b3 b4 om_35 (om_363 a1) s4 (om_364 a1))) (cwV 3 hts gX5_laysAll_X5_lays rfl rfl rfl (by decide +kernel) ⟨Nat.le_of_ble_eq_true rfl, Nat.le_of_ble_eq_true rfl⟩) ⟨fun a U g mk q => by obtain ⟨q0, q1, qP, qK, qD⟩ := q; exact ⟨q0, q1, qP, va_K.moved (u := U) (U := U.calling g mk a) (Vm.Alike.refl U.vm) qK, qD⟩, kx_rc5 hKc hPc (q0 := 0) rfl, fun U hU hW => ⟨rfl, by rw [hU], by rw [hU]; exact hPc, va_K.moved hW.alike hKc, hDc.weaken (fun _ _ _ _ => trivial)⟩⟩ rfl rfl hl.1 rfl (lv_room (Nat.le_of_ble_eq_true rfl)) dX5_laysAll_19 ⟨Nat.le_of_ble_eq_true rfl, Nat.le_of_ble_eq_true rfl⟩) hS (fun q _ h => hFc q h) hFc (fun r_3 u t H1 locs ht hvm w_3 hB hz1 hk1 hS => ?_)
    obtain ⟨o_4, o_5, o_6, o_7, o_8, o_9, o_10, o_11, o_12, o_13, o_14⟩ := u
    dsimp only at w_3 hB
    obtain ⟨hP1, hK1, hD1⟩ := hB
    rw [ht] at hP1
    have hK1 := va_K.moved hvm.symm hK1
    have hD := hD1.weaken (fun _ q _ h => hFc q.1 h)
    have hP := hP1
    clear hP1 hD1 hK1 hk1 hz1 hFc hDc hPc hKc
    generalize H1 = H at hP hS ⊢
    have w_3 : r_3 = 0 ∧ o_4.toInt = 0 + 2 * (m_n.toInt - 0) - 1 ∧ six4 o_6 ∧ mj_S p0.toNatClampNeg f o_13 o_14 o_6 o_7 o_8 o_9 o_10 8 (0 : Int32).toNatClampNeg (0 : Int32).toNatClampNeg m_n.toNatClampNeg ∧ mj_ag 0 (0 : Int32).toNatClampNeg nl nr fm fl fe vv vn o_13 o_14 o_6 o_7 o_8 o_9 o_10 := w_3
    refine lv_pop hx hb dX5_laysAll_22 rfl ?_
    have hP9 := hP
    have hD9 := hD
    have hK9 := hK
    have k_0 : (0 : Int32).toInt = 0 := rfl
    have n_n := ki_nat m_n rfl (om_365 i_1)
    exact W.vret hx hb hr (hlocks := hlocks) (fun t ht hW => ⟨⟨(o_4, o_5, o_6, o_7, o_8, o_9, o_10, o_11, o_12, o_13, o_14), rfl, ⟨Or.inr ⟨by omega, (by (try dsimp only); omega), (by (try dsimp only); exact w_3.2.2.2.1)⟩, w_3.2.2.1, (by (try dsimp only); omega), (by (try dsimp only); omega)⟩, by rw [ht]; exact hP9, va_K.moved hW.alike hK9, hD9⟩, hS.F ht⟩) hS.2.2 dX5_laysAll_23



def parts320 (f : Nat → Int32) : Prop := ∀ k : Nat, k < 320 → 0 ≤ (f k).toInt ∧ (f k).toInt < 320
theorem parts320_upd {f : Nat → Int32} {k : Nat} {x : Int32} (h : parts320 f) (h1 : 0 ≤ x.toInt) (h2 : x.toInt < 320) : parts320 (upd f k x) := by
  intro j hj
  unfold upd
  split
  · exact ⟨h1, h2⟩
  · exact h j hj
theorem mj_vs_ag {nl nr fm fl fe vv vn nl2 nr2 fm2 fl2 fe2 vv2 vn2 : Nat → Int32} {k b : Nat} {μ : Int32 → Int} (g : mj_ag 0 b nl nr fm fl fe vv vn nl2 nr2 fm2 fl2 fe2 vv2 vn2) (hk : k < b) (b0 : 0 ≤ (fm k).toInt) (b6 : (fm k).toInt ≤ 6) (hv : mj_vs vv vn (6 * k) (fm k).toNatClampNeg μ) : 0 ≤ (fm2 k).toInt ∧ (fm2 k).toInt ≤ 6 ∧ mj_vs vv2 vn2 (6 * k) (fm2 k).toNatClampNeg μ ∧ fl2 k = fl k := by
  obtain ⟨-, -, e3, e4, -⟩ := g.1 k (by omega) hk
  have hn := ki_nat (fm k) rfl b0
  rw [e3]
  exact ⟨b0, b6, mj_vs_seg hv (fun i hi => g.2 _ (by omega) (by omega)), e4⟩
theorem mj_F_one {K : Nat} {nl nr fm fl vv vn fm2 fl2 vv2 vn2 : Nat → Int32} {l r : Int} {i0 : Nat} {μ : Int32 → Int} (hi : i0 < 320) (hp : mj_isp nl nr l r i0) (hq : mj_pq nl nr l r i0 = 0) (b0 : 0 ≤ (fm i0).toInt) (b6 : (fm i0).toInt ≤ 6) (bK : (fm i0).toInt ≤ (K : Int)) (hv : mj_vs vv vn (6 * i0) (fm i0).toNatClampNeg μ) (hs : mj_srt vv vn (6 * i0) (fm i0).toNatClampNeg) (hb : ∀ v : Int32, 0 ≤ μ v ∧ μ v ≤ 160) (e1 : fm2 = upd fm 320 (fm i0)) (e2 : fl2 = upd fl 320 (fl i0)) (hc : mj_cp vv vn vv2 vn2 i0 320 6) : mj_F K nl nr fm fl vv vn fm2 fl2 vv2 vn2 l r 1 := by
  subst e1; subst e2
  have hn := ki_nat (fm i0) rfl b0
  have hj : ∀ j : Nat, j < (fm i0).toNatClampNeg → vv2 (1920 + j) = vv (6 * i0 + j) ∧ vn2 (1920 + j) = vn (6 * i0 + j) := fun j h => hc.1 j (by omega)
  refine ⟨μ, fl i0, ⟨i0, mj_z, 0, 0, μ, hi, ⟨rfl, rfl⟩, hp, hq, hv, b0, b6, mj_tog_first hv hs (by omega), by simp⟩, ?_, ?_, ?_, ?_, ?_, fun v => ?_⟩
  · rw [upd_at]
    refine ⟨fun j h => ?_, fun i j hi hj2 e => ?_, fun v h => ?_⟩
    · rw [(hj j h).1, (hj j h).2]; exact hv.1 j h
    · rw [(hj i hi).1, (hj j hj2).1] at e; exact hv.2.1 i j hi hj2 e
    · obtain ⟨j, h1, h2⟩ := hv.2.2 v h
      exact ⟨j, h1, by rw [(hj j h1).1]; exact h2⟩
  · rw [upd_at]
    intro i j hij h
    have := hs i j hij h
    unfold mj_lea at this ⊢
    rw [(hj i (by omega)).1, (hj i (by omega)).2, (hj j h).1, (hj j h).2]
    exact this
  · rw [upd_at]; exact b0
  · rw [upd_at]; exact bK
  · rw [upd_at]
  · have := hb v
    omega
theorem mj_F_step {K : Nat} {nl nr fm fl vv vn gm gl fm3 fl3 vv3 vn3 : Nat → Int32} {l r : Int} {j j2 k9 : Nat} {mua mub mu : Int32 → Int} {L0 c lf : Int32} (hH : mj_H K nl nr fm fl vv vn l r j mua L0) (hi : k9 < 320) (hp : mj_isp nl nr l r k9) (hq : mj_pq nl nr l r k9 = j) (b0 : 0 ≤ (fm k9).toInt) (b6 : (fm k9).toInt ≤ 6) (hv : mj_vs vv vn (6 * k9) (fm k9).toNatClampNeg mub) (tg : mj_tog K mua mub mu c) (e : fl3 = upd gl 320 (gl 320 + gl k9 + c)) (eL : gl 320 = L0) (ek : gl k9 = fl k9) (ef : fm3 = upd gm 320 lf) (c0 : 0 ≤ lf.toInt) (cK : lf.toInt ≤ (K : Int)) (v3 : mj_vs vv3 vn3 1920 lf.toNatClampNeg mu) (s3 : mj_srt vv3 vn3 1920 lf.toNatClampNeg) (ha : ∀ v : Int32, 0 ≤ mua v ∧ mua v ≤ 160 * (j : Int)) (hb : ∀ v : Int32, 0 ≤ mub v ∧ mub v ≤ 160) (ej : j2 = j + 1) : mj_F K nl nr fm fl vv vn fm3 fl3 vv3 vn3 l r j2 := by
  subst e; subst ef; subst ej
  refine ⟨mu, L0 + fl k9 + c, ⟨k9, mua, L0, c, mub, hi, hH, hp, hq, hv, b0, b6, tg, rfl⟩, ?_, ?_, ?_, ?_, ?_, fun v => ?_⟩
  · rw [upd_at]; exact v3
  · rw [upd_at]; exact s3
  · rw [upd_at]; exact c0
  · rw [upd_at]; exact cK
  · rw [upd_at, eL, ek]
  · have h1 := mj_tog_le tg (fun w => (ha w).1) (fun w => (hb w).1) v
    have h2 := ha v
    have h3 := hb v
    omega
theorem mj_F_self {K : Nat} {nl nr fm fl fe vv vn fm2 fl2 fe2 vv2 vn2 : Nat → Int32} {l r : Int} {j j2 : Nat} (h : mj_F K nl nr fm fl vv vn fm2 fl2 vv2 vn2 l r j) (g : mj_ag 0 320 nl nr fm fl fe vv vn nl nr fm2 fl2 fe2 vv2 vn2) (e : j2 = j) : mj_F K nl nr fm2 fl2 vv2 vn2 fm2 fl2 vv2 vn2 l r j2 := by
  subst e
  obtain ⟨μ, L, hH, h⟩ := h
  exact ⟨μ, L, mj_H_ag g _ _ _ hH, h⟩
theorem mj_ag_cp {nl nr fm fl fe vv vn fm2 fl2 fe2 vv2 vn2 : Nat → Int32} {a : Nat} {x y z : Int32} (e1 : fm2 = upd fm 320 x) (e2 : fl2 = upd fl 320 y) (e3 : fe2 = upd fe 320 z) (hc : mj_cp vv vn vv2 vn2 a 320 6) : mj_ag 0 320 nl nr fm fl fe vv vn nl nr fm2 fl2 fe2 vv2 vn2 := by
  subst e1; subst e2; subst e3
  refine ⟨fun k h1 h2 => ?_, fun q h1 h2 => hc.2 q (by omega)⟩
  have : ¬ k = 320 := by omega
  rw [upd_ne this, upd_ne this, upd_ne this]
  exact ⟨rfl, rfl, rfl, rfl, rfl⟩
theorem mj_ag_tg {nl nr fm fl fe vv vn gm gl ge gvv gvn fm3 fl3 fe3 vv3 vn3 : Nat → Int32} {x y z : Int32} (g : mj_ag 0 320 nl nr fm fl fe vv vn nl nr gm gl ge gvv gvn) (e1 : fm3 = upd gm 320 x) (e2 : fl3 = upd gl 320 y) (e3 : fe3 = upd ge 320 z) (hq : ∀ q : Nat, (q < 1920 ∨ 1926 ≤ q) → vv3 q = gvv q ∧ vn3 q = gvn q) : mj_ag 0 320 nl nr fm fl fe vv vn nl nr fm3 fl3 fe3 vv3 vn3 := by
  subst e1; subst e2; subst e3
  refine mj_ag_trans g ⟨fun k h1 h2 => ?_, fun q h1 h2 => hq q (by omega)⟩
  have : ¬ k = 320 := by omega
  rw [upd_ne this, upd_ne this, upd_ne this]
  exact ⟨rfl, rfl, rfl, rfl, rfl⟩
/-! the nodes that have a place -/
def pathOk (f : Nat → Int32) (m nd : Int) : Prop := ∀ k : Nat, (k : Int) < m → 0 ≤ (f k).toInt ∧ (f k).toInt < nd
theorem pathOk_0 (f : Nat → Int32) {m nd : Int} (h : m ≤ 0) : pathOk f m nd := fun k hk => absurd hk (by omega)
theorem pathOk_put {f : Nat → Int32} {m m2 nd : Int} {q : Nat} {x : Int32} (h : pathOk f m nd) (hq : (q : Int) = m) (e : m2 = m + 1) (h0 : 0 ≤ x.toInt) (h1 : x.toInt < nd) : pathOk (upd f q x) m2 nd := by
  intro k hk
  unfold upd
  split
  · exact ⟨h0, h1⟩
  · exact h k (by omega)
def mj_has (nl nr : Nat → Int32) (p : Int) (k : Nat) : Prop := (nl k).toInt ≤ p ∧ p < (nr k).toInt
def mj_pw (nl nr : Nat → Int32) (p : Int) (gp : Nat → Int32) (k : Nat) : Prop := ∀ j : Nat, j < k → mj_has nl nr p j → (gp (mj_pc nl nr p 0 j)).toInt = (j : Int)
theorem mj_pc_no {nl nr : Nat → Int32} {p : Int} {k : Nat} (h : ¬ mj_has nl nr p k) : mj_pc nl nr p 0 (k + 1) = mj_pc nl nr p 0 k := by
  simp only [mj_pc, Nat.zero_add]
  rw [if_neg (show ¬ ((nl k).toInt ≤ p ∧ p < (nr k).toInt) from h)]
  omega
theorem mj_pc_yes {nl nr : Nat → Int32} {p : Int} {k : Nat} (h : mj_has nl nr p k) : mj_pc nl nr p 0 (k + 1) = mj_pc nl nr p 0 k + 1 := by
  simp only [mj_pc, Nat.zero_add]
  rw [if_pos (show (nl k).toInt ≤ p ∧ p < (nr k).toInt from h)]
theorem mj_pw_0 (nl nr : Nat → Int32) (p : Int) (gp : Nat → Int32) {k : Nat} (hk : k = 0) : mj_pw nl nr p gp k := fun j h => absurd h (by omega)
theorem mj_pw_skip {nl nr gp : Nat → Int32} {p : Int} {k k2 : Nat} (h : mj_pw nl nr p gp k) (hn : ¬ mj_has nl nr p k) (e : k2 = k + 1) : mj_pw nl nr p gp k2 ∧ mj_pc nl nr p 0 k2 = mj_pc nl nr p 0 k := by
  subst e
  refine ⟨fun j hj hp => ?_, mj_pc_no hn⟩
  rcases Nat.lt_or_eq_of_le (Nat.le_of_lt_succ hj) with h9 | h9
  · exact h j h9 hp
  · subst h9; exact absurd hp hn
theorem mj_pw_put {nl nr gp : Nat → Int32} {p : Int} {k k2 q : Nat} {x : Int32} (h : mj_pw nl nr p gp k) (hp : mj_has nl nr p k) (e : k2 = k + 1) (eq : q = mj_pc nl nr p 0 k) (ex : x.toInt = (k : Int)) : mj_pw nl nr p (upd gp q x) k2 ∧ mj_pc nl nr p 0 k2 = mj_pc nl nr p 0 k + 1 := by
  subst e; subst eq
  refine ⟨fun j hj hpj => ?_, mj_pc_yes hp⟩
  rcases Nat.lt_or_eq_of_le (Nat.le_of_lt_succ hj) with h9 | h9
  · have h1 := mj_pc_mono nl nr p 0 (j + 1) k (by omega)
    have h2 := mj_pc_yes hpj
    rw [upd_ne (by omega)]
    exact h j h9 hpj
  · subst h9
    rw [upd_at]; exact ex



abbrev cX5_laysParts : ByteArray := prog_7_method_16_code
def yX5_laysParts : MethodName := ⟨RX5, "laysParts", "(II)V"⟩
abbrev cX5_folds : ByteArray := prog_7_method_17_code
def yX5_folds : MethodName := ⟨RX5, "folds", "(IIII)V"⟩
def wsX5_laysParts : List Cond := .code yX5_laysParts cX5_laysParts 5 none :: ([.fieldLink RX5 115 "MajorityIndexModel" "partMany" "I", .fieldLink RX5 101 "MajorityIndexModel" "nodes" "I", .fieldLink RX5 38 "MajorityIndexModel" "nodeL" "[I", .fieldLink RX5 41 "MajorityIndexModel" "nodeR" "[I", .fieldLink RX5 44 "MajorityIndexModel" "part" "[I"] ++ wsX50)
def wsX5_folds_r1 : List Cond := [Cond.fieldLink RX5 44 "MajorityIndexModel" "part" "[I", Cond.fieldLink RX5 115 "MajorityIndexModel" "partMany" "I", Cond.methodLink RX5 118 yX5_laysParts, Cond.instanceMethod yX5_laysParts, Cond.selects RX5 yX5_laysParts yX5_laysParts, Cond.initialized RX5, Cond.code yX5_laysParts cX5_laysParts 5 none, Cond.fieldLink RX5 101 "MajorityIndexModel" "nodes" "I", Cond.fieldLink RX5 38 "MajorityIndexModel" "nodeL" "[I", Cond.fieldLink RX5 41 "MajorityIndexModel" "nodeR" "[I", Cond.methodLink RX5 121 yX5_copies, Cond.instanceMethod yX5_copies, Cond.selects RX5 yX5_copies yX5_copies, Cond.code yX5_copies cX5_copies 4 none, Cond.fieldLink RX5 17 "MajorityIndexModel" "many" "[I", Cond.fieldLink RX5 20 "MajorityIndexModel" "loss" "[I", Cond.fieldLink RX5 23 "MajorityIndexModel" "less" "[I", Cond.fieldLink RX5 26 "MajorityIndexModel" "voteValue" "[I", Cond.fieldLink RX5 29 "MajorityIndexModel" "voteNumber" "[I", Cond.methodLink RX5 111 yX5_together, Cond.instanceMethod yX5_together, Cond.selects RX5 yX5_together yX5_together, Cond.code yX5_together cX5_together 9 none, Cond.fieldLink RX5 87 "MajorityIndexModel" "allMany" "I"]
def wsX5_folds_r2 : List Cond := [Cond.fieldLink RX5 35 "MajorityIndexModel" "allNumber" "[I", Cond.fieldLink RX5 32 "MajorityIndexModel" "allValue" "[I", Cond.methodLink RX5 94 yX5_adds, Cond.instanceMethod yX5_adds, Cond.selects RX5 yX5_adds yX5_adds, Cond.code yX5_adds cX5_adds 4 none, Cond.methodLink RX5 98 yX5_sorts, Cond.instanceMethod yX5_sorts, Cond.selects RX5 yX5_sorts yX5_sorts, Cond.code yX5_sorts cX5_sorts 4 none, Cond.methodLink RX5 90 yX5_isAhead, Cond.instanceMethod yX5_isAhead, Cond.selects RX5 yX5_isAhead yX5_isAhead, Cond.code yX5_isAhead cX5_isAhead 3 (some .boolean)]
def wsX5_folds : List Cond := .code yX5_folds cX5_folds 6 none :: ((wsX5_folds_r1 ++ wsX5_folds_r2) ++ wsX50)
def dt_cX5_laysParts_0 : List (Nat × Nat × Nat × Nat) := [(0, 42, 0, 0), (1, 3, 0, 0), (2, 181, 2, 115), (5, 27, 0, 0), (6, 62, 0, 0), (7, 3, 0, 0), (8, 54, 1, 4), (10, 21, 1, 4), (12, 42, 0, 0), (13, 180, 2, 101), (16, 162, 2, 63), (19, 42, 0, 0), (20, 180, 2, 38), (23, 21, 1, 4), (25, 46, 0, 0), (26, 29, 0, 0), (27, 160, 2, 46), (30, 42, 0, 0), (31, 180, 2, 41), (34, 21, 1, 4)]
theorem da_cX5_laysParts_0 : fw dt_cX5_laysParts_0 0 cX5_laysParts.data.toList = true := by decide +kernel
theorem dX5_laysParts_0 : decode cX5_laysParts 0 = .ok (.aload_n 0, 1) := fo_42 (fw_get da_cX5_laysParts_0 0 rfl)
theorem dX5_laysParts_1 : decode cX5_laysParts 1 = .ok (.iconst 0, 1) := fo_3 (fw_get da_cX5_laysParts_0 1 rfl)
theorem dX5_laysParts_2 : decode cX5_laysParts 2 = .ok (.putfield 115, 3) := fo_181 (fw_get da_cX5_laysParts_0 2 rfl)
theorem dX5_laysParts_5 : decode cX5_laysParts 5 = .ok (.iload_n 1, 1) := fo_27 (fw_get da_cX5_laysParts_0 3 rfl)
theorem dX5_laysParts_6 : decode cX5_laysParts 6 = .ok (.istore_n 3, 1) := fo_62 (fw_get da_cX5_laysParts_0 4 rfl)
theorem dX5_laysParts_7 : decode cX5_laysParts 7 = .ok (.iconst 0, 1) := fo_3 (fw_get da_cX5_laysParts_0 5 rfl)
theorem dX5_laysParts_8 : decode cX5_laysParts 8 = .ok (.istore 4, 2) := fo_54 (fw_get da_cX5_laysParts_0 6 rfl)
theorem dX5_laysParts_10 : decode cX5_laysParts 10 = .ok (.iload 4, 2) := fo_21 (fw_get da_cX5_laysParts_0 7 rfl)
theorem dX5_laysParts_12 : decode cX5_laysParts 12 = .ok (.aload_n 0, 1) := fo_42 (fw_get da_cX5_laysParts_0 8 rfl)
theorem dX5_laysParts_13 : decode cX5_laysParts 13 = .ok (.getfield 101, 3) := fo_180 (fw_get da_cX5_laysParts_0 9 rfl)
theorem dX5_laysParts_16 : decode cX5_laysParts 16 = .ok (.if_icmp .ge 63, 3) := fo_162 (fw_get da_cX5_laysParts_0 10 rfl) (by decide +kernel)
theorem dX5_laysParts_19 : decode cX5_laysParts 19 = .ok (.aload_n 0, 1) := fo_42 (fw_get da_cX5_laysParts_0 11 rfl)
theorem dX5_laysParts_20 : decode cX5_laysParts 20 = .ok (.getfield 38, 3) := fo_180 (fw_get da_cX5_laysParts_0 12 rfl)
theorem dX5_laysParts_23 : decode cX5_laysParts 23 = .ok (.iload 4, 2) := fo_21 (fw_get da_cX5_laysParts_0 13 rfl)
theorem dX5_laysParts_25 : decode cX5_laysParts 25 = .ok (.iaload, 1) := fo_46 (fw_get da_cX5_laysParts_0 14 rfl)
theorem dX5_laysParts_26 : decode cX5_laysParts 26 = .ok (.iload_n 3, 1) := fo_29 (fw_get da_cX5_laysParts_0 15 rfl)
theorem dX5_laysParts_27 : decode cX5_laysParts 27 = .ok (.if_icmp .ne 46, 3) := fo_160 (fw_get da_cX5_laysParts_0 16 rfl) (by decide +kernel)
theorem dX5_laysParts_30 : decode cX5_laysParts 30 = .ok (.aload_n 0, 1) := fo_42 (fw_get da_cX5_laysParts_0 17 rfl)
theorem dX5_laysParts_31 : decode cX5_laysParts 31 = .ok (.getfield 41, 3) := fo_180 (fw_get da_cX5_laysParts_0 18 rfl)
theorem dX5_laysParts_34 : decode cX5_laysParts 34 = .ok (.iload 4, 2) := fo_21 (fw_get da_cX5_laysParts_0 19 rfl)
def dt_cX5_laysParts_1 : List (Nat × Nat × Nat × Nat) := [(36, 46, 0, 0), (37, 28, 0, 0), (38, 164, 2, 6), (41, 167, 2, 32), (44, 42, 0, 0), (45, 180, 2, 44), (48, 42, 0, 0), (49, 180, 2, 115), (52, 21, 1, 4), (54, 79, 0, 0), (55, 42, 0, 0), (56, 89, 0, 0), (57, 180, 2, 115), (60, 4, 0, 0), (61, 96, 0, 0), (62, 181, 2, 115), (65, 42, 0, 0), (66, 180, 2, 41), (69, 21, 1, 4), (71, 46, 0, 0)]
theorem da_cX5_laysParts_1 : fw dt_cX5_laysParts_1 0 cX5_laysParts.data.toList = true := by decide +kernel
theorem dX5_laysParts_36 : decode cX5_laysParts 36 = .ok (.iaload, 1) := fo_46 (fw_get da_cX5_laysParts_1 0 rfl)
theorem dX5_laysParts_37 : decode cX5_laysParts 37 = .ok (.iload_n 2, 1) := fo_28 (fw_get da_cX5_laysParts_1 1 rfl)
theorem dX5_laysParts_38 : decode cX5_laysParts 38 = .ok (.if_icmp .le 6, 3) := fo_164 (fw_get da_cX5_laysParts_1 2 rfl) (by decide +kernel)
theorem dX5_laysParts_41 : decode cX5_laysParts 41 = .ok (.goto 32, 3) := fo_167 (fw_get da_cX5_laysParts_1 3 rfl) (by decide +kernel)
theorem dX5_laysParts_44 : decode cX5_laysParts 44 = .ok (.aload_n 0, 1) := fo_42 (fw_get da_cX5_laysParts_1 4 rfl)
theorem dX5_laysParts_45 : decode cX5_laysParts 45 = .ok (.getfield 44, 3) := fo_180 (fw_get da_cX5_laysParts_1 5 rfl)
theorem dX5_laysParts_48 : decode cX5_laysParts 48 = .ok (.aload_n 0, 1) := fo_42 (fw_get da_cX5_laysParts_1 6 rfl)
theorem dX5_laysParts_49 : decode cX5_laysParts 49 = .ok (.getfield 115, 3) := fo_180 (fw_get da_cX5_laysParts_1 7 rfl)
theorem dX5_laysParts_52 : decode cX5_laysParts 52 = .ok (.iload 4, 2) := fo_21 (fw_get da_cX5_laysParts_1 8 rfl)
theorem dX5_laysParts_54 : decode cX5_laysParts 54 = .ok (.iastore, 1) := fo_79 (fw_get da_cX5_laysParts_1 9 rfl)
theorem dX5_laysParts_55 : decode cX5_laysParts 55 = .ok (.aload_n 0, 1) := fo_42 (fw_get da_cX5_laysParts_1 10 rfl)
theorem dX5_laysParts_56 : decode cX5_laysParts 56 = .ok (.dup, 1) := fo_89 (fw_get da_cX5_laysParts_1 11 rfl)
theorem dX5_laysParts_57 : decode cX5_laysParts 57 = .ok (.getfield 115, 3) := fo_180 (fw_get da_cX5_laysParts_1 12 rfl)
theorem dX5_laysParts_60 : decode cX5_laysParts 60 = .ok (.iconst 1, 1) := fo_4 (fw_get da_cX5_laysParts_1 13 rfl)
theorem dX5_laysParts_61 : decode cX5_laysParts 61 = .ok (.iadd, 1) := fo_96 (fw_get da_cX5_laysParts_1 14 rfl)
theorem dX5_laysParts_62 : decode cX5_laysParts 62 = .ok (.putfield 115, 3) := fo_181 (fw_get da_cX5_laysParts_1 15 rfl)
theorem dX5_laysParts_65 : decode cX5_laysParts 65 = .ok (.aload_n 0, 1) := fo_42 (fw_get da_cX5_laysParts_1 16 rfl)
theorem dX5_laysParts_66 : decode cX5_laysParts 66 = .ok (.getfield 41, 3) := fo_180 (fw_get da_cX5_laysParts_1 17 rfl)
theorem dX5_laysParts_69 : decode cX5_laysParts 69 = .ok (.iload 4, 2) := fo_21 (fw_get da_cX5_laysParts_1 18 rfl)
theorem dX5_laysParts_71 : decode cX5_laysParts 71 = .ok (.iaload, 1) := fo_46 (fw_get da_cX5_laysParts_1 19 rfl)
def dt_cX5_laysParts_2 : List (Nat × Nat × Nat × Nat) := [(72, 62, 0, 0), (73, 132, 2, 1025), (76, 167, 2, 65470), (79, 177, 0, 0)]
theorem da_cX5_laysParts_2 : fw dt_cX5_laysParts_2 0 cX5_laysParts.data.toList = true := by decide +kernel
theorem dX5_laysParts_72 : decode cX5_laysParts 72 = .ok (.istore_n 3, 1) := fo_62 (fw_get da_cX5_laysParts_2 0 rfl)
theorem dX5_laysParts_73 : decode cX5_laysParts 73 = .ok (.iinc 4 1, 3) := fo_132 (fw_get da_cX5_laysParts_2 1 rfl) rfl (by decide +kernel)
theorem dX5_laysParts_76 : decode cX5_laysParts 76 = .ok (.goto (-66), 3) := fo_167 (fw_get da_cX5_laysParts_2 2 rfl) (by decide +kernel)
theorem dX5_laysParts_79 : decode cX5_laysParts 79 = .ok (.return_, 1) := fo_177 (fw_get da_cX5_laysParts_2 3 rfl)
theorem mi_wsX5_folds_wsX5_folds_r1 : ∀ w ∈ wsX5_folds_r1, w ∈ wsX5_folds := fun _ h => (List.mem_cons_of_mem _ (List.mem_append_left _ (List.mem_append_left _ h)))
theorem mi_wsX5_folds_wsX50 : ∀ w ∈ wsX50, w ∈ wsX5_folds := fun _ h => (List.mem_cons_of_mem _ (List.mem_append_right _ h))
set_option maxRecDepth 20000 in
theorem ggX5_folds_X5_laysParts : GoodIn wsX5_folds wsX5_laysParts := goodIn_m _ [(wsX5_folds_r1, [false, false, false, false, false, false, true]), (wsX5_folds_r1, [false, true, false, false, false, false, false, true, true, true]), (wsX5_folds_r1, [true]), (wsX50, [true, true, true, true, true, true, true, true, true, true, true, true, true, true, true, true, true, true, true, true, true, true, true, true, true, true, true, true, true, true])] (gm_c mi_wsX5_folds_wsX5_folds_r1 (gm_c mi_wsX5_folds_wsX5_folds_r1 (gm_c mi_wsX5_folds_wsX5_folds_r1 (gm_c mi_wsX5_folds_wsX50 gm_n)))) rfl (by decide +kernel)
set_option maxRecDepth 20000 in
theorem gX5_folds_X5_laysParts : GoodIn wsX5_folds (wsV RX5 118 RX5 yX5_laysParts wsX5_laysParts) := goodIn_app (goodIn_m _ [(wsX5_folds_r1, [false, false, true, true, true, true])] (gm_c mi_wsX5_folds_wsX5_folds_r1 gm_n) rfl (by decide +kernel)) ggX5_folds_X5_laysParts
set_option maxRecDepth 20000 in
theorem ggX5_folds_X5_copies : GoodIn wsX5_folds wsX5_copies := goodIn_m _ [(wsX5_folds_r1, [false, false, false, false, false, false, false, false, false, false, false, false, false, true, true, true, true, true, true]), (wsX50, [true, true, true, true, true, true, true, true, true, true, true, true, true, true, true, true, true, true, true, true, true, true, true, true, true, true, true, true, true, true])] (gm_c mi_wsX5_folds_wsX5_folds_r1 (gm_c mi_wsX5_folds_wsX50 gm_n)) rfl (by decide +kernel)
set_option maxRecDepth 20000 in
theorem gX5_folds_X5_copies : GoodIn wsX5_folds (wsV RX5 121 RX5 yX5_copies wsX5_copies) := goodIn_app (goodIn_m _ [(wsX5_folds_r1, [false, false, false, false, false, false, false, false, false, false, true, true, true]), (wsX5_folds_r1, [false, false, false, false, false, true])] (gm_c mi_wsX5_folds_wsX5_folds_r1 (gm_c mi_wsX5_folds_wsX5_folds_r1 gm_n)) rfl (by decide +kernel)) ggX5_folds_X5_copies
theorem mi_wsX5_folds_wsX5_folds_r2 : ∀ w ∈ wsX5_folds_r2, w ∈ wsX5_folds := fun _ h => (List.mem_cons_of_mem _ (List.mem_append_left _ (List.mem_append_right _ h)))
set_option maxRecDepth 20000 in
theorem ggX5_folds_X5_together : GoodIn wsX5_folds wsX5_together := goodIn_m _ [(wsX5_folds_r1, [false, false, false, false, false, false, false, false, false, false, false, false, false, false, false, false, false, false, false, false, false, false, true, true]), (wsX5_folds_r1, [false, false, false, false, false, false, false, false, false, false, false, false, false, false, true, false, false, true, true]), (wsX5_folds_r2, [true]), (wsX5_folds_r1, [false, false, false, false, false, false, false, false, false, false, false, false, false, false, false, true]), (wsX5_folds_r2, [false, true]), (wsX5_folds_r1, [false, false, false, false, false, false, false, false, false, false, false, false, false, false, false, false, true]), (wsX5_folds_r2, [false, false, true, true, true]), (wsX5_folds_r1, [false, false, false, false, false, true]), (wsX5_folds_r2, [false, false, false, false, false, true, true, true, true, true, true, true, true, true]), (wsX50, [true, true, true, true, true, true, true, true, true, true, true, true, true, true, true, true, true, true, true, true, true, true, true, true, true, true, true, true, true, true])] (gm_c mi_wsX5_folds_wsX5_folds_r1 (gm_c mi_wsX5_folds_wsX5_folds_r1 (gm_c mi_wsX5_folds_wsX5_folds_r2 (gm_c mi_wsX5_folds_wsX5_folds_r1 (gm_c mi_wsX5_folds_wsX5_folds_r2 (gm_c mi_wsX5_folds_wsX5_folds_r1 (gm_c mi_wsX5_folds_wsX5_folds_r2 (gm_c mi_wsX5_folds_wsX5_folds_r1 (gm_c mi_wsX5_folds_wsX5_folds_r2 (gm_c mi_wsX5_folds_wsX50 gm_n)))))))))) rfl (by decide +kernel)
set_option maxRecDepth 20000 in
theorem gX5_folds_X5_together : GoodIn wsX5_folds (wsV RX5 111 RX5 yX5_together wsX5_together) := goodIn_app (goodIn_m _ [(wsX5_folds_r1, [false, false, false, false, false, false, false, false, false, false, false, false, false, false, false, false, false, false, false, true, true, true]), (wsX5_folds_r1, [false, false, false, false, false, true])] (gm_c mi_wsX5_folds_wsX5_folds_r1 (gm_c mi_wsX5_folds_wsX5_folds_r1 gm_n)) rfl (by decide +kernel)) ggX5_folds_X5_together
def dt_cX5_folds_0 : List (Nat × Nat × Nat × Nat) := [(0, 42, 0, 0), (1, 27, 0, 0), (2, 28, 0, 0), (3, 182, 2, 118), (6, 42, 0, 0), (7, 42, 0, 0), (8, 180, 2, 44), (11, 3, 0, 0), (12, 46, 0, 0), (13, 29, 0, 0), (14, 182, 2, 121), (17, 4, 0, 0), (18, 54, 1, 5), (20, 21, 1, 5), (22, 42, 0, 0), (23, 180, 2, 115), (26, 162, 2, 24), (29, 42, 0, 0), (30, 29, 0, 0), (31, 42, 0, 0)]
theorem da_cX5_folds_0 : fw dt_cX5_folds_0 0 cX5_folds.data.toList = true := by decide +kernel
theorem dX5_folds_0 : decode cX5_folds 0 = .ok (.aload_n 0, 1) := fo_42 (fw_get da_cX5_folds_0 0 rfl)
theorem dX5_folds_1 : decode cX5_folds 1 = .ok (.iload_n 1, 1) := fo_27 (fw_get da_cX5_folds_0 1 rfl)
theorem dX5_folds_2 : decode cX5_folds 2 = .ok (.iload_n 2, 1) := fo_28 (fw_get da_cX5_folds_0 2 rfl)
theorem dX5_folds_3 : decode cX5_folds 3 = .ok (.invokevirtual 118, 3) := fo_182 (fw_get da_cX5_folds_0 3 rfl)
theorem dX5_folds_6 : decode cX5_folds 6 = .ok (.aload_n 0, 1) := fo_42 (fw_get da_cX5_folds_0 4 rfl)
theorem dX5_folds_7 : decode cX5_folds 7 = .ok (.aload_n 0, 1) := fo_42 (fw_get da_cX5_folds_0 5 rfl)
theorem dX5_folds_8 : decode cX5_folds 8 = .ok (.getfield 44, 3) := fo_180 (fw_get da_cX5_folds_0 6 rfl)
theorem dX5_folds_11 : decode cX5_folds 11 = .ok (.iconst 0, 1) := fo_3 (fw_get da_cX5_folds_0 7 rfl)
theorem dX5_folds_12 : decode cX5_folds 12 = .ok (.iaload, 1) := fo_46 (fw_get da_cX5_folds_0 8 rfl)
theorem dX5_folds_13 : decode cX5_folds 13 = .ok (.iload_n 3, 1) := fo_29 (fw_get da_cX5_folds_0 9 rfl)
theorem dX5_folds_14 : decode cX5_folds 14 = .ok (.invokevirtual 121, 3) := fo_182 (fw_get da_cX5_folds_0 10 rfl)
theorem dX5_folds_17 : decode cX5_folds 17 = .ok (.iconst 1, 1) := fo_4 (fw_get da_cX5_folds_0 11 rfl)
theorem dX5_folds_18 : decode cX5_folds 18 = .ok (.istore 5, 2) := fo_54 (fw_get da_cX5_folds_0 12 rfl)
theorem dX5_folds_20 : decode cX5_folds 20 = .ok (.iload 5, 2) := fo_21 (fw_get da_cX5_folds_0 13 rfl)
theorem dX5_folds_22 : decode cX5_folds 22 = .ok (.aload_n 0, 1) := fo_42 (fw_get da_cX5_folds_0 14 rfl)
theorem dX5_folds_23 : decode cX5_folds 23 = .ok (.getfield 115, 3) := fo_180 (fw_get da_cX5_folds_0 15 rfl)
theorem dX5_folds_26 : decode cX5_folds 26 = .ok (.if_icmp .ge 24, 3) := fo_162 (fw_get da_cX5_folds_0 16 rfl) (by decide +kernel)
theorem dX5_folds_29 : decode cX5_folds 29 = .ok (.aload_n 0, 1) := fo_42 (fw_get da_cX5_folds_0 17 rfl)
theorem dX5_folds_30 : decode cX5_folds 30 = .ok (.iload_n 3, 1) := fo_29 (fw_get da_cX5_folds_0 18 rfl)
theorem dX5_folds_31 : decode cX5_folds 31 = .ok (.aload_n 0, 1) := fo_42 (fw_get da_cX5_folds_0 19 rfl)
def dt_cX5_folds_1 : List (Nat × Nat × Nat × Nat) := [(32, 180, 2, 44), (35, 21, 1, 5), (37, 46, 0, 0), (38, 29, 0, 0), (39, 21, 1, 4), (41, 182, 2, 111), (44, 132, 2, 1281), (47, 167, 2, 65509), (50, 177, 0, 0)]
theorem da_cX5_folds_1 : fw dt_cX5_folds_1 0 cX5_folds.data.toList = true := by decide +kernel
theorem dX5_folds_32 : decode cX5_folds 32 = .ok (.getfield 44, 3) := fo_180 (fw_get da_cX5_folds_1 0 rfl)
theorem dX5_folds_35 : decode cX5_folds 35 = .ok (.iload 5, 2) := fo_21 (fw_get da_cX5_folds_1 1 rfl)
theorem dX5_folds_37 : decode cX5_folds 37 = .ok (.iaload, 1) := fo_46 (fw_get da_cX5_folds_1 2 rfl)
theorem dX5_folds_38 : decode cX5_folds 38 = .ok (.iload_n 3, 1) := fo_29 (fw_get da_cX5_folds_1 3 rfl)
theorem dX5_folds_39 : decode cX5_folds 39 = .ok (.iload 4, 2) := fo_21 (fw_get da_cX5_folds_1 4 rfl)
theorem dX5_folds_41 : decode cX5_folds 41 = .ok (.invokevirtual 111, 3) := fo_182 (fw_get da_cX5_folds_1 5 rfl)
theorem dX5_folds_44 : decode cX5_folds 44 = .ok (.iinc 5 1, 3) := fo_132 (fw_get da_cX5_folds_1 6 rfl) rfl (by decide +kernel)
theorem dX5_folds_47 : decode cX5_folds 47 = .ok (.goto (-27), 3) := fo_167 (fw_get da_cX5_folds_1 7 rfl) (by decide +kernel)
theorem dX5_folds_50 : decode cX5_folds 50 = .ok (.return_, 1) := fo_177 (fw_get da_cX5_folds_1 8 rfl)


set_option maxHeartbeats 4000000 in
set_option maxRecDepth 100000 in
theorem c_X5_copies_x (l : Launch) (dC : Nat → ClassId) (dI : Nat → Nat → Nat) (h0 : Nat) (g_row : Nat) (g_many : Nat) (g_loss : Nat) (g_less : Nat) (g_voteValue : Nat) (g_voteNumber : Nat) (g_allValue : Nat) (g_allNumber : Nat) (g_nodeL : Nat) (g_nodeR : Nat) (g_part : Nat) (g_wasMany : Nat) (g_wasLoss : Nat) (g_wasValue : Nat) (g_wasNumber : Nat) (g_path : Nat) (g_heavyValue : Nat) (g_heavyTimes : Nat) (g_fewest : Nat) (g_which : Nat) (g_met : Nat) (m_n : Int32) (m_slots : Int32) (m_thrown : Int32) (m_allMany : Int32) (m_nodes : Int32) (m_partMany : Int32) (m_pathMany : Int32) (m_heavyMany : Int32) (m_mostMet : Int32) (cyI : ClassId) (fm : Nat → Int32) (fl : Nat → Int32) (fe : Nat → Int32) (vv : Nat → Int32) (vn : Nat → Int32) (p0 : Int32) (p1 : Int32) (sz : Nat) (b0 : 0 ≤ p0.toInt) (b1 : p0.toInt < 324) (b2 : 0 ≤ p1.toInt) (b3 : p1.toInt < 324) : kx_MQ l (dC, dI) yX5_copies wsX5_copies ({ frames := 0, cells := 0, slots := 0, locals := 0 }) [.ref h0, .int p0, .int p1] [kx_5 h0 g_row m_n m_slots m_thrown g_many g_loss g_less g_voteValue g_voteNumber g_allValue g_allNumber m_allMany g_nodeL g_nodeR m_nodes g_part m_partMany g_wasMany g_wasLoss g_wasValue g_wasNumber g_path m_pathMany g_heavyValue g_heavyTimes m_heavyMany g_fewest g_which g_met m_mostMet, kx_a g_many cyI 324 fm, kx_a g_loss cyI 324 fl, kx_a g_less cyI 324 fe, kx_a g_voteValue cyI 1944 vv, kx_a g_voteNumber cyI 1944 vn] [(cyI, .int)] sz (fun A => va_Qv (fun u : (Nat → Int32) × (Nat → Int32) × (Nat → Int32) × (Nat → Int32) × (Nat → Int32) => u.1 = upd fm p1.toNatClampNeg (fm p0.toNatClampNeg) ∧ u.2.1 = upd fl p1.toNatClampNeg (fl p0.toNatClampNeg) ∧ u.2.2.1 = upd fe p1.toNatClampNeg (fe p0.toNatClampNeg) ∧ mj_cp vv vn u.2.2.2.1 u.2.2.2.2 p0.toNatClampNeg p1.toNatClampNeg 6) (fun (u : (Nat → Int32) × (Nat → Int32) × (Nat → Int32) × (Nat → Int32) × (Nat → Int32)) (t : State) => va_P (dC, dI) vwCl [kx_5 h0 g_row m_n m_slots m_thrown g_many g_loss g_less g_voteValue g_voteNumber g_allValue g_allNumber m_allMany g_nodeL g_nodeR m_nodes g_part m_partMany g_wasMany g_wasLoss g_wasValue g_wasNumber g_path m_pathMany g_heavyValue g_heavyTimes m_heavyMany g_fewest g_which g_met m_mostMet, kx_a g_many cyI 324 u.1, kx_a g_loss cyI 324 u.2.1, kx_a g_less cyI 324 u.2.2.1, kx_a g_voteValue cyI 1944 u.2.2.2.1, kx_a g_voteNumber cyI 1944 u.2.2.2.2] t.heap ∧ va_K (dC, dI) vwCl [(cyI, .int)] t ∧ va_D A [kx_5 h0 g_row m_n m_slots m_thrown g_many g_loss g_less g_voteValue g_voteNumber g_allValue g_allNumber m_allMany g_nodeL g_nodeR m_nodes g_part m_partMany g_wasMany g_wasLoss g_wasValue g_wasNumber g_path m_pathMany g_heavyValue g_heavyTimes m_heavyMany g_fewest g_which g_met m_mostMet, kx_a g_many cyI 324 u.1, kx_a g_loss cyI 324 u.2.1, kx_a g_less cyI 324 u.2.2.1, kx_a g_voteValue cyI 1944 u.2.2.2.1, kx_a g_voteNumber cyI 1944 u.2.2.2.2]) A) := by
  refine kx_stQ (ws := wsX5_copies) (cc := cX5_copies) (maxL := 4) (ret := none) (by decide) rfl (Nat.le_of_ble_eq_true rfl) ?_
  intro p e s m below meth c A ls hx hb hr hlocks hts hown hml hA hS hP hK hD hl
  have hown : s.vm.findClass RX5 = some m.cls := hown
  have hl : lv_has ls 4 [(0, .ref h0), (1, .int p0), (2, .int p1)] := hl
  have hf_17 := hts (.fieldLink RX5 17 "MajorityIndexModel" "many" "[I") (List.mem_of_getElem? (i := 1) rfl)
  have hi_5 : ∀ w ∈ u_ws RX5 TX5 30, w ∈ wsX5_copies := fun w h => List.mem_cons_of_mem _ (List.mem_append_right _ h)
  have hf_20 := hts (.fieldLink RX5 20 "MajorityIndexModel" "loss" "[I") (List.mem_of_getElem? (i := 2) rfl)
  have hf_23 := hts (.fieldLink RX5 23 "MajorityIndexModel" "less" "[I") (List.mem_of_getElem? (i := 3) rfl)
  have hf_26 := hts (.fieldLink RX5 26 "MajorityIndexModel" "voteValue" "[I") (List.mem_of_getElem? (i := 4) rfl)
  have hf_29 := hts (.fieldLink RX5 29 "MajorityIndexModel" "voteNumber" "[I") (List.mem_of_getElem? (i := 5) rfl)
  have n_p0 := ki_nat p0 rfl (om_10 b0)
  have n_p1 := ki_nat p1 rfl (om_10 b2)
  refine lv_aload_n hx hb dX5_copies_0 rfl (lv_at hl 0 rfl) ?_
  refine va_get (D := (dC, dI)) (ci := 5) (v := .ref g_many) (C := RX5) (T := TX5) (N := 30) hx hb hts hi_5 hown hK hP 0 rfl rfl 4 (by decide) hf_17 (fun _ h9 => h9) rfl dX5_copies_1 ?_
  refine lv_iload_n hx hb dX5_copies_4 rfl (lv_at hl 2 rfl) ?_
  refine lv_aload_n hx hb dX5_copies_5 rfl (lv_at hl 0 rfl) ?_
  refine va_get (D := (dC, dI)) (ci := 5) (v := .ref g_many) (C := RX5) (T := TX5) (N := 30) hx hb hts hi_5 hown hK hP 0 rfl rfl 4 (by decide) hf_17 (fun _ h9 => h9) rfl dX5_copies_6 ?_
  refine lv_iload_n hx hb dX5_copies_9 rfl (lv_at hl 1 rfl) ?_
  refine va_iald hx hb hK hP 1 0 rfl rfl (ki_in (om_10 b0) (om_246 b1)) dX5_copies_10 ?_
  refine lv_topi (fun y_1 ey_1 => ?_)
  have j_1 : y_1.toInt = (fm p0.toNatClampNeg).toInt := congrArg Int32.toInt ey_1
  refine va_iast hx hb hK hP hD hS 1 0 rfl rfl (ki_in (om_10 b2) (om_246 b3)) dX5_copies_11 (fun H locs hP hD hS => ?_)
  obtain ⟨hP, hD⟩ := kx_re (w2 := [kx_5 h0 g_row m_n m_slots m_thrown g_many g_loss g_less g_voteValue g_voteNumber g_allValue g_allNumber m_allMany g_nodeL g_nodeR m_nodes g_part m_partMany g_wasMany g_wasLoss g_wasValue g_wasNumber g_path m_pathMany g_heavyValue g_heavyTimes m_heavyMany g_fewest g_which g_met m_mostMet, kx_a g_many cyI 324 (upd fm p1.toNatClampNeg y_1), kx_a g_loss cyI 324 fl, kx_a g_less cyI 324 fe, kx_a g_voteValue cyI 1944 vv, kx_a g_voteNumber cyI 1944 vn]) hP hD rfl
  refine lv_aload_n hx hb dX5_copies_12 rfl (lv_at hl 0 rfl) ?_
  refine va_get (D := (dC, dI)) (ci := 5) (v := .ref g_loss) (C := RX5) (T := TX5) (N := 30) hx hb hts hi_5 hown hK hP 0 rfl rfl 5 (by decide) hf_20 (fun _ h9 => h9) rfl dX5_copies_13 ?_
  refine lv_iload_n hx hb dX5_copies_16 rfl (lv_at hl 2 rfl) ?_
  refine lv_aload_n hx hb dX5_copies_17 rfl (lv_at hl 0 rfl) ?_
  refine va_get (D := (dC, dI)) (ci := 5) (v := .ref g_loss) (C := RX5) (T := TX5) (N := 30) hx hb hts hi_5 hown hK hP 0 rfl rfl 5 (by decide) hf_20 (fun _ h9 => h9) rfl dX5_copies_18 ?_
  refine lv_iload_n hx hb dX5_copies_21 rfl (lv_at hl 1 rfl) ?_
  refine va_iald hx hb hK hP 2 0 rfl rfl (ki_in (om_10 b0) (om_246 b1)) dX5_copies_22 ?_
  refine lv_topi (fun y_2 ey_2 => ?_)
  have j_2 : y_2.toInt = (fl p0.toNatClampNeg).toInt := congrArg Int32.toInt ey_2
  refine va_iast hx hb hK hP hD hS 2 0 rfl rfl (ki_in (om_10 b2) (om_246 b3)) dX5_copies_23 (fun H locs hP hD hS => ?_)
  obtain ⟨hP, hD⟩ := kx_re (w2 := [kx_5 h0 g_row m_n m_slots m_thrown g_many g_loss g_less g_voteValue g_voteNumber g_allValue g_allNumber m_allMany g_nodeL g_nodeR m_nodes g_part m_partMany g_wasMany g_wasLoss g_wasValue g_wasNumber g_path m_pathMany g_heavyValue g_heavyTimes m_heavyMany g_fewest g_which g_met m_mostMet, kx_a g_many cyI 324 (upd fm p1.toNatClampNeg y_1), kx_a g_loss cyI 324 (upd fl p1.toNatClampNeg y_2), kx_a g_less cyI 324 fe, kx_a g_voteValue cyI 1944 vv, kx_a g_voteNumber cyI 1944 vn]) hP hD rfl
  refine lv_aload_n hx hb dX5_copies_24 rfl (lv_at hl 0 rfl) ?_
  refine va_get (D := (dC, dI)) (ci := 5) (v := .ref g_less) (C := RX5) (T := TX5) (N := 30) hx hb hts hi_5 hown hK hP 0 rfl rfl 6 (by decide) hf_23 (fun _ h9 => h9) rfl dX5_copies_25 ?_
  refine lv_iload_n hx hb dX5_copies_28 rfl (lv_at hl 2 rfl) ?_
  refine lv_aload_n hx hb dX5_copies_29 rfl (lv_at hl 0 rfl) ?_
  refine va_get (D := (dC, dI)) (ci := 5) (v := .ref g_less) (C := RX5) (T := TX5) (N := 30) hx hb hts hi_5 hown hK hP 0 rfl rfl 6 (by decide) hf_23 (fun _ h9 => h9) rfl dX5_copies_30 ?_
  refine lv_iload_n hx hb dX5_copies_33 rfl (lv_at hl 1 rfl) ?_
  refine va_iald hx hb hK hP 3 0 rfl rfl (ki_in (om_10 b0) (om_246 b1)) dX5_copies_34 ?_
  refine lv_topi (fun y_3 ey_3 => ?_)
  have j_3 : y_3.toInt = (fe p0.toNatClampNeg).toInt := congrArg Int32.toInt ey_3
  refine va_iast hx hb hK hP hD hS 3 0 rfl rfl (ki_in (om_10 b2) (om_246 b3)) dX5_copies_35 (fun H locs hP hD hS => ?_)
  obtain ⟨hP, hD⟩ := kx_re (w2 := [kx_5 h0 g_row m_n m_slots m_thrown g_many g_loss g_less g_voteValue g_voteNumber g_allValue g_allNumber m_allMany g_nodeL g_nodeR m_nodes g_part m_partMany g_wasMany g_wasLoss g_wasValue g_wasNumber g_path m_pathMany g_heavyValue g_heavyTimes m_heavyMany g_fewest g_which g_met m_mostMet, kx_a g_many cyI 324 (upd fm p1.toNatClampNeg y_1), kx_a g_loss cyI 324 (upd fl p1.toNatClampNeg y_2), kx_a g_less cyI 324 (upd fe p1.toNatClampNeg y_3), kx_a g_voteValue cyI 1944 vv, kx_a g_voteNumber cyI 1944 vn]) hP hD rfl
  refine lv_iconst (v := 0) hx hb dX5_copies_36 (by decide) ?_
  refine lv_istore_n (lv' := [(3, .int 0), (0, .ref h0), (1, .int p0), (2, .int p1)]) hx hb dX5_copies_37 rfl hl (by decide) rfl (fun ls hl => ?_)
  have LP1 : ∀ (n : Nat) (i : Int32) (wv : Nat → Int32) (wn : Nat → Int32), (0 ≤ i.toInt) → (i.toInt ≤ 6) → (mj_cp vv vn wv wn p0.toNatClampNeg p1.toNatClampNeg i.toNatClampNeg) → (6 - i.toInt).toNat < n → ∀ (H : Heap) (locs : List Loc), va_P (dC, dI) vwCl [kx_5 h0 g_row m_n m_slots m_thrown g_many g_loss g_less g_voteValue g_voteNumber g_allValue g_allNumber m_allMany g_nodeL g_nodeR m_nodes g_part m_partMany g_wasMany g_wasLoss g_wasValue g_wasNumber g_path m_pathMany g_heavyValue g_heavyTimes m_heavyMany g_fewest g_which g_met m_mostMet, kx_a g_many cyI 324 (upd fm p1.toNatClampNeg y_1), kx_a g_loss cyI 324 (upd fl p1.toNatClampNeg y_2), kx_a g_less cyI 324 (upd fe p1.toNatClampNeg y_3), kx_a g_voteValue cyI 1944 wv, kx_a g_voteNumber cyI 1944 wn] H → va_D A [kx_5 h0 g_row m_n m_slots m_thrown g_many g_loss g_less g_voteValue g_voteNumber g_allValue g_allNumber m_allMany g_nodeL g_nodeR m_nodes g_part m_partMany g_wasMany g_wasLoss g_wasValue g_wasNumber g_path m_pathMany g_heavyValue g_heavyTimes m_heavyMany g_fewest g_which g_met m_mostMet, kx_a g_many cyI 324 (upd fm p1.toNatClampNeg y_1), kx_a g_loss cyI 324 (upd fl p1.toNatClampNeg y_2), kx_a g_less cyI 324 (upd fe p1.toNatClampNeg y_3), kx_a g_voteValue cyI 1944 wv, kx_a g_voteNumber cyI 1944 wn] → va_S A s.heap H locs → ∀ (ls : Array Slot), lv_has ls 4 [(3, .int i), (0, .ref h0), (1, .int p0), (2, .int p1)] → W p l e (headSpec wsX5_copies ({ frames := 0, cells := 0, slots := 0, locals := 0 })).room s m ([.ref h0, .int p0, .int p1] : List Value).toArray below meth c H locs 0 0 (MQ below (va_Qv (fun u : (Nat → Int32) × (Nat → Int32) × (Nat → Int32) × (Nat → Int32) × (Nat → Int32) => u.1 = upd fm p1.toNatClampNeg (fm p0.toNatClampNeg) ∧ u.2.1 = upd fl p1.toNatClampNeg (fl p0.toNatClampNeg) ∧ u.2.2.1 = upd fe p1.toNatClampNeg (fe p0.toNatClampNeg) ∧ mj_cp vv vn u.2.2.2.1 u.2.2.2.2 p0.toNatClampNeg p1.toNatClampNeg 6) (fun (u : (Nat → Int32) × (Nat → Int32) × (Nat → Int32) × (Nat → Int32) × (Nat → Int32)) (t : State) => va_P (dC, dI) vwCl [kx_5 h0 g_row m_n m_slots m_thrown g_many g_loss g_less g_voteValue g_voteNumber g_allValue g_allNumber m_allMany g_nodeL g_nodeR m_nodes g_part m_partMany g_wasMany g_wasLoss g_wasValue g_wasNumber g_path m_pathMany g_heavyValue g_heavyTimes m_heavyMany g_fewest g_which g_met m_mostMet, kx_a g_many cyI 324 u.1, kx_a g_loss cyI 324 u.2.1, kx_a g_less cyI 324 u.2.2.1, kx_a g_voteValue cyI 1944 u.2.2.2.1, kx_a g_voteNumber cyI 1944 u.2.2.2.2] t.heap ∧ va_K (dC, dI) vwCl [(cyI, .int)] t ∧ va_D A [kx_5 h0 g_row m_n m_slots m_thrown g_many g_loss g_less g_voteValue g_voteNumber g_allValue g_allNumber m_allMany g_nodeL g_nodeR m_nodes g_part m_partMany g_wasMany g_wasLoss g_wasValue g_wasNumber g_path m_pathMany g_heavyValue g_heavyTimes m_heavyMany g_fewest g_which g_met m_mostMet, kx_a g_many cyI 324 u.1, kx_a g_loss cyI 324 u.2.1, kx_a g_less cyI 324 u.2.2.1, kx_a g_voteValue cyI 1944 u.2.2.2.1, kx_a g_voteNumber cyI 1944 u.2.2.2.2]) A) ([.ref h0, .int p0, .int p1] : List Value).toArray s 0 0 A) (F0 m 38 ls []) := by
    intro n
    induction n with
    | zero => intro i wv wn LP1_h0 LP1_h1 LP1_h2 hn; exact absurd hn (Nat.not_lt_zero _)
    | succ n ih1 =>
      intro i wv wn LP1_h0 LP1_h1 LP1_h2 hn1 H locs hP hD hS ls hl
      have n_i := ki_nat i rfl (om_10 LP1_h0)
      refine lv_iload_n hx hb dX5_copies_38 rfl (lv_at hl 0 rfl) ?_
      refine lv_bipush (v := 6) hx hb dX5_copies_39 (by decide) ?_
      refine lv_icmp_ge (tgt := 94) hx hb dX5_copies_41 (by decide) (fun c_4 => ?_) (fun c_4 => ?_)
      · have i_4 : 6 ≤ i.toInt := kc_le c_4
        have hP9 := hP
        have hD9 := hD
        have hK9 := hK
        exact W.vret hx hb hr (hlocks := hlocks) (fun t ht hW => ⟨⟨((upd fm p1.toNatClampNeg y_1), (upd fl p1.toNatClampNeg y_2), (upd fe p1.toNatClampNeg y_3), wv, wn), rfl, ⟨(by (try dsimp only); rw [ey_1]), (by (try dsimp only); rw [ey_2]), (by (try dsimp only); rw [ey_3]), (by (try dsimp only); rw [show (6 : Nat) = i.toNatClampNeg by omega]; exact LP1_h2)⟩, by rw [ht]; exact hP9, va_K.moved hW.alike hK9, hD9⟩, hS.F ht⟩) hS.2.2 dX5_copies_94
      · have i_4 : i.toInt < 6 := kc_nle c_4
        refine lv_aload_n hx hb dX5_copies_44 rfl (lv_at hl 1 rfl) ?_
        refine va_get (D := (dC, dI)) (ci := 5) (v := .ref g_voteValue) (C := RX5) (T := TX5) (N := 30) hx hb hts hi_5 hown hK hP 0 rfl rfl 7 (by decide) hf_26 (fun _ h9 => h9) rfl dX5_copies_45 ?_
        refine lv_bipush (v := 6) hx hb dX5_copies_48 (by decide) ?_
        refine lv_iload_n hx hb dX5_copies_50 rfl (lv_at hl 3 rfl) ?_
        refine lv_imul hx hb dX5_copies_51 ?_
        refine lv_topi (fun y_5 ey_5 => ?_)
        have i_5 : y_5.toInt = 6 * p1.toInt := ki_mul ey_5 rfl rfl (om_247 b2) (om_248 b3)
        refine lv_iload_n hx hb dX5_copies_52 rfl (lv_at hl 0 rfl) ?_
        refine lv_iadd hx hb dX5_copies_53 ?_
        refine lv_topi (fun y_6 ey_6 => ?_)
        have i_6 : y_6.toInt = y_5.toInt + i.toInt := ki_add ey_6 rfl rfl (om_251 b2 LP1_h0 i_5) (om_366 b3 LP1_h1 i_5)
        refine lv_aload_n hx hb dX5_copies_54 rfl (lv_at hl 1 rfl) ?_
        refine va_get (D := (dC, dI)) (ci := 5) (v := .ref g_voteValue) (C := RX5) (T := TX5) (N := 30) hx hb hts hi_5 hown hK hP 0 rfl rfl 7 (by decide) hf_26 (fun _ h9 => h9) rfl dX5_copies_55 ?_
        refine lv_bipush (v := 6) hx hb dX5_copies_58 (by decide) ?_
        refine lv_iload_n hx hb dX5_copies_60 rfl (lv_at hl 2 rfl) ?_
        refine lv_imul hx hb dX5_copies_61 ?_
        refine lv_topi (fun y_7 ey_7 => ?_)
        have i_7 : y_7.toInt = 6 * p0.toInt := ki_mul ey_7 rfl rfl (om_247 b0) (om_248 b1)
        refine lv_iload_n hx hb dX5_copies_62 rfl (lv_at hl 0 rfl) ?_
        refine lv_iadd hx hb dX5_copies_63 ?_
        refine lv_topi (fun y_8 ey_8 => ?_)
        have i_8 : y_8.toInt = y_7.toInt + i.toInt := ki_add ey_8 rfl rfl (om_251 b0 LP1_h0 i_7) (om_366 b1 LP1_h1 i_7)
        refine va_iald hx hb hK hP 4 0 rfl rfl (ki_in (om_253 b0 LP1_h0 i_7 i_8) (om_258 b1 i_4 i_7 i_8)) dX5_copies_64 ?_
        refine lv_topi (fun y_9 ey_9 => ?_)
        have j_9 : y_9.toInt = (wv y_8.toNatClampNeg).toInt := congrArg Int32.toInt ey_9
        refine va_iast hx hb hK hP hD hS 4 0 rfl rfl (ki_in (om_253 b2 LP1_h0 i_5 i_6) (om_258 b3 i_4 i_5 i_6)) dX5_copies_65 (fun H locs hP hD hS => ?_)
        obtain ⟨hP, hD⟩ := kx_re (w2 := [kx_5 h0 g_row m_n m_slots m_thrown g_many g_loss g_less g_voteValue g_voteNumber g_allValue g_allNumber m_allMany g_nodeL g_nodeR m_nodes g_part m_partMany g_wasMany g_wasLoss g_wasValue g_wasNumber g_path m_pathMany g_heavyValue g_heavyTimes m_heavyMany g_fewest g_which g_met m_mostMet, kx_a g_many cyI 324 (upd fm p1.toNatClampNeg y_1), kx_a g_loss cyI 324 (upd fl p1.toNatClampNeg y_2), kx_a g_less cyI 324 (upd fe p1.toNatClampNeg y_3), kx_a g_voteValue cyI 1944 (upd wv y_6.toNatClampNeg y_9), kx_a g_voteNumber cyI 1944 wn]) hP hD rfl
        refine lv_aload_n hx hb dX5_copies_66 rfl (lv_at hl 1 rfl) ?_
        refine va_get (D := (dC, dI)) (ci := 5) (v := .ref g_voteNumber) (C := RX5) (T := TX5) (N := 30) hx hb hts hi_5 hown hK hP 0 rfl rfl 8 (by decide) hf_29 (fun _ h9 => h9) rfl dX5_copies_67 ?_
        refine lv_bipush (v := 6) hx hb dX5_copies_70 (by decide) ?_
        refine lv_iload_n hx hb dX5_copies_72 rfl (lv_at hl 3 rfl) ?_
        refine lv_imul hx hb dX5_copies_73 ?_
        refine lv_topi (fun y_10 ey_10 => ?_)
        have i_10 : y_10.toInt = 6 * p1.toInt := ki_mul ey_10 rfl rfl (om_247 b2) (om_248 b3)
        refine lv_iload_n hx hb dX5_copies_74 rfl (lv_at hl 0 rfl) ?_
        refine lv_iadd hx hb dX5_copies_75 ?_
        refine lv_topi (fun y_11 ey_11 => ?_)
        have i_11 : y_11.toInt = y_10.toInt + i.toInt := ki_add ey_11 rfl rfl (om_251 b2 LP1_h0 i_10) (om_366 b3 LP1_h1 i_10)
        refine lv_aload_n hx hb dX5_copies_76 rfl (lv_at hl 1 rfl) ?_
        refine va_get (D := (dC, dI)) (ci := 5) (v := .ref g_voteNumber) (C := RX5) (T := TX5) (N := 30) hx hb hts hi_5 hown hK hP 0 rfl rfl 8 (by decide) hf_29 (fun _ h9 => h9) rfl dX5_copies_77 ?_
        refine lv_bipush (v := 6) hx hb dX5_copies_80 (by decide) ?_
        refine lv_iload_n hx hb dX5_copies_82 rfl (lv_at hl 2 rfl) ?_
        refine lv_imul hx hb dX5_copies_83 ?_
        refine lv_topi (fun y_12 ey_12 => ?_)
        have i_12 : y_12.toInt = 6 * p0.toInt := ki_mul ey_12 rfl rfl (om_247 b0) (om_248 b1)
        refine lv_iload_n hx hb dX5_copies_84 rfl (lv_at hl 0 rfl) ?_
        refine lv_iadd hx hb dX5_copies_85 ?_
        refine lv_topi (fun y_13 ey_13 => ?_)
        have i_13 : y_13.toInt = y_12.toInt + i.toInt := ki_add ey_13 rfl rfl (om_251 b0 LP1_h0 i_12) (om_366 b1 LP1_h1 i_12)
        refine va_iald hx hb hK hP 5 0 rfl rfl (ki_in (om_253 b0 LP1_h0 i_12 i_13) (om_258 b1 i_4 i_12 i_13)) dX5_copies_86 ?_
        refine lv_topi (fun y_14 ey_14 => ?_)
        have j_14 : y_14.toInt = (wn y_13.toNatClampNeg).toInt := congrArg Int32.toInt ey_14
        refine va_iast hx hb hK hP hD hS 5 0 rfl rfl (ki_in (om_253 b2 LP1_h0 i_10 i_11) (om_258 b3 i_4 i_10 i_11)) dX5_copies_87 (fun H locs hP hD hS => ?_)
        obtain ⟨hP, hD⟩ := kx_re (w2 := [kx_5 h0 g_row m_n m_slots m_thrown g_many g_loss g_less g_voteValue g_voteNumber g_allValue g_allNumber m_allMany g_nodeL g_nodeR m_nodes g_part m_partMany g_wasMany g_wasLoss g_wasValue g_wasNumber g_path m_pathMany g_heavyValue g_heavyTimes m_heavyMany g_fewest g_which g_met m_mostMet, kx_a g_many cyI 324 (upd fm p1.toNatClampNeg y_1), kx_a g_loss cyI 324 (upd fl p1.toNatClampNeg y_2), kx_a g_less cyI 324 (upd fe p1.toNatClampNeg y_3), kx_a g_voteValue cyI 1944 (upd wv y_6.toNatClampNeg y_9), kx_a g_voteNumber cyI 1944 (upd wn y_11.toNatClampNeg y_14)]) hP hD rfl
        obtain ⟨x_15, ex_15⟩ : ∃ y : Int32, y = i + 1 := ⟨_, rfl⟩
        have i_15 : x_15.toInt = i.toInt + 1 := ki_add ex_15 rfl rfl (om_13 LP1_h0) (om_203 LP1_h1)
        refine lv_iinc (v := x_15) (lv' := [(3, .int x_15), (0, .ref h0), (1, .int p0), (2, .int p1)]) hx hb dX5_copies_88 hl (k := 0) rfl (by rw [ex_15]; rfl) (by decide) rfl (fun ls hl => ?_)
        refine lv_goto (tgt := 38) hx hb dX5_copies_91 (by decide) ?_
        have n_16 := ki_nat y_6 rfl (om_253 b2 LP1_h0 i_5 i_6)
        have n_17 := ki_nat y_8 rfl (om_253 b0 LP1_h0 i_7 i_8)
        have n_18 := ki_nat y_11 rfl (om_253 b2 LP1_h0 i_10 i_11)
        have n_19 := ki_nat y_13 rfl (om_253 b0 LP1_h0 i_12 i_13)
        have n_20 := ki_nat x_15 rfl (om_34 LP1_h0 i_15)
        exact ih1 x_15 (upd wv y_6.toNatClampNeg y_9) (upd wn y_11.toNatClampNeg y_14) (om_34 LP1_h0 i_15) (om_367 i_4 i_15) (mj_cp_step LP1_h2 (by omega) (by omega) (by omega) (by omega) (by omega) ey_9 ey_14 (by omega)) (om_mu hn1 (om_102 i_15) (om_109 i_4)) _ _ hP hD hS ls (lv_sub hl [0, 1, 2, 3] rfl)
  have k_21 : (0 : Int32).toInt = 0 := rfl
  exact LP1 ((6 - 0 : Int).toNat + 1) 0 vv vn om_35 om_368 (mj_cp_0 _ _ _ _ rfl) (Nat.lt_succ_self _) _ _ hP hD hS ls (lv_sub hl [0, 1, 2, 3] rfl)

set_option maxHeartbeats 4000000 in
set_option maxRecDepth 100000 in
theorem c_X5_laysParts (l : Launch) (dC : Nat → ClassId) (dI : Nat → Nat → Nat) (h0 : Nat) (g_row : Nat) (g_many : Nat) (g_loss : Nat) (g_less : Nat) (g_voteValue : Nat) (g_voteNumber : Nat) (g_allValue : Nat) (g_allNumber : Nat) (g_nodeL : Nat) (g_nodeR : Nat) (g_part : Nat) (g_wasMany : Nat) (g_wasLoss : Nat) (g_wasValue : Nat) (g_wasNumber : Nat) (g_path : Nat) (g_heavyValue : Nat) (g_heavyTimes : Nat) (g_fewest : Nat) (g_which : Nat) (g_met : Nat) (m_n : Int32) (m_slots : Int32) (m_thrown : Int32) (m_allMany : Int32) (m_nodes : Int32) (m_partMany : Int32) (m_pathMany : Int32) (m_heavyMany : Int32) (m_mostMet : Int32) (cyI : ClassId) (nl : Nat → Int32) (nr : Nat → Int32) (gp : Nat → Int32) (p0 : Int32) (p1 : Int32) (sz : Nat) (b0 : 0 ≤ m_nodes.toInt) (b1 : m_nodes.toInt ≤ 319) (q0 : parts320 gp) : kx_MQ l (dC, dI) yX5_laysParts wsX5_laysParts ({ frames := 0, cells := 0, slots := 0, locals := 0 }) [.ref h0, .int p0, .int p1] [kx_5 h0 g_row m_n m_slots m_thrown g_many g_loss g_less g_voteValue g_voteNumber g_allValue g_allNumber m_allMany g_nodeL g_nodeR m_nodes g_part m_partMany g_wasMany g_wasLoss g_wasValue g_wasNumber g_path m_pathMany g_heavyValue g_heavyTimes m_heavyMany g_fewest g_which g_met m_mostMet, kx_a g_nodeL cyI 320 nl, kx_a g_nodeR cyI 320 nr, kx_a g_part cyI 320 gp] [(cyI, .int)] sz (fun A => va_Qv (fun u : Int32 × (Nat → Int32) => u.1.toInt = (mj_pq nl nr p0.toInt p1.toInt m_nodes.toNatClampNeg : Int) ∧ mj_pa nl nr p0.toInt p1.toInt u.2 m_nodes.toNatClampNeg ∧ parts320 u.2 ∧ 0 ≤ u.1.toInt ∧ u.1.toInt ≤ m_nodes.toInt) (fun (u : Int32 × (Nat → Int32)) (t : State) => va_P (dC, dI) vwCl [kx_5 h0 g_row m_n m_slots m_thrown g_many g_loss g_less g_voteValue g_voteNumber g_allValue g_allNumber m_allMany g_nodeL g_nodeR m_nodes g_part u.1 g_wasMany g_wasLoss g_wasValue g_wasNumber g_path m_pathMany g_heavyValue g_heavyTimes m_heavyMany g_fewest g_which g_met m_mostMet, kx_a g_nodeL cyI 320 nl, kx_a g_nodeR cyI 320 nr, kx_a g_part cyI 320 u.2] t.heap ∧ va_K (dC, dI) vwCl [(cyI, .int)] t ∧ va_D A [kx_5 h0 g_row m_n m_slots m_thrown g_many g_loss g_less g_voteValue g_voteNumber g_allValue g_allNumber m_allMany g_nodeL g_nodeR m_nodes g_part u.1 g_wasMany g_wasLoss g_wasValue g_wasNumber g_path m_pathMany g_heavyValue g_heavyTimes m_heavyMany g_fewest g_which g_met m_mostMet, kx_a g_nodeL cyI 320 nl, kx_a g_nodeR cyI 320 nr, kx_a g_part cyI 320 u.2]) A) := by
  refine kx_stQ (ws := wsX5_laysParts) (cc := cX5_laysParts) (maxL := 5) (ret := none) (by decide) rfl (Nat.le_of_ble_eq_true rfl) ?_
  intro p e s m below meth c A ls hx hb hr hlocks hts hown hml hA hS hP hK hD hl
  have hown : s.vm.findClass RX5 = some m.cls := hown
  have hl : lv_has ls 5 [(0, .ref h0), (1, .int p0), (2, .int p1)] := hl
  have hf_115 := hts (.fieldLink RX5 115 "MajorityIndexModel" "partMany" "I") (List.mem_of_getElem? (i := 1) rfl)
  have hi_5 : ∀ w ∈ u_ws RX5 TX5 30, w ∈ wsX5_laysParts := fun w h => List.mem_cons_of_mem _ (List.mem_append_right _ h)
  have hf_101 := hts (.fieldLink RX5 101 "MajorityIndexModel" "nodes" "I") (List.mem_of_getElem? (i := 2) rfl)
  have hf_38 := hts (.fieldLink RX5 38 "MajorityIndexModel" "nodeL" "[I") (List.mem_of_getElem? (i := 3) rfl)
  have hf_41 := hts (.fieldLink RX5 41 "MajorityIndexModel" "nodeR" "[I") (List.mem_of_getElem? (i := 4) rfl)
  have hf_44 := hts (.fieldLink RX5 44 "MajorityIndexModel" "part" "[I") (List.mem_of_getElem? (i := 5) rfl)
  refine lv_aload_n hx hb dX5_laysParts_0 rfl (lv_at hl 0 rfl) ?_
  refine lv_iconst (v := 0) hx hb dX5_laysParts_1 (by decide) ?_
  refine va_put (D := (dC, dI)) (ci := 5) (v := .int 0) (ty := .int) (C := RX5) (T := TX5) (N := 30) hx hb hts hi_5 tyX5 tyX5_ok nmX5 hown hK hP hD hS 0 rfl rfl 16 (by decide) hf_115 (fun _ h9 => h9) rfl (by decide +kernel) rfl rfl (Nat.le_of_ble_eq_true rfl) dX5_laysParts_2 (fun H locs hP hD hS => ?_)
  obtain ⟨hP, hD⟩ := kx_re (w2 := [kx_5 h0 g_row m_n m_slots m_thrown g_many g_loss g_less g_voteValue g_voteNumber g_allValue g_allNumber m_allMany g_nodeL g_nodeR m_nodes g_part 0 g_wasMany g_wasLoss g_wasValue g_wasNumber g_path m_pathMany g_heavyValue g_heavyTimes m_heavyMany g_fewest g_which g_met m_mostMet, kx_a g_nodeL cyI 320 nl, kx_a g_nodeR cyI 320 nr, kx_a g_part cyI 320 gp]) hP hD rfl
  refine lv_iload_n hx hb dX5_laysParts_5 rfl (lv_at hl 1 rfl) ?_
  refine lv_istore_n (lv' := [(3, .int p0), (0, .ref h0), (1, .int p0), (2, .int p1)]) hx hb dX5_laysParts_6 rfl hl (by decide) rfl (fun ls hl => ?_)
  refine lv_iconst (v := 0) hx hb dX5_laysParts_7 (by decide) ?_
  refine lv_istore (lv' := [(4, .int 0), (3, .int p0), (0, .ref h0), (1, .int p0), (2, .int p1)]) hx hb dX5_laysParts_8 hl (by decide) rfl (fun ls hl => ?_)
  have LP1 : ∀ (n : Nat) (i : Int32) (bh : Int32) (pq : Int32) (gq : Nat → Int32), (0 ≤ i.toInt) → (i.toInt ≤ m_nodes.toInt) → (bh.toInt = mj_pb nl nr p0.toInt p1.toInt i.toNatClampNeg) → (pq.toInt = (mj_pq nl nr p0.toInt p1.toInt i.toNatClampNeg : Int)) → (mj_pa nl nr p0.toInt p1.toInt gq i.toNatClampNeg) → (parts320 gq) → (0 ≤ pq.toInt) → (pq.toInt ≤ i.toInt) → (m_nodes.toInt - i.toInt).toNat < n → ∀ (H : Heap) (locs : List Loc), va_P (dC, dI) vwCl [kx_5 h0 g_row m_n m_slots m_thrown g_many g_loss g_less g_voteValue g_voteNumber g_allValue g_allNumber m_allMany g_nodeL g_nodeR m_nodes g_part pq g_wasMany g_wasLoss g_wasValue g_wasNumber g_path m_pathMany g_heavyValue g_heavyTimes m_heavyMany g_fewest g_which g_met m_mostMet, kx_a g_nodeL cyI 320 nl, kx_a g_nodeR cyI 320 nr, kx_a g_part cyI 320 gq] H → va_D A [kx_5 h0 g_row m_n m_slots m_thrown g_many g_loss g_less g_voteValue g_voteNumber g_allValue g_allNumber m_allMany g_nodeL g_nodeR m_nodes g_part pq g_wasMany g_wasLoss g_wasValue g_wasNumber g_path m_pathMany g_heavyValue g_heavyTimes m_heavyMany g_fewest g_which g_met m_mostMet, kx_a g_nodeL cyI 320 nl, kx_a g_nodeR cyI 320 nr, kx_a g_part cyI 320 gq] → va_S A s.heap H locs → ∀ (ls : Array Slot), lv_has ls 5 [(4, .int i), (3, .int bh), (0, .ref h0), (1, .int p0), (2, .int p1)] → W p l e (headSpec wsX5_laysParts ({ frames := 0, cells := 0, slots := 0, locals := 0 })).room s m ([.ref h0, .int p0, .int p1] : List Value).toArray below meth c H locs 0 0 (MQ below (va_Qv (fun u : Int32 × (Nat → Int32) => u.1.toInt = (mj_pq nl nr p0.toInt p1.toInt m_nodes.toNatClampNeg : Int) ∧ mj_pa nl nr p0.toInt p1.toInt u.2 m_nodes.toNatClampNeg ∧ parts320 u.2 ∧ 0 ≤ u.1.toInt ∧ u.1.toInt ≤ m_nodes.toInt) (fun (u : Int32 × (Nat → Int32)) (t : State) => va_P (dC, dI) vwCl [kx_5 h0 g_row m_n m_slots m_thrown g_many g_loss g_less g_voteValue g_voteNumber g_allValue g_allNumber m_allMany g_nodeL g_nodeR m_nodes g_part u.1 g_wasMany g_wasLoss g_wasValue g_wasNumber g_path m_pathMany g_heavyValue g_heavyTimes m_heavyMany g_fewest g_which g_met m_mostMet, kx_a g_nodeL cyI 320 nl, kx_a g_nodeR cyI 320 nr, kx_a g_part cyI 320 u.2] t.heap ∧ va_K (dC, dI) vwCl [(cyI, .int)] t ∧ va_D A [kx_5 h0 g_row m_n m_slots m_thrown g_many g_loss g_less g_voteValue g_voteNumber g_allValue g_allNumber m_allMany g_nodeL g_nodeR m_nodes g_part u.1 g_wasMany g_wasLoss g_wasValue g_wasNumber g_path m_pathMany g_heavyValue g_heavyTimes m_heavyMany g_fewest g_which g_met m_mostMet, kx_a g_nodeL cyI 320 nl, kx_a g_nodeR cyI 320 nr, kx_a g_part cyI 320 u.2]) A) ([.ref h0, .int p0, .int p1] : List Value).toArray s 0 0 A) (F0 m 10 ls []) := by
    intro n
    induction n with
    | zero => intro i bh pq gq LP1_h0 LP1_h1 LP1_h2 LP1_h3 LP1_h4 LP1_h5 LP1_h6 LP1_h7 hn; exact absurd hn (Nat.not_lt_zero _)
    | succ n ih1 =>
      intro i bh pq gq LP1_h0 LP1_h1 LP1_h2 LP1_h3 LP1_h4 LP1_h5 LP1_h6 LP1_h7 hn1 H locs hP hD hS ls hl
      have n_i := ki_nat i rfl (om_10 LP1_h0)
      have n_pq := ki_nat pq rfl (om_10 LP1_h6)
      refine lv_iload hx hb dX5_laysParts_10 (lv_at hl 0 rfl) ?_
      refine lv_aload_n hx hb dX5_laysParts_12 rfl (lv_at hl 2 rfl) ?_
      refine va_get (D := (dC, dI)) (ci := 5) (v := .int m_nodes) (C := RX5) (T := TX5) (N := 30) hx hb hts hi_5 hown hK hP 0 rfl rfl 14 (by decide) hf_101 (fun _ h9 => h9) rfl dX5_laysParts_13 ?_
      refine lv_icmp_ge (tgt := 79) hx hb dX5_laysParts_16 (by decide) (fun c_1 => ?_) (fun c_1 => ?_)
      · have i_1 : m_nodes.toInt ≤ i.toInt := kc_le c_1
        have hP9 := hP
        have hD9 := hD
        have hK9 := hK
        have e_i : i.toNatClampNeg = m_nodes.toNatClampNeg := by have := ki_nat m_nodes rfl (by omega); omega
        exact W.vret hx hb hr (hlocks := hlocks) (fun t ht hW => ⟨⟨(pq, gq), rfl, ⟨(by (try dsimp only); rw [← e_i]; exact LP1_h3), (by (try dsimp only); rw [← e_i]; exact LP1_h4), LP1_h5, (by (try dsimp only); omega), (by (try dsimp only); omega)⟩, by rw [ht]; exact hP9, va_K.moved hW.alike hK9, hD9⟩, hS.F ht⟩) hS.2.2 dX5_laysParts_79
      · have i_1 : i.toInt < m_nodes.toInt := kc_nle c_1
        refine lv_aload_n hx hb dX5_laysParts_19 rfl (lv_at hl 2 rfl) ?_
        refine va_get (D := (dC, dI)) (ci := 5) (v := .ref g_nodeL) (C := RX5) (T := TX5) (N := 30) hx hb hts hi_5 hown hK hP 0 rfl rfl 12 (by decide) hf_38 (fun _ h9 => h9) rfl dX5_laysParts_20 ?_
        refine lv_iload hx hb dX5_laysParts_23 (lv_at hl 0 rfl) ?_
        refine va_iald hx hb hK hP 1 0 rfl rfl (ki_in (om_10 LP1_h0) (om_369 b1 LP1_h1)) dX5_laysParts_25 ?_
        refine lv_topi (fun y_2 ey_2 => ?_)
        have j_2 : y_2.toInt = (nl i.toNatClampNeg).toInt := congrArg Int32.toInt ey_2
        refine lv_iload_n hx hb dX5_laysParts_26 rfl (lv_at hl 1 rfl) ?_
        refine lv_icmp_ne (tgt := 73) hx hb dX5_laysParts_27 (by decide) (fun c_3 => ?_) (fun c_3 => ?_)
        · have i_3 : ¬ y_2.toInt = bh.toInt := kc_ne c_3
          obtain ⟨x_4, ex_4⟩ : ∃ y : Int32, y = i + 1 := ⟨_, rfl⟩
          have i_4 : x_4.toInt = i.toInt + 1 := ki_add ex_4 rfl rfl (om_13 LP1_h0) (om_370 b1 LP1_h1)
          refine lv_iinc (v := x_4) (lv' := [(4, .int x_4), (3, .int bh), (0, .ref h0), (1, .int p0), (2, .int p1)]) hx hb dX5_laysParts_73 hl (k := 0) rfl (by rw [ex_4]; rfl) (by decide) rfl (fun ls hl => ?_)
          refine lv_goto (tgt := 10) hx hb dX5_laysParts_76 (by decide) ?_
          have n_5 := ki_nat x_4 rfl (om_34 LP1_h0 i_4)
          have st := mj_pa_skip LP1_h4 (k2 := x_4.toNatClampNeg) (fun h => by unfold mj_isp at h; omega) (by omega)
          exact ih1 x_4 bh pq gq (om_34 LP1_h0 i_4) (om_54 i_1 i_4) (by rw [st.2.1]; omega) (by rw [st.2.2]; omega) st.1 LP1_h5 (om_10 LP1_h6) (om_4 LP1_h7 i_4) (om_mu hn1 (om_5 i_4) (om_6 i_1)) _ _ hP hD hS ls (lv_sub hl [0, 1, 2, 3, 4] rfl)
        · have i_3 : y_2.toInt = bh.toInt := kc_eq c_3
          refine lv_aload_n hx hb dX5_laysParts_30 rfl (lv_at hl 2 rfl) ?_
          refine va_get (D := (dC, dI)) (ci := 5) (v := .ref g_nodeR) (C := RX5) (T := TX5) (N := 30) hx hb hts hi_5 hown hK hP 0 rfl rfl 13 (by decide) hf_41 (fun _ h9 => h9) rfl dX5_laysParts_31 ?_
          refine lv_iload hx hb dX5_laysParts_34 (lv_at hl 0 rfl) ?_
          refine va_iald hx hb hK hP 2 0 rfl rfl (ki_in (om_10 LP1_h0) (om_369 b1 LP1_h1)) dX5_laysParts_36 ?_
          refine lv_topi (fun y_6 ey_6 => ?_)
          have j_6 : y_6.toInt = (nr i.toNatClampNeg).toInt := congrArg Int32.toInt ey_6
          refine lv_iload_n hx hb dX5_laysParts_37 rfl (lv_at hl 4 rfl) ?_
          refine lv_icmp_le (tgt := 44) hx hb dX5_laysParts_38 (by decide) (fun c_7 => ?_) (fun c_7 => ?_)
          · have i_7 : y_6.toInt ≤ p1.toInt := kc_le c_7
            refine lv_aload_n hx hb dX5_laysParts_44 rfl (lv_at hl 2 rfl) ?_
            refine va_get (D := (dC, dI)) (ci := 5) (v := .ref g_part) (C := RX5) (T := TX5) (N := 30) hx hb hts hi_5 hown hK hP 0 rfl rfl 15 (by decide) hf_44 (fun _ h9 => h9) rfl dX5_laysParts_45 ?_
            refine lv_aload_n hx hb dX5_laysParts_48 rfl (lv_at hl 2 rfl) ?_
            refine va_get (D := (dC, dI)) (ci := 5) (v := .int pq) (C := RX5) (T := TX5) (N := 30) hx hb hts hi_5 hown hK hP 0 rfl rfl 16 (by decide) hf_115 (fun _ h9 => h9) rfl dX5_laysParts_49 ?_
            refine lv_iload hx hb dX5_laysParts_52 (lv_at hl 0 rfl) ?_
            refine va_iast hx hb hK hP hD hS 3 0 rfl rfl (ki_in (om_10 LP1_h6) (om_371 b1 LP1_h1 LP1_h7)) dX5_laysParts_54 (fun H locs hP hD hS => ?_)
            obtain ⟨hP, hD⟩ := kx_re (w2 := [kx_5 h0 g_row m_n m_slots m_thrown g_many g_loss g_less g_voteValue g_voteNumber g_allValue g_allNumber m_allMany g_nodeL g_nodeR m_nodes g_part pq g_wasMany g_wasLoss g_wasValue g_wasNumber g_path m_pathMany g_heavyValue g_heavyTimes m_heavyMany g_fewest g_which g_met m_mostMet, kx_a g_nodeL cyI 320 nl, kx_a g_nodeR cyI 320 nr, kx_a g_part cyI 320 (upd gq pq.toNatClampNeg i)]) hP hD rfl
            refine lv_aload_n hx hb dX5_laysParts_55 rfl (lv_at hl 2 rfl) ?_
            refine lv_dup hx hb dX5_laysParts_56 rfl ?_
            refine va_get (D := (dC, dI)) (ci := 5) (v := .int pq) (C := RX5) (T := TX5) (N := 30) hx hb hts hi_5 hown hK hP 0 rfl rfl 16 (by decide) hf_115 (fun _ h9 => h9) rfl dX5_laysParts_57 ?_
            refine lv_iconst (v := 1) hx hb dX5_laysParts_60 (by decide) ?_
            refine lv_iadd hx hb dX5_laysParts_61 ?_
            refine lv_topi (fun y_8 ey_8 => ?_)
            have i_8 : y_8.toInt = pq.toInt + 1 := ki_add ey_8 rfl rfl (om_13 LP1_h6) (om_372 b1 LP1_h1 LP1_h7)
            refine va_put (D := (dC, dI)) (ci := 5) (v := .int y_8) (ty := .int) (C := RX5) (T := TX5) (N := 30) hx hb hts hi_5 tyX5 tyX5_ok nmX5 hown hK hP hD hS 0 rfl rfl 16 (by decide) hf_115 (fun _ h9 => h9) rfl (by decide +kernel) rfl rfl (Nat.le_of_ble_eq_true rfl) dX5_laysParts_62 (fun H locs hP hD hS => ?_)
            obtain ⟨hP, hD⟩ := kx_re (w2 := [kx_5 h0 g_row m_n m_slots m_thrown g_many g_loss g_less g_voteValue g_voteNumber g_allValue g_allNumber m_allMany g_nodeL g_nodeR m_nodes g_part y_8 g_wasMany g_wasLoss g_wasValue g_wasNumber g_path m_pathMany g_heavyValue g_heavyTimes m_heavyMany g_fewest g_which g_met m_mostMet, kx_a g_nodeL cyI 320 nl, kx_a g_nodeR cyI 320 nr, kx_a g_part cyI 320 (upd gq pq.toNatClampNeg i)]) hP hD rfl
            refine lv_aload_n hx hb dX5_laysParts_65 rfl (lv_at hl 2 rfl) ?_
            refine va_get (D := (dC, dI)) (ci := 5) (v := .ref g_nodeR) (C := RX5) (T := TX5) (N := 30) hx hb hts hi_5 hown hK hP 0 rfl rfl 13 (by decide) hf_41 (fun _ h9 => h9) rfl dX5_laysParts_66 ?_
            refine lv_iload hx hb dX5_laysParts_69 (lv_at hl 0 rfl) ?_
            refine va_iald hx hb hK hP 2 0 rfl rfl (ki_in (om_10 LP1_h0) (om_369 b1 LP1_h1)) dX5_laysParts_71 ?_
            refine lv_topi (fun y_9 ey_9 => ?_)
            have j_9 : y_9.toInt = (nr i.toNatClampNeg).toInt := congrArg Int32.toInt ey_9
            refine lv_istore_n (lv' := [(3, .int y_9), (4, .int i), (0, .ref h0), (1, .int p0), (2, .int p1)]) hx hb dX5_laysParts_72 rfl hl (by decide) rfl (fun ls hl => ?_)
            obtain ⟨x_10, ex_10⟩ : ∃ y : Int32, y = i + 1 := ⟨_, rfl⟩
            have i_10 : x_10.toInt = i.toInt + 1 := ki_add ex_10 rfl rfl (om_13 LP1_h0) (om_370 b1 LP1_h1)
            refine lv_iinc (v := x_10) (lv' := [(4, .int x_10), (3, .int y_9), (0, .ref h0), (1, .int p0), (2, .int p1)]) hx hb dX5_laysParts_73 hl (k := 1) rfl (by rw [ex_10]; rfl) (by decide) rfl (fun ls hl => ?_)
            refine lv_goto (tgt := 10) hx hb dX5_laysParts_76 (by decide) ?_
            have n_11 := ki_nat x_10 rfl (om_34 LP1_h0 i_10)
            have n_12 := ki_nat y_8 rfl (om_34 LP1_h6 i_8)
            have st := mj_pa_put LP1_h4 (q := pq.toNatClampNeg) (x := i) (k2 := x_10.toNatClampNeg) (by unfold mj_isp; omega) (by omega) (by omega) (by omega)
            exact ih1 x_10 y_9 y_8 (upd gq pq.toNatClampNeg i) (om_34 LP1_h0 i_10) (om_54 i_1 i_10) (by rw [st.2.1]; omega) (by rw [st.2.2]; omega) st.1 (parts320_upd LP1_h5 (by omega) (by omega)) (om_34 LP1_h6 i_8) (om_56 LP1_h7 i_8 i_10) (om_mu hn1 (om_5 i_10) (om_6 i_1)) _ _ hP hD hS ls (lv_sub hl [0, 1, 2, 3, 4] rfl)
          · have i_7 : p1.toInt < y_6.toInt := kc_nle c_7
            refine lv_goto (tgt := 73) hx hb dX5_laysParts_41 (by decide) ?_
            obtain ⟨x_13, ex_13⟩ : ∃ y : Int32, y = i + 1 := ⟨_, rfl⟩
            have i_13 : x_13.toInt = i.toInt + 1 := ki_add ex_13 rfl rfl (om_13 LP1_h0) (om_370 b1 LP1_h1)
            refine lv_iinc (v := x_13) (lv' := [(4, .int x_13), (3, .int bh), (0, .ref h0), (1, .int p0), (2, .int p1)]) hx hb dX5_laysParts_73 hl (k := 0) rfl (by rw [ex_13]; rfl) (by decide) rfl (fun ls hl => ?_)
            refine lv_goto (tgt := 10) hx hb dX5_laysParts_76 (by decide) ?_
            have n_14 := ki_nat x_13 rfl (om_34 LP1_h0 i_13)
            have st := mj_pa_skip LP1_h4 (k2 := x_13.toNatClampNeg) (fun h => by unfold mj_isp at h; omega) (by omega)
            exact ih1 x_13 bh pq gq (om_34 LP1_h0 i_13) (om_54 i_1 i_13) (by rw [st.2.1]; omega) (by rw [st.2.2]; omega) st.1 LP1_h5 (om_10 LP1_h6) (om_4 LP1_h7 i_13) (om_mu hn1 (om_5 i_13) (om_6 i_1)) _ _ hP hD hS ls (lv_sub hl [0, 1, 2, 3, 4] rfl)
  have k_15 : (0 : Int32).toInt = 0 := rfl
  have k_16 : (0 : Int32).toInt = 0 := rfl
  exact LP1 ((m_nodes.toInt - 0 : Int).toNat + 1) 0 p0 0 gp om_35 (om_10 b0) rfl rfl (mj_pa_0 _ _ _ _ _ rfl) q0 om_35 om_35 (Nat.lt_succ_self _) _ _ hP hD hS ls (lv_sub hl [0, 1, 2, 3, 4] rfl)

set_option maxHeartbeats 4000000 in
set_option maxRecDepth 100000 in
theorem c_X5_folds (l : Launch) (dC : Nat → ClassId) (dI : Nat → Nat → Nat) (h0 : Nat) (g_row : Nat) (g_many : Nat) (g_loss : Nat) (g_less : Nat) (g_voteValue : Nat) (g_voteNumber : Nat) (g_allValue : Nat) (g_allNumber : Nat) (g_nodeL : Nat) (g_nodeR : Nat) (g_part : Nat) (g_wasMany : Nat) (g_wasLoss : Nat) (g_wasValue : Nat) (g_wasNumber : Nat) (g_path : Nat) (g_heavyValue : Nat) (g_heavyTimes : Nat) (g_fewest : Nat) (g_which : Nat) (g_met : Nat) (m_n : Int32) (m_slots : Int32) (m_thrown : Int32) (m_allMany : Int32) (m_nodes : Int32) (m_partMany : Int32) (m_pathMany : Int32) (m_heavyMany : Int32) (m_mostMet : Int32) (cyI : ClassId) (fm : Nat → Int32) (fl : Nat → Int32) (fe : Nat → Int32) (vv : Nat → Int32) (vn : Nat → Int32) (f : Nat → Int32) (av : Nat → Int32) (an : Nat → Int32) (nl : Nat → Int32) (nr : Nat → Int32) (gp : Nat → Int32) (p0 : Int32) (p1 : Int32) (p2 : Int32) (sz : Nat) (a0 : 0 ≤ m_n.toInt) (a1 : m_n.toInt ≤ 160) (b0 : 0 ≤ m_nodes.toInt) (b1 : m_nodes.toInt ≤ 319) (r0 : 0 ≤ p0.toInt) (r1 : p0.toInt < p1.toInt) (r2 : p1.toInt ≤ m_n.toInt) (k0 : 1 ≤ p2.toInt) (k1 : p2.toInt ≤ 6) (s4 : six4 fm) (q0 : parts320 gp) (hL : mj_L p2.toNatClampNeg f nl nr fm fl fe vv vn m_n.toInt m_nodes.toInt) : kx_MQ l (dC, dI) yX5_folds wsX5_folds ({ frames := 3, cells := 0, slots := 0, locals := 135 }) [.ref h0, .int p0, .int p1, .int 320, .int p2] [kx_5 h0 g_row m_n m_slots m_thrown g_many g_loss g_less g_voteValue g_voteNumber g_allValue g_allNumber m_allMany g_nodeL g_nodeR m_nodes g_part m_partMany g_wasMany g_wasLoss g_wasValue g_wasNumber g_path m_pathMany g_heavyValue g_heavyTimes m_heavyMany g_fewest g_which g_met m_mostMet, kx_a g_many cyI 324 fm, kx_a g_loss cyI 324 fl, kx_a g_less cyI 324 fe, kx_a g_voteValue cyI 1944 vv, kx_a g_voteNumber cyI 1944 vn, kx_a g_allValue cyI 12 av, kx_a g_allNumber cyI 12 an, kx_a g_nodeL cyI 320 nl, kx_a g_nodeR cyI 320 nr, kx_a g_part cyI 320 gp] [(cyI, .int)] sz (fun A => va_Qv (fun u : Int32 × Int32 × (Nat → Int32) × (Nat → Int32) × (Nat → Int32) × (Nat → Int32) × (Nat → Int32) × (Nat → Int32) × (Nat → Int32) × (Nat → Int32) => six4 u.2.2.1 ∧ parts320 u.2.2.2.2.2.2.2.2.2 ∧ mj_ag 0 320 nl nr fm fl fe vv vn nl nr u.2.2.1 u.2.2.2.1 u.2.2.2.2.1 u.2.2.2.2.2.1 u.2.2.2.2.2.2.1 ∧ mj_F p2.toNatClampNeg nl nr u.2.2.1 u.2.2.2.1 u.2.2.2.2.2.1 u.2.2.2.2.2.2.1 u.2.2.1 u.2.2.2.1 u.2.2.2.2.2.1 u.2.2.2.2.2.2.1 p0.toInt p1.toInt (mj_pq nl nr p0.toInt p1.toInt m_nodes.toNatClampNeg)) (fun (u : Int32 × Int32 × (Nat → Int32) × (Nat → Int32) × (Nat → Int32) × (Nat → Int32) × (Nat → Int32) × (Nat → Int32) × (Nat → Int32) × (Nat → Int32)) (t : State) => va_P (dC, dI) vwCl [kx_5 h0 g_row m_n m_slots m_thrown g_many g_loss g_less g_voteValue g_voteNumber g_allValue g_allNumber u.1 g_nodeL g_nodeR m_nodes g_part u.2.1 g_wasMany g_wasLoss g_wasValue g_wasNumber g_path m_pathMany g_heavyValue g_heavyTimes m_heavyMany g_fewest g_which g_met m_mostMet, kx_a g_many cyI 324 u.2.2.1, kx_a g_loss cyI 324 u.2.2.2.1, kx_a g_less cyI 324 u.2.2.2.2.1, kx_a g_voteValue cyI 1944 u.2.2.2.2.2.1, kx_a g_voteNumber cyI 1944 u.2.2.2.2.2.2.1, kx_a g_allValue cyI 12 u.2.2.2.2.2.2.2.1, kx_a g_allNumber cyI 12 u.2.2.2.2.2.2.2.2.1, kx_a g_nodeL cyI 320 nl, kx_a g_nodeR cyI 320 nr, kx_a g_part cyI 320 u.2.2.2.2.2.2.2.2.2] t.heap ∧ va_K (dC, dI) vwCl [(cyI, .int)] t ∧ va_D A [kx_5 h0 g_row m_n m_slots m_thrown g_many g_loss g_less g_voteValue g_voteNumber g_allValue g_allNumber u.1 g_nodeL g_nodeR m_nodes g_part u.2.1 g_wasMany g_wasLoss g_wasValue g_wasNumber g_path m_pathMany g_heavyValue g_heavyTimes m_heavyMany g_fewest g_which g_met m_mostMet, kx_a g_many cyI 324 u.2.2.1, kx_a g_loss cyI 324 u.2.2.2.1, kx_a g_less cyI 324 u.2.2.2.2.1, kx_a g_voteValue cyI 1944 u.2.2.2.2.2.1, kx_a g_voteNumber cyI 1944 u.2.2.2.2.2.2.1, kx_a g_allValue cyI 12 u.2.2.2.2.2.2.2.1, kx_a g_allNumber cyI 12 u.2.2.2.2.2.2.2.2.1, kx_a g_nodeL cyI 320 nl, kx_a g_nodeR cyI 320 nr, kx_a g_part cyI 320 u.2.2.2.2.2.2.2.2.2]) A) := by
  refine kx_stQ (ws := wsX5_folds) (cc := cX5_folds) (maxL := 6) (ret := none) (by decide) rfl (Nat.le_of_ble_eq_true rfl) ?_
  intro p e s m below meth c A ls hx hb hr hlocks hts hown hml hA hS hP hK hD hl
  have hown : s.vm.findClass RX5 = some m.cls := hown
  have hl : lv_has ls 6 [(0, .ref h0), (1, .int p0), (2, .int p1), (3, .int 320), (4, .int p2)] := hl
  have hf_44 := hts (.fieldLink RX5 44 "MajorityIndexModel" "part" "[I") (List.mem_of_getElem? (i := 1) rfl)
  have hi_5 : ∀ w ∈ u_ws RX5 TX5 30, w ∈ wsX5_folds := fun w h => List.mem_cons_of_mem _ (List.mem_append_right _ h)
  have hf_115 := hts (.fieldLink RX5 115 "MajorityIndexModel" "partMany" "I") (List.mem_of_getElem? (i := 2) rfl)
  refine lv_aload_n hx hb dX5_folds_0 rfl (lv_at hl 0 rfl) ?_
  refine lv_iload_n hx hb dX5_folds_1 rfl (lv_at hl 1 rfl) ?_
  refine lv_iload_n hx hb dX5_folds_2 rfl (lv_at hl 2 rfl) ?_
  obtain ⟨hPc, hDc, hFc, hCc⟩ := kx_preM (wc := [kx_5 h0 g_row m_n m_slots m_thrown g_many g_loss g_less g_voteValue g_voteNumber g_allValue g_allNumber m_allMany g_nodeL g_nodeR m_nodes g_part m_partMany g_wasMany g_wasLoss g_wasValue g_wasNumber g_path m_pathMany g_heavyValue g_heavyTimes m_heavyMany g_fewest g_which g_met m_mostMet, kx_a g_nodeL cyI 320 nl, kx_a g_nodeR cyI 320 nr, kx_a g_part cyI 320 gp]) hP hD hS hA [true, false, false, false, false, false, false, false, true, true, true] rfl
  have hKc := hK
  refine va_callv (va_runV (As := [.int p0, .int p1]) (rest := []) ⟨hx, hb, hml, hown, hts⟩ (kx_un (c_X5_laysParts l dC dI h0 g_row g_many g_loss g_less g_voteValue g_voteNumber g_allValue g_allNumber g_nodeL g_nodeR g_part g_wasMany g_wasLoss g_wasValue g_wasNumber g_path g_heavyValue g_heavyTimes g_fewest g_which g_met m_n m_slots m_thrown m_allMany m_nodes m_partMany m_pathMany m_heavyMany m_mostMet cyI nl nr gp p0 p1 s.heap.size b0 b1 q0)) (cwV 2 hts gX5_folds_X5_laysParts rfl rfl rfl (by decide +kernel) ⟨Nat.le_of_ble_eq_true rfl, Nat.le_of_ble_eq_true rfl⟩) ⟨fun a U g mk q => by obtain ⟨q0, q1, qP, qK, qD⟩ := q; exact ⟨q0, q1, qP, va_K.moved (u := U) (U := U.calling g mk a) (Vm.Alike.refl U.vm) qK, qD⟩, kx_rc5 hKc hPc (q0 := 0) rfl, fun U hU hW => ⟨rfl, by rw [hU], by rw [hU]; exact hPc, va_K.moved hW.alike hKc, hDc.weaken (fun _ _ _ _ => trivial)⟩⟩ rfl rfl hl.1 rfl (lv_room (Nat.le_of_ble_eq_true rfl)) dX5_folds_3 ⟨Nat.le_of_ble_eq_true rfl, Nat.le_of_ble_eq_true rfl⟩) hS (fun q _ h => hFc q h) hFc (fun u t H1 locs ht hvm w_1 hB hz1 hk1 hS => ?_)
  obtain ⟨o_2, o_3⟩ := u
  dsimp only at w_1 hB
  obtain ⟨hP1, hK1, hD1⟩ := hB
  rw [ht] at hP1
  have hK1 := va_K.moved hvm.symm hK1
  obtain ⟨hP, hD⟩ := kx_joinM (w2 := [kx_5 h0 g_row m_n m_slots m_thrown g_many g_loss g_less g_voteValue g_voteNumber g_allValue g_allNumber m_allMany g_nodeL g_nodeR m_nodes g_part o_2 g_wasMany g_wasLoss g_wasValue g_wasNumber g_path m_pathMany g_heavyValue g_heavyTimes m_heavyMany g_fewest g_which g_met m_mostMet, kx_a g_many cyI 324 fm, kx_a g_loss cyI 324 fl, kx_a g_less cyI 324 fe, kx_a g_voteValue cyI 1944 vv, kx_a g_voteNumber cyI 1944 vn, kx_a g_allValue cyI 12 av, kx_a g_allNumber cyI 12 an, kx_a g_nodeL cyI 320 nl, kx_a g_nodeR cyI 320 nr, kx_a g_part cyI 320 o_3]) hP hD hP1 hD1 hk1 hFc [true, false, false, false, false, false, false, false, true, true, true] hCc rfl
  clear hP1 hD1 hK1 hk1 hz1 hFc hDc hPc hKc hCc
  generalize H1 = H at hP hS ⊢
  have w_1 : o_2.toInt = (mj_pq nl nr p0.toInt p1.toInt m_nodes.toNatClampNeg : Int) ∧ mj_pa nl nr p0.toInt p1.toInt o_3 m_nodes.toNatClampNeg ∧ parts320 o_3 ∧ 0 ≤ o_2.toInt ∧ o_2.toInt ≤ m_nodes.toInt := w_1
  refine lv_aload_n hx hb dX5_folds_6 rfl (lv_at hl 0 rfl) ?_
  refine lv_aload_n hx hb dX5_folds_7 rfl (lv_at hl 0 rfl) ?_
  refine va_get (D := (dC, dI)) (ci := 5) (v := .ref g_part) (C := RX5) (T := TX5) (N := 30) hx hb hts hi_5 hown hK hP 0 rfl rfl 15 (by decide) hf_44 (fun _ h9 => h9) rfl dX5_folds_8 ?_
  refine lv_iconst (v := 0) hx hb dX5_folds_11 (by decide) ?_
  refine va_iald hx hb hK hP 10 0 rfl rfl (ki_inl (by decide)) dX5_folds_12 ?_
  refine lv_topi (fun y_4 ey_4 => ?_)
  have j_4 : y_4.toInt = (o_3 (0 : Int32).toNatClampNeg).toInt := congrArg Int32.toInt ey_4
  have n_5 : ((0 : Int32).toNatClampNeg : Int) = 0 := ki_nat _ rfl om_35
  have i_6 := w_1.2.2.1 (0 : Int32).toNatClampNeg (om_ln n_5 om_373)
  refine lv_iload_n hx hb dX5_folds_13 rfl (lv_at hl 3 rfl) ?_
  obtain ⟨hPc, hDc, hFc, hCc⟩ := kx_preM (wc := [kx_5 h0 g_row m_n m_slots m_thrown g_many g_loss g_less g_voteValue g_voteNumber g_allValue g_allNumber m_allMany g_nodeL g_nodeR m_nodes g_part o_2 g_wasMany g_wasLoss g_wasValue g_wasNumber g_path m_pathMany g_heavyValue g_heavyTimes m_heavyMany g_fewest g_which g_met m_mostMet, kx_a g_many cyI 324 fm, kx_a g_loss cyI 324 fl, kx_a g_less cyI 324 fe, kx_a g_voteValue cyI 1944 vv, kx_a g_voteNumber cyI 1944 vn]) hP hD hS hA [true, true, true, true, true, true, false, false, false, false, false] rfl
  have hKc := hK
  have k_7 : (320 : Int32).toInt = 320 := rfl
  refine va_callv (va_runV (As := [.int y_4, .int 320]) (rest := []) ⟨hx, hb, hml, hown, hts⟩ (kx_un (c_X5_copies_x l dC dI h0 g_row g_many g_loss g_less g_voteValue g_voteNumber g_allValue g_allNumber g_nodeL g_nodeR g_part g_wasMany g_wasLoss g_wasValue g_wasNumber g_path g_heavyValue g_heavyTimes g_fewest g_which g_met m_n m_slots m_thrown m_allMany m_nodes o_2 m_pathMany m_heavyMany m_mostMet cyI fm fl fe vv vn y_4 320 H.size (om_144 j_4 i_6.1) (om_374 j_4 i_6.2) om_375 om_376)) (cwV 2 hts gX5_folds_X5_copies rfl rfl rfl (by decide +kernel) ⟨Nat.le_of_ble_eq_true rfl, Nat.le_of_ble_eq_true rfl⟩) ⟨fun a U g mk q => by obtain ⟨q0, q1, qP, qK, qD⟩ := q; exact ⟨q0, q1, qP, va_K.moved (u := U) (U := U.calling g mk a) (Vm.Alike.refl U.vm) qK, qD⟩, kx_rc5 hKc hPc (q0 := 0) rfl, fun U hU hW => ⟨rfl, by rw [hU], by rw [hU]; exact hPc, va_K.moved hW.alike hKc, hDc.weaken (fun _ _ _ _ => trivial)⟩⟩ rfl rfl hl.1 rfl (lv_room (Nat.le_of_ble_eq_true rfl)) dX5_folds_14 ⟨Nat.le_of_ble_eq_true rfl, Nat.le_of_ble_eq_true rfl⟩) hS (fun q _ h => hFc q h) hFc (fun u t H1 locs ht hvm w_8 hB hz1 hk1 hS => ?_)
  obtain ⟨o_9, o_10, o_11, o_12, o_13⟩ := u
  dsimp only at w_8 hB
  obtain ⟨hP1, hK1, hD1⟩ := hB
  rw [ht] at hP1
  have hK1 := va_K.moved hvm.symm hK1
  obtain ⟨hP, hD⟩ := kx_joinM (w2 := [kx_5 h0 g_row m_n m_slots m_thrown g_many g_loss g_less g_voteValue g_voteNumber g_allValue g_allNumber m_allMany g_nodeL g_nodeR m_nodes g_part o_2 g_wasMany g_wasLoss g_wasValue g_wasNumber g_path m_pathMany g_heavyValue g_heavyTimes m_heavyMany g_fewest g_which g_met m_mostMet, kx_a g_many cyI 324 o_9, kx_a g_loss cyI 324 o_10, kx_a g_less cyI 324 o_11, kx_a g_voteValue cyI 1944 o_12, kx_a g_voteNumber cyI 1944 o_13, kx_a g_allValue cyI 12 av, kx_a g_allNumber cyI 12 an, kx_a g_nodeL cyI 320 nl, kx_a g_nodeR cyI 320 nr, kx_a g_part cyI 320 o_3]) hP hD hP1 hD1 hk1 hFc [true, true, true, true, true, true, false, false, false, false, false] hCc rfl
  clear hP1 hD1 hK1 hk1 hz1 hFc hDc hPc hKc hCc
  generalize H1 = H at hP hS ⊢
  have w_8 : o_9 = upd fm (320 : Int32).toNatClampNeg (fm y_4.toNatClampNeg) ∧ o_10 = upd fl (320 : Int32).toNatClampNeg (fl y_4.toNatClampNeg) ∧ o_11 = upd fe (320 : Int32).toNatClampNeg (fe y_4.toNatClampNeg) ∧ mj_cp vv vn o_12 o_13 y_4.toNatClampNeg (320 : Int32).toNatClampNeg 6 := w_8
  have n_nd := ki_nat m_nodes rfl (om_10 b0)
  have n_y := ki_nat y_4 rfl (om_144 j_4 i_6.1)
  have n_p2 := ki_nat p2 rfl (om_51 k0)
  have hpos := mj_L_pq hL (show 0 ≤ p0.toInt by omega) (show p0.toInt < p1.toInt by omega) (by omega)
  have hpos : 0 < mj_pq nl nr p0.toInt p1.toInt m_nodes.toNatClampNeg := hpos
  obtain ⟨i0, x1, x2, x3⟩ := mj_pq_at nl nr p0.toInt p1.toInt 0 m_nodes.toNatClampNeg hpos
  have x4 := w_1.2.1 i0 x1 x2
  rw [x3] at x4
  have x5 : y_4.toNatClampNeg = i0 := by have : y_4.toInt = (o_3 0).toInt := congrArg Int32.toInt ey_4; omega
  obtain ⟨v0, v6, vK, mu0, hv0, hs0, hb0⟩ := mj_L_vs hL (by omega) i0 (by omega)
  have hc1 := w_8.1
  have hc2 := w_8.2.1
  have hc3 := w_8.2.2.1
  have hc4 := w_8.2.2.2
  rw [x5] at hc1 hc2 hc3 hc4
  have hF1 := mj_F_one (nl := nl) (nr := nr) (l := p0.toInt) (r := p1.toInt) (by omega) x2 x3 v0 v6 vK hv0 hs0 hb0 hc1 hc2 hc4
  have hg1 := mj_ag_cp (nl := nl) (nr := nr) hc1 hc2 hc3 hc4
  have hs1 : six4 o_9 := by rw [hc1]; exact six4_upd s4 v0 v6
  refine lv_iconst (v := 1) hx hb dX5_folds_17 (by decide) ?_
  refine lv_istore (lv' := [(5, .int 1), (0, .ref h0), (1, .int p0), (2, .int p1), (3, .int 320), (4, .int p2)]) hx hb dX5_folds_18 hl (by decide) rfl (fun ls hl => ?_)
  have LP1 : ∀ (n : Nat) (j : Int32) (k_am : Int32) (km : Nat → Int32) (kl : Nat → Int32) (ke : Nat → Int32) (kvv : Nat → Int32) (kvn : Nat → Int32) (kav : Nat → Int32) (kan : Nat → Int32), (1 ≤ j.toInt) → (j.toInt ≤ o_2.toInt) → (six4 km) → (mj_ag 0 320 nl nr fm fl fe vv vn nl nr km kl ke kvv kvn) → (mj_F p2.toNatClampNeg nl nr fm fl vv vn km kl kvv kvn p0.toInt p1.toInt j.toNatClampNeg) → (o_2.toInt - j.toInt).toNat < n → ∀ (H : Heap) (locs : List Loc), va_P (dC, dI) vwCl [kx_5 h0 g_row m_n m_slots m_thrown g_many g_loss g_less g_voteValue g_voteNumber g_allValue g_allNumber k_am g_nodeL g_nodeR m_nodes g_part o_2 g_wasMany g_wasLoss g_wasValue g_wasNumber g_path m_pathMany g_heavyValue g_heavyTimes m_heavyMany g_fewest g_which g_met m_mostMet, kx_a g_many cyI 324 km, kx_a g_loss cyI 324 kl, kx_a g_less cyI 324 ke, kx_a g_voteValue cyI 1944 kvv, kx_a g_voteNumber cyI 1944 kvn, kx_a g_allValue cyI 12 kav, kx_a g_allNumber cyI 12 kan, kx_a g_nodeL cyI 320 nl, kx_a g_nodeR cyI 320 nr, kx_a g_part cyI 320 o_3] H → va_D A [kx_5 h0 g_row m_n m_slots m_thrown g_many g_loss g_less g_voteValue g_voteNumber g_allValue g_allNumber k_am g_nodeL g_nodeR m_nodes g_part o_2 g_wasMany g_wasLoss g_wasValue g_wasNumber g_path m_pathMany g_heavyValue g_heavyTimes m_heavyMany g_fewest g_which g_met m_mostMet, kx_a g_many cyI 324 km, kx_a g_loss cyI 324 kl, kx_a g_less cyI 324 ke, kx_a g_voteValue cyI 1944 kvv, kx_a g_voteNumber cyI 1944 kvn, kx_a g_allValue cyI 12 kav, kx_a g_allNumber cyI 12 kan, kx_a g_nodeL cyI 320 nl, kx_a g_nodeR cyI 320 nr, kx_a g_part cyI 320 o_3] → va_S A s.heap H locs → ∀ (ls : Array Slot), lv_has ls 6 [(5, .int j), (0, .ref h0), (1, .int p0), (2, .int p1), (3, .int 320), (4, .int p2)] → W p l e (headSpec wsX5_folds ({ frames := 3, cells := 0, slots := 0, locals := 135 })).room s m ([.ref h0, .int p0, .int p1, .int 320, .int p2] : List Value).toArray below meth c H locs 0 0 (MQ below (va_Qv (fun u : Int32 × Int32 × (Nat → Int32) × (Nat → Int32) × (Nat → Int32) × (Nat → Int32) × (Nat → Int32) × (Nat → Int32) × (Nat → Int32) × (Nat → Int32) => six4 u.2.2.1 ∧ parts320 u.2.2.2.2.2.2.2.2.2 ∧ mj_ag 0 320 nl nr fm fl fe vv vn nl nr u.2.2.1 u.2.2.2.1 u.2.2.2.2.1 u.2.2.2.2.2.1 u.2.2.2.2.2.2.1 ∧ mj_F p2.toNatClampNeg nl nr u.2.2.1 u.2.2.2.1 u.2.2.2.2.2.1 u.2.2.2.2.2.2.1 u.2.2.1 u.2.2.2.1 u.2.2.2.2.2.1 u.2.2.2.2.2.2.1 p0.toInt p1.toInt (mj_pq nl nr p0.toInt p1.toInt m_nodes.toNatClampNeg)) (fun (u : Int32 × Int32 × (Nat → Int32) × (Nat → Int32) × (Nat → Int32) × (Nat → Int32) × (Nat → Int32) × (Nat → Int32) × (Nat → Int32) × (Nat → Int32)) (t : State) => va_P (dC, dI) vwCl [kx_5 h0 g_row m_n m_slots m_thrown g_many g_loss g_less g_voteValue g_voteNumber g_allValue g_allNumber u.1 g_nodeL g_nodeR m_nodes g_part u.2.1 g_wasMany g_wasLoss g_wasValue g_wasNumber g_path m_pathMany g_heavyValue g_heavyTimes m_heavyMany g_fewest g_which g_met m_mostMet, kx_a g_many cyI 324 u.2.2.1, kx_a g_loss cyI 324 u.2.2.2.1, kx_a g_less cyI 324 u.2.2.2.2.1, kx_a g_voteValue cyI 1944 u.2.2.2.2.2.1, kx_a g_voteNumber cyI 1944 u.2.2.2.2.2.2.1, kx_a g_allValue cyI 12 u.2.2.2.2.2.2.2.1, kx_a g_allNumber cyI 12 u.2.2.2.2.2.2.2.2.1, kx_a g_nodeL cyI 320 nl, kx_a g_nodeR cyI 320 nr, kx_a g_part cyI 320 u.2.2.2.2.2.2.2.2.2] t.heap ∧ va_K (dC, dI) vwCl [(cyI, .int)] t ∧ va_D A [kx_5 h0 g_row m_n m_slots m_thrown g_many g_loss g_less g_voteValue g_voteNumber g_allValue g_allNumber u.1 g_nodeL g_nodeR m_nodes g_part u.2.1 g_wasMany g_wasLoss g_wasValue g_wasNumber g_path m_pathMany g_heavyValue g_heavyTimes m_heavyMany g_fewest g_which g_met m_mostMet, kx_a g_many cyI 324 u.2.2.1, kx_a g_loss cyI 324 u.2.2.2.1, kx_a g_less cyI 324 u.2.2.2.2.1, kx_a g_voteValue cyI 1944 u.2.2.2.2.2.1, kx_a g_voteNumber cyI 1944 u.2.2.2.2.2.2.1, kx_a g_allValue cyI 12 u.2.2.2.2.2.2.2.1, kx_a g_allNumber cyI 12 u.2.2.2.2.2.2.2.2.1, kx_a g_nodeL cyI 320 nl, kx_a g_nodeR cyI 320 nr, kx_a g_part cyI 320 u.2.2.2.2.2.2.2.2.2]) A) ([.ref h0, .int p0, .int p1, .int 320, .int p2] : List Value).toArray s 0 0 A) (F0 m 20 ls []) := by
    intro n
    induction n with
    | zero => intro j k_am km kl ke kvv kvn kav kan LP1_h0 LP1_h1 LP1_h2 LP1_h3 LP1_h4 hn; exact absurd hn (Nat.not_lt_zero _)
    | succ n ih1 =>
      intro j k_am km kl ke kvv kvn kav kan LP1_h0 LP1_h1 LP1_h2 LP1_h3 LP1_h4 hn1 H locs hP hD hS ls hl
      have n_j := ki_nat j rfl (om_51 LP1_h0)
      refine lv_iload hx hb dX5_folds_20 (lv_at hl 0 rfl) ?_
      refine lv_aload_n hx hb dX5_folds_22 rfl (lv_at hl 1 rfl) ?_
      refine va_get (D := (dC, dI)) (ci := 5) (v := .int o_2) (C := RX5) (T := TX5) (N := 30) hx hb hts hi_5 hown hK hP 0 rfl rfl 16 (by decide) hf_115 (fun _ h9 => h9) rfl dX5_folds_23 ?_
      refine lv_icmp_ge (tgt := 50) hx hb dX5_folds_26 (by decide) (fun c_14 => ?_) (fun c_14 => ?_)
      · have i_14 : o_2.toInt ≤ j.toInt := kc_le c_14
        have hP9 := hP
        have hD9 := hD
        have hK9 := hK
        exact W.vret hx hb hr (hlocks := hlocks) (fun t ht hW => ⟨⟨(k_am, o_2, km, kl, ke, kvv, kvn, kav, kan, o_3), rfl, ⟨LP1_h2, w_1.2.2.1, LP1_h3, mj_F_self LP1_h4 LP1_h3 (by (try dsimp only); omega)⟩, by rw [ht]; exact hP9, va_K.moved hW.alike hK9, hD9⟩, hS.F ht⟩) hS.2.2 dX5_folds_50
      · have i_14 : j.toInt < o_2.toInt := kc_nle c_14
        refine lv_aload_n hx hb dX5_folds_29 rfl (lv_at hl 1 rfl) ?_
        refine lv_iload_n hx hb dX5_folds_30 rfl (lv_at hl 4 rfl) ?_
        refine lv_aload_n hx hb dX5_folds_31 rfl (lv_at hl 1 rfl) ?_
        refine va_get (D := (dC, dI)) (ci := 5) (v := .ref g_part) (C := RX5) (T := TX5) (N := 30) hx hb hts hi_5 hown hK hP 0 rfl rfl 15 (by decide) hf_44 (fun _ h9 => h9) rfl dX5_folds_32 ?_
        refine lv_iload hx hb dX5_folds_35 (lv_at hl 0 rfl) ?_
        refine va_iald hx hb hK hP 10 0 rfl rfl (ki_in (om_51 LP1_h0) (om_371 b1 w_1.2.2.2.2 LP1_h1)) dX5_folds_37 ?_
        refine lv_topi (fun y_15 ey_15 => ?_)
        have j_15 : y_15.toInt = (o_3 j.toNatClampNeg).toInt := congrArg Int32.toInt ey_15
        have n_16 : (j.toNatClampNeg : Int) = j.toInt := ki_nat _ rfl (om_51 LP1_h0)
        have i_17 := w_1.2.2.1 j.toNatClampNeg (om_ln n_16 (om_371 b1 w_1.2.2.2.2 LP1_h1))
        obtain ⟨k9, z1, z2, z3⟩ := mj_pq_at nl nr p0.toInt p1.toInt j.toNatClampNeg m_nodes.toNatClampNeg (by omega)
        have z4 := w_1.2.1 k9 z1 z2
        rw [z3] at z4
        have z5 : y_15.toNatClampNeg = k9 := by have := ki_nat y_15 rfl (by omega); omega
        obtain ⟨w0, w6, wK, mub, hvb, hsb, hbb⟩ := mj_L_vs hL (by omega) k9 (by omega)
        obtain ⟨u0, u6, hvg, elg⟩ := mj_vs_ag LP1_h3 (show k9 < 320 by omega) w0 w6 hvb
        obtain ⟨mua, L0, hH, hva, hsa, c0, cK, eL, hba⟩ := LP1_h4
        refine lv_iload_n hx hb dX5_folds_38 rfl (lv_at hl 4 rfl) ?_
        refine lv_iload hx hb dX5_folds_39 (lv_at hl 5 rfl) ?_
        obtain ⟨hPc, hDc, hFc, hCc⟩ := kx_preM (wc := [kx_5 h0 g_row m_n m_slots m_thrown g_many g_loss g_less g_voteValue g_voteNumber g_allValue g_allNumber k_am g_nodeL g_nodeR m_nodes g_part o_2 g_wasMany g_wasLoss g_wasValue g_wasNumber g_path m_pathMany g_heavyValue g_heavyTimes m_heavyMany g_fewest g_which g_met m_mostMet, kx_a g_many cyI 324 km, kx_a g_loss cyI 324 kl, kx_a g_less cyI 324 ke, kx_a g_voteValue cyI 1944 kvv, kx_a g_voteNumber cyI 1944 kvn, kx_a g_allValue cyI 12 kav, kx_a g_allNumber cyI 12 kan]) hP hD hS hA [true, true, true, true, true, true, true, true, false, false, false] rfl
        have hKc := hK
        have k_18 : (320 : Int32).toInt = 320 := rfl
        refine va_callv (va_runV (As := [.int 320, .int y_15, .int 320, .int p2]) (rest := []) ⟨hx, hb, hml, hown, hts⟩ (kx_un (c_X5_together l dC dI h0 g_row g_many g_loss g_less g_voteValue g_voteNumber g_allValue g_allNumber g_nodeL g_nodeR g_part g_wasMany g_wasLoss g_wasValue g_wasNumber g_path g_heavyValue g_heavyTimes g_fewest g_which g_met m_n m_slots m_thrown k_am m_nodes o_2 m_pathMany m_heavyMany m_mostMet cyI km kl ke kvv kvn kav kan mua mub 320 y_15 320 p2 H.size (by omega) (by omega) (by omega) (by omega) (by omega) (by omega) (by omega) (by omega) c0 (Int.le_trans cK (by omega)) (by rw [z5]; exact u0) (by rw [z5]; exact u6) hva (by rw [z5]; exact hvg) (fun v => by have h1 := hba v; have h2 := hbb v; omega))) (cwV 4 hts gX5_folds_X5_together rfl rfl rfl (by decide +kernel) ⟨Nat.le_of_ble_eq_true rfl, Nat.le_of_ble_eq_true rfl⟩) ⟨fun a U g mk q => by obtain ⟨q0, q1, qP, qK, qD⟩ := q; exact ⟨q0, q1, qP, va_K.moved (u := U) (U := U.calling g mk a) (Vm.Alike.refl U.vm) qK, qD⟩, kx_rc5 hKc hPc (q0 := 0) rfl, fun U hU hW => ⟨rfl, by rw [hU], by rw [hU]; exact hPc, va_K.moved hW.alike hKc, hDc.weaken (fun _ _ _ _ => trivial)⟩⟩ rfl rfl hl.1 rfl (lv_room (Nat.le_of_ble_eq_true rfl)) dX5_folds_41 ⟨Nat.le_of_ble_eq_true rfl, Nat.le_of_ble_eq_true rfl⟩) hS (fun q _ h => hFc q h) hFc (fun u t H1 locs ht hvm w_19 hB hz1 hk1 hS => ?_)
        obtain ⟨o_20, o_21, o_22, o_23, o_24, o_25, o_26, o_27, o_28, o_29, o_30⟩ := u
        dsimp only at w_19 hB
        obtain ⟨hP1, hK1, hD1⟩ := hB
        rw [ht] at hP1
        have hK1 := va_K.moved hvm.symm hK1
        obtain ⟨hP, hD⟩ := kx_joinM (w2 := [kx_5 h0 g_row m_n m_slots m_thrown g_many g_loss g_less g_voteValue g_voteNumber g_allValue g_allNumber o_20 g_nodeL g_nodeR m_nodes g_part o_2 g_wasMany g_wasLoss g_wasValue g_wasNumber g_path m_pathMany g_heavyValue g_heavyTimes m_heavyMany g_fewest g_which g_met m_mostMet, kx_a g_many cyI 324 o_24, kx_a g_loss cyI 324 o_25, kx_a g_less cyI 324 o_26, kx_a g_voteValue cyI 1944 o_27, kx_a g_voteNumber cyI 1944 o_28, kx_a g_allValue cyI 12 o_29, kx_a g_allNumber cyI 12 o_30, kx_a g_nodeL cyI 320 nl, kx_a g_nodeR cyI 320 nr, kx_a g_part cyI 320 o_3]) hP hD hP1 hD1 hk1 hFc [true, true, true, true, true, true, true, true, false, false, false] hCc rfl
        clear hP1 hD1 hK1 hk1 hz1 hFc hDc hPc hKc hCc
        generalize H1 = H at hP hS ⊢
        have w_19 : mj_tog p2.toNatClampNeg mua mub o_23 o_21 ∧ o_25 = upd kl (320 : Int32).toNatClampNeg (kl (320 : Int32).toNatClampNeg + kl y_15.toNatClampNeg + o_21) ∧ o_26 = upd ke (320 : Int32).toNatClampNeg o_21 ∧ o_24 = upd km (320 : Int32).toNatClampNeg o_22 ∧ 0 ≤ o_22.toInt ∧ o_22.toInt ≤ p2.toInt ∧ mj_vs o_27 o_28 (6 * (320 : Int32).toNatClampNeg) o_22.toNatClampNeg o_23 ∧ mj_srt o_27 o_28 (6 * (320 : Int32).toNatClampNeg) o_22.toNatClampNeg ∧ ∀ q : Nat, (q < 6 * (320 : Int32).toNatClampNeg ∨ 6 * (320 : Int32).toNatClampNeg + 6 ≤ q) → o_27 q = kvv q ∧ o_28 q = kvn q := w_19
        obtain ⟨x_31, ex_31⟩ : ∃ y : Int32, y = j + 1 := ⟨_, rfl⟩
        have i_31 : x_31.toInt = j.toInt + 1 := ki_add ex_31 rfl rfl (om_40 LP1_h0) (om_372 b1 w_1.2.2.2.2 LP1_h1)
        refine lv_iinc (v := x_31) (lv' := [(5, .int x_31), (0, .ref h0), (1, .int p0), (2, .int p1), (3, .int 320), (4, .int p2)]) hx hb dX5_folds_44 hl (k := 0) rfl (by rw [ex_31]; rfl) (by decide) rfl (fun ls hl => ?_)
        refine lv_goto (tgt := 20) hx hb dX5_folds_47 (by decide) ?_
        have n_32 := ki_nat x_31 rfl (om_377 LP1_h0 i_31)
        have t_fl := w_19.2.1
        rw [z5] at t_fl
        have t_fm := w_19.2.2.2.1
        have t_fe := w_19.2.2.1
        exact ih1 x_31 o_20 o_24 o_25 o_26 o_27 o_28 o_29 o_30 (om_41 LP1_h0 i_31) (om_54 i_14 i_31) (by rw [t_fm]; exact six4_upd LP1_h2 w_19.2.2.2.2.1 (Int.le_trans w_19.2.2.2.2.2.1 (by omega))) (mj_ag_tg LP1_h3 t_fm t_fl t_fe w_19.2.2.2.2.2.2.2.2) (mj_F_step hH (by omega) z2 z3 w0 w6 hvb w_19.1 t_fl eL elg t_fm w_19.2.2.2.2.1 (Int.le_trans w_19.2.2.2.2.2.1 (by omega)) w_19.2.2.2.2.2.2.1 w_19.2.2.2.2.2.2.2.1 hba hbb (by omega)) (om_mu hn1 (om_5 i_31) (om_6 i_14)) _ _ hP hD hS ls (lv_sub hl [0, 1, 2, 3, 4, 5] rfl)
  have k_33 : (1 : Int32).toInt = 1 := rfl
  exact LP1 ((o_2.toInt - 1 : Int).toNat + 1) 1 m_allMany o_9 o_10 o_11 o_12 o_13 av an om_52 (by omega) hs1 hg1 hF1 (Nat.lt_succ_self _) _ _ hP hD hS ls (lv_sub hl [0, 1, 2, 3, 4, 5] rfl)



abbrev cX5_asked : ByteArray := prog_7_method_37_code
def yX5_asked : MethodName := ⟨RX5, "asked", "(II)I"⟩
abbrev cX5_node : ByteArray := prog_7_method_38_code
def yX5_node : MethodName := ⟨RX5, "node", "(II)I"⟩
abbrev cX5_vote : ByteArray := prog_7_method_39_code
def yX5_vote : MethodName := ⟨RX5, "vote", "(IIII)I"⟩
abbrev cX5_loss : ByteArray := prog_7_method_40_code
def yX5_loss : MethodName := ⟨RX5, "loss", "(II)I"⟩
abbrev cX5_cancelled : ByteArray := prog_7_method_41_code
def yX5_cancelled : MethodName := ⟨RX5, "cancelled", "(II)I"⟩
abbrev cX5_goesDown : ByteArray := prog_7_method_42_code
def yX5_goesDown : MethodName := ⟨RX5, "goesDown", "(I)V"⟩
abbrev cX5_above : ByteArray := prog_7_method_43_code
def yX5_above : MethodName := ⟨RX5, "above", "(III)I"⟩
abbrev cX5_holds : ByteArray := prog_7_method_44_code
def yX5_holds : MethodName := ⟨RX5, "holds", "(I)I"⟩
def wsX5_asked_r1 : List Cond := [Cond.fieldLink RX5 13 "MajorityIndexModel" "slots" "I", Cond.methodLink RX5 142 yX5_isRange, Cond.instanceMethod yX5_isRange, Cond.selects RX5 yX5_isRange yX5_isRange, Cond.initialized RX5, Cond.code yX5_isRange cX5_isRange 3 (some .boolean), Cond.fieldLink RX5 84 "MajorityIndexModel" "n" "I", Cond.methodLink RX5 124 yX5_laysAll, Cond.instanceMethod yX5_laysAll, Cond.selects RX5 yX5_laysAll yX5_laysAll, Cond.code yX5_laysAll cX5_laysAll 2 none, Cond.fieldLink RX5 101 "MajorityIndexModel" "nodes" "I", Cond.methodLink RX5 107 yX5_lays, Cond.instanceMethod yX5_lays, Cond.selects RX5 yX5_lays yX5_lays, Cond.code yX5_lays cX5_lays 8 (some .int), Cond.fieldLink RX5 38 "MajorityIndexModel" "nodeL" "[I", Cond.fieldLink RX5 41 "MajorityIndexModel" "nodeR" "[I", Cond.fieldLink RX5 7 "MajorityIndexModel" "row" "[I", Cond.methodLink RX5 104 yX5_one, Cond.instanceMethod yX5_one, Cond.selects RX5 yX5_one yX5_one, Cond.code yX5_one cX5_one 3 none, Cond.fieldLink RX5 17 "MajorityIndexModel" "many" "[I"]
def wsX5_asked_r2 : List Cond := [Cond.fieldLink RX5 20 "MajorityIndexModel" "loss" "[I", Cond.fieldLink RX5 23 "MajorityIndexModel" "less" "[I", Cond.fieldLink RX5 26 "MajorityIndexModel" "voteValue" "[I", Cond.fieldLink RX5 29 "MajorityIndexModel" "voteNumber" "[I", Cond.methodLink RX5 111 yX5_together, Cond.instanceMethod yX5_together, Cond.selects RX5 yX5_together yX5_together, Cond.code yX5_together cX5_together 9 none, Cond.fieldLink RX5 87 "MajorityIndexModel" "allMany" "I", Cond.fieldLink RX5 35 "MajorityIndexModel" "allNumber" "[I", Cond.fieldLink RX5 32 "MajorityIndexModel" "allValue" "[I", Cond.methodLink RX5 94 yX5_adds, Cond.instanceMethod yX5_adds, Cond.selects RX5 yX5_adds yX5_adds, Cond.code yX5_adds cX5_adds 4 none, Cond.methodLink RX5 98 yX5_sorts, Cond.instanceMethod yX5_sorts, Cond.selects RX5 yX5_sorts yX5_sorts, Cond.code yX5_sorts cX5_sorts 4 none, Cond.methodLink RX5 90 yX5_isAhead, Cond.instanceMethod yX5_isAhead, Cond.selects RX5 yX5_isAhead yX5_isAhead, Cond.code yX5_isAhead cX5_isAhead 3 (some .boolean), Cond.methodLink RX5 152 yX5_nodeOf]
def wsX5_asked_r3 : List Cond := [Cond.instanceMethod yX5_nodeOf, Cond.selects RX5 yX5_nodeOf yX5_nodeOf, Cond.code yX5_nodeOf cX5_nodeOf 4 (some .int)]
def wsX5_asked : List Cond := .code yX5_asked cX5_asked 3 (some .int) :: ((wsX5_asked_r1 ++ (wsX5_asked_r2 ++ wsX5_asked_r3)) ++ wsX50)
def wsX5_node_r1 : List Cond := [Cond.fieldLink RX5 77 "MajorityIndexModel" "thrown" "I", Cond.fieldLink RX5 17 "MajorityIndexModel" "many" "[I", Cond.methodLink RX5 156 yX5_asked, Cond.instanceMethod yX5_asked, Cond.selects RX5 yX5_asked yX5_asked, Cond.initialized RX5, Cond.code yX5_asked cX5_asked 3 (some .int), Cond.fieldLink RX5 13 "MajorityIndexModel" "slots" "I", Cond.methodLink RX5 142 yX5_isRange, Cond.instanceMethod yX5_isRange, Cond.selects RX5 yX5_isRange yX5_isRange, Cond.code yX5_isRange cX5_isRange 3 (some .boolean), Cond.fieldLink RX5 84 "MajorityIndexModel" "n" "I", Cond.methodLink RX5 124 yX5_laysAll, Cond.instanceMethod yX5_laysAll, Cond.selects RX5 yX5_laysAll yX5_laysAll, Cond.code yX5_laysAll cX5_laysAll 2 none, Cond.fieldLink RX5 101 "MajorityIndexModel" "nodes" "I", Cond.methodLink RX5 107 yX5_lays, Cond.instanceMethod yX5_lays, Cond.selects RX5 yX5_lays yX5_lays, Cond.code yX5_lays cX5_lays 8 (some .int), Cond.fieldLink RX5 38 "MajorityIndexModel" "nodeL" "[I", Cond.fieldLink RX5 41 "MajorityIndexModel" "nodeR" "[I"]
def wsX5_node_r2 : List Cond := [Cond.fieldLink RX5 7 "MajorityIndexModel" "row" "[I", Cond.methodLink RX5 104 yX5_one, Cond.instanceMethod yX5_one, Cond.selects RX5 yX5_one yX5_one, Cond.code yX5_one cX5_one 3 none, Cond.fieldLink RX5 20 "MajorityIndexModel" "loss" "[I", Cond.fieldLink RX5 23 "MajorityIndexModel" "less" "[I", Cond.fieldLink RX5 26 "MajorityIndexModel" "voteValue" "[I", Cond.fieldLink RX5 29 "MajorityIndexModel" "voteNumber" "[I", Cond.methodLink RX5 111 yX5_together, Cond.instanceMethod yX5_together, Cond.selects RX5 yX5_together yX5_together, Cond.code yX5_together cX5_together 9 none, Cond.fieldLink RX5 87 "MajorityIndexModel" "allMany" "I", Cond.fieldLink RX5 35 "MajorityIndexModel" "allNumber" "[I", Cond.fieldLink RX5 32 "MajorityIndexModel" "allValue" "[I", Cond.methodLink RX5 94 yX5_adds, Cond.instanceMethod yX5_adds, Cond.selects RX5 yX5_adds yX5_adds, Cond.code yX5_adds cX5_adds 4 none, Cond.methodLink RX5 98 yX5_sorts, Cond.instanceMethod yX5_sorts, Cond.selects RX5 yX5_sorts yX5_sorts, Cond.code yX5_sorts cX5_sorts 4 none]
def wsX5_node_r3 : List Cond := [Cond.methodLink RX5 90 yX5_isAhead, Cond.instanceMethod yX5_isAhead, Cond.selects RX5 yX5_isAhead yX5_isAhead, Cond.code yX5_isAhead cX5_isAhead 3 (some .boolean), Cond.methodLink RX5 152 yX5_nodeOf, Cond.instanceMethod yX5_nodeOf, Cond.selects RX5 yX5_nodeOf yX5_nodeOf, Cond.code yX5_nodeOf cX5_nodeOf 4 (some .int)]
def wsX5_node : List Cond := .code yX5_node cX5_node 4 (some .int) :: ((wsX5_node_r1 ++ (wsX5_node_r2 ++ wsX5_node_r3)) ++ wsX50)
def wsX5_vote_r1 : List Cond := [Cond.fieldLink RX5 77 "MajorityIndexModel" "thrown" "I", Cond.fieldLink RX5 17 "MajorityIndexModel" "many" "[I", Cond.fieldLink RX5 26 "MajorityIndexModel" "voteValue" "[I", Cond.fieldLink RX5 29 "MajorityIndexModel" "voteNumber" "[I", Cond.methodLink RX5 156 yX5_asked, Cond.instanceMethod yX5_asked, Cond.selects RX5 yX5_asked yX5_asked, Cond.initialized RX5, Cond.code yX5_asked cX5_asked 3 (some .int), Cond.fieldLink RX5 13 "MajorityIndexModel" "slots" "I", Cond.methodLink RX5 142 yX5_isRange, Cond.instanceMethod yX5_isRange, Cond.selects RX5 yX5_isRange yX5_isRange, Cond.code yX5_isRange cX5_isRange 3 (some .boolean), Cond.fieldLink RX5 84 "MajorityIndexModel" "n" "I", Cond.methodLink RX5 124 yX5_laysAll, Cond.instanceMethod yX5_laysAll, Cond.selects RX5 yX5_laysAll yX5_laysAll, Cond.code yX5_laysAll cX5_laysAll 2 none, Cond.fieldLink RX5 101 "MajorityIndexModel" "nodes" "I", Cond.methodLink RX5 107 yX5_lays, Cond.instanceMethod yX5_lays, Cond.selects RX5 yX5_lays yX5_lays, Cond.code yX5_lays cX5_lays 8 (some .int)]
def wsX5_vote_r2 : List Cond := [Cond.fieldLink RX5 38 "MajorityIndexModel" "nodeL" "[I", Cond.fieldLink RX5 41 "MajorityIndexModel" "nodeR" "[I", Cond.fieldLink RX5 7 "MajorityIndexModel" "row" "[I", Cond.methodLink RX5 104 yX5_one, Cond.instanceMethod yX5_one, Cond.selects RX5 yX5_one yX5_one, Cond.code yX5_one cX5_one 3 none, Cond.fieldLink RX5 20 "MajorityIndexModel" "loss" "[I", Cond.fieldLink RX5 23 "MajorityIndexModel" "less" "[I", Cond.methodLink RX5 111 yX5_together, Cond.instanceMethod yX5_together, Cond.selects RX5 yX5_together yX5_together, Cond.code yX5_together cX5_together 9 none, Cond.fieldLink RX5 87 "MajorityIndexModel" "allMany" "I", Cond.fieldLink RX5 35 "MajorityIndexModel" "allNumber" "[I", Cond.fieldLink RX5 32 "MajorityIndexModel" "allValue" "[I", Cond.methodLink RX5 94 yX5_adds, Cond.instanceMethod yX5_adds, Cond.selects RX5 yX5_adds yX5_adds, Cond.code yX5_adds cX5_adds 4 none, Cond.methodLink RX5 98 yX5_sorts, Cond.instanceMethod yX5_sorts, Cond.selects RX5 yX5_sorts yX5_sorts, Cond.code yX5_sorts cX5_sorts 4 none]
def wsX5_vote_r3 : List Cond := [Cond.methodLink RX5 90 yX5_isAhead, Cond.instanceMethod yX5_isAhead, Cond.selects RX5 yX5_isAhead yX5_isAhead, Cond.code yX5_isAhead cX5_isAhead 3 (some .boolean), Cond.methodLink RX5 152 yX5_nodeOf, Cond.instanceMethod yX5_nodeOf, Cond.selects RX5 yX5_nodeOf yX5_nodeOf, Cond.code yX5_nodeOf cX5_nodeOf 4 (some .int), Cond.methodLink RX5 80 yX5_within, Cond.static yX5_within, Cond.code yX5_within cX5_within 3 (some .boolean)]
def wsX5_vote : List Cond := .code yX5_vote cX5_vote 6 (some .int) :: ((wsX5_vote_r1 ++ (wsX5_vote_r2 ++ wsX5_vote_r3)) ++ wsX50)
def wsX5_loss_r1 : List Cond := [Cond.fieldLink RX5 77 "MajorityIndexModel" "thrown" "I", Cond.fieldLink RX5 20 "MajorityIndexModel" "loss" "[I", Cond.methodLink RX5 156 yX5_asked, Cond.instanceMethod yX5_asked, Cond.selects RX5 yX5_asked yX5_asked, Cond.initialized RX5, Cond.code yX5_asked cX5_asked 3 (some .int), Cond.fieldLink RX5 13 "MajorityIndexModel" "slots" "I", Cond.methodLink RX5 142 yX5_isRange, Cond.instanceMethod yX5_isRange, Cond.selects RX5 yX5_isRange yX5_isRange, Cond.code yX5_isRange cX5_isRange 3 (some .boolean), Cond.fieldLink RX5 84 "MajorityIndexModel" "n" "I", Cond.methodLink RX5 124 yX5_laysAll, Cond.instanceMethod yX5_laysAll, Cond.selects RX5 yX5_laysAll yX5_laysAll, Cond.code yX5_laysAll cX5_laysAll 2 none, Cond.fieldLink RX5 101 "MajorityIndexModel" "nodes" "I", Cond.methodLink RX5 107 yX5_lays, Cond.instanceMethod yX5_lays, Cond.selects RX5 yX5_lays yX5_lays, Cond.code yX5_lays cX5_lays 8 (some .int), Cond.fieldLink RX5 38 "MajorityIndexModel" "nodeL" "[I", Cond.fieldLink RX5 41 "MajorityIndexModel" "nodeR" "[I"]
def wsX5_loss_r2 : List Cond := [Cond.fieldLink RX5 7 "MajorityIndexModel" "row" "[I", Cond.methodLink RX5 104 yX5_one, Cond.instanceMethod yX5_one, Cond.selects RX5 yX5_one yX5_one, Cond.code yX5_one cX5_one 3 none, Cond.fieldLink RX5 17 "MajorityIndexModel" "many" "[I", Cond.fieldLink RX5 23 "MajorityIndexModel" "less" "[I", Cond.fieldLink RX5 26 "MajorityIndexModel" "voteValue" "[I", Cond.fieldLink RX5 29 "MajorityIndexModel" "voteNumber" "[I", Cond.methodLink RX5 111 yX5_together, Cond.instanceMethod yX5_together, Cond.selects RX5 yX5_together yX5_together, Cond.code yX5_together cX5_together 9 none, Cond.fieldLink RX5 87 "MajorityIndexModel" "allMany" "I", Cond.fieldLink RX5 35 "MajorityIndexModel" "allNumber" "[I", Cond.fieldLink RX5 32 "MajorityIndexModel" "allValue" "[I", Cond.methodLink RX5 94 yX5_adds, Cond.instanceMethod yX5_adds, Cond.selects RX5 yX5_adds yX5_adds, Cond.code yX5_adds cX5_adds 4 none, Cond.methodLink RX5 98 yX5_sorts, Cond.instanceMethod yX5_sorts, Cond.selects RX5 yX5_sorts yX5_sorts, Cond.code yX5_sorts cX5_sorts 4 none]
def wsX5_loss_r3 : List Cond := [Cond.methodLink RX5 90 yX5_isAhead, Cond.instanceMethod yX5_isAhead, Cond.selects RX5 yX5_isAhead yX5_isAhead, Cond.code yX5_isAhead cX5_isAhead 3 (some .boolean), Cond.methodLink RX5 152 yX5_nodeOf, Cond.instanceMethod yX5_nodeOf, Cond.selects RX5 yX5_nodeOf yX5_nodeOf, Cond.code yX5_nodeOf cX5_nodeOf 4 (some .int)]
def wsX5_loss : List Cond := .code yX5_loss cX5_loss 4 (some .int) :: ((wsX5_loss_r1 ++ (wsX5_loss_r2 ++ wsX5_loss_r3)) ++ wsX50)
def wsX5_cancelled_r1 : List Cond := [Cond.fieldLink RX5 77 "MajorityIndexModel" "thrown" "I", Cond.fieldLink RX5 23 "MajorityIndexModel" "less" "[I", Cond.methodLink RX5 156 yX5_asked, Cond.instanceMethod yX5_asked, Cond.selects RX5 yX5_asked yX5_asked, Cond.initialized RX5, Cond.code yX5_asked cX5_asked 3 (some .int), Cond.fieldLink RX5 13 "MajorityIndexModel" "slots" "I", Cond.methodLink RX5 142 yX5_isRange, Cond.instanceMethod yX5_isRange, Cond.selects RX5 yX5_isRange yX5_isRange, Cond.code yX5_isRange cX5_isRange 3 (some .boolean), Cond.fieldLink RX5 84 "MajorityIndexModel" "n" "I", Cond.methodLink RX5 124 yX5_laysAll, Cond.instanceMethod yX5_laysAll, Cond.selects RX5 yX5_laysAll yX5_laysAll, Cond.code yX5_laysAll cX5_laysAll 2 none, Cond.fieldLink RX5 101 "MajorityIndexModel" "nodes" "I", Cond.methodLink RX5 107 yX5_lays, Cond.instanceMethod yX5_lays, Cond.selects RX5 yX5_lays yX5_lays, Cond.code yX5_lays cX5_lays 8 (some .int), Cond.fieldLink RX5 38 "MajorityIndexModel" "nodeL" "[I", Cond.fieldLink RX5 41 "MajorityIndexModel" "nodeR" "[I"]
def wsX5_cancelled_r2 : List Cond := [Cond.fieldLink RX5 7 "MajorityIndexModel" "row" "[I", Cond.methodLink RX5 104 yX5_one, Cond.instanceMethod yX5_one, Cond.selects RX5 yX5_one yX5_one, Cond.code yX5_one cX5_one 3 none, Cond.fieldLink RX5 17 "MajorityIndexModel" "many" "[I", Cond.fieldLink RX5 20 "MajorityIndexModel" "loss" "[I", Cond.fieldLink RX5 26 "MajorityIndexModel" "voteValue" "[I", Cond.fieldLink RX5 29 "MajorityIndexModel" "voteNumber" "[I", Cond.methodLink RX5 111 yX5_together, Cond.instanceMethod yX5_together, Cond.selects RX5 yX5_together yX5_together, Cond.code yX5_together cX5_together 9 none, Cond.fieldLink RX5 87 "MajorityIndexModel" "allMany" "I", Cond.fieldLink RX5 35 "MajorityIndexModel" "allNumber" "[I", Cond.fieldLink RX5 32 "MajorityIndexModel" "allValue" "[I", Cond.methodLink RX5 94 yX5_adds, Cond.instanceMethod yX5_adds, Cond.selects RX5 yX5_adds yX5_adds, Cond.code yX5_adds cX5_adds 4 none, Cond.methodLink RX5 98 yX5_sorts, Cond.instanceMethod yX5_sorts, Cond.selects RX5 yX5_sorts yX5_sorts, Cond.code yX5_sorts cX5_sorts 4 none]
def wsX5_cancelled_r3 : List Cond := [Cond.methodLink RX5 90 yX5_isAhead, Cond.instanceMethod yX5_isAhead, Cond.selects RX5 yX5_isAhead yX5_isAhead, Cond.code yX5_isAhead cX5_isAhead 3 (some .boolean), Cond.methodLink RX5 152 yX5_nodeOf, Cond.instanceMethod yX5_nodeOf, Cond.selects RX5 yX5_nodeOf yX5_nodeOf, Cond.code yX5_nodeOf cX5_nodeOf 4 (some .int)]
def wsX5_cancelled : List Cond := .code yX5_cancelled cX5_cancelled 4 (some .int) :: ((wsX5_cancelled_r1 ++ (wsX5_cancelled_r2 ++ wsX5_cancelled_r3)) ++ wsX50)
def wsX5_goesDown_r1 : List Cond := [Cond.fieldLink RX5 13 "MajorityIndexModel" "slots" "I", Cond.fieldLink RX5 159 "MajorityIndexModel" "pathMany" "I", Cond.fieldLink RX5 101 "MajorityIndexModel" "nodes" "I", Cond.fieldLink RX5 38 "MajorityIndexModel" "nodeL" "[I", Cond.fieldLink RX5 41 "MajorityIndexModel" "nodeR" "[I", Cond.fieldLink RX5 59 "MajorityIndexModel" "path" "[I", Cond.methodLink RX5 124 yX5_laysAll, Cond.instanceMethod yX5_laysAll, Cond.selects RX5 yX5_laysAll yX5_laysAll, Cond.initialized RX5, Cond.code yX5_laysAll cX5_laysAll 2 none, Cond.fieldLink RX5 84 "MajorityIndexModel" "n" "I", Cond.methodLink RX5 107 yX5_lays, Cond.instanceMethod yX5_lays, Cond.selects RX5 yX5_lays yX5_lays, Cond.code yX5_lays cX5_lays 8 (some .int), Cond.fieldLink RX5 7 "MajorityIndexModel" "row" "[I", Cond.methodLink RX5 104 yX5_one, Cond.instanceMethod yX5_one, Cond.selects RX5 yX5_one yX5_one, Cond.code yX5_one cX5_one 3 none, Cond.fieldLink RX5 17 "MajorityIndexModel" "many" "[I", Cond.fieldLink RX5 20 "MajorityIndexModel" "loss" "[I", Cond.fieldLink RX5 23 "MajorityIndexModel" "less" "[I"]
def wsX5_goesDown_r2 : List Cond := [Cond.fieldLink RX5 26 "MajorityIndexModel" "voteValue" "[I", Cond.fieldLink RX5 29 "MajorityIndexModel" "voteNumber" "[I", Cond.methodLink RX5 111 yX5_together, Cond.instanceMethod yX5_together, Cond.selects RX5 yX5_together yX5_together, Cond.code yX5_together cX5_together 9 none, Cond.fieldLink RX5 87 "MajorityIndexModel" "allMany" "I", Cond.fieldLink RX5 35 "MajorityIndexModel" "allNumber" "[I", Cond.fieldLink RX5 32 "MajorityIndexModel" "allValue" "[I", Cond.methodLink RX5 94 yX5_adds, Cond.instanceMethod yX5_adds, Cond.selects RX5 yX5_adds yX5_adds, Cond.code yX5_adds cX5_adds 4 none, Cond.methodLink RX5 98 yX5_sorts, Cond.instanceMethod yX5_sorts, Cond.selects RX5 yX5_sorts yX5_sorts, Cond.code yX5_sorts cX5_sorts 4 none, Cond.methodLink RX5 90 yX5_isAhead, Cond.instanceMethod yX5_isAhead, Cond.selects RX5 yX5_isAhead yX5_isAhead, Cond.code yX5_isAhead cX5_isAhead 3 (some .boolean)]
def wsX5_goesDown : List Cond := .code yX5_goesDown cX5_goesDown 3 none :: ((wsX5_goesDown_r1 ++ wsX5_goesDown_r2) ++ wsX50)
def wsX5_above_r1 : List Cond := [Cond.fieldLink RX5 77 "MajorityIndexModel" "thrown" "I", Cond.fieldLink RX5 159 "MajorityIndexModel" "pathMany" "I", Cond.fieldLink RX5 38 "MajorityIndexModel" "nodeL" "[I", Cond.fieldLink RX5 59 "MajorityIndexModel" "path" "[I", Cond.fieldLink RX5 41 "MajorityIndexModel" "nodeR" "[I", Cond.fieldLink RX5 7 "MajorityIndexModel" "row" "[I", Cond.methodLink RX5 128 yX5_isPlace, Cond.instanceMethod yX5_isPlace, Cond.selects RX5 yX5_isPlace yX5_isPlace, Cond.initialized RX5, Cond.code yX5_isPlace cX5_isPlace 2 (some .boolean), Cond.fieldLink RX5 84 "MajorityIndexModel" "n" "I", Cond.methodLink RX5 80 yX5_within, Cond.static yX5_within, Cond.code yX5_within cX5_within 3 (some .boolean), Cond.methodLink RX5 162 yX5_goesDown, Cond.instanceMethod yX5_goesDown, Cond.selects RX5 yX5_goesDown yX5_goesDown, Cond.code yX5_goesDown cX5_goesDown 3 none, Cond.fieldLink RX5 13 "MajorityIndexModel" "slots" "I", Cond.fieldLink RX5 101 "MajorityIndexModel" "nodes" "I", Cond.methodLink RX5 124 yX5_laysAll, Cond.instanceMethod yX5_laysAll, Cond.selects RX5 yX5_laysAll yX5_laysAll]
def wsX5_above_r2 : List Cond := [Cond.code yX5_laysAll cX5_laysAll 2 none, Cond.methodLink RX5 107 yX5_lays, Cond.instanceMethod yX5_lays, Cond.selects RX5 yX5_lays yX5_lays, Cond.code yX5_lays cX5_lays 8 (some .int), Cond.methodLink RX5 104 yX5_one, Cond.instanceMethod yX5_one, Cond.selects RX5 yX5_one yX5_one, Cond.code yX5_one cX5_one 3 none, Cond.fieldLink RX5 17 "MajorityIndexModel" "many" "[I", Cond.fieldLink RX5 20 "MajorityIndexModel" "loss" "[I", Cond.fieldLink RX5 23 "MajorityIndexModel" "less" "[I", Cond.fieldLink RX5 26 "MajorityIndexModel" "voteValue" "[I", Cond.fieldLink RX5 29 "MajorityIndexModel" "voteNumber" "[I", Cond.methodLink RX5 111 yX5_together, Cond.instanceMethod yX5_together, Cond.selects RX5 yX5_together yX5_together, Cond.code yX5_together cX5_together 9 none, Cond.fieldLink RX5 87 "MajorityIndexModel" "allMany" "I", Cond.fieldLink RX5 35 "MajorityIndexModel" "allNumber" "[I", Cond.fieldLink RX5 32 "MajorityIndexModel" "allValue" "[I", Cond.methodLink RX5 94 yX5_adds, Cond.instanceMethod yX5_adds, Cond.selects RX5 yX5_adds yX5_adds]
def wsX5_above_r3 : List Cond := [Cond.code yX5_adds cX5_adds 4 none, Cond.methodLink RX5 98 yX5_sorts, Cond.instanceMethod yX5_sorts, Cond.selects RX5 yX5_sorts yX5_sorts, Cond.code yX5_sorts cX5_sorts 4 none, Cond.methodLink RX5 90 yX5_isAhead, Cond.instanceMethod yX5_isAhead, Cond.selects RX5 yX5_isAhead yX5_isAhead, Cond.code yX5_isAhead cX5_isAhead 3 (some .boolean), Cond.methodLink RX5 165 yX5_numberOf, Cond.instanceMethod yX5_numberOf, Cond.selects RX5 yX5_numberOf yX5_numberOf, Cond.code yX5_numberOf cX5_numberOf 4 (some .int)]
def wsX5_above : List Cond := .code yX5_above cX5_above 4 (some .int) :: ((wsX5_above_r1 ++ (wsX5_above_r2 ++ wsX5_above_r3)) ++ wsX50)
def wsX5_holds_r1 : List Cond := [Cond.fieldLink RX5 77 "MajorityIndexModel" "thrown" "I", Cond.fieldLink RX5 159 "MajorityIndexModel" "pathMany" "I", Cond.fieldLink RX5 59 "MajorityIndexModel" "path" "[I", Cond.fieldLink RX5 7 "MajorityIndexModel" "row" "[I", Cond.methodLink RX5 128 yX5_isPlace, Cond.instanceMethod yX5_isPlace, Cond.selects RX5 yX5_isPlace yX5_isPlace, Cond.initialized RX5, Cond.code yX5_isPlace cX5_isPlace 2 (some .boolean), Cond.fieldLink RX5 84 "MajorityIndexModel" "n" "I", Cond.methodLink RX5 80 yX5_within, Cond.static yX5_within, Cond.code yX5_within cX5_within 3 (some .boolean), Cond.methodLink RX5 162 yX5_goesDown, Cond.instanceMethod yX5_goesDown, Cond.selects RX5 yX5_goesDown yX5_goesDown, Cond.code yX5_goesDown cX5_goesDown 3 none, Cond.fieldLink RX5 13 "MajorityIndexModel" "slots" "I", Cond.fieldLink RX5 101 "MajorityIndexModel" "nodes" "I", Cond.fieldLink RX5 38 "MajorityIndexModel" "nodeL" "[I", Cond.fieldLink RX5 41 "MajorityIndexModel" "nodeR" "[I", Cond.methodLink RX5 124 yX5_laysAll, Cond.instanceMethod yX5_laysAll, Cond.selects RX5 yX5_laysAll yX5_laysAll]
def wsX5_holds_r2 : List Cond := [Cond.code yX5_laysAll cX5_laysAll 2 none, Cond.methodLink RX5 107 yX5_lays, Cond.instanceMethod yX5_lays, Cond.selects RX5 yX5_lays yX5_lays, Cond.code yX5_lays cX5_lays 8 (some .int), Cond.methodLink RX5 104 yX5_one, Cond.instanceMethod yX5_one, Cond.selects RX5 yX5_one yX5_one, Cond.code yX5_one cX5_one 3 none, Cond.fieldLink RX5 17 "MajorityIndexModel" "many" "[I", Cond.fieldLink RX5 20 "MajorityIndexModel" "loss" "[I", Cond.fieldLink RX5 23 "MajorityIndexModel" "less" "[I", Cond.fieldLink RX5 26 "MajorityIndexModel" "voteValue" "[I", Cond.fieldLink RX5 29 "MajorityIndexModel" "voteNumber" "[I", Cond.methodLink RX5 111 yX5_together, Cond.instanceMethod yX5_together, Cond.selects RX5 yX5_together yX5_together, Cond.code yX5_together cX5_together 9 none, Cond.fieldLink RX5 87 "MajorityIndexModel" "allMany" "I", Cond.fieldLink RX5 35 "MajorityIndexModel" "allNumber" "[I", Cond.fieldLink RX5 32 "MajorityIndexModel" "allValue" "[I", Cond.methodLink RX5 94 yX5_adds, Cond.instanceMethod yX5_adds, Cond.selects RX5 yX5_adds yX5_adds]
def wsX5_holds_r3 : List Cond := [Cond.code yX5_adds cX5_adds 4 none, Cond.methodLink RX5 98 yX5_sorts, Cond.instanceMethod yX5_sorts, Cond.selects RX5 yX5_sorts yX5_sorts, Cond.code yX5_sorts cX5_sorts 4 none, Cond.methodLink RX5 90 yX5_isAhead, Cond.instanceMethod yX5_isAhead, Cond.selects RX5 yX5_isAhead yX5_isAhead, Cond.code yX5_isAhead cX5_isAhead 3 (some .boolean), Cond.methodLink RX5 165 yX5_numberOf, Cond.instanceMethod yX5_numberOf, Cond.selects RX5 yX5_numberOf yX5_numberOf, Cond.code yX5_numberOf cX5_numberOf 4 (some .int)]
def wsX5_holds : List Cond := .code yX5_holds cX5_holds 3 (some .int) :: ((wsX5_holds_r1 ++ (wsX5_holds_r2 ++ wsX5_holds_r3)) ++ wsX50)
theorem mi_wsX5_asked_wsX5_asked_r1 : ∀ w ∈ wsX5_asked_r1, w ∈ wsX5_asked := fun _ h => (List.mem_cons_of_mem _ (List.mem_append_left _ (List.mem_append_left _ h)))
theorem mi_wsX5_asked_wsX50 : ∀ w ∈ wsX50, w ∈ wsX5_asked := fun _ h => (List.mem_cons_of_mem _ (List.mem_append_right _ h))
set_option maxRecDepth 20000 in
theorem ggX5_asked_X5_isRange : GoodIn wsX5_asked wsX5_isRange := goodIn_m _ [(wsX5_asked_r1, [false, false, false, false, false, true, true]), (wsX50, [true, true, true, true, true, true, true, true, true, true, true, true, true, true, true, true, true, true, true, true, true, true, true, true, true, true, true, true, true, true])] (gm_c mi_wsX5_asked_wsX5_asked_r1 (gm_c mi_wsX5_asked_wsX50 gm_n)) rfl (by decide +kernel)
set_option maxRecDepth 20000 in
theorem gX5_asked_X5_isRange : GoodIn wsX5_asked (wsV RX5 142 RX5 yX5_isRange wsX5_isRange) := goodIn_app (goodIn_m _ [(wsX5_asked_r1, [false, true, true, true, true])] (gm_c mi_wsX5_asked_wsX5_asked_r1 gm_n) rfl (by decide +kernel)) ggX5_asked_X5_isRange
theorem mi_wsX5_asked_wsX5_asked_r2 : ∀ w ∈ wsX5_asked_r2, w ∈ wsX5_asked := fun _ h => (List.mem_cons_of_mem _ (List.mem_append_left _ (List.mem_append_right _ (List.mem_append_left _ h))))
set_option maxRecDepth 20000 in
theorem ggX5_asked_X5_laysAll : GoodIn wsX5_asked wsX5_laysAll := goodIn_m _ [(wsX5_asked_r1, [false, false, false, false, false, false, false, false, false, false, true, true]), (wsX5_asked_r1, [false, false, false, false, false, false, true, false, false, false, false, false, true, true, true]), (wsX5_asked_r1, [false, false, false, false, true, false, false, false, false, false, false, false, false, false, false, true, true, true, true, true, true, true, true, true]), (wsX5_asked_r2, [true, true, true, true, true, true, true, true, true, true, true, true, true, true, true, true, true, true, true, true, true, true, true]), (wsX50, [true, true, true, true, true, true, true, true, true, true, true, true, true, true, true, true, true, true, true, true, true, true, true, true, true, true, true, true, true, true])] (gm_c mi_wsX5_asked_wsX5_asked_r1 (gm_c mi_wsX5_asked_wsX5_asked_r1 (gm_c mi_wsX5_asked_wsX5_asked_r1 (gm_c mi_wsX5_asked_wsX5_asked_r2 (gm_c mi_wsX5_asked_wsX50 gm_n))))) rfl (by decide +kernel)
set_option maxRecDepth 20000 in
theorem gX5_asked_X5_laysAll : GoodIn wsX5_asked (wsV RX5 124 RX5 yX5_laysAll wsX5_laysAll) := goodIn_app (goodIn_m _ [(wsX5_asked_r1, [false, false, false, false, false, false, false, true, true, true]), (wsX5_asked_r1, [false, false, false, false, true])] (gm_c mi_wsX5_asked_wsX5_asked_r1 (gm_c mi_wsX5_asked_wsX5_asked_r1 gm_n)) rfl (by decide +kernel)) ggX5_asked_X5_laysAll
theorem mi_wsX5_asked_wsX5_asked_r3 : ∀ w ∈ wsX5_asked_r3, w ∈ wsX5_asked := fun _ h => (List.mem_cons_of_mem _ (List.mem_append_left _ (List.mem_append_right _ (List.mem_append_right _ h))))
set_option maxRecDepth 20000 in
theorem ggX5_asked_X5_nodeOf : GoodIn wsX5_asked wsX5_nodeOf := goodIn_m _ [(wsX5_asked_r3, [false, false, true]), (wsX5_asked_r1, [false, false, false, false, false, false, false, false, false, false, false, true, false, false, false, false, true, true]), (wsX50, [true, true, true, true, true, true, true, true, true, true, true, true, true, true, true, true, true, true, true, true, true, true, true, true, true, true, true, true, true, true])] (gm_c mi_wsX5_asked_wsX5_asked_r3 (gm_c mi_wsX5_asked_wsX5_asked_r1 (gm_c mi_wsX5_asked_wsX50 gm_n))) rfl (by decide +kernel)
set_option maxRecDepth 20000 in
theorem gX5_asked_X5_nodeOf : GoodIn wsX5_asked (wsV RX5 152 RX5 yX5_nodeOf wsX5_nodeOf) := goodIn_app (goodIn_m _ [(wsX5_asked_r2, [false, false, false, false, false, false, false, false, false, false, false, false, false, false, false, false, false, false, false, false, false, false, false, true]), (wsX5_asked_r3, [true, true]), (wsX5_asked_r1, [false, false, false, false, true])] (gm_c mi_wsX5_asked_wsX5_asked_r2 (gm_c mi_wsX5_asked_wsX5_asked_r3 (gm_c mi_wsX5_asked_wsX5_asked_r1 gm_n))) rfl (by decide +kernel)) ggX5_asked_X5_nodeOf
def dt_cX5_asked_0 : List (Nat × Nat × Nat × Nat) := [(0, 42, 0, 0), (1, 27, 0, 0), (2, 28, 0, 0), (3, 182, 2, 142), (6, 154, 2, 5), (9, 2, 0, 0), (10, 172, 0, 0), (11, 42, 0, 0), (12, 42, 0, 0), (13, 180, 2, 13), (16, 182, 2, 124), (19, 42, 0, 0), (20, 27, 0, 0), (21, 28, 0, 0), (22, 182, 2, 152), (25, 172, 0, 0)]
theorem da_cX5_asked_0 : fw dt_cX5_asked_0 0 cX5_asked.data.toList = true := by decide +kernel
theorem dX5_asked_0 : decode cX5_asked 0 = .ok (.aload_n 0, 1) := fo_42 (fw_get da_cX5_asked_0 0 rfl)
theorem dX5_asked_1 : decode cX5_asked 1 = .ok (.iload_n 1, 1) := fo_27 (fw_get da_cX5_asked_0 1 rfl)
theorem dX5_asked_2 : decode cX5_asked 2 = .ok (.iload_n 2, 1) := fo_28 (fw_get da_cX5_asked_0 2 rfl)
theorem dX5_asked_3 : decode cX5_asked 3 = .ok (.invokevirtual 142, 3) := fo_182 (fw_get da_cX5_asked_0 3 rfl)
theorem dX5_asked_6 : decode cX5_asked 6 = .ok (.ifCond .ne 5, 3) := fo_154 (fw_get da_cX5_asked_0 4 rfl) (by decide +kernel)
theorem dX5_asked_9 : decode cX5_asked 9 = .ok (.iconst (-1), 1) := fo_2 (fw_get da_cX5_asked_0 5 rfl)
theorem dX5_asked_10 : decode cX5_asked 10 = .ok (.ireturn, 1) := fo_172 (fw_get da_cX5_asked_0 6 rfl)
theorem dX5_asked_11 : decode cX5_asked 11 = .ok (.aload_n 0, 1) := fo_42 (fw_get da_cX5_asked_0 7 rfl)
theorem dX5_asked_12 : decode cX5_asked 12 = .ok (.aload_n 0, 1) := fo_42 (fw_get da_cX5_asked_0 8 rfl)
theorem dX5_asked_13 : decode cX5_asked 13 = .ok (.getfield 13, 3) := fo_180 (fw_get da_cX5_asked_0 9 rfl)
theorem dX5_asked_16 : decode cX5_asked 16 = .ok (.invokevirtual 124, 3) := fo_182 (fw_get da_cX5_asked_0 10 rfl)
theorem dX5_asked_19 : decode cX5_asked 19 = .ok (.aload_n 0, 1) := fo_42 (fw_get da_cX5_asked_0 11 rfl)
theorem dX5_asked_20 : decode cX5_asked 20 = .ok (.iload_n 1, 1) := fo_27 (fw_get da_cX5_asked_0 12 rfl)
theorem dX5_asked_21 : decode cX5_asked 21 = .ok (.iload_n 2, 1) := fo_28 (fw_get da_cX5_asked_0 13 rfl)
theorem dX5_asked_22 : decode cX5_asked 22 = .ok (.invokevirtual 152, 3) := fo_182 (fw_get da_cX5_asked_0 14 rfl)
theorem dX5_asked_25 : decode cX5_asked 25 = .ok (.ireturn, 1) := fo_172 (fw_get da_cX5_asked_0 15 rfl)
theorem mi_wsX5_node_wsX5_node_r1 : ∀ w ∈ wsX5_node_r1, w ∈ wsX5_node := fun _ h => (List.mem_cons_of_mem _ (List.mem_append_left _ (List.mem_append_left _ h)))
theorem mi_wsX5_node_wsX5_node_r2 : ∀ w ∈ wsX5_node_r2, w ∈ wsX5_node := fun _ h => (List.mem_cons_of_mem _ (List.mem_append_left _ (List.mem_append_right _ (List.mem_append_left _ h))))
theorem mi_wsX5_node_wsX5_node_r3 : ∀ w ∈ wsX5_node_r3, w ∈ wsX5_node := fun _ h => (List.mem_cons_of_mem _ (List.mem_append_left _ (List.mem_append_right _ (List.mem_append_right _ h))))
theorem mi_wsX5_node_wsX50 : ∀ w ∈ wsX50, w ∈ wsX5_node := fun _ h => (List.mem_cons_of_mem _ (List.mem_append_right _ h))
set_option maxRecDepth 20000 in
theorem ggX5_node_X5_asked : GoodIn wsX5_node wsX5_asked := goodIn_m _ [(wsX5_node_r1, [false, false, false, false, false, false, true, true, true, true, true]), (wsX5_node_r1, [false, false, false, false, false, true, false, false, false, false, false, true, true, true, true, true, true, true, true, true, true, true, true, true]), (wsX5_node_r2, [true, true, true, true, true]), (wsX5_node_r1, [false, true]), (wsX5_node_r2, [false, false, false, false, false, true, true, true, true, true, true, true, true, true, true, true, true, true, true, true, true, true, true, true]), (wsX5_node_r3, [true, true, true, true, true, true, true, true]), (wsX50, [true, true, true, true, true, true, true, true, true, true, true, true, true, true, true, true, true, true, true, true, true, true, true, true, true, true, true, true, true, true])] (gm_c mi_wsX5_node_wsX5_node_r1 (gm_c mi_wsX5_node_wsX5_node_r1 (gm_c mi_wsX5_node_wsX5_node_r2 (gm_c mi_wsX5_node_wsX5_node_r1 (gm_c mi_wsX5_node_wsX5_node_r2 (gm_c mi_wsX5_node_wsX5_node_r3 (gm_c mi_wsX5_node_wsX50 gm_n))))))) rfl (by decide +kernel)
set_option maxRecDepth 20000 in
theorem gX5_node_X5_asked : GoodIn wsX5_node (wsV RX5 156 RX5 yX5_asked wsX5_asked) := goodIn_app (goodIn_m _ [(wsX5_node_r1, [false, false, true, true, true, true])] (gm_c mi_wsX5_node_wsX5_node_r1 gm_n) rfl (by decide +kernel)) ggX5_node_X5_asked
def dt_cX5_node_0 : List (Nat × Nat × Nat × Nat) := [(0, 42, 0, 0), (1, 3, 0, 0), (2, 181, 2, 77), (5, 42, 0, 0), (6, 27, 0, 0), (7, 28, 0, 0), (8, 182, 2, 156), (11, 62, 0, 0), (12, 29, 0, 0), (13, 156, 2, 7), (16, 29, 0, 0), (17, 167, 2, 9), (20, 42, 0, 0), (21, 180, 2, 17), (24, 29, 0, 0), (25, 46, 0, 0), (26, 172, 0, 0)]
theorem da_cX5_node_0 : fw dt_cX5_node_0 0 cX5_node.data.toList = true := by decide +kernel
theorem dX5_node_0 : decode cX5_node 0 = .ok (.aload_n 0, 1) := fo_42 (fw_get da_cX5_node_0 0 rfl)
theorem dX5_node_1 : decode cX5_node 1 = .ok (.iconst 0, 1) := fo_3 (fw_get da_cX5_node_0 1 rfl)
theorem dX5_node_2 : decode cX5_node 2 = .ok (.putfield 77, 3) := fo_181 (fw_get da_cX5_node_0 2 rfl)
theorem dX5_node_5 : decode cX5_node 5 = .ok (.aload_n 0, 1) := fo_42 (fw_get da_cX5_node_0 3 rfl)
theorem dX5_node_6 : decode cX5_node 6 = .ok (.iload_n 1, 1) := fo_27 (fw_get da_cX5_node_0 4 rfl)
theorem dX5_node_7 : decode cX5_node 7 = .ok (.iload_n 2, 1) := fo_28 (fw_get da_cX5_node_0 5 rfl)
theorem dX5_node_8 : decode cX5_node 8 = .ok (.invokevirtual 156, 3) := fo_182 (fw_get da_cX5_node_0 6 rfl)
theorem dX5_node_11 : decode cX5_node 11 = .ok (.istore_n 3, 1) := fo_62 (fw_get da_cX5_node_0 7 rfl)
theorem dX5_node_12 : decode cX5_node 12 = .ok (.iload_n 3, 1) := fo_29 (fw_get da_cX5_node_0 8 rfl)
theorem dX5_node_13 : decode cX5_node 13 = .ok (.ifCond .ge 7, 3) := fo_156 (fw_get da_cX5_node_0 9 rfl) (by decide +kernel)
theorem dX5_node_16 : decode cX5_node 16 = .ok (.iload_n 3, 1) := fo_29 (fw_get da_cX5_node_0 10 rfl)
theorem dX5_node_17 : decode cX5_node 17 = .ok (.goto 9, 3) := fo_167 (fw_get da_cX5_node_0 11 rfl) (by decide +kernel)
theorem dX5_node_20 : decode cX5_node 20 = .ok (.aload_n 0, 1) := fo_42 (fw_get da_cX5_node_0 12 rfl)
theorem dX5_node_21 : decode cX5_node 21 = .ok (.getfield 17, 3) := fo_180 (fw_get da_cX5_node_0 13 rfl)
theorem dX5_node_24 : decode cX5_node 24 = .ok (.iload_n 3, 1) := fo_29 (fw_get da_cX5_node_0 14 rfl)
theorem dX5_node_25 : decode cX5_node 25 = .ok (.iaload, 1) := fo_46 (fw_get da_cX5_node_0 15 rfl)
theorem dX5_node_26 : decode cX5_node 26 = .ok (.ireturn, 1) := fo_172 (fw_get da_cX5_node_0 16 rfl)
theorem mi_wsX5_vote_wsX5_vote_r1 : ∀ w ∈ wsX5_vote_r1, w ∈ wsX5_vote := fun _ h => (List.mem_cons_of_mem _ (List.mem_append_left _ (List.mem_append_left _ h)))
theorem mi_wsX5_vote_wsX5_vote_r2 : ∀ w ∈ wsX5_vote_r2, w ∈ wsX5_vote := fun _ h => (List.mem_cons_of_mem _ (List.mem_append_left _ (List.mem_append_right _ (List.mem_append_left _ h))))
theorem mi_wsX5_vote_wsX5_vote_r3 : ∀ w ∈ wsX5_vote_r3, w ∈ wsX5_vote := fun _ h => (List.mem_cons_of_mem _ (List.mem_append_left _ (List.mem_append_right _ (List.mem_append_right _ h))))
theorem mi_wsX5_vote_wsX50 : ∀ w ∈ wsX50, w ∈ wsX5_vote := fun _ h => (List.mem_cons_of_mem _ (List.mem_append_right _ h))
set_option maxRecDepth 20000 in
theorem ggX5_vote_X5_asked : GoodIn wsX5_vote wsX5_asked := goodIn_m _ [(wsX5_vote_r1, [false, false, false, false, false, false, false, false, true, true, true, true, true]), (wsX5_vote_r1, [false, false, false, false, false, false, false, true, false, false, false, false, false, true, true, true, true, true, true, true, true, true, true, true]), (wsX5_vote_r2, [true, true, true, true, true, true, true]), (wsX5_vote_r1, [false, true]), (wsX5_vote_r2, [false, false, false, false, false, false, false, true, true]), (wsX5_vote_r1, [false, false, true, true]), (wsX5_vote_r2, [false, false, false, false, false, false, false, false, false, true, true, true, true, true, true, true, true, true, true, true, true, true, true, true]), (wsX5_vote_r3, [true, true, true, true, true, true, true, true]), (wsX50, [true, true, true, true, true, true, true, true, true, true, true, true, true, true, true, true, true, true, true, true, true, true, true, true, true, true, true, true, true, true])] (gm_c mi_wsX5_vote_wsX5_vote_r1 (gm_c mi_wsX5_vote_wsX5_vote_r1 (gm_c mi_wsX5_vote_wsX5_vote_r2 (gm_c mi_wsX5_vote_wsX5_vote_r1 (gm_c mi_wsX5_vote_wsX5_vote_r2 (gm_c mi_wsX5_vote_wsX5_vote_r1 (gm_c mi_wsX5_vote_wsX5_vote_r2 (gm_c mi_wsX5_vote_wsX5_vote_r3 (gm_c mi_wsX5_vote_wsX50 gm_n))))))))) rfl (by decide +kernel)
set_option maxRecDepth 20000 in
theorem gX5_vote_X5_asked : GoodIn wsX5_vote (wsV RX5 156 RX5 yX5_asked wsX5_asked) := goodIn_app (goodIn_m _ [(wsX5_vote_r1, [false, false, false, false, true, true, true, true])] (gm_c mi_wsX5_vote_wsX5_vote_r1 gm_n) rfl (by decide +kernel)) ggX5_vote_X5_asked
set_option maxRecDepth 20000 in
theorem ggX5_vote_X5_within : GoodIn wsX5_vote wsX5_within := goodIn_m _ [(wsX5_vote_r3, [false, false, false, false, false, false, false, false, false, false, true])] (gm_c mi_wsX5_vote_wsX5_vote_r3 gm_n) rfl (by decide +kernel)
set_option maxRecDepth 20000 in
theorem gX5_vote_X5_within : GoodIn wsX5_vote (va_wsS RX5 80 yX5_within wsX5_within) := goodIn_app (goodIn_m _ [(wsX5_vote_r3, [false, false, false, false, false, false, false, false, true, true]), (wsX5_vote_r1, [false, false, false, false, false, false, false, true])] (gm_c mi_wsX5_vote_wsX5_vote_r3 (gm_c mi_wsX5_vote_wsX5_vote_r1 gm_n)) rfl (by decide +kernel)) ggX5_vote_X5_within
def dt_cX5_vote_0 : List (Nat × Nat × Nat × Nat) := [(0, 42, 0, 0), (1, 4, 0, 0), (2, 181, 2, 77), (5, 42, 0, 0), (6, 27, 0, 0), (7, 28, 0, 0), (8, 182, 2, 156), (11, 54, 1, 5), (13, 21, 1, 5), (15, 155, 2, 30), (18, 29, 0, 0), (19, 3, 0, 0), (20, 42, 0, 0), (21, 180, 2, 17), (24, 21, 1, 5), (26, 46, 0, 0), (27, 4, 0, 0), (28, 100, 0, 0), (29, 184, 2, 80), (32, 153, 2, 13)]
theorem da_cX5_vote_0 : fw dt_cX5_vote_0 0 cX5_vote.data.toList = true := by decide +kernel
theorem dX5_vote_0 : decode cX5_vote 0 = .ok (.aload_n 0, 1) := fo_42 (fw_get da_cX5_vote_0 0 rfl)
theorem dX5_vote_1 : decode cX5_vote 1 = .ok (.iconst 1, 1) := fo_4 (fw_get da_cX5_vote_0 1 rfl)
theorem dX5_vote_2 : decode cX5_vote 2 = .ok (.putfield 77, 3) := fo_181 (fw_get da_cX5_vote_0 2 rfl)
theorem dX5_vote_5 : decode cX5_vote 5 = .ok (.aload_n 0, 1) := fo_42 (fw_get da_cX5_vote_0 3 rfl)
theorem dX5_vote_6 : decode cX5_vote 6 = .ok (.iload_n 1, 1) := fo_27 (fw_get da_cX5_vote_0 4 rfl)
theorem dX5_vote_7 : decode cX5_vote 7 = .ok (.iload_n 2, 1) := fo_28 (fw_get da_cX5_vote_0 5 rfl)
theorem dX5_vote_8 : decode cX5_vote 8 = .ok (.invokevirtual 156, 3) := fo_182 (fw_get da_cX5_vote_0 6 rfl)
theorem dX5_vote_11 : decode cX5_vote 11 = .ok (.istore 5, 2) := fo_54 (fw_get da_cX5_vote_0 7 rfl)
theorem dX5_vote_13 : decode cX5_vote 13 = .ok (.iload 5, 2) := fo_21 (fw_get da_cX5_vote_0 8 rfl)
theorem dX5_vote_15 : decode cX5_vote 15 = .ok (.ifCond .lt 30, 3) := fo_155 (fw_get da_cX5_vote_0 9 rfl) (by decide +kernel)
theorem dX5_vote_18 : decode cX5_vote 18 = .ok (.iload_n 3, 1) := fo_29 (fw_get da_cX5_vote_0 10 rfl)
theorem dX5_vote_19 : decode cX5_vote 19 = .ok (.iconst 0, 1) := fo_3 (fw_get da_cX5_vote_0 11 rfl)
theorem dX5_vote_20 : decode cX5_vote 20 = .ok (.aload_n 0, 1) := fo_42 (fw_get da_cX5_vote_0 12 rfl)
theorem dX5_vote_21 : decode cX5_vote 21 = .ok (.getfield 17, 3) := fo_180 (fw_get da_cX5_vote_0 13 rfl)
theorem dX5_vote_24 : decode cX5_vote 24 = .ok (.iload 5, 2) := fo_21 (fw_get da_cX5_vote_0 14 rfl)
theorem dX5_vote_26 : decode cX5_vote 26 = .ok (.iaload, 1) := fo_46 (fw_get da_cX5_vote_0 15 rfl)
theorem dX5_vote_27 : decode cX5_vote 27 = .ok (.iconst 1, 1) := fo_4 (fw_get da_cX5_vote_0 16 rfl)
theorem dX5_vote_28 : decode cX5_vote 28 = .ok (.isub, 1) := fo_100 (fw_get da_cX5_vote_0 17 rfl)
theorem dX5_vote_29 : decode cX5_vote 29 = .ok (.invokestatic 80, 3) := fo_184 (fw_get da_cX5_vote_0 18 rfl)
theorem dX5_vote_32 : decode cX5_vote 32 = .ok (.ifCond .eq 13, 3) := fo_153 (fw_get da_cX5_vote_0 19 rfl) (by decide +kernel)
def dt_cX5_vote_1 : List (Nat × Nat × Nat × Nat) := [(35, 21, 1, 4), (37, 3, 0, 0), (38, 4, 0, 0), (39, 184, 2, 80), (42, 154, 2, 5), (45, 3, 0, 0), (46, 172, 0, 0), (47, 42, 0, 0), (48, 3, 0, 0), (49, 181, 2, 77), (52, 21, 1, 4), (54, 154, 2, 18), (57, 42, 0, 0), (58, 180, 2, 26), (61, 16, 1, 6), (63, 21, 1, 5), (65, 104, 0, 0), (66, 29, 0, 0), (67, 96, 0, 0), (68, 46, 0, 0)]
theorem da_cX5_vote_1 : fw dt_cX5_vote_1 0 cX5_vote.data.toList = true := by decide +kernel
theorem dX5_vote_35 : decode cX5_vote 35 = .ok (.iload 4, 2) := fo_21 (fw_get da_cX5_vote_1 0 rfl)
theorem dX5_vote_37 : decode cX5_vote 37 = .ok (.iconst 0, 1) := fo_3 (fw_get da_cX5_vote_1 1 rfl)
theorem dX5_vote_38 : decode cX5_vote 38 = .ok (.iconst 1, 1) := fo_4 (fw_get da_cX5_vote_1 2 rfl)
theorem dX5_vote_39 : decode cX5_vote 39 = .ok (.invokestatic 80, 3) := fo_184 (fw_get da_cX5_vote_1 3 rfl)
theorem dX5_vote_42 : decode cX5_vote 42 = .ok (.ifCond .ne 5, 3) := fo_154 (fw_get da_cX5_vote_1 4 rfl) (by decide +kernel)
theorem dX5_vote_45 : decode cX5_vote 45 = .ok (.iconst 0, 1) := fo_3 (fw_get da_cX5_vote_1 5 rfl)
theorem dX5_vote_46 : decode cX5_vote 46 = .ok (.ireturn, 1) := fo_172 (fw_get da_cX5_vote_1 6 rfl)
theorem dX5_vote_47 : decode cX5_vote 47 = .ok (.aload_n 0, 1) := fo_42 (fw_get da_cX5_vote_1 7 rfl)
theorem dX5_vote_48 : decode cX5_vote 48 = .ok (.iconst 0, 1) := fo_3 (fw_get da_cX5_vote_1 8 rfl)
theorem dX5_vote_49 : decode cX5_vote 49 = .ok (.putfield 77, 3) := fo_181 (fw_get da_cX5_vote_1 9 rfl)
theorem dX5_vote_52 : decode cX5_vote 52 = .ok (.iload 4, 2) := fo_21 (fw_get da_cX5_vote_1 10 rfl)
theorem dX5_vote_54 : decode cX5_vote 54 = .ok (.ifCond .ne 18, 3) := fo_154 (fw_get da_cX5_vote_1 11 rfl) (by decide +kernel)
theorem dX5_vote_57 : decode cX5_vote 57 = .ok (.aload_n 0, 1) := fo_42 (fw_get da_cX5_vote_1 12 rfl)
theorem dX5_vote_58 : decode cX5_vote 58 = .ok (.getfield 26, 3) := fo_180 (fw_get da_cX5_vote_1 13 rfl)
theorem dX5_vote_61 : decode cX5_vote 61 = .ok (.bipush 6, 2) := fo_16 (fw_get da_cX5_vote_1 14 rfl) (by decide +kernel)
theorem dX5_vote_63 : decode cX5_vote 63 = .ok (.iload 5, 2) := fo_21 (fw_get da_cX5_vote_1 15 rfl)
theorem dX5_vote_65 : decode cX5_vote 65 = .ok (.imul, 1) := fo_104 (fw_get da_cX5_vote_1 16 rfl)
theorem dX5_vote_66 : decode cX5_vote 66 = .ok (.iload_n 3, 1) := fo_29 (fw_get da_cX5_vote_1 17 rfl)
theorem dX5_vote_67 : decode cX5_vote 67 = .ok (.iadd, 1) := fo_96 (fw_get da_cX5_vote_1 18 rfl)
theorem dX5_vote_68 : decode cX5_vote 68 = .ok (.iaload, 1) := fo_46 (fw_get da_cX5_vote_1 19 rfl)
def dt_cX5_vote_2 : List (Nat × Nat × Nat × Nat) := [(69, 167, 2, 15), (72, 42, 0, 0), (73, 180, 2, 29), (76, 16, 1, 6), (78, 21, 1, 5), (80, 104, 0, 0), (81, 29, 0, 0), (82, 96, 0, 0), (83, 46, 0, 0), (84, 172, 0, 0)]
theorem da_cX5_vote_2 : fw dt_cX5_vote_2 0 cX5_vote.data.toList = true := by decide +kernel
theorem dX5_vote_69 : decode cX5_vote 69 = .ok (.goto 15, 3) := fo_167 (fw_get da_cX5_vote_2 0 rfl) (by decide +kernel)
theorem dX5_vote_72 : decode cX5_vote 72 = .ok (.aload_n 0, 1) := fo_42 (fw_get da_cX5_vote_2 1 rfl)
theorem dX5_vote_73 : decode cX5_vote 73 = .ok (.getfield 29, 3) := fo_180 (fw_get da_cX5_vote_2 2 rfl)
theorem dX5_vote_76 : decode cX5_vote 76 = .ok (.bipush 6, 2) := fo_16 (fw_get da_cX5_vote_2 3 rfl) (by decide +kernel)
theorem dX5_vote_78 : decode cX5_vote 78 = .ok (.iload 5, 2) := fo_21 (fw_get da_cX5_vote_2 4 rfl)
theorem dX5_vote_80 : decode cX5_vote 80 = .ok (.imul, 1) := fo_104 (fw_get da_cX5_vote_2 5 rfl)
theorem dX5_vote_81 : decode cX5_vote 81 = .ok (.iload_n 3, 1) := fo_29 (fw_get da_cX5_vote_2 6 rfl)
theorem dX5_vote_82 : decode cX5_vote 82 = .ok (.iadd, 1) := fo_96 (fw_get da_cX5_vote_2 7 rfl)
theorem dX5_vote_83 : decode cX5_vote 83 = .ok (.iaload, 1) := fo_46 (fw_get da_cX5_vote_2 8 rfl)
theorem dX5_vote_84 : decode cX5_vote 84 = .ok (.ireturn, 1) := fo_172 (fw_get da_cX5_vote_2 9 rfl)
theorem mi_wsX5_loss_wsX5_loss_r1 : ∀ w ∈ wsX5_loss_r1, w ∈ wsX5_loss := fun _ h => (List.mem_cons_of_mem _ (List.mem_append_left _ (List.mem_append_left _ h)))
theorem mi_wsX5_loss_wsX5_loss_r2 : ∀ w ∈ wsX5_loss_r2, w ∈ wsX5_loss := fun _ h => (List.mem_cons_of_mem _ (List.mem_append_left _ (List.mem_append_right _ (List.mem_append_left _ h))))
theorem mi_wsX5_loss_wsX5_loss_r3 : ∀ w ∈ wsX5_loss_r3, w ∈ wsX5_loss := fun _ h => (List.mem_cons_of_mem _ (List.mem_append_left _ (List.mem_append_right _ (List.mem_append_right _ h))))
theorem mi_wsX5_loss_wsX50 : ∀ w ∈ wsX50, w ∈ wsX5_loss := fun _ h => (List.mem_cons_of_mem _ (List.mem_append_right _ h))
set_option maxRecDepth 20000 in
theorem ggX5_loss_X5_asked : GoodIn wsX5_loss wsX5_asked := goodIn_m _ [(wsX5_loss_r1, [false, false, false, false, false, false, true, true, true, true, true]), (wsX5_loss_r1, [false, false, false, false, false, true, false, false, false, false, false, true, true, true, true, true, true, true, true, true, true, true, true, true]), (wsX5_loss_r2, [true, true, true, true, true, true]), (wsX5_loss_r1, [false, true]), (wsX5_loss_r2, [false, false, false, false, false, false, true, true, true, true, true, true, true, true, true, true, true, true, true, true, true, true, true, true]), (wsX5_loss_r3, [true, true, true, true, true, true, true, true]), (wsX50, [true, true, true, true, true, true, true, true, true, true, true, true, true, true, true, true, true, true, true, true, true, true, true, true, true, true, true, true, true, true])] (gm_c mi_wsX5_loss_wsX5_loss_r1 (gm_c mi_wsX5_loss_wsX5_loss_r1 (gm_c mi_wsX5_loss_wsX5_loss_r2 (gm_c mi_wsX5_loss_wsX5_loss_r1 (gm_c mi_wsX5_loss_wsX5_loss_r2 (gm_c mi_wsX5_loss_wsX5_loss_r3 (gm_c mi_wsX5_loss_wsX50 gm_n))))))) rfl (by decide +kernel)
set_option maxRecDepth 20000 in
theorem gX5_loss_X5_asked : GoodIn wsX5_loss (wsV RX5 156 RX5 yX5_asked wsX5_asked) := goodIn_app (goodIn_m _ [(wsX5_loss_r1, [false, false, true, true, true, true])] (gm_c mi_wsX5_loss_wsX5_loss_r1 gm_n) rfl (by decide +kernel)) ggX5_loss_X5_asked
def dt_cX5_loss_0 : List (Nat × Nat × Nat × Nat) := [(0, 42, 0, 0), (1, 3, 0, 0), (2, 181, 2, 77), (5, 42, 0, 0), (6, 27, 0, 0), (7, 28, 0, 0), (8, 182, 2, 156), (11, 62, 0, 0), (12, 29, 0, 0), (13, 156, 2, 7), (16, 29, 0, 0), (17, 167, 2, 9), (20, 42, 0, 0), (21, 180, 2, 20), (24, 29, 0, 0), (25, 46, 0, 0), (26, 172, 0, 0)]
theorem da_cX5_loss_0 : fw dt_cX5_loss_0 0 cX5_loss.data.toList = true := by decide +kernel
theorem dX5_loss_0 : decode cX5_loss 0 = .ok (.aload_n 0, 1) := fo_42 (fw_get da_cX5_loss_0 0 rfl)
theorem dX5_loss_1 : decode cX5_loss 1 = .ok (.iconst 0, 1) := fo_3 (fw_get da_cX5_loss_0 1 rfl)
theorem dX5_loss_2 : decode cX5_loss 2 = .ok (.putfield 77, 3) := fo_181 (fw_get da_cX5_loss_0 2 rfl)
theorem dX5_loss_5 : decode cX5_loss 5 = .ok (.aload_n 0, 1) := fo_42 (fw_get da_cX5_loss_0 3 rfl)
theorem dX5_loss_6 : decode cX5_loss 6 = .ok (.iload_n 1, 1) := fo_27 (fw_get da_cX5_loss_0 4 rfl)
theorem dX5_loss_7 : decode cX5_loss 7 = .ok (.iload_n 2, 1) := fo_28 (fw_get da_cX5_loss_0 5 rfl)
theorem dX5_loss_8 : decode cX5_loss 8 = .ok (.invokevirtual 156, 3) := fo_182 (fw_get da_cX5_loss_0 6 rfl)
theorem dX5_loss_11 : decode cX5_loss 11 = .ok (.istore_n 3, 1) := fo_62 (fw_get da_cX5_loss_0 7 rfl)
theorem dX5_loss_12 : decode cX5_loss 12 = .ok (.iload_n 3, 1) := fo_29 (fw_get da_cX5_loss_0 8 rfl)
theorem dX5_loss_13 : decode cX5_loss 13 = .ok (.ifCond .ge 7, 3) := fo_156 (fw_get da_cX5_loss_0 9 rfl) (by decide +kernel)
theorem dX5_loss_16 : decode cX5_loss 16 = .ok (.iload_n 3, 1) := fo_29 (fw_get da_cX5_loss_0 10 rfl)
theorem dX5_loss_17 : decode cX5_loss 17 = .ok (.goto 9, 3) := fo_167 (fw_get da_cX5_loss_0 11 rfl) (by decide +kernel)
theorem dX5_loss_20 : decode cX5_loss 20 = .ok (.aload_n 0, 1) := fo_42 (fw_get da_cX5_loss_0 12 rfl)
theorem dX5_loss_21 : decode cX5_loss 21 = .ok (.getfield 20, 3) := fo_180 (fw_get da_cX5_loss_0 13 rfl)
theorem dX5_loss_24 : decode cX5_loss 24 = .ok (.iload_n 3, 1) := fo_29 (fw_get da_cX5_loss_0 14 rfl)
theorem dX5_loss_25 : decode cX5_loss 25 = .ok (.iaload, 1) := fo_46 (fw_get da_cX5_loss_0 15 rfl)
theorem dX5_loss_26 : decode cX5_loss 26 = .ok (.ireturn, 1) := fo_172 (fw_get da_cX5_loss_0 16 rfl)
theorem mi_wsX5_cancelled_wsX5_cancelled_r1 : ∀ w ∈ wsX5_cancelled_r1, w ∈ wsX5_cancelled := fun _ h => (List.mem_cons_of_mem _ (List.mem_append_left _ (List.mem_append_left _ h)))
theorem mi_wsX5_cancelled_wsX5_cancelled_r2 : ∀ w ∈ wsX5_cancelled_r2, w ∈ wsX5_cancelled := fun _ h => (List.mem_cons_of_mem _ (List.mem_append_left _ (List.mem_append_right _ (List.mem_append_left _ h))))
theorem mi_wsX5_cancelled_wsX5_cancelled_r3 : ∀ w ∈ wsX5_cancelled_r3, w ∈ wsX5_cancelled := fun _ h => (List.mem_cons_of_mem _ (List.mem_append_left _ (List.mem_append_right _ (List.mem_append_right _ h))))
theorem mi_wsX5_cancelled_wsX50 : ∀ w ∈ wsX50, w ∈ wsX5_cancelled := fun _ h => (List.mem_cons_of_mem _ (List.mem_append_right _ h))
set_option maxRecDepth 20000 in
theorem ggX5_cancelled_X5_asked : GoodIn wsX5_cancelled wsX5_asked := goodIn_m _ [(wsX5_cancelled_r1, [false, false, false, false, false, false, true, true, true, true, true]), (wsX5_cancelled_r1, [false, false, false, false, false, true, false, false, false, false, false, true, true, true, true, true, true, true, true, true, true, true, true, true]), (wsX5_cancelled_r2, [true, true, true, true, true, true, true]), (wsX5_cancelled_r1, [false, true]), (wsX5_cancelled_r2, [false, false, false, false, false, false, false, true, true, true, true, true, true, true, true, true, true, true, true, true, true, true, true, true]), (wsX5_cancelled_r3, [true, true, true, true, true, true, true, true]), (wsX50, [true, true, true, true, true, true, true, true, true, true, true, true, true, true, true, true, true, true, true, true, true, true, true, true, true, true, true, true, true, true])] (gm_c mi_wsX5_cancelled_wsX5_cancelled_r1 (gm_c mi_wsX5_cancelled_wsX5_cancelled_r1 (gm_c mi_wsX5_cancelled_wsX5_cancelled_r2 (gm_c mi_wsX5_cancelled_wsX5_cancelled_r1 (gm_c mi_wsX5_cancelled_wsX5_cancelled_r2 (gm_c mi_wsX5_cancelled_wsX5_cancelled_r3 (gm_c mi_wsX5_cancelled_wsX50 gm_n))))))) rfl (by decide +kernel)
set_option maxRecDepth 20000 in
theorem gX5_cancelled_X5_asked : GoodIn wsX5_cancelled (wsV RX5 156 RX5 yX5_asked wsX5_asked) := goodIn_app (goodIn_m _ [(wsX5_cancelled_r1, [false, false, true, true, true, true])] (gm_c mi_wsX5_cancelled_wsX5_cancelled_r1 gm_n) rfl (by decide +kernel)) ggX5_cancelled_X5_asked
def dt_cX5_cancelled_0 : List (Nat × Nat × Nat × Nat) := [(0, 42, 0, 0), (1, 3, 0, 0), (2, 181, 2, 77), (5, 42, 0, 0), (6, 27, 0, 0), (7, 28, 0, 0), (8, 182, 2, 156), (11, 62, 0, 0), (12, 29, 0, 0), (13, 156, 2, 7), (16, 29, 0, 0), (17, 167, 2, 9), (20, 42, 0, 0), (21, 180, 2, 23), (24, 29, 0, 0), (25, 46, 0, 0), (26, 172, 0, 0)]
theorem da_cX5_cancelled_0 : fw dt_cX5_cancelled_0 0 cX5_cancelled.data.toList = true := by decide +kernel
theorem dX5_cancelled_0 : decode cX5_cancelled 0 = .ok (.aload_n 0, 1) := fo_42 (fw_get da_cX5_cancelled_0 0 rfl)
theorem dX5_cancelled_1 : decode cX5_cancelled 1 = .ok (.iconst 0, 1) := fo_3 (fw_get da_cX5_cancelled_0 1 rfl)
theorem dX5_cancelled_2 : decode cX5_cancelled 2 = .ok (.putfield 77, 3) := fo_181 (fw_get da_cX5_cancelled_0 2 rfl)
theorem dX5_cancelled_5 : decode cX5_cancelled 5 = .ok (.aload_n 0, 1) := fo_42 (fw_get da_cX5_cancelled_0 3 rfl)
theorem dX5_cancelled_6 : decode cX5_cancelled 6 = .ok (.iload_n 1, 1) := fo_27 (fw_get da_cX5_cancelled_0 4 rfl)
theorem dX5_cancelled_7 : decode cX5_cancelled 7 = .ok (.iload_n 2, 1) := fo_28 (fw_get da_cX5_cancelled_0 5 rfl)
theorem dX5_cancelled_8 : decode cX5_cancelled 8 = .ok (.invokevirtual 156, 3) := fo_182 (fw_get da_cX5_cancelled_0 6 rfl)
theorem dX5_cancelled_11 : decode cX5_cancelled 11 = .ok (.istore_n 3, 1) := fo_62 (fw_get da_cX5_cancelled_0 7 rfl)
theorem dX5_cancelled_12 : decode cX5_cancelled 12 = .ok (.iload_n 3, 1) := fo_29 (fw_get da_cX5_cancelled_0 8 rfl)
theorem dX5_cancelled_13 : decode cX5_cancelled 13 = .ok (.ifCond .ge 7, 3) := fo_156 (fw_get da_cX5_cancelled_0 9 rfl) (by decide +kernel)
theorem dX5_cancelled_16 : decode cX5_cancelled 16 = .ok (.iload_n 3, 1) := fo_29 (fw_get da_cX5_cancelled_0 10 rfl)
theorem dX5_cancelled_17 : decode cX5_cancelled 17 = .ok (.goto 9, 3) := fo_167 (fw_get da_cX5_cancelled_0 11 rfl) (by decide +kernel)
theorem dX5_cancelled_20 : decode cX5_cancelled 20 = .ok (.aload_n 0, 1) := fo_42 (fw_get da_cX5_cancelled_0 12 rfl)
theorem dX5_cancelled_21 : decode cX5_cancelled 21 = .ok (.getfield 23, 3) := fo_180 (fw_get da_cX5_cancelled_0 13 rfl)
theorem dX5_cancelled_24 : decode cX5_cancelled 24 = .ok (.iload_n 3, 1) := fo_29 (fw_get da_cX5_cancelled_0 14 rfl)
theorem dX5_cancelled_25 : decode cX5_cancelled 25 = .ok (.iaload, 1) := fo_46 (fw_get da_cX5_cancelled_0 15 rfl)
theorem dX5_cancelled_26 : decode cX5_cancelled 26 = .ok (.ireturn, 1) := fo_172 (fw_get da_cX5_cancelled_0 16 rfl)
theorem mi_wsX5_goesDown_wsX5_goesDown_r1 : ∀ w ∈ wsX5_goesDown_r1, w ∈ wsX5_goesDown := fun _ h => (List.mem_cons_of_mem _ (List.mem_append_left _ (List.mem_append_left _ h)))
theorem mi_wsX5_goesDown_wsX5_goesDown_r2 : ∀ w ∈ wsX5_goesDown_r2, w ∈ wsX5_goesDown := fun _ h => (List.mem_cons_of_mem _ (List.mem_append_left _ (List.mem_append_right _ h)))
theorem mi_wsX5_goesDown_wsX50 : ∀ w ∈ wsX50, w ∈ wsX5_goesDown := fun _ h => (List.mem_cons_of_mem _ (List.mem_append_right _ h))
set_option maxRecDepth 20000 in
theorem ggX5_goesDown_X5_laysAll : GoodIn wsX5_goesDown wsX5_laysAll := goodIn_m _ [(wsX5_goesDown_r1, [false, false, false, false, false, false, false, false, false, false, true]), (wsX5_goesDown_r1, [false, false, true, false, false, false, false, false, false, false, false, true, true, true, true]), (wsX5_goesDown_r1, [false, false, false, false, false, false, false, false, false, true, false, false, false, false, false, true]), (wsX5_goesDown_r1, [false, false, false, true, true, false, false, false, false, false, false, false, false, false, false, false, true, true, true, true, true, true, true, true]), (wsX5_goesDown_r2, [true, true, true, true, true, true, true, true, true, true, true, true, true, true, true, true, true, true, true, true, true]), (wsX50, [true, true, true, true, true, true, true, true, true, true, true, true, true, true, true, true, true, true, true, true, true, true, true, true, true, true, true, true, true, true])] (gm_c mi_wsX5_goesDown_wsX5_goesDown_r1 (gm_c mi_wsX5_goesDown_wsX5_goesDown_r1 (gm_c mi_wsX5_goesDown_wsX5_goesDown_r1 (gm_c mi_wsX5_goesDown_wsX5_goesDown_r1 (gm_c mi_wsX5_goesDown_wsX5_goesDown_r2 (gm_c mi_wsX5_goesDown_wsX50 gm_n)))))) rfl (by decide +kernel)
set_option maxRecDepth 20000 in
theorem gX5_goesDown_X5_laysAll : GoodIn wsX5_goesDown (wsV RX5 124 RX5 yX5_laysAll wsX5_laysAll) := goodIn_app (goodIn_m _ [(wsX5_goesDown_r1, [false, false, false, false, false, false, true, true, true, true])] (gm_c mi_wsX5_goesDown_wsX5_goesDown_r1 gm_n) rfl (by decide +kernel)) ggX5_goesDown_X5_laysAll
def dt_cX5_goesDown_0 : List (Nat × Nat × Nat × Nat) := [(0, 42, 0, 0), (1, 42, 0, 0), (2, 180, 2, 13), (5, 182, 2, 124), (8, 42, 0, 0), (9, 3, 0, 0), (10, 181, 2, 159), (13, 3, 0, 0), (14, 61, 0, 0), (15, 28, 0, 0), (16, 42, 0, 0), (17, 180, 2, 101), (20, 162, 2, 52), (23, 42, 0, 0), (24, 180, 2, 38), (27, 28, 0, 0), (28, 46, 0, 0), (29, 27, 0, 0), (30, 163, 2, 36), (33, 42, 0, 0)]
theorem da_cX5_goesDown_0 : fw dt_cX5_goesDown_0 0 cX5_goesDown.data.toList = true := by decide +kernel
theorem dX5_goesDown_0 : decode cX5_goesDown 0 = .ok (.aload_n 0, 1) := fo_42 (fw_get da_cX5_goesDown_0 0 rfl)
theorem dX5_goesDown_1 : decode cX5_goesDown 1 = .ok (.aload_n 0, 1) := fo_42 (fw_get da_cX5_goesDown_0 1 rfl)
theorem dX5_goesDown_2 : decode cX5_goesDown 2 = .ok (.getfield 13, 3) := fo_180 (fw_get da_cX5_goesDown_0 2 rfl)
theorem dX5_goesDown_5 : decode cX5_goesDown 5 = .ok (.invokevirtual 124, 3) := fo_182 (fw_get da_cX5_goesDown_0 3 rfl)
theorem dX5_goesDown_8 : decode cX5_goesDown 8 = .ok (.aload_n 0, 1) := fo_42 (fw_get da_cX5_goesDown_0 4 rfl)
theorem dX5_goesDown_9 : decode cX5_goesDown 9 = .ok (.iconst 0, 1) := fo_3 (fw_get da_cX5_goesDown_0 5 rfl)
theorem dX5_goesDown_10 : decode cX5_goesDown 10 = .ok (.putfield 159, 3) := fo_181 (fw_get da_cX5_goesDown_0 6 rfl)
theorem dX5_goesDown_13 : decode cX5_goesDown 13 = .ok (.iconst 0, 1) := fo_3 (fw_get da_cX5_goesDown_0 7 rfl)
theorem dX5_goesDown_14 : decode cX5_goesDown 14 = .ok (.istore_n 2, 1) := fo_61 (fw_get da_cX5_goesDown_0 8 rfl)
theorem dX5_goesDown_15 : decode cX5_goesDown 15 = .ok (.iload_n 2, 1) := fo_28 (fw_get da_cX5_goesDown_0 9 rfl)
theorem dX5_goesDown_16 : decode cX5_goesDown 16 = .ok (.aload_n 0, 1) := fo_42 (fw_get da_cX5_goesDown_0 10 rfl)
theorem dX5_goesDown_17 : decode cX5_goesDown 17 = .ok (.getfield 101, 3) := fo_180 (fw_get da_cX5_goesDown_0 11 rfl)
theorem dX5_goesDown_20 : decode cX5_goesDown 20 = .ok (.if_icmp .ge 52, 3) := fo_162 (fw_get da_cX5_goesDown_0 12 rfl) (by decide +kernel)
theorem dX5_goesDown_23 : decode cX5_goesDown 23 = .ok (.aload_n 0, 1) := fo_42 (fw_get da_cX5_goesDown_0 13 rfl)
theorem dX5_goesDown_24 : decode cX5_goesDown 24 = .ok (.getfield 38, 3) := fo_180 (fw_get da_cX5_goesDown_0 14 rfl)
theorem dX5_goesDown_27 : decode cX5_goesDown 27 = .ok (.iload_n 2, 1) := fo_28 (fw_get da_cX5_goesDown_0 15 rfl)
theorem dX5_goesDown_28 : decode cX5_goesDown 28 = .ok (.iaload, 1) := fo_46 (fw_get da_cX5_goesDown_0 16 rfl)
theorem dX5_goesDown_29 : decode cX5_goesDown 29 = .ok (.iload_n 1, 1) := fo_27 (fw_get da_cX5_goesDown_0 17 rfl)
theorem dX5_goesDown_30 : decode cX5_goesDown 30 = .ok (.if_icmp .gt 36, 3) := fo_163 (fw_get da_cX5_goesDown_0 18 rfl) (by decide +kernel)
theorem dX5_goesDown_33 : decode cX5_goesDown 33 = .ok (.aload_n 0, 1) := fo_42 (fw_get da_cX5_goesDown_0 19 rfl)
def dt_cX5_goesDown_1 : List (Nat × Nat × Nat × Nat) := [(34, 180, 2, 41), (37, 28, 0, 0), (38, 46, 0, 0), (39, 27, 0, 0), (40, 163, 2, 6), (43, 167, 2, 23), (46, 42, 0, 0), (47, 180, 2, 59), (50, 42, 0, 0), (51, 180, 2, 159), (54, 28, 0, 0), (55, 79, 0, 0), (56, 42, 0, 0), (57, 89, 0, 0), (58, 180, 2, 159), (61, 4, 0, 0), (62, 96, 0, 0), (63, 181, 2, 159), (66, 132, 2, 513), (69, 167, 2, 65482)]
theorem da_cX5_goesDown_1 : fw dt_cX5_goesDown_1 0 cX5_goesDown.data.toList = true := by decide +kernel
theorem dX5_goesDown_34 : decode cX5_goesDown 34 = .ok (.getfield 41, 3) := fo_180 (fw_get da_cX5_goesDown_1 0 rfl)
theorem dX5_goesDown_37 : decode cX5_goesDown 37 = .ok (.iload_n 2, 1) := fo_28 (fw_get da_cX5_goesDown_1 1 rfl)
theorem dX5_goesDown_38 : decode cX5_goesDown 38 = .ok (.iaload, 1) := fo_46 (fw_get da_cX5_goesDown_1 2 rfl)
theorem dX5_goesDown_39 : decode cX5_goesDown 39 = .ok (.iload_n 1, 1) := fo_27 (fw_get da_cX5_goesDown_1 3 rfl)
theorem dX5_goesDown_40 : decode cX5_goesDown 40 = .ok (.if_icmp .gt 6, 3) := fo_163 (fw_get da_cX5_goesDown_1 4 rfl) (by decide +kernel)
theorem dX5_goesDown_43 : decode cX5_goesDown 43 = .ok (.goto 23, 3) := fo_167 (fw_get da_cX5_goesDown_1 5 rfl) (by decide +kernel)
theorem dX5_goesDown_46 : decode cX5_goesDown 46 = .ok (.aload_n 0, 1) := fo_42 (fw_get da_cX5_goesDown_1 6 rfl)
theorem dX5_goesDown_47 : decode cX5_goesDown 47 = .ok (.getfield 59, 3) := fo_180 (fw_get da_cX5_goesDown_1 7 rfl)
theorem dX5_goesDown_50 : decode cX5_goesDown 50 = .ok (.aload_n 0, 1) := fo_42 (fw_get da_cX5_goesDown_1 8 rfl)
theorem dX5_goesDown_51 : decode cX5_goesDown 51 = .ok (.getfield 159, 3) := fo_180 (fw_get da_cX5_goesDown_1 9 rfl)
theorem dX5_goesDown_54 : decode cX5_goesDown 54 = .ok (.iload_n 2, 1) := fo_28 (fw_get da_cX5_goesDown_1 10 rfl)
theorem dX5_goesDown_55 : decode cX5_goesDown 55 = .ok (.iastore, 1) := fo_79 (fw_get da_cX5_goesDown_1 11 rfl)
theorem dX5_goesDown_56 : decode cX5_goesDown 56 = .ok (.aload_n 0, 1) := fo_42 (fw_get da_cX5_goesDown_1 12 rfl)
theorem dX5_goesDown_57 : decode cX5_goesDown 57 = .ok (.dup, 1) := fo_89 (fw_get da_cX5_goesDown_1 13 rfl)
theorem dX5_goesDown_58 : decode cX5_goesDown 58 = .ok (.getfield 159, 3) := fo_180 (fw_get da_cX5_goesDown_1 14 rfl)
theorem dX5_goesDown_61 : decode cX5_goesDown 61 = .ok (.iconst 1, 1) := fo_4 (fw_get da_cX5_goesDown_1 15 rfl)
theorem dX5_goesDown_62 : decode cX5_goesDown 62 = .ok (.iadd, 1) := fo_96 (fw_get da_cX5_goesDown_1 16 rfl)
theorem dX5_goesDown_63 : decode cX5_goesDown 63 = .ok (.putfield 159, 3) := fo_181 (fw_get da_cX5_goesDown_1 17 rfl)
theorem dX5_goesDown_66 : decode cX5_goesDown 66 = .ok (.iinc 2 1, 3) := fo_132 (fw_get da_cX5_goesDown_1 18 rfl) rfl (by decide +kernel)
theorem dX5_goesDown_69 : decode cX5_goesDown 69 = .ok (.goto (-54), 3) := fo_167 (fw_get da_cX5_goesDown_1 19 rfl) (by decide +kernel)
def dt_cX5_goesDown_2 : List (Nat × Nat × Nat × Nat) := [(72, 177, 0, 0)]
theorem da_cX5_goesDown_2 : fw dt_cX5_goesDown_2 0 cX5_goesDown.data.toList = true := by decide +kernel
theorem dX5_goesDown_72 : decode cX5_goesDown 72 = .ok (.return_, 1) := fo_177 (fw_get da_cX5_goesDown_2 0 rfl)
theorem mi_wsX5_above_wsX5_above_r1 : ∀ w ∈ wsX5_above_r1, w ∈ wsX5_above := fun _ h => (List.mem_cons_of_mem _ (List.mem_append_left _ (List.mem_append_left _ h)))
theorem mi_wsX5_above_wsX50 : ∀ w ∈ wsX50, w ∈ wsX5_above := fun _ h => (List.mem_cons_of_mem _ (List.mem_append_right _ h))
set_option maxRecDepth 20000 in
theorem ggX5_above_X5_isPlace : GoodIn wsX5_above wsX5_isPlace := goodIn_m _ [(wsX5_above_r1, [false, false, false, false, false, false, false, false, false, false, true, true, true, true]), (wsX5_above_r1, [false, false, false, false, false, false, false, false, false, true, false, false, false, false, true]), (wsX50, [true, true, true, true, true, true, true, true, true, true, true, true, true, true, true, true, true, true, true, true, true, true, true, true, true, true, true, true, true, true])] (gm_c mi_wsX5_above_wsX5_above_r1 (gm_c mi_wsX5_above_wsX5_above_r1 (gm_c mi_wsX5_above_wsX50 gm_n))) rfl (by decide +kernel)
set_option maxRecDepth 20000 in
theorem gX5_above_X5_isPlace : GoodIn wsX5_above (wsV RX5 128 RX5 yX5_isPlace wsX5_isPlace) := goodIn_app (goodIn_m _ [(wsX5_above_r1, [false, false, false, false, false, false, true, true, true, true])] (gm_c mi_wsX5_above_wsX5_above_r1 gm_n) rfl (by decide +kernel)) ggX5_above_X5_isPlace
set_option maxRecDepth 20000 in
theorem ggX5_above_X5_within : GoodIn wsX5_above wsX5_within := goodIn_m _ [(wsX5_above_r1, [false, false, false, false, false, false, false, false, false, false, false, false, false, false, true])] (gm_c mi_wsX5_above_wsX5_above_r1 gm_n) rfl (by decide +kernel)
set_option maxRecDepth 20000 in
theorem gX5_above_X5_within : GoodIn wsX5_above (va_wsS RX5 80 yX5_within wsX5_within) := goodIn_app (goodIn_m _ [(wsX5_above_r1, [false, false, false, false, false, false, false, false, false, false, false, false, true, true]), (wsX5_above_r1, [false, false, false, false, false, false, false, false, false, true])] (gm_c mi_wsX5_above_wsX5_above_r1 (gm_c mi_wsX5_above_wsX5_above_r1 gm_n)) rfl (by decide +kernel)) ggX5_above_X5_within
theorem mi_wsX5_above_wsX5_above_r2 : ∀ w ∈ wsX5_above_r2, w ∈ wsX5_above := fun _ h => (List.mem_cons_of_mem _ (List.mem_append_left _ (List.mem_append_right _ (List.mem_append_left _ h))))
theorem mi_wsX5_above_wsX5_above_r3 : ∀ w ∈ wsX5_above_r3, w ∈ wsX5_above := fun _ h => (List.mem_cons_of_mem _ (List.mem_append_left _ (List.mem_append_right _ (List.mem_append_right _ h))))
set_option maxRecDepth 20000 in
theorem ggX5_above_X5_goesDown : GoodIn wsX5_above wsX5_goesDown := goodIn_m _ [(wsX5_above_r1, [false, false, false, false, false, false, false, false, false, false, false, false, false, false, false, false, false, false, true, true]), (wsX5_above_r1, [false, true, false, false, false, false, false, false, false, false, false, false, false, false, false, false, false, false, false, false, true]), (wsX5_above_r1, [false, false, true, false, true]), (wsX5_above_r1, [false, false, false, true, false, false, false, false, false, false, false, false, false, false, false, false, false, false, false, false, false, true, true, true]), (wsX5_above_r1, [false, false, false, false, false, false, false, false, false, true]), (wsX5_above_r2, [true]), (wsX5_above_r1, [false, false, false, false, false, false, false, false, false, false, false, true]), (wsX5_above_r2, [false, true, true, true, true]), (wsX5_above_r1, [false, false, false, false, false, true]), (wsX5_above_r2, [false, false, false, false, false, true, true, true, true, true, true, true, true, true, true, true, true, true, true, true, true, true, true, true]), (wsX5_above_r3, [true, true, true, true, true, true, true, true, true]), (wsX50, [true, true, true, true, true, true, true, true, true, true, true, true, true, true, true, true, true, true, true, true, true, true, true, true, true, true, true, true, true, true])] (gm_c mi_wsX5_above_wsX5_above_r1 (gm_c mi_wsX5_above_wsX5_above_r1 (gm_c mi_wsX5_above_wsX5_above_r1 (gm_c mi_wsX5_above_wsX5_above_r1 (gm_c mi_wsX5_above_wsX5_above_r1 (gm_c mi_wsX5_above_wsX5_above_r2 (gm_c mi_wsX5_above_wsX5_above_r1 (gm_c mi_wsX5_above_wsX5_above_r2 (gm_c mi_wsX5_above_wsX5_above_r1 (gm_c mi_wsX5_above_wsX5_above_r2 (gm_c mi_wsX5_above_wsX5_above_r3 (gm_c mi_wsX5_above_wsX50 gm_n)))))))))))) rfl (by decide +kernel)
set_option maxRecDepth 20000 in
theorem gX5_above_X5_goesDown : GoodIn wsX5_above (wsV RX5 162 RX5 yX5_goesDown wsX5_goesDown) := goodIn_app (goodIn_m _ [(wsX5_above_r1, [false, false, false, false, false, false, false, false, false, false, false, false, false, false, false, true, true, true]), (wsX5_above_r1, [false, false, false, false, false, false, false, false, false, true])] (gm_c mi_wsX5_above_wsX5_above_r1 (gm_c mi_wsX5_above_wsX5_above_r1 gm_n)) rfl (by decide +kernel)) ggX5_above_X5_goesDown
set_option maxRecDepth 20000 in
theorem ggX5_above_X5_numberOf : GoodIn wsX5_above wsX5_numberOf := goodIn_m _ [(wsX5_above_r3, [false, false, false, false, false, false, false, false, false, false, false, false, true]), (wsX5_above_r2, [false, false, false, false, false, false, false, false, false, true, false, false, true, true]), (wsX50, [true, true, true, true, true, true, true, true, true, true, true, true, true, true, true, true, true, true, true, true, true, true, true, true, true, true, true, true, true, true])] (gm_c mi_wsX5_above_wsX5_above_r3 (gm_c mi_wsX5_above_wsX5_above_r2 (gm_c mi_wsX5_above_wsX50 gm_n))) rfl (by decide +kernel)
set_option maxRecDepth 20000 in
theorem gX5_above_X5_numberOf : GoodIn wsX5_above (wsV RX5 165 RX5 yX5_numberOf wsX5_numberOf) := goodIn_app (goodIn_m _ [(wsX5_above_r3, [false, false, false, false, false, false, false, false, false, true, true, true]), (wsX5_above_r1, [false, false, false, false, false, false, false, false, false, true])] (gm_c mi_wsX5_above_wsX5_above_r3 (gm_c mi_wsX5_above_wsX5_above_r1 gm_n)) rfl (by decide +kernel)) ggX5_above_X5_numberOf
def dt_cX5_above_0 : List (Nat × Nat × Nat × Nat) := [(0, 42, 0, 0), (1, 3, 0, 0), (2, 181, 2, 77), (5, 42, 0, 0), (6, 27, 0, 0), (7, 182, 2, 128), (10, 153, 2, 12), (13, 29, 0, 0), (14, 3, 0, 0), (15, 5, 0, 0), (16, 184, 2, 80), (19, 154, 2, 5), (22, 2, 0, 0), (23, 172, 0, 0), (24, 42, 0, 0), (25, 27, 0, 0), (26, 182, 2, 162), (29, 28, 0, 0), (30, 2, 0, 0), (31, 160, 2, 8)]
theorem da_cX5_above_0 : fw dt_cX5_above_0 0 cX5_above.data.toList = true := by decide +kernel
theorem dX5_above_0 : decode cX5_above 0 = .ok (.aload_n 0, 1) := fo_42 (fw_get da_cX5_above_0 0 rfl)
theorem dX5_above_1 : decode cX5_above 1 = .ok (.iconst 0, 1) := fo_3 (fw_get da_cX5_above_0 1 rfl)
theorem dX5_above_2 : decode cX5_above 2 = .ok (.putfield 77, 3) := fo_181 (fw_get da_cX5_above_0 2 rfl)
theorem dX5_above_5 : decode cX5_above 5 = .ok (.aload_n 0, 1) := fo_42 (fw_get da_cX5_above_0 3 rfl)
theorem dX5_above_6 : decode cX5_above 6 = .ok (.iload_n 1, 1) := fo_27 (fw_get da_cX5_above_0 4 rfl)
theorem dX5_above_7 : decode cX5_above 7 = .ok (.invokevirtual 128, 3) := fo_182 (fw_get da_cX5_above_0 5 rfl)
theorem dX5_above_10 : decode cX5_above 10 = .ok (.ifCond .eq 12, 3) := fo_153 (fw_get da_cX5_above_0 6 rfl) (by decide +kernel)
theorem dX5_above_13 : decode cX5_above 13 = .ok (.iload_n 3, 1) := fo_29 (fw_get da_cX5_above_0 7 rfl)
theorem dX5_above_14 : decode cX5_above 14 = .ok (.iconst 0, 1) := fo_3 (fw_get da_cX5_above_0 8 rfl)
theorem dX5_above_15 : decode cX5_above 15 = .ok (.iconst 2, 1) := fo_5 (fw_get da_cX5_above_0 9 rfl)
theorem dX5_above_16 : decode cX5_above 16 = .ok (.invokestatic 80, 3) := fo_184 (fw_get da_cX5_above_0 10 rfl)
theorem dX5_above_19 : decode cX5_above 19 = .ok (.ifCond .ne 5, 3) := fo_154 (fw_get da_cX5_above_0 11 rfl) (by decide +kernel)
theorem dX5_above_22 : decode cX5_above 22 = .ok (.iconst (-1), 1) := fo_2 (fw_get da_cX5_above_0 12 rfl)
theorem dX5_above_23 : decode cX5_above 23 = .ok (.ireturn, 1) := fo_172 (fw_get da_cX5_above_0 13 rfl)
theorem dX5_above_24 : decode cX5_above 24 = .ok (.aload_n 0, 1) := fo_42 (fw_get da_cX5_above_0 14 rfl)
theorem dX5_above_25 : decode cX5_above 25 = .ok (.iload_n 1, 1) := fo_27 (fw_get da_cX5_above_0 15 rfl)
theorem dX5_above_26 : decode cX5_above 26 = .ok (.invokevirtual 162, 3) := fo_182 (fw_get da_cX5_above_0 16 rfl)
theorem dX5_above_29 : decode cX5_above 29 = .ok (.iload_n 2, 1) := fo_28 (fw_get da_cX5_above_0 17 rfl)
theorem dX5_above_30 : decode cX5_above 30 = .ok (.iconst (-1), 1) := fo_2 (fw_get da_cX5_above_0 18 rfl)
theorem dX5_above_31 : decode cX5_above 31 = .ok (.if_icmp .ne 8, 3) := fo_160 (fw_get da_cX5_above_0 19 rfl) (by decide +kernel)
def dt_cX5_above_1 : List (Nat × Nat × Nat × Nat) := [(34, 42, 0, 0), (35, 180, 2, 159), (38, 172, 0, 0), (39, 28, 0, 0), (40, 3, 0, 0), (41, 42, 0, 0), (42, 180, 2, 159), (45, 4, 0, 0), (46, 100, 0, 0), (47, 184, 2, 80), (50, 154, 2, 5), (53, 2, 0, 0), (54, 172, 0, 0), (55, 29, 0, 0), (56, 154, 2, 17), (59, 42, 0, 0), (60, 180, 2, 38), (63, 42, 0, 0), (64, 180, 2, 59), (67, 28, 0, 0)]
theorem da_cX5_above_1 : fw dt_cX5_above_1 0 cX5_above.data.toList = true := by decide +kernel
theorem dX5_above_34 : decode cX5_above 34 = .ok (.aload_n 0, 1) := fo_42 (fw_get da_cX5_above_1 0 rfl)
theorem dX5_above_35 : decode cX5_above 35 = .ok (.getfield 159, 3) := fo_180 (fw_get da_cX5_above_1 1 rfl)
theorem dX5_above_38 : decode cX5_above 38 = .ok (.ireturn, 1) := fo_172 (fw_get da_cX5_above_1 2 rfl)
theorem dX5_above_39 : decode cX5_above 39 = .ok (.iload_n 2, 1) := fo_28 (fw_get da_cX5_above_1 3 rfl)
theorem dX5_above_40 : decode cX5_above 40 = .ok (.iconst 0, 1) := fo_3 (fw_get da_cX5_above_1 4 rfl)
theorem dX5_above_41 : decode cX5_above 41 = .ok (.aload_n 0, 1) := fo_42 (fw_get da_cX5_above_1 5 rfl)
theorem dX5_above_42 : decode cX5_above 42 = .ok (.getfield 159, 3) := fo_180 (fw_get da_cX5_above_1 6 rfl)
theorem dX5_above_45 : decode cX5_above 45 = .ok (.iconst 1, 1) := fo_4 (fw_get da_cX5_above_1 7 rfl)
theorem dX5_above_46 : decode cX5_above 46 = .ok (.isub, 1) := fo_100 (fw_get da_cX5_above_1 8 rfl)
theorem dX5_above_47 : decode cX5_above 47 = .ok (.invokestatic 80, 3) := fo_184 (fw_get da_cX5_above_1 9 rfl)
theorem dX5_above_50 : decode cX5_above 50 = .ok (.ifCond .ne 5, 3) := fo_154 (fw_get da_cX5_above_1 10 rfl) (by decide +kernel)
theorem dX5_above_53 : decode cX5_above 53 = .ok (.iconst (-1), 1) := fo_2 (fw_get da_cX5_above_1 11 rfl)
theorem dX5_above_54 : decode cX5_above 54 = .ok (.ireturn, 1) := fo_172 (fw_get da_cX5_above_1 12 rfl)
theorem dX5_above_55 : decode cX5_above 55 = .ok (.iload_n 3, 1) := fo_29 (fw_get da_cX5_above_1 13 rfl)
theorem dX5_above_56 : decode cX5_above 56 = .ok (.ifCond .ne 17, 3) := fo_154 (fw_get da_cX5_above_1 14 rfl) (by decide +kernel)
theorem dX5_above_59 : decode cX5_above 59 = .ok (.aload_n 0, 1) := fo_42 (fw_get da_cX5_above_1 15 rfl)
theorem dX5_above_60 : decode cX5_above 60 = .ok (.getfield 38, 3) := fo_180 (fw_get da_cX5_above_1 16 rfl)
theorem dX5_above_63 : decode cX5_above 63 = .ok (.aload_n 0, 1) := fo_42 (fw_get da_cX5_above_1 17 rfl)
theorem dX5_above_64 : decode cX5_above 64 = .ok (.getfield 59, 3) := fo_180 (fw_get da_cX5_above_1 18 rfl)
theorem dX5_above_67 : decode cX5_above 67 = .ok (.iload_n 2, 1) := fo_28 (fw_get da_cX5_above_1 19 rfl)
def dt_cX5_above_2 : List (Nat × Nat × Nat × Nat) := [(68, 46, 0, 0), (69, 46, 0, 0), (70, 167, 2, 38), (73, 29, 0, 0), (74, 4, 0, 0), (75, 160, 2, 17), (78, 42, 0, 0), (79, 180, 2, 41), (82, 42, 0, 0), (83, 180, 2, 59), (86, 28, 0, 0), (87, 46, 0, 0), (88, 46, 0, 0), (89, 167, 2, 19), (92, 42, 0, 0), (93, 42, 0, 0), (94, 180, 2, 59), (97, 28, 0, 0), (98, 46, 0, 0), (99, 42, 0, 0)]
theorem da_cX5_above_2 : fw dt_cX5_above_2 0 cX5_above.data.toList = true := by decide +kernel
theorem dX5_above_68 : decode cX5_above 68 = .ok (.iaload, 1) := fo_46 (fw_get da_cX5_above_2 0 rfl)
theorem dX5_above_69 : decode cX5_above 69 = .ok (.iaload, 1) := fo_46 (fw_get da_cX5_above_2 1 rfl)
theorem dX5_above_70 : decode cX5_above 70 = .ok (.goto 38, 3) := fo_167 (fw_get da_cX5_above_2 2 rfl) (by decide +kernel)
theorem dX5_above_73 : decode cX5_above 73 = .ok (.iload_n 3, 1) := fo_29 (fw_get da_cX5_above_2 3 rfl)
theorem dX5_above_74 : decode cX5_above 74 = .ok (.iconst 1, 1) := fo_4 (fw_get da_cX5_above_2 4 rfl)
theorem dX5_above_75 : decode cX5_above 75 = .ok (.if_icmp .ne 17, 3) := fo_160 (fw_get da_cX5_above_2 5 rfl) (by decide +kernel)
theorem dX5_above_78 : decode cX5_above 78 = .ok (.aload_n 0, 1) := fo_42 (fw_get da_cX5_above_2 6 rfl)
theorem dX5_above_79 : decode cX5_above 79 = .ok (.getfield 41, 3) := fo_180 (fw_get da_cX5_above_2 7 rfl)
theorem dX5_above_82 : decode cX5_above 82 = .ok (.aload_n 0, 1) := fo_42 (fw_get da_cX5_above_2 8 rfl)
theorem dX5_above_83 : decode cX5_above 83 = .ok (.getfield 59, 3) := fo_180 (fw_get da_cX5_above_2 9 rfl)
theorem dX5_above_86 : decode cX5_above 86 = .ok (.iload_n 2, 1) := fo_28 (fw_get da_cX5_above_2 10 rfl)
theorem dX5_above_87 : decode cX5_above 87 = .ok (.iaload, 1) := fo_46 (fw_get da_cX5_above_2 11 rfl)
theorem dX5_above_88 : decode cX5_above 88 = .ok (.iaload, 1) := fo_46 (fw_get da_cX5_above_2 12 rfl)
theorem dX5_above_89 : decode cX5_above 89 = .ok (.goto 19, 3) := fo_167 (fw_get da_cX5_above_2 13 rfl) (by decide +kernel)
theorem dX5_above_92 : decode cX5_above 92 = .ok (.aload_n 0, 1) := fo_42 (fw_get da_cX5_above_2 14 rfl)
theorem dX5_above_93 : decode cX5_above 93 = .ok (.aload_n 0, 1) := fo_42 (fw_get da_cX5_above_2 15 rfl)
theorem dX5_above_94 : decode cX5_above 94 = .ok (.getfield 59, 3) := fo_180 (fw_get da_cX5_above_2 16 rfl)
theorem dX5_above_97 : decode cX5_above 97 = .ok (.iload_n 2, 1) := fo_28 (fw_get da_cX5_above_2 17 rfl)
theorem dX5_above_98 : decode cX5_above 98 = .ok (.iaload, 1) := fo_46 (fw_get da_cX5_above_2 18 rfl)
theorem dX5_above_99 : decode cX5_above 99 = .ok (.aload_n 0, 1) := fo_42 (fw_get da_cX5_above_2 19 rfl)
def dt_cX5_above_3 : List (Nat × Nat × Nat × Nat) := [(100, 180, 2, 7), (103, 27, 0, 0), (104, 46, 0, 0), (105, 182, 2, 165), (108, 172, 0, 0)]
theorem da_cX5_above_3 : fw dt_cX5_above_3 0 cX5_above.data.toList = true := by decide +kernel
theorem dX5_above_100 : decode cX5_above 100 = .ok (.getfield 7, 3) := fo_180 (fw_get da_cX5_above_3 0 rfl)
theorem dX5_above_103 : decode cX5_above 103 = .ok (.iload_n 1, 1) := fo_27 (fw_get da_cX5_above_3 1 rfl)
theorem dX5_above_104 : decode cX5_above 104 = .ok (.iaload, 1) := fo_46 (fw_get da_cX5_above_3 2 rfl)
theorem dX5_above_105 : decode cX5_above 105 = .ok (.invokevirtual 165, 3) := fo_182 (fw_get da_cX5_above_3 3 rfl)
theorem dX5_above_108 : decode cX5_above 108 = .ok (.ireturn, 1) := fo_172 (fw_get da_cX5_above_3 4 rfl)
theorem mi_wsX5_holds_wsX5_holds_r1 : ∀ w ∈ wsX5_holds_r1, w ∈ wsX5_holds := fun _ h => (List.mem_cons_of_mem _ (List.mem_append_left _ (List.mem_append_left _ h)))
theorem mi_wsX5_holds_wsX50 : ∀ w ∈ wsX50, w ∈ wsX5_holds := fun _ h => (List.mem_cons_of_mem _ (List.mem_append_right _ h))
set_option maxRecDepth 20000 in
theorem ggX5_holds_X5_isPlace : GoodIn wsX5_holds wsX5_isPlace := goodIn_m _ [(wsX5_holds_r1, [false, false, false, false, false, false, false, false, true, true, true, true]), (wsX5_holds_r1, [false, false, false, false, false, false, false, true, false, false, false, false, true]), (wsX50, [true, true, true, true, true, true, true, true, true, true, true, true, true, true, true, true, true, true, true, true, true, true, true, true, true, true, true, true, true, true])] (gm_c mi_wsX5_holds_wsX5_holds_r1 (gm_c mi_wsX5_holds_wsX5_holds_r1 (gm_c mi_wsX5_holds_wsX50 gm_n))) rfl (by decide +kernel)
set_option maxRecDepth 20000 in
theorem gX5_holds_X5_isPlace : GoodIn wsX5_holds (wsV RX5 128 RX5 yX5_isPlace wsX5_isPlace) := goodIn_app (goodIn_m _ [(wsX5_holds_r1, [false, false, false, false, true, true, true, true])] (gm_c mi_wsX5_holds_wsX5_holds_r1 gm_n) rfl (by decide +kernel)) ggX5_holds_X5_isPlace
theorem mi_wsX5_holds_wsX5_holds_r2 : ∀ w ∈ wsX5_holds_r2, w ∈ wsX5_holds := fun _ h => (List.mem_cons_of_mem _ (List.mem_append_left _ (List.mem_append_right _ (List.mem_append_left _ h))))
theorem mi_wsX5_holds_wsX5_holds_r3 : ∀ w ∈ wsX5_holds_r3, w ∈ wsX5_holds := fun _ h => (List.mem_cons_of_mem _ (List.mem_append_left _ (List.mem_append_right _ (List.mem_append_right _ h))))
set_option maxRecDepth 20000 in
theorem ggX5_holds_X5_goesDown : GoodIn wsX5_holds wsX5_goesDown := goodIn_m _ [(wsX5_holds_r1, [false, false, false, false, false, false, false, false, false, false, false, false, false, false, false, false, true, true]), (wsX5_holds_r1, [false, true, false, false, false, false, false, false, false, false, false, false, false, false, false, false, false, false, true, true, true]), (wsX5_holds_r1, [false, false, true, false, false, false, false, false, false, false, false, false, false, false, false, false, false, false, false, false, false, true, true, true]), (wsX5_holds_r1, [false, false, false, false, false, false, false, true]), (wsX5_holds_r2, [true]), (wsX5_holds_r1, [false, false, false, false, false, false, false, false, false, true]), (wsX5_holds_r2, [false, true, true, true, true]), (wsX5_holds_r1, [false, false, false, true]), (wsX5_holds_r2, [false, false, false, false, false, true, true, true, true, true, true, true, true, true, true, true, true, true, true, true, true, true, true, true]), (wsX5_holds_r3, [true, true, true, true, true, true, true, true, true]), (wsX50, [true, true, true, true, true, true, true, true, true, true, true, true, true, true, true, true, true, true, true, true, true, true, true, true, true, true, true, true, true, true])] (gm_c mi_wsX5_holds_wsX5_holds_r1 (gm_c mi_wsX5_holds_wsX5_holds_r1 (gm_c mi_wsX5_holds_wsX5_holds_r1 (gm_c mi_wsX5_holds_wsX5_holds_r1 (gm_c mi_wsX5_holds_wsX5_holds_r2 (gm_c mi_wsX5_holds_wsX5_holds_r1 (gm_c mi_wsX5_holds_wsX5_holds_r2 (gm_c mi_wsX5_holds_wsX5_holds_r1 (gm_c mi_wsX5_holds_wsX5_holds_r2 (gm_c mi_wsX5_holds_wsX5_holds_r3 (gm_c mi_wsX5_holds_wsX50 gm_n))))))))))) rfl (by decide +kernel)
set_option maxRecDepth 20000 in
theorem gX5_holds_X5_goesDown : GoodIn wsX5_holds (wsV RX5 162 RX5 yX5_goesDown wsX5_goesDown) := goodIn_app (goodIn_m _ [(wsX5_holds_r1, [false, false, false, false, false, false, false, false, false, false, false, false, false, true, true, true]), (wsX5_holds_r1, [false, false, false, false, false, false, false, true])] (gm_c mi_wsX5_holds_wsX5_holds_r1 (gm_c mi_wsX5_holds_wsX5_holds_r1 gm_n)) rfl (by decide +kernel)) ggX5_holds_X5_goesDown
set_option maxRecDepth 20000 in
theorem ggX5_holds_X5_numberOf : GoodIn wsX5_holds wsX5_numberOf := goodIn_m _ [(wsX5_holds_r3, [false, false, false, false, false, false, false, false, false, false, false, false, true]), (wsX5_holds_r2, [false, false, false, false, false, false, false, false, false, true, false, false, true, true]), (wsX50, [true, true, true, true, true, true, true, true, true, true, true, true, true, true, true, true, true, true, true, true, true, true, true, true, true, true, true, true, true, true])] (gm_c mi_wsX5_holds_wsX5_holds_r3 (gm_c mi_wsX5_holds_wsX5_holds_r2 (gm_c mi_wsX5_holds_wsX50 gm_n))) rfl (by decide +kernel)
set_option maxRecDepth 20000 in
theorem gX5_holds_X5_numberOf : GoodIn wsX5_holds (wsV RX5 165 RX5 yX5_numberOf wsX5_numberOf) := goodIn_app (goodIn_m _ [(wsX5_holds_r3, [false, false, false, false, false, false, false, false, false, true, true, true]), (wsX5_holds_r1, [false, false, false, false, false, false, false, true])] (gm_c mi_wsX5_holds_wsX5_holds_r3 (gm_c mi_wsX5_holds_wsX5_holds_r1 gm_n)) rfl (by decide +kernel)) ggX5_holds_X5_numberOf
def dt_cX5_holds_0 : List (Nat × Nat × Nat × Nat) := [(0, 42, 0, 0), (1, 3, 0, 0), (2, 181, 2, 77), (5, 42, 0, 0), (6, 27, 0, 0), (7, 182, 2, 128), (10, 154, 2, 5), (13, 2, 0, 0), (14, 172, 0, 0), (15, 42, 0, 0), (16, 27, 0, 0), (17, 182, 2, 162), (20, 3, 0, 0), (21, 61, 0, 0), (22, 28, 0, 0), (23, 42, 0, 0), (24, 180, 2, 159), (27, 162, 2, 35), (30, 42, 0, 0), (31, 42, 0, 0)]
theorem da_cX5_holds_0 : fw dt_cX5_holds_0 0 cX5_holds.data.toList = true := by decide +kernel
theorem dX5_holds_0 : decode cX5_holds 0 = .ok (.aload_n 0, 1) := fo_42 (fw_get da_cX5_holds_0 0 rfl)
theorem dX5_holds_1 : decode cX5_holds 1 = .ok (.iconst 0, 1) := fo_3 (fw_get da_cX5_holds_0 1 rfl)
theorem dX5_holds_2 : decode cX5_holds 2 = .ok (.putfield 77, 3) := fo_181 (fw_get da_cX5_holds_0 2 rfl)
theorem dX5_holds_5 : decode cX5_holds 5 = .ok (.aload_n 0, 1) := fo_42 (fw_get da_cX5_holds_0 3 rfl)
theorem dX5_holds_6 : decode cX5_holds 6 = .ok (.iload_n 1, 1) := fo_27 (fw_get da_cX5_holds_0 4 rfl)
theorem dX5_holds_7 : decode cX5_holds 7 = .ok (.invokevirtual 128, 3) := fo_182 (fw_get da_cX5_holds_0 5 rfl)
theorem dX5_holds_10 : decode cX5_holds 10 = .ok (.ifCond .ne 5, 3) := fo_154 (fw_get da_cX5_holds_0 6 rfl) (by decide +kernel)
theorem dX5_holds_13 : decode cX5_holds 13 = .ok (.iconst (-1), 1) := fo_2 (fw_get da_cX5_holds_0 7 rfl)
theorem dX5_holds_14 : decode cX5_holds 14 = .ok (.ireturn, 1) := fo_172 (fw_get da_cX5_holds_0 8 rfl)
theorem dX5_holds_15 : decode cX5_holds 15 = .ok (.aload_n 0, 1) := fo_42 (fw_get da_cX5_holds_0 9 rfl)
theorem dX5_holds_16 : decode cX5_holds 16 = .ok (.iload_n 1, 1) := fo_27 (fw_get da_cX5_holds_0 10 rfl)
theorem dX5_holds_17 : decode cX5_holds 17 = .ok (.invokevirtual 162, 3) := fo_182 (fw_get da_cX5_holds_0 11 rfl)
theorem dX5_holds_20 : decode cX5_holds 20 = .ok (.iconst 0, 1) := fo_3 (fw_get da_cX5_holds_0 12 rfl)
theorem dX5_holds_21 : decode cX5_holds 21 = .ok (.istore_n 2, 1) := fo_61 (fw_get da_cX5_holds_0 13 rfl)
theorem dX5_holds_22 : decode cX5_holds 22 = .ok (.iload_n 2, 1) := fo_28 (fw_get da_cX5_holds_0 14 rfl)
theorem dX5_holds_23 : decode cX5_holds 23 = .ok (.aload_n 0, 1) := fo_42 (fw_get da_cX5_holds_0 15 rfl)
theorem dX5_holds_24 : decode cX5_holds 24 = .ok (.getfield 159, 3) := fo_180 (fw_get da_cX5_holds_0 16 rfl)
theorem dX5_holds_27 : decode cX5_holds 27 = .ok (.if_icmp .ge 35, 3) := fo_162 (fw_get da_cX5_holds_0 17 rfl) (by decide +kernel)
theorem dX5_holds_30 : decode cX5_holds 30 = .ok (.aload_n 0, 1) := fo_42 (fw_get da_cX5_holds_0 18 rfl)
theorem dX5_holds_31 : decode cX5_holds 31 = .ok (.aload_n 0, 1) := fo_42 (fw_get da_cX5_holds_0 19 rfl)
def dt_cX5_holds_1 : List (Nat × Nat × Nat × Nat) := [(32, 180, 2, 59), (35, 42, 0, 0), (36, 180, 2, 159), (39, 4, 0, 0), (40, 100, 0, 0), (41, 28, 0, 0), (42, 100, 0, 0), (43, 46, 0, 0), (44, 42, 0, 0), (45, 180, 2, 7), (48, 27, 0, 0), (49, 46, 0, 0), (50, 182, 2, 165), (53, 158, 2, 9), (56, 132, 2, 513), (59, 167, 2, 65499), (62, 28, 0, 0), (63, 172, 0, 0)]
theorem da_cX5_holds_1 : fw dt_cX5_holds_1 0 cX5_holds.data.toList = true := by decide +kernel
theorem dX5_holds_32 : decode cX5_holds 32 = .ok (.getfield 59, 3) := fo_180 (fw_get da_cX5_holds_1 0 rfl)
theorem dX5_holds_35 : decode cX5_holds 35 = .ok (.aload_n 0, 1) := fo_42 (fw_get da_cX5_holds_1 1 rfl)
theorem dX5_holds_36 : decode cX5_holds 36 = .ok (.getfield 159, 3) := fo_180 (fw_get da_cX5_holds_1 2 rfl)
theorem dX5_holds_39 : decode cX5_holds 39 = .ok (.iconst 1, 1) := fo_4 (fw_get da_cX5_holds_1 3 rfl)
theorem dX5_holds_40 : decode cX5_holds 40 = .ok (.isub, 1) := fo_100 (fw_get da_cX5_holds_1 4 rfl)
theorem dX5_holds_41 : decode cX5_holds 41 = .ok (.iload_n 2, 1) := fo_28 (fw_get da_cX5_holds_1 5 rfl)
theorem dX5_holds_42 : decode cX5_holds 42 = .ok (.isub, 1) := fo_100 (fw_get da_cX5_holds_1 6 rfl)
theorem dX5_holds_43 : decode cX5_holds 43 = .ok (.iaload, 1) := fo_46 (fw_get da_cX5_holds_1 7 rfl)
theorem dX5_holds_44 : decode cX5_holds 44 = .ok (.aload_n 0, 1) := fo_42 (fw_get da_cX5_holds_1 8 rfl)
theorem dX5_holds_45 : decode cX5_holds 45 = .ok (.getfield 7, 3) := fo_180 (fw_get da_cX5_holds_1 9 rfl)
theorem dX5_holds_48 : decode cX5_holds 48 = .ok (.iload_n 1, 1) := fo_27 (fw_get da_cX5_holds_1 10 rfl)
theorem dX5_holds_49 : decode cX5_holds 49 = .ok (.iaload, 1) := fo_46 (fw_get da_cX5_holds_1 11 rfl)
theorem dX5_holds_50 : decode cX5_holds 50 = .ok (.invokevirtual 165, 3) := fo_182 (fw_get da_cX5_holds_1 12 rfl)
theorem dX5_holds_53 : decode cX5_holds 53 = .ok (.ifCond .le 9, 3) := fo_158 (fw_get da_cX5_holds_1 13 rfl) (by decide +kernel)
theorem dX5_holds_56 : decode cX5_holds 56 = .ok (.iinc 2 1, 3) := fo_132 (fw_get da_cX5_holds_1 14 rfl) rfl (by decide +kernel)
theorem dX5_holds_59 : decode cX5_holds 59 = .ok (.goto (-37), 3) := fo_167 (fw_get da_cX5_holds_1 15 rfl) (by decide +kernel)
theorem dX5_holds_62 : decode cX5_holds 62 = .ok (.iload_n 2, 1) := fo_28 (fw_get da_cX5_holds_1 16 rfl)
theorem dX5_holds_63 : decode cX5_holds 63 = .ok (.ireturn, 1) := fo_172 (fw_get da_cX5_holds_1 17 rfl)

