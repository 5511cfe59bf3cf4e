set_option maxHeartbeats 4000000 in
set_option maxRecDepth 100000 in
theorem c_X5_lays_5 (l : Launch) (dC : Nat → ClassId) (dI : Nat → Nat → Nat) (h0 : Nat) (g_row : Nat) (g_many : Nat) (g_loss : Nat) (g_less : Nat) (g_voteValue : Nat) (g_voteNumber : Nat) (g_allValue : Nat) (g_allNumber : Nat) (g_nodeL : Nat) (g_nodeR : Nat) (g_part : Nat) (g_wasMany : Nat) (g_wasLoss : Nat) (g_wasValue : Nat) (g_wasNumber : Nat) (g_path : Nat) (g_heavyValue : Nat) (g_heavyTimes : Nat) (g_fewest : Nat) (g_which : Nat) (g_met : Nat) (m_n : Int32) (m_slots : Int32) (m_thrown : Int32) (m_allMany : Int32) (m_nodes : Int32) (m_partMany : Int32) (m_pathMany : Int32) (m_heavyMany : Int32) (m_mostMet : Int32) (cyI : ClassId) (fm : Nat → Int32) (fl : Nat → Int32) (fe : Nat → Int32) (vv : Nat → Int32) (vn : Nat → Int32) (f : Nat → Int32) (av : Nat → Int32) (an : Nat → Int32) (nl : Nat → Int32) (nr : Nat → Int32) (p0 : Int32) (p1 : Int32) (p2 : Int32) (sz : Nat) (b0 : 0 ≤ p0.toInt) (b1 : p0.toInt < p1.toInt) (b2 : p1.toInt ≤ 160) (b3 : 1 ≤ p2.toInt) (b4 : p2.toInt ≤ 6) (b5 : 0 ≤ m_nodes.toInt) (b6 : m_nodes.toInt + 2 * (p1.toInt - p0.toInt) - 1 ≤ 319) (s4 : six4 fm) (b7 : p1.toInt - p0.toInt ≤ 32) : Met l yX5_lays wsX5_lays ({ frames := 7, cells := 0, slots := 0, locals := 315 }) (va_Pc [.ref h0, .int p0, .int p1, .int p2] (fun U => U.heap.size = sz ∧ va_P (dC, dI) vwCl [kx_5 h0 g_row m_n m_slots m_thrown g_many g_loss g_less g_voteValue g_voteNumber g_allValue g_allNumber m_allMany g_nodeL g_nodeR m_nodes g_part m_partMany g_wasMany g_wasLoss g_wasValue g_wasNumber g_path m_pathMany g_heavyValue g_heavyTimes m_heavyMany g_fewest g_which g_met m_mostMet, kx_a g_row cyI 160 f, kx_a g_many cyI 324 fm, kx_a g_loss cyI 324 fl, kx_a g_less cyI 324 fe, kx_a g_voteValue cyI 1944 vv, kx_a g_voteNumber cyI 1944 vn, kx_a g_allValue cyI 12 av, kx_a g_allNumber cyI 12 an, kx_a g_nodeL cyI 320 nl, kx_a g_nodeR cyI 320 nr] U.heap ∧ va_K (dC, dI) vwCl [(cyI, .int)] U ∧ va_D (fun _ => True) [kx_5 h0 g_row m_n m_slots m_thrown g_many g_loss g_less g_voteValue g_voteNumber g_allValue g_allNumber m_allMany g_nodeL g_nodeR m_nodes g_part m_partMany g_wasMany g_wasLoss g_wasValue g_wasNumber g_path m_pathMany g_heavyValue g_heavyTimes m_heavyMany g_fewest g_which g_met m_mostMet, kx_a g_row cyI 160 f, kx_a g_many cyI 324 fm, kx_a g_loss cyI 324 fl, kx_a g_less cyI 324 fe, kx_a g_voteValue cyI 1944 vv, kx_a g_voteNumber cyI 1944 vn, kx_a g_allValue cyI 12 av, kx_a g_allNumber cyI 12 an, kx_a g_nodeL cyI 320 nl, kx_a g_nodeR cyI 320 nr])) (va_Qi (fun (r : Int32) (u : Int32 × Int32 × (Nat → Int32) × (Nat → Int32) × (Nat → Int32) × (Nat → Int32) × (Nat → Int32) × (Nat → Int32) × (Nat → Int32) × (Nat → Int32) × (Nat → Int32)) => r = m_nodes ∧ u.1.toInt = m_nodes.toInt + 2 * (p1.toInt - p0.toInt) - 1 ∧ six4 u.2.2.1 ∧ mj_S p2.toNatClampNeg f u.2.2.2.2.2.2.2.2.2.1 u.2.2.2.2.2.2.2.2.2.2 u.2.2.1 u.2.2.2.1 u.2.2.2.2.1 u.2.2.2.2.2.1 u.2.2.2.2.2.2.1 5 m_nodes.toNatClampNeg p0.toNatClampNeg p1.toNatClampNeg ∧ mj_ag 0 m_nodes.toNatClampNeg nl nr fm fl fe vv vn u.2.2.2.2.2.2.2.2.2.1 u.2.2.2.2.2.2.2.2.2.2 u.2.2.1 u.2.2.2.1 u.2.2.2.2.1 u.2.2.2.2.2.1 u.2.2.2.2.2.2.1) (fun (u : Int32 × Int32 × (Nat → Int32) × (Nat → Int32) × (Nat → Int32) × (Nat → Int32) × (Nat → Int32) × (Nat → Int32) × (Nat → Int32) × (Nat → Int32) × (Nat → Int32)) (t : State) => va_P (dC, dI) vwCl [kx_5 h0 g_row m_n m_slots m_thrown g_many g_loss g_less g_voteValue g_voteNumber g_allValue g_allNumber u.2.1 g_nodeL g_nodeR u.1 g_part m_partMany g_wasMany g_wasLoss g_wasValue g_wasNumber g_path m_pathMany g_heavyValue g_heavyTimes m_heavyMany g_fewest g_which g_met m_mostMet, kx_a g_row cyI 160 f, kx_a g_many cyI 324 u.2.2.1, kx_a g_loss cyI 324 u.2.2.2.1, kx_a g_less cyI 324 u.2.2.2.2.1, kx_a g_voteValue cyI 1944 u.2.2.2.2.2.1, kx_a g_voteNumber cyI 1944 u.2.2.2.2.2.2.1, kx_a g_allValue cyI 12 u.2.2.2.2.2.2.2.1, kx_a g_allNumber cyI 12 u.2.2.2.2.2.2.2.2.1, kx_a g_nodeL cyI 320 u.2.2.2.2.2.2.2.2.2.1, kx_a g_nodeR cyI 320 u.2.2.2.2.2.2.2.2.2.2] t.heap ∧ va_K (dC, dI) vwCl [(cyI, .int)] t ∧ va_D (va_A [kx_5 h0 g_row m_n m_slots m_thrown g_many g_loss g_less g_voteValue g_voteNumber g_allValue g_allNumber m_allMany g_nodeL g_nodeR m_nodes g_part m_partMany g_wasMany g_wasLoss g_wasValue g_wasNumber g_path m_pathMany g_heavyValue g_heavyTimes m_heavyMany g_fewest g_which g_met m_mostMet, kx_a g_row cyI 160 f, kx_a g_many cyI 324 fm, kx_a g_loss cyI 324 fl, kx_a g_less cyI 324 fe, kx_a g_voteValue cyI 1944 vv, kx_a g_voteNumber cyI 1944 vn, kx_a g_allValue cyI 12 av, kx_a g_allNumber cyI 12 an, kx_a g_nodeL cyI 320 nl, kx_a g_nodeR cyI 320 nr] sz) [kx_5 h0 g_row m_n m_slots m_thrown g_many g_loss g_less g_voteValue g_voteNumber g_allValue g_allNumber u.2.1 g_nodeL g_nodeR u.1 g_part m_partMany g_wasMany g_wasLoss g_wasValue g_wasNumber g_path m_pathMany g_heavyValue g_heavyTimes m_heavyMany g_fewest g_which g_met m_mostMet, kx_a g_row cyI 160 f, kx_a g_many cyI 324 u.2.2.1, kx_a g_loss cyI 324 u.2.2.2.1, kx_a g_less cyI 324 u.2.2.2.2.1, kx_a g_voteValue cyI 1944 u.2.2.2.2.2.1, kx_a g_voteNumber cyI 1944 u.2.2.2.2.2.2.1, kx_a g_allValue cyI 12 u.2.2.2.2.2.2.2.1, kx_a g_allNumber cyI 12 u.2.2.2.2.2.2.2.2.1, kx_a g_nodeL cyI 320 u.2.2.2.2.2.2.2.2.2.1, kx_a g_nodeR cyI 320 u.2.2.2.2.2.2.2.2.2.2]) (va_A [kx_5 h0 g_row m_n m_slots m_thrown g_many g_loss g_less g_voteValue g_voteNumber g_allValue g_allNumber m_allMany g_nodeL g_nodeR m_nodes g_part m_partMany g_wasMany g_wasLoss g_wasValue g_wasNumber g_path m_pathMany g_heavyValue g_heavyTimes m_heavyMany g_fewest g_which g_met m_mostMet, kx_a g_row cyI 160 f, kx_a g_many cyI 324 fm, kx_a g_loss cyI 324 fl, kx_a g_less cyI 324 fe, kx_a g_voteValue cyI 1944 vv, kx_a g_voteNumber cyI 1944 vn, kx_a g_allValue cyI 12 av, kx_a g_allNumber cyI 12 an, kx_a g_nodeL cyI 320 nl, kx_a g_nodeR cyI 320 nr] sz)) 0 0 (va_A [kx_5 h0 g_row m_n m_slots m_thrown g_many g_loss g_less g_voteValue g_voteNumber g_allValue g_allNumber m_allMany g_nodeL g_nodeR m_nodes g_part m_partMany g_wasMany g_wasLoss g_wasValue g_wasNumber g_path m_pathMany g_heavyValue g_heavyTimes m_heavyMany g_fewest g_which g_met m_mostMet, kx_a g_row cyI 160 f, kx_a g_many cyI 324 fm, kx_a g_loss cyI 324 fl, kx_a g_less cyI 324 fe, kx_a g_voteValue cyI 1944 vv, kx_a g_voteNumber cyI 1944 vn, kx_a g_allValue cyI 12 av, kx_a g_allNumber cyI 12 an, kx_a g_nodeL cyI 320 nl, kx_a g_nodeR cyI 320 nr] sz) := by
  refine Met.ofW (cc := cX5_lays) (maxL := 8) (ret := (some .int)) (by decide) rfl ?_
  intro p e s m args below meth c s₁ B hml hv
  obtain ⟨rfl, hsz, hP, hK, hD0⟩ := hv
  have hx := B.exec
  have hb := B.bytes
  have hr := B.returns
  have hts := atoms_spec (ws := wsX5_lays) B.pre
  have hown : s.vm.findClass RX5 = some m.cls := findClass_of_methodNamed B.named
  have hlocks := B.notSynchronized
  subst hsz
  have hD := hD0.self (sz := s.heap.size)
  generalize hAe : va_A [kx_5 h0 g_row m_n m_slots m_thrown g_many g_loss g_less g_voteValue g_voteNumber g_allValue g_allNumber m_allMany g_nodeL g_nodeR m_nodes g_part m_partMany g_wasMany g_wasLoss g_wasValue g_wasNumber g_path m_pathMany g_heavyValue g_heavyTimes m_heavyMany g_fewest g_which g_met m_mostMet, kx_a g_row cyI 160 f, kx_a g_many cyI 324 fm, kx_a g_loss cyI 324 fl, kx_a g_less cyI 324 fe, kx_a g_voteValue cyI 1944 vv, kx_a g_voteNumber cyI 1944 vn, kx_a g_allValue cyI 12 av, kx_a g_allNumber cyI 12 an, kx_a g_nodeL cyI 320 nl, kx_a g_nodeR cyI 320 nr] s.heap.size = A at hD ⊢
  have hA : ∀ q : Nat, s.heap.size ≤ q → A q := fun q h => by rw [← hAe]; exact Or.inr h
  have hS : va_S A s.heap s.heap [] := va_S.rf
  have hP : va_P (dC, dI) vwCl [kx_5 h0 g_row m_n m_slots m_thrown g_many g_loss g_less g_voteValue g_voteNumber g_allValue g_allNumber m_allMany g_nodeL g_nodeR m_nodes g_part m_partMany g_wasMany g_wasLoss g_wasValue g_wasNumber g_path m_pathMany g_heavyValue g_heavyTimes m_heavyMany g_fewest g_which g_met m_mostMet, kx_a g_row cyI 160 f, kx_a g_many cyI 324 fm, kx_a g_loss cyI 324 fl, kx_a g_less cyI 324 fe, kx_a g_voteValue cyI 1944 vv, kx_a g_voteNumber cyI 1944 vn, kx_a g_allValue cyI 12 av, kx_a g_allNumber cyI 12 an, kx_a g_nodeL cyI 320 nl, kx_a g_nodeR cyI 320 nr] s.heap := hP
  have hl := lv_entry ([.ref h0, .int p0, .int p1, .int p2]) (n := 8) (Nat.le_of_ble_eq_true rfl)
  rw [lg_entry_eq]
  generalize (lg_sl ([.ref h0, .int p0, .int p1, .int p2]) ++ List.replicate (8 - (lg_sl ([.ref h0, .int p0, .int p1, .int p2])).length) Slot.unset).toArray = ls at hl ⊢
  have hl : lv_has ls 8 [(0, .ref h0), (1, .int p0), (2, .int p1), (3, .int p2)] := hl
  have hf_101 := hts (.fieldLink RX5 101 "MajorityIndexModel" "nodes" "I") (List.mem_of_getElem? (i := 1) rfl)
  have hi_5 : ∀ w ∈ u_ws RX5 TX5 30, w ∈ wsX5_lays := fun w h => List.mem_cons_of_mem _ (List.mem_append_right _ h)
  have hf_38 := hts (.fieldLink RX5 38 "MajorityIndexModel" "nodeL" "[I") (List.mem_of_getElem? (i := 2) rfl)
  have hf_41 := hts (.fieldLink RX5 41 "MajorityIndexModel" "nodeR" "[I") (List.mem_of_getElem? (i := 3) rfl)
  have hf_7 := hts (.fieldLink RX5 7 "MajorityIndexModel" "row" "[I") (List.mem_of_getElem? (i := 4) rfl)
  refine lv_aload_n hx hb dX5_lays_0 rfl (lv_at hl 0 rfl) ?_
  refine va_get (D := (dC, dI)) (ci := 5) (v := .int m_nodes) (C := RX5) (T := TX5) (N := 30) hx hb hts hi_5 hown hK hP 0 rfl rfl 14 (by decide) hf_101 (fun _ h9 => h9) rfl dX5_lays_1 ?_
  refine lv_istore (lv' := [(4, .int m_nodes), (0, .ref h0), (1, .int p0), (2, .int p1), (3, .int p2)]) hx hb dX5_lays_4 hl (by decide) rfl (fun ls hl => ?_)
  refine lv_aload_n hx hb dX5_lays_6 rfl (lv_at hl 1 rfl) ?_
  refine lv_dup hx hb dX5_lays_7 rfl ?_
  refine va_get (D := (dC, dI)) (ci := 5) (v := .int m_nodes) (C := RX5) (T := TX5) (N := 30) hx hb hts hi_5 hown hK hP 0 rfl rfl 14 (by decide) hf_101 (fun _ h9 => h9) rfl dX5_lays_8 ?_
  refine lv_iconst (v := 1) hx hb dX5_lays_11 (by decide) ?_
  refine lv_iadd hx hb dX5_lays_12 ?_
  refine lv_topi (fun y_1 ey_1 => ?_)
  have i_1 : y_1.toInt = m_nodes.toInt + 1 := ki_add ey_1 rfl rfl (om_10 b5) (om_226 b1 b6)
  refine va_put (D := (dC, dI)) (ci := 5) (v := .int y_1) (ty := .int) (C := RX5) (T := TX5) (N := 30) hx hb hts hi_5 tyX5 tyX5_ok nmX5 hown hK hP hD hS 0 rfl rfl 14 (by decide) hf_101 (fun _ h9 => h9) rfl (by decide +kernel) rfl rfl (Nat.le_of_ble_eq_true rfl) dX5_lays_13 (fun H locs hP hD hS => ?_)
  have hP : va_P (dC, dI) vwCl [kx_5 h0 g_row m_n m_slots m_thrown g_many g_loss g_less g_voteValue g_voteNumber g_allValue g_allNumber m_allMany g_nodeL g_nodeR y_1 g_part m_partMany g_wasMany g_wasLoss g_wasValue g_wasNumber g_path m_pathMany g_heavyValue g_heavyTimes m_heavyMany g_fewest g_which g_met m_mostMet, kx_a g_row cyI 160 f, kx_a g_many cyI 324 fm, kx_a g_loss cyI 324 fl, kx_a g_less cyI 324 fe, kx_a g_voteValue cyI 1944 vv, kx_a g_voteNumber cyI 1944 vn, kx_a g_allValue cyI 12 av, kx_a g_allNumber cyI 12 an, kx_a g_nodeL cyI 320 nl, kx_a g_nodeR cyI 320 nr] H := hP
  have hD : va_D A [kx_5 h0 g_row m_n m_slots m_thrown g_many g_loss g_less g_voteValue g_voteNumber g_allValue g_allNumber m_allMany g_nodeL g_nodeR y_1 g_part m_partMany g_wasMany g_wasLoss g_wasValue g_wasNumber g_path m_pathMany g_heavyValue g_heavyTimes m_heavyMany g_fewest g_which g_met m_mostMet, kx_a g_row cyI 160 f, kx_a g_many cyI 324 fm, kx_a g_loss cyI 324 fl, kx_a g_less cyI 324 fe, kx_a g_voteValue cyI 1944 vv, kx_a g_voteNumber cyI 1944 vn, kx_a g_allValue cyI 12 av, kx_a g_allNumber cyI 12 an, kx_a g_nodeL cyI 320 nl, kx_a g_nodeR cyI 320 nr] := hD
  refine lv_aload_n hx hb dX5_lays_16 rfl (lv_at hl 1 rfl) ?_
  refine va_get (D := (dC, dI)) (ci := 5) (v := .ref g_nodeL) (C := RX5) (T := TX5) (N := 30) hx hb hts hi_5 hown hK hP 0 rfl rfl 12 (by decide) hf_38 (fun _ h9 => h9) rfl dX5_lays_17 ?_
  refine lv_iload hx hb dX5_lays_20 (lv_at hl 0 rfl) ?_
  refine lv_iload_n hx hb dX5_lays_22 rfl (lv_at hl 2 rfl) ?_
  refine va_iast hx hb hK hP hD hS 9 0 rfl rfl (ki_in (om_8 b5) (om_227 b1 b6)) dX5_lays_23 (fun H locs hP hD hS => ?_)
  have hP : va_P (dC, dI) vwCl [kx_5 h0 g_row m_n m_slots m_thrown g_many g_loss g_less g_voteValue g_voteNumber g_allValue g_allNumber m_allMany g_nodeL g_nodeR y_1 g_part m_partMany g_wasMany g_wasLoss g_wasValue g_wasNumber g_path m_pathMany g_heavyValue g_heavyTimes m_heavyMany g_fewest g_which g_met m_mostMet, kx_a g_row cyI 160 f, kx_a g_many cyI 324 fm, kx_a g_loss cyI 324 fl, kx_a g_less cyI 324 fe, kx_a g_voteValue cyI 1944 vv, kx_a g_voteNumber cyI 1944 vn, kx_a g_allValue cyI 12 av, kx_a g_allNumber cyI 12 an, kx_a g_nodeL cyI 320 (upd nl m_nodes.toNatClampNeg p0), kx_a g_nodeR cyI 320 nr] H := hP
  have hD : va_D A [kx_5 h0 g_row m_n m_slots m_thrown g_many g_loss g_less g_voteValue g_voteNumber g_allValue g_allNumber m_allMany g_nodeL g_nodeR y_1 g_part m_partMany g_wasMany g_wasLoss g_wasValue g_wasNumber g_path m_pathMany g_heavyValue g_heavyTimes m_heavyMany g_fewest g_which g_met m_mostMet, kx_a g_row cyI 160 f, kx_a g_many cyI 324 fm, kx_a g_loss cyI 324 fl, kx_a g_less cyI 324 fe, kx_a g_voteValue cyI 1944 vv, kx_a g_voteNumber cyI 1944 vn, kx_a g_allValue cyI 12 av, kx_a g_allNumber cyI 12 an, kx_a g_nodeL cyI 320 (upd nl m_nodes.toNatClampNeg p0), kx_a g_nodeR cyI 320 nr] := hD
  refine lv_aload_n hx hb dX5_lays_24 rfl (lv_at hl 1 rfl) ?_
  refine va_get (D := (dC, dI)) (ci := 5) (v := .ref g_nodeR) (C := RX5) (T := TX5) (N := 30) hx hb hts hi_5 hown hK hP 0 rfl rfl 13 (by decide) hf_41 (fun _ h9 => h9) rfl dX5_lays_25 ?_
  refine lv_iload hx hb dX5_lays_28 (lv_at hl 0 rfl) ?_
  refine lv_iload_n hx hb dX5_lays_30 rfl (lv_at hl 3 rfl) ?_
  refine va_iast hx hb hK hP hD hS 10 0 rfl rfl (ki_in (om_8 b5) (om_227 b1 b6)) dX5_lays_31 (fun H locs hP hD hS => ?_)
  have hP : va_P (dC, dI) vwCl [kx_5 h0 g_row m_n m_slots m_thrown g_many g_loss g_less g_voteValue g_voteNumber g_allValue g_allNumber m_allMany g_nodeL g_nodeR y_1 g_part m_partMany g_wasMany g_wasLoss g_wasValue g_wasNumber g_path m_pathMany g_heavyValue g_heavyTimes m_heavyMany g_fewest g_which g_met m_mostMet, kx_a g_row cyI 160 f, kx_a g_many cyI 324 fm, kx_a g_loss cyI 324 fl, kx_a g_less cyI 324 fe, kx_a g_voteValue cyI 1944 vv, kx_a g_voteNumber cyI 1944 vn, kx_a g_allValue cyI 12 av, kx_a g_allNumber cyI 12 an, kx_a g_nodeL cyI 320 (upd nl m_nodes.toNatClampNeg p0), kx_a g_nodeR cyI 320 (upd nr m_nodes.toNatClampNeg p1)] H := hP
  have hD : va_D A [kx_5 h0 g_row m_n m_slots m_thrown g_many g_loss g_less g_voteValue g_voteNumber g_allValue g_allNumber m_allMany g_nodeL g_nodeR y_1 g_part m_partMany g_wasMany g_wasLoss g_wasValue g_wasNumber g_path m_pathMany g_heavyValue g_heavyTimes m_heavyMany g_fewest g_which g_met m_mostMet, kx_a g_row cyI 160 f, kx_a g_many cyI 324 fm, kx_a g_loss cyI 324 fl, kx_a g_less cyI 324 fe, kx_a g_voteValue cyI 1944 vv, kx_a g_voteNumber cyI 1944 vn, kx_a g_allValue cyI 12 av, kx_a g_allNumber cyI 12 an, kx_a g_nodeL cyI 320 (upd nl m_nodes.toNatClampNeg p0), kx_a g_nodeR cyI 320 (upd nr m_nodes.toNatClampNeg p1)] := hD
  refine lv_iload_n hx hb dX5_lays_32 rfl (lv_at hl 3 rfl) ?_
  refine lv_iload_n hx hb dX5_lays_33 rfl (lv_at hl 2 rfl) ?_
  refine lv_isub hx hb dX5_lays_34 ?_
  refine lv_topi (fun y_2 ey_2 => ?_)
  have i_2 : y_2.toInt = p1.toInt - p0.toInt := ki_sub ey_2 rfl rfl (om_228 b1) (om_238 b7)
  refine lv_iconst (v := 1) hx hb dX5_lays_35 (by decide) ?_
  refine lv_icmp_ne (tgt := 54) hx hb dX5_lays_36 (by decide) (fun c_3 => ?_) (fun c_3 => ?_)
  · have i_3 : ¬ y_2.toInt = 1 := kc_ne c_3
    refine lv_iload_n hx hb dX5_lays_54 rfl (lv_at hl 2 rfl) ?_
    refine lv_iload_n hx hb dX5_lays_55 rfl (lv_at hl 3 rfl) ?_
    refine lv_iadd hx hb dX5_lays_56 ?_
    refine lv_topi (fun y_4 ey_4 => ?_)
    have i_4 : y_4.toInt = p0.toInt + p1.toInt := ki_add ey_4 rfl rfl (om_232 b0 b1) (om_233 b1 b2)
    refine lv_iconst (v := 2) hx hb dX5_lays_57 (by decide) ?_
    refine lv_idiv hx hb dX5_lays_58 (by decide) ?_
    refine lv_topi (fun y_5 ey_5 => ?_)
    have i_5 : y_5.toInt = y_4.toInt / 2 := ki_div2 ey_5 rfl (by omega)
    refine lv_istore (lv' := [(5, .int y_5), (4, .int m_nodes), (0, .ref h0), (1, .int p0), (2, .int p1), (3, .int p2)]) hx hb dX5_lays_59 hl (by decide) rfl (fun ls hl => ?_)
    refine lv_aload_n hx hb dX5_lays_61 rfl (lv_at hl 2 rfl) ?_
    refine lv_iload_n hx hb dX5_lays_62 rfl (lv_at hl 3 rfl) ?_
    refine lv_iload hx hb dX5_lays_63 (lv_at hl 0 rfl) ?_
    refine lv_iload_n hx hb dX5_lays_65 rfl (lv_at hl 5 rfl) ?_
    have hPc := hP
    have hKc := hK
    have hDc := hD
    have hFc := kx_free hD hS hA
    refine va_calli (va_runV (As := [.int p0, .int y_5, .int p2]) (rest := []) ⟨hx, hb, hml, hown, hts⟩ (c_X5_lays_4 l dC dI h0 g_row g_many g_loss g_less g_voteValue g_voteNumber g_allValue g_allNumber g_nodeL g_nodeR g_part g_wasMany g_wasLoss g_wasValue g_wasNumber g_path g_heavyValue g_heavyTimes g_fewest g_which g_met m_n m_slots m_thrown m_allMany y_1 m_partMany m_pathMany m_heavyMany m_mostMet cyI fm fl fe vv vn f av an (upd nl m_nodes.toNatClampNeg p0) (upd nr m_nodes.toNatClampNeg p1) p0 y_5 p2 H.size b0 (by omega) (by omega) b3 b4 (om_31 b5 i_1) (by omega) s4 (by omega)) (cwV 3 hts gX5_lays_X5_lays rfl rfl rfl (by decide +kernel) ⟨Nat.le_of_ble_eq_true rfl, Nat.le_of_ble_eq_true rfl⟩) ⟨fun a U g mk q => by obtain ⟨q0, q1, qP, qK, qD⟩ := q; exact ⟨q0, q1, qP, va_K.moved (u := U) (U := U.calling g mk a) (Vm.Alike.refl U.vm) qK, qD⟩, va_recv hKc hPc (ci := 5) (q0 := 0) rfl rfl, fun U hU hW => ⟨rfl, by rw [hU], by rw [hU]; exact hPc, va_K.moved hW.alike hKc, hDc.weaken (fun _ _ _ _ => trivial)⟩⟩ rfl rfl hl.1 rfl (lv_room (Nat.le_of_ble_eq_true rfl)) dX5_lays_66 ⟨Nat.le_of_ble_eq_true rfl, Nat.le_of_ble_eq_true rfl⟩) hS (fun q _ h => hFc q h) hFc (fun r_6 u t H1 locs ht hvm w_6 hB hz1 hk1 hS => ?_)
    obtain ⟨o_7, o_8, o_9, o_10, o_11, o_12, o_13, o_14, o_15, o_16, o_17⟩ := u
    dsimp only at w_6 hB
    obtain ⟨hP1, hK1, hD1⟩ := hB
    rw [ht] at hP1
    have hK1 := va_K.moved hvm.symm hK1
    have hD := hD1.weaken (fun _ q _ h => hFc q.1 h)
    have hP := hP1
    clear hP1 hD1 hK1 hk1 hz1 hFc hDc hPc hKc
    generalize H1 = H at hP hS ⊢
    have w_6 : r_6 = y_1 ∧ o_7.toInt = y_1.toInt + 2 * (y_5.toInt - p0.toInt) - 1 ∧ six4 o_9 ∧ mj_S p2.toNatClampNeg f o_16 o_17 o_9 o_10 o_11 o_12 o_13 4 y_1.toNatClampNeg p0.toNatClampNeg y_5.toNatClampNeg ∧ mj_ag 0 y_1.toNatClampNeg (upd nl m_nodes.toNatClampNeg p0) (upd nr m_nodes.toNatClampNeg p1) fm fl fe vv vn o_16 o_17 o_9 o_10 o_11 o_12 o_13 := w_6
    refine lv_istore (lv' := [(6, .int r_6), (5, .int y_5), (4, .int m_nodes), (0, .ref h0), (1, .int p0), (2, .int p1), (3, .int p2)]) hx hb dX5_lays_69 hl (by decide) rfl (fun ls hl => ?_)
    refine lv_aload_n hx hb dX5_lays_71 rfl (lv_at hl 3 rfl) ?_
    refine lv_iload hx hb dX5_lays_72 (lv_at hl 1 rfl) ?_
    refine lv_iload_n hx hb dX5_lays_74 rfl (lv_at hl 5 rfl) ?_
    refine lv_iload_n hx hb dX5_lays_75 rfl (lv_at hl 6 rfl) ?_
    have hPc := hP
    have hKc := hK
    have hDc := hD
    have hFc := kx_free hD hS hA
    refine va_calli (va_runV (As := [.int y_5, .int p1, .int p2]) (rest := []) ⟨hx, hb, hml, hown, hts⟩ (c_X5_lays_4 l dC dI h0 g_row g_many g_loss g_less g_voteValue g_voteNumber g_allValue g_allNumber g_nodeL g_nodeR g_part g_wasMany g_wasLoss g_wasValue g_wasNumber g_path g_heavyValue g_heavyTimes g_fewest g_which g_met m_n m_slots m_thrown o_8 o_7 m_partMany m_pathMany m_heavyMany m_mostMet cyI o_9 o_10 o_11 o_12 o_13 f o_14 o_15 o_16 o_17 y_5 p1 p2 H.size (by omega) (by omega) b2 b3 b4 (by omega) (om_234 b6 i_1 w_6.2.1) w_6.2.2.1 (by omega)) (cwV 3 hts gX5_lays_X5_lays rfl rfl rfl (by decide +kernel) ⟨Nat.le_of_ble_eq_true rfl, Nat.le_of_ble_eq_true rfl⟩) ⟨fun a U g mk q => by obtain ⟨q0, q1, qP, qK, qD⟩ := q; exact ⟨q0, q1, qP, va_K.moved (u := U) (U := U.calling g mk a) (Vm.Alike.refl U.vm) qK, qD⟩, va_recv hKc hPc (ci := 5) (q0 := 0) rfl rfl, fun U hU hW => ⟨rfl, by rw [hU], by rw [hU]; exact hPc, va_K.moved hW.alike hKc, hDc.weaken (fun _ _ _ _ => trivial)⟩⟩ rfl rfl hl.1 rfl (lv_room (Nat.le_of_ble_eq_true rfl)) dX5_lays_76 ⟨Nat.le_of_ble_eq_true rfl, Nat.le_of_ble_eq_true rfl⟩) hS (fun q _ h => hFc q h) hFc (fun r_18 u t H1 locs ht hvm w_18 hB hz1 hk1 hS => ?_)
    obtain ⟨o_19, o_20, o_21, o_22, o_23, o_24, o_25, o_26, o_27, o_28, o_29⟩ := u
    dsimp only at w_18 hB
    obtain ⟨hP1, hK1, hD1⟩ := hB
    rw [ht] at hP1
    have hK1 := va_K.moved hvm.symm hK1
    have hD := hD1.weaken (fun _ q _ h => hFc q.1 h)
    have hP := hP1
    clear hP1 hD1 hK1 hk1 hz1 hFc hDc hPc hKc
    generalize H1 = H at hP hS ⊢
    have w_18 : r_18 = o_7 ∧ o_19.toInt = o_7.toInt + 2 * (p1.toInt - y_5.toInt) - 1 ∧ six4 o_21 ∧ mj_S p2.toNatClampNeg f o_28 o_29 o_21 o_22 o_23 o_24 o_25 4 o_7.toNatClampNeg y_5.toNatClampNeg p1.toNatClampNeg ∧ mj_ag 0 o_7.toNatClampNeg o_16 o_17 o_9 o_10 o_11 o_12 o_13 o_28 o_29 o_21 o_22 o_23 o_24 o_25 := w_18
    refine lv_istore (lv' := [(7, .int r_18), (6, .int r_6), (5, .int y_5), (4, .int m_nodes), (0, .ref h0), (1, .int p0), (2, .int p1), (3, .int p2)]) hx hb dX5_lays_79 hl (by decide) rfl (fun ls hl => ?_)
    have n_p0 := ki_nat p0 rfl (om_8 b0)
    have n_p1 := ki_nat p1 rfl (om_18 b0 b1)
    have n_p2 := ki_nat p2 rfl (om_44 b3)
    have n_nd := ki_nat m_nodes rfl (om_8 b5)
    have n_y := ki_nat y_1 rfl (om_31 b5 i_1)
    have n_md := ki_nat y_5 rfl (by omega)
    have n_oL := ki_nat o_7 rfl (by omega)
    have i_rL : r_6.toInt = y_1.toInt := congrArg Int32.toInt w_6.1
    have i_rR : r_18.toInt = o_7.toInt := congrArg Int32.toInt w_18.1
    obtain ⟨mua, La, ca, tA⟩ := w_6.2.2.2.1
    obtain ⟨mub, Lb, cb, tB⟩ := w_18.2.2.2.1
    have tA2 := mj_T_ag _ _ o_7.toNatClampNeg _ _ _ _ _ tA (by omega) (mj_ag_sub w_18.2.2.2.2 (by omega) (Nat.le_refl _))
    have nA := mj_T_nd tA2
    have nB := mj_T_nd tB
    refine lv_aload_n hx hb dX5_lays_81 rfl (lv_at hl 4 rfl) ?_
    refine lv_iload hx hb dX5_lays_82 (lv_at hl 1 rfl) ?_
    refine lv_iload hx hb dX5_lays_84 (lv_at hl 0 rfl) ?_
    refine lv_iload hx hb dX5_lays_86 (lv_at hl 3 rfl) ?_
    refine lv_iload_n hx hb dX5_lays_88 rfl (lv_at hl 7 rfl) ?_
    have hPc := hP.sub (ws' := [kx_5 h0 g_row m_n m_slots m_thrown g_many g_loss g_less g_voteValue g_voteNumber g_allValue g_allNumber o_20 g_nodeL g_nodeR o_19 g_part m_partMany g_wasMany g_wasLoss g_wasValue g_wasNumber g_path m_pathMany g_heavyValue g_heavyTimes m_heavyMany g_fewest g_which g_met m_mostMet, kx_a g_many cyI 324 o_21, kx_a g_loss cyI 324 o_22, kx_a g_less cyI 324 o_23, kx_a g_voteValue cyI 1944 o_24, kx_a g_voteNumber cyI 1944 o_25, kx_a g_allValue cyI 12 o_26, kx_a g_allNumber cyI 12 o_27]) [0, 2, 3, 4, 5, 6, 7, 8] rfl
    have hKc := hK
    have hDc := hD.sub (ws' := [kx_5 h0 g_row m_n m_slots m_thrown g_many g_loss g_less g_voteValue g_voteNumber g_allValue g_allNumber o_20 g_nodeL g_nodeR o_19 g_part m_partMany g_wasMany g_wasLoss g_wasValue g_wasNumber g_path m_pathMany g_heavyValue g_heavyTimes m_heavyMany g_fewest g_which g_met m_mostMet, kx_a g_many cyI 324 o_21, kx_a g_loss cyI 324 o_22, kx_a g_less cyI 324 o_23, kx_a g_voteValue cyI 1944 o_24, kx_a g_voteNumber cyI 1944 o_25, kx_a g_allValue cyI 12 o_26, kx_a g_allNumber cyI 12 o_27]) [0, 2, 3, 4, 5, 6, 7, 8] (by decide) rfl
    have hFc := va_free (wc := [kx_5 h0 g_row m_n m_slots m_thrown g_many g_loss g_less g_voteValue g_voteNumber g_allValue g_allNumber o_20 g_nodeL g_nodeR o_19 g_part m_partMany g_wasMany g_wasLoss g_wasValue g_wasNumber g_path m_pathMany g_heavyValue g_heavyTimes m_heavyMany g_fewest g_which g_met m_mostMet, kx_a g_many cyI 324 o_21, kx_a g_loss cyI 324 o_22, kx_a g_less cyI 324 o_23, kx_a g_voteValue cyI 1944 o_24, kx_a g_voteNumber cyI 1944 o_25, kx_a g_allValue cyI 12 o_26, kx_a g_allNumber cyI 12 o_27]) hD hS hA [0, 2, 3, 4, 5, 6, 7, 8] rfl
    refine va_callv (va_runV (As := [.int r_6, .int r_18, .int m_nodes, .int p2]) (rest := []) ⟨hx, hb, hml, hown, hts⟩ (c_X5_together l dC dI h0 g_row g_many g_loss g_less g_voteValue g_voteNumber g_allValue g_allNumber g_nodeL g_nodeR g_part g_wasMany g_wasLoss g_wasValue g_wasNumber g_path g_heavyValue g_heavyTimes g_fewest g_which g_met m_n m_slots m_thrown o_20 o_19 m_partMany m_pathMany m_heavyMany m_mostMet cyI o_21 o_22 o_23 o_24 o_25 o_26 o_27 mua mub r_6 r_18 m_nodes p2 H.size (by omega) (by omega) (by omega) (by omega) (by omega) (by omega) (by omega) (by omega) (by rw [w_6.1]; exact nA.2.2.1) (by rw [w_6.1]; exact nA.2.2.2.1) (by rw [w_18.1]; exact nB.2.2.1) (by rw [w_18.1]; exact nB.2.2.2.1) (by rw [w_6.1]; exact nA.2.2.2.2.2.2.2.1) (by rw [w_18.1]; exact nB.2.2.2.2.2.2.2.1) (fun v => by have h1 := mj_T_le _ _ _ _ _ _ _ tA2 v; have h2 := mj_T_le _ _ _ _ _ _ _ tB v; omega)) (cwV 4 hts gX5_lays_X5_together rfl rfl rfl (by decide +kernel) ⟨Nat.le_of_ble_eq_true rfl, Nat.le_of_ble_eq_true rfl⟩) ⟨fun a U g mk q => by obtain ⟨q0, q1, qP, qK, qD⟩ := q; exact ⟨q0, q1, qP, va_K.moved (u := U) (U := U.calling g mk a) (Vm.Alike.refl U.vm) qK, qD⟩, va_recv hKc hPc (ci := 5) (q0 := 0) rfl rfl, fun U hU hW => ⟨rfl, by rw [hU], by rw [hU]; exact hPc, va_K.moved hW.alike hKc, hDc.weaken (fun _ _ _ _ => trivial)⟩⟩ rfl rfl hl.1 rfl (lv_room (Nat.le_of_ble_eq_true rfl)) dX5_lays_89 ⟨Nat.le_of_ble_eq_true rfl, Nat.le_of_ble_eq_true rfl⟩) hS (fun q _ h => hFc q h) hFc (fun u t H1 locs ht hvm w_30 hB hz1 hk1 hS => ?_)
    obtain ⟨o_31, o_32, o_33, o_34, o_35, o_36, o_37, o_38, o_39, o_40, o_41⟩ := u
    dsimp only at w_30 hB
    obtain ⟨hP1, hK1, hD1⟩ := hB
    rw [ht] at hP1
    have hK1 := va_K.moved hvm.symm hK1
    obtain ⟨hP, hD⟩ := va_join (wr := [kx_a g_row cyI 160 f, kx_a g_nodeL cyI 320 o_28, kx_a g_nodeR cyI 320 o_29]) (w1 := [kx_5 h0 g_row m_n m_slots m_thrown g_many g_loss g_less g_voteValue g_voteNumber g_allValue g_allNumber o_31 g_nodeL g_nodeR o_19 g_part m_partMany g_wasMany g_wasLoss g_wasValue g_wasNumber g_path m_pathMany g_heavyValue g_heavyTimes m_heavyMany g_fewest g_which g_met m_mostMet, kx_a g_many cyI 324 o_35, kx_a g_loss cyI 324 o_36, kx_a g_less cyI 324 o_37, kx_a g_voteValue cyI 1944 o_38, kx_a g_voteNumber cyI 1944 o_39, kx_a g_allValue cyI 12 o_40, kx_a g_allNumber cyI 12 o_41]) hP hD [0, 2, 3, 4, 5, 6, 7, 8] [1, 9, 10] rfl rfl (by decide) (by decide) hk1 hFc hP1 hD1
    clear hP1 hD1 hK1 hk1 hz1 hFc hDc hPc hKc
    generalize H1 = H at hP hS ⊢
    have hP : va_P (dC, dI) vwCl [kx_a g_row cyI 160 f, kx_a g_nodeL cyI 320 o_28, kx_a g_nodeR cyI 320 o_29, kx_5 h0 g_row m_n m_slots m_thrown g_many g_loss g_less g_voteValue g_voteNumber g_allValue g_allNumber o_31 g_nodeL g_nodeR o_19 g_part m_partMany g_wasMany g_wasLoss g_wasValue g_wasNumber g_path m_pathMany g_heavyValue g_heavyTimes m_heavyMany g_fewest g_which g_met m_mostMet, kx_a g_many cyI 324 o_35, kx_a g_loss cyI 324 o_36, kx_a g_less cyI 324 o_37, kx_a g_voteValue cyI 1944 o_38, kx_a g_voteNumber cyI 1944 o_39, kx_a g_allValue cyI 12 o_40, kx_a g_allNumber cyI 12 o_41] H := hP
    have hD : va_D A [kx_a g_row cyI 160 f, kx_a g_nodeL cyI 320 o_28, kx_a g_nodeR cyI 320 o_29, kx_5 h0 g_row m_n m_slots m_thrown g_many g_loss g_less g_voteValue g_voteNumber g_allValue g_allNumber o_31 g_nodeL g_nodeR o_19 g_part m_partMany g_wasMany g_wasLoss g_wasValue g_wasNumber g_path m_pathMany g_heavyValue g_heavyTimes m_heavyMany g_fewest g_which g_met m_mostMet, kx_a g_many cyI 324 o_35, kx_a g_loss cyI 324 o_36, kx_a g_less cyI 324 o_37, kx_a g_voteValue cyI 1944 o_38, kx_a g_voteNumber cyI 1944 o_39, kx_a g_allValue cyI 12 o_40, kx_a g_allNumber cyI 12 o_41] := hD
    have w_30 : mj_tog p2.toNatClampNeg mua mub o_34 o_32 ∧ o_36 = upd o_22 m_nodes.toNatClampNeg (o_22 r_6.toNatClampNeg + o_22 r_18.toNatClampNeg + o_32) ∧ o_37 = upd o_23 m_nodes.toNatClampNeg o_32 ∧ o_35 = upd o_21 m_nodes.toNatClampNeg o_33 ∧ 0 ≤ o_33.toInt ∧ o_33.toInt ≤ p2.toInt ∧ mj_vs o_38 o_39 (6 * m_nodes.toNatClampNeg) o_33.toNatClampNeg o_34 ∧ mj_srt o_38 o_39 (6 * m_nodes.toNatClampNeg) o_33.toNatClampNeg ∧ ∀ q : Nat, (q < 6 * m_nodes.toNatClampNeg ∨ 6 * m_nodes.toNatClampNeg + 6 ≤ q) → o_38 q = o_24 q ∧ o_39 q = o_25 q := w_30
    refine lv_iload hx hb dX5_lays_92 (lv_at hl 3 rfl) ?_
    have hP9 := hP.sub (ws' := [kx_5 h0 g_row m_n m_slots m_thrown g_many g_loss g_less g_voteValue g_voteNumber g_allValue g_allNumber o_31 g_nodeL g_nodeR o_19 g_part m_partMany g_wasMany g_wasLoss g_wasValue g_wasNumber g_path m_pathMany g_heavyValue g_heavyTimes m_heavyMany g_fewest g_which g_met m_mostMet, kx_a g_row cyI 160 f, kx_a g_many cyI 324 o_35, kx_a g_loss cyI 324 o_36, kx_a g_less cyI 324 o_37, kx_a g_voteValue cyI 1944 o_38, kx_a g_voteNumber cyI 1944 o_39, kx_a g_allValue cyI 12 o_40, kx_a g_allNumber cyI 12 o_41, kx_a g_nodeL cyI 320 o_28, kx_a g_nodeR cyI 320 o_29]) [3, 0, 4, 5, 6, 7, 8, 9, 10, 1, 2] rfl
    have hD9 := hD.sub (ws' := [kx_5 h0 g_row m_n m_slots m_thrown g_many g_loss g_less g_voteValue g_voteNumber g_allValue g_allNumber o_31 g_nodeL g_nodeR o_19 g_part m_partMany g_wasMany g_wasLoss g_wasValue g_wasNumber g_path m_pathMany g_heavyValue g_heavyTimes m_heavyMany g_fewest g_which g_met m_mostMet, kx_a g_row cyI 160 f, kx_a g_many cyI 324 o_35, kx_a g_loss cyI 324 o_36, kx_a g_less cyI 324 o_37, kx_a g_voteValue cyI 1944 o_38, kx_a g_voteNumber cyI 1944 o_39, kx_a g_allValue cyI 12 o_40, kx_a g_allNumber cyI 12 o_41, kx_a g_nodeL cyI 320 o_28, kx_a g_nodeR cyI 320 o_29]) [3, 0, 4, 5, 6, 7, 8, 9, 10, 1, 2] (by decide) rfl
    have hK9 := hK
    have e_fl := w_30.2.1
    rw [w_6.1, w_18.1] at e_fl
    have hN := mj_lay_node (l := p0.toNatClampNeg) (r := p1.toNatClampNeg) (md := y_5.toNatClampNeg) (a := m_nodes.toNatClampNeg) (by omega) (by omega) (by omega) (by omega) (by omega) (by omega) (mj_ag_sub w_6.2.2.2.2 (Nat.le_refl _) (by omega)) w_18.2.2.2.2 tA2 tB w_30.1 w_30.2.2.2.1 w_30.2.2.2.2.1 (by have := w_30.2.2.2.2.2.1; omega) (by omega) e_fl w_30.2.2.1 w_30.2.2.2.2.2.2.1 w_30.2.2.2.2.2.2.2.1 w_30.2.2.2.2.2.2.2.2
    exact W.iret (v := m_nodes) hx hb hr (fun t ht hW => ⟨⟨m_nodes, (o_19, o_31, o_35, o_36, o_37, o_38, o_39, o_40, o_41, o_28, o_29), rfl, ⟨rfl, (by (try dsimp only); omega), (by (try dsimp only); rw [w_30.2.2.2.1]; exact six4_upd w_18.2.2.1 w_30.2.2.2.2.1 (by have := w_30.2.2.2.2.2.1; omega)), hN.1, hN.2⟩, by rw [ht]; exact hP9, va_K.moved hW.alike hK9, hD9⟩, hS.F ht⟩) hS.2.2 dX5_lays_94
  · have i_3 : y_2.toInt = 1 := kc_eq c_3
    refine lv_aload_n hx hb dX5_lays_39 rfl (lv_at hl 1 rfl) ?_
    refine lv_iload hx hb dX5_lays_40 (lv_at hl 0 rfl) ?_
    refine lv_aload_n hx hb dX5_lays_42 rfl (lv_at hl 1 rfl) ?_
    refine va_get (D := (dC, dI)) (ci := 5) (v := .ref g_row) (C := RX5) (T := TX5) (N := 30) hx hb hts hi_5 hown hK hP 0 rfl rfl 0 (by decide) hf_7 (fun _ h9 => h9) rfl dX5_lays_43 ?_
    refine lv_iload_n hx hb dX5_lays_46 rfl (lv_at hl 2 rfl) ?_
    refine va_iald hx hb hK hP 1 0 rfl rfl (ki_in (om_8 b0) (om_67 b1 b2)) dX5_lays_47 ?_
    refine lv_topi (fun y_42 ey_42 => ?_)
    have j_42 : y_42.toInt = (f p0.toNatClampNeg).toInt := congrArg Int32.toInt ey_42
    have hPc := hP.sub (ws' := [kx_5 h0 g_row m_n m_slots m_thrown g_many g_loss g_less g_voteValue g_voteNumber g_allValue g_allNumber m_allMany g_nodeL g_nodeR y_1 g_part m_partMany g_wasMany g_wasLoss g_wasValue g_wasNumber g_path m_pathMany g_heavyValue g_heavyTimes m_heavyMany g_fewest g_which g_met m_mostMet, kx_a g_many cyI 324 fm, kx_a g_loss cyI 324 fl, kx_a g_less cyI 324 fe, kx_a g_voteValue cyI 1944 vv, kx_a g_voteNumber cyI 1944 vn]) [0, 2, 3, 4, 5, 6] rfl
    have hKc := hK
    have hDc := hD.sub (ws' := [kx_5 h0 g_row m_n m_slots m_thrown g_many g_loss g_less g_voteValue g_voteNumber g_allValue g_allNumber m_allMany g_nodeL g_nodeR y_1 g_part m_partMany g_wasMany g_wasLoss g_wasValue g_wasNumber g_path m_pathMany g_heavyValue g_heavyTimes m_heavyMany g_fewest g_which g_met m_mostMet, kx_a g_many cyI 324 fm, kx_a g_loss cyI 324 fl, kx_a g_less cyI 324 fe, kx_a g_voteValue cyI 1944 vv, kx_a g_voteNumber cyI 1944 vn]) [0, 2, 3, 4, 5, 6] (by decide) rfl
    have hFc := va_free (wc := [kx_5 h0 g_row m_n m_slots m_thrown g_many g_loss g_less g_voteValue g_voteNumber g_allValue g_allNumber m_allMany g_nodeL g_nodeR y_1 g_part m_partMany g_wasMany g_wasLoss g_wasValue g_wasNumber g_path m_pathMany g_heavyValue g_heavyTimes m_heavyMany g_fewest g_which g_met m_mostMet, kx_a g_many cyI 324 fm, kx_a g_loss cyI 324 fl, kx_a g_less cyI 324 fe, kx_a g_voteValue cyI 1944 vv, kx_a g_voteNumber cyI 1944 vn]) hD hS hA [0, 2, 3, 4, 5, 6] rfl
    refine va_callv (va_runV (As := [.int m_nodes, .int y_42]) (rest := []) ⟨hx, hb, hml, hown, hts⟩ (c_X5_one_x l dC dI h0 g_row g_many g_loss g_less g_voteValue g_voteNumber g_allValue g_allNumber g_nodeL g_nodeR g_part g_wasMany g_wasLoss g_wasValue g_wasNumber g_path g_heavyValue g_heavyTimes g_fewest g_which g_met m_n m_slots m_thrown m_allMany y_1 m_partMany m_pathMany m_heavyMany m_mostMet cyI fm fl fe vv vn m_nodes y_42 H.size b5 (om_230 b1 b6)) (cwV 2 hts gX5_lays_X5_one rfl rfl rfl (by decide +kernel) ⟨Nat.le_of_ble_eq_true rfl, Nat.le_of_ble_eq_true rfl⟩) ⟨fun a U g mk q => by obtain ⟨q0, q1, qP, qK, qD⟩ := q; exact ⟨q0, q1, qP, va_K.moved (u := U) (U := U.calling g mk a) (Vm.Alike.refl U.vm) qK, qD⟩, va_recv hKc hPc (ci := 5) (q0 := 0) rfl rfl, fun U hU hW => ⟨rfl, by rw [hU], by rw [hU]; exact hPc, va_K.moved hW.alike hKc, hDc.weaken (fun _ _ _ _ => trivial)⟩⟩ rfl rfl hl.1 rfl (lv_room (Nat.le_of_ble_eq_true rfl)) dX5_lays_48 ⟨Nat.le_of_ble_eq_true rfl, Nat.le_of_ble_eq_true rfl⟩) hS (fun q _ h => hFc q h) hFc (fun u t H1 locs ht hvm w_43 hB hz1 hk1 hS => ?_)
    obtain ⟨o_44, o_45, o_46, o_47, o_48⟩ := u
    dsimp only at w_43 hB
    obtain ⟨hP1, hK1, hD1⟩ := hB
    rw [ht] at hP1
    have hK1 := va_K.moved hvm.symm hK1
    obtain ⟨hP, hD⟩ := va_join (wr := [kx_a g_row cyI 160 f, kx_a g_allValue cyI 12 av, kx_a g_allNumber cyI 12 an, kx_a g_nodeL cyI 320 (upd nl m_nodes.toNatClampNeg p0), kx_a g_nodeR cyI 320 (upd nr m_nodes.toNatClampNeg p1)]) (w1 := [kx_5 h0 g_row m_n m_slots m_thrown g_many g_loss g_less g_voteValue g_voteNumber g_allValue g_allNumber m_allMany g_nodeL g_nodeR y_1 g_part m_partMany g_wasMany g_wasLoss g_wasValue g_wasNumber g_path m_pathMany g_heavyValue g_heavyTimes m_heavyMany g_fewest g_which g_met m_mostMet, kx_a g_many cyI 324 o_44, kx_a g_loss cyI 324 o_45, kx_a g_less cyI 324 o_46, kx_a g_voteValue cyI 1944 o_47, kx_a g_voteNumber cyI 1944 o_48]) hP hD [0, 2, 3, 4, 5, 6] [1, 7, 8, 9, 10] rfl rfl (by decide) (by decide) hk1 hFc hP1 hD1
    clear hP1 hD1 hK1 hk1 hz1 hFc hDc hPc hKc
    generalize H1 = H at hP hS ⊢
    have hP : va_P (dC, dI) vwCl [kx_a g_row cyI 160 f, kx_a g_allValue cyI 12 av, kx_a g_allNumber cyI 12 an, kx_a g_nodeL cyI 320 (upd nl m_nodes.toNatClampNeg p0), kx_a g_nodeR cyI 320 (upd nr m_nodes.toNatClampNeg p1), kx_5 h0 g_row m_n m_slots m_thrown g_many g_loss g_less g_voteValue g_voteNumber g_allValue g_allNumber m_allMany g_nodeL g_nodeR y_1 g_part m_partMany g_wasMany g_wasLoss g_wasValue g_wasNumber g_path m_pathMany g_heavyValue g_heavyTimes m_heavyMany g_fewest g_which g_met m_mostMet, kx_a g_many cyI 324 o_44, kx_a g_loss cyI 324 o_45, kx_a g_less cyI 324 o_46, kx_a g_voteValue cyI 1944 o_47, kx_a g_voteNumber cyI 1944 o_48] H := hP
    have hD : va_D A [kx_a g_row cyI 160 f, kx_a g_allValue cyI 12 av, kx_a g_allNumber cyI 12 an, kx_a g_nodeL cyI 320 (upd nl m_nodes.toNatClampNeg p0), kx_a g_nodeR cyI 320 (upd nr m_nodes.toNatClampNeg p1), kx_5 h0 g_row m_n m_slots m_thrown g_many g_loss g_less g_voteValue g_voteNumber g_allValue g_allNumber m_allMany g_nodeL g_nodeR y_1 g_part m_partMany g_wasMany g_wasLoss g_wasValue g_wasNumber g_path m_pathMany g_heavyValue g_heavyTimes m_heavyMany g_fewest g_which g_met m_mostMet, kx_a g_many cyI 324 o_44, kx_a g_loss cyI 324 o_45, kx_a g_less cyI 324 o_46, kx_a g_voteValue cyI 1944 o_47, kx_a g_voteNumber cyI 1944 o_48] := hD
    have w_43 : o_44 = upd fm m_nodes.toNatClampNeg 1 ∧ o_45 = upd fl m_nodes.toNatClampNeg 0 ∧ o_46 = upd fe m_nodes.toNatClampNeg 0 ∧ o_47 = upd vv (6 * m_nodes.toNatClampNeg) y_42 ∧ o_48 = upd vn (6 * m_nodes.toNatClampNeg) 1 := w_43
    refine lv_iload hx hb dX5_lays_51 (lv_at hl 0 rfl) ?_
    have hP9 := hP.sub (ws' := [kx_5 h0 g_row m_n m_slots m_thrown g_many g_loss g_less g_voteValue g_voteNumber g_allValue g_allNumber m_allMany g_nodeL g_nodeR y_1 g_part m_partMany g_wasMany g_wasLoss g_wasValue g_wasNumber g_path m_pathMany g_heavyValue g_heavyTimes m_heavyMany g_fewest g_which g_met m_mostMet, kx_a g_row cyI 160 f, kx_a g_many cyI 324 o_44, kx_a g_loss cyI 324 o_45, kx_a g_less cyI 324 o_46, kx_a g_voteValue cyI 1944 o_47, kx_a g_voteNumber cyI 1944 o_48, kx_a g_allValue cyI 12 av, kx_a g_allNumber cyI 12 an, kx_a g_nodeL cyI 320 (upd nl m_nodes.toNatClampNeg p0), kx_a g_nodeR cyI 320 (upd nr m_nodes.toNatClampNeg p1)]) [5, 0, 6, 7, 8, 9, 10, 1, 2, 3, 4] rfl
    have hD9 := hD.sub (ws' := [kx_5 h0 g_row m_n m_slots m_thrown g_many g_loss g_less g_voteValue g_voteNumber g_allValue g_allNumber m_allMany g_nodeL g_nodeR y_1 g_part m_partMany g_wasMany g_wasLoss g_wasValue g_wasNumber g_path m_pathMany g_heavyValue g_heavyTimes m_heavyMany g_fewest g_which g_met m_mostMet, kx_a g_row cyI 160 f, kx_a g_many cyI 324 o_44, kx_a g_loss cyI 324 o_45, kx_a g_less cyI 324 o_46, kx_a g_voteValue cyI 1944 o_47, kx_a g_voteNumber cyI 1944 o_48, kx_a g_allValue cyI 12 av, kx_a g_allNumber cyI 12 an, kx_a g_nodeL cyI 320 (upd nl m_nodes.toNatClampNeg p0), kx_a g_nodeR cyI 320 (upd nr m_nodes.toNatClampNeg p1)]) [5, 0, 6, 7, 8, 9, 10, 1, 2, 3, 4] (by decide) rfl
    have hK9 := hK
    have n_p0 := ki_nat p0 rfl (om_8 b0)
    have n_p1 := ki_nat p1 rfl (om_18 b0 b1)
    have n_p2 := ki_nat p2 rfl (om_44 b3)
    have n_nd := ki_nat m_nodes rfl (om_8 b5)
    have e_vv := w_43.2.2.2.1
    rw [ey_42] at e_vv
    have hN := mj_lay_leaf (K := p2.toNatClampNeg) (f := f) (nl := nl) (nr := nr) (l := p0.toNatClampNeg) (r := p1.toNatClampNeg) (l32 := p0) (r32 := p1) 5 (by omega) (by omega) (by omega) (by omega) w_43.1 w_43.2.1 w_43.2.2.1 e_vv w_43.2.2.2.2
    exact W.iret (v := m_nodes) hx hb hr (fun t ht hW => ⟨⟨m_nodes, (y_1, m_allMany, o_44, o_45, o_46, o_47, o_48, av, an, (upd nl m_nodes.toNatClampNeg p0), (upd nr m_nodes.toNatClampNeg p1)), rfl, ⟨rfl, (by (try dsimp only); omega), (by (try dsimp only); rw [w_43.1]; exact six4_upd s4 (by decide) (by decide)), hN.1, hN.2⟩, by rw [ht]; exact hP9, va_K.moved hW.alike hK9, hD9⟩, hS.F ht⟩) hS.2.2 dX5_lays_53

set_option maxHeartbeats 4000000 in
set_option maxRecDepth 100000 in
theorem c_X5_lays_6 (l : Launch) (dC : Nat → ClassId) (dI : Nat → Nat → Nat) (h0 : Nat) (g_row : Nat) (g_many : Nat) (g_loss : Nat) (g_less : Nat) (g_voteValue : Nat) (g_voteNumber : Nat) (g_allValue : Nat) (g_allNumber : Nat) (g_nodeL : Nat) (g_nodeR : Nat) (g_part : Nat) (g_wasMany : Nat) (g_wasLoss : Nat) (g_wasValue : Nat) (g_wasNumber : Nat) (g_path : Nat) (g_heavyValue : Nat) (g_heavyTimes : Nat) (g_fewest : Nat) (g_which : Nat) (g_met : Nat) (m_n : Int32) (m_slots : Int32) (m_thrown : Int32) (m_allMany : Int32) (m_nodes : Int32) (m_partMany : Int32) (m_pathMany : Int32) (m_heavyMany : Int32) (m_mostMet : Int32) (cyI : ClassId) (fm : Nat → Int32) (fl : Nat → Int32) (fe : Nat → Int32) (vv : Nat → Int32) (vn : Nat → Int32) (f : Nat → Int32) (av : Nat → Int32) (an : Nat → Int32) (nl : Nat → Int32) (nr : Nat → Int32) (p0 : Int32) (p1 : Int32) (p2 : Int32) (sz : Nat) (b0 : 0 ≤ p0.toInt) (b1 : p0.toInt < p1.toInt) (b2 : p1.toInt ≤ 160) (b3 : 1 ≤ p2.toInt) (b4 : p2.toInt ≤ 6) (b5 : 0 ≤ m_nodes.toInt) (b6 : m_nodes.toInt + 2 * (p1.toInt - p0.toInt) - 1 ≤ 319) (s4 : six4 fm) (b7 : p1.toInt - p0.toInt ≤ 64) : Met l yX5_lays wsX5_lays ({ frames := 8, cells := 0, slots := 0, locals := 360 }) (va_Pc [.ref h0, .int p0, .int p1, .int p2] (fun U => U.heap.size = sz ∧ va_P (dC, dI) vwCl [kx_5 h0 g_row m_n m_slots m_thrown g_many g_loss g_less g_voteValue g_voteNumber g_allValue g_allNumber m_allMany g_nodeL g_nodeR m_nodes g_part m_partMany g_wasMany g_wasLoss g_wasValue g_wasNumber g_path m_pathMany g_heavyValue g_heavyTimes m_heavyMany g_fewest g_which g_met m_mostMet, kx_a g_row cyI 160 f, kx_a g_many cyI 324 fm, kx_a g_loss cyI 324 fl, kx_a g_less cyI 324 fe, kx_a g_voteValue cyI 1944 vv, kx_a g_voteNumber cyI 1944 vn, kx_a g_allValue cyI 12 av, kx_a g_allNumber cyI 12 an, kx_a g_nodeL cyI 320 nl, kx_a g_nodeR cyI 320 nr] U.heap ∧ va_K (dC, dI) vwCl [(cyI, .int)] U ∧ va_D (fun _ => True) [kx_5 h0 g_row m_n m_slots m_thrown g_many g_loss g_less g_voteValue g_voteNumber g_allValue g_allNumber m_allMany g_nodeL g_nodeR m_nodes g_part m_partMany g_wasMany g_wasLoss g_wasValue g_wasNumber g_path m_pathMany g_heavyValue g_heavyTimes m_heavyMany g_fewest g_which g_met m_mostMet, kx_a g_row cyI 160 f, kx_a g_many cyI 324 fm, kx_a g_loss cyI 324 fl, kx_a g_less cyI 324 fe, kx_a g_voteValue cyI 1944 vv, kx_a g_voteNumber cyI 1944 vn, kx_a g_allValue cyI 12 av, kx_a g_allNumber cyI 12 an, kx_a g_nodeL cyI 320 nl, kx_a g_nodeR cyI 320 nr])) (va_Qi (fun (r : Int32) (u : Int32 × Int32 × (Nat → Int32) × (Nat → Int32) × (Nat → Int32) × (Nat → Int32) × (Nat → Int32) × (Nat → Int32) × (Nat → Int32) × (Nat → Int32) × (Nat → Int32)) => r = m_nodes ∧ u.1.toInt = m_nodes.toInt + 2 * (p1.toInt - p0.toInt) - 1 ∧ six4 u.2.2.1 ∧ mj_S p2.toNatClampNeg f u.2.2.2.2.2.2.2.2.2.1 u.2.2.2.2.2.2.2.2.2.2 u.2.2.1 u.2.2.2.1 u.2.2.2.2.1 u.2.2.2.2.2.1 u.2.2.2.2.2.2.1 6 m_nodes.toNatClampNeg p0.toNatClampNeg p1.toNatClampNeg ∧ mj_ag 0 m_nodes.toNatClampNeg nl nr fm fl fe vv vn u.2.2.2.2.2.2.2.2.2.1 u.2.2.2.2.2.2.2.2.2.2 u.2.2.1 u.2.2.2.1 u.2.2.2.2.1 u.2.2.2.2.2.1 u.2.2.2.2.2.2.1) (fun (u : Int32 × Int32 × (Nat → Int32) × (Nat → Int32) × (Nat → Int32) × (Nat → Int32) × (Nat → Int32) × (Nat → Int32) × (Nat → Int32) × (Nat → Int32) × (Nat → Int32)) (t : State) => va_P (dC, dI) vwCl [kx_5 h0 g_row m_n m_slots m_thrown g_many g_loss g_less g_voteValue g_voteNumber g_allValue g_allNumber u.2.1 g_nodeL g_nodeR u.1 g_part m_partMany g_wasMany g_wasLoss g_wasValue g_wasNumber g_path m_pathMany g_heavyValue g_heavyTimes m_heavyMany g_fewest g_which g_met m_mostMet, kx_a g_row cyI 160 f, kx_a g_many cyI 324 u.2.2.1, kx_a g_loss cyI 324 u.2.2.2.1, kx_a g_less cyI 324 u.2.2.2.2.1, kx_a g_voteValue cyI 1944 u.2.2.2.2.2.1, kx_a g_voteNumber cyI 1944 u.2.2.2.2.2.2.1, kx_a g_allValue cyI 12 u.2.2.2.2.2.2.2.1, kx_a g_allNumber cyI 12 u.2.2.2.2.2.2.2.2.1, kx_a g_nodeL cyI 320 u.2.2.2.2.2.2.2.2.2.1, kx_a g_nodeR cyI 320 u.2.2.2.2.2.2.2.2.2.2] t.heap ∧ va_K (dC, dI) vwCl [(cyI, .int)] t ∧ va_D (va_A [kx_5 h0 g_row m_n m_slots m_thrown g_many g_loss g_less g_voteValue g_voteNumber g_allValue g_allNumber m_allMany g_nodeL g_nodeR m_nodes g_part m_partMany g_wasMany g_wasLoss g_wasValue g_wasNumber g_path m_pathMany g_heavyValue g_heavyTimes m_heavyMany g_fewest g_which g_met m_mostMet, kx_a g_row cyI 160 f, kx_a g_many cyI 324 fm, kx_a g_loss cyI 324 fl, kx_a g_less cyI 324 fe, kx_a g_voteValue cyI 1944 vv, kx_a g_voteNumber cyI 1944 vn, kx_a g_allValue cyI 12 av, kx_a g_allNumber cyI 12 an, kx_a g_nodeL cyI 320 nl, kx_a g_nodeR cyI 320 nr] sz) [kx_5 h0 g_row m_n m_slots m_thrown g_many g_loss g_less g_voteValue g_voteNumber g_allValue g_allNumber u.2.1 g_nodeL g_nodeR u.1 g_part m_partMany g_wasMany g_wasLoss g_wasValue g_wasNumber g_path m_pathMany g_heavyValue g_heavyTimes m_heavyMany g_fewest g_which g_met m_mostMet, kx_a g_row cyI 160 f, kx_a g_many cyI 324 u.2.2.1, kx_a g_loss cyI 324 u.2.2.2.1, kx_a g_less cyI 324 u.2.2.2.2.1, kx_a g_voteValue cyI 1944 u.2.2.2.2.2.1, kx_a g_voteNumber cyI 1944 u.2.2.2.2.2.2.1, kx_a g_allValue cyI 12 u.2.2.2.2.2.2.2.1, kx_a g_allNumber cyI 12 u.2.2.2.2.2.2.2.2.1, kx_a g_nodeL cyI 320 u.2.2.2.2.2.2.2.2.2.1, kx_a g_nodeR cyI 320 u.2.2.2.2.2.2.2.2.2.2]) (va_A [kx_5 h0 g_row m_n m_slots m_thrown g_many g_loss g_less g_voteValue g_voteNumber g_allValue g_allNumber m_allMany g_nodeL g_nodeR m_nodes g_part m_partMany g_wasMany g_wasLoss g_wasValue g_wasNumber g_path m_pathMany g_heavyValue g_heavyTimes m_heavyMany g_fewest g_which g_met m_mostMet, kx_a g_row cyI 160 f, kx_a g_many cyI 324 fm, kx_a g_loss cyI 324 fl, kx_a g_less cyI 324 fe, kx_a g_voteValue cyI 1944 vv, kx_a g_voteNumber cyI 1944 vn, kx_a g_allValue cyI 12 av, kx_a g_allNumber cyI 12 an, kx_a g_nodeL cyI 320 nl, kx_a g_nodeR cyI 320 nr] sz)) 0 0 (va_A [kx_5 h0 g_row m_n m_slots m_thrown g_many g_loss g_less g_voteValue g_voteNumber g_allValue g_allNumber m_allMany g_nodeL g_nodeR m_nodes g_part m_partMany g_wasMany g_wasLoss g_wasValue g_wasNumber g_path m_pathMany g_heavyValue g_heavyTimes m_heavyMany g_fewest g_which g_met m_mostMet, kx_a g_row cyI 160 f, kx_a g_many cyI 324 fm, kx_a g_loss cyI 324 fl, kx_a g_less cyI 324 fe, kx_a g_voteValue cyI 1944 vv, kx_a g_voteNumber cyI 1944 vn, kx_a g_allValue cyI 12 av, kx_a g_allNumber cyI 12 an, kx_a g_nodeL cyI 320 nl, kx_a g_nodeR cyI 320 nr] sz) := by
  refine Met.ofW (cc := cX5_lays) (maxL := 8) (ret := (some .int)) (by decide) rfl ?_
  intro p e s m args below meth c s₁ B hml hv
  obtain ⟨rfl, hsz, hP, hK, hD0⟩ := hv
  have hx := B.exec
  have hb := B.bytes
  have hr := B.returns
  have hts := atoms_spec (ws := wsX5_lays) B.pre
  have hown : s.vm.findClass RX5 = some m.cls := findClass_of_methodNamed B.named
  have hlocks := B.notSynchronized
  subst hsz
  have hD := hD0.self (sz := s.heap.size)
  generalize hAe : va_A [kx_5 h0 g_row m_n m_slots m_thrown g_many g_loss g_less g_voteValue g_voteNumber g_allValue g_allNumber m_allMany g_nodeL g_nodeR m_nodes g_part m_partMany g_wasMany g_wasLoss g_wasValue g_wasNumber g_path m_pathMany g_heavyValue g_heavyTimes m_heavyMany g_fewest g_which g_met m_mostMet, kx_a g_row cyI 160 f, kx_a g_many cyI 324 fm, kx_a g_loss cyI 324 fl, kx_a g_less cyI 324 fe, kx_a g_voteValue cyI 1944 vv, kx_a g_voteNumber cyI 1944 vn, kx_a g_allValue cyI 12 av, kx_a g_allNumber cyI 12 an, kx_a g_nodeL cyI 320 nl, kx_a g_nodeR cyI 320 nr] s.heap.size = A at hD ⊢
  have hA : ∀ q : Nat, s.heap.size ≤ q → A q := fun q h => by rw [← hAe]; exact Or.inr h
  have hS : va_S A s.heap s.heap [] := va_S.rf
  have hP : va_P (dC, dI) vwCl [kx_5 h0 g_row m_n m_slots m_thrown g_many g_loss g_less g_voteValue g_voteNumber g_allValue g_allNumber m_allMany g_nodeL g_nodeR m_nodes g_part m_partMany g_wasMany g_wasLoss g_wasValue g_wasNumber g_path m_pathMany g_heavyValue g_heavyTimes m_heavyMany g_fewest g_which g_met m_mostMet, kx_a g_row cyI 160 f, kx_a g_many cyI 324 fm, kx_a g_loss cyI 324 fl, kx_a g_less cyI 324 fe, kx_a g_voteValue cyI 1944 vv, kx_a g_voteNumber cyI 1944 vn, kx_a g_allValue cyI 12 av, kx_a g_allNumber cyI 12 an, kx_a g_nodeL cyI 320 nl, kx_a g_nodeR cyI 320 nr] s.heap := hP
  have hl := lv_entry ([.ref h0, .int p0, .int p1, .int p2]) (n := 8) (Nat.le_of_ble_eq_true rfl)
  rw [lg_entry_eq]
  generalize (lg_sl ([.ref h0, .int p0, .int p1, .int p2]) ++ List.replicate (8 - (lg_sl ([.ref h0, .int p0, .int p1, .int p2])).length) Slot.unset).toArray = ls at hl ⊢
  have hl : lv_has ls 8 [(0, .ref h0), (1, .int p0), (2, .int p1), (3, .int p2)] := hl
  have hf_101 := hts (.fieldLink RX5 101 "MajorityIndexModel" "nodes" "I") (List.mem_of_getElem? (i := 1) rfl)
  have hi_5 : ∀ w ∈ u_ws RX5 TX5 30, w ∈ wsX5_lays := fun w h => List.mem_cons_of_mem _ (List.mem_append_right _ h)
  have hf_38 := hts (.fieldLink RX5 38 "MajorityIndexModel" "nodeL" "[I") (List.mem_of_getElem? (i := 2) rfl)
  have hf_41 := hts (.fieldLink RX5 41 "MajorityIndexModel" "nodeR" "[I") (List.mem_of_getElem? (i := 3) rfl)
  have hf_7 := hts (.fieldLink RX5 7 "MajorityIndexModel" "row" "[I") (List.mem_of_getElem? (i := 4) rfl)
  refine lv_aload_n hx hb dX5_lays_0 rfl (lv_at hl 0 rfl) ?_
  refine va_get (D := (dC, dI)) (ci := 5) (v := .int m_nodes) (C := RX5) (T := TX5) (N := 30) hx hb hts hi_5 hown hK hP 0 rfl rfl 14 (by decide) hf_101 (fun _ h9 => h9) rfl dX5_lays_1 ?_
  refine lv_istore (lv' := [(4, .int m_nodes), (0, .ref h0), (1, .int p0), (2, .int p1), (3, .int p2)]) hx hb dX5_lays_4 hl (by decide) rfl (fun ls hl => ?_)
  refine lv_aload_n hx hb dX5_lays_6 rfl (lv_at hl 1 rfl) ?_
  refine lv_dup hx hb dX5_lays_7 rfl ?_
  refine va_get (D := (dC, dI)) (ci := 5) (v := .int m_nodes) (C := RX5) (T := TX5) (N := 30) hx hb hts hi_5 hown hK hP 0 rfl rfl 14 (by decide) hf_101 (fun _ h9 => h9) rfl dX5_lays_8 ?_
  refine lv_iconst (v := 1) hx hb dX5_lays_11 (by decide) ?_
  refine lv_iadd hx hb dX5_lays_12 ?_
  refine lv_topi (fun y_1 ey_1 => ?_)
  have i_1 : y_1.toInt = m_nodes.toInt + 1 := ki_add ey_1 rfl rfl (om_10 b5) (om_226 b1 b6)
  refine va_put (D := (dC, dI)) (ci := 5) (v := .int y_1) (ty := .int) (C := RX5) (T := TX5) (N := 30) hx hb hts hi_5 tyX5 tyX5_ok nmX5 hown hK hP hD hS 0 rfl rfl 14 (by decide) hf_101 (fun _ h9 => h9) rfl (by decide +kernel) rfl rfl (Nat.le_of_ble_eq_true rfl) dX5_lays_13 (fun H locs hP hD hS => ?_)
  have hP : va_P (dC, dI) vwCl [kx_5 h0 g_row m_n m_slots m_thrown g_many g_loss g_less g_voteValue g_voteNumber g_allValue g_allNumber m_allMany g_nodeL g_nodeR y_1 g_part m_partMany g_wasMany g_wasLoss g_wasValue g_wasNumber g_path m_pathMany g_heavyValue g_heavyTimes m_heavyMany g_fewest g_which g_met m_mostMet, kx_a g_row cyI 160 f, kx_a g_many cyI 324 fm, kx_a g_loss cyI 324 fl, kx_a g_less cyI 324 fe, kx_a g_voteValue cyI 1944 vv, kx_a g_voteNumber cyI 1944 vn, kx_a g_allValue cyI 12 av, kx_a g_allNumber cyI 12 an, kx_a g_nodeL cyI 320 nl, kx_a g_nodeR cyI 320 nr] H := hP
  have hD : va_D A [kx_5 h0 g_row m_n m_slots m_thrown g_many g_loss g_less g_voteValue g_voteNumber g_allValue g_allNumber m_allMany g_nodeL g_nodeR y_1 g_part m_partMany g_wasMany g_wasLoss g_wasValue g_wasNumber g_path m_pathMany g_heavyValue g_heavyTimes m_heavyMany g_fewest g_which g_met m_mostMet, kx_a g_row cyI 160 f, kx_a g_many cyI 324 fm, kx_a g_loss cyI 324 fl, kx_a g_less cyI 324 fe, kx_a g_voteValue cyI 1944 vv, kx_a g_voteNumber cyI 1944 vn, kx_a g_allValue cyI 12 av, kx_a g_allNumber cyI 12 an, kx_a g_nodeL cyI 320 nl, kx_a g_nodeR cyI 320 nr] := hD
  refine lv_aload_n hx hb dX5_lays_16 rfl (lv_at hl 1 rfl) ?_
  refine va_get (D := (dC, dI)) (ci := 5) (v := .ref g_nodeL) (C := RX5) (T := TX5) (N := 30) hx hb hts hi_5 hown hK hP 0 rfl rfl 12 (by decide) hf_38 (fun _ h9 => h9) rfl dX5_lays_17 ?_
  refine lv_iload hx hb dX5_lays_20 (lv_at hl 0 rfl) ?_
  refine lv_iload_n hx hb dX5_lays_22 rfl (lv_at hl 2 rfl) ?_
  refine va_iast hx hb hK hP hD hS 9 0 rfl rfl (ki_in (om_8 b5) (om_227 b1 b6)) dX5_lays_23 (fun H locs hP hD hS => ?_)
  have hP : va_P (dC, dI) vwCl [kx_5 h0 g_row m_n m_slots m_thrown g_many g_loss g_less g_voteValue g_voteNumber g_allValue g_allNumber m_allMany g_nodeL g_nodeR y_1 g_part m_partMany g_wasMany g_wasLoss g_wasValue g_wasNumber g_path m_pathMany g_heavyValue g_heavyTimes m_heavyMany g_fewest g_which g_met m_mostMet, kx_a g_row cyI 160 f, kx_a g_many cyI 324 fm, kx_a g_loss cyI 324 fl, kx_a g_less cyI 324 fe, kx_a g_voteValue cyI 1944 vv, kx_a g_voteNumber cyI 1944 vn, kx_a g_allValue cyI 12 av, kx_a g_allNumber cyI 12 an, kx_a g_nodeL cyI 320 (upd nl m_nodes.toNatClampNeg p0), kx_a g_nodeR cyI 320 nr] H := hP
  have hD : va_D A [kx_5 h0 g_row m_n m_slots m_thrown g_many g_loss g_less g_voteValue g_voteNumber g_allValue g_allNumber m_allMany g_nodeL g_nodeR y_1 g_part m_partMany g_wasMany g_wasLoss g_wasValue g_wasNumber g_path m_pathMany g_heavyValue g_heavyTimes m_heavyMany g_fewest g_which g_met m_mostMet, kx_a g_row cyI 160 f, kx_a g_many cyI 324 fm, kx_a g_loss cyI 324 fl, kx_a g_less cyI 324 fe, kx_a g_voteValue cyI 1944 vv, kx_a g_voteNumber cyI 1944 vn, kx_a g_allValue cyI 12 av, kx_a g_allNumber cyI 12 an, kx_a g_nodeL cyI 320 (upd nl m_nodes.toNatClampNeg p0), kx_a g_nodeR cyI 320 nr] := hD
  refine lv_aload_n hx hb dX5_lays_24 rfl (lv_at hl 1 rfl) ?_
  refine va_get (D := (dC, dI)) (ci := 5) (v := .ref g_nodeR) (C := RX5) (T := TX5) (N := 30) hx hb hts hi_5 hown hK hP 0 rfl rfl 13 (by decide) hf_41 (fun _ h9 => h9) rfl dX5_lays_25 ?_
  refine lv_iload hx hb dX5_lays_28 (lv_at hl 0 rfl) ?_
  refine lv_iload_n hx hb dX5_lays_30 rfl (lv_at hl 3 rfl) ?_
  refine va_iast hx hb hK hP hD hS 10 0 rfl rfl (ki_in (om_8 b5) (om_227 b1 b6)) dX5_lays_31 (fun H locs hP hD hS => ?_)
  have hP : va_P (dC, dI) vwCl [kx_5 h0 g_row m_n m_slots m_thrown g_many g_loss g_less g_voteValue g_voteNumber g_allValue g_allNumber m_allMany g_nodeL g_nodeR y_1 g_part m_partMany g_wasMany g_wasLoss g_wasValue g_wasNumber g_path m_pathMany g_heavyValue g_heavyTimes m_heavyMany g_fewest g_which g_met m_mostMet, kx_a g_row cyI 160 f, kx_a g_many cyI 324 fm, kx_a g_loss cyI 324 fl, kx_a g_less cyI 324 fe, kx_a g_voteValue cyI 1944 vv, kx_a g_voteNumber cyI 1944 vn, kx_a g_allValue cyI 12 av, kx_a g_allNumber cyI 12 an, kx_a g_nodeL cyI 320 (upd nl m_nodes.toNatClampNeg p0), kx_a g_nodeR cyI 320 (upd nr m_nodes.toNatClampNeg p1)] H := hP
  have hD : va_D A [kx_5 h0 g_row m_n m_slots m_thrown g_many g_loss g_less g_voteValue g_voteNumber g_allValue g_allNumber m_allMany g_nodeL g_nodeR y_1 g_part m_partMany g_wasMany g_wasLoss g_wasValue g_wasNumber g_path m_pathMany g_heavyValue g_heavyTimes m_heavyMany g_fewest g_which g_met m_mostMet, kx_a g_row cyI 160 f, kx_a g_many cyI 324 fm, kx_a g_loss cyI 324 fl, kx_a g_less cyI 324 fe, kx_a g_voteValue cyI 1944 vv, kx_a g_voteNumber cyI 1944 vn, kx_a g_allValue cyI 12 av, kx_a g_allNumber cyI 12 an, kx_a g_nodeL cyI 320 (upd nl m_nodes.toNatClampNeg p0), kx_a g_nodeR cyI 320 (upd nr m_nodes.toNatClampNeg p1)] := hD
  refine lv_iload_n hx hb dX5_lays_32 rfl (lv_at hl 3 rfl) ?_
  refine lv_iload_n hx hb dX5_lays_33 rfl (lv_at hl 2 rfl) ?_
  refine lv_isub hx hb dX5_lays_34 ?_
  refine lv_topi (fun y_2 ey_2 => ?_)
  have i_2 : y_2.toInt = p1.toInt - p0.toInt := ki_sub ey_2 rfl rfl (om_228 b1) (om_239 b7)
  refine lv_iconst (v := 1) hx hb dX5_lays_35 (by decide) ?_
  refine lv_icmp_ne (tgt := 54) hx hb dX5_lays_36 (by decide) (fun c_3 => ?_) (fun c_3 => ?_)
  · have i_3 : ¬ y_2.toInt = 1 := kc_ne c_3
    refine lv_iload_n hx hb dX5_lays_54 rfl (lv_at hl 2 rfl) ?_
    refine lv_iload_n hx hb dX5_lays_55 rfl (lv_at hl 3 rfl) ?_
    refine lv_iadd hx hb dX5_lays_56 ?_
    refine lv_topi (fun y_4 ey_4 => ?_)
    have i_4 : y_4.toInt = p0.toInt + p1.toInt := ki_add ey_4 rfl rfl (om_232 b0 b1) (om_233 b1 b2)
    refine lv_iconst (v := 2) hx hb dX5_lays_57 (by decide) ?_
    refine lv_idiv hx hb dX5_lays_58 (by decide) ?_
    refine lv_topi (fun y_5 ey_5 => ?_)
    have i_5 : y_5.toInt = y_4.toInt / 2 := ki_div2 ey_5 rfl (by omega)
    refine lv_istore (lv' := [(5, .int y_5), (4, .int m_nodes), (0, .ref h0), (1, .int p0), (2, .int p1), (3, .int p2)]) hx hb dX5_lays_59 hl (by decide) rfl (fun ls hl => ?_)
    refine lv_aload_n hx hb dX5_lays_61 rfl (lv_at hl 2 rfl) ?_
    refine lv_iload_n hx hb dX5_lays_62 rfl (lv_at hl 3 rfl) ?_
    refine lv_iload hx hb dX5_lays_63 (lv_at hl 0 rfl) ?_
    refine lv_iload_n hx hb dX5_lays_65 rfl (lv_at hl 5 rfl) ?_
    have hPc := hP
    have hKc := hK
    have hDc := hD
    have hFc := kx_free hD hS hA
    refine va_calli (va_runV (As := [.int p0, .int y_5, .int p2]) (rest := []) ⟨hx, hb, hml, hown, hts⟩ (c_X5_lays_5 l dC dI h0 g_row g_many g_loss g_less g_voteValue g_voteNumber g_allValue g_allNumber g_nodeL g_nodeR g_part g_wasMany g_wasLoss g_wasValue g_wasNumber g_path g_heavyValue g_heavyTimes g_fewest g_which g_met m_n m_slots m_thrown m_allMany y_1 m_partMany m_pathMany m_heavyMany m_mostMet cyI fm fl fe vv vn f av an (upd nl m_nodes.toNatClampNeg p0) (upd nr m_nodes.toNatClampNeg p1) p0 y_5 p2 H.size b0 (by omega) (by omega) b3 b4 (om_31 b5 i_1) (by omega) s4 (by omega)) (cwV 3 hts gX5_lays_X5_lays rfl rfl rfl (by decide +kernel) ⟨Nat.le_of_ble_eq_true rfl, Nat.le_of_ble_eq_true rfl⟩) ⟨fun a U g mk q => by obtain ⟨q0, q1, qP, qK, qD⟩ := q; exact ⟨q0, q1, qP, va_K.moved (u := U) (U := U.calling g mk a) (Vm.Alike.refl U.vm) qK, qD⟩, va_recv hKc hPc (ci := 5) (q0 := 0) rfl rfl, fun U hU hW => ⟨rfl, by rw [hU], by rw [hU]; exact hPc, va_K.moved hW.alike hKc, hDc.weaken (fun _ _ _ _ => trivial)⟩⟩ rfl rfl hl.1 rfl (lv_room (Nat.le_of_ble_eq_true rfl)) dX5_lays_66 ⟨Nat.le_of_ble_eq_true rfl, Nat.le_of_ble_eq_true rfl⟩) hS (fun q _ h => hFc q h) hFc (fun r_6 u t H1 locs ht hvm w_6 hB hz1 hk1 hS => ?_)
    obtain ⟨o_7, o_8, o_9, o_10, o_11, o_12, o_13, o_14, o_15, o_16, o_17⟩ := u
    dsimp only at w_6 hB
    obtain ⟨hP1, hK1, hD1⟩ := hB
    rw [ht] at hP1
    have hK1 := va_K.moved hvm.symm hK1
    have hD := hD1.weaken (fun _ q _ h => hFc q.1 h)
    have hP := hP1
    clear hP1 hD1 hK1 hk1 hz1 hFc hDc hPc hKc
    generalize H1 = H at hP hS ⊢
    have w_6 : r_6 = y_1 ∧ o_7.toInt = y_1.toInt + 2 * (y_5.toInt - p0.toInt) - 1 ∧ six4 o_9 ∧ mj_S p2.toNatClampNeg f o_16 o_17 o_9 o_10 o_11 o_12 o_13 5 y_1.toNatClampNeg p0.toNatClampNeg y_5.toNatClampNeg ∧ mj_ag 0 y_1.toNatClampNeg (upd nl m_nodes.toNatClampNeg p0) (upd nr m_nodes.toNatClampNeg p1) fm fl fe vv vn o_16 o_17 o_9 o_10 o_11 o_12 o_13 := w_6
    refine lv_istore (lv' := [(6, .int r_6), (5, .int y_5), (4, .int m_nodes), (0, .ref h0), (1, .int p0), (2, .int p1), (3, .int p2)]) hx hb dX5_lays_69 hl (by decide) rfl (fun ls hl => ?_)
    refine lv_aload_n hx hb dX5_lays_71 rfl (lv_at hl 3 rfl) ?_
    refine lv_iload hx hb dX5_lays_72 (lv_at hl 1 rfl) ?_
    refine lv_iload_n hx hb dX5_lays_74 rfl (lv_at hl 5 rfl) ?_
    refine lv_iload_n hx hb dX5_lays_75 rfl (lv_at hl 6 rfl) ?_
    have hPc := hP
    have hKc := hK
    have hDc := hD
    have hFc := kx_free hD hS hA
    refine va_calli (va_runV (As := [.int y_5, .int p1, .int p2]) (rest := []) ⟨hx, hb, hml, hown, hts⟩ (c_X5_lays_5 l dC dI h0 g_row g_many g_loss g_less g_voteValue g_voteNumber g_allValue g_allNumber g_nodeL g_nodeR g_part g_wasMany g_wasLoss g_wasValue g_wasNumber g_path g_heavyValue g_heavyTimes g_fewest g_which g_met m_n m_slots m_thrown o_8 o_7 m_partMany m_pathMany m_heavyMany m_mostMet cyI o_9 o_10 o_11 o_12 o_13 f o_14 o_15 o_16 o_17 y_5 p1 p2 H.size (by omega) (by omega) b2 b3 b4 (by omega) (om_234 b6 i_1 w_6.2.1) w_6.2.2.1 (by omega)) (cwV 3 hts gX5_lays_X5_lays rfl rfl rfl (by decide +kernel) ⟨Nat.le_of_ble_eq_true rfl, Nat.le_of_ble_eq_true rfl⟩) ⟨fun a U g mk q => by obtain ⟨q0, q1, qP, qK, qD⟩ := q; exact ⟨q0, q1, qP, va_K.moved (u := U) (U := U.calling g mk a) (Vm.Alike.refl U.vm) qK, qD⟩, va_recv hKc hPc (ci := 5) (q0 := 0) rfl rfl, fun U hU hW => ⟨rfl, by rw [hU], by rw [hU]; exact hPc, va_K.moved hW.alike hKc, hDc.weaken (fun _ _ _ _ => trivial)⟩⟩ rfl rfl hl.1 rfl (lv_room (Nat.le_of_ble_eq_true rfl)) dX5_lays_76 ⟨Nat.le_of_ble_eq_true rfl, Nat.le_of_ble_eq_true rfl⟩) hS (fun q _ h => hFc q h) hFc (fun r_18 u t H1 locs ht hvm w_18 hB hz1 hk1 hS => ?_)
    obtain ⟨o_19, o_20, o_21, o_22, o_23, o_24, o_25, o_26, o_27, o_28, o_29⟩ := u
    dsimp only at w_18 hB
    obtain ⟨hP1, hK1, hD1⟩ := hB
    rw [ht] at hP1
    have hK1 := va_K.moved hvm.symm hK1
    have hD := hD1.weaken (fun _ q _ h => hFc q.1 h)
    have hP := hP1
    clear hP1 hD1 hK1 hk1 hz1 hFc hDc hPc hKc
    generalize H1 = H at hP hS ⊢
    have w_18 : r_18 = o_7 ∧ o_19.toInt = o_7.toInt + 2 * (p1.toInt - y_5.toInt) - 1 ∧ six4 o_21 ∧ mj_S p2.toNatClampNeg f o_28 o_29 o_21 o_22 o_23 o_24 o_25 5 o_7.toNatClampNeg y_5.toNatClampNeg p1.toNatClampNeg ∧ mj_ag 0 o_7.toNatClampNeg o_16 o_17 o_9 o_10 o_11 o_12 o_13 o_28 o_29 o_21 o_22 o_23 o_24 o_25 := w_18
    refine lv_istore (lv' := [(7, .int r_18), (6, .int r_6), (5, .int y_5), (4, .int m_nodes), (0, .ref h0), (1, .int p0), (2, .int p1), (3, .int p2)]) hx hb dX5_lays_79 hl (by decide) rfl (fun ls hl => ?_)
    have n_p0 := ki_nat p0 rfl (om_8 b0)
    have n_p1 := ki_nat p1 rfl (om_18 b0 b1)
    have n_p2 := ki_nat p2 rfl (om_44 b3)
    have n_nd := ki_nat m_nodes rfl (om_8 b5)
    have n_y := ki_nat y_1 rfl (om_31 b5 i_1)
    have n_md := ki_nat y_5 rfl (by omega)
    have n_oL := ki_nat o_7 rfl (by omega)
    have i_rL : r_6.toInt = y_1.toInt := congrArg Int32.toInt w_6.1
    have i_rR : r_18.toInt = o_7.toInt := congrArg Int32.toInt w_18.1
    obtain ⟨mua, La, ca, tA⟩ := w_6.2.2.2.1
    obtain ⟨mub, Lb, cb, tB⟩ := w_18.2.2.2.1
    have tA2 := mj_T_ag _ _ o_7.toNatClampNeg _ _ _ _ _ tA (by omega) (mj_ag_sub w_18.2.2.2.2 (by omega) (Nat.le_refl _))
    have nA := mj_T_nd tA2
    have nB := mj_T_nd tB
    refine lv_aload_n hx hb dX5_lays_81 rfl (lv_at hl 4 rfl) ?_
    refine lv_iload hx hb dX5_lays_82 (lv_at hl 1 rfl) ?_
    refine lv_iload hx hb dX5_lays_84 (lv_at hl 0 rfl) ?_
    refine lv_iload hx hb dX5_lays_86 (lv_at hl 3 rfl) ?_
    refine lv_iload_n hx hb dX5_lays_88 rfl (lv_at hl 7 rfl) ?_
    have hPc := hP.sub (ws' := [kx_5 h0 g_row m_n m_slots m_thrown g_many g_loss g_less g_voteValue g_voteNumber g_allValue g_allNumber o_20 g_nodeL g_nodeR o_19 g_part m_partMany g_wasMany g_wasLoss g_wasValue g_wasNumber g_path m_pathMany g_heavyValue g_heavyTimes m_heavyMany g_fewest g_which g_met m_mostMet, kx_a g_many cyI 324 o_21, kx_a g_loss cyI 324 o_22, kx_a g_less cyI 324 o_23, kx_a g_voteValue cyI 1944 o_24, kx_a g_voteNumber cyI 1944 o_25, kx_a g_allValue cyI 12 o_26, kx_a g_allNumber cyI 12 o_27]) [0, 2, 3, 4, 5, 6, 7, 8] rfl
    have hKc := hK
    have hDc := hD.sub (ws' := [kx_5 h0 g_row m_n m_slots m_thrown g_many g_loss g_less g_voteValue g_voteNumber g_allValue g_allNumber o_20 g_nodeL g_nodeR o_19 g_part m_partMany g_wasMany g_wasLoss g_wasValue g_wasNumber g_path m_pathMany g_heavyValue g_heavyTimes m_heavyMany g_fewest g_which g_met m_mostMet, kx_a g_many cyI 324 o_21, kx_a g_loss cyI 324 o_22, kx_a g_less cyI 324 o_23, kx_a g_voteValue cyI 1944 o_24, kx_a g_voteNumber cyI 1944 o_25, kx_a g_allValue cyI 12 o_26, kx_a g_allNumber cyI 12 o_27]) [0, 2, 3, 4, 5, 6, 7, 8] (by decide) rfl
    have hFc := va_free (wc := [kx_5 h0 g_row m_n m_slots m_thrown g_many g_loss g_less g_voteValue g_voteNumber g_allValue g_allNumber o_20 g_nodeL g_nodeR o_19 g_part m_partMany g_wasMany g_wasLoss g_wasValue g_wasNumber g_path m_pathMany g_heavyValue g_heavyTimes m_heavyMany g_fewest g_which g_met m_mostMet, kx_a g_many cyI 324 o_21, kx_a g_loss cyI 324 o_22, kx_a g_less cyI 324 o_23, kx_a g_voteValue cyI 1944 o_24, kx_a g_voteNumber cyI 1944 o_25, kx_a g_allValue cyI 12 o_26, kx_a g_allNumber cyI 12 o_27]) hD hS hA [0, 2, 3, 4, 5, 6, 7, 8] rfl
    refine va_callv (va_runV (As := [.int r_6, .int r_18, .int m_nodes, .int p2]) (rest := []) ⟨hx, hb, hml, hown, hts⟩ (c_X5_together l dC dI h0 g_row g_many g_loss g_less g_voteValue g_voteNumber g_allValue g_allNumber g_nodeL g_nodeR g_part g_wasMany g_wasLoss g_wasValue g_wasNumber g_path g_heavyValue g_heavyTimes g_fewest g_which g_met m_n m_slots m_thrown o_20 o_19 m_partMany m_pathMany m_heavyMany m_mostMet cyI o_21 o_22 o_23 o_24 o_25 o_26 o_27 mua mub r_6 r_18 m_nodes p2 H.size (by omega) (by omega) (by omega) (by omega) (by omega) (by omega) (by omega) (by omega) (by rw [w_6.1]; exact nA.2.2.1) (by rw [w_6.1]; exact nA.2.2.2.1) (by rw [w_18.1]; exact nB.2.2.1) (by rw [w_18.1]; exact nB.2.2.2.1) (by rw [w_6.1]; exact nA.2.2.2.2.2.2.2.1) (by rw [w_18.1]; exact nB.2.2.2.2.2.2.2.1) (fun v => by have h1 := mj_T_le _ _ _ _ _ _ _ tA2 v; have h2 := mj_T_le _ _ _ _ _ _ _ tB v; omega)) (cwV 4 hts gX5_lays_X5_together rfl rfl rfl (by decide +kernel) ⟨Nat.le_of_ble_eq_true rfl, Nat.le_of_ble_eq_true rfl⟩) ⟨fun a U g mk q => by obtain ⟨q0, q1, qP, qK, qD⟩ := q; exact ⟨q0, q1, qP, va_K.moved (u := U) (U := U.calling g mk a) (Vm.Alike.refl U.vm) qK, qD⟩, va_recv hKc hPc (ci := 5) (q0 := 0) rfl rfl, fun U hU hW => ⟨rfl, by rw [hU], by rw [hU]; exact hPc, va_K.moved hW.alike hKc, hDc.weaken (fun _ _ _ _ => trivial)⟩⟩ rfl rfl hl.1 rfl (lv_room (Nat.le_of_ble_eq_true rfl)) dX5_lays_89 ⟨Nat.le_of_ble_eq_true rfl, Nat.le_of_ble_eq_true rfl⟩) hS (fun q _ h => hFc q h) hFc (fun u t H1 locs ht hvm w_30 hB hz1 hk1 hS => ?_)
    obtain ⟨o_31, o_32, o_33, o_34, o_35, o_36, o_37, o_38, o_39, o_40, o_41⟩ := u
    dsimp only at w_30 hB
    obtain ⟨hP1, hK1, hD1⟩ := hB
    rw [ht] at hP1
    have hK1 := va_K.moved hvm.symm hK1
    obtain ⟨hP, hD⟩ := va_join (wr := [kx_a g_row cyI 160 f, kx_a g_nodeL cyI 320 o_28, kx_a g_nodeR cyI 320 o_29]) (w1 := [kx_5 h0 g_row m_n m_slots m_thrown g_many g_loss g_less g_voteValue g_voteNumber g_allValue g_allNumber o_31 g_nodeL g_nodeR o_19 g_part m_partMany g_wasMany g_wasLoss g_wasValue g_wasNumber g_path m_pathMany g_heavyValue g_heavyTimes m_heavyMany g_fewest g_which g_met m_mostMet, kx_a g_many cyI 324 o_35, kx_a g_loss cyI 324 o_36, kx_a g_less cyI 324 o_37, kx_a g_voteValue cyI 1944 o_38, kx_a g_voteNumber cyI 1944 o_39, kx_a g_allValue cyI 12 o_40, kx_a g_allNumber cyI 12 o_41]) hP hD [0, 2, 3, 4, 5, 6, 7, 8] [1, 9, 10] rfl rfl (by decide) (by decide) hk1 hFc hP1 hD1
    clear hP1 hD1 hK1 hk1 hz1 hFc hDc hPc hKc
    generalize H1 = H at hP hS ⊢
    have hP : va_P (dC, dI) vwCl [kx_a g_row cyI 160 f, kx_a g_nodeL cyI 320 o_28, kx_a g_nodeR cyI 320 o_29, kx_5 h0 g_row m_n m_slots m_thrown g_many g_loss g_less g_voteValue g_voteNumber g_allValue g_allNumber o_31 g_nodeL g_nodeR o_19 g_part m_partMany g_wasMany g_wasLoss g_wasValue g_wasNumber g_path m_pathMany g_heavyValue g_heavyTimes m_heavyMany g_fewest g_which g_met m_mostMet, kx_a g_many cyI 324 o_35, kx_a g_loss cyI 324 o_36, kx_a g_less cyI 324 o_37, kx_a g_voteValue cyI 1944 o_38, kx_a g_voteNumber cyI 1944 o_39, kx_a g_allValue cyI 12 o_40, kx_a g_allNumber cyI 12 o_41] H := hP
    have hD : va_D A [kx_a g_row cyI 160 f, kx_a g_nodeL cyI 320 o_28, kx_a g_nodeR cyI 320 o_29, kx_5 h0 g_row m_n m_slots m_thrown g_many g_loss g_less g_voteValue g_voteNumber g_allValue g_allNumber o_31 g_nodeL g_nodeR o_19 g_part m_partMany g_wasMany g_wasLoss g_wasValue g_wasNumber g_path m_pathMany g_heavyValue g_heavyTimes m_heavyMany g_fewest g_which g_met m_mostMet, kx_a g_many cyI 324 o_35, kx_a g_loss cyI 324 o_36, kx_a g_less cyI 324 o_37, kx_a g_voteValue cyI 1944 o_38, kx_a g_voteNumber cyI 1944 o_39, kx_a g_allValue cyI 12 o_40, kx_a g_allNumber cyI 12 o_41] := hD
    have w_30 : mj_tog p2.toNatClampNeg mua mub o_34 o_32 ∧ o_36 = upd o_22 m_nodes.toNatClampNeg (o_22 r_6.toNatClampNeg + o_22 r_18.toNatClampNeg + o_32) ∧ o_37 = upd o_23 m_nodes.toNatClampNeg o_32 ∧ o_35 = upd o_21 m_nodes.toNatClampNeg o_33 ∧ 0 ≤ o_33.toInt ∧ o_33.toInt ≤ p2.toInt ∧ mj_vs o_38 o_39 (6 * m_nodes.toNatClampNeg) o_33.toNatClampNeg o_34 ∧ mj_srt o_38 o_39 (6 * m_nodes.toNatClampNeg) o_33.toNatClampNeg ∧ ∀ q : Nat, (q < 6 * m_nodes.toNatClampNeg ∨ 6 * m_nodes.toNatClampNeg + 6 ≤ q) → o_38 q = o_24 q ∧ o_39 q = o_25 q := w_30
    refine lv_iload hx hb dX5_lays_92 (lv_at hl 3 rfl) ?_
    have hP9 := hP.sub (ws' := [kx_5 h0 g_row m_n m_slots m_thrown g_many g_loss g_less g_voteValue g_voteNumber g_allValue g_allNumber o_31 g_nodeL g_nodeR o_19 g_part m_partMany g_wasMany g_wasLoss g_wasValue g_wasNumber g_path m_pathMany g_heavyValue g_heavyTimes m_heavyMany g_fewest g_which g_met m_mostMet, kx_a g_row cyI 160 f, kx_a g_many cyI 324 o_35, kx_a g_loss cyI 324 o_36, kx_a g_less cyI 324 o_37, kx_a g_voteValue cyI 1944 o_38, kx_a g_voteNumber cyI 1944 o_39, kx_a g_allValue cyI 12 o_40, kx_a g_allNumber cyI 12 o_41, kx_a g_nodeL cyI 320 o_28, kx_a g_nodeR cyI 320 o_29]) [3, 0, 4, 5, 6, 7, 8, 9, 10, 1, 2] rfl
    have hD9 := hD.sub (ws' := [kx_5 h0 g_row m_n m_slots m_thrown g_many g_loss g_less g_voteValue g_voteNumber g_allValue g_allNumber o_31 g_nodeL g_nodeR o_19 g_part m_partMany g_wasMany g_wasLoss g_wasValue g_wasNumber g_path m_pathMany g_heavyValue g_heavyTimes m_heavyMany g_fewest g_which g_met m_mostMet, kx_a g_row cyI 160 f, kx_a g_many cyI 324 o_35, kx_a g_loss cyI 324 o_36, kx_a g_less cyI 324 o_37, kx_a g_voteValue cyI 1944 o_38, kx_a g_voteNumber cyI 1944 o_39, kx_a g_allValue cyI 12 o_40, kx_a g_allNumber cyI 12 o_41, kx_a g_nodeL cyI 320 o_28, kx_a g_nodeR cyI 320 o_29]) [3, 0, 4, 5, 6, 7, 8, 9, 10, 1, 2] (by decide) rfl
    have hK9 := hK
    have e_fl := w_30.2.1
    rw [w_6.1, w_18.1] at e_fl
    have hN := mj_lay_node (l := p0.toNatClampNeg) (r := p1.toNatClampNeg) (md := y_5.toNatClampNeg) (a := m_nodes.toNatClampNeg) (by omega) (by omega) (by omega) (by omega) (by omega) (by omega) (mj_ag_sub w_6.2.2.2.2 (Nat.le_refl _) (by omega)) w_18.2.2.2.2 tA2 tB w_30.1 w_30.2.2.2.1 w_30.2.2.2.2.1 (by have := w_30.2.2.2.2.2.1; omega) (by omega) e_fl w_30.2.2.1 w_30.2.2.2.2.2.2.1 w_30.2.2.2.2.2.2.2.1 w_30.2.2.2.2.2.2.2.2
    exact W.iret (v := m_nodes) hx hb hr (fun t ht hW => ⟨⟨m_nodes, (o_19, o_31, o_35, o_36, o_37, o_38, o_39, o_40, o_41, o_28, o_29), rfl, ⟨rfl, (by (try dsimp only); omega), (by (try dsimp only); rw [w_30.2.2.2.1]; exact six4_upd w_18.2.2.1 w_30.2.2.2.2.1 (by have := w_30.2.2.2.2.2.1; omega)), hN.1, hN.2⟩, by rw [ht]; exact hP9, va_K.moved hW.alike hK9, hD9⟩, hS.F ht⟩) hS.2.2 dX5_lays_94
  · have i_3 : y_2.toInt = 1 := kc_eq c_3
    refine lv_aload_n hx hb dX5_lays_39 rfl (lv_at hl 1 rfl) ?_
    refine lv_iload hx hb dX5_lays_40 (lv_at hl 0 rfl) ?_
    refine lv_aload_n hx hb dX5_lays_42 rfl (lv_at hl 1 rfl) ?_
    refine va_get (D := (dC, dI)) (ci := 5) (v := .ref g_row) (C := RX5) (T := TX5) (N := 30) hx hb hts hi_5 hown hK hP 0 rfl rfl 0 (by decide) hf_7 (fun _ h9 => h9) rfl dX5_lays_43 ?_
    refine lv_iload_n hx hb dX5_lays_46 rfl (lv_at hl 2 rfl) ?_
    refine va_iald hx hb hK hP 1 0 rfl rfl (ki_in (om_8 b0) (om_67 b1 b2)) dX5_lays_47 ?_
    refine lv_topi (fun y_42 ey_42 => ?_)
    have j_42 : y_42.toInt = (f p0.toNatClampNeg).toInt := congrArg Int32.toInt ey_42
    have hPc := hP.sub (ws' := [kx_5 h0 g_row m_n m_slots m_thrown g_many g_loss g_less g_voteValue g_voteNumber g_allValue g_allNumber m_allMany g_nodeL g_nodeR y_1 g_part m_partMany g_wasMany g_wasLoss g_wasValue g_wasNumber g_path m_pathMany g_heavyValue g_heavyTimes m_heavyMany g_fewest g_which g_met m_mostMet, kx_a g_many cyI 324 fm, kx_a g_loss cyI 324 fl, kx_a g_less cyI 324 fe, kx_a g_voteValue cyI 1944 vv, kx_a g_voteNumber cyI 1944 vn]) [0, 2, 3, 4, 5, 6] rfl
    have hKc := hK
    have hDc := hD.sub (ws' := [kx_5 h0 g_row m_n m_slots m_thrown g_many g_loss g_less g_voteValue g_voteNumber g_allValue g_allNumber m_allMany g_nodeL g_nodeR y_1 g_part m_partMany g_wasMany g_wasLoss g_wasValue g_wasNumber g_path m_pathMany g_heavyValue g_heavyTimes m_heavyMany g_fewest g_which g_met m_mostMet, kx_a g_many cyI 324 fm, kx_a g_loss cyI 324 fl, kx_a g_less cyI 324 fe, kx_a g_voteValue cyI 1944 vv, kx_a g_voteNumber cyI 1944 vn]) [0, 2, 3, 4, 5, 6] (by decide) rfl
    have hFc := va_free (wc := [kx_5 h0 g_row m_n m_slots m_thrown g_many g_loss g_less g_voteValue g_voteNumber g_allValue g_allNumber m_allMany g_nodeL g_nodeR y_1 g_part m_partMany g_wasMany g_wasLoss g_wasValue g_wasNumber g_path m_pathMany g_heavyValue g_heavyTimes m_heavyMany g_fewest g_which g_met m_mostMet, kx_a g_many cyI 324 fm, kx_a g_loss cyI 324 fl, kx_a g_less cyI 324 fe, kx_a g_voteValue cyI 1944 vv, kx_a g_voteNumber cyI 1944 vn]) hD hS hA [0, 2, 3, 4, 5, 6] rfl
    refine va_callv (va_runV (As := [.int m_nodes, .int y_42]) (rest := []) ⟨hx, hb, hml, hown, hts⟩ (c_X5_one_x l dC dI h0 g_row g_many g_loss g_less g_voteValue g_voteNumber g_allValue g_allNumber g_nodeL g_nodeR g_part g_wasMany g_wasLoss g_wasValue g_wasNumber g_path g_heavyValue g_heavyTimes g_fewest g_which g_met m_n m_slots m_thrown m_allMany y_1 m_partMany m_pathMany m_heavyMany m_mostMet cyI fm fl fe vv vn m_nodes y_42 H.size b5 (om_230 b1 b6)) (cwV 2 hts gX5_lays_X5_one rfl rfl rfl (by decide +kernel) ⟨Nat.le_of_ble_eq_true rfl, Nat.le_of_ble_eq_true rfl⟩) ⟨fun a U g mk q => by obtain ⟨q0, q1, qP, qK, qD⟩ := q; exact ⟨q0, q1, qP, va_K.moved (u := U) (U := U.calling g mk a) (Vm.Alike.refl U.vm) qK, qD⟩, va_recv hKc hPc (ci := 5) (q0 := 0) rfl rfl, fun U hU hW => ⟨rfl, by rw [hU], by rw [hU]; exact hPc, va_K.moved hW.alike hKc, hDc.weaken (fun _ _ _ _ => trivial)⟩⟩ rfl rfl hl.1 rfl (lv_room (Nat.le_of_ble_eq_true rfl)) dX5_lays_48 ⟨Nat.le_of_ble_eq_true rfl, Nat.le_of_ble_eq_true rfl⟩) hS (fun q _ h => hFc q h) hFc (fun u t H1 locs ht hvm w_43 hB hz1 hk1 hS => ?_)
    obtain ⟨o_44, o_45, o_46, o_47, o_48⟩ := u
    dsimp only at w_43 hB
    obtain ⟨hP1, hK1, hD1⟩ := hB
    rw [ht] at hP1
    have hK1 := va_K.moved hvm.symm hK1
    obtain ⟨hP, hD⟩ := va_join (wr := [kx_a g_row cyI 160 f, kx_a g_allValue cyI 12 av, kx_a g_allNumber cyI 12 an, kx_a g_nodeL cyI 320 (upd nl m_nodes.toNatClampNeg p0), kx_a g_nodeR cyI 320 (upd nr m_nodes.toNatClampNeg p1)]) (w1 := [kx_5 h0 g_row m_n m_slots m_thrown g_many g_loss g_less g_voteValue g_voteNumber g_allValue g_allNumber m_allMany g_nodeL g_nodeR y_1 g_part m_partMany g_wasMany g_wasLoss g_wasValue g_wasNumber g_path m_pathMany g_heavyValue g_heavyTimes m_heavyMany g_fewest g_which g_met m_mostMet, kx_a g_many cyI 324 o_44, kx_a g_loss cyI 324 o_45, kx_a g_less cyI 324 o_46, kx_a g_voteValue cyI 1944 o_47, kx_a g_voteNumber cyI 1944 o_48]) hP hD [0, 2, 3, 4, 5, 6] [1, 7, 8, 9, 10] rfl rfl (by decide) (by decide) hk1 hFc hP1 hD1
    clear hP1 hD1 hK1 hk1 hz1 hFc hDc hPc hKc
    generalize H1 = H at hP hS ⊢
    have hP : va_P (dC, dI) vwCl [kx_a g_row cyI 160 f, kx_a g_allValue cyI 12 av, kx_a g_allNumber cyI 12 an, kx_a g_nodeL cyI 320 (upd nl m_nodes.toNatClampNeg p0), kx_a g_nodeR cyI 320 (upd nr m_nodes.toNatClampNeg p1), kx_5 h0 g_row m_n m_slots m_thrown g_many g_loss g_less g_voteValue g_voteNumber g_allValue g_allNumber m_allMany g_nodeL g_nodeR y_1 g_part m_partMany g_wasMany g_wasLoss g_wasValue g_wasNumber g_path m_pathMany g_heavyValue g_heavyTimes m_heavyMany g_fewest g_which g_met m_mostMet, kx_a g_many cyI 324 o_44, kx_a g_loss cyI 324 o_45, kx_a g_less cyI 324 o_46, kx_a g_voteValue cyI 1944 o_47, kx_a g_voteNumber cyI 1944 o_48] H := hP
    have hD : va_D A [kx_a g_row cyI 160 f, kx_a g_allValue cyI 12 av, kx_a g_allNumber cyI 12 an, kx_a g_nodeL cyI 320 (upd nl m_nodes.toNatClampNeg p0), kx_a g_nodeR cyI 320 (upd nr m_nodes.toNatClampNeg p1), kx_5 h0 g_row m_n m_slots m_thrown g_many g_loss g_less g_voteValue g_voteNumber g_allValue g_allNumber m_allMany g_nodeL g_nodeR y_1 g_part m_partMany g_wasMany g_wasLoss g_wasValue g_wasNumber g_path m_pathMany g_heavyValue g_heavyTimes m_heavyMany g_fewest g_which g_met m_mostMet, kx_a g_many cyI 324 o_44, kx_a g_loss cyI 324 o_45, kx_a g_less cyI 324 o_46, kx_a g_voteValue cyI 1944 o_47, kx_a g_voteNumber cyI 1944 o_48] := hD
    have w_43 : o_44 = upd fm m_nodes.toNatClampNeg 1 ∧ o_45 = upd fl m_nodes.toNatClampNeg 0 ∧ o_46 = upd fe m_nodes.toNatClampNeg 0 ∧ o_47 = upd vv (6 * m_nodes.toNatClampNeg) y_42 ∧ o_48 = upd vn (6 * m_nodes.toNatClampNeg) 1 := w_43
    refine lv_iload hx hb dX5_lays_51 (lv_at hl 0 rfl) ?_
    have hP9 := hP.sub (ws' := [kx_5 h0 g_row m_n m_slots m_thrown g_many g_loss g_less g_voteValue g_voteNumber g_allValue g_allNumber m_allMany g_nodeL g_nodeR y_1 g_part m_partMany g_wasMany g_wasLoss g_wasValue g_wasNumber g_path m_pathMany g_heavyValue g_heavyTimes m_heavyMany g_fewest g_which g_met m_mostMet, kx_a g_row cyI 160 f, kx_a g_many cyI 324 o_44, kx_a g_loss cyI 324 o_45, kx_a g_less cyI 324 o_46, kx_a g_voteValue cyI 1944 o_47, kx_a g_voteNumber cyI 1944 o_48, kx_a g_allValue cyI 12 av, kx_a g_allNumber cyI 12 an, kx_a g_nodeL cyI 320 (upd nl m_nodes.toNatClampNeg p0), kx_a g_nodeR cyI 320 (upd nr m_nodes.toNatClampNeg p1)]) [5, 0, 6, 7, 8, 9, 10, 1, 2, 3, 4] rfl
    have hD9 := hD.sub (ws' := [kx_5 h0 g_row m_n m_slots m_thrown g_many g_loss g_less g_voteValue g_voteNumber g_allValue g_allNumber m_allMany g_nodeL g_nodeR y_1 g_part m_partMany g_wasMany g_wasLoss g_wasValue g_wasNumber g_path m_pathMany g_heavyValue g_heavyTimes m_heavyMany g_fewest g_which g_met m_mostMet, kx_a g_row cyI 160 f, kx_a g_many cyI 324 o_44, kx_a g_loss cyI 324 o_45, kx_a g_less cyI 324 o_46, kx_a g_voteValue cyI 1944 o_47, kx_a g_voteNumber cyI 1944 o_48, kx_a g_allValue cyI 12 av, kx_a g_allNumber cyI 12 an, kx_a g_nodeL cyI 320 (upd nl m_nodes.toNatClampNeg p0), kx_a g_nodeR cyI 320 (upd nr m_nodes.toNatClampNeg p1)]) [5, 0, 6, 7, 8, 9, 10, 1, 2, 3, 4] (by decide) rfl
    have hK9 := hK
    have n_p0 := ki_nat p0 rfl (om_8 b0)
    have n_p1 := ki_nat p1 rfl (om_18 b0 b1)
    have n_p2 := ki_nat p2 rfl (om_44 b3)
    have n_nd := ki_nat m_nodes rfl (om_8 b5)
    have e_vv := w_43.2.2.2.1
    rw [ey_42] at e_vv
    have hN := mj_lay_leaf (K := p2.toNatClampNeg) (f := f) (nl := nl) (nr := nr) (l := p0.toNatClampNeg) (r := p1.toNatClampNeg) (l32 := p0) (r32 := p1) 6 (by omega) (by omega) (by omega) (by omega) w_43.1 w_43.2.1 w_43.2.2.1 e_vv w_43.2.2.2.2
    exact W.iret (v := m_nodes) hx hb hr (fun t ht hW => ⟨⟨m_nodes, (y_1, m_allMany, o_44, o_45, o_46, o_47, o_48, av, an, (upd nl m_nodes.toNatClampNeg p0), (upd nr m_nodes.toNatClampNeg p1)), rfl, ⟨rfl, (by (try dsimp only); omega), (by (try dsimp only); rw [w_43.1]; exact six4_upd s4 (by decide) (by decide)), hN.1, hN.2⟩, by rw [ht]; exact hP9, va_K.moved hW.alike hK9, hD9⟩, hS.F ht⟩) hS.2.2 dX5_lays_53

set_option maxHeartbeats 4000000 in
set_option maxRecDepth 100000 in
theorem c_X5_lays_7 (l : Launch) (dC : Nat → ClassId) (dI : Nat → Nat → Nat) (h0 : Nat) (g_row : Nat) (g_many : Nat) (g_loss : Nat) (g_less : Nat) (g_voteValue : Nat) (g_voteNumber : Nat) (g_allValue : Nat) (g_allNumber : Nat) (g_nodeL : Nat) (g_nodeR : Nat) (g_part : Nat) (g_wasMany : Nat) (g_wasLoss : Nat) (g_wasValue : Nat) (g_wasNumber : Nat) (g_path : Nat) (g_heavyValue : Nat) (g_heavyTimes : Nat) (g_fewest : Nat) (g_which : Nat) (g_met : Nat) (m_n : Int32) (m_slots : Int32) (m_thrown : Int32) (m_allMany : Int32) (m_nodes : Int32) (m_partMany : Int32) (m_pathMany : Int32) (m_heavyMany : Int32) (m_mostMet : Int32) (cyI : ClassId) (fm : Nat → Int32) (fl : Nat → Int32) (fe : Nat → Int32) (vv : Nat → Int32) (vn : Nat → Int32) (f : Nat → Int32) (av : Nat → Int32) (an : Nat → Int32) (nl : Nat → Int32) (nr : Nat → Int32) (p0 : Int32) (p1 : Int32) (p2 : Int32) (sz : Nat) (b0 : 0 ≤ p0.toInt) (b1 : p0.toInt < p1.toInt) (b2 : p1.toInt ≤ 160) (b3 : 1 ≤ p2.toInt) (b4 : p2.toInt ≤ 6) (b5 : 0 ≤ m_nodes.toInt) (b6 : m_nodes.toInt + 2 * (p1.toInt - p0.toInt) - 1 ≤ 319) (s4 : six4 fm) (b7 : p1.toInt - p0.toInt ≤ 128) : Met l yX5_lays wsX5_lays ({ frames := 9, cells := 0, slots := 0, locals := 405 }) (va_Pc [.ref h0, .int p0, .int p1, .int p2] (fun U => U.heap.size = sz ∧ va_P (dC, dI) vwCl [kx_5 h0 g_row m_n m_slots m_thrown g_many g_loss g_less g_voteValue g_voteNumber g_allValue g_allNumber m_allMany g_nodeL g_nodeR m_nodes g_part m_partMany g_wasMany g_wasLoss g_wasValue g_wasNumber g_path m_pathMany g_heavyValue g_heavyTimes m_heavyMany g_fewest g_which g_met m_mostMet, kx_a g_row cyI 160 f, kx_a g_many cyI 324 fm, kx_a g_loss cyI 324 fl, kx_a g_less cyI 324 fe, kx_a g_voteValue cyI 1944 vv, kx_a g_voteNumber cyI 1944 vn, kx_a g_allValue cyI 12 av, kx_a g_allNumber cyI 12 an, kx_a g_nodeL cyI 320 nl, kx_a g_nodeR cyI 320 nr] U.heap ∧ va_K (dC, dI) vwCl [(cyI, .int)] U ∧ va_D (fun _ => True) [kx_5 h0 g_row m_n m_slots m_thrown g_many g_loss g_less g_voteValue g_voteNumber g_allValue g_allNumber m_allMany g_nodeL g_nodeR m_nodes g_part m_partMany g_wasMany g_wasLoss g_wasValue g_wasNumber g_path m_pathMany g_heavyValue g_heavyTimes m_heavyMany g_fewest g_which g_met m_mostMet, kx_a g_row cyI 160 f, kx_a g_many cyI 324 fm, kx_a g_loss cyI 324 fl, kx_a g_less cyI 324 fe, kx_a g_voteValue cyI 1944 vv, kx_a g_voteNumber cyI 1944 vn, kx_a g_allValue cyI 12 av, kx_a g_allNumber cyI 12 an, kx_a g_nodeL cyI 320 nl, kx_a g_nodeR cyI 320 nr])) (va_Qi (fun (r : Int32) (u : Int32 × Int32 × (Nat → Int32) × (Nat → Int32) × (Nat → Int32) × (Nat → Int32) × (Nat → Int32) × (Nat → Int32) × (Nat → Int32) × (Nat → Int32) × (Nat → Int32)) => r = m_nodes ∧ u.1.toInt = m_nodes.toInt + 2 * (p1.toInt - p0.toInt) - 1 ∧ six4 u.2.2.1 ∧ mj_S p2.toNatClampNeg f u.2.2.2.2.2.2.2.2.2.1 u.2.2.2.2.2.2.2.2.2.2 u.2.2.1 u.2.2.2.1 u.2.2.2.2.1 u.2.2.2.2.2.1 u.2.2.2.2.2.2.1 7 m_nodes.toNatClampNeg p0.toNatClampNeg p1.toNatClampNeg ∧ mj_ag 0 m_nodes.toNatClampNeg nl nr fm fl fe vv vn u.2.2.2.2.2.2.2.2.2.1 u.2.2.2.2.2.2.2.2.2.2 u.2.2.1 u.2.2.2.1 u.2.2.2.2.1 u.2.2.2.2.2.1 u.2.2.2.2.2.2.1) (fun (u : Int32 × Int32 × (Nat → Int32) × (Nat → Int32) × (Nat → Int32) × (Nat → Int32) × (Nat → Int32) × (Nat → Int32) × (Nat → Int32) × (Nat → Int32) × (Nat → Int32)) (t : State) => va_P (dC, dI) vwCl [kx_5 h0 g_row m_n m_slots m_thrown g_many g_loss g_less g_voteValue g_voteNumber g_allValue g_allNumber u.2.1 g_nodeL g_nodeR u.1 g_part m_partMany g_wasMany g_wasLoss g_wasValue g_wasNumber g_path m_pathMany g_heavyValue g_heavyTimes m_heavyMany g_fewest g_which g_met m_mostMet, kx_a g_row cyI 160 f, kx_a g_many cyI 324 u.2.2.1, kx_a g_loss cyI 324 u.2.2.2.1, kx_a g_less cyI 324 u.2.2.2.2.1, kx_a g_voteValue cyI 1944 u.2.2.2.2.2.1, kx_a g_voteNumber cyI 1944 u.2.2.2.2.2.2.1, kx_a g_allValue cyI 12 u.2.2.2.2.2.2.2.1, kx_a g_allNumber cyI 12 u.2.2.2.2.2.2.2.2.1, kx_a g_nodeL cyI 320 u.2.2.2.2.2.2.2.2.2.1, kx_a g_nodeR cyI 320 u.2.2.2.2.2.2.2.2.2.2] t.heap ∧ va_K (dC, dI) vwCl [(cyI, .int)] t ∧ va_D (va_A [kx_5 h0 g_row m_n m_slots m_thrown g_many g_loss g_less g_voteValue g_voteNumber g_allValue g_allNumber m_allMany g_nodeL g_nodeR m_nodes g_part m_partMany g_wasMany g_wasLoss g_wasValue g_wasNumber g_path m_pathMany g_heavyValue g_heavyTimes m_heavyMany g_fewest g_which g_met m_mostMet, kx_a g_row cyI 160 f, kx_a g_many cyI 324 fm, kx_a g_loss cyI 324 fl, kx_a g_less cyI 324 fe, kx_a g_voteValue cyI 1944 vv, kx_a g_voteNumber cyI 1944 vn, kx_a g_allValue cyI 12 av, kx_a g_allNumber cyI 12 an, kx_a g_nodeL cyI 320 nl, kx_a g_nodeR cyI 320 nr] sz) [kx_5 h0 g_row m_n m_slots m_thrown g_many g_loss g_less g_voteValue g_voteNumber g_allValue g_allNumber u.2.1 g_nodeL g_nodeR u.1 g_part m_partMany g_wasMany g_wasLoss g_wasValue g_wasNumber g_path m_pathMany g_heavyValue g_heavyTimes m_heavyMany g_fewest g_which g_met m_mostMet, kx_a g_row cyI 160 f, kx_a g_many cyI 324 u.2.2.1, kx_a g_loss cyI 324 u.2.2.2.1, kx_a g_less cyI 324 u.2.2.2.2.1, kx_a g_voteValue cyI 1944 u.2.2.2.2.2.1, kx_a g_voteNumber cyI 1944 u.2.2.2.2.2.2.1, kx_a g_allValue cyI 12 u.2.2.2.2.2.2.2.1, kx_a g_allNumber cyI 12 u.2.2.2.2.2.2.2.2.1, kx_a g_nodeL cyI 320 u.2.2.2.2.2.2.2.2.2.1, kx_a g_nodeR cyI 320 u.2.2.2.2.2.2.2.2.2.2]) (va_A [kx_5 h0 g_row m_n m_slots m_thrown g_many g_loss g_less g_voteValue g_voteNumber g_allValue g_allNumber m_allMany g_nodeL g_nodeR m_nodes g_part m_partMany g_wasMany g_wasLoss g_wasValue g_wasNumber g_path m_pathMany g_heavyValue g_heavyTimes m_heavyMany g_fewest g_which g_met m_mostMet, kx_a g_row cyI 160 f, kx_a g_many cyI 324 fm, kx_a g_loss cyI 324 fl, kx_a g_less cyI 324 fe, kx_a g_voteValue cyI 1944 vv, kx_a g_voteNumber cyI 1944 vn, kx_a g_allValue cyI 12 av, kx_a g_allNumber cyI 12 an, kx_a g_nodeL cyI 320 nl, kx_a g_nodeR cyI 320 nr] sz)) 0 0 (va_A [kx_5 h0 g_row m_n m_slots m_thrown g_many g_loss g_less g_voteValue g_voteNumber g_allValue g_allNumber m_allMany g_nodeL g_nodeR m_nodes g_part m_partMany g_wasMany g_wasLoss g_wasValue g_wasNumber g_path m_pathMany g_heavyValue g_heavyTimes m_heavyMany g_fewest g_which g_met m_mostMet, kx_a g_row cyI 160 f, kx_a g_many cyI 324 fm, kx_a g_loss cyI 324 fl, kx_a g_less cyI 324 fe, kx_a g_voteValue cyI 1944 vv, kx_a g_voteNumber cyI 1944 vn, kx_a g_allValue cyI 12 av, kx_a g_allNumber cyI 12 an, kx_a g_nodeL cyI 320 nl, kx_a g_nodeR cyI 320 nr] sz) := by
  refine Met.ofW (cc := cX5_lays) (maxL := 8) (ret := (some .int)) (by decide) rfl ?_
  intro p e s m args below meth c s₁ B hml hv
  obtain ⟨rfl, hsz, hP, hK, hD0⟩ := hv
  have hx := B.exec
  have hb := B.bytes
  have hr := B.returns
  have hts := atoms_spec (ws := wsX5_lays) B.pre
  have hown : s.vm.findClass RX5 = some m.cls := findClass_of_methodNamed B.named
  have hlocks := B.notSynchronized
  subst hsz
  have hD := hD0.self (sz := s.heap.size)
  generalize hAe : va_A [kx_5 h0 g_row m_n m_slots m_thrown g_many g_loss g_less g_voteValue g_voteNumber g_allValue g_allNumber m_allMany g_nodeL g_nodeR m_nodes g_part m_partMany g_wasMany g_wasLoss g_wasValue g_wasNumber g_path m_pathMany g_heavyValue g_heavyTimes m_heavyMany g_fewest g_which g_met m_mostMet, kx_a g_row cyI 160 f, kx_a g_many cyI 324 fm, kx_a g_loss cyI 324 fl, kx_a g_less cyI 324 fe, kx_a g_voteValue cyI 1944 vv, kx_a g_voteNumber cyI 1944 vn, kx_a g_allValue cyI 12 av, kx_a g_allNumber cyI 12 an, kx_a g_nodeL cyI 320 nl, kx_a g_nodeR cyI 320 nr] s.heap.size = A at hD ⊢
  have hA : ∀ q : Nat, s.heap.size ≤ q → A q := fun q h => by rw [← hAe]; exact Or.inr h
  have hS : va_S A s.heap s.heap [] := va_S.rf
  have hP : va_P (dC, dI) vwCl [kx_5 h0 g_row m_n m_slots m_thrown g_many g_loss g_less g_voteValue g_voteNumber g_allValue g_allNumber m_allMany g_nodeL g_nodeR m_nodes g_part m_partMany g_wasMany g_wasLoss g_wasValue g_wasNumber g_path m_pathMany g_heavyValue g_heavyTimes m_heavyMany g_fewest g_which g_met m_mostMet, kx_a g_row cyI 160 f, kx_a g_many cyI 324 fm, kx_a g_loss cyI 324 fl, kx_a g_less cyI 324 fe, kx_a g_voteValue cyI 1944 vv, kx_a g_voteNumber cyI 1944 vn, kx_a g_allValue cyI 12 av, kx_a g_allNumber cyI 12 an, kx_a g_nodeL cyI 320 nl, kx_a g_nodeR cyI 320 nr] s.heap := hP
  have hl := lv_entry ([.ref h0, .int p0, .int p1, .int p2]) (n := 8) (Nat.le_of_ble_eq_true rfl)
  rw [lg_entry_eq]
  generalize (lg_sl ([.ref h0, .int p0, .int p1, .int p2]) ++ List.replicate (8 - (lg_sl ([.ref h0, .int p0, .int p1, .int p2])).length) Slot.unset).toArray = ls at hl ⊢
  have hl : lv_has ls 8 [(0, .ref h0), (1, .int p0), (2, .int p1), (3, .int p2)] := hl
  have hf_101 := hts (.fieldLink RX5 101 "MajorityIndexModel" "nodes" "I") (List.mem_of_getElem? (i := 1) rfl)
  have hi_5 : ∀ w ∈ u_ws RX5 TX5 30, w ∈ wsX5_lays := fun w h => List.mem_cons_of_mem _ (List.mem_append_right _ h)
  have hf_38 := hts (.fieldLink RX5 38 "MajorityIndexModel" "nodeL" "[I") (List.mem_of_getElem? (i := 2) rfl)
  have hf_41 := hts (.fieldLink RX5 41 "MajorityIndexModel" "nodeR" "[I") (List.mem_of_getElem? (i := 3) rfl)
  have hf_7 := hts (.fieldLink RX5 7 "MajorityIndexModel" "row" "[I") (List.mem_of_getElem? (i := 4) rfl)
  refine lv_aload_n hx hb dX5_lays_0 rfl (lv_at hl 0 rfl) ?_
  refine va_get (D := (dC, dI)) (ci := 5) (v := .int m_nodes) (C := RX5) (T := TX5) (N := 30) hx hb hts hi_5 hown hK hP 0 rfl rfl 14 (by decide) hf_101 (fun _ h9 => h9) rfl dX5_lays_1 ?_
  refine lv_istore (lv' := [(4, .int m_nodes), (0, .ref h0), (1, .int p0), (2, .int p1), (3, .int p2)]) hx hb dX5_lays_4 hl (by decide) rfl (fun ls hl => ?_)
  refine lv_aload_n hx hb dX5_lays_6 rfl (lv_at hl 1 rfl) ?_
  refine lv_dup hx hb dX5_lays_7 rfl ?_
  refine va_get (D := (dC, dI)) (ci := 5) (v := .int m_nodes) (C := RX5) (T := TX5) (N := 30) hx hb hts hi_5 hown hK hP 0 rfl rfl 14 (by decide) hf_101 (fun _ h9 => h9) rfl dX5_lays_8 ?_
  refine lv_iconst (v := 1) hx hb dX5_lays_11 (by decide) ?_
  refine lv_iadd hx hb dX5_lays_12 ?_
  refine lv_topi (fun y_1 ey_1 => ?_)
  have i_1 : y_1.toInt = m_nodes.toInt + 1 := ki_add ey_1 rfl rfl (om_10 b5) (om_226 b1 b6)
  refine va_put (D := (dC, dI)) (ci := 5) (v := .int y_1) (ty := .int) (C := RX5) (T := TX5) (N := 30) hx hb hts hi_5 tyX5 tyX5_ok nmX5 hown hK hP hD hS 0 rfl rfl 14 (by decide) hf_101 (fun _ h9 => h9) rfl (by decide +kernel) rfl rfl (Nat.le_of_ble_eq_true rfl) dX5_lays_13 (fun H locs hP hD hS => ?_)
  have hP : va_P (dC, dI) vwCl [kx_5 h0 g_row m_n m_slots m_thrown g_many g_loss g_less g_voteValue g_voteNumber g_allValue g_allNumber m_allMany g_nodeL g_nodeR y_1 g_part m_partMany g_wasMany g_wasLoss g_wasValue g_wasNumber g_path m_pathMany g_heavyValue g_heavyTimes m_heavyMany g_fewest g_which g_met m_mostMet, kx_a g_row cyI 160 f, kx_a g_many cyI 324 fm, kx_a g_loss cyI 324 fl, kx_a g_less cyI 324 fe, kx_a g_voteValue cyI 1944 vv, kx_a g_voteNumber cyI 1944 vn, kx_a g_allValue cyI 12 av, kx_a g_allNumber cyI 12 an, kx_a g_nodeL cyI 320 nl, kx_a g_nodeR cyI 320 nr] H := hP
  have hD : va_D A [kx_5 h0 g_row m_n m_slots m_thrown g_many g_loss g_less g_voteValue g_voteNumber g_allValue g_allNumber m_allMany g_nodeL g_nodeR y_1 g_part m_partMany g_wasMany g_wasLoss g_wasValue g_wasNumber g_path m_pathMany g_heavyValue g_heavyTimes m_heavyMany g_fewest g_which g_met m_mostMet, kx_a g_row cyI 160 f, kx_a g_many cyI 324 fm, kx_a g_loss cyI 324 fl, kx_a g_less cyI 324 fe, kx_a g_voteValue cyI 1944 vv, kx_a g_voteNumber cyI 1944 vn, kx_a g_allValue cyI 12 av, kx_a g_allNumber cyI 12 an, kx_a g_nodeL cyI 320 nl, kx_a g_nodeR cyI 320 nr] := hD
  refine lv_aload_n hx hb dX5_lays_16 rfl (lv_at hl 1 rfl) ?_
  refine va_get (D := (dC, dI)) (ci := 5) (v := .ref g_nodeL) (C := RX5) (T := TX5) (N := 30) hx hb hts hi_5 hown hK hP 0 rfl rfl 12 (by decide) hf_38 (fun _ h9 => h9) rfl dX5_lays_17 ?_
  refine lv_iload hx hb dX5_lays_20 (lv_at hl 0 rfl) ?_
  refine lv_iload_n hx hb dX5_lays_22 rfl (lv_at hl 2 rfl) ?_
  refine va_iast hx hb hK hP hD hS 9 0 rfl rfl (ki_in (om_8 b5) (om_227 b1 b6)) dX5_lays_23 (fun H locs hP hD hS => ?_)
  have hP : va_P (dC, dI) vwCl [kx_5 h0 g_row m_n m_slots m_thrown g_many g_loss g_less g_voteValue g_voteNumber g_allValue g_allNumber m_allMany g_nodeL g_nodeR y_1 g_part m_partMany g_wasMany g_wasLoss g_wasValue g_wasNumber g_path m_pathMany g_heavyValue g_heavyTimes m_heavyMany g_fewest g_which g_met m_mostMet, kx_a g_row cyI 160 f, kx_a g_many cyI 324 fm, kx_a g_loss cyI 324 fl, kx_a g_less cyI 324 fe, kx_a g_voteValue cyI 1944 vv, kx_a g_voteNumber cyI 1944 vn, kx_a g_allValue cyI 12 av, kx_a g_allNumber cyI 12 an, kx_a g_nodeL cyI 320 (upd nl m_nodes.toNatClampNeg p0), kx_a g_nodeR cyI 320 nr] H := hP
  have hD : va_D A [kx_5 h0 g_row m_n m_slots m_thrown g_many g_loss g_less g_voteValue g_voteNumber g_allValue g_allNumber m_allMany g_nodeL g_nodeR y_1 g_part m_partMany g_wasMany g_wasLoss g_wasValue g_wasNumber g_path m_pathMany g_heavyValue g_heavyTimes m_heavyMany g_fewest g_which g_met m_mostMet, kx_a g_row cyI 160 f, kx_a g_many cyI 324 fm, kx_a g_loss cyI 324 fl, kx_a g_less cyI 324 fe, kx_a g_voteValue cyI 1944 vv, kx_a g_voteNumber cyI 1944 vn, kx_a g_allValue cyI 12 av, kx_a g_allNumber cyI 12 an, kx_a g_nodeL cyI 320 (upd nl m_nodes.toNatClampNeg p0), kx_a g_nodeR cyI 320 nr] := hD
  refine lv_aload_n hx hb dX5_lays_24 rfl (lv_at hl 1 rfl) ?_
  refine va_get (D := (dC, dI)) (ci := 5) (v := .ref g_nodeR) (C := RX5) (T := TX5) (N := 30) hx hb hts hi_5 hown hK hP 0 rfl rfl 13 (by decide) hf_41 (fun _ h9 => h9) rfl dX5_lays_25 ?_
  refine lv_iload hx hb dX5_lays_28 (lv_at hl 0 rfl) ?_
  refine lv_iload_n hx hb dX5_lays_30 rfl (lv_at hl 3 rfl) ?_
  refine va_iast hx hb hK hP hD hS 10 0 rfl rfl (ki_in (om_8 b5) (om_227 b1 b6)) dX5_lays_31 (fun H locs hP hD hS => ?_)
  have hP : va_P (dC, dI) vwCl [kx_5 h0 g_row m_n m_slots m_thrown g_many g_loss g_less g_voteValue g_voteNumber g_allValue g_allNumber m_allMany g_nodeL g_nodeR y_1 g_part m_partMany g_wasMany g_wasLoss g_wasValue g_wasNumber g_path m_pathMany g_heavyValue g_heavyTimes m_heavyMany g_fewest g_which g_met m_mostMet, kx_a g_row cyI 160 f, kx_a g_many cyI 324 fm, kx_a g_loss cyI 324 fl, kx_a g_less cyI 324 fe, kx_a g_voteValue cyI 1944 vv, kx_a g_voteNumber cyI 1944 vn, kx_a g_allValue cyI 12 av, kx_a g_allNumber cyI 12 an, kx_a g_nodeL cyI 320 (upd nl m_nodes.toNatClampNeg p0), kx_a g_nodeR cyI 320 (upd nr m_nodes.toNatClampNeg p1)] H := hP
  have hD : va_D A [kx_5 h0 g_row m_n m_slots m_thrown g_many g_loss g_less g_voteValue g_voteNumber g_allValue g_allNumber m_allMany g_nodeL g_nodeR y_1 g_part m_partMany g_wasMany g_wasLoss g_wasValue g_wasNumber g_path m_pathMany g_heavyValue g_heavyTimes m_heavyMany g_fewest g_which g_met m_mostMet, kx_a g_row cyI 160 f, kx_a g_many cyI 324 fm, kx_a g_loss cyI 324 fl, kx_a g_less cyI 324 fe, kx_a g_voteValue cyI 1944 vv, kx_a g_voteNumber cyI 1944 vn, kx_a g_allValue cyI 12 av, kx_a g_allNumber cyI 12 an, kx_a g_nodeL cyI 320 (upd nl m_nodes.toNatClampNeg p0), kx_a g_nodeR cyI 320 (upd nr m_nodes.toNatClampNeg p1)] := hD
  refine lv_iload_n hx hb dX5_lays_32 rfl (lv_at hl 3 rfl) ?_
  refine lv_iload_n hx hb dX5_lays_33 rfl (lv_at hl 2 rfl) ?_
  refine lv_isub hx hb dX5_lays_34 ?_
  refine lv_topi (fun y_2 ey_2 => ?_)
  have i_2 : y_2.toInt = p1.toInt - p0.toInt := ki_sub ey_2 rfl rfl (om_228 b1) (om_240 b7)
  refine lv_iconst (v := 1) hx hb dX5_lays_35 (by decide) ?_
  refine lv_icmp_ne (tgt := 54) hx hb dX5_lays_36 (by decide) (fun c_3 => ?_) (fun c_3 => ?_)
  · have i_3 : ¬ y_2.toInt = 1 := kc_ne c_3
    refine lv_iload_n hx hb dX5_lays_54 rfl (lv_at hl 2 rfl) ?_
    refine lv_iload_n hx hb dX5_lays_55 rfl (lv_at hl 3 rfl) ?_
    refine lv_iadd hx hb dX5_lays_56 ?_
    refine lv_topi (fun y_4 ey_4 => ?_)
    have i_4 : y_4.toInt = p0.toInt + p1.toInt := ki_add ey_4 rfl rfl (om_232 b0 b1) (om_233 b1 b2)
    refine lv_iconst (v := 2) hx hb dX5_lays_57 (by decide) ?_
    refine lv_idiv hx hb dX5_lays_58 (by decide) ?_
    refine lv_topi (fun y_5 ey_5 => ?_)
    have i_5 : y_5.toInt = y_4.toInt / 2 := ki_div2 ey_5 rfl (by omega)
    refine lv_istore (lv' := [(5, .int y_5), (4, .int m_nodes), (0, .ref h0), (1, .int p0), (2, .int p1), (3, .int p2)]) hx hb dX5_lays_59 hl (by decide) rfl (fun ls hl => ?_)
    refine lv_aload_n hx hb dX5_lays_61 rfl (lv_at hl 2 rfl) ?_
    refine lv_iload_n hx hb dX5_lays_62 rfl (lv_at hl 3 rfl) ?_
    refine lv_iload hx hb dX5_lays_63 (lv_at hl 0 rfl) ?_
    refine lv_iload_n hx hb dX5_lays_65 rfl (lv_at hl 5 rfl) ?_
    have hPc := hP
    have hKc := hK
    have hDc := hD
    have hFc := kx_free hD hS hA
    refine va_calli (va_runV (As := [.int p0, .int y_5, .int p2]) (rest := []) ⟨hx, hb, hml, hown, hts⟩ (c_X5_lays_6 l dC dI h0 g_row g_many g_loss g_less g_voteValue g_voteNumber g_allValue g_allNumber g_nodeL g_nodeR g_part g_wasMany g_wasLoss g_wasValue g_wasNumber g_path g_heavyValue g_heavyTimes g_fewest g_which g_met m_n m_slots m_thrown m_allMany y_1 m_partMany m_pathMany m_heavyMany m_mostMet cyI fm fl fe vv vn f av an (upd nl m_nodes.toNatClampNeg p0) (upd nr m_nodes.toNatClampNeg p1) p0 y_5 p2 H.size b0 (by omega) (by omega) b3 b4 (om_31 b5 i_1) (by omega) s4 (by omega)) (cwV 3 hts gX5_lays_X5_lays rfl rfl rfl (by decide +kernel) ⟨Nat.le_of_ble_eq_true rfl, Nat.le_of_ble_eq_true rfl⟩) ⟨fun a U g mk q => by obtain ⟨q0, q1, qP, qK, qD⟩ := q; exact ⟨q0, q1, qP, va_K.moved (u := U) (U := U.calling g mk a) (Vm.Alike.refl U.vm) qK, qD⟩, va_recv hKc hPc (ci := 5) (q0 := 0) rfl rfl, fun U hU hW => ⟨rfl, by rw [hU], by rw [hU]; exact hPc, va_K.moved hW.alike hKc, hDc.weaken (fun _ _ _ _ => trivial)⟩⟩ rfl rfl hl.1 rfl (lv_room (Nat.le_of_ble_eq_true rfl)) dX5_lays_66 ⟨Nat.le_of_ble_eq_true rfl, Nat.le_of_ble_eq_true rfl⟩) hS (fun q _ h => hFc q h) hFc (fun r_6 u t H1 locs ht hvm w_6 hB hz1 hk1 hS => ?_)
    obtain ⟨o_7, o_8, o_9, o_10, o_11, o_12, o_13, o_14, o_15, o_16, o_17⟩ := u
    dsimp only at w_6 hB
    obtain ⟨hP1, hK1, hD1⟩ := hB
    rw [ht] at hP1
    have hK1 := va_K.moved hvm.symm hK1
    have hD := hD1.weaken (fun _ q _ h => hFc q.1 h)
    have hP := hP1
    clear hP1 hD1 hK1 hk1 hz1 hFc hDc hPc hKc
    generalize H1 = H at hP hS ⊢
    have w_6 : r_6 = y_1 ∧ o_7.toInt = y_1.toInt + 2 * (y_5.toInt - p0.toInt) - 1 ∧ six4 o_9 ∧ mj_S p2.toNatClampNeg f o_16 o_17 o_9 o_10 o_11 o_12 o_13 6 y_1.toNatClampNeg p0.toNatClampNeg y_5.toNatClampNeg ∧ mj_ag 0 y_1.toNatClampNeg (upd nl m_nodes.toNatClampNeg p0) (upd nr m_nodes.toNatClampNeg p1) fm fl fe vv vn o_16 o_17 o_9 o_10 o_11 o_12 o_13 := w_6
    refine lv_istore (lv' := [(6, .int r_6), (5, .int y_5), (4, .int m_nodes), (0, .ref h0), (1, .int p0), (2, .int p1), (3, .int p2)]) hx hb dX5_lays_69 hl (by decide) rfl (fun ls hl => ?_)
    refine lv_aload_n hx hb dX5_lays_71 rfl (lv_at hl 3 rfl) ?_
    refine lv_iload hx hb dX5_lays_72 (lv_at hl 1 rfl) ?_
    refine lv_iload_n hx hb dX5_lays_74 rfl (lv_at hl 5 rfl) ?_
    refine lv_iload_n hx hb dX5_lays_75 rfl (lv_at hl 6 rfl) ?_
    have hPc := hP
    have hKc := hK
    have hDc := hD
    have hFc := kx_free hD hS hA
    refine va_calli (va_runV (As := [.int y_5, .int p1, .int p2]) (rest := []) ⟨hx, hb, hml, hown, hts⟩ (c_X5_lays_6 l dC dI h0 g_row g_many g_loss g_less g_voteValue g_voteNumber g_allValue g_allNumber g_nodeL g_nodeR g_part g_wasMany g_wasLoss g_wasValue g_wasNumber g_path g_heavyValue g_heavyTimes g_fewest g_which g_met m_n m_slots m_thrown o_8 o_7 m_partMany m_pathMany m_heavyMany m_mostMet cyI o_9 o_10 o_11 o_12 o_13 f o_14 o_15 o_16 o_17 y_5 p1 p2 H.size (by omega) (by omega) b2 b3 b4 (by omega) (om_234 b6 i_1 w_6.2.1) w_6.2.2.1 (by omega)) (cwV 3 hts gX5_lays_X5_lays rfl rfl rfl (by decide +kernel) ⟨Nat.le_of_ble_eq_true rfl, Nat.le_of_ble_eq_true rfl⟩) ⟨fun a U g mk q => by obtain ⟨q0, q1, qP, qK, qD⟩ := q; exact ⟨q0, q1, qP, va_K.moved (u := U) (U := U.calling g mk a) (Vm.Alike.refl U.vm) qK, qD⟩, va_recv hKc hPc (ci := 5) (q0 := 0) rfl rfl, fun U hU hW => ⟨rfl, by rw [hU], by rw [hU]; exact hPc, va_K.moved hW.alike hKc, hDc.weaken (fun _ _ _ _ => trivial)⟩⟩ rfl rfl hl.1 rfl (lv_room (Nat.le_of_ble_eq_true rfl)) dX5_lays_76 ⟨Nat.le_of_ble_eq_true rfl, Nat.le_of_ble_eq_true rfl⟩) hS (fun q _ h => hFc q h) hFc (fun r_18 u t H1 locs ht hvm w_18 hB hz1 hk1 hS => ?_)
    obtain ⟨o_19, o_20, o_21, o_22, o_23, o_24, o_25, o_26, o_27, o_28, o_29⟩ := u
    dsimp only at w_18 hB
    obtain ⟨hP1, hK1, hD1⟩ := hB
    rw [ht] at hP1
    have hK1 := va_K.moved hvm.symm hK1
    have hD := hD1.weaken (fun _ q _ h => hFc q.1 h)
    have hP := hP1
    clear hP1 hD1 hK1 hk1 hz1 hFc hDc hPc hKc
    generalize H1 = H at hP hS ⊢
    have w_18 : r_18 = o_7 ∧ o_19.toInt = o_7.toInt + 2 * (p1.toInt - y_5.toInt) - 1 ∧ six4 o_21 ∧ mj_S p2.toNatClampNeg f o_28 o_29 o_21 o_22 o_23 o_24 o_25 6 o_7.toNatClampNeg y_5.toNatClampNeg p1.toNatClampNeg ∧ mj_ag 0 o_7.toNatClampNeg o_16 o_17 o_9 o_10 o_11 o_12 o_13 o_28 o_29 o_21 o_22 o_23 o_24 o_25 := w_18
    refine lv_istore (lv' := [(7, .int r_18), (6, .int r_6), (5, .int y_5), (4, .int m_nodes), (0, .ref h0), (1, .int p0), (2, .int p1), (3, .int p2)]) hx hb dX5_lays_79 hl (by decide) rfl (fun ls hl => ?_)
    have n_p0 := ki_nat p0 rfl (om_8 b0)
    have n_p1 := ki_nat p1 rfl (om_18 b0 b1)
    have n_p2 := ki_nat p2 rfl (om_44 b3)
    have n_nd := ki_nat m_nodes rfl (om_8 b5)
    have n_y := ki_nat y_1 rfl (om_31 b5 i_1)
    have n_md := ki_nat y_5 rfl (by omega)
    have n_oL := ki_nat o_7 rfl (by omega)
    have i_rL : r_6.toInt = y_1.toInt := congrArg Int32.toInt w_6.1
    have i_rR : r_18.toInt = o_7.toInt := congrArg Int32.toInt w_18.1
    obtain ⟨mua, La, ca, tA⟩ := w_6.2.2.2.1
    obtain ⟨mub, Lb, cb, tB⟩ := w_18.2.2.2.1
    have tA2 := mj_T_ag _ _ o_7.toNatClampNeg _ _ _ _ _ tA (by omega) (mj_ag_sub w_18.2.2.2.2 (by omega) (Nat.le_refl _))
    have nA := mj_T_nd tA2
    have nB := mj_T_nd tB
    refine lv_aload_n hx hb dX5_lays_81 rfl (lv_at hl 4 rfl) ?_
    refine lv_iload hx hb dX5_lays_82 (lv_at hl 1 rfl) ?_
    refine lv_iload hx hb dX5_lays_84 (lv_at hl 0 rfl) ?_
    refine lv_iload hx hb dX5_lays_86 (lv_at hl 3 rfl) ?_
    refine lv_iload_n hx hb dX5_lays_88 rfl (lv_at hl 7 rfl) ?_
    have hPc := hP.sub (ws' := [kx_5 h0 g_row m_n m_slots m_thrown g_many g_loss g_less g_voteValue g_voteNumber g_allValue g_allNumber o_20 g_nodeL g_nodeR o_19 g_part m_partMany g_wasMany g_wasLoss g_wasValue g_wasNumber g_path m_pathMany g_heavyValue g_heavyTimes m_heavyMany g_fewest g_which g_met m_mostMet, kx_a g_many cyI 324 o_21, kx_a g_loss cyI 324 o_22, kx_a g_less cyI 324 o_23, kx_a g_voteValue cyI 1944 o_24, kx_a g_voteNumber cyI 1944 o_25, kx_a g_allValue cyI 12 o_26, kx_a g_allNumber cyI 12 o_27]) [0, 2, 3, 4, 5, 6, 7, 8] rfl
    have hKc := hK
    have hDc := hD.sub (ws' := [kx_5 h0 g_row m_n m_slots m_thrown g_many g_loss g_less g_voteValue g_voteNumber g_allValue g_allNumber o_20 g_nodeL g_nodeR o_19 g_part m_partMany g_wasMany g_wasLoss g_wasValue g_wasNumber g_path m_pathMany g_heavyValue g_heavyTimes m_heavyMany g_fewest g_which g_met m_mostMet, kx_a g_many cyI 324 o_21, kx_a g_loss cyI 324 o_22, kx_a g_less cyI 324 o_23, kx_a g_voteValue cyI 1944 o_24, kx_a g_voteNumber cyI 1944 o_25, kx_a g_allValue cyI 12 o_26, kx_a g_allNumber cyI 12 o_27]) [0, 2, 3, 4, 5, 6, 7, 8] (by decide) rfl
    have hFc := va_free (wc := [kx_5 h0 g_row m_n m_slots m_thrown g_many g_loss g_less g_voteValue g_voteNumber g_allValue g_allNumber o_20 g_nodeL g_nodeR o_19 g_part m_partMany g_wasMany g_wasLoss g_wasValue g_wasNumber g_path m_pathMany g_heavyValue g_heavyTimes m_heavyMany g_fewest g_which g_met m_mostMet, kx_a g_many cyI 324 o_21, kx_a g_loss cyI 324 o_22, kx_a g_less cyI 324 o_23, kx_a g_voteValue cyI 1944 o_24, kx_a g_voteNumber cyI 1944 o_25, kx_a g_allValue cyI 12 o_26, kx_a g_allNumber cyI 12 o_27]) hD hS hA [0, 2, 3, 4, 5, 6, 7, 8] rfl
    refine va_callv (va_runV (As := [.int r_6, .int r_18, .int m_nodes, .int p2]) (rest := []) ⟨hx, hb, hml, hown, hts⟩ (c_X5_together l dC dI h0 g_row g_many g_loss g_less g_voteValue g_voteNumber g_allValue g_allNumber g_nodeL g_nodeR g_part g_wasMany g_wasLoss g_wasValue g_wasNumber g_path g_heavyValue g_heavyTimes g_fewest g_which g_met m_n m_slots m_thrown o_20 o_19 m_partMany m_pathMany m_heavyMany m_mostMet cyI o_21 o_22 o_23 o_24 o_25 o_26 o_27 mua mub r_6 r_18 m_nodes p2 H.size (by omega) (by omega) (by omega) (by omega) (by omega) (by omega) (by omega) (by omega) (by rw [w_6.1]; exact nA.2.2.1) (by rw [w_6.1]; exact nA.2.2.2.1) (by rw [w_18.1]; exact nB.2.2.1) (by rw [w_18.1]; exact nB.2.2.2.1) (by rw [w_6.1]; exact nA.2.2.2.2.2.2.2.1) (by rw [w_18.1]; exact nB.2.2.2.2.2.2.2.1) (fun v => by have h1 := mj_T_le _ _ _ _ _ _ _ tA2 v; have h2 := mj_T_le _ _ _ _ _ _ _ tB v; omega)) (cwV 4 hts gX5_lays_X5_together rfl rfl rfl (by decide +kernel) ⟨Nat.le_of_ble_eq_true rfl, Nat.le_of_ble_eq_true rfl⟩) ⟨fun a U g mk q => by obtain ⟨q0, q1, qP, qK, qD⟩ := q; exact ⟨q0, q1, qP, va_K.moved (u := U) (U := U.calling g mk a) (Vm.Alike.refl U.vm) qK, qD⟩, va_recv hKc hPc (ci := 5) (q0 := 0) rfl rfl, fun U hU hW => ⟨rfl, by rw [hU], by rw [hU]; exact hPc, va_K.moved hW.alike hKc, hDc.weaken (fun _ _ _ _ => trivial)⟩⟩ rfl rfl hl.1 rfl (lv_room (Nat.le_of_ble_eq_true rfl)) dX5_lays_89 ⟨Nat.le_of_ble_eq_true rfl, Nat.le_of_ble_eq_true rfl⟩) hS (fun q _ h => hFc q h) hFc (fun u t H1 locs ht hvm w_30 hB hz1 hk1 hS => ?_)
    obtain ⟨o_31, o_32, o_33, o_34, o_35, o_36, o_37, o_38, o_39, o_40, o_41⟩ := u
    dsimp only at w_30 hB
    obtain ⟨hP1, hK1, hD1⟩ := hB
    rw [ht] at hP1
    have hK1 := va_K.moved hvm.symm hK1
    obtain ⟨hP, hD⟩ := va_join (wr := [kx_a g_row cyI 160 f, kx_a g_nodeL cyI 320 o_28, kx_a g_nodeR cyI 320 o_29]) (w1 := [kx_5 h0 g_row m_n m_slots m_thrown g_many g_loss g_less g_voteValue g_voteNumber g_allValue g_allNumber o_31 g_nodeL g_nodeR o_19 g_part m_partMany g_wasMany g_wasLoss g_wasValue g_wasNumber g_path m_pathMany g_heavyValue g_heavyTimes m_heavyMany g_fewest g_which g_met m_mostMet, kx_a g_many cyI 324 o_35, kx_a g_loss cyI 324 o_36, kx_a g_less cyI 324 o_37, kx_a g_voteValue cyI 1944 o_38, kx_a g_voteNumber cyI 1944 o_39, kx_a g_allValue cyI 12 o_40, kx_a g_allNumber cyI 12 o_41]) hP hD [0, 2, 3, 4, 5, 6, 7, 8] [1, 9, 10] rfl rfl (by decide) (by decide) hk1 hFc hP1 hD1
    clear hP1 hD1 hK1 hk1 hz1 hFc hDc hPc hKc
    generalize H1 = H at hP hS ⊢
    have hP : va_P (dC, dI) vwCl [kx_a g_row cyI 160 f, kx_a g_nodeL cyI 320 o_28, kx_a g_nodeR cyI 320 o_29, kx_5 h0 g_row m_n m_slots m_thrown g_many g_loss g_less g_voteValue g_voteNumber g_allValue g_allNumber o_31 g_nodeL g_nodeR o_19 g_part m_partMany g_wasMany g_wasLoss g_wasValue g_wasNumber g_path m_pathMany g_heavyValue g_heavyTimes m_heavyMany g_fewest g_which g_met m_mostMet, kx_a g_many cyI 324 o_35, kx_a g_loss cyI 324 o_36, kx_a g_less cyI 324 o_37, kx_a g_voteValue cyI 1944 o_38, kx_a g_voteNumber cyI 1944 o_39, kx_a g_allValue cyI 12 o_40, kx_a g_allNumber cyI 12 o_41] H := hP
    have hD : va_D A [kx_a g_row cyI 160 f, kx_a g_nodeL cyI 320 o_28, kx_a g_nodeR cyI 320 o_29, kx_5 h0 g_row m_n m_slots m_thrown g_many g_loss g_less g_voteValue g_voteNumber g_allValue g_allNumber o_31 g_nodeL g_nodeR o_19 g_part m_partMany g_wasMany g_wasLoss g_wasValue g_wasNumber g_path m_pathMany g_heavyValue g_heavyTimes m_heavyMany g_fewest g_which g_met m_mostMet, kx_a g_many cyI 324 o_35, kx_a g_loss cyI 324 o_36, kx_a g_less cyI 324 o_37, kx_a g_voteValue cyI 1944 o_38, kx_a g_voteNumber cyI 1944 o_39, kx_a g_allValue cyI 12 o_40, kx_a g_allNumber cyI 12 o_41] := hD
    have w_30 : mj_tog p2.toNatClampNeg mua mub o_34 o_32 ∧ o_36 = upd o_22 m_nodes.toNatClampNeg (o_22 r_6.toNatClampNeg + o_22 r_18.toNatClampNeg + o_32) ∧ o_37 = upd o_23 m_nodes.toNatClampNeg o_32 ∧ o_35 = upd o_21 m_nodes.toNatClampNeg o_33 ∧ 0 ≤ o_33.toInt ∧ o_33.toInt ≤ p2.toInt ∧ mj_vs o_38 o_39 (6 * m_nodes.toNatClampNeg) o_33.toNatClampNeg o_34 ∧ mj_srt o_38 o_39 (6 * m_nodes.toNatClampNeg) o_33.toNatClampNeg ∧ ∀ q : Nat, (q < 6 * m_nodes.toNatClampNeg ∨ 6 * m_nodes.toNatClampNeg + 6 ≤ q) → o_38 q = o_24 q ∧ o_39 q = o_25 q := w_30
    refine lv_iload hx hb dX5_lays_92 (lv_at hl 3 rfl) ?_
    have hP9 := hP.sub (ws' := [kx_5 h0 g_row m_n m_slots m_thrown g_many g_loss g_less g_voteValue g_voteNumber g_allValue g_allNumber o_31 g_nodeL g_nodeR o_19 g_part m_partMany g_wasMany g_wasLoss g_wasValue g_wasNumber g_path m_pathMany g_heavyValue g_heavyTimes m_heavyMany g_fewest g_which g_met m_mostMet, kx_a g_row cyI 160 f, kx_a g_many cyI 324 o_35, kx_a g_loss cyI 324 o_36, kx_a g_less cyI 324 o_37, kx_a g_voteValue cyI 1944 o_38, kx_a g_voteNumber cyI 1944 o_39, kx_a g_allValue cyI 12 o_40, kx_a g_allNumber cyI 12 o_41, kx_a g_nodeL cyI 320 o_28, kx_a g_nodeR cyI 320 o_29]) [3, 0, 4, 5, 6, 7, 8, 9, 10, 1, 2] rfl
    have hD9 := hD.sub (ws' := [kx_5 h0 g_row m_n m_slots m_thrown g_many g_loss g_less g_voteValue g_voteNumber g_allValue g_allNumber o_31 g_nodeL g_nodeR o_19 g_part m_partMany g_wasMany g_wasLoss g_wasValue g_wasNumber g_path m_pathMany g_heavyValue g_heavyTimes m_heavyMany g_fewest g_which g_met m_mostMet, kx_a g_row cyI 160 f, kx_a g_many cyI 324 o_35, kx_a g_loss cyI 324 o_36, kx_a g_less cyI 324 o_37, kx_a g_voteValue cyI 1944 o_38, kx_a g_voteNumber cyI 1944 o_39, kx_a g_allValue cyI 12 o_40, kx_a g_allNumber cyI 12 o_41, kx_a g_nodeL cyI 320 o_28, kx_a g_nodeR cyI 320 o_29]) [3, 0, 4, 5, 6, 7, 8, 9, 10, 1, 2] (by decide) rfl
    have hK9 := hK
    have e_fl := w_30.2.1
    rw [w_6.1, w_18.1] at e_fl
    have hN := mj_lay_node (l := p0.toNatClampNeg) (r := p1.toNatClampNeg) (md := y_5.toNatClampNeg) (a := m_nodes.toNatClampNeg) (by omega) (by omega) (by omega) (by omega) (by omega) (by omega) (mj_ag_sub w_6.2.2.2.2 (Nat.le_refl _) (by omega)) w_18.2.2.2.2 tA2 tB w_30.1 w_30.2.2.2.1 w_30.2.2.2.2.1 (by have := w_30.2.2.2.2.2.1; omega) (by omega) e_fl w_30.2.2.1 w_30.2.2.2.2.2.2.1 w_30.2.2.2.2.2.2.2.1 w_30.2.2.2.2.2.2.2.2
    exact W.iret (v := m_nodes) hx hb hr (fun t ht hW => ⟨⟨m_nodes, (o_19, o_31, o_35, o_36, o_37, o_38, o_39, o_40, o_41, o_28, o_29), rfl, ⟨rfl, (by (try dsimp only); omega), (by (try dsimp only); rw [w_30.2.2.2.1]; exact six4_upd w_18.2.2.1 w_30.2.2.2.2.1 (by have := w_30.2.2.2.2.2.1; omega)), hN.1, hN.2⟩, by rw [ht]; exact hP9, va_K.moved hW.alike hK9, hD9⟩, hS.F ht⟩) hS.2.2 dX5_lays_94
  · have i_3 : y_2.toInt = 1 := kc_eq c_3
    refine lv_aload_n hx hb dX5_lays_39 rfl (lv_at hl 1 rfl) ?_
    refine lv_iload hx hb dX5_lays_40 (lv_at hl 0 rfl) ?_
    refine lv_aload_n hx hb dX5_lays_42 rfl (lv_at hl 1 rfl) ?_
    refine va_get (D := (dC, dI)) (ci := 5) (v := .ref g_row) (C := RX5) (T := TX5) (N := 30) hx hb hts hi_5 hown hK hP 0 rfl rfl 0 (by decide) hf_7 (fun _ h9 => h9) rfl dX5_lays_43 ?_
    refine lv_iload_n hx hb dX5_lays_46 rfl (lv_at hl 2 rfl) ?_
    refine va_iald hx hb hK hP 1 0 rfl rfl (ki_in (om_8 b0) (om_67 b1 b2)) dX5_lays_47 ?_
    refine lv_topi (fun y_42 ey_42 => ?_)
    have j_42 : y_42.toInt = (f p0.toNatClampNeg).toInt := congrArg Int32.toInt ey_42
    have hPc := hP.sub (ws' := [kx_5 h0 g_row m_n m_slots m_thrown g_many g_loss g_less g_voteValue g_voteNumber g_allValue g_allNumber m_allMany g_nodeL g_nodeR y_1 g_part m_partMany g_wasMany g_wasLoss g_wasValue g_wasNumber g_path m_pathMany g_heavyValue g_heavyTimes m_heavyMany g_fewest g_which g_met m_mostMet, kx_a g_many cyI 324 fm, kx_a g_loss cyI 324 fl, kx_a g_less cyI 324 fe, kx_a g_voteValue cyI 1944 vv, kx_a g_voteNumber cyI 1944 vn]) [0, 2, 3, 4, 5, 6] rfl
    have hKc := hK
    have hDc := hD.sub (ws' := [kx_5 h0 g_row m_n m_slots m_thrown g_many g_loss g_less g_voteValue g_voteNumber g_allValue g_allNumber m_allMany g_nodeL g_nodeR y_1 g_part m_partMany g_wasMany g_wasLoss g_wasValue g_wasNumber g_path m_pathMany g_heavyValue g_heavyTimes m_heavyMany g_fewest g_which g_met m_mostMet, kx_a g_many cyI 324 fm, kx_a g_loss cyI 324 fl, kx_a g_less cyI 324 fe, kx_a g_voteValue cyI 1944 vv, kx_a g_voteNumber cyI 1944 vn]) [0, 2, 3, 4, 5, 6] (by decide) rfl
    have hFc := va_free (wc := [kx_5 h0 g_row m_n m_slots m_thrown g_many g_loss g_less g_voteValue g_voteNumber g_allValue g_allNumber m_allMany g_nodeL g_nodeR y_1 g_part m_partMany g_wasMany g_wasLoss g_wasValue g_wasNumber g_path m_pathMany g_heavyValue g_heavyTimes m_heavyMany g_fewest g_which g_met m_mostMet, kx_a g_many cyI 324 fm, kx_a g_loss cyI 324 fl, kx_a g_less cyI 324 fe, kx_a g_voteValue cyI 1944 vv, kx_a g_voteNumber cyI 1944 vn]) hD hS hA [0, 2, 3, 4, 5, 6] rfl
    refine va_callv (va_runV (As := [.int m_nodes, .int y_42]) (rest := []) ⟨hx, hb, hml, hown, hts⟩ (c_X5_one_x l dC dI h0 g_row g_many g_loss g_less g_voteValue g_voteNumber g_allValue g_allNumber g_nodeL g_nodeR g_part g_wasMany g_wasLoss g_wasValue g_wasNumber g_path g_heavyValue g_heavyTimes g_fewest g_which g_met m_n m_slots m_thrown m_allMany y_1 m_partMany m_pathMany m_heavyMany m_mostMet cyI fm fl fe vv vn m_nodes y_42 H.size b5 (om_230 b1 b6)) (cwV 2 hts gX5_lays_X5_one rfl rfl rfl (by decide +kernel) ⟨Nat.le_of_ble_eq_true rfl, Nat.le_of_ble_eq_true rfl⟩) ⟨fun a U g mk q => by obtain ⟨q0, q1, qP, qK, qD⟩ := q; exact ⟨q0, q1, qP, va_K.moved (u := U) (U := U.calling g mk a) (Vm.Alike.refl U.vm) qK, qD⟩, va_recv hKc hPc (ci := 5) (q0 := 0) rfl rfl, fun U hU hW => ⟨rfl, by rw [hU], by rw [hU]; exact hPc, va_K.moved hW.alike hKc, hDc.weaken (fun _ _ _ _ => trivial)⟩⟩ rfl rfl hl.1 rfl (lv_room (Nat.le_of_ble_eq_true rfl)) dX5_lays_48 ⟨Nat.le_of_ble_eq_true rfl, Nat.le_of_ble_eq_true rfl⟩) hS (fun q _ h => hFc q h) hFc (fun u t H1 locs ht hvm w_43 hB hz1 hk1 hS => ?_)
    obtain ⟨o_44, o_45, o_46, o_47, o_48⟩ := u
    dsimp only at w_43 hB
    obtain ⟨hP1, hK1, hD1⟩ := hB
    rw [ht] at hP1
    have hK1 := va_K.moved hvm.symm hK1
    obtain ⟨hP, hD⟩ := va_join (wr := [kx_a g_row cyI 160 f, kx_a g_allValue cyI 12 av, kx_a g_allNumber cyI 12 an, kx_a g_nodeL cyI 320 (upd nl m_nodes.toNatClampNeg p0), kx_a g_nodeR cyI 320 (upd nr m_nodes.toNatClampNeg p1)]) (w1 := [kx_5 h0 g_row m_n m_slots m_thrown g_many g_loss g_less g_voteValue g_voteNumber g_allValue g_allNumber m_allMany g_nodeL g_nodeR y_1 g_part m_partMany g_wasMany g_wasLoss g_wasValue g_wasNumber g_path m_pathMany g_heavyValue g_heavyTimes m_heavyMany g_fewest g_which g_met m_mostMet, kx_a g_many cyI 324 o_44, kx_a g_loss cyI 324 o_45, kx_a g_less cyI 324 o_46, kx_a g_voteValue cyI 1944 o_47, kx_a g_voteNumber cyI 1944 o_48]) hP hD [0, 2, 3, 4, 5, 6] [1, 7, 8, 9, 10] rfl rfl (by decide) (by decide) hk1 hFc hP1 hD1
    clear hP1 hD1 hK1 hk1 hz1 hFc hDc hPc hKc
    generalize H1 = H at hP hS ⊢
    have hP : va_P (dC, dI) vwCl [kx_a g_row cyI 160 f, kx_a g_allValue cyI 12 av, kx_a g_allNumber cyI 12 an, kx_a g_nodeL cyI 320 (upd nl m_nodes.toNatClampNeg p0), kx_a g_nodeR cyI 320 (upd nr m_nodes.toNatClampNeg p1), kx_5 h0 g_row m_n m_slots m_thrown g_many g_loss g_less g_voteValue g_voteNumber g_allValue g_allNumber m_allMany g_nodeL g_nodeR y_1 g_part m_partMany g_wasMany g_wasLoss g_wasValue g_wasNumber g_path m_pathMany g_heavyValue g_heavyTimes m_heavyMany g_fewest g_which g_met m_mostMet, kx_a g_many cyI 324 o_44, kx_a g_loss cyI 324 o_45, kx_a g_less cyI 324 o_46, kx_a g_voteValue cyI 1944 o_47, kx_a g_voteNumber cyI 1944 o_48] H := hP
    have hD : va_D A [kx_a g_row cyI 160 f, kx_a g_allValue cyI 12 av, kx_a g_allNumber cyI 12 an, kx_a g_nodeL cyI 320 (upd nl m_nodes.toNatClampNeg p0), kx_a g_nodeR cyI 320 (upd nr m_nodes.toNatClampNeg p1), kx_5 h0 g_row m_n m_slots m_thrown g_many g_loss g_less g_voteValue g_voteNumber g_allValue g_allNumber m_allMany g_nodeL g_nodeR y_1 g_part m_partMany g_wasMany g_wasLoss g_wasValue g_wasNumber g_path m_pathMany g_heavyValue g_heavyTimes m_heavyMany g_fewest g_which g_met m_mostMet, kx_a g_many cyI 324 o_44, kx_a g_loss cyI 324 o_45, kx_a g_less cyI 324 o_46, kx_a g_voteValue cyI 1944 o_47, kx_a g_voteNumber cyI 1944 o_48] := hD
    have w_43 : o_44 = upd fm m_nodes.toNatClampNeg 1 ∧ o_45 = upd fl m_nodes.toNatClampNeg 0 ∧ o_46 = upd fe m_nodes.toNatClampNeg 0 ∧ o_47 = upd vv (6 * m_nodes.toNatClampNeg) y_42 ∧ o_48 = upd vn (6 * m_nodes.toNatClampNeg) 1 := w_43
    refine lv_iload hx hb dX5_lays_51 (lv_at hl 0 rfl) ?_
    have hP9 := hP.sub (ws' := [kx_5 h0 g_row m_n m_slots m_thrown g_many g_loss g_less g_voteValue g_voteNumber g_allValue g_allNumber m_allMany g_nodeL g_nodeR y_1 g_part m_partMany g_wasMany g_wasLoss g_wasValue g_wasNumber g_path m_pathMany g_heavyValue g_heavyTimes m_heavyMany g_fewest g_which g_met m_mostMet, kx_a g_row cyI 160 f, kx_a g_many cyI 324 o_44, kx_a g_loss cyI 324 o_45, kx_a g_less cyI 324 o_46, kx_a g_voteValue cyI 1944 o_47, kx_a g_voteNumber cyI 1944 o_48, kx_a g_allValue cyI 12 av, kx_a g_allNumber cyI 12 an, kx_a g_nodeL cyI 320 (upd nl m_nodes.toNatClampNeg p0), kx_a g_nodeR cyI 320 (upd nr m_nodes.toNatClampNeg p1)]) [5, 0, 6, 7, 8, 9, 10, 1, 2, 3, 4] rfl
    have hD9 := hD.sub (ws' := [kx_5 h0 g_row m_n m_slots m_thrown g_many g_loss g_less g_voteValue g_voteNumber g_allValue g_allNumber m_allMany g_nodeL g_nodeR y_1 g_part m_partMany g_wasMany g_wasLoss g_wasValue g_wasNumber g_path m_pathMany g_heavyValue g_heavyTimes m_heavyMany g_fewest g_which g_met m_mostMet, kx_a g_row cyI 160 f, kx_a g_many cyI 324 o_44, kx_a g_loss cyI 324 o_45, kx_a g_less cyI 324 o_46, kx_a g_voteValue cyI 1944 o_47, kx_a g_voteNumber cyI 1944 o_48, kx_a g_allValue cyI 12 av, kx_a g_allNumber cyI 12 an, kx_a g_nodeL cyI 320 (upd nl m_nodes.toNatClampNeg p0), kx_a g_nodeR cyI 320 (upd nr m_nodes.toNatClampNeg p1)]) [5, 0, 6, 7, 8, 9, 10, 1, 2, 3, 4] (by decide) rfl
    have hK9 := hK
    have n_p0 := ki_nat p0 rfl (om_8 b0)
    have n_p1 := ki_nat p1 rfl (om_18 b0 b1)
    have n_p2 := ki_nat p2 rfl (om_44 b3)
    have n_nd := ki_nat m_nodes rfl (om_8 b5)
    have e_vv := w_43.2.2.2.1
    rw [ey_42] at e_vv
    have hN := mj_lay_leaf (K := p2.toNatClampNeg) (f := f) (nl := nl) (nr := nr) (l := p0.toNatClampNeg) (r := p1.toNatClampNeg) (l32 := p0) (r32 := p1) 7 (by omega) (by omega) (by omega) (by omega) w_43.1 w_43.2.1 w_43.2.2.1 e_vv w_43.2.2.2.2
    exact W.iret (v := m_nodes) hx hb hr (fun t ht hW => ⟨⟨m_nodes, (y_1, m_allMany, o_44, o_45, o_46, o_47, o_48, av, an, (upd nl m_nodes.toNatClampNeg p0), (upd nr m_nodes.toNatClampNeg p1)), rfl, ⟨rfl, (by (try dsimp only); omega), (by (try dsimp only); rw [w_43.1]; exact six4_upd s4 (by decide) (by decide)), hN.1, hN.2⟩, by rw [ht]; exact hP9, va_K.moved hW.alike hK9, hD9⟩, hS.F ht⟩) hS.2.2 dX5_lays_53

set_option maxHeartbeats 4000000 in
set_option maxRecDepth 100000 in
theorem c_X5_lays_8 (l : Launch) (dC : Nat → ClassId) (dI : Nat → Nat → Nat) (h0 : Nat) (g_row : Nat) (g_many : Nat) (g_loss : Nat) (g_less : Nat) (g_voteValue : Nat) (g_voteNumber : Nat) (g_allValue : Nat) (g_allNumber : Nat) (g_nodeL : Nat) (g_nodeR : Nat) (g_part : Nat) (g_wasMany : Nat) (g_wasLoss : Nat) (g_wasValue : Nat) (g_wasNumber : Nat) (g_path : Nat) (g_heavyValue : Nat) (g_heavyTimes : Nat) (g_fewest : Nat) (g_which : Nat) (g_met : Nat) (m_n : Int32) (m_slots : Int32) (m_thrown : Int32) (m_allMany : Int32) (m_nodes : Int32) (m_partMany : Int32) (m_pathMany : Int32) (m_heavyMany : Int32) (m_mostMet : Int32) (cyI : ClassId) (fm : Nat → Int32) (fl : Nat → Int32) (fe : Nat → Int32) (vv : Nat → Int32) (vn : Nat → Int32) (f : Nat → Int32) (av : Nat → Int32) (an : Nat → Int32) (nl : Nat → Int32) (nr : Nat → Int32) (p0 : Int32) (p1 : Int32) (p2 : Int32) (sz : Nat) (b0 : 0 ≤ p0.toInt) (b1 : p0.toInt < p1.toInt) (b2 : p1.toInt ≤ 160) (b3 : 1 ≤ p2.toInt) (b4 : p2.toInt ≤ 6) (b5 : 0 ≤ m_nodes.toInt) (b6 : m_nodes.toInt + 2 * (p1.toInt - p0.toInt) - 1 ≤ 319) (s4 : six4 fm) (b7 : p1.toInt - p0.toInt ≤ 256) : Met l yX5_lays wsX5_lays ({ frames := 10, cells := 0, slots := 0, locals := 450 }) (va_Pc [.ref h0, .int p0, .int p1, .int p2] (fun U => U.heap.size = sz ∧ va_P (dC, dI) vwCl [kx_5 h0 g_row m_n m_slots m_thrown g_many g_loss g_less g_voteValue g_voteNumber g_allValue g_allNumber m_allMany g_nodeL g_nodeR m_nodes g_part m_partMany g_wasMany g_wasLoss g_wasValue g_wasNumber g_path m_pathMany g_heavyValue g_heavyTimes m_heavyMany g_fewest g_which g_met m_mostMet, kx_a g_row cyI 160 f, kx_a g_many cyI 324 fm, kx_a g_loss cyI 324 fl, kx_a g_less cyI 324 fe, kx_a g_voteValue cyI 1944 vv, kx_a g_voteNumber cyI 1944 vn, kx_a g_allValue cyI 12 av, kx_a g_allNumber cyI 12 an, kx_a g_nodeL cyI 320 nl, kx_a g_nodeR cyI 320 nr] U.heap ∧ va_K (dC, dI) vwCl [(cyI, .int)] U ∧ va_D (fun _ => True) [kx_5 h0 g_row m_n m_slots m_thrown g_many g_loss g_less g_voteValue g_voteNumber g_allValue g_allNumber m_allMany g_nodeL g_nodeR m_nodes g_part m_partMany g_wasMany g_wasLoss g_wasValue g_wasNumber g_path m_pathMany g_heavyValue g_heavyTimes m_heavyMany g_fewest g_which g_met m_mostMet, kx_a g_row cyI 160 f, kx_a g_many cyI 324 fm, kx_a g_loss cyI 324 fl, kx_a g_less cyI 324 fe, kx_a g_voteValue cyI 1944 vv, kx_a g_voteNumber cyI 1944 vn, kx_a g_allValue cyI 12 av, kx_a g_allNumber cyI 12 an, kx_a g_nodeL cyI 320 nl, kx_a g_nodeR cyI 320 nr])) (va_Qi (fun (r : Int32) (u : Int32 × Int32 × (Nat → Int32) × (Nat → Int32) × (Nat → Int32) × (Nat → Int32) × (Nat → Int32) × (Nat → Int32) × (Nat → Int32) × (Nat → Int32) × (Nat → Int32)) => r = m_nodes ∧ u.1.toInt = m_nodes.toInt + 2 * (p1.toInt - p0.toInt) - 1 ∧ six4 u.2.2.1 ∧ mj_S p2.toNatClampNeg f u.2.2.2.2.2.2.2.2.2.1 u.2.2.2.2.2.2.2.2.2.2 u.2.2.1 u.2.2.2.1 u.2.2.2.2.1 u.2.2.2.2.2.1 u.2.2.2.2.2.2.1 8 m_nodes.toNatClampNeg p0.toNatClampNeg p1.toNatClampNeg ∧ mj_ag 0 m_nodes.toNatClampNeg nl nr fm fl fe vv vn u.2.2.2.2.2.2.2.2.2.1 u.2.2.2.2.2.2.2.2.2.2 u.2.2.1 u.2.2.2.1 u.2.2.2.2.1 u.2.2.2.2.2.1 u.2.2.2.2.2.2.1) (fun (u : Int32 × Int32 × (Nat → Int32) × (Nat → Int32) × (Nat → Int32) × (Nat → Int32) × (Nat → Int32) × (Nat → Int32) × (Nat → Int32) × (Nat → Int32) × (Nat → Int32)) (t : State) => va_P (dC, dI) vwCl [kx_5 h0 g_row m_n m_slots m_thrown g_many g_loss g_less g_voteValue g_voteNumber g_allValue g_allNumber u.2.1 g_nodeL g_nodeR u.1 g_part m_partMany g_wasMany g_wasLoss g_wasValue g_wasNumber g_path m_pathMany g_heavyValue g_heavyTimes m_heavyMany g_fewest g_which g_met m_mostMet, kx_a g_row cyI 160 f, kx_a g_many cyI 324 u.2.2.1, kx_a g_loss cyI 324 u.2.2.2.1, kx_a g_less cyI 324 u.2.2.2.2.1, kx_a g_voteValue cyI 1944 u.2.2.2.2.2.1, kx_a g_voteNumber cyI 1944 u.2.2.2.2.2.2.1, kx_a g_allValue cyI 12 u.2.2.2.2.2.2.2.1, kx_a g_allNumber cyI 12 u.2.2.2.2.2.2.2.2.1, kx_a g_nodeL cyI 320 u.2.2.2.2.2.2.2.2.2.1, kx_a g_nodeR cyI 320 u.2.2.2.2.2.2.2.2.2.2] t.heap ∧ va_K (dC, dI) vwCl [(cyI, .int)] t ∧ va_D (va_A [kx_5 h0 g_row m_n m_slots m_thrown g_many g_loss g_less g_voteValue g_voteNumber g_allValue g_allNumber m_allMany g_nodeL g_nodeR m_nodes g_part m_partMany g_wasMany g_wasLoss g_wasValue g_wasNumber g_path m_pathMany g_heavyValue g_heavyTimes m_heavyMany g_fewest g_which g_met m_mostMet, kx_a g_row cyI 160 f, kx_a g_many cyI 324 fm, kx_a g_loss cyI 324 fl, kx_a g_less cyI 324 fe, kx_a g_voteValue cyI 1944 vv, kx_a g_voteNumber cyI 1944 vn, kx_a g_allValue cyI 12 av, kx_a g_allNumber cyI 12 an, kx_a g_nodeL cyI 320 nl, kx_a g_nodeR cyI 320 nr] sz) [kx_5 h0 g_row m_n m_slots m_thrown g_many g_loss g_less g_voteValue g_voteNumber g_allValue g_allNumber u.2.1 g_nodeL g_nodeR u.1 g_part m_partMany g_wasMany g_wasLoss g_wasValue g_wasNumber g_path m_pathMany g_heavyValue g_heavyTimes m_heavyMany g_fewest g_which g_met m_mostMet, kx_a g_row cyI 160 f, kx_a g_many cyI 324 u.2.2.1, kx_a g_loss cyI 324 u.2.2.2.1, kx_a g_less cyI 324 u.2.2.2.2.1, kx_a g_voteValue cyI 1944 u.2.2.2.2.2.1, kx_a g_voteNumber cyI 1944 u.2.2.2.2.2.2.1, kx_a g_allValue cyI 12 u.2.2.2.2.2.2.2.1, kx_a g_allNumber cyI 12 u.2.2.2.2.2.2.2.2.1, kx_a g_nodeL cyI 320 u.2.2.2.2.2.2.2.2.2.1, kx_a g_nodeR cyI 320 u.2.2.2.2.2.2.2.2.2.2]) (va_A [kx_5 h0 g_row m_n m_slots m_thrown g_many g_loss g_less g_voteValue g_voteNumber g_allValue g_allNumber m_allMany g_nodeL g_nodeR m_nodes g_part m_partMany g_wasMany g_wasLoss g_wasValue g_wasNumber g_path m_pathMany g_heavyValue g_heavyTimes m_heavyMany g_fewest g_which g_met m_mostMet, kx_a g_row cyI 160 f, kx_a g_many cyI 324 fm, kx_a g_loss cyI 324 fl, kx_a g_less cyI 324 fe, kx_a g_voteValue cyI 1944 vv, kx_a g_voteNumber cyI 1944 vn, kx_a g_allValue cyI 12 av, kx_a g_allNumber cyI 12 an, kx_a g_nodeL cyI 320 nl, kx_a g_nodeR cyI 320 nr] sz)) 0 0 (va_A [kx_5 h0 g_row m_n m_slots m_thrown g_many g_loss g_less g_voteValue g_voteNumber g_allValue g_allNumber m_allMany g_nodeL g_nodeR m_nodes g_part m_partMany g_wasMany g_wasLoss g_wasValue g_wasNumber g_path m_pathMany g_heavyValue g_heavyTimes m_heavyMany g_fewest g_which g_met m_mostMet, kx_a g_row cyI 160 f, kx_a g_many cyI 324 fm, kx_a g_loss cyI 324 fl, kx_a g_less cyI 324 fe, kx_a g_voteValue cyI 1944 vv, kx_a g_voteNumber cyI 1944 vn, kx_a g_allValue cyI 12 av, kx_a g_allNumber cyI 12 an, kx_a g_nodeL cyI 320 nl, kx_a g_nodeR cyI 320 nr] sz) := by
  refine Met.ofW (cc := cX5_lays) (maxL := 8) (ret := (some .int)) (by decide) rfl ?_
  intro p e s m args below meth c s₁ B hml hv
  obtain ⟨rfl, hsz, hP, hK, hD0⟩ := hv
  have hx := B.exec
  have hb := B.bytes
  have hr := B.returns
  have hts := atoms_spec (ws := wsX5_lays) B.pre
  have hown : s.vm.findClass RX5 = some m.cls := findClass_of_methodNamed B.named
  have hlocks := B.notSynchronized
  subst hsz
  have hD := hD0.self (sz := s.heap.size)
  generalize hAe : va_A [kx_5 h0 g_row m_n m_slots m_thrown g_many g_loss g_less g_voteValue g_voteNumber g_allValue g_allNumber m_allMany g_nodeL g_nodeR m_nodes g_part m_partMany g_wasMany g_wasLoss g_wasValue g_wasNumber g_path m_pathMany g_heavyValue g_heavyTimes m_heavyMany g_fewest g_which g_met m_mostMet, kx_a g_row cyI 160 f, kx_a g_many cyI 324 fm, kx_a g_loss cyI 324 fl, kx_a g_less cyI 324 fe, kx_a g_voteValue cyI 1944 vv, kx_a g_voteNumber cyI 1944 vn, kx_a g_allValue cyI 12 av, kx_a g_allNumber cyI 12 an, kx_a g_nodeL cyI 320 nl, kx_a g_nodeR cyI 320 nr] s.heap.size = A at hD ⊢
  have hA : ∀ q : Nat, s.heap.size ≤ q → A q := fun q h => by rw [← hAe]; exact Or.inr h
  have hS : va_S A s.heap s.heap [] := va_S.rf
  have hP : va_P (dC, dI) vwCl [kx_5 h0 g_row m_n m_slots m_thrown g_many g_loss g_less g_voteValue g_voteNumber g_allValue g_allNumber m_allMany g_nodeL g_nodeR m_nodes g_part m_partMany g_wasMany g_wasLoss g_wasValue g_wasNumber g_path m_pathMany g_heavyValue g_heavyTimes m_heavyMany g_fewest g_which g_met m_mostMet, kx_a g_row cyI 160 f, kx_a g_many cyI 324 fm, kx_a g_loss cyI 324 fl, kx_a g_less cyI 324 fe, kx_a g_voteValue cyI 1944 vv, kx_a g_voteNumber cyI 1944 vn, kx_a g_allValue cyI 12 av, kx_a g_allNumber cyI 12 an, kx_a g_nodeL cyI 320 nl, kx_a g_nodeR cyI 320 nr] s.heap := hP
  have hl := lv_entry ([.ref h0, .int p0, .int p1, .int p2]) (n := 8) (Nat.le_of_ble_eq_true rfl)
  rw [lg_entry_eq]
  generalize (lg_sl ([.ref h0, .int p0, .int p1, .int p2]) ++ List.replicate (8 - (lg_sl ([.ref h0, .int p0, .int p1, .int p2])).length) Slot.unset).toArray = ls at hl ⊢
  have hl : lv_has ls 8 [(0, .ref h0), (1, .int p0), (2, .int p1), (3, .int p2)] := hl
  have hf_101 := hts (.fieldLink RX5 101 "MajorityIndexModel" "nodes" "I") (List.mem_of_getElem? (i := 1) rfl)
  have hi_5 : ∀ w ∈ u_ws RX5 TX5 30, w ∈ wsX5_lays := fun w h => List.mem_cons_of_mem _ (List.mem_append_right _ h)
  have hf_38 := hts (.fieldLink RX5 38 "MajorityIndexModel" "nodeL" "[I") (List.mem_of_getElem? (i := 2) rfl)
  have hf_41 := hts (.fieldLink RX5 41 "MajorityIndexModel" "nodeR" "[I") (List.mem_of_getElem? (i := 3) rfl)
  have hf_7 := hts (.fieldLink RX5 7 "MajorityIndexModel" "row" "[I") (List.mem_of_getElem? (i := 4) rfl)
  refine lv_aload_n hx hb dX5_lays_0 rfl (lv_at hl 0 rfl) ?_
  refine va_get (D := (dC, dI)) (ci := 5) (v := .int m_nodes) (C := RX5) (T := TX5) (N := 30) hx hb hts hi_5 hown hK hP 0 rfl rfl 14 (by decide) hf_101 (fun _ h9 => h9) rfl dX5_lays_1 ?_
  refine lv_istore (lv' := [(4, .int m_nodes), (0, .ref h0), (1, .int p0), (2, .int p1), (3, .int p2)]) hx hb dX5_lays_4 hl (by decide) rfl (fun ls hl => ?_)
  refine lv_aload_n hx hb dX5_lays_6 rfl (lv_at hl 1 rfl) ?_
  refine lv_dup hx hb dX5_lays_7 rfl ?_
  refine va_get (D := (dC, dI)) (ci := 5) (v := .int m_nodes) (C := RX5) (T := TX5) (N := 30) hx hb hts hi_5 hown hK hP 0 rfl rfl 14 (by decide) hf_101 (fun _ h9 => h9) rfl dX5_lays_8 ?_
  refine lv_iconst (v := 1) hx hb dX5_lays_11 (by decide) ?_
  refine lv_iadd hx hb dX5_lays_12 ?_
  refine lv_topi (fun y_1 ey_1 => ?_)
  have i_1 : y_1.toInt = m_nodes.toInt + 1 := ki_add ey_1 rfl rfl (om_10 b5) (om_226 b1 b6)
  refine va_put (D := (dC, dI)) (ci := 5) (v := .int y_1) (ty := .int) (C := RX5) (T := TX5) (N := 30) hx hb hts hi_5 tyX5 tyX5_ok nmX5 hown hK hP hD hS 0 rfl rfl 14 (by decide) hf_101 (fun _ h9 => h9) rfl (by decide +kernel) rfl rfl (Nat.le_of_ble_eq_true rfl) dX5_lays_13 (fun H locs hP hD hS => ?_)
  have hP : va_P (dC, dI) vwCl [kx_5 h0 g_row m_n m_slots m_thrown g_many g_loss g_less g_voteValue g_voteNumber g_allValue g_allNumber m_allMany g_nodeL g_nodeR y_1 g_part m_partMany g_wasMany g_wasLoss g_wasValue g_wasNumber g_path m_pathMany g_heavyValue g_heavyTimes m_heavyMany g_fewest g_which g_met m_mostMet, kx_a g_row cyI 160 f, kx_a g_many cyI 324 fm, kx_a g_loss cyI 324 fl, kx_a g_less cyI 324 fe, kx_a g_voteValue cyI 1944 vv, kx_a g_voteNumber cyI 1944 vn, kx_a g_allValue cyI 12 av, kx_a g_allNumber cyI 12 an, kx_a g_nodeL cyI 320 nl, kx_a g_nodeR cyI 320 nr] H := hP
  have hD : va_D A [kx_5 h0 g_row m_n m_slots m_thrown g_many g_loss g_less g_voteValue g_voteNumber g_allValue g_allNumber m_allMany g_nodeL g_nodeR y_1 g_part m_partMany g_wasMany g_wasLoss g_wasValue g_wasNumber g_path m_pathMany g_heavyValue g_heavyTimes m_heavyMany g_fewest g_which g_met m_mostMet, kx_a g_row cyI 160 f, kx_a g_many cyI 324 fm, kx_a g_loss cyI 324 fl, kx_a g_less cyI 324 fe, kx_a g_voteValue cyI 1944 vv, kx_a g_voteNumber cyI 1944 vn, kx_a g_allValue cyI 12 av, kx_a g_allNumber cyI 12 an, kx_a g_nodeL cyI 320 nl, kx_a g_nodeR cyI 320 nr] := hD
  refine lv_aload_n hx hb dX5_lays_16 rfl (lv_at hl 1 rfl) ?_
  refine va_get (D := (dC, dI)) (ci := 5) (v := .ref g_nodeL) (C := RX5) (T := TX5) (N := 30) hx hb hts hi_5 hown hK hP 0 rfl rfl 12 (by decide) hf_38 (fun _ h9 => h9) rfl dX5_lays_17 ?_
  refine lv_iload hx hb dX5_lays_20 (lv_at hl 0 rfl) ?_
  refine lv_iload_n hx hb dX5_lays_22 rfl (lv_at hl 2 rfl) ?_
  refine va_iast hx hb hK hP hD hS 9 0 rfl rfl (ki_in (om_8 b5) (om_227 b1 b6)) dX5_lays_23 (fun H locs hP hD hS => ?_)
  have hP : va_P (dC, dI) vwCl [kx_5 h0 g_row m_n m_slots m_thrown g_many g_loss g_less g_voteValue g_voteNumber g_allValue g_allNumber m_allMany g_nodeL g_nodeR y_1 g_part m_partMany g_wasMany g_wasLoss g_wasValue g_wasNumber g_path m_pathMany g_heavyValue g_heavyTimes m_heavyMany g_fewest g_which g_met m_mostMet, kx_a g_row cyI 160 f, kx_a g_many cyI 324 fm, kx_a g_loss cyI 324 fl, kx_a g_less cyI 324 fe, kx_a g_voteValue cyI 1944 vv, kx_a g_voteNumber cyI 1944 vn, kx_a g_allValue cyI 12 av, kx_a g_allNumber cyI 12 an, kx_a g_nodeL cyI 320 (upd nl m_nodes.toNatClampNeg p0), kx_a g_nodeR cyI 320 nr] H := hP
  have hD : va_D A [kx_5 h0 g_row m_n m_slots m_thrown g_many g_loss g_less g_voteValue g_voteNumber g_allValue g_allNumber m_allMany g_nodeL g_nodeR y_1 g_part m_partMany g_wasMany g_wasLoss g_wasValue g_wasNumber g_path m_pathMany g_heavyValue g_heavyTimes m_heavyMany g_fewest g_which g_met m_mostMet, kx_a g_row cyI 160 f, kx_a g_many cyI 324 fm, kx_a g_loss cyI 324 fl, kx_a g_less cyI 324 fe, kx_a g_voteValue cyI 1944 vv, kx_a g_voteNumber cyI 1944 vn, kx_a g_allValue cyI 12 av, kx_a g_allNumber cyI 12 an, kx_a g_nodeL cyI 320 (upd nl m_nodes.toNatClampNeg p0), kx_a g_nodeR cyI 320 nr] := hD
  refine lv_aload_n hx hb dX5_lays_24 rfl (lv_at hl 1 rfl) ?_
  refine va_get (D := (dC, dI)) (ci := 5) (v := .ref g_nodeR) (C := RX5) (T := TX5) (N := 30) hx hb hts hi_5 hown hK hP 0 rfl rfl 13 (by decide) hf_41 (fun _ h9 => h9) rfl dX5_lays_25 ?_
  refine lv_iload hx hb dX5_lays_28 (lv_at hl 0 rfl) ?_
  refine lv_iload_n hx hb dX5_lays_30 rfl (lv_at hl 3 rfl) ?_
  refine va_iast hx hb hK hP hD hS 10 0 rfl rfl (ki_in (om_8 b5) (om_227 b1 b6)) dX5_lays_31 (fun H locs hP hD hS => ?_)
  have hP : va_P (dC, dI) vwCl [kx_5 h0 g_row m_n m_slots m_thrown g_many g_loss g_less g_voteValue g_voteNumber g_allValue g_allNumber m_allMany g_nodeL g_nodeR y_1 g_part m_partMany g_wasMany g_wasLoss g_wasValue g_wasNumber g_path m_pathMany g_heavyValue g_heavyTimes m_heavyMany g_fewest g_which g_met m_mostMet, kx_a g_row cyI 160 f, kx_a g_many cyI 324 fm, kx_a g_loss cyI 324 fl, kx_a g_less cyI 324 fe, kx_a g_voteValue cyI 1944 vv, kx_a g_voteNumber cyI 1944 vn, kx_a g_allValue cyI 12 av, kx_a g_allNumber cyI 12 an, kx_a g_nodeL cyI 320 (upd nl m_nodes.toNatClampNeg p0), kx_a g_nodeR cyI 320 (upd nr m_nodes.toNatClampNeg p1)] H := hP
  have hD : va_D A [kx_5 h0 g_row m_n m_slots m_thrown g_many g_loss g_less g_voteValue g_voteNumber g_allValue g_allNumber m_allMany g_nodeL g_nodeR y_1 g_part m_partMany g_wasMany g_wasLoss g_wasValue g_wasNumber g_path m_pathMany g_heavyValue g_heavyTimes m_heavyMany g_fewest g_which g_met m_mostMet, kx_a g_row cyI 160 f, kx_a g_many cyI 324 fm, kx_a g_loss cyI 324 fl, kx_a g_less cyI 324 fe, kx_a g_voteValue cyI 1944 vv, kx_a g_voteNumber cyI 1944 vn, kx_a g_allValue cyI 12 av, kx_a g_allNumber cyI 12 an, kx_a g_nodeL cyI 320 (upd nl m_nodes.toNatClampNeg p0), kx_a g_nodeR cyI 320 (upd nr m_nodes.toNatClampNeg p1)] := hD
  refine lv_iload_n hx hb dX5_lays_32 rfl (lv_at hl 3 rfl) ?_
  refine lv_iload_n hx hb dX5_lays_33 rfl (lv_at hl 2 rfl) ?_
  refine lv_isub hx hb dX5_lays_34 ?_
  refine lv_topi (fun y_2 ey_2 => ?_)
  have i_2 : y_2.toInt = p1.toInt - p0.toInt := ki_sub ey_2 rfl rfl (om_228 b1) (om_241 b7)
  refine lv_iconst (v := 1) hx hb dX5_lays_35 (by decide) ?_
  refine lv_icmp_ne (tgt := 54) hx hb dX5_lays_36 (by decide) (fun c_3 => ?_) (fun c_3 => ?_)
  · have i_3 : ¬ y_2.toInt = 1 := kc_ne c_3
    refine lv_iload_n hx hb dX5_lays_54 rfl (lv_at hl 2 rfl) ?_
    refine lv_iload_n hx hb dX5_lays_55 rfl (lv_at hl 3 rfl) ?_
    refine lv_iadd hx hb dX5_lays_56 ?_
    refine lv_topi (fun y_4 ey_4 => ?_)
    have i_4 : y_4.toInt = p0.toInt + p1.toInt := ki_add ey_4 rfl rfl (om_232 b0 b1) (om_233 b1 b2)
    refine lv_iconst (v := 2) hx hb dX5_lays_57 (by decide) ?_
    refine lv_idiv hx hb dX5_lays_58 (by decide) ?_
    refine lv_topi (fun y_5 ey_5 => ?_)
    have i_5 : y_5.toInt = y_4.toInt / 2 := ki_div2 ey_5 rfl (by omega)
    refine lv_istore (lv' := [(5, .int y_5), (4, .int m_nodes), (0, .ref h0), (1, .int p0), (2, .int p1), (3, .int p2)]) hx hb dX5_lays_59 hl (by decide) rfl (fun ls hl => ?_)
    refine lv_aload_n hx hb dX5_lays_61 rfl (lv_at hl 2 rfl) ?_
    refine lv_iload_n hx hb dX5_lays_62 rfl (lv_at hl 3 rfl) ?_
    refine lv_iload hx hb dX5_lays_63 (lv_at hl 0 rfl) ?_
    refine lv_iload_n hx hb dX5_lays_65 rfl (lv_at hl 5 rfl) ?_
    have hPc := hP
    have hKc := hK
    have hDc := hD
    have hFc := kx_free hD hS hA
    refine va_calli (va_runV (As := [.int p0, .int y_5, .int p2]) (rest := []) ⟨hx, hb, hml, hown, hts⟩ (c_X5_lays_7 l dC dI h0 g_row g_many g_loss g_less g_voteValue g_voteNumber g_allValue g_allNumber g_nodeL g_nodeR g_part g_wasMany g_wasLoss g_wasValue g_wasNumber g_path g_heavyValue g_heavyTimes g_fewest g_which g_met m_n m_slots m_thrown m_allMany y_1 m_partMany m_pathMany m_heavyMany m_mostMet cyI fm fl fe vv vn f av an (upd nl m_nodes.toNatClampNeg p0) (upd nr m_nodes.toNatClampNeg p1) p0 y_5 p2 H.size b0 (by omega) (by omega) b3 b4 (om_31 b5 i_1) (by omega) s4 (by omega)) (cwV 3 hts gX5_lays_X5_lays rfl rfl rfl (by decide +kernel) ⟨Nat.le_of_ble_eq_true rfl, Nat.le_of_ble_eq_true rfl⟩) ⟨fun a U g mk q => by obtain ⟨q0, q1, qP, qK, qD⟩ := q; exact ⟨q0, q1, qP, va_K.moved (u := U) (U := U.calling g mk a) (Vm.Alike.refl U.vm) qK, qD⟩, va_recv hKc hPc (ci := 5) (q0 := 0) rfl rfl, fun U hU hW => ⟨rfl, by rw [hU], by rw [hU]; exact hPc, va_K.moved hW.alike hKc, hDc.weaken (fun _ _ _ _ => trivial)⟩⟩ rfl rfl hl.1 rfl (lv_room (Nat.le_of_ble_eq_true rfl)) dX5_lays_66 ⟨Nat.le_of_ble_eq_true rfl, Nat.le_of_ble_eq_true rfl⟩) hS (fun q _ h => hFc q h) hFc (fun r_6 u t H1 locs ht hvm w_6 hB hz1 hk1 hS => ?_)
    obtain ⟨o_7, o_8, o_9, o_10, o_11, o_12, o_13, o_14, o_15, o_16, o_17⟩ := u
    dsimp only at w_6 hB
    obtain ⟨hP1, hK1, hD1⟩ := hB
    rw [ht] at hP1
    have hK1 := va_K.moved hvm.symm hK1
    have hD := hD1.weaken (fun _ q _ h => hFc q.1 h)
    have hP := hP1
    clear hP1 hD1 hK1 hk1 hz1 hFc hDc hPc hKc
    generalize H1 = H at hP hS ⊢
    have w_6 : r_6 = y_1 ∧ o_7.toInt = y_1.toInt + 2 * (y_5.toInt - p0.toInt) - 1 ∧ six4 o_9 ∧ mj_S p2.toNatClampNeg f o_16 o_17 o_9 o_10 o_11 o_12 o_13 7 y_1.toNatClampNeg p0.toNatClampNeg y_5.toNatClampNeg ∧ mj_ag 0 y_1.toNatClampNeg (upd nl m_nodes.toNatClampNeg p0) (upd nr m_nodes.toNatClampNeg p1) fm fl fe vv vn o_16 o_17 o_9 o_10 o_11 o_12 o_13 := w_6
    refine lv_istore (lv' := [(6, .int r_6), (5, .int y_5), (4, .int m_nodes), (0, .ref h0), (1, .int p0), (2, .int p1), (3, .int p2)]) hx hb dX5_lays_69 hl (by decide) rfl (fun ls hl => ?_)
    refine lv_aload_n hx hb dX5_lays_71 rfl (lv_at hl 3 rfl) ?_
    refine lv_iload hx hb dX5_lays_72 (lv_at hl 1 rfl) ?_
    refine lv_iload_n hx hb dX5_lays_74 rfl (lv_at hl 5 rfl) ?_
    refine lv_iload_n hx hb dX5_lays_75 rfl (lv_at hl 6 rfl) ?_
    have hPc := hP
    have hKc := hK
    have hDc := hD
    have hFc := kx_free hD hS hA
    refine va_calli (va_runV (As := [.int y_5, .int p1, .int p2]) (rest := []) ⟨hx, hb, hml, hown, hts⟩ (c_X5_lays_7 l dC dI h0 g_row g_many g_loss g_less g_voteValue g_voteNumber g_allValue g_allNumber g_nodeL g_nodeR g_part g_wasMany g_wasLoss g_wasValue g_wasNumber g_path g_heavyValue g_heavyTimes g_fewest g_which g_met m_n m_slots m_thrown o_8 o_7 m_partMany m_pathMany m_heavyMany m_mostMet cyI o_9 o_10 o_11 o_12 o_13 f o_14 o_15 o_16 o_17 y_5 p1 p2 H.size (by omega) (by omega) b2 b3 b4 (by omega) (om_234 b6 i_1 w_6.2.1) w_6.2.2.1 (by omega)) (cwV 3 hts gX5_lays_X5_lays rfl rfl rfl (by decide +kernel) ⟨Nat.le_of_ble_eq_true rfl, Nat.le_of_ble_eq_true rfl⟩) ⟨fun a U g mk q => by obtain ⟨q0, q1, qP, qK, qD⟩ := q; exact ⟨q0, q1, qP, va_K.moved (u := U) (U := U.calling g mk a) (Vm.Alike.refl U.vm) qK, qD⟩, va_recv hKc hPc (ci := 5) (q0 := 0) rfl rfl, fun U hU hW => ⟨rfl, by rw [hU], by rw [hU]; exact hPc, va_K.moved hW.alike hKc, hDc.weaken (fun _ _ _ _ => trivial)⟩⟩ rfl rfl hl.1 rfl (lv_room (Nat.le_of_ble_eq_true rfl)) dX5_lays_76 ⟨Nat.le_of_ble_eq_true rfl, Nat.le_of_ble_eq_true rfl⟩) hS (fun q _ h => hFc q h) hFc (fun r_18 u t H1 locs ht hvm w_18 hB hz1 hk1 hS => ?_)
    obtain ⟨o_19, o_20, o_21, o_22, o_23, o_24, o_25, o_26, o_27, o_28, o_29⟩ := u
    dsimp only at w_18 hB
    obtain ⟨hP1, hK1, hD1⟩ := hB
    rw [ht] at hP1
    have hK1 := va_K.moved hvm.symm hK1
    have hD := hD1.weaken (fun _ q _ h => hFc q.1 h)
    have hP := hP1
    clear hP1 hD1 hK1 hk1 hz1 hFc hDc hPc hKc
    generalize H1 = H at hP hS ⊢
    have w_18 : r_18 = o_7 ∧ o_19.toInt = o_7.toInt + 2 * (p1.toInt - y_5.toInt) - 1 ∧ six4 o_21 ∧ mj_S p2.toNatClampNeg f o_28 o_29 o_21 o_22 o_23 o_24 o_25 7 o_7.toNatClampNeg y_5.toNatClampNeg p1.toNatClampNeg ∧ mj_ag 0 o_7.toNatClampNeg o_16 o_17 o_9 o_10 o_11 o_12 o_13 o_28 o_29 o_21 o_22 o_23 o_24 o_25 := w_18
    refine lv_istore (lv' := [(7, .int r_18), (6, .int r_6), (5, .int y_5), (4, .int m_nodes), (0, .ref h0), (1, .int p0), (2, .int p1), (3, .int p2)]) hx hb dX5_lays_79 hl (by decide) rfl (fun ls hl => ?_)
    have n_p0 := ki_nat p0 rfl (om_8 b0)
    have n_p1 := ki_nat p1 rfl (om_18 b0 b1)
    have n_p2 := ki_nat p2 rfl (om_44 b3)
    have n_nd := ki_nat m_nodes rfl (om_8 b5)
    have n_y := ki_nat y_1 rfl (om_31 b5 i_1)
    have n_md := ki_nat y_5 rfl (by omega)
    have n_oL := ki_nat o_7 rfl (by omega)
    have i_rL : r_6.toInt = y_1.toInt := congrArg Int32.toInt w_6.1
    have i_rR : r_18.toInt = o_7.toInt := congrArg Int32.toInt w_18.1
    obtain ⟨mua, La, ca, tA⟩ := w_6.2.2.2.1
    obtain ⟨mub, Lb, cb, tB⟩ := w_18.2.2.2.1
    have tA2 := mj_T_ag _ _ o_7.toNatClampNeg _ _ _ _ _ tA (by omega) (mj_ag_sub w_18.2.2.2.2 (by omega) (Nat.le_refl _))
    have nA := mj_T_nd tA2
    have nB := mj_T_nd tB
    refine lv_aload_n hx hb dX5_lays_81 rfl (lv_at hl 4 rfl) ?_
    refine lv_iload hx hb dX5_lays_82 (lv_at hl 1 rfl) ?_
    refine lv_iload hx hb dX5_lays_84 (lv_at hl 0 rfl) ?_
    refine lv_iload hx hb dX5_lays_86 (lv_at hl 3 rfl) ?_
    refine lv_iload_n hx hb dX5_lays_88 rfl (lv_at hl 7 rfl) ?_
    have hPc := hP.sub (ws' := [kx_5 h0 g_row m_n m_slots m_thrown g_many g_loss g_less g_voteValue g_voteNumber g_allValue g_allNumber o_20 g_nodeL g_nodeR o_19 g_part m_partMany g_wasMany g_wasLoss g_wasValue g_wasNumber g_path m_pathMany g_heavyValue g_heavyTimes m_heavyMany g_fewest g_which g_met m_mostMet, kx_a g_many cyI 324 o_21, kx_a g_loss cyI 324 o_22, kx_a g_less cyI 324 o_23, kx_a g_voteValue cyI 1944 o_24, kx_a g_voteNumber cyI 1944 o_25, kx_a g_allValue cyI 12 o_26, kx_a g_allNumber cyI 12 o_27]) [0, 2, 3, 4, 5, 6, 7, 8] rfl
    have hKc := hK
    have hDc := hD.sub (ws' := [kx_5 h0 g_row m_n m_slots m_thrown g_many g_loss g_less g_voteValue g_voteNumber g_allValue g_allNumber o_20 g_nodeL g_nodeR o_19 g_part m_partMany g_wasMany g_wasLoss g_wasValue g_wasNumber g_path m_pathMany g_heavyValue g_heavyTimes m_heavyMany g_fewest g_which g_met m_mostMet, kx_a g_many cyI 324 o_21, kx_a g_loss cyI 324 o_22, kx_a g_less cyI 324 o_23, kx_a g_voteValue cyI 1944 o_24, kx_a g_voteNumber cyI 1944 o_25, kx_a g_allValue cyI 12 o_26, kx_a g_allNumber cyI 12 o_27]) [0, 2, 3, 4, 5, 6, 7, 8] (by decide) rfl
    have hFc := va_free (wc := [kx_5 h0 g_row m_n m_slots m_thrown g_many g_loss g_less g_voteValue g_voteNumber g_allValue g_allNumber o_20 g_nodeL g_nodeR o_19 g_part m_partMany g_wasMany g_wasLoss g_wasValue g_wasNumber g_path m_pathMany g_heavyValue g_heavyTimes m_heavyMany g_fewest g_which g_met m_mostMet, kx_a g_many cyI 324 o_21, kx_a g_loss cyI 324 o_22, kx_a g_less cyI 324 o_23, kx_a g_voteValue cyI 1944 o_24, kx_a g_voteNumber cyI 1944 o_25, kx_a g_allValue cyI 12 o_26, kx_a g_allNumber cyI 12 o_27]) hD hS hA [0, 2, 3, 4, 5, 6, 7, 8] rfl
    refine va_callv (va_runV (As := [.int r_6, .int r_18, .int m_nodes, .int p2]) (rest := []) ⟨hx, hb, hml, hown, hts⟩ (c_X5_together l dC dI h0 g_row g_many g_loss g_less g_voteValue g_voteNumber g_allValue g_allNumber g_nodeL g_nodeR g_part g_wasMany g_wasLoss g_wasValue g_wasNumber g_path g_heavyValue g_heavyTimes g_fewest g_which g_met m_n m_slots m_thrown o_20 o_19 m_partMany m_pathMany m_heavyMany m_mostMet cyI o_21 o_22 o_23 o_24 o_25 o_26 o_27 mua mub r_6 r_18 m_nodes p2 H.size (by omega) (by omega) (by omega) (by omega) (by omega) (by omega) (by omega) (by omega) (by rw [w_6.1]; exact nA.2.2.1) (by rw [w_6.1]; exact nA.2.2.2.1) (by rw [w_18.1]; exact nB.2.2.1) (by rw [w_18.1]; exact nB.2.2.2.1) (by rw [w_6.1]; exact nA.2.2.2.2.2.2.2.1) (by rw [w_18.1]; exact nB.2.2.2.2.2.2.2.1) (fun v => by have h1 := mj_T_le _ _ _ _ _ _ _ tA2 v; have h2 := mj_T_le _ _ _ _ _ _ _ tB v; omega)) (cwV 4 hts gX5_lays_X5_together rfl rfl rfl (by decide +kernel) ⟨Nat.le_of_ble_eq_true rfl, Nat.le_of_ble_eq_true rfl⟩) ⟨fun a U g mk q => by obtain ⟨q0, q1, qP, qK, qD⟩ := q; exact ⟨q0, q1, qP, va_K.moved (u := U) (U := U.calling g mk a) (Vm.Alike.refl U.vm) qK, qD⟩, va_recv hKc hPc (ci := 5) (q0 := 0) rfl rfl, fun U hU hW => ⟨rfl, by rw [hU], by rw [hU]; exact hPc, va_K.moved hW.alike hKc, hDc.weaken (fun _ _ _ _ => trivial)⟩⟩ rfl rfl hl.1 rfl (lv_room (Nat.le_of_ble_eq_true rfl)) dX5_lays_89 ⟨Nat.le_of_ble_eq_true rfl, Nat.le_of_ble_eq_true rfl⟩) hS (fun q _ h => hFc q h) hFc (fun u t H1 locs ht hvm w_30 hB hz1 hk1 hS => ?_)
    obtain ⟨o_31, o_32, o_33, o_34, o_35, o_36, o_37, o_38, o_39, o_40, o_41⟩ := u
    dsimp only at w_30 hB
    obtain ⟨hP1, hK1, hD1⟩ := hB
    rw [ht] at hP1
    have hK1 := va_K.moved hvm.symm hK1
    obtain ⟨hP, hD⟩ := va_join (wr := [kx_a g_row cyI 160 f, kx_a g_nodeL cyI 320 o_28, kx_a g_nodeR cyI 320 o_29]) (w1 := [kx_5 h0 g_row m_n m_slots m_thrown g_many g_loss g_less g_voteValue g_voteNumber g_allValue g_allNumber o_31 g_nodeL g_nodeR o_19 g_part m_partMany g_wasMany g_wasLoss g_wasValue g_wasNumber g_path m_pathMany g_heavyValue g_heavyTimes m_heavyMany g_fewest g_which g_met m_mostMet, kx_a g_many cyI 324 o_35, kx_a g_loss cyI 324 o_36, kx_a g_less cyI 324 o_37, kx_a g_voteValue cyI 1944 o_38, kx_a g_voteNumber cyI 1944 o_39, kx_a g_allValue cyI 12 o_40, kx_a g_allNumber cyI 12 o_41]) hP hD [0, 2, 3, 4, 5, 6, 7, 8] [1, 9, 10] rfl rfl (by decide) (by decide) hk1 hFc hP1 hD1
    clear hP1 hD1 hK1 hk1 hz1 hFc hDc hPc hKc
    generalize H1 = H at hP hS ⊢
    have hP : va_P (dC, dI) vwCl [kx_a g_row cyI 160 f, kx_a g_nodeL cyI 320 o_28, kx_a g_nodeR cyI 320 o_29, kx_5 h0 g_row m_n m_slots m_thrown g_many g_loss g_less g_voteValue g_voteNumber g_allValue g_allNumber o_31 g_nodeL g_nodeR o_19 g_part m_partMany g_wasMany g_wasLoss g_wasValue g_wasNumber g_path m_pathMany g_heavyValue g_heavyTimes m_heavyMany g_fewest g_which g_met m_mostMet, kx_a g_many cyI 324 o_35, kx_a g_loss cyI 324 o_36, kx_a g_less cyI 324 o_37, kx_a g_voteValue cyI 1944 o_38, kx_a g_voteNumber cyI 1944 o_39, kx_a g_allValue cyI 12 o_40, kx_a g_allNumber cyI 12 o_41] H := hP
    have hD : va_D A [kx_a g_row cyI 160 f, kx_a g_nodeL cyI 320 o_28, kx_a g_nodeR cyI 320 o_29, kx_5 h0 g_row m_n m_slots m_thrown g_many g_loss g_less g_voteValue g_voteNumber g_allValue g_allNumber o_31 g_nodeL g_nodeR o_19 g_part m_partMany g_wasMany g_wasLoss g_wasValue g_wasNumber g_path m_pathMany g_heavyValue g_heavyTimes m_heavyMany g_fewest g_which g_met m_mostMet, kx_a g_many cyI 324 o_35, kx_a g_loss cyI 324 o_36, kx_a g_less cyI 324 o_37, kx_a g_voteValue cyI 1944 o_38, kx_a g_voteNumber cyI 1944 o_39, kx_a g_allValue cyI 12 o_40, kx_a g_allNumber cyI 12 o_41] := hD
    have w_30 : mj_tog p2.toNatClampNeg mua mub o_34 o_32 ∧ o_36 = upd o_22 m_nodes.toNatClampNeg (o_22 r_6.toNatClampNeg + o_22 r_18.toNatClampNeg + o_32) ∧ o_37 = upd o_23 m_nodes.toNatClampNeg o_32 ∧ o_35 = upd o_21 m_nodes.toNatClampNeg o_33 ∧ 0 ≤ o_33.toInt ∧ o_33.toInt ≤ p2.toInt ∧ mj_vs o_38 o_39 (6 * m_nodes.toNatClampNeg) o_33.toNatClampNeg o_34 ∧ mj_srt o_38 o_39 (6 * m_nodes.toNatClampNeg) o_33.toNatClampNeg ∧ ∀ q : Nat, (q < 6 * m_nodes.toNatClampNeg ∨ 6 * m_nodes.toNatClampNeg + 6 ≤ q) → o_38 q = o_24 q ∧ o_39 q = o_25 q := w_30
    refine lv_iload hx hb dX5_lays_92 (lv_at hl 3 rfl) ?_
    have hP9 := hP.sub (ws' := [kx_5 h0 g_row m_n m_slots m_thrown g_many g_loss g_less g_voteValue g_voteNumber g_allValue g_allNumber o_31 g_nodeL g_nodeR o_19 g_part m_partMany g_wasMany g_wasLoss g_wasValue g_wasNumber g_path m_pathMany g_heavyValue g_heavyTimes m_heavyMany g_fewest g_which g_met m_mostMet, kx_a g_row cyI 160 f, kx_a g_many cyI 324 o_35, kx_a g_loss cyI 324 o_36, kx_a g_less cyI 324 o_37, kx_a g_voteValue cyI 1944 o_38, kx_a g_voteNumber cyI 1944 o_39, kx_a g_allValue cyI 12 o_40, kx_a g_allNumber cyI 12 o_41, kx_a g_nodeL cyI 320 o_28, kx_a g_nodeR cyI 320 o_29]) [3, 0, 4, 5, 6, 7, 8, 9, 10, 1, 2] rfl
    have hD9 := hD.sub (ws' := [kx_5 h0 g_row m_n m_slots m_thrown g_many g_loss g_less g_voteValue g_voteNumber g_allValue g_allNumber o_31 g_nodeL g_nodeR o_19 g_part m_partMany g_wasMany g_wasLoss g_wasValue g_wasNumber g_path m_pathMany g_heavyValue g_heavyTimes m_heavyMany g_fewest g_which g_met m_mostMet, kx_a g_row cyI 160 f, kx_a g_many cyI 324 o_35, kx_a g_loss cyI 324 o_36, kx_a g_less cyI 324 o_37, kx_a g_voteValue cyI 1944 o_38, kx_a g_voteNumber cyI 1944 o_39, kx_a g_allValue cyI 12 o_40, kx_a g_allNumber cyI 12 o_41, kx_a g_nodeL cyI 320 o_28, kx_a g_nodeR cyI 320 o_29]) [3, 0, 4, 5, 6, 7, 8, 9, 10, 1, 2] (by decide) rfl
    have hK9 := hK
    have e_fl := w_30.2.1
    rw [w_6.1, w_18.1] at e_fl
    have hN := mj_lay_node (l := p0.toNatClampNeg) (r := p1.toNatClampNeg) (md := y_5.toNatClampNeg) (a := m_nodes.toNatClampNeg) (by omega) (by omega) (by omega) (by omega) (by omega) (by omega) (mj_ag_sub w_6.2.2.2.2 (Nat.le_refl _) (by omega)) w_18.2.2.2.2 tA2 tB w_30.1 w_30.2.2.2.1 w_30.2.2.2.2.1 (by have := w_30.2.2.2.2.2.1; omega) (by omega) e_fl w_30.2.2.1 w_30.2.2.2.2.2.2.1 w_30.2.2.2.2.2.2.2.1 w_30.2.2.2.2.2.2.2.2
    exact W.iret (v := m_nodes) hx hb hr (fun t ht hW => ⟨⟨m_nodes, (o_19, o_31, o_35, o_36, o_37, o_38, o_39, o_40, o_41, o_28, o_29), rfl, ⟨rfl, (by (try dsimp only); omega), (by (try dsimp only); rw [w_30.2.2.2.1]; exact six4_upd w_18.2.2.1 w_30.2.2.2.2.1 (by have := w_30.2.2.2.2.2.1; omega)), hN.1, hN.2⟩, by rw [ht]; exact hP9, va_K.moved hW.alike hK9, hD9⟩, hS.F ht⟩) hS.2.2 dX5_lays_94
  · have i_3 : y_2.toInt = 1 := kc_eq c_3
    refine lv_aload_n hx hb dX5_lays_39 rfl (lv_at hl 1 rfl) ?_
    refine lv_iload hx hb dX5_lays_40 (lv_at hl 0 rfl) ?_
    refine lv_aload_n hx hb dX5_lays_42 rfl (lv_at hl 1 rfl) ?_
    refine va_get (D := (dC, dI)) (ci := 5) (v := .ref g_row) (C := RX5) (T := TX5) (N := 30) hx hb hts hi_5 hown hK hP 0 rfl rfl 0 (by decide) hf_7 (fun _ h9 => h9) rfl dX5_lays_43 ?_
    refine lv_iload_n hx hb dX5_lays_46 rfl (lv_at hl 2 rfl) ?_
    refine va_iald hx hb hK hP 1 0 rfl rfl (ki_in (om_8 b0) (om_67 b1 b2)) dX5_lays_47 ?_
    refine lv_topi (fun y_42 ey_42 => ?_)
    have j_42 : y_42.toInt = (f p0.toNatClampNeg).toInt := congrArg Int32.toInt ey_42
    have hPc := hP.sub (ws' := [kx_5 h0 g_row m_n m_slots m_thrown g_many g_loss g_less g_voteValue g_voteNumber g_allValue g_allNumber m_allMany g_nodeL g_nodeR y_1 g_part m_partMany g_wasMany g_wasLoss g_wasValue g_wasNumber g_path m_pathMany g_heavyValue g_heavyTimes m_heavyMany g_fewest g_which g_met m_mostMet, kx_a g_many cyI 324 fm, kx_a g_loss cyI 324 fl, kx_a g_less cyI 324 fe, kx_a g_voteValue cyI 1944 vv, kx_a g_voteNumber cyI 1944 vn]) [0, 2, 3, 4, 5, 6] rfl
    have hKc := hK
    have hDc := hD.sub (ws' := [kx_5 h0 g_row m_n m_slots m_thrown g_many g_loss g_less g_voteValue g_voteNumber g_allValue g_allNumber m_allMany g_nodeL g_nodeR y_1 g_part m_partMany g_wasMany g_wasLoss g_wasValue g_wasNumber g_path m_pathMany g_heavyValue g_heavyTimes m_heavyMany g_fewest g_which g_met m_mostMet, kx_a g_many cyI 324 fm, kx_a g_loss cyI 324 fl, kx_a g_less cyI 324 fe, kx_a g_voteValue cyI 1944 vv, kx_a g_voteNumber cyI 1944 vn]) [0, 2, 3, 4, 5, 6] (by decide) rfl
    have hFc := va_free (wc := [kx_5 h0 g_row m_n m_slots m_thrown g_many g_loss g_less g_voteValue g_voteNumber g_allValue g_allNumber m_allMany g_nodeL g_nodeR y_1 g_part m_partMany g_wasMany g_wasLoss g_wasValue g_wasNumber g_path m_pathMany g_heavyValue g_heavyTimes m_heavyMany g_fewest g_which g_met m_mostMet, kx_a g_many cyI 324 fm, kx_a g_loss cyI 324 fl, kx_a g_less cyI 324 fe, kx_a g_voteValue cyI 1944 vv, kx_a g_voteNumber cyI 1944 vn]) hD hS hA [0, 2, 3, 4, 5, 6] rfl
    refine va_callv (va_runV (As := [.int m_nodes, .int y_42]) (rest := []) ⟨hx, hb, hml, hown, hts⟩ (c_X5_one_x l dC dI h0 g_row g_many g_loss g_less g_voteValue g_voteNumber g_allValue g_allNumber g_nodeL g_nodeR g_part g_wasMany g_wasLoss g_wasValue g_wasNumber g_path g_heavyValue g_heavyTimes g_fewest g_which g_met m_n m_slots m_thrown m_allMany y_1 m_partMany m_pathMany m_heavyMany m_mostMet cyI fm fl fe vv vn m_nodes y_42 H.size b5 (om_230 b1 b6)) (cwV 2 hts gX5_lays_X5_one rfl rfl rfl (by decide +kernel) ⟨Nat.le_of_ble_eq_true rfl, Nat.le_of_ble_eq_true rfl⟩) ⟨fun a U g mk q => by obtain ⟨q0, q1, qP, qK, qD⟩ := q; exact ⟨q0, q1, qP, va_K.moved (u := U) (U := U.calling g mk a) (Vm.Alike.refl U.vm) qK, qD⟩, va_recv hKc hPc (ci := 5) (q0 := 0) rfl rfl, fun U hU hW => ⟨rfl, by rw [hU], by rw [hU]; exact hPc, va_K.moved hW.alike hKc, hDc.weaken (fun _ _ _ _ => trivial)⟩⟩ rfl rfl hl.1 rfl (lv_room (Nat.le_of_ble_eq_true rfl)) dX5_lays_48 ⟨Nat.le_of_ble_eq_true rfl, Nat.le_of_ble_eq_true rfl⟩) hS (fun q _ h => hFc q h) hFc (fun u t H1 locs ht hvm w_43 hB hz1 hk1 hS => ?_)
    obtain ⟨o_44, o_45, o_46, o_47, o_48⟩ := u
    dsimp only at w_43 hB
    obtain ⟨hP1, hK1, hD1⟩ := hB
    rw [ht] at hP1
    have hK1 := va_K.moved hvm.symm hK1
    obtain ⟨hP, hD⟩ := va_join (wr := [kx_a g_row cyI 160 f, kx_a g_allValue cyI 12 av, kx_a g_allNumber cyI 12 an, kx_a g_nodeL cyI 320 (upd nl m_nodes.toNatClampNeg p0), kx_a g_nodeR cyI 320 (upd nr m_nodes.toNatClampNeg p1)]) (w1 := [kx_5 h0 g_row m_n m_slots m_thrown g_many g_loss g_less g_voteValue g_voteNumber g_allValue g_allNumber m_allMany g_nodeL g_nodeR y_1 g_part m_partMany g_wasMany g_wasLoss g_wasValue g_wasNumber g_path m_pathMany g_heavyValue g_heavyTimes m_heavyMany g_fewest g_which g_met m_mostMet, kx_a g_many cyI 324 o_44, kx_a g_loss cyI 324 o_45, kx_a g_less cyI 324 o_46, kx_a g_voteValue cyI 1944 o_47, kx_a g_voteNumber cyI 1944 o_48]) hP hD [0, 2, 3, 4, 5, 6] [1, 7, 8, 9, 10] rfl rfl (by decide) (by decide) hk1 hFc hP1 hD1
    clear hP1 hD1 hK1 hk1 hz1 hFc hDc hPc hKc
    generalize H1 = H at hP hS ⊢
    have hP : va_P (dC, dI) vwCl [kx_a g_row cyI 160 f, kx_a g_allValue cyI 12 av, kx_a g_allNumber cyI 12 an, kx_a g_nodeL cyI 320 (upd nl m_nodes.toNatClampNeg p0), kx_a g_nodeR cyI 320 (upd nr m_nodes.toNatClampNeg p1), kx_5 h0 g_row m_n m_slots m_thrown g_many g_loss g_less g_voteValue g_voteNumber g_allValue g_allNumber m_allMany g_nodeL g_nodeR y_1 g_part m_partMany g_wasMany g_wasLoss g_wasValue g_wasNumber g_path m_pathMany g_heavyValue g_heavyTimes m_heavyMany g_fewest g_which g_met m_mostMet, kx_a g_many cyI 324 o_44, kx_a g_loss cyI 324 o_45, kx_a g_less cyI 324 o_46, kx_a g_voteValue cyI 1944 o_47, kx_a g_voteNumber cyI 1944 o_48] H := hP
    have hD : va_D A [kx_a g_row cyI 160 f, kx_a g_allValue cyI 12 av, kx_a g_allNumber cyI 12 an, kx_a g_nodeL cyI 320 (upd nl m_nodes.toNatClampNeg p0), kx_a g_nodeR cyI 320 (upd nr m_nodes.toNatClampNeg p1), kx_5 h0 g_row m_n m_slots m_thrown g_many g_loss g_less g_voteValue g_voteNumber g_allValue g_allNumber m_allMany g_nodeL g_nodeR y_1 g_part m_partMany g_wasMany g_wasLoss g_wasValue g_wasNumber g_path m_pathMany g_heavyValue g_heavyTimes m_heavyMany g_fewest g_which g_met m_mostMet, kx_a g_many cyI 324 o_44, kx_a g_loss cyI 324 o_45, kx_a g_less cyI 324 o_46, kx_a g_voteValue cyI 1944 o_47, kx_a g_voteNumber cyI 1944 o_48] := hD
    have w_43 : o_44 = upd fm m_nodes.toNatClampNeg 1 ∧ o_45 = upd fl m_nodes.toNatClampNeg 0 ∧ o_46 = upd fe m_nodes.toNatClampNeg 0 ∧ o_47 = upd vv (6 * m_nodes.toNatClampNeg) y_42 ∧ o_48 = upd vn (6 * m_nodes.toNatClampNeg) 1 := w_43
    refine lv_iload hx hb dX5_lays_51 (lv_at hl 0 rfl) ?_
    have hP9 := hP.sub (ws' := [kx_5 h0 g_row m_n m_slots m_thrown g_many g_loss g_less g_voteValue g_voteNumber g_allValue g_allNumber m_allMany g_nodeL g_nodeR y_1 g_part m_partMany g_wasMany g_wasLoss g_wasValue g_wasNumber g_path m_pathMany g_heavyValue g_heavyTimes m_heavyMany g_fewest g_which g_met m_mostMet, kx_a g_row cyI 160 f, kx_a g_many cyI 324 o_44, kx_a g_loss cyI 324 o_45, kx_a g_less cyI 324 o_46, kx_a g_voteValue cyI 1944 o_47, kx_a g_voteNumber cyI 1944 o_48, kx_a g_allValue cyI 12 av, kx_a g_allNumber cyI 12 an, kx_a g_nodeL cyI 320 (upd nl m_nodes.toNatClampNeg p0), kx_a g_nodeR cyI 320 (upd nr m_nodes.toNatClampNeg p1)]) [5, 0, 6, 7, 8, 9, 10, 1, 2, 3, 4] rfl
    have hD9 := hD.sub (ws' := [kx_5 h0 g_row m_n m_slots m_thrown g_many g_loss g_less g_voteValue g_voteNumber g_allValue g_allNumber m_allMany g_nodeL g_nodeR y_1 g_part m_partMany g_wasMany g_wasLoss g_wasValue g_wasNumber g_path m_pathMany g_heavyValue g_heavyTimes m_heavyMany g_fewest g_which g_met m_mostMet, kx_a g_row cyI 160 f, kx_a g_many cyI 324 o_44, kx_a g_loss cyI 324 o_45, kx_a g_less cyI 324 o_46, kx_a g_voteValue cyI 1944 o_47, kx_a g_voteNumber cyI 1944 o_48, kx_a g_allValue cyI 12 av, kx_a g_allNumber cyI 12 an, kx_a g_nodeL cyI 320 (upd nl m_nodes.toNatClampNeg p0), kx_a g_nodeR cyI 320 (upd nr m_nodes.toNatClampNeg p1)]) [5, 0, 6, 7, 8, 9, 10, 1, 2, 3, 4] (by decide) rfl
    have hK9 := hK
    have n_p0 := ki_nat p0 rfl (om_8 b0)
    have n_p1 := ki_nat p1 rfl (om_18 b0 b1)
    have n_p2 := ki_nat p2 rfl (om_44 b3)
    have n_nd := ki_nat m_nodes rfl (om_8 b5)
    have e_vv := w_43.2.2.2.1
    rw [ey_42] at e_vv
    have hN := mj_lay_leaf (K := p2.toNatClampNeg) (f := f) (nl := nl) (nr := nr) (l := p0.toNatClampNeg) (r := p1.toNatClampNeg) (l32 := p0) (r32 := p1) 8 (by omega) (by omega) (by omega) (by omega) w_43.1 w_43.2.1 w_43.2.2.1 e_vv w_43.2.2.2.2
    exact W.iret (v := m_nodes) hx hb hr (fun t ht hW => ⟨⟨m_nodes, (y_1, m_allMany, o_44, o_45, o_46, o_47, o_48, av, an, (upd nl m_nodes.toNatClampNeg p0), (upd nr m_nodes.toNatClampNeg p1)), rfl, ⟨rfl, (by (try dsimp only); omega), (by (try dsimp only); rw [w_43.1]; exact six4_upd s4 (by decide) (by decide)), hN.1, hN.2⟩, by rw [ht]; exact hP9, va_K.moved hW.alike hK9, hD9⟩, hS.F ht⟩) hS.2.2 dX5_lays_53

set_option maxHeartbeats 4000000 in
set_option maxRecDepth 100000 in
theorem c_X5_laysAll (l : Launch) (dC : Nat → ClassId) (dI : Nat → Nat → Nat) (h0 : Nat) (g_row : Nat) (g_many : Nat) (g_loss : Nat) (g_less : Nat) (g_voteValue : Nat) (g_voteNumber : Nat) (g_allValue : Nat) (g_allNumber : Nat) (g_nodeL : Nat) (g_nodeR : Nat) (g_part : Nat) (g_wasMany : Nat) (g_wasLoss : Nat) (g_wasValue : Nat) (g_wasNumber : Nat) (g_path : Nat) (g_heavyValue : Nat) (g_heavyTimes : Nat) (g_fewest : Nat) (g_which : Nat) (g_met : Nat) (m_n : Int32) (m_slots : Int32) (m_thrown : Int32) (m_allMany : Int32) (m_nodes : Int32) (m_partMany : Int32) (m_pathMany : Int32) (m_heavyMany : Int32) (m_mostMet : Int32) (cyI : ClassId) (fm : Nat → Int32) (fl : Nat → Int32) (fe : Nat → Int32) (vv : Nat → Int32) (vn : Nat → Int32) (f : Nat → Int32) (av : Nat → Int32) (an : Nat → Int32) (nl : Nat → Int32) (nr : Nat → Int32) (p0 : Int32) (sz : Nat) (a0 : 0 ≤ m_n.toInt) (a1 : m_n.toInt ≤ 160) (b3 : 1 ≤ p0.toInt) (b4 : p0.toInt ≤ 6) (s4 : six4 fm) : Met l yX5_laysAll wsX5_laysAll ({ frames := 11, cells := 0, slots := 0, locals := 495 }) (va_Pc [.ref h0, .int p0] (fun U => U.heap.size = sz ∧ va_P (dC, dI) vwCl [kx_5 h0 g_row m_n m_slots m_thrown g_many g_loss g_less g_voteValue g_voteNumber g_allValue g_allNumber m_allMany g_nodeL g_nodeR m_nodes g_part m_partMany g_wasMany g_wasLoss g_wasValue g_wasNumber g_path m_pathMany g_heavyValue g_heavyTimes m_heavyMany g_fewest g_which g_met m_mostMet, kx_a g_row cyI 160 f, kx_a g_many cyI 324 fm, kx_a g_loss cyI 324 fl, kx_a g_less cyI 324 fe, kx_a g_voteValue cyI 1944 vv, kx_a g_voteNumber cyI 1944 vn, kx_a g_allValue cyI 12 av, kx_a g_allNumber cyI 12 an, kx_a g_nodeL cyI 320 nl, kx_a g_nodeR cyI 320 nr] U.heap ∧ va_K (dC, dI) vwCl [(cyI, .int)] U ∧ va_D (fun _ => True) [kx_5 h0 g_row m_n m_slots m_thrown g_many g_loss g_less g_voteValue g_voteNumber g_allValue g_allNumber m_allMany g_nodeL g_nodeR m_nodes g_part m_partMany g_wasMany g_wasLoss g_wasValue g_wasNumber g_path m_pathMany g_heavyValue g_heavyTimes m_heavyMany g_fewest g_which g_met m_mostMet, kx_a g_row cyI 160 f, kx_a g_many cyI 324 fm, kx_a g_loss cyI 324 fl, kx_a g_less cyI 324 fe, kx_a g_voteValue cyI 1944 vv, kx_a g_voteNumber cyI 1944 vn, kx_a g_allValue cyI 12 av, kx_a g_allNumber cyI 12 an, kx_a g_nodeL cyI 320 nl, kx_a g_nodeR cyI 320 nr])) (va_Qv (fun u : Int32 × Int32 × (Nat → Int32) × (Nat → Int32) × (Nat → Int32) × (Nat → Int32) × (Nat → Int32) × (Nat → Int32) × (Nat → Int32) × (Nat → Int32) × (Nat → Int32) => mj_L p0.toNatClampNeg f u.2.2.2.2.2.2.2.2.2.1 u.2.2.2.2.2.2.2.2.2.2 u.2.2.1 u.2.2.2.1 u.2.2.2.2.1 u.2.2.2.2.2.1 u.2.2.2.2.2.2.1 m_n.toInt u.1.toInt ∧ six4 u.2.2.1 ∧ 0 ≤ u.1.toInt ∧ u.1.toInt ≤ 319) (fun (u : Int32 × Int32 × (Nat → Int32) × (Nat → Int32) × (Nat → Int32) × (Nat → Int32) × (Nat → Int32) × (Nat → Int32) × (Nat → Int32) × (Nat → Int32) × (Nat → Int32)) (t : State) => va_P (dC, dI) vwCl [kx_5 h0 g_row m_n m_slots m_thrown g_many g_loss g_less g_voteValue g_voteNumber g_allValue g_allNumber u.2.1 g_nodeL g_nodeR u.1 g_part m_partMany g_wasMany g_wasLoss g_wasValue g_wasNumber g_path m_pathMany g_heavyValue g_heavyTimes m_heavyMany g_fewest g_which g_met m_mostMet, kx_a g_row cyI 160 f, kx_a g_many cyI 324 u.2.2.1, kx_a g_loss cyI 324 u.2.2.2.1, kx_a g_less cyI 324 u.2.2.2.2.1, kx_a g_voteValue cyI 1944 u.2.2.2.2.2.1, kx_a g_voteNumber cyI 1944 u.2.2.2.2.2.2.1, kx_a g_allValue cyI 12 u.2.2.2.2.2.2.2.1, kx_a g_allNumber cyI 12 u.2.2.2.2.2.2.2.2.1, kx_a g_nodeL cyI 320 u.2.2.2.2.2.2.2.2.2.1, kx_a g_nodeR cyI 320 u.2.2.2.2.2.2.2.2.2.2] t.heap ∧ va_K (dC, dI) vwCl [(cyI, .int)] t ∧ va_D (va_A [kx_5 h0 g_row m_n m_slots m_thrown g_many g_loss g_less g_voteValue g_voteNumber g_allValue g_allNumber m_allMany g_nodeL g_nodeR m_nodes g_part m_partMany g_wasMany g_wasLoss g_wasValue g_wasNumber g_path m_pathMany g_heavyValue g_heavyTimes m_heavyMany g_fewest g_which g_met m_mostMet, kx_a g_row cyI 160 f, kx_a g_many cyI 324 fm, kx_a g_loss cyI 324 fl, kx_a g_less cyI 324 fe, kx_a g_voteValue cyI 1944 vv, kx_a g_voteNumber cyI 1944 vn, kx_a g_allValue cyI 12 av, kx_a g_allNumber cyI 12 an, kx_a g_nodeL cyI 320 nl, kx_a g_nodeR cyI 320 nr] sz) [kx_5 h0 g_row m_n m_slots m_thrown g_many g_loss g_less g_voteValue g_voteNumber g_allValue g_allNumber u.2.1 g_nodeL g_nodeR u.1 g_part m_partMany g_wasMany g_wasLoss g_wasValue g_wasNumber g_path m_pathMany g_heavyValue g_heavyTimes m_heavyMany g_fewest g_which g_met m_mostMet, kx_a g_row cyI 160 f, kx_a g_many cyI 324 u.2.2.1, kx_a g_loss cyI 324 u.2.2.2.1, kx_a g_less cyI 324 u.2.2.2.2.1, kx_a g_voteValue cyI 1944 u.2.2.2.2.2.1, kx_a g_voteNumber cyI 1944 u.2.2.2.2.2.2.1, kx_a g_allValue cyI 12 u.2.2.2.2.2.2.2.1, kx_a g_allNumber cyI 12 u.2.2.2.2.2.2.2.2.1, kx_a g_nodeL cyI 320 u.2.2.2.2.2.2.2.2.2.1, kx_a g_nodeR cyI 320 u.2.2.2.2.2.2.2.2.2.2]) (va_A [kx_5 h0 g_row m_n m_slots m_thrown g_many g_loss g_less g_voteValue g_voteNumber g_allValue g_allNumber m_allMany g_nodeL g_nodeR m_nodes g_part m_partMany g_wasMany g_wasLoss g_wasValue g_wasNumber g_path m_pathMany g_heavyValue g_heavyTimes m_heavyMany g_fewest g_which g_met m_mostMet, kx_a g_row cyI 160 f, kx_a g_many cyI 324 fm, kx_a g_loss cyI 324 fl, kx_a g_less cyI 324 fe, kx_a g_voteValue cyI 1944 vv, kx_a g_voteNumber cyI 1944 vn, kx_a g_allValue cyI 12 av, kx_a g_allNumber cyI 12 an, kx_a g_nodeL cyI 320 nl, kx_a g_nodeR cyI 320 nr] sz)) 0 0 (va_A [kx_5 h0 g_row m_n m_slots m_thrown g_many g_loss g_less g_voteValue g_voteNumber g_allValue g_allNumber m_allMany g_nodeL g_nodeR m_nodes g_part m_partMany g_wasMany g_wasLoss g_wasValue g_wasNumber g_path m_pathMany g_heavyValue g_heavyTimes m_heavyMany g_fewest g_which g_met m_mostMet, kx_a g_row cyI 160 f, kx_a g_many cyI 324 fm, kx_a g_loss cyI 324 fl, kx_a g_less cyI 324 fe, kx_a g_voteValue cyI 1944 vv, kx_a g_voteNumber cyI 1944 vn, kx_a g_allValue cyI 12 av, kx_a g_allNumber cyI 12 an, kx_a g_nodeL cyI 320 nl, kx_a g_nodeR cyI 320 nr] sz) := by
  refine Met.ofW (cc := cX5_laysAll) (maxL := 2) (ret := none) (by decide) rfl ?_
  intro p e s m args below meth c s₁ B hml hv
  obtain ⟨rfl, hsz, hP, hK, hD0⟩ := hv
  have hx := B.exec
  have hb := B.bytes
  have hr := B.returns
  have hts := atoms_spec (ws := wsX5_laysAll) B.pre
  have hown : s.vm.findClass RX5 = some m.cls := findClass_of_methodNamed B.named
  have hlocks := B.notSynchronized
  subst hsz
  have hD := hD0.self (sz := s.heap.size)
  generalize hAe : va_A [kx_5 h0 g_row m_n m_slots m_thrown g_many g_loss g_less g_voteValue g_voteNumber g_allValue g_allNumber m_allMany g_nodeL g_nodeR m_nodes g_part m_partMany g_wasMany g_wasLoss g_wasValue g_wasNumber g_path m_pathMany g_heavyValue g_heavyTimes m_heavyMany g_fewest g_which g_met m_mostMet, kx_a g_row cyI 160 f, kx_a g_many cyI 324 fm, kx_a g_loss cyI 324 fl, kx_a g_less cyI 324 fe, kx_a g_voteValue cyI 1944 vv, kx_a g_voteNumber cyI 1944 vn, kx_a g_allValue cyI 12 av, kx_a g_allNumber cyI 12 an, kx_a g_nodeL cyI 320 nl, kx_a g_nodeR cyI 320 nr] s.heap.size = A at hD ⊢
  have hA : ∀ q : Nat, s.heap.size ≤ q → A q := fun q h => by rw [← hAe]; exact Or.inr h
  have hS : va_S A s.heap s.heap [] := va_S.rf
  have hP : va_P (dC, dI) vwCl [kx_5 h0 g_row m_n m_slots m_thrown g_many g_loss g_less g_voteValue g_voteNumber g_allValue g_allNumber m_allMany g_nodeL g_nodeR m_nodes g_part m_partMany g_wasMany g_wasLoss g_wasValue g_wasNumber g_path m_pathMany g_heavyValue g_heavyTimes m_heavyMany g_fewest g_which g_met m_mostMet, kx_a g_row cyI 160 f, kx_a g_many cyI 324 fm, kx_a g_loss cyI 324 fl, kx_a g_less cyI 324 fe, kx_a g_voteValue cyI 1944 vv, kx_a g_voteNumber cyI 1944 vn, kx_a g_allValue cyI 12 av, kx_a g_allNumber cyI 12 an, kx_a g_nodeL cyI 320 nl, kx_a g_nodeR cyI 320 nr] s.heap := hP
  have hl := lv_entry ([.ref h0, .int p0]) (n := 2) (Nat.le_of_ble_eq_true rfl)
  rw [lg_entry_eq]
  generalize (lg_sl ([.ref h0, .int p0]) ++ List.replicate (2 - (lg_sl ([.ref h0, .int p0])).length) Slot.unset).toArray = ls at hl ⊢
  have hl : lv_has ls 2 [(0, .ref h0), (1, .int p0)] := hl
  have hf_101 := hts (.fieldLink RX5 101 "MajorityIndexModel" "nodes" "I") (List.mem_of_getElem? (i := 1) rfl)
  have hi_5 : ∀ w ∈ u_ws RX5 TX5 30, w ∈ wsX5_laysAll := fun w h => List.mem_cons_of_mem _ (List.mem_append_right _ h)
  have hf_84 := hts (.fieldLink RX5 84 "MajorityIndexModel" "n" "I") (List.mem_of_getElem? (i := 2) rfl)
  refine lv_aload_n hx hb dX5_laysAll_0 rfl (lv_at hl 0 rfl) ?_
  refine lv_iconst (v := 0) hx hb dX5_laysAll_1 (by decide) ?_
  refine va_put (D := (dC, dI)) (ci := 5) (v := .int 0) (ty := .int) (C := RX5) (T := TX5) (N := 30) hx hb hts hi_5 tyX5 tyX5_ok nmX5 hown hK hP hD hS 0 rfl rfl 14 (by decide) hf_101 (fun _ h9 => h9) rfl (by decide +kernel) rfl rfl (Nat.le_of_ble_eq_true rfl) dX5_laysAll_2 (fun H locs hP hD hS => ?_)
  have hP : va_P (dC, dI) vwCl [kx_5 h0 g_row m_n m_slots m_thrown g_many g_loss g_less g_voteValue g_voteNumber g_allValue g_allNumber m_allMany g_nodeL g_nodeR 0 g_part m_partMany g_wasMany g_wasLoss g_wasValue g_wasNumber g_path m_pathMany g_heavyValue g_heavyTimes m_heavyMany g_fewest g_which g_met m_mostMet, kx_a g_row cyI 160 f, kx_a g_many cyI 324 fm, kx_a g_loss cyI 324 fl, kx_a g_less cyI 324 fe, kx_a g_voteValue cyI 1944 vv, kx_a g_voteNumber cyI 1944 vn, kx_a g_allValue cyI 12 av, kx_a g_allNumber cyI 12 an, kx_a g_nodeL cyI 320 nl, kx_a g_nodeR cyI 320 nr] H := hP
  have hD : va_D A [kx_5 h0 g_row m_n m_slots m_thrown g_many g_loss g_less g_voteValue g_voteNumber g_allValue g_allNumber m_allMany g_nodeL g_nodeR 0 g_part m_partMany g_wasMany g_wasLoss g_wasValue g_wasNumber g_path m_pathMany g_heavyValue g_heavyTimes m_heavyMany g_fewest g_which g_met m_mostMet, kx_a g_row cyI 160 f, kx_a g_many cyI 324 fm, kx_a g_loss cyI 324 fl, kx_a g_less cyI 324 fe, kx_a g_voteValue cyI 1944 vv, kx_a g_voteNumber cyI 1944 vn, kx_a g_allValue cyI 12 av, kx_a g_allNumber cyI 12 an, kx_a g_nodeL cyI 320 nl, kx_a g_nodeR cyI 320 nr] := hD
  refine lv_aload_n hx hb dX5_laysAll_5 rfl (lv_at hl 0 rfl) ?_
  refine va_get (D := (dC, dI)) (ci := 5) (v := .int m_n) (C := RX5) (T := TX5) (N := 30) hx hb hts hi_5 hown hK hP 0 rfl rfl 1 (by decide) hf_84 (fun _ h9 => h9) rfl dX5_laysAll_6 ?_
  refine lv_if_le (tgt := 23) hx hb dX5_laysAll_9 (by decide) (fun c_1 => ?_) (fun c_1 => ?_)
  · have i_1 : m_n.toInt ≤ 0 := kc_le c_1
    have hP9 := hP
    have hD9 := hD
    have hK9 := hK
    exact W.vret hx hb hr (fun t ht hW => ⟨⟨(0, m_allMany, fm, fl, fe, vv, vn, av, an, nl, nr), rfl, ⟨Or.inl ⟨by omega, rfl⟩, s4, (by (try dsimp only); decide), (by (try dsimp only); decide)⟩, by rw [ht]; exact hP9, va_K.moved hW.alike hK9, hD9⟩, hS.F ht⟩) hS.2.2 dX5_laysAll_23
  · have i_1 : 0 < m_n.toInt := kc_nle c_1
    refine lv_aload_n hx hb dX5_laysAll_12 rfl (lv_at hl 0 rfl) ?_
    refine lv_iconst (v := 0) hx hb dX5_laysAll_13 (by decide) ?_
    refine lv_aload_n hx hb dX5_laysAll_14 rfl (lv_at hl 0 rfl) ?_
    refine va_get (D := (dC, dI)) (ci := 5) (v := .int m_n) (C := RX5) (T := TX5) (N := 30) hx hb hts hi_5 hown hK hP 0 rfl rfl 1 (by decide) hf_84 (fun _ h9 => h9) rfl dX5_laysAll_15 ?_
    refine lv_iload_n hx hb dX5_laysAll_18 rfl (lv_at hl 1 rfl) ?_
    have hPc := hP
    have hKc := hK
    have k_2 : (0 : Int32).toInt = 0 := rfl
    have hDc := hD
    have hFc := kx_free hD hS hA
    refine va_calli (va_runV (As := [.int 0, .int m_n, .int p0]) (rest := []) ⟨hx, hb, hml, hown, hts⟩ (c_X5_lays_8 l dC dI h0 g_row g_many g_loss g_less g_voteValue g_voteNumber g_allValue g_allNumber g_nodeL g_nodeR g_part g_wasMany g_wasLoss g_wasValue g_wasNumber g_path g_heavyValue g_heavyTimes g_fewest g_which g_met m_n m_slots m_thrown m_allMany 0 m_partMany m_pathMany m_heavyMany m_mostMet cyI fm fl fe vv vn f av an nl nr 0 m_n p0 H.size om_32 i_1 a1 b3 b4 om_32 (om_242 a1) s4 (om_243 a1)) (cwV 3 hts gX5_laysAll_X5_lays rfl rfl rfl (by decide +kernel) ⟨Nat.le_of_ble_eq_true rfl, Nat.le_of_ble_eq_true rfl⟩) ⟨fun a U g mk q => by obtain ⟨q0, q1, qP, qK, qD⟩ := q; exact ⟨q0, q1, qP, va_K.moved (u := U) (U := U.calling g mk a) (Vm.Alike.refl U.vm) qK, qD⟩, va_recv hKc hPc (ci := 5) (q0 := 0) rfl rfl, fun U hU hW => ⟨rfl, by rw [hU], by rw [hU]; exact hPc, va_K.moved hW.alike hKc, hDc.weaken (fun _ _ _ _ => trivial)⟩⟩ rfl rfl hl.1 rfl (lv_room (Nat.le_of_ble_eq_true rfl)) dX5_laysAll_19 ⟨Nat.le_of_ble_eq_true rfl, Nat.le_of_ble_eq_true rfl⟩) hS (fun q _ h => hFc q h) hFc (fun r_3 u t H1 locs ht hvm w_3 hB hz1 hk1 hS => ?_)
    obtain ⟨o_4, o_5, o_6, o_7, o_8, o_9, o_10, o_11, o_12, o_13, o_14⟩ := u
    dsimp only at w_3 hB
    obtain ⟨hP1, hK1, hD1⟩ := hB
    rw [ht] at hP1
    have hK1 := va_K.moved hvm.symm hK1
    have hD := hD1.weaken (fun _ q _ h => hFc q.1 h)
    have hP := hP1
    clear hP1 hD1 hK1 hk1 hz1 hFc hDc hPc hKc
    generalize H1 = H at hP hS ⊢
    have w_3 : r_3 = 0 ∧ o_4.toInt = 0 + 2 * (m_n.toInt - 0) - 1 ∧ six4 o_6 ∧ mj_S p0.toNatClampNeg f o_13 o_14 o_6 o_7 o_8 o_9 o_10 8 (0 : Int32).toNatClampNeg (0 : Int32).toNatClampNeg m_n.toNatClampNeg ∧ mj_ag 0 (0 : Int32).toNatClampNeg nl nr fm fl fe vv vn o_13 o_14 o_6 o_7 o_8 o_9 o_10 := w_3
    refine lv_pop hx hb dX5_laysAll_22 rfl ?_
    have hP9 := hP
    have hD9 := hD
    have hK9 := hK
    have k_0 : (0 : Int32).toInt = 0 := rfl
    have n_n := ki_nat m_n rfl (om_244 i_1)
    exact W.vret hx hb hr (fun t ht hW => ⟨⟨(o_4, o_5, o_6, o_7, o_8, o_9, o_10, o_11, o_12, o_13, o_14), rfl, ⟨Or.inr ⟨by omega, (by (try dsimp only); omega), (by (try dsimp only); exact w_3.2.2.2.1)⟩, w_3.2.2.1, (by (try dsimp only); omega), (by (try dsimp only); omega)⟩, by rw [ht]; exact hP9, va_K.moved hW.alike hK9, hD9⟩, hS.F ht⟩) hS.2.2 dX5_laysAll_23


