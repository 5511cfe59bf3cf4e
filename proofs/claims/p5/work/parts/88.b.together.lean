set_option maxHeartbeats 4000000 in
set_option maxRecDepth 100000 in
theorem c_X5_together (l : Launch) (dC : Nat → ClassId) (dI : Nat → Nat → Nat) (h0 : Nat) (g_row : Nat) (g_many : Nat) (g_loss : Nat) (g_less : Nat) (g_voteValue : Nat) (g_voteNumber : Nat) (g_allValue : Nat) (g_allNumber : Nat) (g_nodeL : Nat) (g_nodeR : Nat) (g_part : Nat) (g_wasMany : Nat) (g_wasLoss : Nat) (g_wasValue : Nat) (g_wasNumber : Nat) (g_path : Nat) (g_heavyValue : Nat) (g_heavyTimes : Nat) (g_fewest : Nat) (g_which : Nat) (g_met : Nat) (m_n : Int32) (m_slots : Int32) (m_thrown : Int32) (m_allMany : Int32) (m_nodes : Int32) (m_partMany : Int32) (m_pathMany : Int32) (m_heavyMany : Int32) (m_mostMet : Int32) (cyI : ClassId) (fm : Nat → Int32) (fl : Nat → Int32) (fe : Nat → Int32) (vv : Nat → Int32) (vn : Nat → Int32) (av : Nat → Int32) (an : Nat → Int32) (mua : Int32 → Int) (mub : Int32 → Int) (p0 : Int32) (p1 : Int32) (p2 : Int32) (p3 : Int32) (sz : Nat) (b0 : 0 ≤ p0.toInt) (b1 : p0.toInt < 324) (b2 : 0 ≤ p1.toInt) (b3 : p1.toInt < 324) (b4 : 0 ≤ p2.toInt) (b5 : p2.toInt ≤ 322) (b6 : 0 ≤ p3.toInt) (b7 : p3.toInt ≤ 6) (m0 : 0 ≤ (fm p0.toNatClampNeg).toInt) (m1 : (fm p0.toNatClampNeg).toInt ≤ 6) (m2 : 0 ≤ (fm p1.toNatClampNeg).toInt) (m3 : (fm p1.toNatClampNeg).toInt ≤ 6) (va : mj_vs vv vn (6 * p0.toNatClampNeg) (fm p0.toNatClampNeg).toNatClampNeg mua) (vb : mj_vs vv vn (6 * p1.toNatClampNeg) (fm p1.toNatClampNeg).toNatClampNeg mub) (bd : ∀ v : Int32, mua v + mub v ≤ 1000000) : Met l yX5_together wsX5_together ({ frames := 2, cells := 0, slots := 0, locals := 90 }) (va_Pc [.ref h0, .int p0, .int p1, .int p2, .int p3] (fun U => U.heap.size = sz ∧ va_P (dC, dI) vwCl [kx_5 h0 g_row m_n m_slots m_thrown g_many g_loss g_less g_voteValue g_voteNumber g_allValue g_allNumber m_allMany g_nodeL g_nodeR m_nodes g_part m_partMany g_wasMany g_wasLoss g_wasValue g_wasNumber g_path m_pathMany g_heavyValue g_heavyTimes m_heavyMany g_fewest g_which g_met m_mostMet, kx_a g_many cyI 324 fm, kx_a g_loss cyI 324 fl, kx_a g_less cyI 324 fe, kx_a g_voteValue cyI 1944 vv, kx_a g_voteNumber cyI 1944 vn, kx_a g_allValue cyI 12 av, kx_a g_allNumber cyI 12 an] U.heap ∧ va_K (dC, dI) vwCl [(cyI, .int)] U ∧ va_D (fun _ => True) [kx_5 h0 g_row m_n m_slots m_thrown g_many g_loss g_less g_voteValue g_voteNumber g_allValue g_allNumber m_allMany g_nodeL g_nodeR m_nodes g_part m_partMany g_wasMany g_wasLoss g_wasValue g_wasNumber g_path m_pathMany g_heavyValue g_heavyTimes m_heavyMany g_fewest g_which g_met m_mostMet, kx_a g_many cyI 324 fm, kx_a g_loss cyI 324 fl, kx_a g_less cyI 324 fe, kx_a g_voteValue cyI 1944 vv, kx_a g_voteNumber cyI 1944 vn, kx_a g_allValue cyI 12 av, kx_a g_allNumber cyI 12 an])) (va_Qv (fun u : Int32 × Int32 × Int32 × (Int32 → Int) × (Nat → Int32) × (Nat → Int32) × (Nat → Int32) × (Nat → Int32) × (Nat → Int32) × (Nat → Int32) × (Nat → Int32) => mj_tog p3.toNatClampNeg mua mub u.2.2.2.1 u.2.1 ∧ u.2.2.2.2.2.1 = upd fl p2.toNatClampNeg (fl p0.toNatClampNeg + fl p1.toNatClampNeg + u.2.1) ∧ u.2.2.2.2.2.2.1 = upd fe p2.toNatClampNeg u.2.1 ∧ u.2.2.2.2.1 = upd fm p2.toNatClampNeg u.2.2.1 ∧ 0 ≤ u.2.2.1.toInt ∧ u.2.2.1.toInt ≤ p3.toInt ∧ mj_vs u.2.2.2.2.2.2.2.1 u.2.2.2.2.2.2.2.2.1 (6 * p2.toNatClampNeg) u.2.2.1.toNatClampNeg u.2.2.2.1 ∧ mj_srt u.2.2.2.2.2.2.2.1 u.2.2.2.2.2.2.2.2.1 (6 * p2.toNatClampNeg) u.2.2.1.toNatClampNeg ∧ ∀ q : Nat, (q < 6 * p2.toNatClampNeg ∨ 6 * p2.toNatClampNeg + 6 ≤ q) → u.2.2.2.2.2.2.2.1 q = vv q ∧ u.2.2.2.2.2.2.2.2.1 q = vn q) (fun (u : Int32 × Int32 × Int32 × (Int32 → Int) × (Nat → Int32) × (Nat → Int32) × (Nat → Int32) × (Nat → Int32) × (Nat → Int32) × (Nat → Int32) × (Nat → Int32)) (t : State) => va_P (dC, dI) vwCl [kx_5 h0 g_row m_n m_slots m_thrown g_many g_loss g_less g_voteValue g_voteNumber g_allValue g_allNumber u.1 g_nodeL g_nodeR m_nodes g_part m_partMany g_wasMany g_wasLoss g_wasValue g_wasNumber g_path m_pathMany g_heavyValue g_heavyTimes m_heavyMany g_fewest g_which g_met m_mostMet, kx_a g_many cyI 324 u.2.2.2.2.1, kx_a g_loss cyI 324 u.2.2.2.2.2.1, kx_a g_less cyI 324 u.2.2.2.2.2.2.1, kx_a g_voteValue cyI 1944 u.2.2.2.2.2.2.2.1, kx_a g_voteNumber cyI 1944 u.2.2.2.2.2.2.2.2.1, kx_a g_allValue cyI 12 u.2.2.2.2.2.2.2.2.2.1, kx_a g_allNumber cyI 12 u.2.2.2.2.2.2.2.2.2.2] t.heap ∧ va_K (dC, dI) vwCl [(cyI, .int)] t ∧ va_D (va_A [kx_5 h0 g_row m_n m_slots m_thrown g_many g_loss g_less g_voteValue g_voteNumber g_allValue g_allNumber m_allMany g_nodeL g_nodeR m_nodes g_part m_partMany g_wasMany g_wasLoss g_wasValue g_wasNumber g_path m_pathMany g_heavyValue g_heavyTimes m_heavyMany g_fewest g_which g_met m_mostMet, kx_a g_many cyI 324 fm, kx_a g_loss cyI 324 fl, kx_a g_less cyI 324 fe, kx_a g_voteValue cyI 1944 vv, kx_a g_voteNumber cyI 1944 vn, kx_a g_allValue cyI 12 av, kx_a g_allNumber cyI 12 an] sz) [kx_5 h0 g_row m_n m_slots m_thrown g_many g_loss g_less g_voteValue g_voteNumber g_allValue g_allNumber u.1 g_nodeL g_nodeR m_nodes g_part m_partMany g_wasMany g_wasLoss g_wasValue g_wasNumber g_path m_pathMany g_heavyValue g_heavyTimes m_heavyMany g_fewest g_which g_met m_mostMet, kx_a g_many cyI 324 u.2.2.2.2.1, kx_a g_loss cyI 324 u.2.2.2.2.2.1, kx_a g_less cyI 324 u.2.2.2.2.2.2.1, kx_a g_voteValue cyI 1944 u.2.2.2.2.2.2.2.1, kx_a g_voteNumber cyI 1944 u.2.2.2.2.2.2.2.2.1, kx_a g_allValue cyI 12 u.2.2.2.2.2.2.2.2.2.1, kx_a g_allNumber cyI 12 u.2.2.2.2.2.2.2.2.2.2]) (va_A [kx_5 h0 g_row m_n m_slots m_thrown g_many g_loss g_less g_voteValue g_voteNumber g_allValue g_allNumber m_allMany g_nodeL g_nodeR m_nodes g_part m_partMany g_wasMany g_wasLoss g_wasValue g_wasNumber g_path m_pathMany g_heavyValue g_heavyTimes m_heavyMany g_fewest g_which g_met m_mostMet, kx_a g_many cyI 324 fm, kx_a g_loss cyI 324 fl, kx_a g_less cyI 324 fe, kx_a g_voteValue cyI 1944 vv, kx_a g_voteNumber cyI 1944 vn, kx_a g_allValue cyI 12 av, kx_a g_allNumber cyI 12 an] sz)) 0 0 (va_A [kx_5 h0 g_row m_n m_slots m_thrown g_many g_loss g_less g_voteValue g_voteNumber g_allValue g_allNumber m_allMany g_nodeL g_nodeR m_nodes g_part m_partMany g_wasMany g_wasLoss g_wasValue g_wasNumber g_path m_pathMany g_heavyValue g_heavyTimes m_heavyMany g_fewest g_which g_met m_mostMet, kx_a g_many cyI 324 fm, kx_a g_loss cyI 324 fl, kx_a g_less cyI 324 fe, kx_a g_voteValue cyI 1944 vv, kx_a g_voteNumber cyI 1944 vn, kx_a g_allValue cyI 12 av, kx_a g_allNumber cyI 12 an] sz) := by
  refine Met.ofW (cc := cX5_together) (maxL := 9) (ret := none) (by decide) rfl ?_
  intro p e s m args below meth c s₁ B hml hv
  obtain ⟨rfl, hsz, hP, hK, hD0⟩ := hv
  have hx := B.exec
  have hb := B.bytes
  have hr := B.returns
  have hts := atoms_spec (ws := wsX5_together) B.pre
  have hown : s.vm.findClass RX5 = some m.cls := findClass_of_methodNamed B.named
  have hlocks := B.notSynchronized
  subst hsz
  have hD := hD0.self (sz := s.heap.size)
  generalize hAe : va_A [kx_5 h0 g_row m_n m_slots m_thrown g_many g_loss g_less g_voteValue g_voteNumber g_allValue g_allNumber m_allMany g_nodeL g_nodeR m_nodes g_part m_partMany g_wasMany g_wasLoss g_wasValue g_wasNumber g_path m_pathMany g_heavyValue g_heavyTimes m_heavyMany g_fewest g_which g_met m_mostMet, kx_a g_many cyI 324 fm, kx_a g_loss cyI 324 fl, kx_a g_less cyI 324 fe, kx_a g_voteValue cyI 1944 vv, kx_a g_voteNumber cyI 1944 vn, kx_a g_allValue cyI 12 av, kx_a g_allNumber cyI 12 an] s.heap.size = A at hD ⊢
  have hA : ∀ q : Nat, s.heap.size ≤ q → A q := fun q h => by rw [← hAe]; exact Or.inr h
  have hS : va_S A s.heap s.heap [] := va_S.rf
  have hP : va_P (dC, dI) vwCl [kx_5 h0 g_row m_n m_slots m_thrown g_many g_loss g_less g_voteValue g_voteNumber g_allValue g_allNumber m_allMany g_nodeL g_nodeR m_nodes g_part m_partMany g_wasMany g_wasLoss g_wasValue g_wasNumber g_path m_pathMany g_heavyValue g_heavyTimes m_heavyMany g_fewest g_which g_met m_mostMet, kx_a g_many cyI 324 fm, kx_a g_loss cyI 324 fl, kx_a g_less cyI 324 fe, kx_a g_voteValue cyI 1944 vv, kx_a g_voteNumber cyI 1944 vn, kx_a g_allValue cyI 12 av, kx_a g_allNumber cyI 12 an] s.heap := hP
  have hl := lv_entry ([.ref h0, .int p0, .int p1, .int p2, .int p3]) (n := 9) (Nat.le_of_ble_eq_true rfl)
  rw [lg_entry_eq]
  generalize (lg_sl ([.ref h0, .int p0, .int p1, .int p2, .int p3]) ++ List.replicate (9 - (lg_sl ([.ref h0, .int p0, .int p1, .int p2, .int p3])).length) Slot.unset).toArray = ls at hl ⊢
  have hl : lv_has ls 9 [(0, .ref h0), (1, .int p0), (2, .int p1), (3, .int p2), (4, .int p3)] := hl
  have hf_87 := hts (.fieldLink RX5 87 "MajorityIndexModel" "allMany" "I") (List.mem_of_getElem? (i := 1) rfl)
  have hi_5 : ∀ w ∈ u_ws RX5 TX5 30, w ∈ wsX5_together := fun w h => List.mem_cons_of_mem _ (List.mem_append_right _ h)
  have hf_17 := hts (.fieldLink RX5 17 "MajorityIndexModel" "many" "[I") (List.mem_of_getElem? (i := 2) rfl)
  have hf_20 := hts (.fieldLink RX5 20 "MajorityIndexModel" "loss" "[I") (List.mem_of_getElem? (i := 6) rfl)
  have hf_23 := hts (.fieldLink RX5 23 "MajorityIndexModel" "less" "[I") (List.mem_of_getElem? (i := 8) rfl)
  have hf_35 := hts (.fieldLink RX5 35 "MajorityIndexModel" "allNumber" "[I") (List.mem_of_getElem? (i := 5) rfl)
  have hf_26 := hts (.fieldLink RX5 26 "MajorityIndexModel" "voteValue" "[I") (List.mem_of_getElem? (i := 3) rfl)
  have hf_32 := hts (.fieldLink RX5 32 "MajorityIndexModel" "allValue" "[I") (List.mem_of_getElem? (i := 7) rfl)
  have hf_29 := hts (.fieldLink RX5 29 "MajorityIndexModel" "voteNumber" "[I") (List.mem_of_getElem? (i := 4) rfl)
  have n_p0 := ki_nat p0 rfl (om_8 b0)
  have n_p1 := ki_nat p1 rfl (om_8 b2)
  refine lv_aload_n hx hb dX5_together_0 rfl (lv_at hl 0 rfl) ?_
  refine lv_iconst (v := 0) hx hb dX5_together_1 (by decide) ?_
  refine va_put (D := (dC, dI)) (ci := 5) (v := .int 0) (ty := .int) (C := RX5) (T := TX5) (N := 30) hx hb hts hi_5 tyX5 tyX5_ok nmX5 hown hK hP hD hS 0 rfl rfl 11 (by decide) hf_87 (fun _ h9 => h9) rfl (by decide +kernel) rfl rfl (Nat.le_of_ble_eq_true rfl) dX5_together_2 (fun H locs hP hD hS => ?_)
  have hP : va_P (dC, dI) vwCl [kx_5 h0 g_row m_n m_slots m_thrown g_many g_loss g_less g_voteValue g_voteNumber g_allValue g_allNumber 0 g_nodeL g_nodeR m_nodes g_part m_partMany g_wasMany g_wasLoss g_wasValue g_wasNumber g_path m_pathMany g_heavyValue g_heavyTimes m_heavyMany g_fewest g_which g_met m_mostMet, kx_a g_many cyI 324 fm, kx_a g_loss cyI 324 fl, kx_a g_less cyI 324 fe, kx_a g_voteValue cyI 1944 vv, kx_a g_voteNumber cyI 1944 vn, kx_a g_allValue cyI 12 av, kx_a g_allNumber cyI 12 an] H := hP
  have hD : va_D A [kx_5 h0 g_row m_n m_slots m_thrown g_many g_loss g_less g_voteValue g_voteNumber g_allValue g_allNumber 0 g_nodeL g_nodeR m_nodes g_part m_partMany g_wasMany g_wasLoss g_wasValue g_wasNumber g_path m_pathMany g_heavyValue g_heavyTimes m_heavyMany g_fewest g_which g_met m_mostMet, kx_a g_many cyI 324 fm, kx_a g_loss cyI 324 fl, kx_a g_less cyI 324 fe, kx_a g_voteValue cyI 1944 vv, kx_a g_voteNumber cyI 1944 vn, kx_a g_allValue cyI 12 av, kx_a g_allNumber cyI 12 an] := hD
  refine lv_iconst (v := 0) hx hb dX5_together_5 (by decide) ?_
  refine lv_istore (lv' := [(5, .int 0), (0, .ref h0), (1, .int p0), (2, .int p1), (3, .int p2), (4, .int p3)]) hx hb dX5_together_6 hl (by decide) rfl (fun ls hl => ?_)
  have LP1 : ∀ (n : Nat) (i : Int32) (am : Int32) (gv : Nat → Int32) (gn : Nat → Int32), (0 ≤ i.toInt) → (i.toInt ≤ (fm p0.toNatClampNeg).toInt) → (0 ≤ am.toInt) → (am.toInt ≤ i.toInt) → (mj_vs gv gn 0 am.toNatClampNeg (fun w => mj_z w + mj_pm vv vn (6 * p0.toNatClampNeg) i.toNatClampNeg w)) → ((fm p0.toNatClampNeg).toInt - i.toInt).toNat < n → ∀ (H : Heap) (locs : List Loc), va_P (dC, dI) vwCl [kx_5 h0 g_row m_n m_slots m_thrown g_many g_loss g_less g_voteValue g_voteNumber g_allValue g_allNumber am g_nodeL g_nodeR m_nodes g_part m_partMany g_wasMany g_wasLoss g_wasValue g_wasNumber g_path m_pathMany g_heavyValue g_heavyTimes m_heavyMany g_fewest g_which g_met m_mostMet, kx_a g_many cyI 324 fm, kx_a g_loss cyI 324 fl, kx_a g_less cyI 324 fe, kx_a g_voteValue cyI 1944 vv, kx_a g_voteNumber cyI 1944 vn, kx_a g_allValue cyI 12 gv, kx_a g_allNumber cyI 12 gn] H → va_D A [kx_5 h0 g_row m_n m_slots m_thrown g_many g_loss g_less g_voteValue g_voteNumber g_allValue g_allNumber am g_nodeL g_nodeR m_nodes g_part m_partMany g_wasMany g_wasLoss g_wasValue g_wasNumber g_path m_pathMany g_heavyValue g_heavyTimes m_heavyMany g_fewest g_which g_met m_mostMet, kx_a g_many cyI 324 fm, kx_a g_loss cyI 324 fl, kx_a g_less cyI 324 fe, kx_a g_voteValue cyI 1944 vv, kx_a g_voteNumber cyI 1944 vn, kx_a g_allValue cyI 12 gv, kx_a g_allNumber cyI 12 gn] → va_S A s.heap H locs → ∀ (ls : Array Slot), lv_has ls 9 [(5, .int i), (0, .ref h0), (1, .int p0), (2, .int p1), (3, .int p2), (4, .int p3)] → W p l e (headSpec wsX5_together ({ frames := 2, cells := 0, slots := 0, locals := 90 })).room s m ([.ref h0, .int p0, .int p1, .int p2, .int p3] : List Value).toArray below meth c H locs 0 0 (MQ below (va_Qv (fun u : Int32 × Int32 × Int32 × (Int32 → Int) × (Nat → Int32) × (Nat → Int32) × (Nat → Int32) × (Nat → Int32) × (Nat → Int32) × (Nat → Int32) × (Nat → Int32) => mj_tog p3.toNatClampNeg mua mub u.2.2.2.1 u.2.1 ∧ u.2.2.2.2.2.1 = upd fl p2.toNatClampNeg (fl p0.toNatClampNeg + fl p1.toNatClampNeg + u.2.1) ∧ u.2.2.2.2.2.2.1 = upd fe p2.toNatClampNeg u.2.1 ∧ u.2.2.2.2.1 = upd fm p2.toNatClampNeg u.2.2.1 ∧ 0 ≤ u.2.2.1.toInt ∧ u.2.2.1.toInt ≤ p3.toInt ∧ mj_vs u.2.2.2.2.2.2.2.1 u.2.2.2.2.2.2.2.2.1 (6 * p2.toNatClampNeg) u.2.2.1.toNatClampNeg u.2.2.2.1 ∧ mj_srt u.2.2.2.2.2.2.2.1 u.2.2.2.2.2.2.2.2.1 (6 * p2.toNatClampNeg) u.2.2.1.toNatClampNeg ∧ ∀ q : Nat, (q < 6 * p2.toNatClampNeg ∨ 6 * p2.toNatClampNeg + 6 ≤ q) → u.2.2.2.2.2.2.2.1 q = vv q ∧ u.2.2.2.2.2.2.2.2.1 q = vn q) (fun (u : Int32 × Int32 × Int32 × (Int32 → Int) × (Nat → Int32) × (Nat → Int32) × (Nat → Int32) × (Nat → Int32) × (Nat → Int32) × (Nat → Int32) × (Nat → Int32)) (t : State) => va_P (dC, dI) vwCl [kx_5 h0 g_row m_n m_slots m_thrown g_many g_loss g_less g_voteValue g_voteNumber g_allValue g_allNumber u.1 g_nodeL g_nodeR m_nodes g_part m_partMany g_wasMany g_wasLoss g_wasValue g_wasNumber g_path m_pathMany g_heavyValue g_heavyTimes m_heavyMany g_fewest g_which g_met m_mostMet, kx_a g_many cyI 324 u.2.2.2.2.1, kx_a g_loss cyI 324 u.2.2.2.2.2.1, kx_a g_less cyI 324 u.2.2.2.2.2.2.1, kx_a g_voteValue cyI 1944 u.2.2.2.2.2.2.2.1, kx_a g_voteNumber cyI 1944 u.2.2.2.2.2.2.2.2.1, kx_a g_allValue cyI 12 u.2.2.2.2.2.2.2.2.2.1, kx_a g_allNumber cyI 12 u.2.2.2.2.2.2.2.2.2.2] t.heap ∧ va_K (dC, dI) vwCl [(cyI, .int)] t ∧ va_D A [kx_5 h0 g_row m_n m_slots m_thrown g_many g_loss g_less g_voteValue g_voteNumber g_allValue g_allNumber u.1 g_nodeL g_nodeR m_nodes g_part m_partMany g_wasMany g_wasLoss g_wasValue g_wasNumber g_path m_pathMany g_heavyValue g_heavyTimes m_heavyMany g_fewest g_which g_met m_mostMet, kx_a g_many cyI 324 u.2.2.2.2.1, kx_a g_loss cyI 324 u.2.2.2.2.2.1, kx_a g_less cyI 324 u.2.2.2.2.2.2.1, kx_a g_voteValue cyI 1944 u.2.2.2.2.2.2.2.1, kx_a g_voteNumber cyI 1944 u.2.2.2.2.2.2.2.2.1, kx_a g_allValue cyI 12 u.2.2.2.2.2.2.2.2.2.1, kx_a g_allNumber cyI 12 u.2.2.2.2.2.2.2.2.2.2]) A) ([.ref h0, .int p0, .int p1, .int p2, .int p3] : List Value).toArray s 0 0 A) (F0 m 8 ls []) := by
    intro n
    induction n with
    | zero => intro i am gv gn LP1_h0 LP1_h1 LP1_h2 LP1_h3 LP1_h4 hn; exact absurd hn (Nat.not_lt_zero _)
    | succ n ih1 =>
      intro i am gv gn LP1_h0 LP1_h1 LP1_h2 LP1_h3 LP1_h4 hn1 H locs hP hD hS ls hl
      have n_i := ki_nat i rfl (om_8 LP1_h0)
      have n_ma := ki_nat (fm p0.toNatClampNeg) rfl (om_8 m0)
      refine lv_iload hx hb dX5_together_8 (lv_at hl 0 rfl) ?_
      refine lv_aload_n hx hb dX5_together_10 rfl (lv_at hl 1 rfl) ?_
      refine va_get (D := (dC, dI)) (ci := 5) (v := .ref g_many) (C := RX5) (T := TX5) (N := 30) hx hb hts hi_5 hown hK hP 0 rfl rfl 4 (by decide) hf_17 (fun _ h9 => h9) rfl dX5_together_11 ?_
      refine lv_iload_n hx hb dX5_together_14 rfl (lv_at hl 2 rfl) ?_
      refine va_iald hx hb hK hP 1 0 rfl rfl (ki_in (om_8 b0) (om_166 b1)) dX5_together_15 ?_
      refine lv_topi (fun y_1 ey_1 => ?_)
      have j_1 : y_1.toInt = (fm p0.toNatClampNeg).toInt := congrArg Int32.toInt ey_1
      refine lv_icmp_ge (tgt := 53) hx hb dX5_together_16 (by decide) (fun c_2 => ?_) (fun c_2 => ?_)
      · have i_2 : y_1.toInt ≤ i.toInt := kc_le c_2
        refine lv_iconst (v := 0) hx hb dX5_together_53 (by decide) ?_
        refine lv_istore (lv' := [(5, .int 0), (0, .ref h0), (1, .int p0), (2, .int p1), (3, .int p2), (4, .int p3)]) hx hb dX5_together_54 hl (by decide) rfl (fun ls hl => ?_)
        have LP2 : ∀ (n : Nat) (j : Int32) (bm : Int32) (bv : Nat → Int32) (bn : Nat → Int32), (0 ≤ j.toInt) → (j.toInt ≤ (fm p1.toNatClampNeg).toInt) → (0 ≤ bm.toInt) → (bm.toInt ≤ (fm p0.toNatClampNeg).toInt + j.toInt) → (mj_vs bv bn 0 bm.toNatClampNeg (fun w => mua w + mj_pm vv vn (6 * p1.toNatClampNeg) j.toNatClampNeg w)) → ((fm p1.toNatClampNeg).toInt - j.toInt).toNat < n → ∀ (H : Heap) (locs : List Loc), va_P (dC, dI) vwCl [kx_5 h0 g_row m_n m_slots m_thrown g_many g_loss g_less g_voteValue g_voteNumber g_allValue g_allNumber bm g_nodeL g_nodeR m_nodes g_part m_partMany g_wasMany g_wasLoss g_wasValue g_wasNumber g_path m_pathMany g_heavyValue g_heavyTimes m_heavyMany g_fewest g_which g_met m_mostMet, kx_a g_many cyI 324 fm, kx_a g_loss cyI 324 fl, kx_a g_less cyI 324 fe, kx_a g_voteValue cyI 1944 vv, kx_a g_voteNumber cyI 1944 vn, kx_a g_allValue cyI 12 bv, kx_a g_allNumber cyI 12 bn] H → va_D A [kx_5 h0 g_row m_n m_slots m_thrown g_many g_loss g_less g_voteValue g_voteNumber g_allValue g_allNumber bm g_nodeL g_nodeR m_nodes g_part m_partMany g_wasMany g_wasLoss g_wasValue g_wasNumber g_path m_pathMany g_heavyValue g_heavyTimes m_heavyMany g_fewest g_which g_met m_mostMet, kx_a g_many cyI 324 fm, kx_a g_loss cyI 324 fl, kx_a g_less cyI 324 fe, kx_a g_voteValue cyI 1944 vv, kx_a g_voteNumber cyI 1944 vn, kx_a g_allValue cyI 12 bv, kx_a g_allNumber cyI 12 bn] → va_S A s.heap H locs → ∀ (ls : Array Slot), lv_has ls 9 [(5, .int j), (0, .ref h0), (1, .int p0), (2, .int p1), (3, .int p2), (4, .int p3)] → W p l e (headSpec wsX5_together ({ frames := 2, cells := 0, slots := 0, locals := 90 })).room s m ([.ref h0, .int p0, .int p1, .int p2, .int p3] : List Value).toArray below meth c H locs 0 0 (MQ below (va_Qv (fun u : Int32 × Int32 × Int32 × (Int32 → Int) × (Nat → Int32) × (Nat → Int32) × (Nat → Int32) × (Nat → Int32) × (Nat → Int32) × (Nat → Int32) × (Nat → Int32) => mj_tog p3.toNatClampNeg mua mub u.2.2.2.1 u.2.1 ∧ u.2.2.2.2.2.1 = upd fl p2.toNatClampNeg (fl p0.toNatClampNeg + fl p1.toNatClampNeg + u.2.1) ∧ u.2.2.2.2.2.2.1 = upd fe p2.toNatClampNeg u.2.1 ∧ u.2.2.2.2.1 = upd fm p2.toNatClampNeg u.2.2.1 ∧ 0 ≤ u.2.2.1.toInt ∧ u.2.2.1.toInt ≤ p3.toInt ∧ mj_vs u.2.2.2.2.2.2.2.1 u.2.2.2.2.2.2.2.2.1 (6 * p2.toNatClampNeg) u.2.2.1.toNatClampNeg u.2.2.2.1 ∧ mj_srt u.2.2.2.2.2.2.2.1 u.2.2.2.2.2.2.2.2.1 (6 * p2.toNatClampNeg) u.2.2.1.toNatClampNeg ∧ ∀ q : Nat, (q < 6 * p2.toNatClampNeg ∨ 6 * p2.toNatClampNeg + 6 ≤ q) → u.2.2.2.2.2.2.2.1 q = vv q ∧ u.2.2.2.2.2.2.2.2.1 q = vn q) (fun (u : Int32 × Int32 × Int32 × (Int32 → Int) × (Nat → Int32) × (Nat → Int32) × (Nat → Int32) × (Nat → Int32) × (Nat → Int32) × (Nat → Int32) × (Nat → Int32)) (t : State) => va_P (dC, dI) vwCl [kx_5 h0 g_row m_n m_slots m_thrown g_many g_loss g_less g_voteValue g_voteNumber g_allValue g_allNumber u.1 g_nodeL g_nodeR m_nodes g_part m_partMany g_wasMany g_wasLoss g_wasValue g_wasNumber g_path m_pathMany g_heavyValue g_heavyTimes m_heavyMany g_fewest g_which g_met m_mostMet, kx_a g_many cyI 324 u.2.2.2.2.1, kx_a g_loss cyI 324 u.2.2.2.2.2.1, kx_a g_less cyI 324 u.2.2.2.2.2.2.1, kx_a g_voteValue cyI 1944 u.2.2.2.2.2.2.2.1, kx_a g_voteNumber cyI 1944 u.2.2.2.2.2.2.2.2.1, kx_a g_allValue cyI 12 u.2.2.2.2.2.2.2.2.2.1, kx_a g_allNumber cyI 12 u.2.2.2.2.2.2.2.2.2.2] t.heap ∧ va_K (dC, dI) vwCl [(cyI, .int)] t ∧ va_D A [kx_5 h0 g_row m_n m_slots m_thrown g_many g_loss g_less g_voteValue g_voteNumber g_allValue g_allNumber u.1 g_nodeL g_nodeR m_nodes g_part m_partMany g_wasMany g_wasLoss g_wasValue g_wasNumber g_path m_pathMany g_heavyValue g_heavyTimes m_heavyMany g_fewest g_which g_met m_mostMet, kx_a g_many cyI 324 u.2.2.2.2.1, kx_a g_loss cyI 324 u.2.2.2.2.2.1, kx_a g_less cyI 324 u.2.2.2.2.2.2.1, kx_a g_voteValue cyI 1944 u.2.2.2.2.2.2.2.1, kx_a g_voteNumber cyI 1944 u.2.2.2.2.2.2.2.2.1, kx_a g_allValue cyI 12 u.2.2.2.2.2.2.2.2.2.1, kx_a g_allNumber cyI 12 u.2.2.2.2.2.2.2.2.2.2]) A) ([.ref h0, .int p0, .int p1, .int p2, .int p3] : List Value).toArray s 0 0 A) (F0 m 56 ls []) := by
          intro n
          induction n with
          | zero => intro j bm bv bn LP2_h0 LP2_h1 LP2_h2 LP2_h3 LP2_h4 hn; exact absurd hn (Nat.not_lt_zero _)
          | succ n ih2 =>
            intro j bm bv bn LP2_h0 LP2_h1 LP2_h2 LP2_h3 LP2_h4 hn2 H locs hP hD hS ls hl
            have n_j := ki_nat j rfl (om_8 LP2_h0)
            have n_mb := ki_nat (fm p1.toNatClampNeg) rfl (om_8 m2)
            refine lv_iload hx hb dX5_together_56 (lv_at hl 0 rfl) ?_
            refine lv_aload_n hx hb dX5_together_58 rfl (lv_at hl 1 rfl) ?_
            refine va_get (D := (dC, dI)) (ci := 5) (v := .ref g_many) (C := RX5) (T := TX5) (N := 30) hx hb hts hi_5 hown hK hP 0 rfl rfl 4 (by decide) hf_17 (fun _ h9 => h9) rfl dX5_together_59 ?_
            refine lv_iload_n hx hb dX5_together_62 rfl (lv_at hl 3 rfl) ?_
            refine va_iald hx hb hK hP 1 0 rfl rfl (ki_in (om_8 b2) (om_166 b3)) dX5_together_63 ?_
            refine lv_topi (fun y_3 ey_3 => ?_)
            have j_3 : y_3.toInt = (fm p1.toNatClampNeg).toInt := congrArg Int32.toInt ey_3
            refine lv_icmp_ge (tgt := 101) hx hb dX5_together_64 (by decide) (fun c_4 => ?_) (fun c_4 => ?_)
            · have i_4 : y_3.toInt ≤ j.toInt := kc_le c_4
              refine lv_aload_n hx hb dX5_together_101 rfl (lv_at hl 1 rfl) ?_
              have hPc := hP.sub (ws' := [kx_5 h0 g_row m_n m_slots m_thrown g_many g_loss g_less g_voteValue g_voteNumber g_allValue g_allNumber bm g_nodeL g_nodeR m_nodes g_part m_partMany g_wasMany g_wasLoss g_wasValue g_wasNumber g_path m_pathMany g_heavyValue g_heavyTimes m_heavyMany g_fewest g_which g_met m_mostMet, kx_a g_allValue cyI 12 bv, kx_a g_allNumber cyI 12 bn]) [0, 6, 7] rfl
              have hKc := hK
              have hDc := hD.sub (ws' := [kx_5 h0 g_row m_n m_slots m_thrown g_many g_loss g_less g_voteValue g_voteNumber g_allValue g_allNumber bm g_nodeL g_nodeR m_nodes g_part m_partMany g_wasMany g_wasLoss g_wasValue g_wasNumber g_path m_pathMany g_heavyValue g_heavyTimes m_heavyMany g_fewest g_which g_met m_mostMet, kx_a g_allValue cyI 12 bv, kx_a g_allNumber cyI 12 bn]) [0, 6, 7] (by decide) rfl
              have hFc := va_free (wc := [kx_5 h0 g_row m_n m_slots m_thrown g_many g_loss g_less g_voteValue g_voteNumber g_allValue g_allNumber bm g_nodeL g_nodeR m_nodes g_part m_partMany g_wasMany g_wasLoss g_wasValue g_wasNumber g_path m_pathMany g_heavyValue g_heavyTimes m_heavyMany g_fewest g_which g_met m_mostMet, kx_a g_allValue cyI 12 bv, kx_a g_allNumber cyI 12 bn]) hD hS hA [0, 6, 7] rfl
              refine va_callv (va_runV (As := []) (rest := []) ⟨hx, hb, hml, hown, hts⟩ (c_X5_sorts l dC dI h0 g_row g_many g_loss g_less g_voteValue g_voteNumber g_allValue g_allNumber g_nodeL g_nodeR g_part g_wasMany g_wasLoss g_wasValue g_wasNumber g_path g_heavyValue g_heavyTimes g_fewest g_which g_met m_n m_slots m_thrown bm m_nodes m_partMany m_pathMany m_heavyMany m_mostMet cyI bv bn H.size LP2_h2 (om_211 m1 m3 LP2_h1 LP2_h3)) (cwV 0 hts gX5_together_X5_sorts rfl rfl rfl (by decide +kernel) ⟨Nat.le_of_ble_eq_true rfl, Nat.le_of_ble_eq_true rfl⟩) ⟨fun a U g mk q => by obtain ⟨q0, q1, qP, qK, qD⟩ := q; exact ⟨q0, q1, qP, va_K.moved (u := U) (U := U.calling g mk a) (Vm.Alike.refl U.vm) qK, qD⟩, va_recv hKc hPc (ci := 5) (q0 := 0) rfl rfl, fun U hU hW => ⟨rfl, by rw [hU], by rw [hU]; exact hPc, va_K.moved hW.alike hKc, hDc.weaken (fun _ _ _ _ => trivial)⟩⟩ rfl rfl hl.1 rfl (lv_room (Nat.le_of_ble_eq_true rfl)) dX5_together_102 ⟨Nat.le_of_ble_eq_true rfl, Nat.le_of_ble_eq_true rfl⟩) hS (fun q _ h => hFc q h) hFc (fun u t H1 locs ht hvm w_5 hB hz1 hk1 hS => ?_)
              obtain ⟨o_6, o_7⟩ := u
              dsimp only at w_5 hB
              obtain ⟨hP1, hK1, hD1⟩ := hB
              rw [ht] at hP1
              have hK1 := va_K.moved hvm.symm hK1
              obtain ⟨hP, hD⟩ := va_join (wr := [kx_a g_many cyI 324 fm, kx_a g_loss cyI 324 fl, kx_a g_less cyI 324 fe, kx_a g_voteValue cyI 1944 vv, kx_a g_voteNumber cyI 1944 vn]) (w1 := [kx_5 h0 g_row m_n m_slots m_thrown g_many g_loss g_less g_voteValue g_voteNumber g_allValue g_allNumber bm g_nodeL g_nodeR m_nodes g_part m_partMany g_wasMany g_wasLoss g_wasValue g_wasNumber g_path m_pathMany g_heavyValue g_heavyTimes m_heavyMany g_fewest g_which g_met m_mostMet, kx_a g_allValue cyI 12 o_6, kx_a g_allNumber cyI 12 o_7]) hP hD [0, 6, 7] [1, 2, 3, 4, 5] rfl rfl (by decide) (by decide) hk1 hFc hP1 hD1
              clear hP1 hD1 hK1 hk1 hz1 hFc hDc hPc hKc
              generalize H1 = H at hP hS ⊢
              have hP : va_P (dC, dI) vwCl [kx_a g_many cyI 324 fm, kx_a g_loss cyI 324 fl, kx_a g_less cyI 324 fe, kx_a g_voteValue cyI 1944 vv, kx_a g_voteNumber cyI 1944 vn, kx_5 h0 g_row m_n m_slots m_thrown g_many g_loss g_less g_voteValue g_voteNumber g_allValue g_allNumber bm g_nodeL g_nodeR m_nodes g_part m_partMany g_wasMany g_wasLoss g_wasValue g_wasNumber g_path m_pathMany g_heavyValue g_heavyTimes m_heavyMany g_fewest g_which g_met m_mostMet, kx_a g_allValue cyI 12 o_6, kx_a g_allNumber cyI 12 o_7] H := hP
              have hD : va_D A [kx_a g_many cyI 324 fm, kx_a g_loss cyI 324 fl, kx_a g_less cyI 324 fe, kx_a g_voteValue cyI 1944 vv, kx_a g_voteNumber cyI 1944 vn, kx_5 h0 g_row m_n m_slots m_thrown g_many g_loss g_less g_voteValue g_voteNumber g_allValue g_allNumber bm g_nodeL g_nodeR m_nodes g_part m_partMany g_wasMany g_wasLoss g_wasValue g_wasNumber g_path m_pathMany g_heavyValue g_heavyTimes m_heavyMany g_fewest g_which g_met m_mostMet, kx_a g_allValue cyI 12 o_6, kx_a g_allNumber cyI 12 o_7] := hD
              have w_5 : mj_srt o_6 o_7 0 bm.toNatClampNeg ∧ ∀ mu : Int32 → Int, mj_vs bv bn 0 bm.toNatClampNeg mu → mj_vs o_6 o_7 0 bm.toNatClampNeg mu := w_5
              have n_bm := ki_nat bm rfl (om_8 LP2_h2)
              have n_p3 := ki_nat p3 rfl (om_8 b6)
              have n_p2 := ki_nat p2 rfl (om_8 b4)
              have hsum : mj_vs o_6 o_7 0 bm.toNatClampNeg (fun w => mua w + mub w) := w_5.2 _ (mj_done LP2_h4 vb (by omega))
              have hbd := mj_bd hsum bd
              refine lv_aload_n hx hb dX5_together_105 rfl (lv_at hl 1 rfl) ?_
              refine va_get (D := (dC, dI)) (ci := 5) (v := .int bm) (C := RX5) (T := TX5) (N := 30) hx hb hts hi_5 hown hK hP 5 rfl rfl 11 (by decide) hf_87 (fun _ h9 => h9) rfl dX5_together_106 ?_
              refine lv_iload hx hb dX5_together_109 (lv_at hl 5 rfl) ?_
              refine lv_icmp_le (tgt := 124) hx hb dX5_together_111 (by decide) (fun c_8 => ?_) (fun c_8 => ?_)
              · have i_8 : bm.toInt ≤ p3.toInt := kc_le c_8
                refine lv_iconst (v := 0) hx hb dX5_together_124 (by decide) ?_
                refine lv_istore (lv' := [(5, .int 0), (0, .ref h0), (1, .int p0), (2, .int p1), (3, .int p2), (4, .int p3)]) hx hb dX5_together_125 hl (by decide) rfl (fun ls hl => ?_)
                refine lv_aload_n hx hb dX5_together_127 rfl (lv_at hl 1 rfl) ?_
                refine va_get (D := (dC, dI)) (ci := 5) (v := .ref g_loss) (C := RX5) (T := TX5) (N := 30) hx hb hts hi_5 hown hK hP 5 rfl rfl 5 (by decide) hf_20 (fun _ h9 => h9) rfl dX5_together_128 ?_
                refine lv_iload_n hx hb dX5_together_131 rfl (lv_at hl 2 rfl) ?_
                refine va_iald hx hb hK hP 1 0 rfl rfl (ki_in (om_8 b0) (om_166 b1)) dX5_together_132 ?_
                refine lv_topi (fun y_9 ey_9 => ?_)
                have j_9 : y_9.toInt = (fl p0.toNatClampNeg).toInt := congrArg Int32.toInt ey_9
                refine lv_aload_n hx hb dX5_together_133 rfl (lv_at hl 1 rfl) ?_
                refine va_get (D := (dC, dI)) (ci := 5) (v := .ref g_loss) (C := RX5) (T := TX5) (N := 30) hx hb hts hi_5 hown hK hP 5 rfl rfl 5 (by decide) hf_20 (fun _ h9 => h9) rfl dX5_together_134 ?_
                refine lv_iload_n hx hb dX5_together_137 rfl (lv_at hl 3 rfl) ?_
                refine va_iald hx hb hK hP 1 0 rfl rfl (ki_in (om_8 b2) (om_166 b3)) dX5_together_138 ?_
                refine lv_topi (fun y_10 ey_10 => ?_)
                have j_10 : y_10.toInt = (fl p1.toNatClampNeg).toInt := congrArg Int32.toInt ey_10
                refine lv_iadd hx hb dX5_together_139 ?_
                refine lv_topi (fun y_11 ey_11 => ?_)
                refine lv_iload hx hb dX5_together_140 (lv_at hl 0 rfl) ?_
                refine lv_iadd hx hb dX5_together_142 ?_
                refine lv_topi (fun y_12 ey_12 => ?_)
                refine lv_istore (lv' := [(6, .int y_12), (5, .int 0), (0, .ref h0), (1, .int p0), (2, .int p1), (3, .int p2), (4, .int p3)]) hx hb dX5_together_143 hl (by decide) rfl (fun ls hl => ?_)
                refine lv_iconst (v := 0) hx hb dX5_together_145 (by decide) ?_
                refine lv_istore (lv' := [(7, .int 0), (6, .int y_12), (5, .int 0), (0, .ref h0), (1, .int p0), (2, .int p1), (3, .int p2), (4, .int p3)]) hx hb dX5_together_146 hl (by decide) rfl (fun ls hl => ?_)
                refine lv_iconst (v := 0) hx hb dX5_together_148 (by decide) ?_
                refine lv_istore (lv' := [(8, .int 0), (7, .int 0), (6, .int y_12), (5, .int 0), (0, .ref h0), (1, .int p0), (2, .int p1), (3, .int p2), (4, .int p3)]) hx hb dX5_together_149 hl (by decide) rfl (fun ls hl => ?_)
                have LP3 : ∀ (n : Nat) (lf : Int32) (k : Int32) (wv : Nat → Int32) (wn : Nat → Int32), (0 ≤ lf.toInt) → (0 ≤ k.toInt) → (k.toInt ≤ bm.toInt) → (mj_wr p3.toNatClampNeg o_6 o_7 0 (6 * p2.toNatClampNeg) lf.toNatClampNeg k.toNatClampNeg vv vn wv wn) → (bm.toInt - k.toInt).toNat < n → ∀ (H : Heap) (locs : List Loc), va_P (dC, dI) vwCl [kx_a g_many cyI 324 fm, kx_a g_loss cyI 324 fl, kx_a g_less cyI 324 fe, kx_a g_voteValue cyI 1944 wv, kx_a g_voteNumber cyI 1944 wn, kx_5 h0 g_row m_n m_slots m_thrown g_many g_loss g_less g_voteValue g_voteNumber g_allValue g_allNumber bm g_nodeL g_nodeR m_nodes g_part m_partMany g_wasMany g_wasLoss g_wasValue g_wasNumber g_path m_pathMany g_heavyValue g_heavyTimes m_heavyMany g_fewest g_which g_met m_mostMet, kx_a g_allValue cyI 12 o_6, kx_a g_allNumber cyI 12 o_7] H → va_D A [kx_a g_many cyI 324 fm, kx_a g_loss cyI 324 fl, kx_a g_less cyI 324 fe, kx_a g_voteValue cyI 1944 wv, kx_a g_voteNumber cyI 1944 wn, kx_5 h0 g_row m_n m_slots m_thrown g_many g_loss g_less g_voteValue g_voteNumber g_allValue g_allNumber bm g_nodeL g_nodeR m_nodes g_part m_partMany g_wasMany g_wasLoss g_wasValue g_wasNumber g_path m_pathMany g_heavyValue g_heavyTimes m_heavyMany g_fewest g_which g_met m_mostMet, kx_a g_allValue cyI 12 o_6, kx_a g_allNumber cyI 12 o_7] → va_S A s.heap H locs → ∀ (ls : Array Slot), lv_has ls 9 [(8, .int k), (7, .int lf), (6, .int y_12), (5, .int 0), (0, .ref h0), (1, .int p0), (2, .int p1), (3, .int p2), (4, .int p3)] → W p l e (headSpec wsX5_together ({ frames := 2, cells := 0, slots := 0, locals := 90 })).room s m ([.ref h0, .int p0, .int p1, .int p2, .int p3] : List Value).toArray below meth c H locs 0 0 (MQ below (va_Qv (fun u : Int32 × Int32 × Int32 × (Int32 → Int) × (Nat → Int32) × (Nat → Int32) × (Nat → Int32) × (Nat → Int32) × (Nat → Int32) × (Nat → Int32) × (Nat → Int32) => mj_tog p3.toNatClampNeg mua mub u.2.2.2.1 u.2.1 ∧ u.2.2.2.2.2.1 = upd fl p2.toNatClampNeg (fl p0.toNatClampNeg + fl p1.toNatClampNeg + u.2.1) ∧ u.2.2.2.2.2.2.1 = upd fe p2.toNatClampNeg u.2.1 ∧ u.2.2.2.2.1 = upd fm p2.toNatClampNeg u.2.2.1 ∧ 0 ≤ u.2.2.1.toInt ∧ u.2.2.1.toInt ≤ p3.toInt ∧ mj_vs u.2.2.2.2.2.2.2.1 u.2.2.2.2.2.2.2.2.1 (6 * p2.toNatClampNeg) u.2.2.1.toNatClampNeg u.2.2.2.1 ∧ mj_srt u.2.2.2.2.2.2.2.1 u.2.2.2.2.2.2.2.2.1 (6 * p2.toNatClampNeg) u.2.2.1.toNatClampNeg ∧ ∀ q : Nat, (q < 6 * p2.toNatClampNeg ∨ 6 * p2.toNatClampNeg + 6 ≤ q) → u.2.2.2.2.2.2.2.1 q = vv q ∧ u.2.2.2.2.2.2.2.2.1 q = vn q) (fun (u : Int32 × Int32 × Int32 × (Int32 → Int) × (Nat → Int32) × (Nat → Int32) × (Nat → Int32) × (Nat → Int32) × (Nat → Int32) × (Nat → Int32) × (Nat → Int32)) (t : State) => va_P (dC, dI) vwCl [kx_5 h0 g_row m_n m_slots m_thrown g_many g_loss g_less g_voteValue g_voteNumber g_allValue g_allNumber u.1 g_nodeL g_nodeR m_nodes g_part m_partMany g_wasMany g_wasLoss g_wasValue g_wasNumber g_path m_pathMany g_heavyValue g_heavyTimes m_heavyMany g_fewest g_which g_met m_mostMet, kx_a g_many cyI 324 u.2.2.2.2.1, kx_a g_loss cyI 324 u.2.2.2.2.2.1, kx_a g_less cyI 324 u.2.2.2.2.2.2.1, kx_a g_voteValue cyI 1944 u.2.2.2.2.2.2.2.1, kx_a g_voteNumber cyI 1944 u.2.2.2.2.2.2.2.2.1, kx_a g_allValue cyI 12 u.2.2.2.2.2.2.2.2.2.1, kx_a g_allNumber cyI 12 u.2.2.2.2.2.2.2.2.2.2] t.heap ∧ va_K (dC, dI) vwCl [(cyI, .int)] t ∧ va_D A [kx_5 h0 g_row m_n m_slots m_thrown g_many g_loss g_less g_voteValue g_voteNumber g_allValue g_allNumber u.1 g_nodeL g_nodeR m_nodes g_part m_partMany g_wasMany g_wasLoss g_wasValue g_wasNumber g_path m_pathMany g_heavyValue g_heavyTimes m_heavyMany g_fewest g_which g_met m_mostMet, kx_a g_many cyI 324 u.2.2.2.2.1, kx_a g_loss cyI 324 u.2.2.2.2.2.1, kx_a g_less cyI 324 u.2.2.2.2.2.2.1, kx_a g_voteValue cyI 1944 u.2.2.2.2.2.2.2.1, kx_a g_voteNumber cyI 1944 u.2.2.2.2.2.2.2.2.1, kx_a g_allValue cyI 12 u.2.2.2.2.2.2.2.2.2.1, kx_a g_allNumber cyI 12 u.2.2.2.2.2.2.2.2.2.2]) A) ([.ref h0, .int p0, .int p1, .int p2, .int p3] : List Value).toArray s 0 0 A) (F0 m 151 ls []) := by
                  intro n
                  induction n with
                  | zero => intro lf k wv wn LP3_h0 LP3_h1 LP3_h2 LP3_h3 hn; exact absurd hn (Nat.not_lt_zero _)
                  | succ n ih3 =>
                    intro lf k wv wn LP3_h0 LP3_h1 LP3_h2 LP3_h3 hn3 H locs hP hD hS ls hl
                    have n_lf := ki_nat lf rfl (om_8 LP3_h0)
                    have n_k := ki_nat k rfl (om_8 LP3_h1)
                    have h_lf := LP3_h3.2.1
                    refine lv_iload hx hb dX5_together_151 (lv_at hl 0 rfl) ?_
                    refine lv_aload_n hx hb dX5_together_153 rfl (lv_at hl 4 rfl) ?_
                    refine va_get (D := (dC, dI)) (ci := 5) (v := .int bm) (C := RX5) (T := TX5) (N := 30) hx hb hts hi_5 hown hK hP 5 rfl rfl 11 (by decide) hf_87 (fun _ h9 => h9) rfl dX5_together_154 ?_
                    refine lv_icmp_ge (tgt := 226) hx hb dX5_together_157 (by decide) (fun c_13 => ?_) (fun c_13 => ?_)
                    · have i_13 : bm.toInt ≤ k.toInt := kc_le c_13
                      refine lv_aload_n hx hb dX5_together_226 rfl (lv_at hl 4 rfl) ?_
                      refine va_get (D := (dC, dI)) (ci := 5) (v := .ref g_many) (C := RX5) (T := TX5) (N := 30) hx hb hts hi_5 hown hK hP 5 rfl rfl 4 (by decide) hf_17 (fun _ h9 => h9) rfl dX5_together_227 ?_
                      refine lv_iload_n hx hb dX5_together_230 rfl (lv_at hl 7 rfl) ?_
                      refine lv_iload hx hb dX5_together_231 (lv_at hl 1 rfl) ?_
                      refine va_iast hx hb hK hP hD hS 0 0 rfl rfl (ki_in (om_8 b4) (om_212 b5)) dX5_together_233 (fun H locs hP hD hS => ?_)
                      have hP : va_P (dC, dI) vwCl [kx_a g_many cyI 324 (upd fm p2.toNatClampNeg lf), kx_a g_loss cyI 324 fl, kx_a g_less cyI 324 fe, kx_a g_voteValue cyI 1944 wv, kx_a g_voteNumber cyI 1944 wn, kx_5 h0 g_row m_n m_slots m_thrown g_many g_loss g_less g_voteValue g_voteNumber g_allValue g_allNumber bm g_nodeL g_nodeR m_nodes g_part m_partMany g_wasMany g_wasLoss g_wasValue g_wasNumber g_path m_pathMany g_heavyValue g_heavyTimes m_heavyMany g_fewest g_which g_met m_mostMet, kx_a g_allValue cyI 12 o_6, kx_a g_allNumber cyI 12 o_7] H := hP
                      have hD : va_D A [kx_a g_many cyI 324 (upd fm p2.toNatClampNeg lf), kx_a g_loss cyI 324 fl, kx_a g_less cyI 324 fe, kx_a g_voteValue cyI 1944 wv, kx_a g_voteNumber cyI 1944 wn, kx_5 h0 g_row m_n m_slots m_thrown g_many g_loss g_less g_voteValue g_voteNumber g_allValue g_allNumber bm g_nodeL g_nodeR m_nodes g_part m_partMany g_wasMany g_wasLoss g_wasValue g_wasNumber g_path m_pathMany g_heavyValue g_heavyTimes m_heavyMany g_fewest g_which g_met m_mostMet, kx_a g_allValue cyI 12 o_6, kx_a g_allNumber cyI 12 o_7] := hD
                      refine lv_aload_n hx hb dX5_together_234 rfl (lv_at hl 4 rfl) ?_
                      refine va_get (D := (dC, dI)) (ci := 5) (v := .ref g_loss) (C := RX5) (T := TX5) (N := 30) hx hb hts hi_5 hown hK hP 5 rfl rfl 5 (by decide) hf_20 (fun _ h9 => h9) rfl dX5_together_235 ?_
                      refine lv_iload_n hx hb dX5_together_238 rfl (lv_at hl 7 rfl) ?_
                      refine lv_iload hx hb dX5_together_239 (lv_at hl 2 rfl) ?_
                      refine va_iast hx hb hK hP hD hS 1 0 rfl rfl (ki_in (om_8 b4) (om_212 b5)) dX5_together_241 (fun H locs hP hD hS => ?_)
                      have hP : va_P (dC, dI) vwCl [kx_a g_many cyI 324 (upd fm p2.toNatClampNeg lf), kx_a g_loss cyI 324 (upd fl p2.toNatClampNeg y_12), kx_a g_less cyI 324 fe, kx_a g_voteValue cyI 1944 wv, kx_a g_voteNumber cyI 1944 wn, kx_5 h0 g_row m_n m_slots m_thrown g_many g_loss g_less g_voteValue g_voteNumber g_allValue g_allNumber bm g_nodeL g_nodeR m_nodes g_part m_partMany g_wasMany g_wasLoss g_wasValue g_wasNumber g_path m_pathMany g_heavyValue g_heavyTimes m_heavyMany g_fewest g_which g_met m_mostMet, kx_a g_allValue cyI 12 o_6, kx_a g_allNumber cyI 12 o_7] H := hP
                      have hD : va_D A [kx_a g_many cyI 324 (upd fm p2.toNatClampNeg lf), kx_a g_loss cyI 324 (upd fl p2.toNatClampNeg y_12), kx_a g_less cyI 324 fe, kx_a g_voteValue cyI 1944 wv, kx_a g_voteNumber cyI 1944 wn, kx_5 h0 g_row m_n m_slots m_thrown g_many g_loss g_less g_voteValue g_voteNumber g_allValue g_allNumber bm g_nodeL g_nodeR m_nodes g_part m_partMany g_wasMany g_wasLoss g_wasValue g_wasNumber g_path m_pathMany g_heavyValue g_heavyTimes m_heavyMany g_fewest g_which g_met m_mostMet, kx_a g_allValue cyI 12 o_6, kx_a g_allNumber cyI 12 o_7] := hD
                      refine lv_aload_n hx hb dX5_together_242 rfl (lv_at hl 4 rfl) ?_
                      refine va_get (D := (dC, dI)) (ci := 5) (v := .ref g_less) (C := RX5) (T := TX5) (N := 30) hx hb hts hi_5 hown hK hP 5 rfl rfl 6 (by decide) hf_23 (fun _ h9 => h9) rfl dX5_together_243 ?_
                      refine lv_iload_n hx hb dX5_together_246 rfl (lv_at hl 7 rfl) ?_
                      refine lv_iload hx hb dX5_together_247 (lv_at hl 3 rfl) ?_
                      refine va_iast hx hb hK hP hD hS 2 0 rfl rfl (ki_in (om_8 b4) (om_212 b5)) dX5_together_249 (fun H locs hP hD hS => ?_)
                      have hP : va_P (dC, dI) vwCl [kx_a g_many cyI 324 (upd fm p2.toNatClampNeg lf), kx_a g_loss cyI 324 (upd fl p2.toNatClampNeg y_12), kx_a g_less cyI 324 (upd fe p2.toNatClampNeg 0), kx_a g_voteValue cyI 1944 wv, kx_a g_voteNumber cyI 1944 wn, kx_5 h0 g_row m_n m_slots m_thrown g_many g_loss g_less g_voteValue g_voteNumber g_allValue g_allNumber bm g_nodeL g_nodeR m_nodes g_part m_partMany g_wasMany g_wasLoss g_wasValue g_wasNumber g_path m_pathMany g_heavyValue g_heavyTimes m_heavyMany g_fewest g_which g_met m_mostMet, kx_a g_allValue cyI 12 o_6, kx_a g_allNumber cyI 12 o_7] H := hP
                      have hD : va_D A [kx_a g_many cyI 324 (upd fm p2.toNatClampNeg lf), kx_a g_loss cyI 324 (upd fl p2.toNatClampNeg y_12), kx_a g_less cyI 324 (upd fe p2.toNatClampNeg 0), kx_a g_voteValue cyI 1944 wv, kx_a g_voteNumber cyI 1944 wn, kx_5 h0 g_row m_n m_slots m_thrown g_many g_loss g_less g_voteValue g_voteNumber g_allValue g_allNumber bm g_nodeL g_nodeR m_nodes g_part m_partMany g_wasMany g_wasLoss g_wasValue g_wasNumber g_path m_pathMany g_heavyValue g_heavyTimes m_heavyMany g_fewest g_which g_met m_mostMet, kx_a g_allValue cyI 12 o_6, kx_a g_allNumber cyI 12 o_7] := hD
                      have hP9 := hP.sub (ws' := [kx_5 h0 g_row m_n m_slots m_thrown g_many g_loss g_less g_voteValue g_voteNumber g_allValue g_allNumber bm g_nodeL g_nodeR m_nodes g_part m_partMany g_wasMany g_wasLoss g_wasValue g_wasNumber g_path m_pathMany g_heavyValue g_heavyTimes m_heavyMany g_fewest g_which g_met m_mostMet, kx_a g_many cyI 324 (upd fm p2.toNatClampNeg lf), kx_a g_loss cyI 324 (upd fl p2.toNatClampNeg y_12), kx_a g_less cyI 324 (upd fe p2.toNatClampNeg 0), kx_a g_voteValue cyI 1944 wv, kx_a g_voteNumber cyI 1944 wn, kx_a g_allValue cyI 12 o_6, kx_a g_allNumber cyI 12 o_7]) [5, 0, 1, 2, 3, 4, 6, 7] rfl
                      have hD9 := hD.sub (ws' := [kx_5 h0 g_row m_n m_slots m_thrown g_many g_loss g_less g_voteValue g_voteNumber g_allValue g_allNumber bm g_nodeL g_nodeR m_nodes g_part m_partMany g_wasMany g_wasLoss g_wasValue g_wasNumber g_path m_pathMany g_heavyValue g_heavyTimes m_heavyMany g_fewest g_which g_met m_mostMet, kx_a g_many cyI 324 (upd fm p2.toNatClampNeg lf), kx_a g_loss cyI 324 (upd fl p2.toNatClampNeg y_12), kx_a g_less cyI 324 (upd fe p2.toNatClampNeg 0), kx_a g_voteValue cyI 1944 wv, kx_a g_voteNumber cyI 1944 wn, kx_a g_allValue cyI 12 o_6, kx_a g_allNumber cyI 12 o_7]) [5, 0, 1, 2, 3, 4, 6, 7] (by decide) rfl
                      have hK9 := hK
                      have hen := mj_wr_end LP3_h3 (m := bm.toNatClampNeg) (by omega) hsum w_5.1 (by omega)
                      exact W.vret hx hb hr (fun t ht hW => ⟨⟨(bm, (0 : Int32), lf, (fun v => if (0 : Int) < mua v + mub v then mua v + mub v - 0 else 0), (upd fm p2.toNatClampNeg lf), (upd fl p2.toNatClampNeg y_12), (upd fe p2.toNatClampNeg 0), wv, wn, o_6, o_7), rfl, ⟨⟨o_6, o_7, bm.toNatClampNeg, hsum, w_5.1, Or.inl ⟨(by omega), rfl⟩, (fun v => rfl)⟩, (by (try dsimp only); rw [ey_12, ey_11, ey_9, ey_10]), rfl, rfl, (by (try dsimp only); omega), (by (try dsimp only); omega), hen.1, hen.2, LP3_h3.2.2.2.2⟩, by rw [ht]; exact hP9, va_K.moved hW.alike hK9, hD9⟩, hS.F ht⟩) hS.2.2 dX5_together_250
                    · have i_13 : k.toInt < bm.toInt := kc_nle c_13
                      refine lv_aload_n hx hb dX5_together_160 rfl (lv_at hl 4 rfl) ?_
                      refine va_get (D := (dC, dI)) (ci := 5) (v := .ref g_allNumber) (C := RX5) (T := TX5) (N := 30) hx hb hts hi_5 hown hK hP 5 rfl rfl 10 (by decide) hf_35 (fun _ h9 => h9) rfl dX5_together_161 ?_
                      refine lv_iload hx hb dX5_together_164 (lv_at hl 0 rfl) ?_
                      refine va_iald hx hb hK hP 7 0 rfl rfl (ki_in (om_8 LP3_h1) (om_213 b7 i_8 i_13)) dX5_together_166 ?_
                      refine lv_topi (fun y_14 ey_14 => ?_)
                      have j_14 : y_14.toInt = (o_7 k.toNatClampNeg).toInt := congrArg Int32.toInt ey_14
                      have g_15 : 0 < y_14.toInt ∧ y_14.toInt ≤ 1000000 := by rw [ey_14]; exact hbd k.toNatClampNeg (by omega)
                      refine lv_iload hx hb dX5_together_167 (lv_at hl 3 rfl) ?_
                      refine lv_isub hx hb dX5_together_169 ?_
                      refine lv_topi (fun y_16 ey_16 => ?_)
                      have i_16 : y_16.toInt = y_14.toInt - 0 := ki_sub ey_16 rfl rfl (by omega) (by omega)
                      refine lv_if_gt (tgt := 176) hx hb dX5_together_170 (by decide) (fun c_17 => ?_) (fun c_17 => ?_)
                      · have i_17 : 0 < y_16.toInt := kc_lt c_17
                        refine lv_aload_n hx hb dX5_together_176 rfl (lv_at hl 4 rfl) ?_
                        refine va_get (D := (dC, dI)) (ci := 5) (v := .ref g_voteValue) (C := RX5) (T := TX5) (N := 30) hx hb hts hi_5 hown hK hP 5 rfl rfl 7 (by decide) hf_26 (fun _ h9 => h9) rfl dX5_together_177 ?_
                        refine lv_bipush (v := 6) hx hb dX5_together_180 (by decide) ?_
                        refine lv_iload_n hx hb dX5_together_182 rfl (lv_at hl 7 rfl) ?_
                        refine lv_imul hx hb dX5_together_183 ?_
                        refine lv_topi (fun y_18 ey_18 => ?_)
                        have i_18 : y_18.toInt = 6 * p2.toInt := ki_mul ey_18 rfl rfl (om_167 b4) (om_214 b5)
                        refine lv_iload hx hb dX5_together_184 (lv_at hl 1 rfl) ?_
                        refine lv_iadd hx hb dX5_together_186 ?_
                        refine lv_topi (fun y_19 ey_19 => ?_)
                        have i_19 : y_19.toInt = y_18.toInt + lf.toInt := ki_add ey_19 rfl rfl (om_171 b4 LP3_h0 i_18) (by omega)
                        refine lv_aload_n hx hb dX5_together_187 rfl (lv_at hl 4 rfl) ?_
                        refine va_get (D := (dC, dI)) (ci := 5) (v := .ref g_allValue) (C := RX5) (T := TX5) (N := 30) hx hb hts hi_5 hown hK hP 5 rfl rfl 9 (by decide) hf_32 (fun _ h9 => h9) rfl dX5_together_188 ?_
                        refine lv_iload hx hb dX5_together_191 (lv_at hl 0 rfl) ?_
                        refine va_iald hx hb hK hP 6 0 rfl rfl (ki_in (om_8 LP3_h1) (om_213 b7 i_8 i_13)) dX5_together_193 ?_
                        refine lv_topi (fun y_20 ey_20 => ?_)
                        have j_20 : y_20.toInt = (o_6 k.toNatClampNeg).toInt := congrArg Int32.toInt ey_20
                        refine va_iast hx hb hK hP hD hS 3 0 rfl rfl (ki_in (om_172 b4 LP3_h0 i_18 i_19) (by omega)) dX5_together_194 (fun H locs hP hD hS => ?_)
                        have hP : va_P (dC, dI) vwCl [kx_a g_many cyI 324 fm, kx_a g_loss cyI 324 fl, kx_a g_less cyI 324 fe, kx_a g_voteValue cyI 1944 (upd wv y_19.toNatClampNeg y_20), kx_a g_voteNumber cyI 1944 wn, kx_5 h0 g_row m_n m_slots m_thrown g_many g_loss g_less g_voteValue g_voteNumber g_allValue g_allNumber bm g_nodeL g_nodeR m_nodes g_part m_partMany g_wasMany g_wasLoss g_wasValue g_wasNumber g_path m_pathMany g_heavyValue g_heavyTimes m_heavyMany g_fewest g_which g_met m_mostMet, kx_a g_allValue cyI 12 o_6, kx_a g_allNumber cyI 12 o_7] H := hP
                        have hD : va_D A [kx_a g_many cyI 324 fm, kx_a g_loss cyI 324 fl, kx_a g_less cyI 324 fe, kx_a g_voteValue cyI 1944 (upd wv y_19.toNatClampNeg y_20), kx_a g_voteNumber cyI 1944 wn, kx_5 h0 g_row m_n m_slots m_thrown g_many g_loss g_less g_voteValue g_voteNumber g_allValue g_allNumber bm g_nodeL g_nodeR m_nodes g_part m_partMany g_wasMany g_wasLoss g_wasValue g_wasNumber g_path m_pathMany g_heavyValue g_heavyTimes m_heavyMany g_fewest g_which g_met m_mostMet, kx_a g_allValue cyI 12 o_6, kx_a g_allNumber cyI 12 o_7] := hD
                        refine lv_aload_n hx hb dX5_together_195 rfl (lv_at hl 4 rfl) ?_
                        refine va_get (D := (dC, dI)) (ci := 5) (v := .ref g_voteNumber) (C := RX5) (T := TX5) (N := 30) hx hb hts hi_5 hown hK hP 5 rfl rfl 8 (by decide) hf_29 (fun _ h9 => h9) rfl dX5_together_196 ?_
                        refine lv_bipush (v := 6) hx hb dX5_together_199 (by decide) ?_
                        refine lv_iload_n hx hb dX5_together_201 rfl (lv_at hl 7 rfl) ?_
                        refine lv_imul hx hb dX5_together_202 ?_
                        refine lv_topi (fun y_21 ey_21 => ?_)
                        have i_21 : y_21.toInt = 6 * p2.toInt := ki_mul ey_21 rfl rfl (om_167 b4) (om_214 b5)
                        refine lv_iload hx hb dX5_together_203 (lv_at hl 1 rfl) ?_
                        refine lv_iadd hx hb dX5_together_205 ?_
                        refine lv_topi (fun y_22 ey_22 => ?_)
                        have i_22 : y_22.toInt = y_21.toInt + lf.toInt := ki_add ey_22 rfl rfl (om_171 b4 LP3_h0 i_21) (by omega)
                        refine lv_aload_n hx hb dX5_together_206 rfl (lv_at hl 4 rfl) ?_
                        refine va_get (D := (dC, dI)) (ci := 5) (v := .ref g_allNumber) (C := RX5) (T := TX5) (N := 30) hx hb hts hi_5 hown hK hP 5 rfl rfl 10 (by decide) hf_35 (fun _ h9 => h9) rfl dX5_together_207 ?_
                        refine lv_iload hx hb dX5_together_210 (lv_at hl 0 rfl) ?_
                        refine va_iald hx hb hK hP 7 0 rfl rfl (ki_in (om_8 LP3_h1) (om_213 b7 i_8 i_13)) dX5_together_212 ?_
                        refine lv_topi (fun y_23 ey_23 => ?_)
                        have j_23 : y_23.toInt = (o_7 k.toNatClampNeg).toInt := congrArg Int32.toInt ey_23
                        have g_24 : 0 < y_23.toInt ∧ y_23.toInt ≤ 1000000 := by rw [ey_23]; exact hbd k.toNatClampNeg (by omega)
                        refine lv_iload hx hb dX5_together_213 (lv_at hl 3 rfl) ?_
                        refine lv_isub hx hb dX5_together_215 ?_
                        refine lv_topi (fun y_25 ey_25 => ?_)
                        have i_25 : y_25.toInt = y_23.toInt - 0 := ki_sub ey_25 rfl rfl (by omega) (by omega)
                        refine va_iast hx hb hK hP hD hS 4 0 rfl rfl (ki_in (om_172 b4 LP3_h0 i_21 i_22) (by omega)) dX5_together_216 (fun H locs hP hD hS => ?_)
                        have hP : va_P (dC, dI) vwCl [kx_a g_many cyI 324 fm, kx_a g_loss cyI 324 fl, kx_a g_less cyI 324 fe, kx_a g_voteValue cyI 1944 (upd wv y_19.toNatClampNeg y_20), kx_a g_voteNumber cyI 1944 (upd wn y_22.toNatClampNeg y_25), kx_5 h0 g_row m_n m_slots m_thrown g_many g_loss g_less g_voteValue g_voteNumber g_allValue g_allNumber bm g_nodeL g_nodeR m_nodes g_part m_partMany g_wasMany g_wasLoss g_wasValue g_wasNumber g_path m_pathMany g_heavyValue g_heavyTimes m_heavyMany g_fewest g_which g_met m_mostMet, kx_a g_allValue cyI 12 o_6, kx_a g_allNumber cyI 12 o_7] H := hP
                        have hD : va_D A [kx_a g_many cyI 324 fm, kx_a g_loss cyI 324 fl, kx_a g_less cyI 324 fe, kx_a g_voteValue cyI 1944 (upd wv y_19.toNatClampNeg y_20), kx_a g_voteNumber cyI 1944 (upd wn y_22.toNatClampNeg y_25), kx_5 h0 g_row m_n m_slots m_thrown g_many g_loss g_less g_voteValue g_voteNumber g_allValue g_allNumber bm g_nodeL g_nodeR m_nodes g_part m_partMany g_wasMany g_wasLoss g_wasValue g_wasNumber g_path m_pathMany g_heavyValue g_heavyTimes m_heavyMany g_fewest g_which g_met m_mostMet, kx_a g_allValue cyI 12 o_6, kx_a g_allNumber cyI 12 o_7] := hD
                        obtain ⟨x_26, ex_26⟩ : ∃ y : Int32, y = lf + 1 := ⟨_, rfl⟩
                        have i_26 : x_26.toInt = lf.toInt + 1 := ki_add ex_26 rfl rfl (om_10 LP3_h0) (by omega)
                        refine lv_iinc (v := x_26) (lv' := [(7, .int x_26), (8, .int k), (6, .int y_12), (5, .int 0), (0, .ref h0), (1, .int p0), (2, .int p1), (3, .int p2), (4, .int p3)]) hx hb dX5_together_217 hl (k := 1) rfl (by rw [ex_26]; rfl) (by decide) rfl (fun ls hl => ?_)
                        obtain ⟨x_27, ex_27⟩ : ∃ y : Int32, y = k + 1 := ⟨_, rfl⟩
                        have i_27 : x_27.toInt = k.toInt + 1 := ki_add ex_27 rfl rfl (om_10 LP3_h1) (om_215 b7 i_8 i_13)
                        refine lv_iinc (v := x_27) (lv' := [(8, .int x_27), (7, .int x_26), (6, .int y_12), (5, .int 0), (0, .ref h0), (1, .int p0), (2, .int p1), (3, .int p2), (4, .int p3)]) hx hb dX5_together_220 hl (k := 1) rfl (by rw [ex_27]; rfl) (by decide) rfl (fun ls hl => ?_)
                        refine lv_goto (tgt := 151) hx hb dX5_together_223 (by decide) ?_
                        have n_28 := ki_nat x_27 rfl (om_31 LP3_h1 i_27)
                        have n_29 := ki_nat y_19 rfl (om_172 b4 LP3_h0 i_18 i_19)
                        have n_30 := ki_nat y_22 rfl (om_172 b4 LP3_h0 i_21 i_22)
                        have n_31 := ki_nat x_26 rfl (om_31 LP3_h0 i_26)
                        exact ih3 x_26 x_27 (upd wv y_19.toNatClampNeg y_20) (upd wn y_22.toNatClampNeg y_25) (om_31 LP3_h0 i_26) (om_31 LP3_h1 i_27) (om_47 i_13 i_27) (mj_wr_put LP3_h3 w_5.1 (by omega) (by omega) (fun h => absurd h (by omega)) (by omega) ey_20 (by omega) (by omega) (by omega) (by omega) (by omega)) (om_mu hn3 (om_5 i_27) (om_6 i_13)) _ _ hP hD hS ls (lv_sub hl [0, 1, 2, 3, 4, 5, 6, 7, 8] rfl)
                      · have i_17 : y_16.toInt ≤ 0 := kc_nlt c_17
                        refine lv_goto (tgt := 220) hx hb dX5_together_173 (by decide) ?_
                        obtain ⟨x_32, ex_32⟩ : ∃ y : Int32, y = k + 1 := ⟨_, rfl⟩
                        have i_32 : x_32.toInt = k.toInt + 1 := ki_add ex_32 rfl rfl (om_10 LP3_h1) (om_215 b7 i_8 i_13)
                        refine lv_iinc (v := x_32) (lv' := [(8, .int x_32), (7, .int lf), (6, .int y_12), (5, .int 0), (0, .ref h0), (1, .int p0), (2, .int p1), (3, .int p2), (4, .int p3)]) hx hb dX5_together_220 hl (k := 0) rfl (by rw [ex_32]; rfl) (by decide) rfl (fun ls hl => ?_)
                        refine lv_goto (tgt := 151) hx hb dX5_together_223 (by decide) ?_
                        have n_33 := ki_nat x_32 rfl (om_31 LP3_h1 i_32)
                        exact ih3 lf x_32 wv wn (om_8 LP3_h0) (om_31 LP3_h1 i_32) (om_47 i_13 i_32) (mj_wr_skip LP3_h3 (by omega) (by omega)) (om_mu hn3 (om_5 i_32) (om_6 i_13)) _ _ hP hD hS ls (lv_sub hl [0, 1, 2, 3, 4, 5, 6, 7, 8] rfl)
                have k_34 : (0 : Int32).toInt = 0 := rfl
                have k_35 : (0 : Int32).toInt = 0 := rfl
                exact LP3 ((bm.toInt - 0 : Int).toNat + 1) 0 0 vv vn om_32 om_32 (om_8 LP2_h2) (mj_wr_0 _ _ _ _ _ _ _) (Nat.lt_succ_self _) _ _ hP hD hS ls (lv_sub hl [0, 1, 2, 3, 4, 5, 6, 7, 8] rfl)
              · have i_8 : p3.toInt < bm.toInt := kc_nle c_8
                refine lv_aload_n hx hb dX5_together_114 rfl (lv_at hl 1 rfl) ?_
                refine va_get (D := (dC, dI)) (ci := 5) (v := .ref g_allNumber) (C := RX5) (T := TX5) (N := 30) hx hb hts hi_5 hown hK hP 5 rfl rfl 10 (by decide) hf_35 (fun _ h9 => h9) rfl dX5_together_115 ?_
                refine lv_iload hx hb dX5_together_118 (lv_at hl 5 rfl) ?_
                refine va_iald hx hb hK hP 7 0 rfl rfl (ki_in (om_8 b6) (om_216 b7)) dX5_together_120 ?_
                refine lv_topi (fun y_36 ey_36 => ?_)
                have j_36 : y_36.toInt = (o_7 p3.toNatClampNeg).toInt := congrArg Int32.toInt ey_36
                have g_37 : 0 < y_36.toInt ∧ y_36.toInt ≤ 1000000 := by rw [ey_36]; exact hbd p3.toNatClampNeg (by omega)
                refine lv_goto (tgt := 125) hx hb dX5_together_121 (by decide) ?_
                refine lv_istore (lv' := [(5, .int y_36), (0, .ref h0), (1, .int p0), (2, .int p1), (3, .int p2), (4, .int p3)]) hx hb dX5_together_125 hl (by decide) rfl (fun ls hl => ?_)
                refine lv_aload_n hx hb dX5_together_127 rfl (lv_at hl 1 rfl) ?_
                refine va_get (D := (dC, dI)) (ci := 5) (v := .ref g_loss) (C := RX5) (T := TX5) (N := 30) hx hb hts hi_5 hown hK hP 5 rfl rfl 5 (by decide) hf_20 (fun _ h9 => h9) rfl dX5_together_128 ?_
                refine lv_iload_n hx hb dX5_together_131 rfl (lv_at hl 2 rfl) ?_
                refine va_iald hx hb hK hP 1 0 rfl rfl (ki_in (om_8 b0) (om_166 b1)) dX5_together_132 ?_
                refine lv_topi (fun y_38 ey_38 => ?_)
                have j_38 : y_38.toInt = (fl p0.toNatClampNeg).toInt := congrArg Int32.toInt ey_38
                refine lv_aload_n hx hb dX5_together_133 rfl (lv_at hl 1 rfl) ?_
                refine va_get (D := (dC, dI)) (ci := 5) (v := .ref g_loss) (C := RX5) (T := TX5) (N := 30) hx hb hts hi_5 hown hK hP 5 rfl rfl 5 (by decide) hf_20 (fun _ h9 => h9) rfl dX5_together_134 ?_
                refine lv_iload_n hx hb dX5_together_137 rfl (lv_at hl 3 rfl) ?_
                refine va_iald hx hb hK hP 1 0 rfl rfl (ki_in (om_8 b2) (om_166 b3)) dX5_together_138 ?_
                refine lv_topi (fun y_39 ey_39 => ?_)
                have j_39 : y_39.toInt = (fl p1.toNatClampNeg).toInt := congrArg Int32.toInt ey_39
                refine lv_iadd hx hb dX5_together_139 ?_
                refine lv_topi (fun y_40 ey_40 => ?_)
                refine lv_iload hx hb dX5_together_140 (lv_at hl 0 rfl) ?_
                refine lv_iadd hx hb dX5_together_142 ?_
                refine lv_topi (fun y_41 ey_41 => ?_)
                refine lv_istore (lv' := [(6, .int y_41), (5, .int y_36), (0, .ref h0), (1, .int p0), (2, .int p1), (3, .int p2), (4, .int p3)]) hx hb dX5_together_143 hl (by decide) rfl (fun ls hl => ?_)
                refine lv_iconst (v := 0) hx hb dX5_together_145 (by decide) ?_
                refine lv_istore (lv' := [(7, .int 0), (6, .int y_41), (5, .int y_36), (0, .ref h0), (1, .int p0), (2, .int p1), (3, .int p2), (4, .int p3)]) hx hb dX5_together_146 hl (by decide) rfl (fun ls hl => ?_)
                refine lv_iconst (v := 0) hx hb dX5_together_148 (by decide) ?_
                refine lv_istore (lv' := [(8, .int 0), (7, .int 0), (6, .int y_41), (5, .int y_36), (0, .ref h0), (1, .int p0), (2, .int p1), (3, .int p2), (4, .int p3)]) hx hb dX5_together_149 hl (by decide) rfl (fun ls hl => ?_)
                have LP4 : ∀ (n : Nat) (lf : Int32) (k : Int32) (wv : Nat → Int32) (wn : Nat → Int32), (0 ≤ lf.toInt) → (0 ≤ k.toInt) → (k.toInt ≤ bm.toInt) → (mj_wr p3.toNatClampNeg o_6 o_7 y_36.toInt (6 * p2.toNatClampNeg) lf.toNatClampNeg k.toNatClampNeg vv vn wv wn) → (bm.toInt - k.toInt).toNat < n → ∀ (H : Heap) (locs : List Loc), va_P (dC, dI) vwCl [kx_a g_many cyI 324 fm, kx_a g_loss cyI 324 fl, kx_a g_less cyI 324 fe, kx_a g_voteValue cyI 1944 wv, kx_a g_voteNumber cyI 1944 wn, kx_5 h0 g_row m_n m_slots m_thrown g_many g_loss g_less g_voteValue g_voteNumber g_allValue g_allNumber bm g_nodeL g_nodeR m_nodes g_part m_partMany g_wasMany g_wasLoss g_wasValue g_wasNumber g_path m_pathMany g_heavyValue g_heavyTimes m_heavyMany g_fewest g_which g_met m_mostMet, kx_a g_allValue cyI 12 o_6, kx_a g_allNumber cyI 12 o_7] H → va_D A [kx_a g_many cyI 324 fm, kx_a g_loss cyI 324 fl, kx_a g_less cyI 324 fe, kx_a g_voteValue cyI 1944 wv, kx_a g_voteNumber cyI 1944 wn, kx_5 h0 g_row m_n m_slots m_thrown g_many g_loss g_less g_voteValue g_voteNumber g_allValue g_allNumber bm g_nodeL g_nodeR m_nodes g_part m_partMany g_wasMany g_wasLoss g_wasValue g_wasNumber g_path m_pathMany g_heavyValue g_heavyTimes m_heavyMany g_fewest g_which g_met m_mostMet, kx_a g_allValue cyI 12 o_6, kx_a g_allNumber cyI 12 o_7] → va_S A s.heap H locs → ∀ (ls : Array Slot), lv_has ls 9 [(8, .int k), (7, .int lf), (6, .int y_41), (5, .int y_36), (0, .ref h0), (1, .int p0), (2, .int p1), (3, .int p2), (4, .int p3)] → W p l e (headSpec wsX5_together ({ frames := 2, cells := 0, slots := 0, locals := 90 })).room s m ([.ref h0, .int p0, .int p1, .int p2, .int p3] : List Value).toArray below meth c H locs 0 0 (MQ below (va_Qv (fun u : Int32 × Int32 × Int32 × (Int32 → Int) × (Nat → Int32) × (Nat → Int32) × (Nat → Int32) × (Nat → Int32) × (Nat → Int32) × (Nat → Int32) × (Nat → Int32) => mj_tog p3.toNatClampNeg mua mub u.2.2.2.1 u.2.1 ∧ u.2.2.2.2.2.1 = upd fl p2.toNatClampNeg (fl p0.toNatClampNeg + fl p1.toNatClampNeg + u.2.1) ∧ u.2.2.2.2.2.2.1 = upd fe p2.toNatClampNeg u.2.1 ∧ u.2.2.2.2.1 = upd fm p2.toNatClampNeg u.2.2.1 ∧ 0 ≤ u.2.2.1.toInt ∧ u.2.2.1.toInt ≤ p3.toInt ∧ mj_vs u.2.2.2.2.2.2.2.1 u.2.2.2.2.2.2.2.2.1 (6 * p2.toNatClampNeg) u.2.2.1.toNatClampNeg u.2.2.2.1 ∧ mj_srt u.2.2.2.2.2.2.2.1 u.2.2.2.2.2.2.2.2.1 (6 * p2.toNatClampNeg) u.2.2.1.toNatClampNeg ∧ ∀ q : Nat, (q < 6 * p2.toNatClampNeg ∨ 6 * p2.toNatClampNeg + 6 ≤ q) → u.2.2.2.2.2.2.2.1 q = vv q ∧ u.2.2.2.2.2.2.2.2.1 q = vn q) (fun (u : Int32 × Int32 × Int32 × (Int32 → Int) × (Nat → Int32) × (Nat → Int32) × (Nat → Int32) × (Nat → Int32) × (Nat → Int32) × (Nat → Int32) × (Nat → Int32)) (t : State) => va_P (dC, dI) vwCl [kx_5 h0 g_row m_n m_slots m_thrown g_many g_loss g_less g_voteValue g_voteNumber g_allValue g_allNumber u.1 g_nodeL g_nodeR m_nodes g_part m_partMany g_wasMany g_wasLoss g_wasValue g_wasNumber g_path m_pathMany g_heavyValue g_heavyTimes m_heavyMany g_fewest g_which g_met m_mostMet, kx_a g_many cyI 324 u.2.2.2.2.1, kx_a g_loss cyI 324 u.2.2.2.2.2.1, kx_a g_less cyI 324 u.2.2.2.2.2.2.1, kx_a g_voteValue cyI 1944 u.2.2.2.2.2.2.2.1, kx_a g_voteNumber cyI 1944 u.2.2.2.2.2.2.2.2.1, kx_a g_allValue cyI 12 u.2.2.2.2.2.2.2.2.2.1, kx_a g_allNumber cyI 12 u.2.2.2.2.2.2.2.2.2.2] t.heap ∧ va_K (dC, dI) vwCl [(cyI, .int)] t ∧ va_D A [kx_5 h0 g_row m_n m_slots m_thrown g_many g_loss g_less g_voteValue g_voteNumber g_allValue g_allNumber u.1 g_nodeL g_nodeR m_nodes g_part m_partMany g_wasMany g_wasLoss g_wasValue g_wasNumber g_path m_pathMany g_heavyValue g_heavyTimes m_heavyMany g_fewest g_which g_met m_mostMet, kx_a g_many cyI 324 u.2.2.2.2.1, kx_a g_loss cyI 324 u.2.2.2.2.2.1, kx_a g_less cyI 324 u.2.2.2.2.2.2.1, kx_a g_voteValue cyI 1944 u.2.2.2.2.2.2.2.1, kx_a g_voteNumber cyI 1944 u.2.2.2.2.2.2.2.2.1, kx_a g_allValue cyI 12 u.2.2.2.2.2.2.2.2.2.1, kx_a g_allNumber cyI 12 u.2.2.2.2.2.2.2.2.2.2]) A) ([.ref h0, .int p0, .int p1, .int p2, .int p3] : List Value).toArray s 0 0 A) (F0 m 151 ls []) := by
                  intro n
                  induction n with
                  | zero => intro lf k wv wn LP4_h0 LP4_h1 LP4_h2 LP4_h3 hn; exact absurd hn (Nat.not_lt_zero _)
                  | succ n ih4 =>
                    intro lf k wv wn LP4_h0 LP4_h1 LP4_h2 LP4_h3 hn4 H locs hP hD hS ls hl
                    have n_lf := ki_nat lf rfl (om_8 LP4_h0)
                    have n_k := ki_nat k rfl (om_8 LP4_h1)
                    have h_lf := LP4_h3.2.1
                    refine lv_iload hx hb dX5_together_151 (lv_at hl 0 rfl) ?_
                    refine lv_aload_n hx hb dX5_together_153 rfl (lv_at hl 4 rfl) ?_
                    refine va_get (D := (dC, dI)) (ci := 5) (v := .int bm) (C := RX5) (T := TX5) (N := 30) hx hb hts hi_5 hown hK hP 5 rfl rfl 11 (by decide) hf_87 (fun _ h9 => h9) rfl dX5_together_154 ?_
                    refine lv_icmp_ge (tgt := 226) hx hb dX5_together_157 (by decide) (fun c_42 => ?_) (fun c_42 => ?_)
                    · have i_42 : bm.toInt ≤ k.toInt := kc_le c_42
                      refine lv_aload_n hx hb dX5_together_226 rfl (lv_at hl 4 rfl) ?_
                      refine va_get (D := (dC, dI)) (ci := 5) (v := .ref g_many) (C := RX5) (T := TX5) (N := 30) hx hb hts hi_5 hown hK hP 5 rfl rfl 4 (by decide) hf_17 (fun _ h9 => h9) rfl dX5_together_227 ?_
                      refine lv_iload_n hx hb dX5_together_230 rfl (lv_at hl 7 rfl) ?_
                      refine lv_iload hx hb dX5_together_231 (lv_at hl 1 rfl) ?_
                      refine va_iast hx hb hK hP hD hS 0 0 rfl rfl (ki_in (om_8 b4) (om_212 b5)) dX5_together_233 (fun H locs hP hD hS => ?_)
                      have hP : va_P (dC, dI) vwCl [kx_a g_many cyI 324 (upd fm p2.toNatClampNeg lf), kx_a g_loss cyI 324 fl, kx_a g_less cyI 324 fe, kx_a g_voteValue cyI 1944 wv, kx_a g_voteNumber cyI 1944 wn, kx_5 h0 g_row m_n m_slots m_thrown g_many g_loss g_less g_voteValue g_voteNumber g_allValue g_allNumber bm g_nodeL g_nodeR m_nodes g_part m_partMany g_wasMany g_wasLoss g_wasValue g_wasNumber g_path m_pathMany g_heavyValue g_heavyTimes m_heavyMany g_fewest g_which g_met m_mostMet, kx_a g_allValue cyI 12 o_6, kx_a g_allNumber cyI 12 o_7] H := hP
                      have hD : va_D A [kx_a g_many cyI 324 (upd fm p2.toNatClampNeg lf), kx_a g_loss cyI 324 fl, kx_a g_less cyI 324 fe, kx_a g_voteValue cyI 1944 wv, kx_a g_voteNumber cyI 1944 wn, kx_5 h0 g_row m_n m_slots m_thrown g_many g_loss g_less g_voteValue g_voteNumber g_allValue g_allNumber bm g_nodeL g_nodeR m_nodes g_part m_partMany g_wasMany g_wasLoss g_wasValue g_wasNumber g_path m_pathMany g_heavyValue g_heavyTimes m_heavyMany g_fewest g_which g_met m_mostMet, kx_a g_allValue cyI 12 o_6, kx_a g_allNumber cyI 12 o_7] := hD
                      refine lv_aload_n hx hb dX5_together_234 rfl (lv_at hl 4 rfl) ?_
                      refine va_get (D := (dC, dI)) (ci := 5) (v := .ref g_loss) (C := RX5) (T := TX5) (N := 30) hx hb hts hi_5 hown hK hP 5 rfl rfl 5 (by decide) hf_20 (fun _ h9 => h9) rfl dX5_together_235 ?_
                      refine lv_iload_n hx hb dX5_together_238 rfl (lv_at hl 7 rfl) ?_
                      refine lv_iload hx hb dX5_together_239 (lv_at hl 2 rfl) ?_
                      refine va_iast hx hb hK hP hD hS 1 0 rfl rfl (ki_in (om_8 b4) (om_212 b5)) dX5_together_241 (fun H locs hP hD hS => ?_)
                      have hP : va_P (dC, dI) vwCl [kx_a g_many cyI 324 (upd fm p2.toNatClampNeg lf), kx_a g_loss cyI 324 (upd fl p2.toNatClampNeg y_41), kx_a g_less cyI 324 fe, kx_a g_voteValue cyI 1944 wv, kx_a g_voteNumber cyI 1944 wn, kx_5 h0 g_row m_n m_slots m_thrown g_many g_loss g_less g_voteValue g_voteNumber g_allValue g_allNumber bm g_nodeL g_nodeR m_nodes g_part m_partMany g_wasMany g_wasLoss g_wasValue g_wasNumber g_path m_pathMany g_heavyValue g_heavyTimes m_heavyMany g_fewest g_which g_met m_mostMet, kx_a g_allValue cyI 12 o_6, kx_a g_allNumber cyI 12 o_7] H := hP
                      have hD : va_D A [kx_a g_many cyI 324 (upd fm p2.toNatClampNeg lf), kx_a g_loss cyI 324 (upd fl p2.toNatClampNeg y_41), kx_a g_less cyI 324 fe, kx_a g_voteValue cyI 1944 wv, kx_a g_voteNumber cyI 1944 wn, kx_5 h0 g_row m_n m_slots m_thrown g_many g_loss g_less g_voteValue g_voteNumber g_allValue g_allNumber bm g_nodeL g_nodeR m_nodes g_part m_partMany g_wasMany g_wasLoss g_wasValue g_wasNumber g_path m_pathMany g_heavyValue g_heavyTimes m_heavyMany g_fewest g_which g_met m_mostMet, kx_a g_allValue cyI 12 o_6, kx_a g_allNumber cyI 12 o_7] := hD
                      refine lv_aload_n hx hb dX5_together_242 rfl (lv_at hl 4 rfl) ?_
                      refine va_get (D := (dC, dI)) (ci := 5) (v := .ref g_less) (C := RX5) (T := TX5) (N := 30) hx hb hts hi_5 hown hK hP 5 rfl rfl 6 (by decide) hf_23 (fun _ h9 => h9) rfl dX5_together_243 ?_
                      refine lv_iload_n hx hb dX5_together_246 rfl (lv_at hl 7 rfl) ?_
                      refine lv_iload hx hb dX5_together_247 (lv_at hl 3 rfl) ?_
                      refine va_iast hx hb hK hP hD hS 2 0 rfl rfl (ki_in (om_8 b4) (om_212 b5)) dX5_together_249 (fun H locs hP hD hS => ?_)
                      have hP : va_P (dC, dI) vwCl [kx_a g_many cyI 324 (upd fm p2.toNatClampNeg lf), kx_a g_loss cyI 324 (upd fl p2.toNatClampNeg y_41), kx_a g_less cyI 324 (upd fe p2.toNatClampNeg y_36), kx_a g_voteValue cyI 1944 wv, kx_a g_voteNumber cyI 1944 wn, kx_5 h0 g_row m_n m_slots m_thrown g_many g_loss g_less g_voteValue g_voteNumber g_allValue g_allNumber bm g_nodeL g_nodeR m_nodes g_part m_partMany g_wasMany g_wasLoss g_wasValue g_wasNumber g_path m_pathMany g_heavyValue g_heavyTimes m_heavyMany g_fewest g_which g_met m_mostMet, kx_a g_allValue cyI 12 o_6, kx_a g_allNumber cyI 12 o_7] H := hP
                      have hD : va_D A [kx_a g_many cyI 324 (upd fm p2.toNatClampNeg lf), kx_a g_loss cyI 324 (upd fl p2.toNatClampNeg y_41), kx_a g_less cyI 324 (upd fe p2.toNatClampNeg y_36), kx_a g_voteValue cyI 1944 wv, kx_a g_voteNumber cyI 1944 wn, kx_5 h0 g_row m_n m_slots m_thrown g_many g_loss g_less g_voteValue g_voteNumber g_allValue g_allNumber bm g_nodeL g_nodeR m_nodes g_part m_partMany g_wasMany g_wasLoss g_wasValue g_wasNumber g_path m_pathMany g_heavyValue g_heavyTimes m_heavyMany g_fewest g_which g_met m_mostMet, kx_a g_allValue cyI 12 o_6, kx_a g_allNumber cyI 12 o_7] := hD
                      have hP9 := hP.sub (ws' := [kx_5 h0 g_row m_n m_slots m_thrown g_many g_loss g_less g_voteValue g_voteNumber g_allValue g_allNumber bm g_nodeL g_nodeR m_nodes g_part m_partMany g_wasMany g_wasLoss g_wasValue g_wasNumber g_path m_pathMany g_heavyValue g_heavyTimes m_heavyMany g_fewest g_which g_met m_mostMet, kx_a g_many cyI 324 (upd fm p2.toNatClampNeg lf), kx_a g_loss cyI 324 (upd fl p2.toNatClampNeg y_41), kx_a g_less cyI 324 (upd fe p2.toNatClampNeg y_36), kx_a g_voteValue cyI 1944 wv, kx_a g_voteNumber cyI 1944 wn, kx_a g_allValue cyI 12 o_6, kx_a g_allNumber cyI 12 o_7]) [5, 0, 1, 2, 3, 4, 6, 7] rfl
                      have hD9 := hD.sub (ws' := [kx_5 h0 g_row m_n m_slots m_thrown g_many g_loss g_less g_voteValue g_voteNumber g_allValue g_allNumber bm g_nodeL g_nodeR m_nodes g_part m_partMany g_wasMany g_wasLoss g_wasValue g_wasNumber g_path m_pathMany g_heavyValue g_heavyTimes m_heavyMany g_fewest g_which g_met m_mostMet, kx_a g_many cyI 324 (upd fm p2.toNatClampNeg lf), kx_a g_loss cyI 324 (upd fl p2.toNatClampNeg y_41), kx_a g_less cyI 324 (upd fe p2.toNatClampNeg y_36), kx_a g_voteValue cyI 1944 wv, kx_a g_voteNumber cyI 1944 wn, kx_a g_allValue cyI 12 o_6, kx_a g_allNumber cyI 12 o_7]) [5, 0, 1, 2, 3, 4, 6, 7] (by decide) rfl
                      have hK9 := hK
                      have hen := mj_wr_end LP4_h3 (m := bm.toNatClampNeg) (by omega) hsum w_5.1 (by omega)
                      exact W.vret hx hb hr (fun t ht hW => ⟨⟨(bm, y_36, lf, (fun v => if (y_36.toInt : Int) < mua v + mub v then mua v + mub v - y_36.toInt else 0), (upd fm p2.toNatClampNeg lf), (upd fl p2.toNatClampNeg y_41), (upd fe p2.toNatClampNeg y_36), wv, wn, o_6, o_7), rfl, ⟨⟨o_6, o_7, bm.toNatClampNeg, hsum, w_5.1, Or.inr ⟨(by omega), ey_36⟩, (fun v => rfl)⟩, (by (try dsimp only); rw [ey_41, ey_40, ey_38, ey_39]), rfl, rfl, (by (try dsimp only); omega), (by (try dsimp only); omega), hen.1, hen.2, LP4_h3.2.2.2.2⟩, by rw [ht]; exact hP9, va_K.moved hW.alike hK9, hD9⟩, hS.F ht⟩) hS.2.2 dX5_together_250
                    · have i_42 : k.toInt < bm.toInt := kc_nle c_42
                      refine lv_aload_n hx hb dX5_together_160 rfl (lv_at hl 4 rfl) ?_
                      refine va_get (D := (dC, dI)) (ci := 5) (v := .ref g_allNumber) (C := RX5) (T := TX5) (N := 30) hx hb hts hi_5 hown hK hP 5 rfl rfl 10 (by decide) hf_35 (fun _ h9 => h9) rfl dX5_together_161 ?_
                      refine lv_iload hx hb dX5_together_164 (lv_at hl 0 rfl) ?_
                      refine va_iald hx hb hK hP 7 0 rfl rfl (ki_in (om_8 LP4_h1) (om_217 m1 m3 LP2_h1 LP2_h3 i_42)) dX5_together_166 ?_
                      refine lv_topi (fun y_43 ey_43 => ?_)
                      have j_43 : y_43.toInt = (o_7 k.toNatClampNeg).toInt := congrArg Int32.toInt ey_43
                      have g_44 : 0 < y_43.toInt ∧ y_43.toInt ≤ 1000000 := by rw [ey_43]; exact hbd k.toNatClampNeg (by omega)
                      refine lv_iload hx hb dX5_together_167 (lv_at hl 3 rfl) ?_
                      refine lv_isub hx hb dX5_together_169 ?_
                      refine lv_topi (fun y_45 ey_45 => ?_)
                      have i_45 : y_45.toInt = y_43.toInt - y_36.toInt := ki_sub ey_45 rfl rfl (by omega) (by omega)
                      refine lv_if_gt (tgt := 176) hx hb dX5_together_170 (by decide) (fun c_46 => ?_) (fun c_46 => ?_)
                      · have i_46 : 0 < y_45.toInt := kc_lt c_46
                        refine lv_aload_n hx hb dX5_together_176 rfl (lv_at hl 4 rfl) ?_
                        refine va_get (D := (dC, dI)) (ci := 5) (v := .ref g_voteValue) (C := RX5) (T := TX5) (N := 30) hx hb hts hi_5 hown hK hP 5 rfl rfl 7 (by decide) hf_26 (fun _ h9 => h9) rfl dX5_together_177 ?_
                        refine lv_bipush (v := 6) hx hb dX5_together_180 (by decide) ?_
                        refine lv_iload_n hx hb dX5_together_182 rfl (lv_at hl 7 rfl) ?_
                        refine lv_imul hx hb dX5_together_183 ?_
                        refine lv_topi (fun y_47 ey_47 => ?_)
                        have i_47 : y_47.toInt = 6 * p2.toInt := ki_mul ey_47 rfl rfl (om_167 b4) (om_214 b5)
                        refine lv_iload hx hb dX5_together_184 (lv_at hl 1 rfl) ?_
                        refine lv_iadd hx hb dX5_together_186 ?_
                        refine lv_topi (fun y_48 ey_48 => ?_)
                        have i_48 : y_48.toInt = y_47.toInt + lf.toInt := ki_add ey_48 rfl rfl (om_171 b4 LP4_h0 i_47) (by omega)
                        refine lv_aload_n hx hb dX5_together_187 rfl (lv_at hl 4 rfl) ?_
                        refine va_get (D := (dC, dI)) (ci := 5) (v := .ref g_allValue) (C := RX5) (T := TX5) (N := 30) hx hb hts hi_5 hown hK hP 5 rfl rfl 9 (by decide) hf_32 (fun _ h9 => h9) rfl dX5_together_188 ?_
                        refine lv_iload hx hb dX5_together_191 (lv_at hl 0 rfl) ?_
                        refine va_iald hx hb hK hP 6 0 rfl rfl (ki_in (om_8 LP4_h1) (om_217 m1 m3 LP2_h1 LP2_h3 i_42)) dX5_together_193 ?_
                        refine lv_topi (fun y_49 ey_49 => ?_)
                        have j_49 : y_49.toInt = (o_6 k.toNatClampNeg).toInt := congrArg Int32.toInt ey_49
                        refine va_iast hx hb hK hP hD hS 3 0 rfl rfl (ki_in (om_172 b4 LP4_h0 i_47 i_48) (by omega)) dX5_together_194 (fun H locs hP hD hS => ?_)
                        have hP : va_P (dC, dI) vwCl [kx_a g_many cyI 324 fm, kx_a g_loss cyI 324 fl, kx_a g_less cyI 324 fe, kx_a g_voteValue cyI 1944 (upd wv y_48.toNatClampNeg y_49), kx_a g_voteNumber cyI 1944 wn, kx_5 h0 g_row m_n m_slots m_thrown g_many g_loss g_less g_voteValue g_voteNumber g_allValue g_allNumber bm g_nodeL g_nodeR m_nodes g_part m_partMany g_wasMany g_wasLoss g_wasValue g_wasNumber g_path m_pathMany g_heavyValue g_heavyTimes m_heavyMany g_fewest g_which g_met m_mostMet, kx_a g_allValue cyI 12 o_6, kx_a g_allNumber cyI 12 o_7] H := hP
                        have hD : va_D A [kx_a g_many cyI 324 fm, kx_a g_loss cyI 324 fl, kx_a g_less cyI 324 fe, kx_a g_voteValue cyI 1944 (upd wv y_48.toNatClampNeg y_49), kx_a g_voteNumber cyI 1944 wn, kx_5 h0 g_row m_n m_slots m_thrown g_many g_loss g_less g_voteValue g_voteNumber g_allValue g_allNumber bm g_nodeL g_nodeR m_nodes g_part m_partMany g_wasMany g_wasLoss g_wasValue g_wasNumber g_path m_pathMany g_heavyValue g_heavyTimes m_heavyMany g_fewest g_which g_met m_mostMet, kx_a g_allValue cyI 12 o_6, kx_a g_allNumber cyI 12 o_7] := hD
                        refine lv_aload_n hx hb dX5_together_195 rfl (lv_at hl 4 rfl) ?_
                        refine va_get (D := (dC, dI)) (ci := 5) (v := .ref g_voteNumber) (C := RX5) (T := TX5) (N := 30) hx hb hts hi_5 hown hK hP 5 rfl rfl 8 (by decide) hf_29 (fun _ h9 => h9) rfl dX5_together_196 ?_
                        refine lv_bipush (v := 6) hx hb dX5_together_199 (by decide) ?_
                        refine lv_iload_n hx hb dX5_together_201 rfl (lv_at hl 7 rfl) ?_
                        refine lv_imul hx hb dX5_together_202 ?_
                        refine lv_topi (fun y_50 ey_50 => ?_)
                        have i_50 : y_50.toInt = 6 * p2.toInt := ki_mul ey_50 rfl rfl (om_167 b4) (om_214 b5)
                        refine lv_iload hx hb dX5_together_203 (lv_at hl 1 rfl) ?_
                        refine lv_iadd hx hb dX5_together_205 ?_
                        refine lv_topi (fun y_51 ey_51 => ?_)
                        have i_51 : y_51.toInt = y_50.toInt + lf.toInt := ki_add ey_51 rfl rfl (om_171 b4 LP4_h0 i_50) (by omega)
                        refine lv_aload_n hx hb dX5_together_206 rfl (lv_at hl 4 rfl) ?_
                        refine va_get (D := (dC, dI)) (ci := 5) (v := .ref g_allNumber) (C := RX5) (T := TX5) (N := 30) hx hb hts hi_5 hown hK hP 5 rfl rfl 10 (by decide) hf_35 (fun _ h9 => h9) rfl dX5_together_207 ?_
                        refine lv_iload hx hb dX5_together_210 (lv_at hl 0 rfl) ?_
                        refine va_iald hx hb hK hP 7 0 rfl rfl (ki_in (om_8 LP4_h1) (om_217 m1 m3 LP2_h1 LP2_h3 i_42)) dX5_together_212 ?_
                        refine lv_topi (fun y_52 ey_52 => ?_)
                        have j_52 : y_52.toInt = (o_7 k.toNatClampNeg).toInt := congrArg Int32.toInt ey_52
                        have g_53 : 0 < y_52.toInt ∧ y_52.toInt ≤ 1000000 := by rw [ey_52]; exact hbd k.toNatClampNeg (by omega)
                        refine lv_iload hx hb dX5_together_213 (lv_at hl 3 rfl) ?_
                        refine lv_isub hx hb dX5_together_215 ?_
                        refine lv_topi (fun y_54 ey_54 => ?_)
                        have i_54 : y_54.toInt = y_52.toInt - y_36.toInt := ki_sub ey_54 rfl rfl (by omega) (by omega)
                        refine va_iast hx hb hK hP hD hS 4 0 rfl rfl (ki_in (om_172 b4 LP4_h0 i_50 i_51) (by omega)) dX5_together_216 (fun H locs hP hD hS => ?_)
                        have hP : va_P (dC, dI) vwCl [kx_a g_many cyI 324 fm, kx_a g_loss cyI 324 fl, kx_a g_less cyI 324 fe, kx_a g_voteValue cyI 1944 (upd wv y_48.toNatClampNeg y_49), kx_a g_voteNumber cyI 1944 (upd wn y_51.toNatClampNeg y_54), kx_5 h0 g_row m_n m_slots m_thrown g_many g_loss g_less g_voteValue g_voteNumber g_allValue g_allNumber bm g_nodeL g_nodeR m_nodes g_part m_partMany g_wasMany g_wasLoss g_wasValue g_wasNumber g_path m_pathMany g_heavyValue g_heavyTimes m_heavyMany g_fewest g_which g_met m_mostMet, kx_a g_allValue cyI 12 o_6, kx_a g_allNumber cyI 12 o_7] H := hP
                        have hD : va_D A [kx_a g_many cyI 324 fm, kx_a g_loss cyI 324 fl, kx_a g_less cyI 324 fe, kx_a g_voteValue cyI 1944 (upd wv y_48.toNatClampNeg y_49), kx_a g_voteNumber cyI 1944 (upd wn y_51.toNatClampNeg y_54), kx_5 h0 g_row m_n m_slots m_thrown g_many g_loss g_less g_voteValue g_voteNumber g_allValue g_allNumber bm g_nodeL g_nodeR m_nodes g_part m_partMany g_wasMany g_wasLoss g_wasValue g_wasNumber g_path m_pathMany g_heavyValue g_heavyTimes m_heavyMany g_fewest g_which g_met m_mostMet, kx_a g_allValue cyI 12 o_6, kx_a g_allNumber cyI 12 o_7] := hD
                        obtain ⟨x_55, ex_55⟩ : ∃ y : Int32, y = lf + 1 := ⟨_, rfl⟩
                        have i_55 : x_55.toInt = lf.toInt + 1 := ki_add ex_55 rfl rfl (om_10 LP4_h0) (by omega)
                        refine lv_iinc (v := x_55) (lv' := [(7, .int x_55), (8, .int k), (6, .int y_41), (5, .int y_36), (0, .ref h0), (1, .int p0), (2, .int p1), (3, .int p2), (4, .int p3)]) hx hb dX5_together_217 hl (k := 1) rfl (by rw [ex_55]; rfl) (by decide) rfl (fun ls hl => ?_)
                        obtain ⟨x_56, ex_56⟩ : ∃ y : Int32, y = k + 1 := ⟨_, rfl⟩
                        have i_56 : x_56.toInt = k.toInt + 1 := ki_add ex_56 rfl rfl (om_10 LP4_h1) (om_218 m1 m3 LP2_h1 LP2_h3 i_42)
                        refine lv_iinc (v := x_56) (lv' := [(8, .int x_56), (7, .int x_55), (6, .int y_41), (5, .int y_36), (0, .ref h0), (1, .int p0), (2, .int p1), (3, .int p2), (4, .int p3)]) hx hb dX5_together_220 hl (k := 1) rfl (by rw [ex_56]; rfl) (by decide) rfl (fun ls hl => ?_)
                        refine lv_goto (tgt := 151) hx hb dX5_together_223 (by decide) ?_
                        have n_57 := ki_nat x_56 rfl (om_31 LP4_h1 i_56)
                        have n_58 := ki_nat y_48 rfl (om_172 b4 LP4_h0 i_47 i_48)
                        have n_59 := ki_nat y_51 rfl (om_172 b4 LP4_h0 i_50 i_51)
                        have n_60 := ki_nat x_55 rfl (om_31 LP4_h0 i_55)
                        exact ih4 x_55 x_56 (upd wv y_48.toNatClampNeg y_49) (upd wn y_51.toNatClampNeg y_54) (om_31 LP4_h0 i_55) (om_31 LP4_h1 i_56) (om_47 i_42 i_56) (mj_wr_put LP4_h3 w_5.1 (by omega) (by omega) (fun _ => j_36) (by omega) ey_49 (by omega) (by omega) (by omega) (by omega) (by omega)) (om_mu hn4 (om_5 i_56) (om_6 i_42)) _ _ hP hD hS ls (lv_sub hl [0, 1, 2, 3, 4, 5, 6, 7, 8] rfl)
                      · have i_46 : y_45.toInt ≤ 0 := kc_nlt c_46
                        refine lv_goto (tgt := 220) hx hb dX5_together_173 (by decide) ?_
                        obtain ⟨x_61, ex_61⟩ : ∃ y : Int32, y = k + 1 := ⟨_, rfl⟩
                        have i_61 : x_61.toInt = k.toInt + 1 := ki_add ex_61 rfl rfl (om_10 LP4_h1) (om_218 m1 m3 LP2_h1 LP2_h3 i_42)
                        refine lv_iinc (v := x_61) (lv' := [(8, .int x_61), (7, .int lf), (6, .int y_41), (5, .int y_36), (0, .ref h0), (1, .int p0), (2, .int p1), (3, .int p2), (4, .int p3)]) hx hb dX5_together_220 hl (k := 0) rfl (by rw [ex_61]; rfl) (by decide) rfl (fun ls hl => ?_)
                        refine lv_goto (tgt := 151) hx hb dX5_together_223 (by decide) ?_
                        have n_62 := ki_nat x_61 rfl (om_31 LP4_h1 i_61)
                        exact ih4 lf x_61 wv wn (om_8 LP4_h0) (om_31 LP4_h1 i_61) (om_47 i_42 i_61) (mj_wr_skip LP4_h3 (by omega) (by omega)) (om_mu hn4 (om_5 i_61) (om_6 i_42)) _ _ hP hD hS ls (lv_sub hl [0, 1, 2, 3, 4, 5, 6, 7, 8] rfl)
                have k_63 : (0 : Int32).toInt = 0 := rfl
                have k_64 : (0 : Int32).toInt = 0 := rfl
                exact LP4 ((bm.toInt - 0 : Int).toNat + 1) 0 0 vv vn om_32 om_32 (om_8 LP2_h2) (mj_wr_0 _ _ _ _ _ _ _) (Nat.lt_succ_self _) _ _ hP hD hS ls (lv_sub hl [0, 1, 2, 3, 4, 5, 6, 7, 8] rfl)
            · have i_4 : j.toInt < y_3.toInt := kc_nle c_4
              refine lv_aload_n hx hb dX5_together_67 rfl (lv_at hl 1 rfl) ?_
              refine lv_aload_n hx hb dX5_together_68 rfl (lv_at hl 1 rfl) ?_
              refine va_get (D := (dC, dI)) (ci := 5) (v := .ref g_voteValue) (C := RX5) (T := TX5) (N := 30) hx hb hts hi_5 hown hK hP 0 rfl rfl 7 (by decide) hf_26 (fun _ h9 => h9) rfl dX5_together_69 ?_
              refine lv_bipush (v := 6) hx hb dX5_together_72 (by decide) ?_
              refine lv_iload_n hx hb dX5_together_74 rfl (lv_at hl 3 rfl) ?_
              refine lv_imul hx hb dX5_together_75 ?_
              refine lv_topi (fun y_65 ey_65 => ?_)
              have i_65 : y_65.toInt = 6 * p1.toInt := ki_mul ey_65 rfl rfl (om_167 b2) (om_168 b3)
              refine lv_iload hx hb dX5_together_76 (lv_at hl 0 rfl) ?_
              refine lv_iadd hx hb dX5_together_78 ?_
              refine lv_topi (fun y_66 ey_66 => ?_)
              have i_66 : y_66.toInt = y_65.toInt + j.toInt := ki_add ey_66 rfl rfl (om_171 b2 LP2_h0 i_65) (om_219 b3 m3 LP2_h1 i_65)
              refine va_iald hx hb hK hP 4 0 rfl rfl (ki_in (om_172 b2 LP2_h0 i_65 i_66) (by omega)) dX5_together_79 ?_
              refine lv_topi (fun y_67 ey_67 => ?_)
              have j_67 : y_67.toInt = (vv y_66.toNatClampNeg).toInt := congrArg Int32.toInt ey_67
              refine lv_aload_n hx hb dX5_together_80 rfl (lv_at hl 1 rfl) ?_
              refine va_get (D := (dC, dI)) (ci := 5) (v := .ref g_voteNumber) (C := RX5) (T := TX5) (N := 30) hx hb hts hi_5 hown hK hP 0 rfl rfl 8 (by decide) hf_29 (fun _ h9 => h9) rfl dX5_together_81 ?_
              refine lv_bipush (v := 6) hx hb dX5_together_84 (by decide) ?_
              refine lv_iload_n hx hb dX5_together_86 rfl (lv_at hl 3 rfl) ?_
              refine lv_imul hx hb dX5_together_87 ?_
              refine lv_topi (fun y_68 ey_68 => ?_)
              have i_68 : y_68.toInt = 6 * p1.toInt := ki_mul ey_68 rfl rfl (om_167 b2) (om_168 b3)
              refine lv_iload hx hb dX5_together_88 (lv_at hl 0 rfl) ?_
              refine lv_iadd hx hb dX5_together_90 ?_
              refine lv_topi (fun y_69 ey_69 => ?_)
              have i_69 : y_69.toInt = y_68.toInt + j.toInt := ki_add ey_69 rfl rfl (om_171 b2 LP2_h0 i_68) (om_219 b3 m3 LP2_h1 i_68)
              refine va_iald hx hb hK hP 5 0 rfl rfl (ki_in (om_172 b2 LP2_h0 i_68 i_69) (by omega)) dX5_together_91 ?_
              refine lv_topi (fun y_70 ey_70 => ?_)
              have j_70 : y_70.toInt = (vn y_69.toNatClampNeg).toInt := congrArg Int32.toInt ey_70
              have hPc := hP.sub (ws' := [kx_5 h0 g_row m_n m_slots m_thrown g_many g_loss g_less g_voteValue g_voteNumber g_allValue g_allNumber bm g_nodeL g_nodeR m_nodes g_part m_partMany g_wasMany g_wasLoss g_wasValue g_wasNumber g_path m_pathMany g_heavyValue g_heavyTimes m_heavyMany g_fewest g_which g_met m_mostMet, kx_a g_allValue cyI 12 bv, kx_a g_allNumber cyI 12 bn]) [0, 6, 7] rfl
              have hKc := hK
              have hDc := hD.sub (ws' := [kx_5 h0 g_row m_n m_slots m_thrown g_many g_loss g_less g_voteValue g_voteNumber g_allValue g_allNumber bm g_nodeL g_nodeR m_nodes g_part m_partMany g_wasMany g_wasLoss g_wasValue g_wasNumber g_path m_pathMany g_heavyValue g_heavyTimes m_heavyMany g_fewest g_which g_met m_mostMet, kx_a g_allValue cyI 12 bv, kx_a g_allNumber cyI 12 bn]) [0, 6, 7] (by decide) rfl
              have hFc := va_free (wc := [kx_5 h0 g_row m_n m_slots m_thrown g_many g_loss g_less g_voteValue g_voteNumber g_allValue g_allNumber bm g_nodeL g_nodeR m_nodes g_part m_partMany g_wasMany g_wasLoss g_wasValue g_wasNumber g_path m_pathMany g_heavyValue g_heavyTimes m_heavyMany g_fewest g_which g_met m_mostMet, kx_a g_allValue cyI 12 bv, kx_a g_allNumber cyI 12 bn]) hD hS hA [0, 6, 7] rfl
              refine va_callv (va_runV (As := [.int y_67, .int y_70]) (rest := []) ⟨hx, hb, hml, hown, hts⟩ (c_X5_adds_x l dC dI h0 g_row g_many g_loss g_less g_voteValue g_voteNumber g_allValue g_allNumber g_nodeL g_nodeR g_part g_wasMany g_wasLoss g_wasValue g_wasNumber g_path g_heavyValue g_heavyTimes g_fewest g_which g_met m_n m_slots m_thrown bm m_nodes m_partMany m_pathMany m_heavyMany m_mostMet cyI bv bn y_67 y_70 H.size LP2_h2 (by omega)) (cwV 2 hts gX5_together_X5_adds rfl rfl rfl (by decide +kernel) ⟨Nat.le_of_ble_eq_true rfl, Nat.le_of_ble_eq_true rfl⟩) ⟨fun a U g mk q => by obtain ⟨q0, q1, qP, qK, qD⟩ := q; exact ⟨q0, q1, qP, va_K.moved (u := U) (U := U.calling g mk a) (Vm.Alike.refl U.vm) qK, qD⟩, va_recv hKc hPc (ci := 5) (q0 := 0) rfl rfl, fun U hU hW => ⟨rfl, by rw [hU], by rw [hU]; exact hPc, va_K.moved hW.alike hKc, hDc.weaken (fun _ _ _ _ => trivial)⟩⟩ rfl rfl hl.1 rfl (lv_room (Nat.le_of_ble_eq_true rfl)) dX5_together_92 ⟨Nat.le_of_ble_eq_true rfl, Nat.le_of_ble_eq_true rfl⟩) hS (fun q _ h => hFc q h) hFc (fun u t H1 locs ht hvm w_71 hB hz1 hk1 hS => ?_)
              obtain ⟨o_72, o_73, o_74⟩ := u
              dsimp only at w_71 hB
              obtain ⟨hP1, hK1, hD1⟩ := hB
              rw [ht] at hP1
              have hK1 := va_K.moved hvm.symm hK1
              obtain ⟨hP, hD⟩ := va_join (wr := [kx_a g_many cyI 324 fm, kx_a g_loss cyI 324 fl, kx_a g_less cyI 324 fe, kx_a g_voteValue cyI 1944 vv, kx_a g_voteNumber cyI 1944 vn]) (w1 := [kx_5 h0 g_row m_n m_slots m_thrown g_many g_loss g_less g_voteValue g_voteNumber g_allValue g_allNumber o_72 g_nodeL g_nodeR m_nodes g_part m_partMany g_wasMany g_wasLoss g_wasValue g_wasNumber g_path m_pathMany g_heavyValue g_heavyTimes m_heavyMany g_fewest g_which g_met m_mostMet, kx_a g_allValue cyI 12 o_73, kx_a g_allNumber cyI 12 o_74]) hP hD [0, 6, 7] [1, 2, 3, 4, 5] rfl rfl (by decide) (by decide) hk1 hFc hP1 hD1
              clear hP1 hD1 hK1 hk1 hz1 hFc hDc hPc hKc
              generalize H1 = H at hP hS ⊢
              have hP : va_P (dC, dI) vwCl [kx_a g_many cyI 324 fm, kx_a g_loss cyI 324 fl, kx_a g_less cyI 324 fe, kx_a g_voteValue cyI 1944 vv, kx_a g_voteNumber cyI 1944 vn, kx_5 h0 g_row m_n m_slots m_thrown g_many g_loss g_less g_voteValue g_voteNumber g_allValue g_allNumber o_72 g_nodeL g_nodeR m_nodes g_part m_partMany g_wasMany g_wasLoss g_wasValue g_wasNumber g_path m_pathMany g_heavyValue g_heavyTimes m_heavyMany g_fewest g_which g_met m_mostMet, kx_a g_allValue cyI 12 o_73, kx_a g_allNumber cyI 12 o_74] H := hP
              have hD : va_D A [kx_a g_many cyI 324 fm, kx_a g_loss cyI 324 fl, kx_a g_less cyI 324 fe, kx_a g_voteValue cyI 1944 vv, kx_a g_voteNumber cyI 1944 vn, kx_5 h0 g_row m_n m_slots m_thrown g_many g_loss g_less g_voteValue g_voteNumber g_allValue g_allNumber o_72 g_nodeL g_nodeR m_nodes g_part m_partMany g_wasMany g_wasLoss g_wasValue g_wasNumber g_path m_pathMany g_heavyValue g_heavyTimes m_heavyMany g_fewest g_which g_met m_mostMet, kx_a g_allValue cyI 12 o_73, kx_a g_allNumber cyI 12 o_74] := hD
              have w_71 : mj_addR bv bn bm.toNatClampNeg y_67 y_70 o_73 o_74 o_72.toNatClampNeg ∧ bm.toInt ≤ o_72.toInt ∧ o_72.toInt ≤ bm.toInt + 1 := w_71
              obtain ⟨x_75, ex_75⟩ : ∃ y : Int32, y = j + 1 := ⟨_, rfl⟩
              have i_75 : x_75.toInt = j.toInt + 1 := ki_add ex_75 rfl rfl (om_10 LP2_h0) (om_220 m3 LP2_h1)
              refine lv_iinc (v := x_75) (lv' := [(5, .int x_75), (0, .ref h0), (1, .int p0), (2, .int p1), (3, .int p2), (4, .int p3)]) hx hb dX5_together_95 hl (k := 0) rfl (by rw [ex_75]; rfl) (by decide) rfl (fun ls hl => ?_)
              refine lv_goto (tgt := 56) hx hb dX5_together_98 (by decide) ?_
              have hP : va_P (dC, dI) vwCl [kx_5 h0 g_row m_n m_slots m_thrown g_many g_loss g_less g_voteValue g_voteNumber g_allValue g_allNumber o_72 g_nodeL g_nodeR m_nodes g_part m_partMany g_wasMany g_wasLoss g_wasValue g_wasNumber g_path m_pathMany g_heavyValue g_heavyTimes m_heavyMany g_fewest g_which g_met m_mostMet, kx_a g_many cyI 324 fm, kx_a g_loss cyI 324 fl, kx_a g_less cyI 324 fe, kx_a g_voteValue cyI 1944 vv, kx_a g_voteNumber cyI 1944 vn, kx_a g_allValue cyI 12 o_73, kx_a g_allNumber cyI 12 o_74] _ := hP.sub [5, 0, 1, 2, 3, 4, 6, 7] rfl
              have hD : va_D A [kx_5 h0 g_row m_n m_slots m_thrown g_many g_loss g_less g_voteValue g_voteNumber g_allValue g_allNumber o_72 g_nodeL g_nodeR m_nodes g_part m_partMany g_wasMany g_wasLoss g_wasValue g_wasNumber g_path m_pathMany g_heavyValue g_heavyTimes m_heavyMany g_fewest g_which g_met m_mostMet, kx_a g_many cyI 324 fm, kx_a g_loss cyI 324 fl, kx_a g_less cyI 324 fe, kx_a g_voteValue cyI 1944 vv, kx_a g_voteNumber cyI 1944 vn, kx_a g_allValue cyI 12 o_73, kx_a g_allNumber cyI 12 o_74] := hD.sub [5, 0, 1, 2, 3, 4, 6, 7] (by decide) rfl
              have n_76 := ki_nat x_75 rfl (om_31 LP2_h0 i_75)
              have n_77 := ki_nat y_66 rfl (om_172 b2 LP2_h0 i_65 i_66)
              have n_78 := ki_nat y_69 rfl (om_172 b2 LP2_h0 i_68 i_69)
              exact ih2 x_75 o_72 o_73 o_74 (om_31 LP2_h0 i_75) (by omega) (om_0 LP2_h2 w_71.2.1) (om_221 LP2_h3 w_71.2.2 i_75) (by rw [show x_75.toNatClampNeg = j.toNatClampNeg + 1 by omega]; exact mj_step (i := j.toNatClampNeg) (q := y_66.toNatClampNeg) (q2 := y_69.toNatClampNeg) vb (by omega) (by omega) (by omega) ey_67 ey_70 (mj_hb2 bd _) LP2_h4 w_71.1) (by omega) _ _ hP hD hS ls (lv_sub hl [0, 1, 2, 3, 4, 5] rfl)
        have k_79 : (0 : Int32).toInt = 0 := rfl
        exact LP2 (((fm p1.toNatClampNeg).toInt - 0 : Int).toNat + 1) 0 am gv gn om_32 (om_8 m2) (om_8 LP1_h2) (om_223 LP1_h1 LP1_h3) (mj_next LP1_h4 va (by omega) rfl) (Nat.lt_succ_self _) _ _ hP hD hS ls (lv_sub hl [0, 1, 2, 3, 4, 5] rfl)
      · have i_2 : i.toInt < y_1.toInt := kc_nle c_2
        refine lv_aload_n hx hb dX5_together_19 rfl (lv_at hl 1 rfl) ?_
        refine lv_aload_n hx hb dX5_together_20 rfl (lv_at hl 1 rfl) ?_
        refine va_get (D := (dC, dI)) (ci := 5) (v := .ref g_voteValue) (C := RX5) (T := TX5) (N := 30) hx hb hts hi_5 hown hK hP 0 rfl rfl 7 (by decide) hf_26 (fun _ h9 => h9) rfl dX5_together_21 ?_
        refine lv_bipush (v := 6) hx hb dX5_together_24 (by decide) ?_
        refine lv_iload_n hx hb dX5_together_26 rfl (lv_at hl 2 rfl) ?_
        refine lv_imul hx hb dX5_together_27 ?_
        refine lv_topi (fun y_80 ey_80 => ?_)
        have i_80 : y_80.toInt = 6 * p0.toInt := ki_mul ey_80 rfl rfl (om_167 b0) (om_168 b1)
        refine lv_iload hx hb dX5_together_28 (lv_at hl 0 rfl) ?_
        refine lv_iadd hx hb dX5_together_30 ?_
        refine lv_topi (fun y_81 ey_81 => ?_)
        have i_81 : y_81.toInt = y_80.toInt + i.toInt := ki_add ey_81 rfl rfl (om_171 b0 LP1_h0 i_80) (om_219 b1 m1 LP1_h1 i_80)
        refine va_iald hx hb hK hP 4 0 rfl rfl (ki_in (om_172 b0 LP1_h0 i_80 i_81) (by omega)) dX5_together_31 ?_
        refine lv_topi (fun y_82 ey_82 => ?_)
        have j_82 : y_82.toInt = (vv y_81.toNatClampNeg).toInt := congrArg Int32.toInt ey_82
        refine lv_aload_n hx hb dX5_together_32 rfl (lv_at hl 1 rfl) ?_
        refine va_get (D := (dC, dI)) (ci := 5) (v := .ref g_voteNumber) (C := RX5) (T := TX5) (N := 30) hx hb hts hi_5 hown hK hP 0 rfl rfl 8 (by decide) hf_29 (fun _ h9 => h9) rfl dX5_together_33 ?_
        refine lv_bipush (v := 6) hx hb dX5_together_36 (by decide) ?_
        refine lv_iload_n hx hb dX5_together_38 rfl (lv_at hl 2 rfl) ?_
        refine lv_imul hx hb dX5_together_39 ?_
        refine lv_topi (fun y_83 ey_83 => ?_)
        have i_83 : y_83.toInt = 6 * p0.toInt := ki_mul ey_83 rfl rfl (om_167 b0) (om_168 b1)
        refine lv_iload hx hb dX5_together_40 (lv_at hl 0 rfl) ?_
        refine lv_iadd hx hb dX5_together_42 ?_
        refine lv_topi (fun y_84 ey_84 => ?_)
        have i_84 : y_84.toInt = y_83.toInt + i.toInt := ki_add ey_84 rfl rfl (om_171 b0 LP1_h0 i_83) (om_219 b1 m1 LP1_h1 i_83)
        refine va_iald hx hb hK hP 5 0 rfl rfl (ki_in (om_172 b0 LP1_h0 i_83 i_84) (by omega)) dX5_together_43 ?_
        refine lv_topi (fun y_85 ey_85 => ?_)
        have j_85 : y_85.toInt = (vn y_84.toNatClampNeg).toInt := congrArg Int32.toInt ey_85
        have hPc := hP.sub (ws' := [kx_5 h0 g_row m_n m_slots m_thrown g_many g_loss g_less g_voteValue g_voteNumber g_allValue g_allNumber am g_nodeL g_nodeR m_nodes g_part m_partMany g_wasMany g_wasLoss g_wasValue g_wasNumber g_path m_pathMany g_heavyValue g_heavyTimes m_heavyMany g_fewest g_which g_met m_mostMet, kx_a g_allValue cyI 12 gv, kx_a g_allNumber cyI 12 gn]) [0, 6, 7] rfl
        have hKc := hK
        have hDc := hD.sub (ws' := [kx_5 h0 g_row m_n m_slots m_thrown g_many g_loss g_less g_voteValue g_voteNumber g_allValue g_allNumber am g_nodeL g_nodeR m_nodes g_part m_partMany g_wasMany g_wasLoss g_wasValue g_wasNumber g_path m_pathMany g_heavyValue g_heavyTimes m_heavyMany g_fewest g_which g_met m_mostMet, kx_a g_allValue cyI 12 gv, kx_a g_allNumber cyI 12 gn]) [0, 6, 7] (by decide) rfl
        have hFc := va_free (wc := [kx_5 h0 g_row m_n m_slots m_thrown g_many g_loss g_less g_voteValue g_voteNumber g_allValue g_allNumber am g_nodeL g_nodeR m_nodes g_part m_partMany g_wasMany g_wasLoss g_wasValue g_wasNumber g_path m_pathMany g_heavyValue g_heavyTimes m_heavyMany g_fewest g_which g_met m_mostMet, kx_a g_allValue cyI 12 gv, kx_a g_allNumber cyI 12 gn]) hD hS hA [0, 6, 7] rfl
        refine va_callv (va_runV (As := [.int y_82, .int y_85]) (rest := []) ⟨hx, hb, hml, hown, hts⟩ (c_X5_adds_x l dC dI h0 g_row g_many g_loss g_less g_voteValue g_voteNumber g_allValue g_allNumber g_nodeL g_nodeR g_part g_wasMany g_wasLoss g_wasValue g_wasNumber g_path g_heavyValue g_heavyTimes g_fewest g_which g_met m_n m_slots m_thrown am m_nodes m_partMany m_pathMany m_heavyMany m_mostMet cyI gv gn y_82 y_85 H.size LP1_h2 (om_224 m1 LP1_h1 LP1_h3)) (cwV 2 hts gX5_together_X5_adds rfl rfl rfl (by decide +kernel) ⟨Nat.le_of_ble_eq_true rfl, Nat.le_of_ble_eq_true rfl⟩) ⟨fun a U g mk q => by obtain ⟨q0, q1, qP, qK, qD⟩ := q; exact ⟨q0, q1, qP, va_K.moved (u := U) (U := U.calling g mk a) (Vm.Alike.refl U.vm) qK, qD⟩, va_recv hKc hPc (ci := 5) (q0 := 0) rfl rfl, fun U hU hW => ⟨rfl, by rw [hU], by rw [hU]; exact hPc, va_K.moved hW.alike hKc, hDc.weaken (fun _ _ _ _ => trivial)⟩⟩ rfl rfl hl.1 rfl (lv_room (Nat.le_of_ble_eq_true rfl)) dX5_together_44 ⟨Nat.le_of_ble_eq_true rfl, Nat.le_of_ble_eq_true rfl⟩) hS (fun q _ h => hFc q h) hFc (fun u t H1 locs ht hvm w_86 hB hz1 hk1 hS => ?_)
        obtain ⟨o_87, o_88, o_89⟩ := u
        dsimp only at w_86 hB
        obtain ⟨hP1, hK1, hD1⟩ := hB
        rw [ht] at hP1
        have hK1 := va_K.moved hvm.symm hK1
        obtain ⟨hP, hD⟩ := va_join (wr := [kx_a g_many cyI 324 fm, kx_a g_loss cyI 324 fl, kx_a g_less cyI 324 fe, kx_a g_voteValue cyI 1944 vv, kx_a g_voteNumber cyI 1944 vn]) (w1 := [kx_5 h0 g_row m_n m_slots m_thrown g_many g_loss g_less g_voteValue g_voteNumber g_allValue g_allNumber o_87 g_nodeL g_nodeR m_nodes g_part m_partMany g_wasMany g_wasLoss g_wasValue g_wasNumber g_path m_pathMany g_heavyValue g_heavyTimes m_heavyMany g_fewest g_which g_met m_mostMet, kx_a g_allValue cyI 12 o_88, kx_a g_allNumber cyI 12 o_89]) hP hD [0, 6, 7] [1, 2, 3, 4, 5] rfl rfl (by decide) (by decide) hk1 hFc hP1 hD1
        clear hP1 hD1 hK1 hk1 hz1 hFc hDc hPc hKc
        generalize H1 = H at hP hS ⊢
        have hP : va_P (dC, dI) vwCl [kx_a g_many cyI 324 fm, kx_a g_loss cyI 324 fl, kx_a g_less cyI 324 fe, kx_a g_voteValue cyI 1944 vv, kx_a g_voteNumber cyI 1944 vn, kx_5 h0 g_row m_n m_slots m_thrown g_many g_loss g_less g_voteValue g_voteNumber g_allValue g_allNumber o_87 g_nodeL g_nodeR m_nodes g_part m_partMany g_wasMany g_wasLoss g_wasValue g_wasNumber g_path m_pathMany g_heavyValue g_heavyTimes m_heavyMany g_fewest g_which g_met m_mostMet, kx_a g_allValue cyI 12 o_88, kx_a g_allNumber cyI 12 o_89] H := hP
        have hD : va_D A [kx_a g_many cyI 324 fm, kx_a g_loss cyI 324 fl, kx_a g_less cyI 324 fe, kx_a g_voteValue cyI 1944 vv, kx_a g_voteNumber cyI 1944 vn, kx_5 h0 g_row m_n m_slots m_thrown g_many g_loss g_less g_voteValue g_voteNumber g_allValue g_allNumber o_87 g_nodeL g_nodeR m_nodes g_part m_partMany g_wasMany g_wasLoss g_wasValue g_wasNumber g_path m_pathMany g_heavyValue g_heavyTimes m_heavyMany g_fewest g_which g_met m_mostMet, kx_a g_allValue cyI 12 o_88, kx_a g_allNumber cyI 12 o_89] := hD
        have w_86 : mj_addR gv gn am.toNatClampNeg y_82 y_85 o_88 o_89 o_87.toNatClampNeg ∧ am.toInt ≤ o_87.toInt ∧ o_87.toInt ≤ am.toInt + 1 := w_86
        obtain ⟨x_90, ex_90⟩ : ∃ y : Int32, y = i + 1 := ⟨_, rfl⟩
        have i_90 : x_90.toInt = i.toInt + 1 := ki_add ex_90 rfl rfl (om_10 LP1_h0) (om_220 m1 LP1_h1)
        refine lv_iinc (v := x_90) (lv' := [(5, .int x_90), (0, .ref h0), (1, .int p0), (2, .int p1), (3, .int p2), (4, .int p3)]) hx hb dX5_together_47 hl (k := 0) rfl (by rw [ex_90]; rfl) (by decide) rfl (fun ls hl => ?_)
        refine lv_goto (tgt := 8) hx hb dX5_together_50 (by decide) ?_
        have hP : va_P (dC, dI) vwCl [kx_5 h0 g_row m_n m_slots m_thrown g_many g_loss g_less g_voteValue g_voteNumber g_allValue g_allNumber o_87 g_nodeL g_nodeR m_nodes g_part m_partMany g_wasMany g_wasLoss g_wasValue g_wasNumber g_path m_pathMany g_heavyValue g_heavyTimes m_heavyMany g_fewest g_which g_met m_mostMet, kx_a g_many cyI 324 fm, kx_a g_loss cyI 324 fl, kx_a g_less cyI 324 fe, kx_a g_voteValue cyI 1944 vv, kx_a g_voteNumber cyI 1944 vn, kx_a g_allValue cyI 12 o_88, kx_a g_allNumber cyI 12 o_89] _ := hP.sub [5, 0, 1, 2, 3, 4, 6, 7] rfl
        have hD : va_D A [kx_5 h0 g_row m_n m_slots m_thrown g_many g_loss g_less g_voteValue g_voteNumber g_allValue g_allNumber o_87 g_nodeL g_nodeR m_nodes g_part m_partMany g_wasMany g_wasLoss g_wasValue g_wasNumber g_path m_pathMany g_heavyValue g_heavyTimes m_heavyMany g_fewest g_which g_met m_mostMet, kx_a g_many cyI 324 fm, kx_a g_loss cyI 324 fl, kx_a g_less cyI 324 fe, kx_a g_voteValue cyI 1944 vv, kx_a g_voteNumber cyI 1944 vn, kx_a g_allValue cyI 12 o_88, kx_a g_allNumber cyI 12 o_89] := hD.sub [5, 0, 1, 2, 3, 4, 6, 7] (by decide) rfl
        have n_91 := ki_nat x_90 rfl (om_31 LP1_h0 i_90)
        have n_92 := ki_nat y_81 rfl (om_172 b0 LP1_h0 i_80 i_81)
        have n_93 := ki_nat y_84 rfl (om_172 b0 LP1_h0 i_83 i_84)
        exact ih1 x_90 o_87 o_88 o_89 (om_31 LP1_h0 i_90) (by omega) (om_0 LP1_h2 w_86.2.1) (om_225 LP1_h3 w_86.2.2 i_90) (by rw [show x_90.toNatClampNeg = i.toNatClampNeg + 1 by omega]; exact mj_step (i := i.toNatClampNeg) (q := y_81.toNatClampNeg) (q2 := y_84.toNatClampNeg) va (by omega) (by omega) (by omega) ey_82 ey_85 (mj_hb1 bd (mj_vs_nn vb) _) LP1_h4 w_86.1) (by omega) _ _ hP hD hS ls (lv_sub hl [0, 1, 2, 3, 4, 5] rfl)
  have k_94 : (0 : Int32).toInt = 0 := rfl
  have k_95 : (0 : Int32).toInt = 0 := rfl
  exact LP1 (((fm p0.toNatClampNeg).toInt - 0 : Int).toNat + 1) 0 0 av an om_32 (om_8 m0) om_32 om_32 (mj_vs_start rfl rfl) (Nat.lt_succ_self _) _ _ hP hD hS ls (lv_sub hl [0, 1, 2, 3, 4, 5] rfl)


