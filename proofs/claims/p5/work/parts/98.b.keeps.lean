set_option maxHeartbeats 4000000 in
set_option maxRecDepth 100000 in
theorem c_X5_keeps (l : Launch) (dC : Nat → ClassId) (dI : Nat → Nat → Nat) (h0 : Nat) (g_row : Nat) (g_many : Nat) (g_loss : Nat) (g_less : Nat) (g_voteValue : Nat) (g_voteNumber : Nat) (g_allValue : Nat) (g_allNumber : Nat) (g_nodeL : Nat) (g_nodeR : Nat) (g_part : Nat) (g_wasMany : Nat) (g_wasLoss : Nat) (g_wasValue : Nat) (g_wasNumber : Nat) (g_path : Nat) (g_heavyValue : Nat) (g_heavyTimes : Nat) (g_fewest : Nat) (g_which : Nat) (g_met : Nat) (m_n : Int32) (m_slots : Int32) (m_thrown : Int32) (m_allMany : Int32) (m_nodes : Int32) (m_partMany : Int32) (m_pathMany : Int32) (m_heavyMany : Int32) (m_mostMet : Int32) (cyI : ClassId) (fm : Nat → Int32) (fl : Nat → Int32) (fe : Nat → Int32) (vv : Nat → Int32) (vn : Nat → Int32) (f : Nat → Int32) (av : Nat → Int32) (an : Nat → Int32) (nl : Nat → Int32) (nr : Nat → Int32) (wm : Nat → Int32) (wl : Nat → Int32) (wv : Nat → Int32) (wn : Nat → Int32) (sz : Nat) (a0 : 0 ≤ m_n.toInt) (a1 : m_n.toInt ≤ 160) (sl0 : 1 ≤ m_slots.toInt) (sl1 : m_slots.toInt ≤ 6) (s4 : six4 fm) : Met l yX5_keeps wsX5_keeps ({ frames := 12, cells := 0, slots := 0, locals := 540 }) (va_Pc [.ref h0] (fun U => U.heap.size = sz ∧ va_P (dC, dI) vwCl [kx_5 h0 g_row m_n m_slots m_thrown g_many g_loss g_less g_voteValue g_voteNumber g_allValue g_allNumber m_allMany g_nodeL g_nodeR m_nodes g_part m_partMany g_wasMany g_wasLoss g_wasValue g_wasNumber g_path m_pathMany g_heavyValue g_heavyTimes m_heavyMany g_fewest g_which g_met m_mostMet, kx_a g_row cyI 160 f, kx_a g_many cyI 324 fm, kx_a g_loss cyI 324 fl, kx_a g_less cyI 324 fe, kx_a g_voteValue cyI 1944 vv, kx_a g_voteNumber cyI 1944 vn, kx_a g_allValue cyI 12 av, kx_a g_allNumber cyI 12 an, kx_a g_nodeL cyI 320 nl, kx_a g_nodeR cyI 320 nr, kx_a g_wasMany cyI 320 wm, kx_a g_wasLoss cyI 320 wl, kx_a g_wasValue cyI 1920 wv, kx_a g_wasNumber cyI 1920 wn] U.heap ∧ va_K (dC, dI) vwCl [(cyI, .int)] U ∧ va_D (fun _ => True) [kx_5 h0 g_row m_n m_slots m_thrown g_many g_loss g_less g_voteValue g_voteNumber g_allValue g_allNumber m_allMany g_nodeL g_nodeR m_nodes g_part m_partMany g_wasMany g_wasLoss g_wasValue g_wasNumber g_path m_pathMany g_heavyValue g_heavyTimes m_heavyMany g_fewest g_which g_met m_mostMet, kx_a g_row cyI 160 f, kx_a g_many cyI 324 fm, kx_a g_loss cyI 324 fl, kx_a g_less cyI 324 fe, kx_a g_voteValue cyI 1944 vv, kx_a g_voteNumber cyI 1944 vn, kx_a g_allValue cyI 12 av, kx_a g_allNumber cyI 12 an, kx_a g_nodeL cyI 320 nl, kx_a g_nodeR cyI 320 nr, kx_a g_wasMany cyI 320 wm, kx_a g_wasLoss cyI 320 wl, kx_a g_wasValue cyI 1920 wv, kx_a g_wasNumber cyI 1920 wn])) (va_Qv (fun u : Int32 × Int32 × (Nat → Int32) × (Nat → Int32) × (Nat → Int32) × (Nat → Int32) × (Nat → Int32) × (Nat → Int32) × (Nat → Int32) × (Nat → Int32) × (Nat → Int32) × (Nat → Int32) × (Nat → Int32) × (Nat → Int32) × (Nat → Int32) => six4 u.2.2.1) (fun (u : Int32 × Int32 × (Nat → Int32) × (Nat → Int32) × (Nat → Int32) × (Nat → Int32) × (Nat → Int32) × (Nat → Int32) × (Nat → Int32) × (Nat → Int32) × (Nat → Int32) × (Nat → Int32) × (Nat → Int32) × (Nat → Int32) × (Nat → Int32)) (t : State) => va_P (dC, dI) vwCl [kx_5 h0 g_row m_n m_slots m_thrown g_many g_loss g_less g_voteValue g_voteNumber g_allValue g_allNumber u.2.1 g_nodeL g_nodeR u.1 g_part m_partMany g_wasMany g_wasLoss g_wasValue g_wasNumber g_path m_pathMany g_heavyValue g_heavyTimes m_heavyMany g_fewest g_which g_met m_mostMet, kx_a g_row cyI 160 f, kx_a g_many cyI 324 u.2.2.1, kx_a g_loss cyI 324 u.2.2.2.1, kx_a g_less cyI 324 u.2.2.2.2.1, kx_a g_voteValue cyI 1944 u.2.2.2.2.2.1, kx_a g_voteNumber cyI 1944 u.2.2.2.2.2.2.1, kx_a g_allValue cyI 12 u.2.2.2.2.2.2.2.1, kx_a g_allNumber cyI 12 u.2.2.2.2.2.2.2.2.1, kx_a g_nodeL cyI 320 u.2.2.2.2.2.2.2.2.2.1, kx_a g_nodeR cyI 320 u.2.2.2.2.2.2.2.2.2.2.1, kx_a g_wasMany cyI 320 u.2.2.2.2.2.2.2.2.2.2.2.1, kx_a g_wasLoss cyI 320 u.2.2.2.2.2.2.2.2.2.2.2.2.1, kx_a g_wasValue cyI 1920 u.2.2.2.2.2.2.2.2.2.2.2.2.2.1, kx_a g_wasNumber cyI 1920 u.2.2.2.2.2.2.2.2.2.2.2.2.2.2] t.heap ∧ va_K (dC, dI) vwCl [(cyI, .int)] t ∧ va_D (va_A [kx_5 h0 g_row m_n m_slots m_thrown g_many g_loss g_less g_voteValue g_voteNumber g_allValue g_allNumber m_allMany g_nodeL g_nodeR m_nodes g_part m_partMany g_wasMany g_wasLoss g_wasValue g_wasNumber g_path m_pathMany g_heavyValue g_heavyTimes m_heavyMany g_fewest g_which g_met m_mostMet, kx_a g_row cyI 160 f, kx_a g_many cyI 324 fm, kx_a g_loss cyI 324 fl, kx_a g_less cyI 324 fe, kx_a g_voteValue cyI 1944 vv, kx_a g_voteNumber cyI 1944 vn, kx_a g_allValue cyI 12 av, kx_a g_allNumber cyI 12 an, kx_a g_nodeL cyI 320 nl, kx_a g_nodeR cyI 320 nr, kx_a g_wasMany cyI 320 wm, kx_a g_wasLoss cyI 320 wl, kx_a g_wasValue cyI 1920 wv, kx_a g_wasNumber cyI 1920 wn] sz) [kx_5 h0 g_row m_n m_slots m_thrown g_many g_loss g_less g_voteValue g_voteNumber g_allValue g_allNumber u.2.1 g_nodeL g_nodeR u.1 g_part m_partMany g_wasMany g_wasLoss g_wasValue g_wasNumber g_path m_pathMany g_heavyValue g_heavyTimes m_heavyMany g_fewest g_which g_met m_mostMet, kx_a g_row cyI 160 f, kx_a g_many cyI 324 u.2.2.1, kx_a g_loss cyI 324 u.2.2.2.1, kx_a g_less cyI 324 u.2.2.2.2.1, kx_a g_voteValue cyI 1944 u.2.2.2.2.2.1, kx_a g_voteNumber cyI 1944 u.2.2.2.2.2.2.1, kx_a g_allValue cyI 12 u.2.2.2.2.2.2.2.1, kx_a g_allNumber cyI 12 u.2.2.2.2.2.2.2.2.1, kx_a g_nodeL cyI 320 u.2.2.2.2.2.2.2.2.2.1, kx_a g_nodeR cyI 320 u.2.2.2.2.2.2.2.2.2.2.1, kx_a g_wasMany cyI 320 u.2.2.2.2.2.2.2.2.2.2.2.1, kx_a g_wasLoss cyI 320 u.2.2.2.2.2.2.2.2.2.2.2.2.1, kx_a g_wasValue cyI 1920 u.2.2.2.2.2.2.2.2.2.2.2.2.2.1, kx_a g_wasNumber cyI 1920 u.2.2.2.2.2.2.2.2.2.2.2.2.2.2]) (va_A [kx_5 h0 g_row m_n m_slots m_thrown g_many g_loss g_less g_voteValue g_voteNumber g_allValue g_allNumber m_allMany g_nodeL g_nodeR m_nodes g_part m_partMany g_wasMany g_wasLoss g_wasValue g_wasNumber g_path m_pathMany g_heavyValue g_heavyTimes m_heavyMany g_fewest g_which g_met m_mostMet, kx_a g_row cyI 160 f, kx_a g_many cyI 324 fm, kx_a g_loss cyI 324 fl, kx_a g_less cyI 324 fe, kx_a g_voteValue cyI 1944 vv, kx_a g_voteNumber cyI 1944 vn, kx_a g_allValue cyI 12 av, kx_a g_allNumber cyI 12 an, kx_a g_nodeL cyI 320 nl, kx_a g_nodeR cyI 320 nr, kx_a g_wasMany cyI 320 wm, kx_a g_wasLoss cyI 320 wl, kx_a g_wasValue cyI 1920 wv, kx_a g_wasNumber cyI 1920 wn] sz)) 0 0 (va_A [kx_5 h0 g_row m_n m_slots m_thrown g_many g_loss g_less g_voteValue g_voteNumber g_allValue g_allNumber m_allMany g_nodeL g_nodeR m_nodes g_part m_partMany g_wasMany g_wasLoss g_wasValue g_wasNumber g_path m_pathMany g_heavyValue g_heavyTimes m_heavyMany g_fewest g_which g_met m_mostMet, kx_a g_row cyI 160 f, kx_a g_many cyI 324 fm, kx_a g_loss cyI 324 fl, kx_a g_less cyI 324 fe, kx_a g_voteValue cyI 1944 vv, kx_a g_voteNumber cyI 1944 vn, kx_a g_allValue cyI 12 av, kx_a g_allNumber cyI 12 an, kx_a g_nodeL cyI 320 nl, kx_a g_nodeR cyI 320 nr, kx_a g_wasMany cyI 320 wm, kx_a g_wasLoss cyI 320 wl, kx_a g_wasValue cyI 1920 wv, kx_a g_wasNumber cyI 1920 wn] sz) := by
  refine Met.ofW (cc := cX5_keeps) (maxL := 3) (ret := none) (by decide) rfl ?_
  intro p e s m args below meth c s₁ B hml hv
  obtain ⟨rfl, hsz, hP, hK, hD0⟩ := hv
  have hx := B.exec
  have hb := B.bytes
  have hr := B.returns
  have hts := atoms_spec (ws := wsX5_keeps) B.pre
  have hown : s.vm.findClass RX5 = some m.cls := findClass_of_methodNamed B.named
  have hlocks := B.notSynchronized
  subst hsz
  have hD := hD0.self (sz := s.heap.size)
  generalize hAe : va_A [kx_5 h0 g_row m_n m_slots m_thrown g_many g_loss g_less g_voteValue g_voteNumber g_allValue g_allNumber m_allMany g_nodeL g_nodeR m_nodes g_part m_partMany g_wasMany g_wasLoss g_wasValue g_wasNumber g_path m_pathMany g_heavyValue g_heavyTimes m_heavyMany g_fewest g_which g_met m_mostMet, kx_a g_row cyI 160 f, kx_a g_many cyI 324 fm, kx_a g_loss cyI 324 fl, kx_a g_less cyI 324 fe, kx_a g_voteValue cyI 1944 vv, kx_a g_voteNumber cyI 1944 vn, kx_a g_allValue cyI 12 av, kx_a g_allNumber cyI 12 an, kx_a g_nodeL cyI 320 nl, kx_a g_nodeR cyI 320 nr, kx_a g_wasMany cyI 320 wm, kx_a g_wasLoss cyI 320 wl, kx_a g_wasValue cyI 1920 wv, kx_a g_wasNumber cyI 1920 wn] s.heap.size = A at hD ⊢
  have hA : ∀ q : Nat, s.heap.size ≤ q → A q := fun q h => by rw [← hAe]; exact Or.inr h
  have hS : va_S A s.heap s.heap [] := va_S.rf
  have hP : va_P (dC, dI) vwCl [kx_5 h0 g_row m_n m_slots m_thrown g_many g_loss g_less g_voteValue g_voteNumber g_allValue g_allNumber m_allMany g_nodeL g_nodeR m_nodes g_part m_partMany g_wasMany g_wasLoss g_wasValue g_wasNumber g_path m_pathMany g_heavyValue g_heavyTimes m_heavyMany g_fewest g_which g_met m_mostMet, kx_a g_row cyI 160 f, kx_a g_many cyI 324 fm, kx_a g_loss cyI 324 fl, kx_a g_less cyI 324 fe, kx_a g_voteValue cyI 1944 vv, kx_a g_voteNumber cyI 1944 vn, kx_a g_allValue cyI 12 av, kx_a g_allNumber cyI 12 an, kx_a g_nodeL cyI 320 nl, kx_a g_nodeR cyI 320 nr, kx_a g_wasMany cyI 320 wm, kx_a g_wasLoss cyI 320 wl, kx_a g_wasValue cyI 1920 wv, kx_a g_wasNumber cyI 1920 wn] s.heap := hP
  have hl := lv_entry ([.ref h0]) (n := 3) (Nat.le_of_ble_eq_true rfl)
  rw [lg_entry_eq]
  generalize (lg_sl ([.ref h0]) ++ List.replicate (3 - (lg_sl ([.ref h0])).length) Slot.unset).toArray = ls at hl ⊢
  have hl : lv_has ls 3 [(0, .ref h0)] := hl
  have hf_13 := hts (.fieldLink RX5 13 "MajorityIndexModel" "slots" "I") (List.mem_of_getElem? (i := 1) rfl)
  have hi_5 : ∀ w ∈ u_ws RX5 TX5 30, w ∈ wsX5_keeps := fun w h => List.mem_cons_of_mem _ (List.mem_append_right _ h)
  have hf_101 := hts (.fieldLink RX5 101 "MajorityIndexModel" "nodes" "I") (List.mem_of_getElem? (i := 2) rfl)
  have hf_47 := hts (.fieldLink RX5 47 "MajorityIndexModel" "wasMany" "[I") (List.mem_of_getElem? (i := 3) rfl)
  have hf_17 := hts (.fieldLink RX5 17 "MajorityIndexModel" "many" "[I") (List.mem_of_getElem? (i := 4) rfl)
  have hf_50 := hts (.fieldLink RX5 50 "MajorityIndexModel" "wasLoss" "[I") (List.mem_of_getElem? (i := 5) rfl)
  have hf_20 := hts (.fieldLink RX5 20 "MajorityIndexModel" "loss" "[I") (List.mem_of_getElem? (i := 6) rfl)
  have hf_53 := hts (.fieldLink RX5 53 "MajorityIndexModel" "wasValue" "[I") (List.mem_of_getElem? (i := 7) rfl)
  have hf_26 := hts (.fieldLink RX5 26 "MajorityIndexModel" "voteValue" "[I") (List.mem_of_getElem? (i := 8) rfl)
  have hf_56 := hts (.fieldLink RX5 56 "MajorityIndexModel" "wasNumber" "[I") (List.mem_of_getElem? (i := 9) rfl)
  have hf_29 := hts (.fieldLink RX5 29 "MajorityIndexModel" "voteNumber" "[I") (List.mem_of_getElem? (i := 10) rfl)
  refine lv_aload_n hx hb dX5_keeps_0 rfl (lv_at hl 0 rfl) ?_
  refine lv_aload_n hx hb dX5_keeps_1 rfl (lv_at hl 0 rfl) ?_
  refine va_get (D := (dC, dI)) (ci := 5) (v := .int m_slots) (C := RX5) (T := TX5) (N := 30) hx hb hts hi_5 hown hK hP 0 rfl rfl 2 (by decide) hf_13 (fun _ h9 => h9) rfl dX5_keeps_2 ?_
  have hPc := hP.sub (ws' := [kx_5 h0 g_row m_n m_slots m_thrown g_many g_loss g_less g_voteValue g_voteNumber g_allValue g_allNumber m_allMany g_nodeL g_nodeR m_nodes g_part m_partMany g_wasMany g_wasLoss g_wasValue g_wasNumber g_path m_pathMany g_heavyValue g_heavyTimes m_heavyMany g_fewest g_which g_met m_mostMet, kx_a g_row cyI 160 f, kx_a g_many cyI 324 fm, kx_a g_loss cyI 324 fl, kx_a g_less cyI 324 fe, kx_a g_voteValue cyI 1944 vv, kx_a g_voteNumber cyI 1944 vn, kx_a g_allValue cyI 12 av, kx_a g_allNumber cyI 12 an, kx_a g_nodeL cyI 320 nl, kx_a g_nodeR cyI 320 nr]) [0, 1, 2, 3, 4, 5, 6, 7, 8, 9, 10] rfl
  have hKc := hK
  have hDc := hD.sub (ws' := [kx_5 h0 g_row m_n m_slots m_thrown g_many g_loss g_less g_voteValue g_voteNumber g_allValue g_allNumber m_allMany g_nodeL g_nodeR m_nodes g_part m_partMany g_wasMany g_wasLoss g_wasValue g_wasNumber g_path m_pathMany g_heavyValue g_heavyTimes m_heavyMany g_fewest g_which g_met m_mostMet, kx_a g_row cyI 160 f, kx_a g_many cyI 324 fm, kx_a g_loss cyI 324 fl, kx_a g_less cyI 324 fe, kx_a g_voteValue cyI 1944 vv, kx_a g_voteNumber cyI 1944 vn, kx_a g_allValue cyI 12 av, kx_a g_allNumber cyI 12 an, kx_a g_nodeL cyI 320 nl, kx_a g_nodeR cyI 320 nr]) [0, 1, 2, 3, 4, 5, 6, 7, 8, 9, 10] (by decide) rfl
  have hFc := va_free (wc := [kx_5 h0 g_row m_n m_slots m_thrown g_many g_loss g_less g_voteValue g_voteNumber g_allValue g_allNumber m_allMany g_nodeL g_nodeR m_nodes g_part m_partMany g_wasMany g_wasLoss g_wasValue g_wasNumber g_path m_pathMany g_heavyValue g_heavyTimes m_heavyMany g_fewest g_which g_met m_mostMet, kx_a g_row cyI 160 f, kx_a g_many cyI 324 fm, kx_a g_loss cyI 324 fl, kx_a g_less cyI 324 fe, kx_a g_voteValue cyI 1944 vv, kx_a g_voteNumber cyI 1944 vn, kx_a g_allValue cyI 12 av, kx_a g_allNumber cyI 12 an, kx_a g_nodeL cyI 320 nl, kx_a g_nodeR cyI 320 nr]) hD hS hA [0, 1, 2, 3, 4, 5, 6, 7, 8, 9, 10] rfl
  refine va_callv (va_runV (As := [.int m_slots]) (rest := []) ⟨hx, hb, hml, hown, hts⟩ (c_X5_laysAll l dC dI h0 g_row g_many g_loss g_less g_voteValue g_voteNumber g_allValue g_allNumber g_nodeL g_nodeR g_part g_wasMany g_wasLoss g_wasValue g_wasNumber g_path g_heavyValue g_heavyTimes g_fewest g_which g_met m_n m_slots m_thrown m_allMany m_nodes m_partMany m_pathMany m_heavyMany m_mostMet cyI fm fl fe vv vn f av an nl nr m_slots s.heap.size a0 a1 sl0 sl1 s4) (cwV 1 hts gX5_keeps_X5_laysAll rfl rfl rfl (by decide +kernel) ⟨Nat.le_of_ble_eq_true rfl, Nat.le_of_ble_eq_true rfl⟩) ⟨fun a U g mk q => by obtain ⟨q0, q1, qP, qK, qD⟩ := q; exact ⟨q0, q1, qP, va_K.moved (u := U) (U := U.calling g mk a) (Vm.Alike.refl U.vm) qK, qD⟩, va_recv hKc hPc (ci := 5) (q0 := 0) rfl rfl, fun U hU hW => ⟨rfl, by rw [hU], by rw [hU]; exact hPc, va_K.moved hW.alike hKc, hDc.weaken (fun _ _ _ _ => trivial)⟩⟩ rfl rfl hl.1 rfl (lv_room (Nat.le_of_ble_eq_true rfl)) dX5_keeps_5 ⟨Nat.le_of_ble_eq_true rfl, Nat.le_of_ble_eq_true rfl⟩) hS (fun q _ h => hFc q h) hFc (fun u t H1 locs ht hvm w_1 hB hz1 hk1 hS => ?_)
  obtain ⟨o_2, o_3, o_4, o_5, o_6, o_7, o_8, o_9, o_10, o_11, o_12⟩ := u
  dsimp only at w_1 hB
  obtain ⟨hP1, hK1, hD1⟩ := hB
  rw [ht] at hP1
  have hK1 := va_K.moved hvm.symm hK1
  obtain ⟨hP, hD⟩ := va_join (wr := [kx_a g_wasMany cyI 320 wm, kx_a g_wasLoss cyI 320 wl, kx_a g_wasValue cyI 1920 wv, kx_a g_wasNumber cyI 1920 wn]) (w1 := [kx_5 h0 g_row m_n m_slots m_thrown g_many g_loss g_less g_voteValue g_voteNumber g_allValue g_allNumber o_3 g_nodeL g_nodeR o_2 g_part m_partMany g_wasMany g_wasLoss g_wasValue g_wasNumber g_path m_pathMany g_heavyValue g_heavyTimes m_heavyMany g_fewest g_which g_met m_mostMet, kx_a g_row cyI 160 f, kx_a g_many cyI 324 o_4, kx_a g_loss cyI 324 o_5, kx_a g_less cyI 324 o_6, kx_a g_voteValue cyI 1944 o_7, kx_a g_voteNumber cyI 1944 o_8, kx_a g_allValue cyI 12 o_9, kx_a g_allNumber cyI 12 o_10, kx_a g_nodeL cyI 320 o_11, kx_a g_nodeR cyI 320 o_12]) hP hD [0, 1, 2, 3, 4, 5, 6, 7, 8, 9, 10] [11, 12, 13, 14] rfl rfl (by decide) (by decide) hk1 hFc hP1 hD1
  clear hP1 hD1 hK1 hk1 hz1 hFc hDc hPc hKc
  generalize H1 = H at hP hS ⊢
  have hP : va_P (dC, dI) vwCl [kx_a g_wasMany cyI 320 wm, kx_a g_wasLoss cyI 320 wl, kx_a g_wasValue cyI 1920 wv, kx_a g_wasNumber cyI 1920 wn, kx_5 h0 g_row m_n m_slots m_thrown g_many g_loss g_less g_voteValue g_voteNumber g_allValue g_allNumber o_3 g_nodeL g_nodeR o_2 g_part m_partMany g_wasMany g_wasLoss g_wasValue g_wasNumber g_path m_pathMany g_heavyValue g_heavyTimes m_heavyMany g_fewest g_which g_met m_mostMet, kx_a g_row cyI 160 f, kx_a g_many cyI 324 o_4, kx_a g_loss cyI 324 o_5, kx_a g_less cyI 324 o_6, kx_a g_voteValue cyI 1944 o_7, kx_a g_voteNumber cyI 1944 o_8, kx_a g_allValue cyI 12 o_9, kx_a g_allNumber cyI 12 o_10, kx_a g_nodeL cyI 320 o_11, kx_a g_nodeR cyI 320 o_12] H := hP
  have hD : va_D A [kx_a g_wasMany cyI 320 wm, kx_a g_wasLoss cyI 320 wl, kx_a g_wasValue cyI 1920 wv, kx_a g_wasNumber cyI 1920 wn, kx_5 h0 g_row m_n m_slots m_thrown g_many g_loss g_less g_voteValue g_voteNumber g_allValue g_allNumber o_3 g_nodeL g_nodeR o_2 g_part m_partMany g_wasMany g_wasLoss g_wasValue g_wasNumber g_path m_pathMany g_heavyValue g_heavyTimes m_heavyMany g_fewest g_which g_met m_mostMet, kx_a g_row cyI 160 f, kx_a g_many cyI 324 o_4, kx_a g_loss cyI 324 o_5, kx_a g_less cyI 324 o_6, kx_a g_voteValue cyI 1944 o_7, kx_a g_voteNumber cyI 1944 o_8, kx_a g_allValue cyI 12 o_9, kx_a g_allNumber cyI 12 o_10, kx_a g_nodeL cyI 320 o_11, kx_a g_nodeR cyI 320 o_12] := hD
  have w_1 : mj_L m_slots.toNatClampNeg f o_11 o_12 o_4 o_5 o_6 o_7 o_8 m_n.toInt o_2.toInt ∧ six4 o_4 ∧ 0 ≤ o_2.toInt ∧ o_2.toInt ≤ 319 := w_1
  refine lv_iconst (v := 0) hx hb dX5_keeps_8 (by decide) ?_
  refine lv_istore_n (lv' := [(1, .int 0), (0, .ref h0)]) hx hb dX5_keeps_9 rfl hl (by decide) rfl (fun ls hl => ?_)
  have LP1 : ∀ (n : Nat) (i : Int32) (x_wm : Nat → Int32) (x_wl : Nat → Int32) (x_wv : Nat → Int32) (x_wn : Nat → Int32), (0 ≤ i.toInt) → (o_2.toInt - i.toInt).toNat < n → ∀ (H : Heap) (locs : List Loc), va_P (dC, dI) vwCl [kx_a g_wasMany cyI 320 x_wm, kx_a g_wasLoss cyI 320 x_wl, kx_a g_wasValue cyI 1920 x_wv, kx_a g_wasNumber cyI 1920 x_wn, kx_5 h0 g_row m_n m_slots m_thrown g_many g_loss g_less g_voteValue g_voteNumber g_allValue g_allNumber o_3 g_nodeL g_nodeR o_2 g_part m_partMany g_wasMany g_wasLoss g_wasValue g_wasNumber g_path m_pathMany g_heavyValue g_heavyTimes m_heavyMany g_fewest g_which g_met m_mostMet, kx_a g_row cyI 160 f, kx_a g_many cyI 324 o_4, kx_a g_loss cyI 324 o_5, kx_a g_less cyI 324 o_6, kx_a g_voteValue cyI 1944 o_7, kx_a g_voteNumber cyI 1944 o_8, kx_a g_allValue cyI 12 o_9, kx_a g_allNumber cyI 12 o_10, kx_a g_nodeL cyI 320 o_11, kx_a g_nodeR cyI 320 o_12] H → va_D A [kx_a g_wasMany cyI 320 x_wm, kx_a g_wasLoss cyI 320 x_wl, kx_a g_wasValue cyI 1920 x_wv, kx_a g_wasNumber cyI 1920 x_wn, kx_5 h0 g_row m_n m_slots m_thrown g_many g_loss g_less g_voteValue g_voteNumber g_allValue g_allNumber o_3 g_nodeL g_nodeR o_2 g_part m_partMany g_wasMany g_wasLoss g_wasValue g_wasNumber g_path m_pathMany g_heavyValue g_heavyTimes m_heavyMany g_fewest g_which g_met m_mostMet, kx_a g_row cyI 160 f, kx_a g_many cyI 324 o_4, kx_a g_loss cyI 324 o_5, kx_a g_less cyI 324 o_6, kx_a g_voteValue cyI 1944 o_7, kx_a g_voteNumber cyI 1944 o_8, kx_a g_allValue cyI 12 o_9, kx_a g_allNumber cyI 12 o_10, kx_a g_nodeL cyI 320 o_11, kx_a g_nodeR cyI 320 o_12] → va_S A s.heap H locs → ∀ (ls : Array Slot), lv_has ls 3 [(1, .int i), (0, .ref h0)] → W p l e (headSpec wsX5_keeps ({ frames := 12, cells := 0, slots := 0, locals := 540 })).room s m ([.ref h0] : List Value).toArray below meth c H locs 0 0 (MQ below (va_Qv (fun u : Int32 × Int32 × (Nat → Int32) × (Nat → Int32) × (Nat → Int32) × (Nat → Int32) × (Nat → Int32) × (Nat → Int32) × (Nat → Int32) × (Nat → Int32) × (Nat → Int32) × (Nat → Int32) × (Nat → Int32) × (Nat → Int32) × (Nat → Int32) => six4 u.2.2.1) (fun (u : Int32 × Int32 × (Nat → Int32) × (Nat → Int32) × (Nat → Int32) × (Nat → Int32) × (Nat → Int32) × (Nat → Int32) × (Nat → Int32) × (Nat → Int32) × (Nat → Int32) × (Nat → Int32) × (Nat → Int32) × (Nat → Int32) × (Nat → Int32)) (t : State) => va_P (dC, dI) vwCl [kx_5 h0 g_row m_n m_slots m_thrown g_many g_loss g_less g_voteValue g_voteNumber g_allValue g_allNumber u.2.1 g_nodeL g_nodeR u.1 g_part m_partMany g_wasMany g_wasLoss g_wasValue g_wasNumber g_path m_pathMany g_heavyValue g_heavyTimes m_heavyMany g_fewest g_which g_met m_mostMet, kx_a g_row cyI 160 f, kx_a g_many cyI 324 u.2.2.1, kx_a g_loss cyI 324 u.2.2.2.1, kx_a g_less cyI 324 u.2.2.2.2.1, kx_a g_voteValue cyI 1944 u.2.2.2.2.2.1, kx_a g_voteNumber cyI 1944 u.2.2.2.2.2.2.1, kx_a g_allValue cyI 12 u.2.2.2.2.2.2.2.1, kx_a g_allNumber cyI 12 u.2.2.2.2.2.2.2.2.1, kx_a g_nodeL cyI 320 u.2.2.2.2.2.2.2.2.2.1, kx_a g_nodeR cyI 320 u.2.2.2.2.2.2.2.2.2.2.1, kx_a g_wasMany cyI 320 u.2.2.2.2.2.2.2.2.2.2.2.1, kx_a g_wasLoss cyI 320 u.2.2.2.2.2.2.2.2.2.2.2.2.1, kx_a g_wasValue cyI 1920 u.2.2.2.2.2.2.2.2.2.2.2.2.2.1, kx_a g_wasNumber cyI 1920 u.2.2.2.2.2.2.2.2.2.2.2.2.2.2] t.heap ∧ va_K (dC, dI) vwCl [(cyI, .int)] t ∧ va_D A [kx_5 h0 g_row m_n m_slots m_thrown g_many g_loss g_less g_voteValue g_voteNumber g_allValue g_allNumber u.2.1 g_nodeL g_nodeR u.1 g_part m_partMany g_wasMany g_wasLoss g_wasValue g_wasNumber g_path m_pathMany g_heavyValue g_heavyTimes m_heavyMany g_fewest g_which g_met m_mostMet, kx_a g_row cyI 160 f, kx_a g_many cyI 324 u.2.2.1, kx_a g_loss cyI 324 u.2.2.2.1, kx_a g_less cyI 324 u.2.2.2.2.1, kx_a g_voteValue cyI 1944 u.2.2.2.2.2.1, kx_a g_voteNumber cyI 1944 u.2.2.2.2.2.2.1, kx_a g_allValue cyI 12 u.2.2.2.2.2.2.2.1, kx_a g_allNumber cyI 12 u.2.2.2.2.2.2.2.2.1, kx_a g_nodeL cyI 320 u.2.2.2.2.2.2.2.2.2.1, kx_a g_nodeR cyI 320 u.2.2.2.2.2.2.2.2.2.2.1, kx_a g_wasMany cyI 320 u.2.2.2.2.2.2.2.2.2.2.2.1, kx_a g_wasLoss cyI 320 u.2.2.2.2.2.2.2.2.2.2.2.2.1, kx_a g_wasValue cyI 1920 u.2.2.2.2.2.2.2.2.2.2.2.2.2.1, kx_a g_wasNumber cyI 1920 u.2.2.2.2.2.2.2.2.2.2.2.2.2.2]) A) ([.ref h0] : List Value).toArray s 0 0 A) (F0 m 10 ls []) := by
    intro n
    induction n with
    | zero => intro i x_wm x_wl x_wv x_wn LP1_h0 hn; exact absurd hn (Nat.not_lt_zero _)
    | succ n ih1 =>
      intro i x_wm x_wl x_wv x_wn LP1_h0 hn1 H locs hP hD hS ls hl
      refine lv_iload_n hx hb dX5_keeps_10 rfl (lv_at hl 0 rfl) ?_
      refine lv_aload_n hx hb dX5_keeps_11 rfl (lv_at hl 1 rfl) ?_
      refine va_get (D := (dC, dI)) (ci := 5) (v := .int o_2) (C := RX5) (T := TX5) (N := 30) hx hb hts hi_5 hown hK hP 4 rfl rfl 14 (by decide) hf_101 (fun _ h9 => h9) rfl dX5_keeps_12 ?_
      refine lv_icmp_ge (tgt := 110) hx hb dX5_keeps_15 (by decide) (fun c_13 => ?_) (fun c_13 => ?_)
      · have i_13 : o_2.toInt ≤ i.toInt := kc_le c_13
        have hP9 := hP.sub (ws' := [kx_5 h0 g_row m_n m_slots m_thrown g_many g_loss g_less g_voteValue g_voteNumber g_allValue g_allNumber o_3 g_nodeL g_nodeR o_2 g_part m_partMany g_wasMany g_wasLoss g_wasValue g_wasNumber g_path m_pathMany g_heavyValue g_heavyTimes m_heavyMany g_fewest g_which g_met m_mostMet, kx_a g_row cyI 160 f, kx_a g_many cyI 324 o_4, kx_a g_loss cyI 324 o_5, kx_a g_less cyI 324 o_6, kx_a g_voteValue cyI 1944 o_7, kx_a g_voteNumber cyI 1944 o_8, kx_a g_allValue cyI 12 o_9, kx_a g_allNumber cyI 12 o_10, kx_a g_nodeL cyI 320 o_11, kx_a g_nodeR cyI 320 o_12, kx_a g_wasMany cyI 320 x_wm, kx_a g_wasLoss cyI 320 x_wl, kx_a g_wasValue cyI 1920 x_wv, kx_a g_wasNumber cyI 1920 x_wn]) [4, 5, 6, 7, 8, 9, 10, 11, 12, 13, 14, 0, 1, 2, 3] rfl
        have hD9 := hD.sub (ws' := [kx_5 h0 g_row m_n m_slots m_thrown g_many g_loss g_less g_voteValue g_voteNumber g_allValue g_allNumber o_3 g_nodeL g_nodeR o_2 g_part m_partMany g_wasMany g_wasLoss g_wasValue g_wasNumber g_path m_pathMany g_heavyValue g_heavyTimes m_heavyMany g_fewest g_which g_met m_mostMet, kx_a g_row cyI 160 f, kx_a g_many cyI 324 o_4, kx_a g_loss cyI 324 o_5, kx_a g_less cyI 324 o_6, kx_a g_voteValue cyI 1944 o_7, kx_a g_voteNumber cyI 1944 o_8, kx_a g_allValue cyI 12 o_9, kx_a g_allNumber cyI 12 o_10, kx_a g_nodeL cyI 320 o_11, kx_a g_nodeR cyI 320 o_12, kx_a g_wasMany cyI 320 x_wm, kx_a g_wasLoss cyI 320 x_wl, kx_a g_wasValue cyI 1920 x_wv, kx_a g_wasNumber cyI 1920 x_wn]) [4, 5, 6, 7, 8, 9, 10, 11, 12, 13, 14, 0, 1, 2, 3] (by decide) rfl
        have hK9 := hK
        exact W.vret hx hb hr (fun t ht hW => ⟨⟨(o_2, o_3, o_4, o_5, o_6, o_7, o_8, o_9, o_10, o_11, o_12, x_wm, x_wl, x_wv, x_wn), rfl, w_1.2.1, by rw [ht]; exact hP9, va_K.moved hW.alike hK9, hD9⟩, hS.F ht⟩) hS.2.2 dX5_keeps_110
      · have i_13 : i.toInt < o_2.toInt := kc_nle c_13
        refine lv_aload_n hx hb dX5_keeps_18 rfl (lv_at hl 1 rfl) ?_
        refine va_get (D := (dC, dI)) (ci := 5) (v := .ref g_wasMany) (C := RX5) (T := TX5) (N := 30) hx hb hts hi_5 hown hK hP 4 rfl rfl 17 (by decide) hf_47 (fun _ h9 => h9) rfl dX5_keeps_19 ?_
        refine lv_iload_n hx hb dX5_keeps_22 rfl (lv_at hl 0 rfl) ?_
        refine lv_aload_n hx hb dX5_keeps_23 rfl (lv_at hl 1 rfl) ?_
        refine va_get (D := (dC, dI)) (ci := 5) (v := .ref g_many) (C := RX5) (T := TX5) (N := 30) hx hb hts hi_5 hown hK hP 4 rfl rfl 4 (by decide) hf_17 (fun _ h9 => h9) rfl dX5_keeps_24 ?_
        refine lv_iload_n hx hb dX5_keeps_27 rfl (lv_at hl 0 rfl) ?_
        refine va_iald hx hb hK hP 6 0 rfl rfl (ki_in (om_8 LP1_h0) (om_285 w_1.2.2.2 i_13)) dX5_keeps_28 ?_
        refine lv_topi (fun y_14 ey_14 => ?_)
        have j_14 : y_14.toInt = (o_4 i.toNatClampNeg).toInt := congrArg Int32.toInt ey_14
        have n_15 : (i.toNatClampNeg : Int) = i.toInt := ki_nat _ rfl (om_8 LP1_h0)
        have i_16 := w_1.2.1 i.toNatClampNeg (by omega)
        refine va_iast hx hb hK hP hD hS 0 0 rfl rfl (ki_in (om_8 LP1_h0) (om_286 w_1.2.2.2 i_13)) dX5_keeps_29 (fun H locs hP hD hS => ?_)
        have hP : va_P (dC, dI) vwCl [kx_a g_wasMany cyI 320 (upd x_wm i.toNatClampNeg y_14), kx_a g_wasLoss cyI 320 x_wl, kx_a g_wasValue cyI 1920 x_wv, kx_a g_wasNumber cyI 1920 x_wn, kx_5 h0 g_row m_n m_slots m_thrown g_many g_loss g_less g_voteValue g_voteNumber g_allValue g_allNumber o_3 g_nodeL g_nodeR o_2 g_part m_partMany g_wasMany g_wasLoss g_wasValue g_wasNumber g_path m_pathMany g_heavyValue g_heavyTimes m_heavyMany g_fewest g_which g_met m_mostMet, kx_a g_row cyI 160 f, kx_a g_many cyI 324 o_4, kx_a g_loss cyI 324 o_5, kx_a g_less cyI 324 o_6, kx_a g_voteValue cyI 1944 o_7, kx_a g_voteNumber cyI 1944 o_8, kx_a g_allValue cyI 12 o_9, kx_a g_allNumber cyI 12 o_10, kx_a g_nodeL cyI 320 o_11, kx_a g_nodeR cyI 320 o_12] H := hP
        have hD : va_D A [kx_a g_wasMany cyI 320 (upd x_wm i.toNatClampNeg y_14), kx_a g_wasLoss cyI 320 x_wl, kx_a g_wasValue cyI 1920 x_wv, kx_a g_wasNumber cyI 1920 x_wn, kx_5 h0 g_row m_n m_slots m_thrown g_many g_loss g_less g_voteValue g_voteNumber g_allValue g_allNumber o_3 g_nodeL g_nodeR o_2 g_part m_partMany g_wasMany g_wasLoss g_wasValue g_wasNumber g_path m_pathMany g_heavyValue g_heavyTimes m_heavyMany g_fewest g_which g_met m_mostMet, kx_a g_row cyI 160 f, kx_a g_many cyI 324 o_4, kx_a g_loss cyI 324 o_5, kx_a g_less cyI 324 o_6, kx_a g_voteValue cyI 1944 o_7, kx_a g_voteNumber cyI 1944 o_8, kx_a g_allValue cyI 12 o_9, kx_a g_allNumber cyI 12 o_10, kx_a g_nodeL cyI 320 o_11, kx_a g_nodeR cyI 320 o_12] := hD
        refine lv_aload_n hx hb dX5_keeps_30 rfl (lv_at hl 1 rfl) ?_
        refine va_get (D := (dC, dI)) (ci := 5) (v := .ref g_wasLoss) (C := RX5) (T := TX5) (N := 30) hx hb hts hi_5 hown hK hP 4 rfl rfl 18 (by decide) hf_50 (fun _ h9 => h9) rfl dX5_keeps_31 ?_
        refine lv_iload_n hx hb dX5_keeps_34 rfl (lv_at hl 0 rfl) ?_
        refine lv_aload_n hx hb dX5_keeps_35 rfl (lv_at hl 1 rfl) ?_
        refine va_get (D := (dC, dI)) (ci := 5) (v := .ref g_loss) (C := RX5) (T := TX5) (N := 30) hx hb hts hi_5 hown hK hP 4 rfl rfl 5 (by decide) hf_20 (fun _ h9 => h9) rfl dX5_keeps_36 ?_
        refine lv_iload_n hx hb dX5_keeps_39 rfl (lv_at hl 0 rfl) ?_
        refine va_iald hx hb hK hP 7 0 rfl rfl (ki_in (om_8 LP1_h0) (om_285 w_1.2.2.2 i_13)) dX5_keeps_40 ?_
        refine lv_topi (fun y_17 ey_17 => ?_)
        have j_17 : y_17.toInt = (o_5 i.toNatClampNeg).toInt := congrArg Int32.toInt ey_17
        refine va_iast hx hb hK hP hD hS 1 0 rfl rfl (ki_in (om_8 LP1_h0) (om_286 w_1.2.2.2 i_13)) dX5_keeps_41 (fun H locs hP hD hS => ?_)
        have hP : va_P (dC, dI) vwCl [kx_a g_wasMany cyI 320 (upd x_wm i.toNatClampNeg y_14), kx_a g_wasLoss cyI 320 (upd x_wl i.toNatClampNeg y_17), kx_a g_wasValue cyI 1920 x_wv, kx_a g_wasNumber cyI 1920 x_wn, kx_5 h0 g_row m_n m_slots m_thrown g_many g_loss g_less g_voteValue g_voteNumber g_allValue g_allNumber o_3 g_nodeL g_nodeR o_2 g_part m_partMany g_wasMany g_wasLoss g_wasValue g_wasNumber g_path m_pathMany g_heavyValue g_heavyTimes m_heavyMany g_fewest g_which g_met m_mostMet, kx_a g_row cyI 160 f, kx_a g_many cyI 324 o_4, kx_a g_loss cyI 324 o_5, kx_a g_less cyI 324 o_6, kx_a g_voteValue cyI 1944 o_7, kx_a g_voteNumber cyI 1944 o_8, kx_a g_allValue cyI 12 o_9, kx_a g_allNumber cyI 12 o_10, kx_a g_nodeL cyI 320 o_11, kx_a g_nodeR cyI 320 o_12] H := hP
        have hD : va_D A [kx_a g_wasMany cyI 320 (upd x_wm i.toNatClampNeg y_14), kx_a g_wasLoss cyI 320 (upd x_wl i.toNatClampNeg y_17), kx_a g_wasValue cyI 1920 x_wv, kx_a g_wasNumber cyI 1920 x_wn, kx_5 h0 g_row m_n m_slots m_thrown g_many g_loss g_less g_voteValue g_voteNumber g_allValue g_allNumber o_3 g_nodeL g_nodeR o_2 g_part m_partMany g_wasMany g_wasLoss g_wasValue g_wasNumber g_path m_pathMany g_heavyValue g_heavyTimes m_heavyMany g_fewest g_which g_met m_mostMet, kx_a g_row cyI 160 f, kx_a g_many cyI 324 o_4, kx_a g_loss cyI 324 o_5, kx_a g_less cyI 324 o_6, kx_a g_voteValue cyI 1944 o_7, kx_a g_voteNumber cyI 1944 o_8, kx_a g_allValue cyI 12 o_9, kx_a g_allNumber cyI 12 o_10, kx_a g_nodeL cyI 320 o_11, kx_a g_nodeR cyI 320 o_12] := hD
        refine lv_iconst (v := 0) hx hb dX5_keeps_42 (by decide) ?_
        refine lv_istore_n (lv' := [(2, .int 0), (1, .int i), (0, .ref h0)]) hx hb dX5_keeps_43 rfl hl (by decide) rfl (fun ls hl => ?_)
        have LP2 : ∀ (n : Nat) (j : Int32) (y_wv : Nat → Int32) (y_wn : Nat → Int32), (0 ≤ j.toInt) → (6 - j.toInt).toNat < n → ∀ (H : Heap) (locs : List Loc), va_P (dC, dI) vwCl [kx_a g_wasMany cyI 320 (upd x_wm i.toNatClampNeg y_14), kx_a g_wasLoss cyI 320 (upd x_wl i.toNatClampNeg y_17), kx_a g_wasValue cyI 1920 y_wv, kx_a g_wasNumber cyI 1920 y_wn, kx_5 h0 g_row m_n m_slots m_thrown g_many g_loss g_less g_voteValue g_voteNumber g_allValue g_allNumber o_3 g_nodeL g_nodeR o_2 g_part m_partMany g_wasMany g_wasLoss g_wasValue g_wasNumber g_path m_pathMany g_heavyValue g_heavyTimes m_heavyMany g_fewest g_which g_met m_mostMet, kx_a g_row cyI 160 f, kx_a g_many cyI 324 o_4, kx_a g_loss cyI 324 o_5, kx_a g_less cyI 324 o_6, kx_a g_voteValue cyI 1944 o_7, kx_a g_voteNumber cyI 1944 o_8, kx_a g_allValue cyI 12 o_9, kx_a g_allNumber cyI 12 o_10, kx_a g_nodeL cyI 320 o_11, kx_a g_nodeR cyI 320 o_12] H → va_D A [kx_a g_wasMany cyI 320 (upd x_wm i.toNatClampNeg y_14), kx_a g_wasLoss cyI 320 (upd x_wl i.toNatClampNeg y_17), kx_a g_wasValue cyI 1920 y_wv, kx_a g_wasNumber cyI 1920 y_wn, kx_5 h0 g_row m_n m_slots m_thrown g_many g_loss g_less g_voteValue g_voteNumber g_allValue g_allNumber o_3 g_nodeL g_nodeR o_2 g_part m_partMany g_wasMany g_wasLoss g_wasValue g_wasNumber g_path m_pathMany g_heavyValue g_heavyTimes m_heavyMany g_fewest g_which g_met m_mostMet, kx_a g_row cyI 160 f, kx_a g_many cyI 324 o_4, kx_a g_loss cyI 324 o_5, kx_a g_less cyI 324 o_6, kx_a g_voteValue cyI 1944 o_7, kx_a g_voteNumber cyI 1944 o_8, kx_a g_allValue cyI 12 o_9, kx_a g_allNumber cyI 12 o_10, kx_a g_nodeL cyI 320 o_11, kx_a g_nodeR cyI 320 o_12] → va_S A s.heap H locs → ∀ (ls : Array Slot), lv_has ls 3 [(2, .int j), (1, .int i), (0, .ref h0)] → W p l e (headSpec wsX5_keeps ({ frames := 12, cells := 0, slots := 0, locals := 540 })).room s m ([.ref h0] : List Value).toArray below meth c H locs 0 0 (MQ below (va_Qv (fun u : Int32 × Int32 × (Nat → Int32) × (Nat → Int32) × (Nat → Int32) × (Nat → Int32) × (Nat → Int32) × (Nat → Int32) × (Nat → Int32) × (Nat → Int32) × (Nat → Int32) × (Nat → Int32) × (Nat → Int32) × (Nat → Int32) × (Nat → Int32) => six4 u.2.2.1) (fun (u : Int32 × Int32 × (Nat → Int32) × (Nat → Int32) × (Nat → Int32) × (Nat → Int32) × (Nat → Int32) × (Nat → Int32) × (Nat → Int32) × (Nat → Int32) × (Nat → Int32) × (Nat → Int32) × (Nat → Int32) × (Nat → Int32) × (Nat → Int32)) (t : State) => va_P (dC, dI) vwCl [kx_5 h0 g_row m_n m_slots m_thrown g_many g_loss g_less g_voteValue g_voteNumber g_allValue g_allNumber u.2.1 g_nodeL g_nodeR u.1 g_part m_partMany g_wasMany g_wasLoss g_wasValue g_wasNumber g_path m_pathMany g_heavyValue g_heavyTimes m_heavyMany g_fewest g_which g_met m_mostMet, kx_a g_row cyI 160 f, kx_a g_many cyI 324 u.2.2.1, kx_a g_loss cyI 324 u.2.2.2.1, kx_a g_less cyI 324 u.2.2.2.2.1, kx_a g_voteValue cyI 1944 u.2.2.2.2.2.1, kx_a g_voteNumber cyI 1944 u.2.2.2.2.2.2.1, kx_a g_allValue cyI 12 u.2.2.2.2.2.2.2.1, kx_a g_allNumber cyI 12 u.2.2.2.2.2.2.2.2.1, kx_a g_nodeL cyI 320 u.2.2.2.2.2.2.2.2.2.1, kx_a g_nodeR cyI 320 u.2.2.2.2.2.2.2.2.2.2.1, kx_a g_wasMany cyI 320 u.2.2.2.2.2.2.2.2.2.2.2.1, kx_a g_wasLoss cyI 320 u.2.2.2.2.2.2.2.2.2.2.2.2.1, kx_a g_wasValue cyI 1920 u.2.2.2.2.2.2.2.2.2.2.2.2.2.1, kx_a g_wasNumber cyI 1920 u.2.2.2.2.2.2.2.2.2.2.2.2.2.2] t.heap ∧ va_K (dC, dI) vwCl [(cyI, .int)] t ∧ va_D A [kx_5 h0 g_row m_n m_slots m_thrown g_many g_loss g_less g_voteValue g_voteNumber g_allValue g_allNumber u.2.1 g_nodeL g_nodeR u.1 g_part m_partMany g_wasMany g_wasLoss g_wasValue g_wasNumber g_path m_pathMany g_heavyValue g_heavyTimes m_heavyMany g_fewest g_which g_met m_mostMet, kx_a g_row cyI 160 f, kx_a g_many cyI 324 u.2.2.1, kx_a g_loss cyI 324 u.2.2.2.1, kx_a g_less cyI 324 u.2.2.2.2.1, kx_a g_voteValue cyI 1944 u.2.2.2.2.2.1, kx_a g_voteNumber cyI 1944 u.2.2.2.2.2.2.1, kx_a g_allValue cyI 12 u.2.2.2.2.2.2.2.1, kx_a g_allNumber cyI 12 u.2.2.2.2.2.2.2.2.1, kx_a g_nodeL cyI 320 u.2.2.2.2.2.2.2.2.2.1, kx_a g_nodeR cyI 320 u.2.2.2.2.2.2.2.2.2.2.1, kx_a g_wasMany cyI 320 u.2.2.2.2.2.2.2.2.2.2.2.1, kx_a g_wasLoss cyI 320 u.2.2.2.2.2.2.2.2.2.2.2.2.1, kx_a g_wasValue cyI 1920 u.2.2.2.2.2.2.2.2.2.2.2.2.2.1, kx_a g_wasNumber cyI 1920 u.2.2.2.2.2.2.2.2.2.2.2.2.2.2]) A) ([.ref h0] : List Value).toArray s 0 0 A) (F0 m 44 ls []) := by
          intro n
          induction n with
          | zero => intro j y_wv y_wn LP2_h0 hn; exact absurd hn (Nat.not_lt_zero _)
          | succ n ih2 =>
            intro j y_wv y_wn LP2_h0 hn2 H locs hP hD hS ls hl
            refine lv_iload_n hx hb dX5_keeps_44 rfl (lv_at hl 0 rfl) ?_
            refine lv_aload_n hx hb dX5_keeps_45 rfl (lv_at hl 2 rfl) ?_
            refine va_get (D := (dC, dI)) (ci := 5) (v := .ref g_many) (C := RX5) (T := TX5) (N := 30) hx hb hts hi_5 hown hK hP 4 rfl rfl 4 (by decide) hf_17 (fun _ h9 => h9) rfl dX5_keeps_46 ?_
            refine lv_iload_n hx hb dX5_keeps_49 rfl (lv_at hl 1 rfl) ?_
            refine va_iald hx hb hK hP 6 0 rfl rfl (ki_in (om_8 LP1_h0) (om_285 w_1.2.2.2 i_13)) dX5_keeps_50 ?_
            refine lv_topi (fun y_18 ey_18 => ?_)
            have j_18 : y_18.toInt = (o_4 i.toNatClampNeg).toInt := congrArg Int32.toInt ey_18
            have n_19 : (i.toNatClampNeg : Int) = i.toInt := ki_nat _ rfl (om_8 LP1_h0)
            have i_20 := w_1.2.1 i.toNatClampNeg (by omega)
            refine lv_icmp_ge (tgt := 104) hx hb dX5_keeps_51 (by decide) (fun c_21 => ?_) (fun c_21 => ?_)
            · have i_21 : y_18.toInt ≤ j.toInt := kc_le c_21
              obtain ⟨x_22, ex_22⟩ : ∃ y : Int32, y = i + 1 := ⟨_, rfl⟩
              have i_22 : x_22.toInt = i.toInt + 1 := ki_add ex_22 rfl rfl (om_10 LP1_h0) (om_102 w_1.2.2.2 i_13)
              refine lv_iinc (v := x_22) (lv' := [(1, .int x_22), (2, .int j), (0, .ref h0)]) hx hb dX5_keeps_104 hl (k := 1) rfl (by rw [ex_22]; rfl) (by decide) rfl (fun ls hl => ?_)
              refine lv_goto (tgt := 10) hx hb dX5_keeps_107 (by decide) ?_
              exact ih1 x_22 (upd x_wm i.toNatClampNeg y_14) (upd x_wl i.toNatClampNeg y_17) y_wv y_wn (om_31 LP1_h0 i_22) (om_mu hn1 (om_5 i_22) (om_6 i_13)) _ _ hP hD hS ls (lv_sub hl [0, 2] rfl)
            · have i_21 : j.toInt < y_18.toInt := kc_nle c_21
              refine lv_aload_n hx hb dX5_keeps_54 rfl (lv_at hl 2 rfl) ?_
              refine va_get (D := (dC, dI)) (ci := 5) (v := .ref g_wasValue) (C := RX5) (T := TX5) (N := 30) hx hb hts hi_5 hown hK hP 4 rfl rfl 19 (by decide) hf_53 (fun _ h9 => h9) rfl dX5_keeps_55 ?_
              refine lv_bipush (v := 6) hx hb dX5_keeps_58 (by decide) ?_
              refine lv_iload_n hx hb dX5_keeps_60 rfl (lv_at hl 1 rfl) ?_
              refine lv_imul hx hb dX5_keeps_61 ?_
              refine lv_topi (fun y_23 ey_23 => ?_)
              have i_23 : y_23.toInt = 6 * i.toInt := ki_mul ey_23 rfl rfl (om_167 LP1_h0) (om_287 w_1.2.2.2 i_13)
              refine lv_iload_n hx hb dX5_keeps_62 rfl (lv_at hl 0 rfl) ?_
              refine lv_iadd hx hb dX5_keeps_63 ?_
              refine lv_topi (fun y_24 ey_24 => ?_)
              have i_24 : y_24.toInt = y_23.toInt + j.toInt := ki_add ey_24 rfl rfl (om_171 LP1_h0 LP2_h0 i_23) (by omega)
              refine lv_aload_n hx hb dX5_keeps_64 rfl (lv_at hl 2 rfl) ?_
              refine va_get (D := (dC, dI)) (ci := 5) (v := .ref g_voteValue) (C := RX5) (T := TX5) (N := 30) hx hb hts hi_5 hown hK hP 4 rfl rfl 7 (by decide) hf_26 (fun _ h9 => h9) rfl dX5_keeps_65 ?_
              refine lv_bipush (v := 6) hx hb dX5_keeps_68 (by decide) ?_
              refine lv_iload_n hx hb dX5_keeps_70 rfl (lv_at hl 1 rfl) ?_
              refine lv_imul hx hb dX5_keeps_71 ?_
              refine lv_topi (fun y_25 ey_25 => ?_)
              have i_25 : y_25.toInt = 6 * i.toInt := ki_mul ey_25 rfl rfl (om_167 LP1_h0) (om_287 w_1.2.2.2 i_13)
              refine lv_iload_n hx hb dX5_keeps_72 rfl (lv_at hl 0 rfl) ?_
              refine lv_iadd hx hb dX5_keeps_73 ?_
              refine lv_topi (fun y_26 ey_26 => ?_)
              have i_26 : y_26.toInt = y_25.toInt + j.toInt := ki_add ey_26 rfl rfl (om_171 LP1_h0 LP2_h0 i_25) (by omega)
              refine va_iald hx hb hK hP 9 0 rfl rfl (ki_in (om_172 LP1_h0 LP2_h0 i_25 i_26) (by omega)) dX5_keeps_74 ?_
              refine lv_topi (fun y_27 ey_27 => ?_)
              have j_27 : y_27.toInt = (o_7 y_26.toNatClampNeg).toInt := congrArg Int32.toInt ey_27
              refine va_iast hx hb hK hP hD hS 2 0 rfl rfl (ki_in (om_172 LP1_h0 LP2_h0 i_23 i_24) (by omega)) dX5_keeps_75 (fun H locs hP hD hS => ?_)
              have hP : va_P (dC, dI) vwCl [kx_a g_wasMany cyI 320 (upd x_wm i.toNatClampNeg y_14), kx_a g_wasLoss cyI 320 (upd x_wl i.toNatClampNeg y_17), kx_a g_wasValue cyI 1920 (upd y_wv y_24.toNatClampNeg y_27), kx_a g_wasNumber cyI 1920 y_wn, kx_5 h0 g_row m_n m_slots m_thrown g_many g_loss g_less g_voteValue g_voteNumber g_allValue g_allNumber o_3 g_nodeL g_nodeR o_2 g_part m_partMany g_wasMany g_wasLoss g_wasValue g_wasNumber g_path m_pathMany g_heavyValue g_heavyTimes m_heavyMany g_fewest g_which g_met m_mostMet, kx_a g_row cyI 160 f, kx_a g_many cyI 324 o_4, kx_a g_loss cyI 324 o_5, kx_a g_less cyI 324 o_6, kx_a g_voteValue cyI 1944 o_7, kx_a g_voteNumber cyI 1944 o_8, kx_a g_allValue cyI 12 o_9, kx_a g_allNumber cyI 12 o_10, kx_a g_nodeL cyI 320 o_11, kx_a g_nodeR cyI 320 o_12] H := hP
              have hD : va_D A [kx_a g_wasMany cyI 320 (upd x_wm i.toNatClampNeg y_14), kx_a g_wasLoss cyI 320 (upd x_wl i.toNatClampNeg y_17), kx_a g_wasValue cyI 1920 (upd y_wv y_24.toNatClampNeg y_27), kx_a g_wasNumber cyI 1920 y_wn, kx_5 h0 g_row m_n m_slots m_thrown g_many g_loss g_less g_voteValue g_voteNumber g_allValue g_allNumber o_3 g_nodeL g_nodeR o_2 g_part m_partMany g_wasMany g_wasLoss g_wasValue g_wasNumber g_path m_pathMany g_heavyValue g_heavyTimes m_heavyMany g_fewest g_which g_met m_mostMet, kx_a g_row cyI 160 f, kx_a g_many cyI 324 o_4, kx_a g_loss cyI 324 o_5, kx_a g_less cyI 324 o_6, kx_a g_voteValue cyI 1944 o_7, kx_a g_voteNumber cyI 1944 o_8, kx_a g_allValue cyI 12 o_9, kx_a g_allNumber cyI 12 o_10, kx_a g_nodeL cyI 320 o_11, kx_a g_nodeR cyI 320 o_12] := hD
              refine lv_aload_n hx hb dX5_keeps_76 rfl (lv_at hl 2 rfl) ?_
              refine va_get (D := (dC, dI)) (ci := 5) (v := .ref g_wasNumber) (C := RX5) (T := TX5) (N := 30) hx hb hts hi_5 hown hK hP 4 rfl rfl 20 (by decide) hf_56 (fun _ h9 => h9) rfl dX5_keeps_77 ?_
              refine lv_bipush (v := 6) hx hb dX5_keeps_80 (by decide) ?_
              refine lv_iload_n hx hb dX5_keeps_82 rfl (lv_at hl 1 rfl) ?_
              refine lv_imul hx hb dX5_keeps_83 ?_
              refine lv_topi (fun y_28 ey_28 => ?_)
              have i_28 : y_28.toInt = 6 * i.toInt := ki_mul ey_28 rfl rfl (om_167 LP1_h0) (om_287 w_1.2.2.2 i_13)
              refine lv_iload_n hx hb dX5_keeps_84 rfl (lv_at hl 0 rfl) ?_
              refine lv_iadd hx hb dX5_keeps_85 ?_
              refine lv_topi (fun y_29 ey_29 => ?_)
              have i_29 : y_29.toInt = y_28.toInt + j.toInt := ki_add ey_29 rfl rfl (om_171 LP1_h0 LP2_h0 i_28) (by omega)
              refine lv_aload_n hx hb dX5_keeps_86 rfl (lv_at hl 2 rfl) ?_
              refine va_get (D := (dC, dI)) (ci := 5) (v := .ref g_voteNumber) (C := RX5) (T := TX5) (N := 30) hx hb hts hi_5 hown hK hP 4 rfl rfl 8 (by decide) hf_29 (fun _ h9 => h9) rfl dX5_keeps_87 ?_
              refine lv_bipush (v := 6) hx hb dX5_keeps_90 (by decide) ?_
              refine lv_iload_n hx hb dX5_keeps_92 rfl (lv_at hl 1 rfl) ?_
              refine lv_imul hx hb dX5_keeps_93 ?_
              refine lv_topi (fun y_30 ey_30 => ?_)
              have i_30 : y_30.toInt = 6 * i.toInt := ki_mul ey_30 rfl rfl (om_167 LP1_h0) (om_287 w_1.2.2.2 i_13)
              refine lv_iload_n hx hb dX5_keeps_94 rfl (lv_at hl 0 rfl) ?_
              refine lv_iadd hx hb dX5_keeps_95 ?_
              refine lv_topi (fun y_31 ey_31 => ?_)
              have i_31 : y_31.toInt = y_30.toInt + j.toInt := ki_add ey_31 rfl rfl (om_171 LP1_h0 LP2_h0 i_30) (by omega)
              refine va_iald hx hb hK hP 10 0 rfl rfl (ki_in (om_172 LP1_h0 LP2_h0 i_30 i_31) (by omega)) dX5_keeps_96 ?_
              refine lv_topi (fun y_32 ey_32 => ?_)
              have j_32 : y_32.toInt = (o_8 y_31.toNatClampNeg).toInt := congrArg Int32.toInt ey_32
              refine va_iast hx hb hK hP hD hS 3 0 rfl rfl (ki_in (om_172 LP1_h0 LP2_h0 i_28 i_29) (by omega)) dX5_keeps_97 (fun H locs hP hD hS => ?_)
              have hP : va_P (dC, dI) vwCl [kx_a g_wasMany cyI 320 (upd x_wm i.toNatClampNeg y_14), kx_a g_wasLoss cyI 320 (upd x_wl i.toNatClampNeg y_17), kx_a g_wasValue cyI 1920 (upd y_wv y_24.toNatClampNeg y_27), kx_a g_wasNumber cyI 1920 (upd y_wn y_29.toNatClampNeg y_32), kx_5 h0 g_row m_n m_slots m_thrown g_many g_loss g_less g_voteValue g_voteNumber g_allValue g_allNumber o_3 g_nodeL g_nodeR o_2 g_part m_partMany g_wasMany g_wasLoss g_wasValue g_wasNumber g_path m_pathMany g_heavyValue g_heavyTimes m_heavyMany g_fewest g_which g_met m_mostMet, kx_a g_row cyI 160 f, kx_a g_many cyI 324 o_4, kx_a g_loss cyI 324 o_5, kx_a g_less cyI 324 o_6, kx_a g_voteValue cyI 1944 o_7, kx_a g_voteNumber cyI 1944 o_8, kx_a g_allValue cyI 12 o_9, kx_a g_allNumber cyI 12 o_10, kx_a g_nodeL cyI 320 o_11, kx_a g_nodeR cyI 320 o_12] H := hP
              have hD : va_D A [kx_a g_wasMany cyI 320 (upd x_wm i.toNatClampNeg y_14), kx_a g_wasLoss cyI 320 (upd x_wl i.toNatClampNeg y_17), kx_a g_wasValue cyI 1920 (upd y_wv y_24.toNatClampNeg y_27), kx_a g_wasNumber cyI 1920 (upd y_wn y_29.toNatClampNeg y_32), kx_5 h0 g_row m_n m_slots m_thrown g_many g_loss g_less g_voteValue g_voteNumber g_allValue g_allNumber o_3 g_nodeL g_nodeR o_2 g_part m_partMany g_wasMany g_wasLoss g_wasValue g_wasNumber g_path m_pathMany g_heavyValue g_heavyTimes m_heavyMany g_fewest g_which g_met m_mostMet, kx_a g_row cyI 160 f, kx_a g_many cyI 324 o_4, kx_a g_loss cyI 324 o_5, kx_a g_less cyI 324 o_6, kx_a g_voteValue cyI 1944 o_7, kx_a g_voteNumber cyI 1944 o_8, kx_a g_allValue cyI 12 o_9, kx_a g_allNumber cyI 12 o_10, kx_a g_nodeL cyI 320 o_11, kx_a g_nodeR cyI 320 o_12] := hD
              obtain ⟨x_33, ex_33⟩ : ∃ y : Int32, y = j + 1 := ⟨_, rfl⟩
              have i_33 : x_33.toInt = j.toInt + 1 := ki_add ex_33 rfl rfl (om_10 LP2_h0) (by omega)
              refine lv_iinc (v := x_33) (lv' := [(2, .int x_33), (1, .int i), (0, .ref h0)]) hx hb dX5_keeps_98 hl (k := 0) rfl (by rw [ex_33]; rfl) (by decide) rfl (fun ls hl => ?_)
              refine lv_goto (tgt := 44) hx hb dX5_keeps_101 (by decide) ?_
              exact ih2 x_33 (upd y_wv y_24.toNatClampNeg y_27) (upd y_wn y_29.toNatClampNeg y_32) (om_31 LP2_h0 i_33) (by omega) _ _ hP hD hS ls (lv_sub hl [0, 1, 2] rfl)
        have k_34 : (0 : Int32).toInt = 0 := rfl
        exact LP2 ((6 - 0 : Int).toNat + 1) 0 x_wv x_wn om_32 (Nat.lt_succ_self _) _ _ hP hD hS ls (lv_sub hl [0, 1, 2] rfl)
  have k_35 : (0 : Int32).toInt = 0 := rfl
  exact LP1 ((o_2.toInt - 0 : Int).toNat + 1) 0 wm wl wv wn om_32 (Nat.lt_succ_self _) _ _ hP hD hS ls (lv_sub hl [0, 1] rfl)

set_option maxHeartbeats 4000000 in
set_option maxRecDepth 100000 in
theorem c_X5_others (l : Launch) (dC : Nat → ClassId) (dI : Nat → Nat → Nat) (h0 : Nat) (g_row : Nat) (g_many : Nat) (g_loss : Nat) (g_less : Nat) (g_voteValue : Nat) (g_voteNumber : Nat) (g_allValue : Nat) (g_allNumber : Nat) (g_nodeL : Nat) (g_nodeR : Nat) (g_part : Nat) (g_wasMany : Nat) (g_wasLoss : Nat) (g_wasValue : Nat) (g_wasNumber : Nat) (g_path : Nat) (g_heavyValue : Nat) (g_heavyTimes : Nat) (g_fewest : Nat) (g_which : Nat) (g_met : Nat) (m_n : Int32) (m_slots : Int32) (m_thrown : Int32) (m_allMany : Int32) (m_nodes : Int32) (m_partMany : Int32) (m_pathMany : Int32) (m_heavyMany : Int32) (m_mostMet : Int32) (cyI : ClassId) (fm : Nat → Int32) (fl : Nat → Int32) (fe : Nat → Int32) (vv : Nat → Int32) (vn : Nat → Int32) (f : Nat → Int32) (av : Nat → Int32) (an : Nat → Int32) (nl : Nat → Int32) (nr : Nat → Int32) (wm : Nat → Int32) (wl : Nat → Int32) (wv : Nat → Int32) (wn : Nat → Int32) (sz : Nat) (a0 : 0 ≤ m_n.toInt) (a1 : m_n.toInt ≤ 160) (sl0 : 1 ≤ m_slots.toInt) (sl1 : m_slots.toInt ≤ 6) (s4 : six4 fm) : Met l yX5_others wsX5_others ({ frames := 12, cells := 0, slots := 0, locals := 540 }) (va_Pc [.ref h0] (fun U => U.heap.size = sz ∧ va_P (dC, dI) vwCl [kx_5 h0 g_row m_n m_slots m_thrown g_many g_loss g_less g_voteValue g_voteNumber g_allValue g_allNumber m_allMany g_nodeL g_nodeR m_nodes g_part m_partMany g_wasMany g_wasLoss g_wasValue g_wasNumber g_path m_pathMany g_heavyValue g_heavyTimes m_heavyMany g_fewest g_which g_met m_mostMet, kx_a g_row cyI 160 f, kx_a g_many cyI 324 fm, kx_a g_loss cyI 324 fl, kx_a g_less cyI 324 fe, kx_a g_voteValue cyI 1944 vv, kx_a g_voteNumber cyI 1944 vn, kx_a g_allValue cyI 12 av, kx_a g_allNumber cyI 12 an, kx_a g_nodeL cyI 320 nl, kx_a g_nodeR cyI 320 nr, kx_a g_wasMany cyI 320 wm, kx_a g_wasLoss cyI 320 wl, kx_a g_wasValue cyI 1920 wv, kx_a g_wasNumber cyI 1920 wn] U.heap ∧ va_K (dC, dI) vwCl [(cyI, .int)] U ∧ va_D (fun _ => True) [kx_5 h0 g_row m_n m_slots m_thrown g_many g_loss g_less g_voteValue g_voteNumber g_allValue g_allNumber m_allMany g_nodeL g_nodeR m_nodes g_part m_partMany g_wasMany g_wasLoss g_wasValue g_wasNumber g_path m_pathMany g_heavyValue g_heavyTimes m_heavyMany g_fewest g_which g_met m_mostMet, kx_a g_row cyI 160 f, kx_a g_many cyI 324 fm, kx_a g_loss cyI 324 fl, kx_a g_less cyI 324 fe, kx_a g_voteValue cyI 1944 vv, kx_a g_voteNumber cyI 1944 vn, kx_a g_allValue cyI 12 av, kx_a g_allNumber cyI 12 an, kx_a g_nodeL cyI 320 nl, kx_a g_nodeR cyI 320 nr, kx_a g_wasMany cyI 320 wm, kx_a g_wasLoss cyI 320 wl, kx_a g_wasValue cyI 1920 wv, kx_a g_wasNumber cyI 1920 wn])) (va_Qi (fun (r : Int32) (u : Int32 × Int32 × (Nat → Int32) × (Nat → Int32) × (Nat → Int32) × (Nat → Int32) × (Nat → Int32) × (Nat → Int32) × (Nat → Int32) × (Nat → Int32) × (Nat → Int32)) => six4 u.2.2.1) (fun (u : Int32 × Int32 × (Nat → Int32) × (Nat → Int32) × (Nat → Int32) × (Nat → Int32) × (Nat → Int32) × (Nat → Int32) × (Nat → Int32) × (Nat → Int32) × (Nat → Int32)) (t : State) => va_P (dC, dI) vwCl [kx_5 h0 g_row m_n m_slots m_thrown g_many g_loss g_less g_voteValue g_voteNumber g_allValue g_allNumber u.2.1 g_nodeL g_nodeR u.1 g_part m_partMany g_wasMany g_wasLoss g_wasValue g_wasNumber g_path m_pathMany g_heavyValue g_heavyTimes m_heavyMany g_fewest g_which g_met m_mostMet, kx_a g_row cyI 160 f, kx_a g_many cyI 324 u.2.2.1, kx_a g_loss cyI 324 u.2.2.2.1, kx_a g_less cyI 324 u.2.2.2.2.1, kx_a g_voteValue cyI 1944 u.2.2.2.2.2.1, kx_a g_voteNumber cyI 1944 u.2.2.2.2.2.2.1, kx_a g_allValue cyI 12 u.2.2.2.2.2.2.2.1, kx_a g_allNumber cyI 12 u.2.2.2.2.2.2.2.2.1, kx_a g_nodeL cyI 320 u.2.2.2.2.2.2.2.2.2.1, kx_a g_nodeR cyI 320 u.2.2.2.2.2.2.2.2.2.2, kx_a g_wasMany cyI 320 wm, kx_a g_wasLoss cyI 320 wl, kx_a g_wasValue cyI 1920 wv, kx_a g_wasNumber cyI 1920 wn] t.heap ∧ va_K (dC, dI) vwCl [(cyI, .int)] t ∧ va_D (va_A [kx_5 h0 g_row m_n m_slots m_thrown g_many g_loss g_less g_voteValue g_voteNumber g_allValue g_allNumber m_allMany g_nodeL g_nodeR m_nodes g_part m_partMany g_wasMany g_wasLoss g_wasValue g_wasNumber g_path m_pathMany g_heavyValue g_heavyTimes m_heavyMany g_fewest g_which g_met m_mostMet, kx_a g_row cyI 160 f, kx_a g_many cyI 324 fm, kx_a g_loss cyI 324 fl, kx_a g_less cyI 324 fe, kx_a g_voteValue cyI 1944 vv, kx_a g_voteNumber cyI 1944 vn, kx_a g_allValue cyI 12 av, kx_a g_allNumber cyI 12 an, kx_a g_nodeL cyI 320 nl, kx_a g_nodeR cyI 320 nr, kx_a g_wasMany cyI 320 wm, kx_a g_wasLoss cyI 320 wl, kx_a g_wasValue cyI 1920 wv, kx_a g_wasNumber cyI 1920 wn] sz) [kx_5 h0 g_row m_n m_slots m_thrown g_many g_loss g_less g_voteValue g_voteNumber g_allValue g_allNumber u.2.1 g_nodeL g_nodeR u.1 g_part m_partMany g_wasMany g_wasLoss g_wasValue g_wasNumber g_path m_pathMany g_heavyValue g_heavyTimes m_heavyMany g_fewest g_which g_met m_mostMet, kx_a g_row cyI 160 f, kx_a g_many cyI 324 u.2.2.1, kx_a g_loss cyI 324 u.2.2.2.1, kx_a g_less cyI 324 u.2.2.2.2.1, kx_a g_voteValue cyI 1944 u.2.2.2.2.2.1, kx_a g_voteNumber cyI 1944 u.2.2.2.2.2.2.1, kx_a g_allValue cyI 12 u.2.2.2.2.2.2.2.1, kx_a g_allNumber cyI 12 u.2.2.2.2.2.2.2.2.1, kx_a g_nodeL cyI 320 u.2.2.2.2.2.2.2.2.2.1, kx_a g_nodeR cyI 320 u.2.2.2.2.2.2.2.2.2.2, kx_a g_wasMany cyI 320 wm, kx_a g_wasLoss cyI 320 wl, kx_a g_wasValue cyI 1920 wv, kx_a g_wasNumber cyI 1920 wn]) (va_A [kx_5 h0 g_row m_n m_slots m_thrown g_many g_loss g_less g_voteValue g_voteNumber g_allValue g_allNumber m_allMany g_nodeL g_nodeR m_nodes g_part m_partMany g_wasMany g_wasLoss g_wasValue g_wasNumber g_path m_pathMany g_heavyValue g_heavyTimes m_heavyMany g_fewest g_which g_met m_mostMet, kx_a g_row cyI 160 f, kx_a g_many cyI 324 fm, kx_a g_loss cyI 324 fl, kx_a g_less cyI 324 fe, kx_a g_voteValue cyI 1944 vv, kx_a g_voteNumber cyI 1944 vn, kx_a g_allValue cyI 12 av, kx_a g_allNumber cyI 12 an, kx_a g_nodeL cyI 320 nl, kx_a g_nodeR cyI 320 nr, kx_a g_wasMany cyI 320 wm, kx_a g_wasLoss cyI 320 wl, kx_a g_wasValue cyI 1920 wv, kx_a g_wasNumber cyI 1920 wn] sz)) 0 0 (va_A [kx_5 h0 g_row m_n m_slots m_thrown g_many g_loss g_less g_voteValue g_voteNumber g_allValue g_allNumber m_allMany g_nodeL g_nodeR m_nodes g_part m_partMany g_wasMany g_wasLoss g_wasValue g_wasNumber g_path m_pathMany g_heavyValue g_heavyTimes m_heavyMany g_fewest g_which g_met m_mostMet, kx_a g_row cyI 160 f, kx_a g_many cyI 324 fm, kx_a g_loss cyI 324 fl, kx_a g_less cyI 324 fe, kx_a g_voteValue cyI 1944 vv, kx_a g_voteNumber cyI 1944 vn, kx_a g_allValue cyI 12 av, kx_a g_allNumber cyI 12 an, kx_a g_nodeL cyI 320 nl, kx_a g_nodeR cyI 320 nr, kx_a g_wasMany cyI 320 wm, kx_a g_wasLoss cyI 320 wl, kx_a g_wasValue cyI 1920 wv, kx_a g_wasNumber cyI 1920 wn] sz) := by
  refine Met.ofW (cc := cX5_others) (maxL := 5) (ret := (some .int)) (by decide) rfl ?_
  intro p e s m args below meth c s₁ B hml hv
  obtain ⟨rfl, hsz, hP, hK, hD0⟩ := hv
  have hx := B.exec
  have hb := B.bytes
  have hr := B.returns
  have hts := atoms_spec (ws := wsX5_others) B.pre
  have hown : s.vm.findClass RX5 = some m.cls := findClass_of_methodNamed B.named
  have hlocks := B.notSynchronized
  subst hsz
  have hD := hD0.self (sz := s.heap.size)
  generalize hAe : va_A [kx_5 h0 g_row m_n m_slots m_thrown g_many g_loss g_less g_voteValue g_voteNumber g_allValue g_allNumber m_allMany g_nodeL g_nodeR m_nodes g_part m_partMany g_wasMany g_wasLoss g_wasValue g_wasNumber g_path m_pathMany g_heavyValue g_heavyTimes m_heavyMany g_fewest g_which g_met m_mostMet, kx_a g_row cyI 160 f, kx_a g_many cyI 324 fm, kx_a g_loss cyI 324 fl, kx_a g_less cyI 324 fe, kx_a g_voteValue cyI 1944 vv, kx_a g_voteNumber cyI 1944 vn, kx_a g_allValue cyI 12 av, kx_a g_allNumber cyI 12 an, kx_a g_nodeL cyI 320 nl, kx_a g_nodeR cyI 320 nr, kx_a g_wasMany cyI 320 wm, kx_a g_wasLoss cyI 320 wl, kx_a g_wasValue cyI 1920 wv, kx_a g_wasNumber cyI 1920 wn] s.heap.size = A at hD ⊢
  have hA : ∀ q : Nat, s.heap.size ≤ q → A q := fun q h => by rw [← hAe]; exact Or.inr h
  have hS : va_S A s.heap s.heap [] := va_S.rf
  have hP : va_P (dC, dI) vwCl [kx_5 h0 g_row m_n m_slots m_thrown g_many g_loss g_less g_voteValue g_voteNumber g_allValue g_allNumber m_allMany g_nodeL g_nodeR m_nodes g_part m_partMany g_wasMany g_wasLoss g_wasValue g_wasNumber g_path m_pathMany g_heavyValue g_heavyTimes m_heavyMany g_fewest g_which g_met m_mostMet, kx_a g_row cyI 160 f, kx_a g_many cyI 324 fm, kx_a g_loss cyI 324 fl, kx_a g_less cyI 324 fe, kx_a g_voteValue cyI 1944 vv, kx_a g_voteNumber cyI 1944 vn, kx_a g_allValue cyI 12 av, kx_a g_allNumber cyI 12 an, kx_a g_nodeL cyI 320 nl, kx_a g_nodeR cyI 320 nr, kx_a g_wasMany cyI 320 wm, kx_a g_wasLoss cyI 320 wl, kx_a g_wasValue cyI 1920 wv, kx_a g_wasNumber cyI 1920 wn] s.heap := hP
  have hl := lv_entry ([.ref h0]) (n := 5) (Nat.le_of_ble_eq_true rfl)
  rw [lg_entry_eq]
  generalize (lg_sl ([.ref h0]) ++ List.replicate (5 - (lg_sl ([.ref h0])).length) Slot.unset).toArray = ls at hl ⊢
  have hl : lv_has ls 5 [(0, .ref h0)] := hl
  have hf_13 := hts (.fieldLink RX5 13 "MajorityIndexModel" "slots" "I") (List.mem_of_getElem? (i := 1) rfl)
  have hi_5 : ∀ w ∈ u_ws RX5 TX5 30, w ∈ wsX5_others := fun w h => List.mem_cons_of_mem _ (List.mem_append_right _ h)
  have hf_101 := hts (.fieldLink RX5 101 "MajorityIndexModel" "nodes" "I") (List.mem_of_getElem? (i := 2) rfl)
  have hf_17 := hts (.fieldLink RX5 17 "MajorityIndexModel" "many" "[I") (List.mem_of_getElem? (i := 3) rfl)
  have hf_47 := hts (.fieldLink RX5 47 "MajorityIndexModel" "wasMany" "[I") (List.mem_of_getElem? (i := 4) rfl)
  have hf_26 := hts (.fieldLink RX5 26 "MajorityIndexModel" "voteValue" "[I") (List.mem_of_getElem? (i := 7) rfl)
  have hf_53 := hts (.fieldLink RX5 53 "MajorityIndexModel" "wasValue" "[I") (List.mem_of_getElem? (i := 8) rfl)
  have hf_29 := hts (.fieldLink RX5 29 "MajorityIndexModel" "voteNumber" "[I") (List.mem_of_getElem? (i := 9) rfl)
  have hf_56 := hts (.fieldLink RX5 56 "MajorityIndexModel" "wasNumber" "[I") (List.mem_of_getElem? (i := 10) rfl)
  have hf_20 := hts (.fieldLink RX5 20 "MajorityIndexModel" "loss" "[I") (List.mem_of_getElem? (i := 5) rfl)
  have hf_50 := hts (.fieldLink RX5 50 "MajorityIndexModel" "wasLoss" "[I") (List.mem_of_getElem? (i := 6) rfl)
  refine lv_aload_n hx hb dX5_others_0 rfl (lv_at hl 0 rfl) ?_
  refine lv_aload_n hx hb dX5_others_1 rfl (lv_at hl 0 rfl) ?_
  refine va_get (D := (dC, dI)) (ci := 5) (v := .int m_slots) (C := RX5) (T := TX5) (N := 30) hx hb hts hi_5 hown hK hP 0 rfl rfl 2 (by decide) hf_13 (fun _ h9 => h9) rfl dX5_others_2 ?_
  have hPc := hP.sub (ws' := [kx_5 h0 g_row m_n m_slots m_thrown g_many g_loss g_less g_voteValue g_voteNumber g_allValue g_allNumber m_allMany g_nodeL g_nodeR m_nodes g_part m_partMany g_wasMany g_wasLoss g_wasValue g_wasNumber g_path m_pathMany g_heavyValue g_heavyTimes m_heavyMany g_fewest g_which g_met m_mostMet, kx_a g_row cyI 160 f, kx_a g_many cyI 324 fm, kx_a g_loss cyI 324 fl, kx_a g_less cyI 324 fe, kx_a g_voteValue cyI 1944 vv, kx_a g_voteNumber cyI 1944 vn, kx_a g_allValue cyI 12 av, kx_a g_allNumber cyI 12 an, kx_a g_nodeL cyI 320 nl, kx_a g_nodeR cyI 320 nr]) [0, 1, 2, 3, 4, 5, 6, 7, 8, 9, 10] rfl
  have hKc := hK
  have hDc := hD.sub (ws' := [kx_5 h0 g_row m_n m_slots m_thrown g_many g_loss g_less g_voteValue g_voteNumber g_allValue g_allNumber m_allMany g_nodeL g_nodeR m_nodes g_part m_partMany g_wasMany g_wasLoss g_wasValue g_wasNumber g_path m_pathMany g_heavyValue g_heavyTimes m_heavyMany g_fewest g_which g_met m_mostMet, kx_a g_row cyI 160 f, kx_a g_many cyI 324 fm, kx_a g_loss cyI 324 fl, kx_a g_less cyI 324 fe, kx_a g_voteValue cyI 1944 vv, kx_a g_voteNumber cyI 1944 vn, kx_a g_allValue cyI 12 av, kx_a g_allNumber cyI 12 an, kx_a g_nodeL cyI 320 nl, kx_a g_nodeR cyI 320 nr]) [0, 1, 2, 3, 4, 5, 6, 7, 8, 9, 10] (by decide) rfl
  have hFc := va_free (wc := [kx_5 h0 g_row m_n m_slots m_thrown g_many g_loss g_less g_voteValue g_voteNumber g_allValue g_allNumber m_allMany g_nodeL g_nodeR m_nodes g_part m_partMany g_wasMany g_wasLoss g_wasValue g_wasNumber g_path m_pathMany g_heavyValue g_heavyTimes m_heavyMany g_fewest g_which g_met m_mostMet, kx_a g_row cyI 160 f, kx_a g_many cyI 324 fm, kx_a g_loss cyI 324 fl, kx_a g_less cyI 324 fe, kx_a g_voteValue cyI 1944 vv, kx_a g_voteNumber cyI 1944 vn, kx_a g_allValue cyI 12 av, kx_a g_allNumber cyI 12 an, kx_a g_nodeL cyI 320 nl, kx_a g_nodeR cyI 320 nr]) hD hS hA [0, 1, 2, 3, 4, 5, 6, 7, 8, 9, 10] rfl
  refine va_callv (va_runV (As := [.int m_slots]) (rest := []) ⟨hx, hb, hml, hown, hts⟩ (c_X5_laysAll l dC dI h0 g_row g_many g_loss g_less g_voteValue g_voteNumber g_allValue g_allNumber g_nodeL g_nodeR g_part g_wasMany g_wasLoss g_wasValue g_wasNumber g_path g_heavyValue g_heavyTimes g_fewest g_which g_met m_n m_slots m_thrown m_allMany m_nodes m_partMany m_pathMany m_heavyMany m_mostMet cyI fm fl fe vv vn f av an nl nr m_slots s.heap.size a0 a1 sl0 sl1 s4) (cwV 1 hts gX5_others_X5_laysAll rfl rfl rfl (by decide +kernel) ⟨Nat.le_of_ble_eq_true rfl, Nat.le_of_ble_eq_true rfl⟩) ⟨fun a U g mk q => by obtain ⟨q0, q1, qP, qK, qD⟩ := q; exact ⟨q0, q1, qP, va_K.moved (u := U) (U := U.calling g mk a) (Vm.Alike.refl U.vm) qK, qD⟩, va_recv hKc hPc (ci := 5) (q0 := 0) rfl rfl, fun U hU hW => ⟨rfl, by rw [hU], by rw [hU]; exact hPc, va_K.moved hW.alike hKc, hDc.weaken (fun _ _ _ _ => trivial)⟩⟩ rfl rfl hl.1 rfl (lv_room (Nat.le_of_ble_eq_true rfl)) dX5_others_5 ⟨Nat.le_of_ble_eq_true rfl, Nat.le_of_ble_eq_true rfl⟩) hS (fun q _ h => hFc q h) hFc (fun u t H1 locs ht hvm w_1 hB hz1 hk1 hS => ?_)
  obtain ⟨o_2, o_3, o_4, o_5, o_6, o_7, o_8, o_9, o_10, o_11, o_12⟩ := u
  dsimp only at w_1 hB
  obtain ⟨hP1, hK1, hD1⟩ := hB
  rw [ht] at hP1
  have hK1 := va_K.moved hvm.symm hK1
  obtain ⟨hP, hD⟩ := va_join (wr := [kx_a g_wasMany cyI 320 wm, kx_a g_wasLoss cyI 320 wl, kx_a g_wasValue cyI 1920 wv, kx_a g_wasNumber cyI 1920 wn]) (w1 := [kx_5 h0 g_row m_n m_slots m_thrown g_many g_loss g_less g_voteValue g_voteNumber g_allValue g_allNumber o_3 g_nodeL g_nodeR o_2 g_part m_partMany g_wasMany g_wasLoss g_wasValue g_wasNumber g_path m_pathMany g_heavyValue g_heavyTimes m_heavyMany g_fewest g_which g_met m_mostMet, kx_a g_row cyI 160 f, kx_a g_many cyI 324 o_4, kx_a g_loss cyI 324 o_5, kx_a g_less cyI 324 o_6, kx_a g_voteValue cyI 1944 o_7, kx_a g_voteNumber cyI 1944 o_8, kx_a g_allValue cyI 12 o_9, kx_a g_allNumber cyI 12 o_10, kx_a g_nodeL cyI 320 o_11, kx_a g_nodeR cyI 320 o_12]) hP hD [0, 1, 2, 3, 4, 5, 6, 7, 8, 9, 10] [11, 12, 13, 14] rfl rfl (by decide) (by decide) hk1 hFc hP1 hD1
  clear hP1 hD1 hK1 hk1 hz1 hFc hDc hPc hKc
  generalize H1 = H at hP hS ⊢
  have hP : va_P (dC, dI) vwCl [kx_a g_wasMany cyI 320 wm, kx_a g_wasLoss cyI 320 wl, kx_a g_wasValue cyI 1920 wv, kx_a g_wasNumber cyI 1920 wn, kx_5 h0 g_row m_n m_slots m_thrown g_many g_loss g_less g_voteValue g_voteNumber g_allValue g_allNumber o_3 g_nodeL g_nodeR o_2 g_part m_partMany g_wasMany g_wasLoss g_wasValue g_wasNumber g_path m_pathMany g_heavyValue g_heavyTimes m_heavyMany g_fewest g_which g_met m_mostMet, kx_a g_row cyI 160 f, kx_a g_many cyI 324 o_4, kx_a g_loss cyI 324 o_5, kx_a g_less cyI 324 o_6, kx_a g_voteValue cyI 1944 o_7, kx_a g_voteNumber cyI 1944 o_8, kx_a g_allValue cyI 12 o_9, kx_a g_allNumber cyI 12 o_10, kx_a g_nodeL cyI 320 o_11, kx_a g_nodeR cyI 320 o_12] H := hP
  have hD : va_D A [kx_a g_wasMany cyI 320 wm, kx_a g_wasLoss cyI 320 wl, kx_a g_wasValue cyI 1920 wv, kx_a g_wasNumber cyI 1920 wn, kx_5 h0 g_row m_n m_slots m_thrown g_many g_loss g_less g_voteValue g_voteNumber g_allValue g_allNumber o_3 g_nodeL g_nodeR o_2 g_part m_partMany g_wasMany g_wasLoss g_wasValue g_wasNumber g_path m_pathMany g_heavyValue g_heavyTimes m_heavyMany g_fewest g_which g_met m_mostMet, kx_a g_row cyI 160 f, kx_a g_many cyI 324 o_4, kx_a g_loss cyI 324 o_5, kx_a g_less cyI 324 o_6, kx_a g_voteValue cyI 1944 o_7, kx_a g_voteNumber cyI 1944 o_8, kx_a g_allValue cyI 12 o_9, kx_a g_allNumber cyI 12 o_10, kx_a g_nodeL cyI 320 o_11, kx_a g_nodeR cyI 320 o_12] := hD
  have w_1 : mj_L m_slots.toNatClampNeg f o_11 o_12 o_4 o_5 o_6 o_7 o_8 m_n.toInt o_2.toInt ∧ six4 o_4 ∧ 0 ≤ o_2.toInt ∧ o_2.toInt ≤ 319 := w_1
  refine lv_iconst (v := 0) hx hb dX5_others_8 (by decide) ?_
  refine lv_istore_n (lv' := [(1, .int 0), (0, .ref h0)]) hx hb dX5_others_9 rfl hl (by decide) rfl (fun ls hl => ?_)
  refine lv_iconst (v := 0) hx hb dX5_others_10 (by decide) ?_
  refine lv_istore_n (lv' := [(2, .int 0), (1, .int 0), (0, .ref h0)]) hx hb dX5_others_11 rfl hl (by decide) rfl (fun ls hl => ?_)
  have LP1 : ∀ (n : Nat) (i : Int32) (sm : Int32), (0 ≤ i.toInt) → (o_2.toInt - i.toInt).toNat < n → ∀ (H : Heap) (locs : List Loc), va_P (dC, dI) vwCl [kx_a g_wasMany cyI 320 wm, kx_a g_wasLoss cyI 320 wl, kx_a g_wasValue cyI 1920 wv, kx_a g_wasNumber cyI 1920 wn, kx_5 h0 g_row m_n m_slots m_thrown g_many g_loss g_less g_voteValue g_voteNumber g_allValue g_allNumber o_3 g_nodeL g_nodeR o_2 g_part m_partMany g_wasMany g_wasLoss g_wasValue g_wasNumber g_path m_pathMany g_heavyValue g_heavyTimes m_heavyMany g_fewest g_which g_met m_mostMet, kx_a g_row cyI 160 f, kx_a g_many cyI 324 o_4, kx_a g_loss cyI 324 o_5, kx_a g_less cyI 324 o_6, kx_a g_voteValue cyI 1944 o_7, kx_a g_voteNumber cyI 1944 o_8, kx_a g_allValue cyI 12 o_9, kx_a g_allNumber cyI 12 o_10, kx_a g_nodeL cyI 320 o_11, kx_a g_nodeR cyI 320 o_12] H → va_D A [kx_a g_wasMany cyI 320 wm, kx_a g_wasLoss cyI 320 wl, kx_a g_wasValue cyI 1920 wv, kx_a g_wasNumber cyI 1920 wn, kx_5 h0 g_row m_n m_slots m_thrown g_many g_loss g_less g_voteValue g_voteNumber g_allValue g_allNumber o_3 g_nodeL g_nodeR o_2 g_part m_partMany g_wasMany g_wasLoss g_wasValue g_wasNumber g_path m_pathMany g_heavyValue g_heavyTimes m_heavyMany g_fewest g_which g_met m_mostMet, kx_a g_row cyI 160 f, kx_a g_many cyI 324 o_4, kx_a g_loss cyI 324 o_5, kx_a g_less cyI 324 o_6, kx_a g_voteValue cyI 1944 o_7, kx_a g_voteNumber cyI 1944 o_8, kx_a g_allValue cyI 12 o_9, kx_a g_allNumber cyI 12 o_10, kx_a g_nodeL cyI 320 o_11, kx_a g_nodeR cyI 320 o_12] → va_S A s.heap H locs → ∀ (ls : Array Slot), lv_has ls 5 [(2, .int i), (1, .int sm), (0, .ref h0)] → W p l e (headSpec wsX5_others ({ frames := 12, cells := 0, slots := 0, locals := 540 })).room s m ([.ref h0] : List Value).toArray below meth c H locs 0 0 (MQ below (va_Qi (fun (r : Int32) (u : Int32 × Int32 × (Nat → Int32) × (Nat → Int32) × (Nat → Int32) × (Nat → Int32) × (Nat → Int32) × (Nat → Int32) × (Nat → Int32) × (Nat → Int32) × (Nat → Int32)) => six4 u.2.2.1) (fun (u : Int32 × Int32 × (Nat → Int32) × (Nat → Int32) × (Nat → Int32) × (Nat → Int32) × (Nat → Int32) × (Nat → Int32) × (Nat → Int32) × (Nat → Int32) × (Nat → Int32)) (t : State) => va_P (dC, dI) vwCl [kx_5 h0 g_row m_n m_slots m_thrown g_many g_loss g_less g_voteValue g_voteNumber g_allValue g_allNumber u.2.1 g_nodeL g_nodeR u.1 g_part m_partMany g_wasMany g_wasLoss g_wasValue g_wasNumber g_path m_pathMany g_heavyValue g_heavyTimes m_heavyMany g_fewest g_which g_met m_mostMet, kx_a g_row cyI 160 f, kx_a g_many cyI 324 u.2.2.1, kx_a g_loss cyI 324 u.2.2.2.1, kx_a g_less cyI 324 u.2.2.2.2.1, kx_a g_voteValue cyI 1944 u.2.2.2.2.2.1, kx_a g_voteNumber cyI 1944 u.2.2.2.2.2.2.1, kx_a g_allValue cyI 12 u.2.2.2.2.2.2.2.1, kx_a g_allNumber cyI 12 u.2.2.2.2.2.2.2.2.1, kx_a g_nodeL cyI 320 u.2.2.2.2.2.2.2.2.2.1, kx_a g_nodeR cyI 320 u.2.2.2.2.2.2.2.2.2.2, kx_a g_wasMany cyI 320 wm, kx_a g_wasLoss cyI 320 wl, kx_a g_wasValue cyI 1920 wv, kx_a g_wasNumber cyI 1920 wn] t.heap ∧ va_K (dC, dI) vwCl [(cyI, .int)] t ∧ va_D A [kx_5 h0 g_row m_n m_slots m_thrown g_many g_loss g_less g_voteValue g_voteNumber g_allValue g_allNumber u.2.1 g_nodeL g_nodeR u.1 g_part m_partMany g_wasMany g_wasLoss g_wasValue g_wasNumber g_path m_pathMany g_heavyValue g_heavyTimes m_heavyMany g_fewest g_which g_met m_mostMet, kx_a g_row cyI 160 f, kx_a g_many cyI 324 u.2.2.1, kx_a g_loss cyI 324 u.2.2.2.1, kx_a g_less cyI 324 u.2.2.2.2.1, kx_a g_voteValue cyI 1944 u.2.2.2.2.2.1, kx_a g_voteNumber cyI 1944 u.2.2.2.2.2.2.1, kx_a g_allValue cyI 12 u.2.2.2.2.2.2.2.1, kx_a g_allNumber cyI 12 u.2.2.2.2.2.2.2.2.1, kx_a g_nodeL cyI 320 u.2.2.2.2.2.2.2.2.2.1, kx_a g_nodeR cyI 320 u.2.2.2.2.2.2.2.2.2.2, kx_a g_wasMany cyI 320 wm, kx_a g_wasLoss cyI 320 wl, kx_a g_wasValue cyI 1920 wv, kx_a g_wasNumber cyI 1920 wn]) A) ([.ref h0] : List Value).toArray s 0 0 A) (F0 m 12 ls []) := by
    intro n
    induction n with
    | zero => intro i sm LP1_h0 hn; exact absurd hn (Nat.not_lt_zero _)
    | succ n ih1 =>
      intro i sm LP1_h0 hn1 H locs hP hD hS ls hl
      refine lv_iload_n hx hb dX5_others_12 rfl (lv_at hl 0 rfl) ?_
      refine lv_aload_n hx hb dX5_others_13 rfl (lv_at hl 2 rfl) ?_
      refine va_get (D := (dC, dI)) (ci := 5) (v := .int o_2) (C := RX5) (T := TX5) (N := 30) hx hb hts hi_5 hown hK hP 4 rfl rfl 14 (by decide) hf_101 (fun _ h9 => h9) rfl dX5_others_14 ?_
      refine lv_icmp_ge (tgt := 158) hx hb dX5_others_17 (by decide) (fun c_13 => ?_) (fun c_13 => ?_)
      · have i_13 : o_2.toInt ≤ i.toInt := kc_le c_13
        refine lv_iload_n hx hb dX5_others_158 rfl (lv_at hl 1 rfl) ?_
        have hP9 := hP.sub (ws' := [kx_5 h0 g_row m_n m_slots m_thrown g_many g_loss g_less g_voteValue g_voteNumber g_allValue g_allNumber o_3 g_nodeL g_nodeR o_2 g_part m_partMany g_wasMany g_wasLoss g_wasValue g_wasNumber g_path m_pathMany g_heavyValue g_heavyTimes m_heavyMany g_fewest g_which g_met m_mostMet, kx_a g_row cyI 160 f, kx_a g_many cyI 324 o_4, kx_a g_loss cyI 324 o_5, kx_a g_less cyI 324 o_6, kx_a g_voteValue cyI 1944 o_7, kx_a g_voteNumber cyI 1944 o_8, kx_a g_allValue cyI 12 o_9, kx_a g_allNumber cyI 12 o_10, kx_a g_nodeL cyI 320 o_11, kx_a g_nodeR cyI 320 o_12, kx_a g_wasMany cyI 320 wm, kx_a g_wasLoss cyI 320 wl, kx_a g_wasValue cyI 1920 wv, kx_a g_wasNumber cyI 1920 wn]) [4, 5, 6, 7, 8, 9, 10, 11, 12, 13, 14, 0, 1, 2, 3] rfl
        have hD9 := hD.sub (ws' := [kx_5 h0 g_row m_n m_slots m_thrown g_many g_loss g_less g_voteValue g_voteNumber g_allValue g_allNumber o_3 g_nodeL g_nodeR o_2 g_part m_partMany g_wasMany g_wasLoss g_wasValue g_wasNumber g_path m_pathMany g_heavyValue g_heavyTimes m_heavyMany g_fewest g_which g_met m_mostMet, kx_a g_row cyI 160 f, kx_a g_many cyI 324 o_4, kx_a g_loss cyI 324 o_5, kx_a g_less cyI 324 o_6, kx_a g_voteValue cyI 1944 o_7, kx_a g_voteNumber cyI 1944 o_8, kx_a g_allValue cyI 12 o_9, kx_a g_allNumber cyI 12 o_10, kx_a g_nodeL cyI 320 o_11, kx_a g_nodeR cyI 320 o_12, kx_a g_wasMany cyI 320 wm, kx_a g_wasLoss cyI 320 wl, kx_a g_wasValue cyI 1920 wv, kx_a g_wasNumber cyI 1920 wn]) [4, 5, 6, 7, 8, 9, 10, 11, 12, 13, 14, 0, 1, 2, 3] (by decide) rfl
        have hK9 := hK
        exact W.iret (v := sm) hx hb hr (fun t ht hW => ⟨⟨sm, (o_2, o_3, o_4, o_5, o_6, o_7, o_8, o_9, o_10, o_11, o_12), rfl, w_1.2.1, by rw [ht]; exact hP9, va_K.moved hW.alike hK9, hD9⟩, hS.F ht⟩) hS.2.2 dX5_others_159
      · have i_13 : i.toInt < o_2.toInt := kc_nle c_13
        refine lv_aload_n hx hb dX5_others_20 rfl (lv_at hl 2 rfl) ?_
        refine va_get (D := (dC, dI)) (ci := 5) (v := .ref g_many) (C := RX5) (T := TX5) (N := 30) hx hb hts hi_5 hown hK hP 4 rfl rfl 4 (by decide) hf_17 (fun _ h9 => h9) rfl dX5_others_21 ?_
        refine lv_iload_n hx hb dX5_others_24 rfl (lv_at hl 0 rfl) ?_
        refine va_iald hx hb hK hP 6 0 rfl rfl (ki_in (om_8 LP1_h0) (om_285 w_1.2.2.2 i_13)) dX5_others_25 ?_
        refine lv_topi (fun y_14 ey_14 => ?_)
        have j_14 : y_14.toInt = (o_4 i.toNatClampNeg).toInt := congrArg Int32.toInt ey_14
        have n_15 : (i.toNatClampNeg : Int) = i.toInt := ki_nat _ rfl (om_8 LP1_h0)
        have i_16 := w_1.2.1 i.toNatClampNeg (by omega)
        refine lv_aload_n hx hb dX5_others_26 rfl (lv_at hl 2 rfl) ?_
        refine va_get (D := (dC, dI)) (ci := 5) (v := .ref g_wasMany) (C := RX5) (T := TX5) (N := 30) hx hb hts hi_5 hown hK hP 4 rfl rfl 17 (by decide) hf_47 (fun _ h9 => h9) rfl dX5_others_27 ?_
        refine lv_iload_n hx hb dX5_others_30 rfl (lv_at hl 0 rfl) ?_
        refine va_iald hx hb hK hP 0 0 rfl rfl (ki_in (om_8 LP1_h0) (om_286 w_1.2.2.2 i_13)) dX5_others_31 ?_
        refine lv_topi (fun y_17 ey_17 => ?_)
        have j_17 : y_17.toInt = (wm i.toNatClampNeg).toInt := congrArg Int32.toInt ey_17
        refine lv_icmp_ne (tgt := 54) hx hb dX5_others_32 (by decide) (fun c_18 => ?_) (fun c_18 => ?_)
        · have i_18 : ¬ y_14.toInt = y_17.toInt := kc_ne c_18
          refine lv_iconst (v := 0) hx hb dX5_others_54 (by decide) ?_
          refine lv_istore_n (lv' := [(3, .int 0), (2, .int i), (1, .int sm), (0, .ref h0)]) hx hb dX5_others_55 rfl hl (by decide) rfl (fun ls hl => ?_)
          refine lv_iconst (v := 0) hx hb dX5_others_56 (by decide) ?_
          refine lv_istore (lv' := [(4, .int 0), (3, .int 0), (2, .int i), (1, .int sm), (0, .ref h0)]) hx hb dX5_others_57 hl (by decide) rfl (fun ls hl => ?_)
          have LP2 : ∀ (n : Nat) (j : Int32) (is : Int32), (0 ≤ j.toInt) → (6 - j.toInt).toNat < n → ∀ (H : Heap) (locs : List Loc), va_P (dC, dI) vwCl [kx_a g_wasMany cyI 320 wm, kx_a g_wasLoss cyI 320 wl, kx_a g_wasValue cyI 1920 wv, kx_a g_wasNumber cyI 1920 wn, kx_5 h0 g_row m_n m_slots m_thrown g_many g_loss g_less g_voteValue g_voteNumber g_allValue g_allNumber o_3 g_nodeL g_nodeR o_2 g_part m_partMany g_wasMany g_wasLoss g_wasValue g_wasNumber g_path m_pathMany g_heavyValue g_heavyTimes m_heavyMany g_fewest g_which g_met m_mostMet, kx_a g_row cyI 160 f, kx_a g_many cyI 324 o_4, kx_a g_loss cyI 324 o_5, kx_a g_less cyI 324 o_6, kx_a g_voteValue cyI 1944 o_7, kx_a g_voteNumber cyI 1944 o_8, kx_a g_allValue cyI 12 o_9, kx_a g_allNumber cyI 12 o_10, kx_a g_nodeL cyI 320 o_11, kx_a g_nodeR cyI 320 o_12] H → va_D A [kx_a g_wasMany cyI 320 wm, kx_a g_wasLoss cyI 320 wl, kx_a g_wasValue cyI 1920 wv, kx_a g_wasNumber cyI 1920 wn, kx_5 h0 g_row m_n m_slots m_thrown g_many g_loss g_less g_voteValue g_voteNumber g_allValue g_allNumber o_3 g_nodeL g_nodeR o_2 g_part m_partMany g_wasMany g_wasLoss g_wasValue g_wasNumber g_path m_pathMany g_heavyValue g_heavyTimes m_heavyMany g_fewest g_which g_met m_mostMet, kx_a g_row cyI 160 f, kx_a g_many cyI 324 o_4, kx_a g_loss cyI 324 o_5, kx_a g_less cyI 324 o_6, kx_a g_voteValue cyI 1944 o_7, kx_a g_voteNumber cyI 1944 o_8, kx_a g_allValue cyI 12 o_9, kx_a g_allNumber cyI 12 o_10, kx_a g_nodeL cyI 320 o_11, kx_a g_nodeR cyI 320 o_12] → va_S A s.heap H locs → ∀ (ls : Array Slot), lv_has ls 5 [(4, .int j), (3, .int is), (2, .int i), (1, .int sm), (0, .ref h0)] → W p l e (headSpec wsX5_others ({ frames := 12, cells := 0, slots := 0, locals := 540 })).room s m ([.ref h0] : List Value).toArray below meth c H locs 0 0 (MQ below (va_Qi (fun (r : Int32) (u : Int32 × Int32 × (Nat → Int32) × (Nat → Int32) × (Nat → Int32) × (Nat → Int32) × (Nat → Int32) × (Nat → Int32) × (Nat → Int32) × (Nat → Int32) × (Nat → Int32)) => six4 u.2.2.1) (fun (u : Int32 × Int32 × (Nat → Int32) × (Nat → Int32) × (Nat → Int32) × (Nat → Int32) × (Nat → Int32) × (Nat → Int32) × (Nat → Int32) × (Nat → Int32) × (Nat → Int32)) (t : State) => va_P (dC, dI) vwCl [kx_5 h0 g_row m_n m_slots m_thrown g_many g_loss g_less g_voteValue g_voteNumber g_allValue g_allNumber u.2.1 g_nodeL g_nodeR u.1 g_part m_partMany g_wasMany g_wasLoss g_wasValue g_wasNumber g_path m_pathMany g_heavyValue g_heavyTimes m_heavyMany g_fewest g_which g_met m_mostMet, kx_a g_row cyI 160 f, kx_a g_many cyI 324 u.2.2.1, kx_a g_loss cyI 324 u.2.2.2.1, kx_a g_less cyI 324 u.2.2.2.2.1, kx_a g_voteValue cyI 1944 u.2.2.2.2.2.1, kx_a g_voteNumber cyI 1944 u.2.2.2.2.2.2.1, kx_a g_allValue cyI 12 u.2.2.2.2.2.2.2.1, kx_a g_allNumber cyI 12 u.2.2.2.2.2.2.2.2.1, kx_a g_nodeL cyI 320 u.2.2.2.2.2.2.2.2.2.1, kx_a g_nodeR cyI 320 u.2.2.2.2.2.2.2.2.2.2, kx_a g_wasMany cyI 320 wm, kx_a g_wasLoss cyI 320 wl, kx_a g_wasValue cyI 1920 wv, kx_a g_wasNumber cyI 1920 wn] t.heap ∧ va_K (dC, dI) vwCl [(cyI, .int)] t ∧ va_D A [kx_5 h0 g_row m_n m_slots m_thrown g_many g_loss g_less g_voteValue g_voteNumber g_allValue g_allNumber u.2.1 g_nodeL g_nodeR u.1 g_part m_partMany g_wasMany g_wasLoss g_wasValue g_wasNumber g_path m_pathMany g_heavyValue g_heavyTimes m_heavyMany g_fewest g_which g_met m_mostMet, kx_a g_row cyI 160 f, kx_a g_many cyI 324 u.2.2.1, kx_a g_loss cyI 324 u.2.2.2.1, kx_a g_less cyI 324 u.2.2.2.2.1, kx_a g_voteValue cyI 1944 u.2.2.2.2.2.1, kx_a g_voteNumber cyI 1944 u.2.2.2.2.2.2.1, kx_a g_allValue cyI 12 u.2.2.2.2.2.2.2.1, kx_a g_allNumber cyI 12 u.2.2.2.2.2.2.2.2.1, kx_a g_nodeL cyI 320 u.2.2.2.2.2.2.2.2.2.1, kx_a g_nodeR cyI 320 u.2.2.2.2.2.2.2.2.2.2, kx_a g_wasMany cyI 320 wm, kx_a g_wasLoss cyI 320 wl, kx_a g_wasValue cyI 1920 wv, kx_a g_wasNumber cyI 1920 wn]) A) ([.ref h0] : List Value).toArray s 0 0 A) (F0 m 59 ls []) := by
            intro n
            induction n with
            | zero => intro j is LP2_h0 hn; exact absurd hn (Nat.not_lt_zero _)
            | succ n ih2 =>
              intro j is LP2_h0 hn2 H locs hP hD hS ls hl
              refine lv_iload hx hb dX5_others_59 (lv_at hl 0 rfl) ?_
              refine lv_aload_n hx hb dX5_others_61 rfl (lv_at hl 4 rfl) ?_
              refine va_get (D := (dC, dI)) (ci := 5) (v := .ref g_many) (C := RX5) (T := TX5) (N := 30) hx hb hts hi_5 hown hK hP 4 rfl rfl 4 (by decide) hf_17 (fun _ h9 => h9) rfl dX5_others_62 ?_
              refine lv_iload_n hx hb dX5_others_65 rfl (lv_at hl 2 rfl) ?_
              refine va_iald hx hb hK hP 6 0 rfl rfl (ki_in (om_8 LP1_h0) (om_285 w_1.2.2.2 i_13)) dX5_others_66 ?_
              refine lv_topi (fun y_19 ey_19 => ?_)
              have j_19 : y_19.toInt = (o_4 i.toNatClampNeg).toInt := congrArg Int32.toInt ey_19
              have n_20 : (i.toNatClampNeg : Int) = i.toInt := ki_nat _ rfl (om_8 LP1_h0)
              have i_21 := w_1.2.1 i.toNatClampNeg (by omega)
              refine lv_icmp_ge (tgt := 140) hx hb dX5_others_67 (by decide) (fun c_22 => ?_) (fun c_22 => ?_)
              · have i_22 : y_19.toInt ≤ j.toInt := kc_le c_22
                refine lv_iload_n hx hb dX5_others_140 rfl (lv_at hl 3 rfl) ?_
                refine lv_iload_n hx hb dX5_others_141 rfl (lv_at hl 1 rfl) ?_
                refine lv_if_eq (tgt := 149) hx hb dX5_others_142 (by decide) (fun c_23 => ?_) (fun c_23 => ?_)
                · have i_23 : is.toInt = 0 := kc_eq c_23
                  refine lv_iconst (v := 1) hx hb dX5_others_149 (by decide) ?_
                  refine lv_iadd hx hb dX5_others_150 ?_
                  refine lv_topi (fun y_24 ey_24 => ?_)
                  refine lv_istore_n (lv' := [(1, .int y_24), (4, .int j), (3, .int is), (2, .int i), (0, .ref h0)]) hx hb dX5_others_151 rfl hl (by decide) rfl (fun ls hl => ?_)
                  obtain ⟨x_25, ex_25⟩ : ∃ y : Int32, y = i + 1 := ⟨_, rfl⟩
                  have i_25 : x_25.toInt = i.toInt + 1 := ki_add ex_25 rfl rfl (om_10 LP1_h0) (om_102 w_1.2.2.2 i_13)
                  refine lv_iinc (v := x_25) (lv' := [(2, .int x_25), (1, .int y_24), (4, .int j), (3, .int is), (0, .ref h0)]) hx hb dX5_others_152 hl (k := 3) rfl (by rw [ex_25]; rfl) (by decide) rfl (fun ls hl => ?_)
                  refine lv_goto (tgt := 12) hx hb dX5_others_155 (by decide) ?_
                  exact ih1 x_25 y_24 (om_31 LP1_h0 i_25) (om_mu hn1 (om_5 i_25) (om_6 i_13)) _ _ hP hD hS ls (lv_sub hl [0, 1, 4] rfl)
                · have i_23 : ¬ is.toInt = 0 := kc_ne c_23
                  refine lv_iconst (v := 0) hx hb dX5_others_145 (by decide) ?_
                  refine lv_goto (tgt := 150) hx hb dX5_others_146 (by decide) ?_
                  refine lv_iadd hx hb dX5_others_150 ?_
                  refine lv_topi (fun y_26 ey_26 => ?_)
                  refine lv_istore_n (lv' := [(1, .int y_26), (4, .int j), (3, .int is), (2, .int i), (0, .ref h0)]) hx hb dX5_others_151 rfl hl (by decide) rfl (fun ls hl => ?_)
                  obtain ⟨x_27, ex_27⟩ : ∃ y : Int32, y = i + 1 := ⟨_, rfl⟩
                  have i_27 : x_27.toInt = i.toInt + 1 := ki_add ex_27 rfl rfl (om_10 LP1_h0) (om_102 w_1.2.2.2 i_13)
                  refine lv_iinc (v := x_27) (lv' := [(2, .int x_27), (1, .int y_26), (4, .int j), (3, .int is), (0, .ref h0)]) hx hb dX5_others_152 hl (k := 3) rfl (by rw [ex_27]; rfl) (by decide) rfl (fun ls hl => ?_)
                  refine lv_goto (tgt := 12) hx hb dX5_others_155 (by decide) ?_
                  exact ih1 x_27 y_26 (om_31 LP1_h0 i_27) (om_mu hn1 (om_5 i_27) (om_6 i_13)) _ _ hP hD hS ls (lv_sub hl [0, 1, 4] rfl)
              · have i_22 : j.toInt < y_19.toInt := kc_nle c_22
                refine lv_iload_n hx hb dX5_others_70 rfl (lv_at hl 1 rfl) ?_
                refine lv_if_eq (tgt := 140) hx hb dX5_others_71 (by decide) (fun c_28 => ?_) (fun c_28 => ?_)
                · have i_28 : is.toInt = 0 := kc_eq c_28
                  refine lv_iload_n hx hb dX5_others_140 rfl (lv_at hl 3 rfl) ?_
                  refine lv_iload_n hx hb dX5_others_141 rfl (lv_at hl 1 rfl) ?_
                  refine lv_if_eq (tgt := 149) hx hb dX5_others_142 (by decide) (fun c_29 => ?_) (fun c_29 => ?_)
                  · have i_29 : is.toInt = 0 := kc_eq c_29
                    refine lv_iconst (v := 1) hx hb dX5_others_149 (by decide) ?_
                    refine lv_iadd hx hb dX5_others_150 ?_
                    refine lv_topi (fun y_30 ey_30 => ?_)
                    refine lv_istore_n (lv' := [(1, .int y_30), (4, .int j), (3, .int is), (2, .int i), (0, .ref h0)]) hx hb dX5_others_151 rfl hl (by decide) rfl (fun ls hl => ?_)
                    obtain ⟨x_31, ex_31⟩ : ∃ y : Int32, y = i + 1 := ⟨_, rfl⟩
                    have i_31 : x_31.toInt = i.toInt + 1 := ki_add ex_31 rfl rfl (om_10 LP1_h0) (om_102 w_1.2.2.2 i_13)
                    refine lv_iinc (v := x_31) (lv' := [(2, .int x_31), (1, .int y_30), (4, .int j), (3, .int is), (0, .ref h0)]) hx hb dX5_others_152 hl (k := 3) rfl (by rw [ex_31]; rfl) (by decide) rfl (fun ls hl => ?_)
                    refine lv_goto (tgt := 12) hx hb dX5_others_155 (by decide) ?_
                    exact ih1 x_31 y_30 (om_31 LP1_h0 i_31) (om_mu hn1 (om_5 i_31) (om_6 i_13)) _ _ hP hD hS ls (lv_sub hl [0, 1, 4] rfl)
                  · have i_29 : ¬ is.toInt = 0 := kc_ne c_29
                    refine lv_iconst (v := 0) hx hb dX5_others_145 (by decide) ?_
                    refine lv_goto (tgt := 150) hx hb dX5_others_146 (by decide) ?_
                    refine lv_iadd hx hb dX5_others_150 ?_
                    refine lv_topi (fun y_32 ey_32 => ?_)
                    refine lv_istore_n (lv' := [(1, .int y_32), (4, .int j), (3, .int is), (2, .int i), (0, .ref h0)]) hx hb dX5_others_151 rfl hl (by decide) rfl (fun ls hl => ?_)
                    obtain ⟨x_33, ex_33⟩ : ∃ y : Int32, y = i + 1 := ⟨_, rfl⟩
                    have i_33 : x_33.toInt = i.toInt + 1 := ki_add ex_33 rfl rfl (om_10 LP1_h0) (om_102 w_1.2.2.2 i_13)
                    refine lv_iinc (v := x_33) (lv' := [(2, .int x_33), (1, .int y_32), (4, .int j), (3, .int is), (0, .ref h0)]) hx hb dX5_others_152 hl (k := 3) rfl (by rw [ex_33]; rfl) (by decide) rfl (fun ls hl => ?_)
                    refine lv_goto (tgt := 12) hx hb dX5_others_155 (by decide) ?_
                    exact ih1 x_33 y_32 (om_31 LP1_h0 i_33) (om_mu hn1 (om_5 i_33) (om_6 i_13)) _ _ hP hD hS ls (lv_sub hl [0, 1, 4] rfl)
                · have i_28 : ¬ is.toInt = 0 := kc_ne c_28
                  refine lv_aload_n hx hb dX5_others_74 rfl (lv_at hl 4 rfl) ?_
                  refine va_get (D := (dC, dI)) (ci := 5) (v := .ref g_voteValue) (C := RX5) (T := TX5) (N := 30) hx hb hts hi_5 hown hK hP 4 rfl rfl 7 (by decide) hf_26 (fun _ h9 => h9) rfl dX5_others_75 ?_
                  refine lv_bipush (v := 6) hx hb dX5_others_78 (by decide) ?_
                  refine lv_iload_n hx hb dX5_others_80 rfl (lv_at hl 2 rfl) ?_
                  refine lv_imul hx hb dX5_others_81 ?_
                  refine lv_topi (fun y_34 ey_34 => ?_)
                  have i_34 : y_34.toInt = 6 * i.toInt := ki_mul ey_34 rfl rfl (om_167 LP1_h0) (om_287 w_1.2.2.2 i_13)
                  refine lv_iload hx hb dX5_others_82 (lv_at hl 0 rfl) ?_
                  refine lv_iadd hx hb dX5_others_84 ?_
                  refine lv_topi (fun y_35 ey_35 => ?_)
                  have i_35 : y_35.toInt = y_34.toInt + j.toInt := ki_add ey_35 rfl rfl (om_171 LP1_h0 LP2_h0 i_34) (by omega)
                  refine va_iald hx hb hK hP 9 0 rfl rfl (ki_in (om_172 LP1_h0 LP2_h0 i_34 i_35) (by omega)) dX5_others_85 ?_
                  refine lv_topi (fun y_36 ey_36 => ?_)
                  have j_36 : y_36.toInt = (o_7 y_35.toNatClampNeg).toInt := congrArg Int32.toInt ey_36
                  refine lv_aload_n hx hb dX5_others_86 rfl (lv_at hl 4 rfl) ?_
                  refine va_get (D := (dC, dI)) (ci := 5) (v := .ref g_wasValue) (C := RX5) (T := TX5) (N := 30) hx hb hts hi_5 hown hK hP 4 rfl rfl 19 (by decide) hf_53 (fun _ h9 => h9) rfl dX5_others_87 ?_
                  refine lv_bipush (v := 6) hx hb dX5_others_90 (by decide) ?_
                  refine lv_iload_n hx hb dX5_others_92 rfl (lv_at hl 2 rfl) ?_
                  refine lv_imul hx hb dX5_others_93 ?_
                  refine lv_topi (fun y_37 ey_37 => ?_)
                  have i_37 : y_37.toInt = 6 * i.toInt := ki_mul ey_37 rfl rfl (om_167 LP1_h0) (om_287 w_1.2.2.2 i_13)
                  refine lv_iload hx hb dX5_others_94 (lv_at hl 0 rfl) ?_
                  refine lv_iadd hx hb dX5_others_96 ?_
                  refine lv_topi (fun y_38 ey_38 => ?_)
                  have i_38 : y_38.toInt = y_37.toInt + j.toInt := ki_add ey_38 rfl rfl (om_171 LP1_h0 LP2_h0 i_37) (by omega)
                  refine va_iald hx hb hK hP 2 0 rfl rfl (ki_in (om_172 LP1_h0 LP2_h0 i_37 i_38) (by omega)) dX5_others_97 ?_
                  refine lv_topi (fun y_39 ey_39 => ?_)
                  have j_39 : y_39.toInt = (wv y_38.toNatClampNeg).toInt := congrArg Int32.toInt ey_39
                  refine lv_icmp_ne (tgt := 132) hx hb dX5_others_98 (by decide) (fun c_40 => ?_) (fun c_40 => ?_)
                  · have i_40 : ¬ y_36.toInt = y_39.toInt := kc_ne c_40
                    refine lv_iconst (v := 0) hx hb dX5_others_132 (by decide) ?_
                    refine lv_istore_n (lv' := [(3, .int 0), (4, .int j), (2, .int i), (1, .int sm), (0, .ref h0)]) hx hb dX5_others_133 rfl hl (by decide) rfl (fun ls hl => ?_)
                    obtain ⟨x_41, ex_41⟩ : ∃ y : Int32, y = j + 1 := ⟨_, rfl⟩
                    have i_41 : x_41.toInt = j.toInt + 1 := ki_add ex_41 rfl rfl (om_10 LP2_h0) (by omega)
                    refine lv_iinc (v := x_41) (lv' := [(4, .int x_41), (3, .int 0), (2, .int i), (1, .int sm), (0, .ref h0)]) hx hb dX5_others_134 hl (k := 1) rfl (by rw [ex_41]; rfl) (by decide) rfl (fun ls hl => ?_)
                    refine lv_goto (tgt := 59) hx hb dX5_others_137 (by decide) ?_
                    have k_42 : (0 : Int32).toInt = 0 := rfl
                    exact ih2 x_41 0 (om_31 LP2_h0 i_41) (by omega) _ _ hP hD hS ls (lv_sub hl [0, 1, 2, 3, 4] rfl)
                  · have i_40 : y_36.toInt = y_39.toInt := kc_eq c_40
                    refine lv_aload_n hx hb dX5_others_101 rfl (lv_at hl 4 rfl) ?_
                    refine va_get (D := (dC, dI)) (ci := 5) (v := .ref g_voteNumber) (C := RX5) (T := TX5) (N := 30) hx hb hts hi_5 hown hK hP 4 rfl rfl 8 (by decide) hf_29 (fun _ h9 => h9) rfl dX5_others_102 ?_
                    refine lv_bipush (v := 6) hx hb dX5_others_105 (by decide) ?_
                    refine lv_iload_n hx hb dX5_others_107 rfl (lv_at hl 2 rfl) ?_
                    refine lv_imul hx hb dX5_others_108 ?_
                    refine lv_topi (fun y_43 ey_43 => ?_)
                    have i_43 : y_43.toInt = 6 * i.toInt := ki_mul ey_43 rfl rfl (om_167 LP1_h0) (om_287 w_1.2.2.2 i_13)
                    refine lv_iload hx hb dX5_others_109 (lv_at hl 0 rfl) ?_
                    refine lv_iadd hx hb dX5_others_111 ?_
                    refine lv_topi (fun y_44 ey_44 => ?_)
                    have i_44 : y_44.toInt = y_43.toInt + j.toInt := ki_add ey_44 rfl rfl (om_171 LP1_h0 LP2_h0 i_43) (by omega)
                    refine va_iald hx hb hK hP 10 0 rfl rfl (ki_in (om_172 LP1_h0 LP2_h0 i_43 i_44) (by omega)) dX5_others_112 ?_
                    refine lv_topi (fun y_45 ey_45 => ?_)
                    have j_45 : y_45.toInt = (o_8 y_44.toNatClampNeg).toInt := congrArg Int32.toInt ey_45
                    refine lv_aload_n hx hb dX5_others_113 rfl (lv_at hl 4 rfl) ?_
                    refine va_get (D := (dC, dI)) (ci := 5) (v := .ref g_wasNumber) (C := RX5) (T := TX5) (N := 30) hx hb hts hi_5 hown hK hP 4 rfl rfl 20 (by decide) hf_56 (fun _ h9 => h9) rfl dX5_others_114 ?_
                    refine lv_bipush (v := 6) hx hb dX5_others_117 (by decide) ?_
                    refine lv_iload_n hx hb dX5_others_119 rfl (lv_at hl 2 rfl) ?_
                    refine lv_imul hx hb dX5_others_120 ?_
                    refine lv_topi (fun y_46 ey_46 => ?_)
                    have i_46 : y_46.toInt = 6 * i.toInt := ki_mul ey_46 rfl rfl (om_167 LP1_h0) (om_287 w_1.2.2.2 i_13)
                    refine lv_iload hx hb dX5_others_121 (lv_at hl 0 rfl) ?_
                    refine lv_iadd hx hb dX5_others_123 ?_
                    refine lv_topi (fun y_47 ey_47 => ?_)
                    have i_47 : y_47.toInt = y_46.toInt + j.toInt := ki_add ey_47 rfl rfl (om_171 LP1_h0 LP2_h0 i_46) (by omega)
                    refine va_iald hx hb hK hP 3 0 rfl rfl (ki_in (om_172 LP1_h0 LP2_h0 i_46 i_47) (by omega)) dX5_others_124 ?_
                    refine lv_topi (fun y_48 ey_48 => ?_)
                    have j_48 : y_48.toInt = (wn y_47.toNatClampNeg).toInt := congrArg Int32.toInt ey_48
                    refine lv_icmp_ne (tgt := 132) hx hb dX5_others_125 (by decide) (fun c_49 => ?_) (fun c_49 => ?_)
                    · have i_49 : ¬ y_45.toInt = y_48.toInt := kc_ne c_49
                      refine lv_iconst (v := 0) hx hb dX5_others_132 (by decide) ?_
                      refine lv_istore_n (lv' := [(3, .int 0), (4, .int j), (2, .int i), (1, .int sm), (0, .ref h0)]) hx hb dX5_others_133 rfl hl (by decide) rfl (fun ls hl => ?_)
                      obtain ⟨x_50, ex_50⟩ : ∃ y : Int32, y = j + 1 := ⟨_, rfl⟩
                      have i_50 : x_50.toInt = j.toInt + 1 := ki_add ex_50 rfl rfl (om_10 LP2_h0) (by omega)
                      refine lv_iinc (v := x_50) (lv' := [(4, .int x_50), (3, .int 0), (2, .int i), (1, .int sm), (0, .ref h0)]) hx hb dX5_others_134 hl (k := 1) rfl (by rw [ex_50]; rfl) (by decide) rfl (fun ls hl => ?_)
                      refine lv_goto (tgt := 59) hx hb dX5_others_137 (by decide) ?_
                      have k_51 : (0 : Int32).toInt = 0 := rfl
                      exact ih2 x_50 0 (om_31 LP2_h0 i_50) (by omega) _ _ hP hD hS ls (lv_sub hl [0, 1, 2, 3, 4] rfl)
                    · have i_49 : y_45.toInt = y_48.toInt := kc_eq c_49
                      refine lv_iconst (v := 1) hx hb dX5_others_128 (by decide) ?_
                      refine lv_goto (tgt := 133) hx hb dX5_others_129 (by decide) ?_
                      refine lv_istore_n (lv' := [(3, .int 1), (4, .int j), (2, .int i), (1, .int sm), (0, .ref h0)]) hx hb dX5_others_133 rfl hl (by decide) rfl (fun ls hl => ?_)
                      obtain ⟨x_52, ex_52⟩ : ∃ y : Int32, y = j + 1 := ⟨_, rfl⟩
                      have i_52 : x_52.toInt = j.toInt + 1 := ki_add ex_52 rfl rfl (om_10 LP2_h0) (by omega)
                      refine lv_iinc (v := x_52) (lv' := [(4, .int x_52), (3, .int 1), (2, .int i), (1, .int sm), (0, .ref h0)]) hx hb dX5_others_134 hl (k := 1) rfl (by rw [ex_52]; rfl) (by decide) rfl (fun ls hl => ?_)
                      refine lv_goto (tgt := 59) hx hb dX5_others_137 (by decide) ?_
                      have k_53 : (1 : Int32).toInt = 1 := rfl
                      exact ih2 x_52 1 (om_31 LP2_h0 i_52) (by omega) _ _ hP hD hS ls (lv_sub hl [0, 1, 2, 3, 4] rfl)
          have k_54 : (0 : Int32).toInt = 0 := rfl
          have k_55 : (0 : Int32).toInt = 0 := rfl
          exact LP2 ((6 - 0 : Int).toNat + 1) 0 0 om_32 (Nat.lt_succ_self _) _ _ hP hD hS ls (lv_sub hl [0, 1, 2, 3, 4] rfl)
        · have i_18 : y_14.toInt = y_17.toInt := kc_eq c_18
          refine lv_aload_n hx hb dX5_others_35 rfl (lv_at hl 2 rfl) ?_
          refine va_get (D := (dC, dI)) (ci := 5) (v := .ref g_loss) (C := RX5) (T := TX5) (N := 30) hx hb hts hi_5 hown hK hP 4 rfl rfl 5 (by decide) hf_20 (fun _ h9 => h9) rfl dX5_others_36 ?_
          refine lv_iload_n hx hb dX5_others_39 rfl (lv_at hl 0 rfl) ?_
          refine va_iald hx hb hK hP 7 0 rfl rfl (ki_in (om_8 LP1_h0) (om_285 w_1.2.2.2 i_13)) dX5_others_40 ?_
          refine lv_topi (fun y_56 ey_56 => ?_)
          have j_56 : y_56.toInt = (o_5 i.toNatClampNeg).toInt := congrArg Int32.toInt ey_56
          refine lv_aload_n hx hb dX5_others_41 rfl (lv_at hl 2 rfl) ?_
          refine va_get (D := (dC, dI)) (ci := 5) (v := .ref g_wasLoss) (C := RX5) (T := TX5) (N := 30) hx hb hts hi_5 hown hK hP 4 rfl rfl 18 (by decide) hf_50 (fun _ h9 => h9) rfl dX5_others_42 ?_
          refine lv_iload_n hx hb dX5_others_45 rfl (lv_at hl 0 rfl) ?_
          refine va_iald hx hb hK hP 1 0 rfl rfl (ki_in (om_8 LP1_h0) (om_286 w_1.2.2.2 i_13)) dX5_others_46 ?_
          refine lv_topi (fun y_57 ey_57 => ?_)
          have j_57 : y_57.toInt = (wl i.toNatClampNeg).toInt := congrArg Int32.toInt ey_57
          refine lv_icmp_ne (tgt := 54) hx hb dX5_others_47 (by decide) (fun c_58 => ?_) (fun c_58 => ?_)
          · have i_58 : ¬ y_56.toInt = y_57.toInt := kc_ne c_58
            refine lv_iconst (v := 0) hx hb dX5_others_54 (by decide) ?_
            refine lv_istore_n (lv' := [(3, .int 0), (2, .int i), (1, .int sm), (0, .ref h0)]) hx hb dX5_others_55 rfl hl (by decide) rfl (fun ls hl => ?_)
            refine lv_iconst (v := 0) hx hb dX5_others_56 (by decide) ?_
            refine lv_istore (lv' := [(4, .int 0), (3, .int 0), (2, .int i), (1, .int sm), (0, .ref h0)]) hx hb dX5_others_57 hl (by decide) rfl (fun ls hl => ?_)
            have LP3 : ∀ (n : Nat) (j : Int32) (is : Int32), (0 ≤ j.toInt) → (6 - j.toInt).toNat < n → ∀ (H : Heap) (locs : List Loc), va_P (dC, dI) vwCl [kx_a g_wasMany cyI 320 wm, kx_a g_wasLoss cyI 320 wl, kx_a g_wasValue cyI 1920 wv, kx_a g_wasNumber cyI 1920 wn, kx_5 h0 g_row m_n m_slots m_thrown g_many g_loss g_less g_voteValue g_voteNumber g_allValue g_allNumber o_3 g_nodeL g_nodeR o_2 g_part m_partMany g_wasMany g_wasLoss g_wasValue g_wasNumber g_path m_pathMany g_heavyValue g_heavyTimes m_heavyMany g_fewest g_which g_met m_mostMet, kx_a g_row cyI 160 f, kx_a g_many cyI 324 o_4, kx_a g_loss cyI 324 o_5, kx_a g_less cyI 324 o_6, kx_a g_voteValue cyI 1944 o_7, kx_a g_voteNumber cyI 1944 o_8, kx_a g_allValue cyI 12 o_9, kx_a g_allNumber cyI 12 o_10, kx_a g_nodeL cyI 320 o_11, kx_a g_nodeR cyI 320 o_12] H → va_D A [kx_a g_wasMany cyI 320 wm, kx_a g_wasLoss cyI 320 wl, kx_a g_wasValue cyI 1920 wv, kx_a g_wasNumber cyI 1920 wn, kx_5 h0 g_row m_n m_slots m_thrown g_many g_loss g_less g_voteValue g_voteNumber g_allValue g_allNumber o_3 g_nodeL g_nodeR o_2 g_part m_partMany g_wasMany g_wasLoss g_wasValue g_wasNumber g_path m_pathMany g_heavyValue g_heavyTimes m_heavyMany g_fewest g_which g_met m_mostMet, kx_a g_row cyI 160 f, kx_a g_many cyI 324 o_4, kx_a g_loss cyI 324 o_5, kx_a g_less cyI 324 o_6, kx_a g_voteValue cyI 1944 o_7, kx_a g_voteNumber cyI 1944 o_8, kx_a g_allValue cyI 12 o_9, kx_a g_allNumber cyI 12 o_10, kx_a g_nodeL cyI 320 o_11, kx_a g_nodeR cyI 320 o_12] → va_S A s.heap H locs → ∀ (ls : Array Slot), lv_has ls 5 [(4, .int j), (3, .int is), (2, .int i), (1, .int sm), (0, .ref h0)] → W p l e (headSpec wsX5_others ({ frames := 12, cells := 0, slots := 0, locals := 540 })).room s m ([.ref h0] : List Value).toArray below meth c H locs 0 0 (MQ below (va_Qi (fun (r : Int32) (u : Int32 × Int32 × (Nat → Int32) × (Nat → Int32) × (Nat → Int32) × (Nat → Int32) × (Nat → Int32) × (Nat → Int32) × (Nat → Int32) × (Nat → Int32) × (Nat → Int32)) => six4 u.2.2.1) (fun (u : Int32 × Int32 × (Nat → Int32) × (Nat → Int32) × (Nat → Int32) × (Nat → Int32) × (Nat → Int32) × (Nat → Int32) × (Nat → Int32) × (Nat → Int32) × (Nat → Int32)) (t : State) => va_P (dC, dI) vwCl [kx_5 h0 g_row m_n m_slots m_thrown g_many g_loss g_less g_voteValue g_voteNumber g_allValue g_allNumber u.2.1 g_nodeL g_nodeR u.1 g_part m_partMany g_wasMany g_wasLoss g_wasValue g_wasNumber g_path m_pathMany g_heavyValue g_heavyTimes m_heavyMany g_fewest g_which g_met m_mostMet, kx_a g_row cyI 160 f, kx_a g_many cyI 324 u.2.2.1, kx_a g_loss cyI 324 u.2.2.2.1, kx_a g_less cyI 324 u.2.2.2.2.1, kx_a g_voteValue cyI 1944 u.2.2.2.2.2.1, kx_a g_voteNumber cyI 1944 u.2.2.2.2.2.2.1, kx_a g_allValue cyI 12 u.2.2.2.2.2.2.2.1, kx_a g_allNumber cyI 12 u.2.2.2.2.2.2.2.2.1, kx_a g_nodeL cyI 320 u.2.2.2.2.2.2.2.2.2.1, kx_a g_nodeR cyI 320 u.2.2.2.2.2.2.2.2.2.2, kx_a g_wasMany cyI 320 wm, kx_a g_wasLoss cyI 320 wl, kx_a g_wasValue cyI 1920 wv, kx_a g_wasNumber cyI 1920 wn] t.heap ∧ va_K (dC, dI) vwCl [(cyI, .int)] t ∧ va_D A [kx_5 h0 g_row m_n m_slots m_thrown g_many g_loss g_less g_voteValue g_voteNumber g_allValue g_allNumber u.2.1 g_nodeL g_nodeR u.1 g_part m_partMany g_wasMany g_wasLoss g_wasValue g_wasNumber g_path m_pathMany g_heavyValue g_heavyTimes m_heavyMany g_fewest g_which g_met m_mostMet, kx_a g_row cyI 160 f, kx_a g_many cyI 324 u.2.2.1, kx_a g_loss cyI 324 u.2.2.2.1, kx_a g_less cyI 324 u.2.2.2.2.1, kx_a g_voteValue cyI 1944 u.2.2.2.2.2.1, kx_a g_voteNumber cyI 1944 u.2.2.2.2.2.2.1, kx_a g_allValue cyI 12 u.2.2.2.2.2.2.2.1, kx_a g_allNumber cyI 12 u.2.2.2.2.2.2.2.2.1, kx_a g_nodeL cyI 320 u.2.2.2.2.2.2.2.2.2.1, kx_a g_nodeR cyI 320 u.2.2.2.2.2.2.2.2.2.2, kx_a g_wasMany cyI 320 wm, kx_a g_wasLoss cyI 320 wl, kx_a g_wasValue cyI 1920 wv, kx_a g_wasNumber cyI 1920 wn]) A) ([.ref h0] : List Value).toArray s 0 0 A) (F0 m 59 ls []) := by
              intro n
              induction n with
              | zero => intro j is LP3_h0 hn; exact absurd hn (Nat.not_lt_zero _)
              | succ n ih3 =>
                intro j is LP3_h0 hn3 H locs hP hD hS ls hl
                refine lv_iload hx hb dX5_others_59 (lv_at hl 0 rfl) ?_
                refine lv_aload_n hx hb dX5_others_61 rfl (lv_at hl 4 rfl) ?_
                refine va_get (D := (dC, dI)) (ci := 5) (v := .ref g_many) (C := RX5) (T := TX5) (N := 30) hx hb hts hi_5 hown hK hP 4 rfl rfl 4 (by decide) hf_17 (fun _ h9 => h9) rfl dX5_others_62 ?_
                refine lv_iload_n hx hb dX5_others_65 rfl (lv_at hl 2 rfl) ?_
                refine va_iald hx hb hK hP 6 0 rfl rfl (ki_in (om_8 LP1_h0) (om_285 w_1.2.2.2 i_13)) dX5_others_66 ?_
                refine lv_topi (fun y_59 ey_59 => ?_)
                have j_59 : y_59.toInt = (o_4 i.toNatClampNeg).toInt := congrArg Int32.toInt ey_59
                have n_60 : (i.toNatClampNeg : Int) = i.toInt := ki_nat _ rfl (om_8 LP1_h0)
                have i_61 := w_1.2.1 i.toNatClampNeg (by omega)
                refine lv_icmp_ge (tgt := 140) hx hb dX5_others_67 (by decide) (fun c_62 => ?_) (fun c_62 => ?_)
                · have i_62 : y_59.toInt ≤ j.toInt := kc_le c_62
                  refine lv_iload_n hx hb dX5_others_140 rfl (lv_at hl 3 rfl) ?_
                  refine lv_iload_n hx hb dX5_others_141 rfl (lv_at hl 1 rfl) ?_
                  refine lv_if_eq (tgt := 149) hx hb dX5_others_142 (by decide) (fun c_63 => ?_) (fun c_63 => ?_)
                  · have i_63 : is.toInt = 0 := kc_eq c_63
                    refine lv_iconst (v := 1) hx hb dX5_others_149 (by decide) ?_
                    refine lv_iadd hx hb dX5_others_150 ?_
                    refine lv_topi (fun y_64 ey_64 => ?_)
                    refine lv_istore_n (lv' := [(1, .int y_64), (4, .int j), (3, .int is), (2, .int i), (0, .ref h0)]) hx hb dX5_others_151 rfl hl (by decide) rfl (fun ls hl => ?_)
                    obtain ⟨x_65, ex_65⟩ : ∃ y : Int32, y = i + 1 := ⟨_, rfl⟩
                    have i_65 : x_65.toInt = i.toInt + 1 := ki_add ex_65 rfl rfl (om_10 LP1_h0) (om_102 w_1.2.2.2 i_13)
                    refine lv_iinc (v := x_65) (lv' := [(2, .int x_65), (1, .int y_64), (4, .int j), (3, .int is), (0, .ref h0)]) hx hb dX5_others_152 hl (k := 3) rfl (by rw [ex_65]; rfl) (by decide) rfl (fun ls hl => ?_)
                    refine lv_goto (tgt := 12) hx hb dX5_others_155 (by decide) ?_
                    exact ih1 x_65 y_64 (om_31 LP1_h0 i_65) (om_mu hn1 (om_5 i_65) (om_6 i_13)) _ _ hP hD hS ls (lv_sub hl [0, 1, 4] rfl)
                  · have i_63 : ¬ is.toInt = 0 := kc_ne c_63
                    refine lv_iconst (v := 0) hx hb dX5_others_145 (by decide) ?_
                    refine lv_goto (tgt := 150) hx hb dX5_others_146 (by decide) ?_
                    refine lv_iadd hx hb dX5_others_150 ?_
                    refine lv_topi (fun y_66 ey_66 => ?_)
                    refine lv_istore_n (lv' := [(1, .int y_66), (4, .int j), (3, .int is), (2, .int i), (0, .ref h0)]) hx hb dX5_others_151 rfl hl (by decide) rfl (fun ls hl => ?_)
                    obtain ⟨x_67, ex_67⟩ : ∃ y : Int32, y = i + 1 := ⟨_, rfl⟩
                    have i_67 : x_67.toInt = i.toInt + 1 := ki_add ex_67 rfl rfl (om_10 LP1_h0) (om_102 w_1.2.2.2 i_13)
                    refine lv_iinc (v := x_67) (lv' := [(2, .int x_67), (1, .int y_66), (4, .int j), (3, .int is), (0, .ref h0)]) hx hb dX5_others_152 hl (k := 3) rfl (by rw [ex_67]; rfl) (by decide) rfl (fun ls hl => ?_)
                    refine lv_goto (tgt := 12) hx hb dX5_others_155 (by decide) ?_
                    exact ih1 x_67 y_66 (om_31 LP1_h0 i_67) (om_mu hn1 (om_5 i_67) (om_6 i_13)) _ _ hP hD hS ls (lv_sub hl [0, 1, 4] rfl)
                · have i_62 : j.toInt < y_59.toInt := kc_nle c_62
                  refine lv_iload_n hx hb dX5_others_70 rfl (lv_at hl 1 rfl) ?_
                  refine lv_if_eq (tgt := 140) hx hb dX5_others_71 (by decide) (fun c_68 => ?_) (fun c_68 => ?_)
                  · have i_68 : is.toInt = 0 := kc_eq c_68
                    refine lv_iload_n hx hb dX5_others_140 rfl (lv_at hl 3 rfl) ?_
                    refine lv_iload_n hx hb dX5_others_141 rfl (lv_at hl 1 rfl) ?_
                    refine lv_if_eq (tgt := 149) hx hb dX5_others_142 (by decide) (fun c_69 => ?_) (fun c_69 => ?_)
                    · have i_69 : is.toInt = 0 := kc_eq c_69
                      refine lv_iconst (v := 1) hx hb dX5_others_149 (by decide) ?_
                      refine lv_iadd hx hb dX5_others_150 ?_
                      refine lv_topi (fun y_70 ey_70 => ?_)
                      refine lv_istore_n (lv' := [(1, .int y_70), (4, .int j), (3, .int is), (2, .int i), (0, .ref h0)]) hx hb dX5_others_151 rfl hl (by decide) rfl (fun ls hl => ?_)
                      obtain ⟨x_71, ex_71⟩ : ∃ y : Int32, y = i + 1 := ⟨_, rfl⟩
                      have i_71 : x_71.toInt = i.toInt + 1 := ki_add ex_71 rfl rfl (om_10 LP1_h0) (om_102 w_1.2.2.2 i_13)
                      refine lv_iinc (v := x_71) (lv' := [(2, .int x_71), (1, .int y_70), (4, .int j), (3, .int is), (0, .ref h0)]) hx hb dX5_others_152 hl (k := 3) rfl (by rw [ex_71]; rfl) (by decide) rfl (fun ls hl => ?_)
                      refine lv_goto (tgt := 12) hx hb dX5_others_155 (by decide) ?_
                      exact ih1 x_71 y_70 (om_31 LP1_h0 i_71) (om_mu hn1 (om_5 i_71) (om_6 i_13)) _ _ hP hD hS ls (lv_sub hl [0, 1, 4] rfl)
                    · have i_69 : ¬ is.toInt = 0 := kc_ne c_69
                      refine lv_iconst (v := 0) hx hb dX5_others_145 (by decide) ?_
                      refine lv_goto (tgt := 150) hx hb dX5_others_146 (by decide) ?_
                      refine lv_iadd hx hb dX5_others_150 ?_
                      refine lv_topi (fun y_72 ey_72 => ?_)
                      refine lv_istore_n (lv' := [(1, .int y_72), (4, .int j), (3, .int is), (2, .int i), (0, .ref h0)]) hx hb dX5_others_151 rfl hl (by decide) rfl (fun ls hl => ?_)
                      obtain ⟨x_73, ex_73⟩ : ∃ y : Int32, y = i + 1 := ⟨_, rfl⟩
                      have i_73 : x_73.toInt = i.toInt + 1 := ki_add ex_73 rfl rfl (om_10 LP1_h0) (om_102 w_1.2.2.2 i_13)
                      refine lv_iinc (v := x_73) (lv' := [(2, .int x_73), (1, .int y_72), (4, .int j), (3, .int is), (0, .ref h0)]) hx hb dX5_others_152 hl (k := 3) rfl (by rw [ex_73]; rfl) (by decide) rfl (fun ls hl => ?_)
                      refine lv_goto (tgt := 12) hx hb dX5_others_155 (by decide) ?_
                      exact ih1 x_73 y_72 (om_31 LP1_h0 i_73) (om_mu hn1 (om_5 i_73) (om_6 i_13)) _ _ hP hD hS ls (lv_sub hl [0, 1, 4] rfl)
                  · have i_68 : ¬ is.toInt = 0 := kc_ne c_68
                    refine lv_aload_n hx hb dX5_others_74 rfl (lv_at hl 4 rfl) ?_
                    refine va_get (D := (dC, dI)) (ci := 5) (v := .ref g_voteValue) (C := RX5) (T := TX5) (N := 30) hx hb hts hi_5 hown hK hP 4 rfl rfl 7 (by decide) hf_26 (fun _ h9 => h9) rfl dX5_others_75 ?_
                    refine lv_bipush (v := 6) hx hb dX5_others_78 (by decide) ?_
                    refine lv_iload_n hx hb dX5_others_80 rfl (lv_at hl 2 rfl) ?_
                    refine lv_imul hx hb dX5_others_81 ?_
                    refine lv_topi (fun y_74 ey_74 => ?_)
                    have i_74 : y_74.toInt = 6 * i.toInt := ki_mul ey_74 rfl rfl (om_167 LP1_h0) (om_287 w_1.2.2.2 i_13)
                    refine lv_iload hx hb dX5_others_82 (lv_at hl 0 rfl) ?_
                    refine lv_iadd hx hb dX5_others_84 ?_
                    refine lv_topi (fun y_75 ey_75 => ?_)
                    have i_75 : y_75.toInt = y_74.toInt + j.toInt := ki_add ey_75 rfl rfl (om_171 LP1_h0 LP3_h0 i_74) (by omega)
                    refine va_iald hx hb hK hP 9 0 rfl rfl (ki_in (om_172 LP1_h0 LP3_h0 i_74 i_75) (by omega)) dX5_others_85 ?_
                    refine lv_topi (fun y_76 ey_76 => ?_)
                    have j_76 : y_76.toInt = (o_7 y_75.toNatClampNeg).toInt := congrArg Int32.toInt ey_76
                    refine lv_aload_n hx hb dX5_others_86 rfl (lv_at hl 4 rfl) ?_
                    refine va_get (D := (dC, dI)) (ci := 5) (v := .ref g_wasValue) (C := RX5) (T := TX5) (N := 30) hx hb hts hi_5 hown hK hP 4 rfl rfl 19 (by decide) hf_53 (fun _ h9 => h9) rfl dX5_others_87 ?_
                    refine lv_bipush (v := 6) hx hb dX5_others_90 (by decide) ?_
                    refine lv_iload_n hx hb dX5_others_92 rfl (lv_at hl 2 rfl) ?_
                    refine lv_imul hx hb dX5_others_93 ?_
                    refine lv_topi (fun y_77 ey_77 => ?_)
                    have i_77 : y_77.toInt = 6 * i.toInt := ki_mul ey_77 rfl rfl (om_167 LP1_h0) (om_287 w_1.2.2.2 i_13)
                    refine lv_iload hx hb dX5_others_94 (lv_at hl 0 rfl) ?_
                    refine lv_iadd hx hb dX5_others_96 ?_
                    refine lv_topi (fun y_78 ey_78 => ?_)
                    have i_78 : y_78.toInt = y_77.toInt + j.toInt := ki_add ey_78 rfl rfl (om_171 LP1_h0 LP3_h0 i_77) (by omega)
                    refine va_iald hx hb hK hP 2 0 rfl rfl (ki_in (om_172 LP1_h0 LP3_h0 i_77 i_78) (by omega)) dX5_others_97 ?_
                    refine lv_topi (fun y_79 ey_79 => ?_)
                    have j_79 : y_79.toInt = (wv y_78.toNatClampNeg).toInt := congrArg Int32.toInt ey_79
                    refine lv_icmp_ne (tgt := 132) hx hb dX5_others_98 (by decide) (fun c_80 => ?_) (fun c_80 => ?_)
                    · have i_80 : ¬ y_76.toInt = y_79.toInt := kc_ne c_80
                      refine lv_iconst (v := 0) hx hb dX5_others_132 (by decide) ?_
                      refine lv_istore_n (lv' := [(3, .int 0), (4, .int j), (2, .int i), (1, .int sm), (0, .ref h0)]) hx hb dX5_others_133 rfl hl (by decide) rfl (fun ls hl => ?_)
                      obtain ⟨x_81, ex_81⟩ : ∃ y : Int32, y = j + 1 := ⟨_, rfl⟩
                      have i_81 : x_81.toInt = j.toInt + 1 := ki_add ex_81 rfl rfl (om_10 LP3_h0) (by omega)
                      refine lv_iinc (v := x_81) (lv' := [(4, .int x_81), (3, .int 0), (2, .int i), (1, .int sm), (0, .ref h0)]) hx hb dX5_others_134 hl (k := 1) rfl (by rw [ex_81]; rfl) (by decide) rfl (fun ls hl => ?_)
                      refine lv_goto (tgt := 59) hx hb dX5_others_137 (by decide) ?_
                      have k_82 : (0 : Int32).toInt = 0 := rfl
                      exact ih3 x_81 0 (om_31 LP3_h0 i_81) (by omega) _ _ hP hD hS ls (lv_sub hl [0, 1, 2, 3, 4] rfl)
                    · have i_80 : y_76.toInt = y_79.toInt := kc_eq c_80
                      refine lv_aload_n hx hb dX5_others_101 rfl (lv_at hl 4 rfl) ?_
                      refine va_get (D := (dC, dI)) (ci := 5) (v := .ref g_voteNumber) (C := RX5) (T := TX5) (N := 30) hx hb hts hi_5 hown hK hP 4 rfl rfl 8 (by decide) hf_29 (fun _ h9 => h9) rfl dX5_others_102 ?_
                      refine lv_bipush (v := 6) hx hb dX5_others_105 (by decide) ?_
                      refine lv_iload_n hx hb dX5_others_107 rfl (lv_at hl 2 rfl) ?_
                      refine lv_imul hx hb dX5_others_108 ?_
                      refine lv_topi (fun y_83 ey_83 => ?_)
                      have i_83 : y_83.toInt = 6 * i.toInt := ki_mul ey_83 rfl rfl (om_167 LP1_h0) (om_287 w_1.2.2.2 i_13)
                      refine lv_iload hx hb dX5_others_109 (lv_at hl 0 rfl) ?_
                      refine lv_iadd hx hb dX5_others_111 ?_
                      refine lv_topi (fun y_84 ey_84 => ?_)
                      have i_84 : y_84.toInt = y_83.toInt + j.toInt := ki_add ey_84 rfl rfl (om_171 LP1_h0 LP3_h0 i_83) (by omega)
                      refine va_iald hx hb hK hP 10 0 rfl rfl (ki_in (om_172 LP1_h0 LP3_h0 i_83 i_84) (by omega)) dX5_others_112 ?_
                      refine lv_topi (fun y_85 ey_85 => ?_)
                      have j_85 : y_85.toInt = (o_8 y_84.toNatClampNeg).toInt := congrArg Int32.toInt ey_85
                      refine lv_aload_n hx hb dX5_others_113 rfl (lv_at hl 4 rfl) ?_
                      refine va_get (D := (dC, dI)) (ci := 5) (v := .ref g_wasNumber) (C := RX5) (T := TX5) (N := 30) hx hb hts hi_5 hown hK hP 4 rfl rfl 20 (by decide) hf_56 (fun _ h9 => h9) rfl dX5_others_114 ?_
                      refine lv_bipush (v := 6) hx hb dX5_others_117 (by decide) ?_
                      refine lv_iload_n hx hb dX5_others_119 rfl (lv_at hl 2 rfl) ?_
                      refine lv_imul hx hb dX5_others_120 ?_
                      refine lv_topi (fun y_86 ey_86 => ?_)
                      have i_86 : y_86.toInt = 6 * i.toInt := ki_mul ey_86 rfl rfl (om_167 LP1_h0) (om_287 w_1.2.2.2 i_13)
                      refine lv_iload hx hb dX5_others_121 (lv_at hl 0 rfl) ?_
                      refine lv_iadd hx hb dX5_others_123 ?_
                      refine lv_topi (fun y_87 ey_87 => ?_)
                      have i_87 : y_87.toInt = y_86.toInt + j.toInt := ki_add ey_87 rfl rfl (om_171 LP1_h0 LP3_h0 i_86) (by omega)
                      refine va_iald hx hb hK hP 3 0 rfl rfl (ki_in (om_172 LP1_h0 LP3_h0 i_86 i_87) (by omega)) dX5_others_124 ?_
                      refine lv_topi (fun y_88 ey_88 => ?_)
                      have j_88 : y_88.toInt = (wn y_87.toNatClampNeg).toInt := congrArg Int32.toInt ey_88
                      refine lv_icmp_ne (tgt := 132) hx hb dX5_others_125 (by decide) (fun c_89 => ?_) (fun c_89 => ?_)
                      · have i_89 : ¬ y_85.toInt = y_88.toInt := kc_ne c_89
                        refine lv_iconst (v := 0) hx hb dX5_others_132 (by decide) ?_
                        refine lv_istore_n (lv' := [(3, .int 0), (4, .int j), (2, .int i), (1, .int sm), (0, .ref h0)]) hx hb dX5_others_133 rfl hl (by decide) rfl (fun ls hl => ?_)
                        obtain ⟨x_90, ex_90⟩ : ∃ y : Int32, y = j + 1 := ⟨_, rfl⟩
                        have i_90 : x_90.toInt = j.toInt + 1 := ki_add ex_90 rfl rfl (om_10 LP3_h0) (by omega)
                        refine lv_iinc (v := x_90) (lv' := [(4, .int x_90), (3, .int 0), (2, .int i), (1, .int sm), (0, .ref h0)]) hx hb dX5_others_134 hl (k := 1) rfl (by rw [ex_90]; rfl) (by decide) rfl (fun ls hl => ?_)
                        refine lv_goto (tgt := 59) hx hb dX5_others_137 (by decide) ?_
                        have k_91 : (0 : Int32).toInt = 0 := rfl
                        exact ih3 x_90 0 (om_31 LP3_h0 i_90) (by omega) _ _ hP hD hS ls (lv_sub hl [0, 1, 2, 3, 4] rfl)
                      · have i_89 : y_85.toInt = y_88.toInt := kc_eq c_89
                        refine lv_iconst (v := 1) hx hb dX5_others_128 (by decide) ?_
                        refine lv_goto (tgt := 133) hx hb dX5_others_129 (by decide) ?_
                        refine lv_istore_n (lv' := [(3, .int 1), (4, .int j), (2, .int i), (1, .int sm), (0, .ref h0)]) hx hb dX5_others_133 rfl hl (by decide) rfl (fun ls hl => ?_)
                        obtain ⟨x_92, ex_92⟩ : ∃ y : Int32, y = j + 1 := ⟨_, rfl⟩
                        have i_92 : x_92.toInt = j.toInt + 1 := ki_add ex_92 rfl rfl (om_10 LP3_h0) (by omega)
                        refine lv_iinc (v := x_92) (lv' := [(4, .int x_92), (3, .int 1), (2, .int i), (1, .int sm), (0, .ref h0)]) hx hb dX5_others_134 hl (k := 1) rfl (by rw [ex_92]; rfl) (by decide) rfl (fun ls hl => ?_)
                        refine lv_goto (tgt := 59) hx hb dX5_others_137 (by decide) ?_
                        have k_93 : (1 : Int32).toInt = 1 := rfl
                        exact ih3 x_92 1 (om_31 LP3_h0 i_92) (by omega) _ _ hP hD hS ls (lv_sub hl [0, 1, 2, 3, 4] rfl)
            have k_94 : (0 : Int32).toInt = 0 := rfl
            have k_95 : (0 : Int32).toInt = 0 := rfl
            exact LP3 ((6 - 0 : Int).toNat + 1) 0 0 om_32 (Nat.lt_succ_self _) _ _ hP hD hS ls (lv_sub hl [0, 1, 2, 3, 4] rfl)
          · have i_58 : y_56.toInt = y_57.toInt := kc_eq c_58
            refine lv_iconst (v := 1) hx hb dX5_others_50 (by decide) ?_
            refine lv_goto (tgt := 55) hx hb dX5_others_51 (by decide) ?_
            refine lv_istore_n (lv' := [(3, .int 1), (2, .int i), (1, .int sm), (0, .ref h0)]) hx hb dX5_others_55 rfl hl (by decide) rfl (fun ls hl => ?_)
            refine lv_iconst (v := 0) hx hb dX5_others_56 (by decide) ?_
            refine lv_istore (lv' := [(4, .int 0), (3, .int 1), (2, .int i), (1, .int sm), (0, .ref h0)]) hx hb dX5_others_57 hl (by decide) rfl (fun ls hl => ?_)
            have LP4 : ∀ (n : Nat) (j : Int32) (is : Int32), (0 ≤ j.toInt) → (6 - j.toInt).toNat < n → ∀ (H : Heap) (locs : List Loc), va_P (dC, dI) vwCl [kx_a g_wasMany cyI 320 wm, kx_a g_wasLoss cyI 320 wl, kx_a g_wasValue cyI 1920 wv, kx_a g_wasNumber cyI 1920 wn, kx_5 h0 g_row m_n m_slots m_thrown g_many g_loss g_less g_voteValue g_voteNumber g_allValue g_allNumber o_3 g_nodeL g_nodeR o_2 g_part m_partMany g_wasMany g_wasLoss g_wasValue g_wasNumber g_path m_pathMany g_heavyValue g_heavyTimes m_heavyMany g_fewest g_which g_met m_mostMet, kx_a g_row cyI 160 f, kx_a g_many cyI 324 o_4, kx_a g_loss cyI 324 o_5, kx_a g_less cyI 324 o_6, kx_a g_voteValue cyI 1944 o_7, kx_a g_voteNumber cyI 1944 o_8, kx_a g_allValue cyI 12 o_9, kx_a g_allNumber cyI 12 o_10, kx_a g_nodeL cyI 320 o_11, kx_a g_nodeR cyI 320 o_12] H → va_D A [kx_a g_wasMany cyI 320 wm, kx_a g_wasLoss cyI 320 wl, kx_a g_wasValue cyI 1920 wv, kx_a g_wasNumber cyI 1920 wn, kx_5 h0 g_row m_n m_slots m_thrown g_many g_loss g_less g_voteValue g_voteNumber g_allValue g_allNumber o_3 g_nodeL g_nodeR o_2 g_part m_partMany g_wasMany g_wasLoss g_wasValue g_wasNumber g_path m_pathMany g_heavyValue g_heavyTimes m_heavyMany g_fewest g_which g_met m_mostMet, kx_a g_row cyI 160 f, kx_a g_many cyI 324 o_4, kx_a g_loss cyI 324 o_5, kx_a g_less cyI 324 o_6, kx_a g_voteValue cyI 1944 o_7, kx_a g_voteNumber cyI 1944 o_8, kx_a g_allValue cyI 12 o_9, kx_a g_allNumber cyI 12 o_10, kx_a g_nodeL cyI 320 o_11, kx_a g_nodeR cyI 320 o_12] → va_S A s.heap H locs → ∀ (ls : Array Slot), lv_has ls 5 [(4, .int j), (3, .int is), (2, .int i), (1, .int sm), (0, .ref h0)] → W p l e (headSpec wsX5_others ({ frames := 12, cells := 0, slots := 0, locals := 540 })).room s m ([.ref h0] : List Value).toArray below meth c H locs 0 0 (MQ below (va_Qi (fun (r : Int32) (u : Int32 × Int32 × (Nat → Int32) × (Nat → Int32) × (Nat → Int32) × (Nat → Int32) × (Nat → Int32) × (Nat → Int32) × (Nat → Int32) × (Nat → Int32) × (Nat → Int32)) => six4 u.2.2.1) (fun (u : Int32 × Int32 × (Nat → Int32) × (Nat → Int32) × (Nat → Int32) × (Nat → Int32) × (Nat → Int32) × (Nat → Int32) × (Nat → Int32) × (Nat → Int32) × (Nat → Int32)) (t : State) => va_P (dC, dI) vwCl [kx_5 h0 g_row m_n m_slots m_thrown g_many g_loss g_less g_voteValue g_voteNumber g_allValue g_allNumber u.2.1 g_nodeL g_nodeR u.1 g_part m_partMany g_wasMany g_wasLoss g_wasValue g_wasNumber g_path m_pathMany g_heavyValue g_heavyTimes m_heavyMany g_fewest g_which g_met m_mostMet, kx_a g_row cyI 160 f, kx_a g_many cyI 324 u.2.2.1, kx_a g_loss cyI 324 u.2.2.2.1, kx_a g_less cyI 324 u.2.2.2.2.1, kx_a g_voteValue cyI 1944 u.2.2.2.2.2.1, kx_a g_voteNumber cyI 1944 u.2.2.2.2.2.2.1, kx_a g_allValue cyI 12 u.2.2.2.2.2.2.2.1, kx_a g_allNumber cyI 12 u.2.2.2.2.2.2.2.2.1, kx_a g_nodeL cyI 320 u.2.2.2.2.2.2.2.2.2.1, kx_a g_nodeR cyI 320 u.2.2.2.2.2.2.2.2.2.2, kx_a g_wasMany cyI 320 wm, kx_a g_wasLoss cyI 320 wl, kx_a g_wasValue cyI 1920 wv, kx_a g_wasNumber cyI 1920 wn] t.heap ∧ va_K (dC, dI) vwCl [(cyI, .int)] t ∧ va_D A [kx_5 h0 g_row m_n m_slots m_thrown g_many g_loss g_less g_voteValue g_voteNumber g_allValue g_allNumber u.2.1 g_nodeL g_nodeR u.1 g_part m_partMany g_wasMany g_wasLoss g_wasValue g_wasNumber g_path m_pathMany g_heavyValue g_heavyTimes m_heavyMany g_fewest g_which g_met m_mostMet, kx_a g_row cyI 160 f, kx_a g_many cyI 324 u.2.2.1, kx_a g_loss cyI 324 u.2.2.2.1, kx_a g_less cyI 324 u.2.2.2.2.1, kx_a g_voteValue cyI 1944 u.2.2.2.2.2.1, kx_a g_voteNumber cyI 1944 u.2.2.2.2.2.2.1, kx_a g_allValue cyI 12 u.2.2.2.2.2.2.2.1, kx_a g_allNumber cyI 12 u.2.2.2.2.2.2.2.2.1, kx_a g_nodeL cyI 320 u.2.2.2.2.2.2.2.2.2.1, kx_a g_nodeR cyI 320 u.2.2.2.2.2.2.2.2.2.2, kx_a g_wasMany cyI 320 wm, kx_a g_wasLoss cyI 320 wl, kx_a g_wasValue cyI 1920 wv, kx_a g_wasNumber cyI 1920 wn]) A) ([.ref h0] : List Value).toArray s 0 0 A) (F0 m 59 ls []) := by
              intro n
              induction n with
              | zero => intro j is LP4_h0 hn; exact absurd hn (Nat.not_lt_zero _)
              | succ n ih4 =>
                intro j is LP4_h0 hn4 H locs hP hD hS ls hl
                refine lv_iload hx hb dX5_others_59 (lv_at hl 0 rfl) ?_
                refine lv_aload_n hx hb dX5_others_61 rfl (lv_at hl 4 rfl) ?_
                refine va_get (D := (dC, dI)) (ci := 5) (v := .ref g_many) (C := RX5) (T := TX5) (N := 30) hx hb hts hi_5 hown hK hP 4 rfl rfl 4 (by decide) hf_17 (fun _ h9 => h9) rfl dX5_others_62 ?_
                refine lv_iload_n hx hb dX5_others_65 rfl (lv_at hl 2 rfl) ?_
                refine va_iald hx hb hK hP 6 0 rfl rfl (ki_in (om_8 LP1_h0) (om_285 w_1.2.2.2 i_13)) dX5_others_66 ?_
                refine lv_topi (fun y_96 ey_96 => ?_)
                have j_96 : y_96.toInt = (o_4 i.toNatClampNeg).toInt := congrArg Int32.toInt ey_96
                have n_97 : (i.toNatClampNeg : Int) = i.toInt := ki_nat _ rfl (om_8 LP1_h0)
                have i_98 := w_1.2.1 i.toNatClampNeg (by omega)
                refine lv_icmp_ge (tgt := 140) hx hb dX5_others_67 (by decide) (fun c_99 => ?_) (fun c_99 => ?_)
                · have i_99 : y_96.toInt ≤ j.toInt := kc_le c_99
                  refine lv_iload_n hx hb dX5_others_140 rfl (lv_at hl 3 rfl) ?_
                  refine lv_iload_n hx hb dX5_others_141 rfl (lv_at hl 1 rfl) ?_
                  refine lv_if_eq (tgt := 149) hx hb dX5_others_142 (by decide) (fun c_100 => ?_) (fun c_100 => ?_)
                  · have i_100 : is.toInt = 0 := kc_eq c_100
                    refine lv_iconst (v := 1) hx hb dX5_others_149 (by decide) ?_
                    refine lv_iadd hx hb dX5_others_150 ?_
                    refine lv_topi (fun y_101 ey_101 => ?_)
                    refine lv_istore_n (lv' := [(1, .int y_101), (4, .int j), (3, .int is), (2, .int i), (0, .ref h0)]) hx hb dX5_others_151 rfl hl (by decide) rfl (fun ls hl => ?_)
                    obtain ⟨x_102, ex_102⟩ : ∃ y : Int32, y = i + 1 := ⟨_, rfl⟩
                    have i_102 : x_102.toInt = i.toInt + 1 := ki_add ex_102 rfl rfl (om_10 LP1_h0) (om_102 w_1.2.2.2 i_13)
                    refine lv_iinc (v := x_102) (lv' := [(2, .int x_102), (1, .int y_101), (4, .int j), (3, .int is), (0, .ref h0)]) hx hb dX5_others_152 hl (k := 3) rfl (by rw [ex_102]; rfl) (by decide) rfl (fun ls hl => ?_)
                    refine lv_goto (tgt := 12) hx hb dX5_others_155 (by decide) ?_
                    exact ih1 x_102 y_101 (om_31 LP1_h0 i_102) (om_mu hn1 (om_5 i_102) (om_6 i_13)) _ _ hP hD hS ls (lv_sub hl [0, 1, 4] rfl)
                  · have i_100 : ¬ is.toInt = 0 := kc_ne c_100
                    refine lv_iconst (v := 0) hx hb dX5_others_145 (by decide) ?_
                    refine lv_goto (tgt := 150) hx hb dX5_others_146 (by decide) ?_
                    refine lv_iadd hx hb dX5_others_150 ?_
                    refine lv_topi (fun y_103 ey_103 => ?_)
                    refine lv_istore_n (lv' := [(1, .int y_103), (4, .int j), (3, .int is), (2, .int i), (0, .ref h0)]) hx hb dX5_others_151 rfl hl (by decide) rfl (fun ls hl => ?_)
                    obtain ⟨x_104, ex_104⟩ : ∃ y : Int32, y = i + 1 := ⟨_, rfl⟩
                    have i_104 : x_104.toInt = i.toInt + 1 := ki_add ex_104 rfl rfl (om_10 LP1_h0) (om_102 w_1.2.2.2 i_13)
                    refine lv_iinc (v := x_104) (lv' := [(2, .int x_104), (1, .int y_103), (4, .int j), (3, .int is), (0, .ref h0)]) hx hb dX5_others_152 hl (k := 3) rfl (by rw [ex_104]; rfl) (by decide) rfl (fun ls hl => ?_)
                    refine lv_goto (tgt := 12) hx hb dX5_others_155 (by decide) ?_
                    exact ih1 x_104 y_103 (om_31 LP1_h0 i_104) (om_mu hn1 (om_5 i_104) (om_6 i_13)) _ _ hP hD hS ls (lv_sub hl [0, 1, 4] rfl)
                · have i_99 : j.toInt < y_96.toInt := kc_nle c_99
                  refine lv_iload_n hx hb dX5_others_70 rfl (lv_at hl 1 rfl) ?_
                  refine lv_if_eq (tgt := 140) hx hb dX5_others_71 (by decide) (fun c_105 => ?_) (fun c_105 => ?_)
                  · have i_105 : is.toInt = 0 := kc_eq c_105
                    refine lv_iload_n hx hb dX5_others_140 rfl (lv_at hl 3 rfl) ?_
                    refine lv_iload_n hx hb dX5_others_141 rfl (lv_at hl 1 rfl) ?_
                    refine lv_if_eq (tgt := 149) hx hb dX5_others_142 (by decide) (fun c_106 => ?_) (fun c_106 => ?_)
                    · have i_106 : is.toInt = 0 := kc_eq c_106
                      refine lv_iconst (v := 1) hx hb dX5_others_149 (by decide) ?_
                      refine lv_iadd hx hb dX5_others_150 ?_
                      refine lv_topi (fun y_107 ey_107 => ?_)
                      refine lv_istore_n (lv' := [(1, .int y_107), (4, .int j), (3, .int is), (2, .int i), (0, .ref h0)]) hx hb dX5_others_151 rfl hl (by decide) rfl (fun ls hl => ?_)
                      obtain ⟨x_108, ex_108⟩ : ∃ y : Int32, y = i + 1 := ⟨_, rfl⟩
                      have i_108 : x_108.toInt = i.toInt + 1 := ki_add ex_108 rfl rfl (om_10 LP1_h0) (om_102 w_1.2.2.2 i_13)
                      refine lv_iinc (v := x_108) (lv' := [(2, .int x_108), (1, .int y_107), (4, .int j), (3, .int is), (0, .ref h0)]) hx hb dX5_others_152 hl (k := 3) rfl (by rw [ex_108]; rfl) (by decide) rfl (fun ls hl => ?_)
                      refine lv_goto (tgt := 12) hx hb dX5_others_155 (by decide) ?_
                      exact ih1 x_108 y_107 (om_31 LP1_h0 i_108) (om_mu hn1 (om_5 i_108) (om_6 i_13)) _ _ hP hD hS ls (lv_sub hl [0, 1, 4] rfl)
                    · have i_106 : ¬ is.toInt = 0 := kc_ne c_106
                      refine lv_iconst (v := 0) hx hb dX5_others_145 (by decide) ?_
                      refine lv_goto (tgt := 150) hx hb dX5_others_146 (by decide) ?_
                      refine lv_iadd hx hb dX5_others_150 ?_
                      refine lv_topi (fun y_109 ey_109 => ?_)
                      refine lv_istore_n (lv' := [(1, .int y_109), (4, .int j), (3, .int is), (2, .int i), (0, .ref h0)]) hx hb dX5_others_151 rfl hl (by decide) rfl (fun ls hl => ?_)
                      obtain ⟨x_110, ex_110⟩ : ∃ y : Int32, y = i + 1 := ⟨_, rfl⟩
                      have i_110 : x_110.toInt = i.toInt + 1 := ki_add ex_110 rfl rfl (om_10 LP1_h0) (om_102 w_1.2.2.2 i_13)
                      refine lv_iinc (v := x_110) (lv' := [(2, .int x_110), (1, .int y_109), (4, .int j), (3, .int is), (0, .ref h0)]) hx hb dX5_others_152 hl (k := 3) rfl (by rw [ex_110]; rfl) (by decide) rfl (fun ls hl => ?_)
                      refine lv_goto (tgt := 12) hx hb dX5_others_155 (by decide) ?_
                      exact ih1 x_110 y_109 (om_31 LP1_h0 i_110) (om_mu hn1 (om_5 i_110) (om_6 i_13)) _ _ hP hD hS ls (lv_sub hl [0, 1, 4] rfl)
                  · have i_105 : ¬ is.toInt = 0 := kc_ne c_105
                    refine lv_aload_n hx hb dX5_others_74 rfl (lv_at hl 4 rfl) ?_
                    refine va_get (D := (dC, dI)) (ci := 5) (v := .ref g_voteValue) (C := RX5) (T := TX5) (N := 30) hx hb hts hi_5 hown hK hP 4 rfl rfl 7 (by decide) hf_26 (fun _ h9 => h9) rfl dX5_others_75 ?_
                    refine lv_bipush (v := 6) hx hb dX5_others_78 (by decide) ?_
                    refine lv_iload_n hx hb dX5_others_80 rfl (lv_at hl 2 rfl) ?_
                    refine lv_imul hx hb dX5_others_81 ?_
                    refine lv_topi (fun y_111 ey_111 => ?_)
                    have i_111 : y_111.toInt = 6 * i.toInt := ki_mul ey_111 rfl rfl (om_167 LP1_h0) (om_287 w_1.2.2.2 i_13)
                    refine lv_iload hx hb dX5_others_82 (lv_at hl 0 rfl) ?_
                    refine lv_iadd hx hb dX5_others_84 ?_
                    refine lv_topi (fun y_112 ey_112 => ?_)
                    have i_112 : y_112.toInt = y_111.toInt + j.toInt := ki_add ey_112 rfl rfl (om_171 LP1_h0 LP4_h0 i_111) (by omega)
                    refine va_iald hx hb hK hP 9 0 rfl rfl (ki_in (om_172 LP1_h0 LP4_h0 i_111 i_112) (by omega)) dX5_others_85 ?_
                    refine lv_topi (fun y_113 ey_113 => ?_)
                    have j_113 : y_113.toInt = (o_7 y_112.toNatClampNeg).toInt := congrArg Int32.toInt ey_113
                    refine lv_aload_n hx hb dX5_others_86 rfl (lv_at hl 4 rfl) ?_
                    refine va_get (D := (dC, dI)) (ci := 5) (v := .ref g_wasValue) (C := RX5) (T := TX5) (N := 30) hx hb hts hi_5 hown hK hP 4 rfl rfl 19 (by decide) hf_53 (fun _ h9 => h9) rfl dX5_others_87 ?_
                    refine lv_bipush (v := 6) hx hb dX5_others_90 (by decide) ?_
                    refine lv_iload_n hx hb dX5_others_92 rfl (lv_at hl 2 rfl) ?_
                    refine lv_imul hx hb dX5_others_93 ?_
                    refine lv_topi (fun y_114 ey_114 => ?_)
                    have i_114 : y_114.toInt = 6 * i.toInt := ki_mul ey_114 rfl rfl (om_167 LP1_h0) (om_287 w_1.2.2.2 i_13)
                    refine lv_iload hx hb dX5_others_94 (lv_at hl 0 rfl) ?_
                    refine lv_iadd hx hb dX5_others_96 ?_
                    refine lv_topi (fun y_115 ey_115 => ?_)
                    have i_115 : y_115.toInt = y_114.toInt + j.toInt := ki_add ey_115 rfl rfl (om_171 LP1_h0 LP4_h0 i_114) (by omega)
                    refine va_iald hx hb hK hP 2 0 rfl rfl (ki_in (om_172 LP1_h0 LP4_h0 i_114 i_115) (by omega)) dX5_others_97 ?_
                    refine lv_topi (fun y_116 ey_116 => ?_)
                    have j_116 : y_116.toInt = (wv y_115.toNatClampNeg).toInt := congrArg Int32.toInt ey_116
                    refine lv_icmp_ne (tgt := 132) hx hb dX5_others_98 (by decide) (fun c_117 => ?_) (fun c_117 => ?_)
                    · have i_117 : ¬ y_113.toInt = y_116.toInt := kc_ne c_117
                      refine lv_iconst (v := 0) hx hb dX5_others_132 (by decide) ?_
                      refine lv_istore_n (lv' := [(3, .int 0), (4, .int j), (2, .int i), (1, .int sm), (0, .ref h0)]) hx hb dX5_others_133 rfl hl (by decide) rfl (fun ls hl => ?_)
                      obtain ⟨x_118, ex_118⟩ : ∃ y : Int32, y = j + 1 := ⟨_, rfl⟩
                      have i_118 : x_118.toInt = j.toInt + 1 := ki_add ex_118 rfl rfl (om_10 LP4_h0) (by omega)
                      refine lv_iinc (v := x_118) (lv' := [(4, .int x_118), (3, .int 0), (2, .int i), (1, .int sm), (0, .ref h0)]) hx hb dX5_others_134 hl (k := 1) rfl (by rw [ex_118]; rfl) (by decide) rfl (fun ls hl => ?_)
                      refine lv_goto (tgt := 59) hx hb dX5_others_137 (by decide) ?_
                      have k_119 : (0 : Int32).toInt = 0 := rfl
                      exact ih4 x_118 0 (om_31 LP4_h0 i_118) (by omega) _ _ hP hD hS ls (lv_sub hl [0, 1, 2, 3, 4] rfl)
                    · have i_117 : y_113.toInt = y_116.toInt := kc_eq c_117
                      refine lv_aload_n hx hb dX5_others_101 rfl (lv_at hl 4 rfl) ?_
                      refine va_get (D := (dC, dI)) (ci := 5) (v := .ref g_voteNumber) (C := RX5) (T := TX5) (N := 30) hx hb hts hi_5 hown hK hP 4 rfl rfl 8 (by decide) hf_29 (fun _ h9 => h9) rfl dX5_others_102 ?_
                      refine lv_bipush (v := 6) hx hb dX5_others_105 (by decide) ?_
                      refine lv_iload_n hx hb dX5_others_107 rfl (lv_at hl 2 rfl) ?_
                      refine lv_imul hx hb dX5_others_108 ?_
                      refine lv_topi (fun y_120 ey_120 => ?_)
                      have i_120 : y_120.toInt = 6 * i.toInt := ki_mul ey_120 rfl rfl (om_167 LP1_h0) (om_287 w_1.2.2.2 i_13)
                      refine lv_iload hx hb dX5_others_109 (lv_at hl 0 rfl) ?_
                      refine lv_iadd hx hb dX5_others_111 ?_
                      refine lv_topi (fun y_121 ey_121 => ?_)
                      have i_121 : y_121.toInt = y_120.toInt + j.toInt := ki_add ey_121 rfl rfl (om_171 LP1_h0 LP4_h0 i_120) (by omega)
                      refine va_iald hx hb hK hP 10 0 rfl rfl (ki_in (om_172 LP1_h0 LP4_h0 i_120 i_121) (by omega)) dX5_others_112 ?_
                      refine lv_topi (fun y_122 ey_122 => ?_)
                      have j_122 : y_122.toInt = (o_8 y_121.toNatClampNeg).toInt := congrArg Int32.toInt ey_122
                      refine lv_aload_n hx hb dX5_others_113 rfl (lv_at hl 4 rfl) ?_
                      refine va_get (D := (dC, dI)) (ci := 5) (v := .ref g_wasNumber) (C := RX5) (T := TX5) (N := 30) hx hb hts hi_5 hown hK hP 4 rfl rfl 20 (by decide) hf_56 (fun _ h9 => h9) rfl dX5_others_114 ?_
                      refine lv_bipush (v := 6) hx hb dX5_others_117 (by decide) ?_
                      refine lv_iload_n hx hb dX5_others_119 rfl (lv_at hl 2 rfl) ?_
                      refine lv_imul hx hb dX5_others_120 ?_
                      refine lv_topi (fun y_123 ey_123 => ?_)
                      have i_123 : y_123.toInt = 6 * i.toInt := ki_mul ey_123 rfl rfl (om_167 LP1_h0) (om_287 w_1.2.2.2 i_13)
                      refine lv_iload hx hb dX5_others_121 (lv_at hl 0 rfl) ?_
                      refine lv_iadd hx hb dX5_others_123 ?_
                      refine lv_topi (fun y_124 ey_124 => ?_)
                      have i_124 : y_124.toInt = y_123.toInt + j.toInt := ki_add ey_124 rfl rfl (om_171 LP1_h0 LP4_h0 i_123) (by omega)
                      refine va_iald hx hb hK hP 3 0 rfl rfl (ki_in (om_172 LP1_h0 LP4_h0 i_123 i_124) (by omega)) dX5_others_124 ?_
                      refine lv_topi (fun y_125 ey_125 => ?_)
                      have j_125 : y_125.toInt = (wn y_124.toNatClampNeg).toInt := congrArg Int32.toInt ey_125
                      refine lv_icmp_ne (tgt := 132) hx hb dX5_others_125 (by decide) (fun c_126 => ?_) (fun c_126 => ?_)
                      · have i_126 : ¬ y_122.toInt = y_125.toInt := kc_ne c_126
                        refine lv_iconst (v := 0) hx hb dX5_others_132 (by decide) ?_
                        refine lv_istore_n (lv' := [(3, .int 0), (4, .int j), (2, .int i), (1, .int sm), (0, .ref h0)]) hx hb dX5_others_133 rfl hl (by decide) rfl (fun ls hl => ?_)
                        obtain ⟨x_127, ex_127⟩ : ∃ y : Int32, y = j + 1 := ⟨_, rfl⟩
                        have i_127 : x_127.toInt = j.toInt + 1 := ki_add ex_127 rfl rfl (om_10 LP4_h0) (by omega)
                        refine lv_iinc (v := x_127) (lv' := [(4, .int x_127), (3, .int 0), (2, .int i), (1, .int sm), (0, .ref h0)]) hx hb dX5_others_134 hl (k := 1) rfl (by rw [ex_127]; rfl) (by decide) rfl (fun ls hl => ?_)
                        refine lv_goto (tgt := 59) hx hb dX5_others_137 (by decide) ?_
                        have k_128 : (0 : Int32).toInt = 0 := rfl
                        exact ih4 x_127 0 (om_31 LP4_h0 i_127) (by omega) _ _ hP hD hS ls (lv_sub hl [0, 1, 2, 3, 4] rfl)
                      · have i_126 : y_122.toInt = y_125.toInt := kc_eq c_126
                        refine lv_iconst (v := 1) hx hb dX5_others_128 (by decide) ?_
                        refine lv_goto (tgt := 133) hx hb dX5_others_129 (by decide) ?_
                        refine lv_istore_n (lv' := [(3, .int 1), (4, .int j), (2, .int i), (1, .int sm), (0, .ref h0)]) hx hb dX5_others_133 rfl hl (by decide) rfl (fun ls hl => ?_)
                        obtain ⟨x_129, ex_129⟩ : ∃ y : Int32, y = j + 1 := ⟨_, rfl⟩
                        have i_129 : x_129.toInt = j.toInt + 1 := ki_add ex_129 rfl rfl (om_10 LP4_h0) (by omega)
                        refine lv_iinc (v := x_129) (lv' := [(4, .int x_129), (3, .int 1), (2, .int i), (1, .int sm), (0, .ref h0)]) hx hb dX5_others_134 hl (k := 1) rfl (by rw [ex_129]; rfl) (by decide) rfl (fun ls hl => ?_)
                        refine lv_goto (tgt := 59) hx hb dX5_others_137 (by decide) ?_
                        have k_130 : (1 : Int32).toInt = 1 := rfl
                        exact ih4 x_129 1 (om_31 LP4_h0 i_129) (by omega) _ _ hP hD hS ls (lv_sub hl [0, 1, 2, 3, 4] rfl)
            have k_131 : (0 : Int32).toInt = 0 := rfl
            have k_132 : (1 : Int32).toInt = 1 := rfl
            exact LP4 ((6 - 0 : Int).toNat + 1) 0 1 om_32 (Nat.lt_succ_self _) _ _ hP hD hS ls (lv_sub hl [0, 1, 2, 3, 4] rfl)
  have k_133 : (0 : Int32).toInt = 0 := rfl
  have k_134 : (0 : Int32).toInt = 0 := rfl
  exact LP1 ((o_2.toInt - 0 : Int).toNat + 1) 0 0 om_32 (Nat.lt_succ_self _) _ _ hP hD hS ls (lv_sub hl [0, 1, 2] rfl)

set_option maxHeartbeats 4000000 in
set_option maxRecDepth 100000 in
theorem c_X5_exchanges (l : Launch) (dC : Nat → ClassId) (dI : Nat → Nat → Nat) (h0 : Nat) (g_row : Nat) (g_many : Nat) (g_loss : Nat) (g_less : Nat) (g_voteValue : Nat) (g_voteNumber : Nat) (g_allValue : Nat) (g_allNumber : Nat) (g_nodeL : Nat) (g_nodeR : Nat) (g_part : Nat) (g_wasMany : Nat) (g_wasLoss : Nat) (g_wasValue : Nat) (g_wasNumber : Nat) (g_path : Nat) (g_heavyValue : Nat) (g_heavyTimes : Nat) (g_fewest : Nat) (g_which : Nat) (g_met : Nat) (m_n : Int32) (m_slots : Int32) (m_thrown : Int32) (m_allMany : Int32) (m_nodes : Int32) (m_partMany : Int32) (m_pathMany : Int32) (m_heavyMany : Int32) (m_mostMet : Int32) (cyI : ClassId) (f : Nat → Int32) (p0 : Int32) (p1 : Int32) (sz : Nat) (b0 : 0 ≤ p0.toInt) (b1 : p0.toInt < 160) (b2 : 0 ≤ p1.toInt) (b3 : p1.toInt < 160) : Met l yX5_exchanges wsX5_exchanges ({ frames := 0, cells := 0, slots := 0, locals := 0 }) (va_Pc [.ref h0, .int p0, .int p1] (fun U => U.heap.size = sz ∧ va_P (dC, dI) vwCl [kx_5 h0 g_row m_n m_slots m_thrown g_many g_loss g_less g_voteValue g_voteNumber g_allValue g_allNumber m_allMany g_nodeL g_nodeR m_nodes g_part m_partMany g_wasMany g_wasLoss g_wasValue g_wasNumber g_path m_pathMany g_heavyValue g_heavyTimes m_heavyMany g_fewest g_which g_met m_mostMet, kx_a g_row cyI 160 f] U.heap ∧ va_K (dC, dI) vwCl [(cyI, .int)] U ∧ va_D (fun _ => True) [kx_5 h0 g_row m_n m_slots m_thrown g_many g_loss g_less g_voteValue g_voteNumber g_allValue g_allNumber m_allMany g_nodeL g_nodeR m_nodes g_part m_partMany g_wasMany g_wasLoss g_wasValue g_wasNumber g_path m_pathMany g_heavyValue g_heavyTimes m_heavyMany g_fewest g_which g_met m_mostMet, kx_a g_row cyI 160 f])) (va_Qv (fun u : (Nat → Int32) => u = mj_ex f p0.toNatClampNeg p1.toNatClampNeg) (fun (u : (Nat → Int32)) (t : State) => va_P (dC, dI) vwCl [kx_5 h0 g_row m_n m_slots m_thrown g_many g_loss g_less g_voteValue g_voteNumber g_allValue g_allNumber m_allMany g_nodeL g_nodeR m_nodes g_part m_partMany g_wasMany g_wasLoss g_wasValue g_wasNumber g_path m_pathMany g_heavyValue g_heavyTimes m_heavyMany g_fewest g_which g_met m_mostMet, kx_a g_row cyI 160 u] t.heap ∧ va_K (dC, dI) vwCl [(cyI, .int)] t ∧ va_D (va_A [kx_5 h0 g_row m_n m_slots m_thrown g_many g_loss g_less g_voteValue g_voteNumber g_allValue g_allNumber m_allMany g_nodeL g_nodeR m_nodes g_part m_partMany g_wasMany g_wasLoss g_wasValue g_wasNumber g_path m_pathMany g_heavyValue g_heavyTimes m_heavyMany g_fewest g_which g_met m_mostMet, kx_a g_row cyI 160 f] sz) [kx_5 h0 g_row m_n m_slots m_thrown g_many g_loss g_less g_voteValue g_voteNumber g_allValue g_allNumber m_allMany g_nodeL g_nodeR m_nodes g_part m_partMany g_wasMany g_wasLoss g_wasValue g_wasNumber g_path m_pathMany g_heavyValue g_heavyTimes m_heavyMany g_fewest g_which g_met m_mostMet, kx_a g_row cyI 160 u]) (va_A [kx_5 h0 g_row m_n m_slots m_thrown g_many g_loss g_less g_voteValue g_voteNumber g_allValue g_allNumber m_allMany g_nodeL g_nodeR m_nodes g_part m_partMany g_wasMany g_wasLoss g_wasValue g_wasNumber g_path m_pathMany g_heavyValue g_heavyTimes m_heavyMany g_fewest g_which g_met m_mostMet, kx_a g_row cyI 160 f] sz)) 0 0 (va_A [kx_5 h0 g_row m_n m_slots m_thrown g_many g_loss g_less g_voteValue g_voteNumber g_allValue g_allNumber m_allMany g_nodeL g_nodeR m_nodes g_part m_partMany g_wasMany g_wasLoss g_wasValue g_wasNumber g_path m_pathMany g_heavyValue g_heavyTimes m_heavyMany g_fewest g_which g_met m_mostMet, kx_a g_row cyI 160 f] sz) := by
  refine Met.ofW (cc := cX5_exchanges) (maxL := 4) (ret := none) (by decide) rfl ?_
  intro p e s m args below meth c s₁ B hml hv
  obtain ⟨rfl, hsz, hP, hK, hD0⟩ := hv
  have hx := B.exec
  have hb := B.bytes
  have hr := B.returns
  have hts := atoms_spec (ws := wsX5_exchanges) B.pre
  have hown : s.vm.findClass RX5 = some m.cls := findClass_of_methodNamed B.named
  have hlocks := B.notSynchronized
  subst hsz
  have hD := hD0.self (sz := s.heap.size)
  generalize hAe : va_A [kx_5 h0 g_row m_n m_slots m_thrown g_many g_loss g_less g_voteValue g_voteNumber g_allValue g_allNumber m_allMany g_nodeL g_nodeR m_nodes g_part m_partMany g_wasMany g_wasLoss g_wasValue g_wasNumber g_path m_pathMany g_heavyValue g_heavyTimes m_heavyMany g_fewest g_which g_met m_mostMet, kx_a g_row cyI 160 f] s.heap.size = A at hD ⊢
  have hA : ∀ q : Nat, s.heap.size ≤ q → A q := fun q h => by rw [← hAe]; exact Or.inr h
  have hS : va_S A s.heap s.heap [] := va_S.rf
  have hP : va_P (dC, dI) vwCl [kx_5 h0 g_row m_n m_slots m_thrown g_many g_loss g_less g_voteValue g_voteNumber g_allValue g_allNumber m_allMany g_nodeL g_nodeR m_nodes g_part m_partMany g_wasMany g_wasLoss g_wasValue g_wasNumber g_path m_pathMany g_heavyValue g_heavyTimes m_heavyMany g_fewest g_which g_met m_mostMet, kx_a g_row cyI 160 f] s.heap := hP
  have hl := lv_entry ([.ref h0, .int p0, .int p1]) (n := 4) (Nat.le_of_ble_eq_true rfl)
  rw [lg_entry_eq]
  generalize (lg_sl ([.ref h0, .int p0, .int p1]) ++ List.replicate (4 - (lg_sl ([.ref h0, .int p0, .int p1])).length) Slot.unset).toArray = ls at hl ⊢
  have hl : lv_has ls 4 [(0, .ref h0), (1, .int p0), (2, .int p1)] := hl
  have hf_7 := hts (.fieldLink RX5 7 "MajorityIndexModel" "row" "[I") (List.mem_of_getElem? (i := 1) rfl)
  have hi_5 : ∀ w ∈ u_ws RX5 TX5 30, w ∈ wsX5_exchanges := fun w h => List.mem_cons_of_mem _ (List.mem_append_right _ h)
  refine lv_aload_n hx hb dX5_exchanges_0 rfl (lv_at hl 0 rfl) ?_
  refine va_get (D := (dC, dI)) (ci := 5) (v := .ref g_row) (C := RX5) (T := TX5) (N := 30) hx hb hts hi_5 hown hK hP 0 rfl rfl 0 (by decide) hf_7 (fun _ h9 => h9) rfl dX5_exchanges_1 ?_
  refine lv_iload_n hx hb dX5_exchanges_4 rfl (lv_at hl 1 rfl) ?_
  refine va_iald hx hb hK hP 1 0 rfl rfl (ki_in (om_8 b0) (om_9 b1)) dX5_exchanges_5 ?_
  refine lv_topi (fun y_1 ey_1 => ?_)
  have j_1 : y_1.toInt = (f p0.toNatClampNeg).toInt := congrArg Int32.toInt ey_1
  refine lv_istore_n (lv' := [(3, .int y_1), (0, .ref h0), (1, .int p0), (2, .int p1)]) hx hb dX5_exchanges_6 rfl hl (by decide) rfl (fun ls hl => ?_)
  refine lv_aload_n hx hb dX5_exchanges_7 rfl (lv_at hl 1 rfl) ?_
  refine va_get (D := (dC, dI)) (ci := 5) (v := .ref g_row) (C := RX5) (T := TX5) (N := 30) hx hb hts hi_5 hown hK hP 0 rfl rfl 0 (by decide) hf_7 (fun _ h9 => h9) rfl dX5_exchanges_8 ?_
  refine lv_iload_n hx hb dX5_exchanges_11 rfl (lv_at hl 2 rfl) ?_
  refine lv_aload_n hx hb dX5_exchanges_12 rfl (lv_at hl 1 rfl) ?_
  refine va_get (D := (dC, dI)) (ci := 5) (v := .ref g_row) (C := RX5) (T := TX5) (N := 30) hx hb hts hi_5 hown hK hP 0 rfl rfl 0 (by decide) hf_7 (fun _ h9 => h9) rfl dX5_exchanges_13 ?_
  refine lv_iload_n hx hb dX5_exchanges_16 rfl (lv_at hl 3 rfl) ?_
  refine va_iald hx hb hK hP 1 0 rfl rfl (ki_in (om_8 b2) (om_9 b3)) dX5_exchanges_17 ?_
  refine lv_topi (fun y_2 ey_2 => ?_)
  have j_2 : y_2.toInt = (f p1.toNatClampNeg).toInt := congrArg Int32.toInt ey_2
  refine va_iast hx hb hK hP hD hS 1 0 rfl rfl (ki_in (om_8 b0) (om_9 b1)) dX5_exchanges_18 (fun H locs hP hD hS => ?_)
  have hP : va_P (dC, dI) vwCl [kx_5 h0 g_row m_n m_slots m_thrown g_many g_loss g_less g_voteValue g_voteNumber g_allValue g_allNumber m_allMany g_nodeL g_nodeR m_nodes g_part m_partMany g_wasMany g_wasLoss g_wasValue g_wasNumber g_path m_pathMany g_heavyValue g_heavyTimes m_heavyMany g_fewest g_which g_met m_mostMet, kx_a g_row cyI 160 (upd f p0.toNatClampNeg y_2)] H := hP
  have hD : va_D A [kx_5 h0 g_row m_n m_slots m_thrown g_many g_loss g_less g_voteValue g_voteNumber g_allValue g_allNumber m_allMany g_nodeL g_nodeR m_nodes g_part m_partMany g_wasMany g_wasLoss g_wasValue g_wasNumber g_path m_pathMany g_heavyValue g_heavyTimes m_heavyMany g_fewest g_which g_met m_mostMet, kx_a g_row cyI 160 (upd f p0.toNatClampNeg y_2)] := hD
  refine lv_aload_n hx hb dX5_exchanges_19 rfl (lv_at hl 1 rfl) ?_
  refine va_get (D := (dC, dI)) (ci := 5) (v := .ref g_row) (C := RX5) (T := TX5) (N := 30) hx hb hts hi_5 hown hK hP 0 rfl rfl 0 (by decide) hf_7 (fun _ h9 => h9) rfl dX5_exchanges_20 ?_
  refine lv_iload_n hx hb dX5_exchanges_23 rfl (lv_at hl 3 rfl) ?_
  refine lv_iload_n hx hb dX5_exchanges_24 rfl (lv_at hl 0 rfl) ?_
  refine va_iast hx hb hK hP hD hS 1 0 rfl rfl (ki_in (om_8 b2) (om_9 b3)) dX5_exchanges_25 (fun H locs hP hD hS => ?_)
  have hP : va_P (dC, dI) vwCl [kx_5 h0 g_row m_n m_slots m_thrown g_many g_loss g_less g_voteValue g_voteNumber g_allValue g_allNumber m_allMany g_nodeL g_nodeR m_nodes g_part m_partMany g_wasMany g_wasLoss g_wasValue g_wasNumber g_path m_pathMany g_heavyValue g_heavyTimes m_heavyMany g_fewest g_which g_met m_mostMet, kx_a g_row cyI 160 (upd (upd f p0.toNatClampNeg y_2) p1.toNatClampNeg y_1)] H := hP
  have hD : va_D A [kx_5 h0 g_row m_n m_slots m_thrown g_many g_loss g_less g_voteValue g_voteNumber g_allValue g_allNumber m_allMany g_nodeL g_nodeR m_nodes g_part m_partMany g_wasMany g_wasLoss g_wasValue g_wasNumber g_path m_pathMany g_heavyValue g_heavyTimes m_heavyMany g_fewest g_which g_met m_mostMet, kx_a g_row cyI 160 (upd (upd f p0.toNatClampNeg y_2) p1.toNatClampNeg y_1)] := hD
  have hP9 := hP
  have hD9 := hD
  have hK9 := hK
  exact W.vret hx hb hr (fun t ht hW => ⟨⟨((upd (upd f p0.toNatClampNeg y_2) p1.toNatClampNeg y_1)), rfl, (by (try dsimp only); rw [ey_2, ey_1]; rfl), by rw [ht]; exact hP9, va_K.moved hW.alike hK9, hD9⟩, hS.F ht⟩) hS.2.2 dX5_exchanges_26

set_option maxHeartbeats 4000000 in
set_option maxRecDepth 100000 in
theorem c_X5_fill (l : Launch) (dC : Nat → ClassId) (dI : Nat → Nat → Nat) (h0 : Nat) (g_row : Nat) (g_many : Nat) (g_loss : Nat) (g_less : Nat) (g_voteValue : Nat) (g_voteNumber : Nat) (g_allValue : Nat) (g_allNumber : Nat) (g_nodeL : Nat) (g_nodeR : Nat) (g_part : Nat) (g_wasMany : Nat) (g_wasLoss : Nat) (g_wasValue : Nat) (g_wasNumber : Nat) (g_path : Nat) (g_heavyValue : Nat) (g_heavyTimes : Nat) (g_fewest : Nat) (g_which : Nat) (g_met : Nat) (m_n : Int32) (m_slots : Int32) (m_thrown : Int32) (m_allMany : Int32) (m_nodes : Int32) (m_partMany : Int32) (m_pathMany : Int32) (m_heavyMany : Int32) (m_mostMet : Int32) (cyI : ClassId) (fm : Nat → Int32) (fl : Nat → Int32) (fe : Nat → Int32) (vv : Nat → Int32) (vn : Nat → Int32) (f : Nat → Int32) (av : Nat → Int32) (an : Nat → Int32) (nl : Nat → Int32) (nr : Nat → Int32) (wm : Nat → Int32) (wl : Nat → Int32) (wv : Nat → Int32) (wn : Nat → Int32) (p0 : Int32) (p1 : Int32) (p2 : Int32) (sz : Nat) (a0 : 0 ≤ m_n.toInt) (a1 : m_n.toInt ≤ 160) (sl0 : 1 ≤ m_slots.toInt) (sl1 : m_slots.toInt ≤ 6) (s4 : six4 fm) (s1 : shorts f) : Met l yX5_fill wsX5_fill ({ frames := 13, cells := 0, slots := 0, locals := 585 }) (va_Pc [.ref h0, .int p0, .int p1, .int p2] (fun U => U.heap.size = sz ∧ va_P (dC, dI) vwCl [kx_5 h0 g_row m_n m_slots m_thrown g_many g_loss g_less g_voteValue g_voteNumber g_allValue g_allNumber m_allMany g_nodeL g_nodeR m_nodes g_part m_partMany g_wasMany g_wasLoss g_wasValue g_wasNumber g_path m_pathMany g_heavyValue g_heavyTimes m_heavyMany g_fewest g_which g_met m_mostMet, kx_a g_row cyI 160 f, kx_a g_many cyI 324 fm, kx_a g_loss cyI 324 fl, kx_a g_less cyI 324 fe, kx_a g_voteValue cyI 1944 vv, kx_a g_voteNumber cyI 1944 vn, kx_a g_allValue cyI 12 av, kx_a g_allNumber cyI 12 an, kx_a g_nodeL cyI 320 nl, kx_a g_nodeR cyI 320 nr, kx_a g_wasMany cyI 320 wm, kx_a g_wasLoss cyI 320 wl, kx_a g_wasValue cyI 1920 wv, kx_a g_wasNumber cyI 1920 wn] U.heap ∧ va_K (dC, dI) vwCl [(cyI, .int)] U ∧ va_D (fun _ => True) [kx_5 h0 g_row m_n m_slots m_thrown g_many g_loss g_less g_voteValue g_voteNumber g_allValue g_allNumber m_allMany g_nodeL g_nodeR m_nodes g_part m_partMany g_wasMany g_wasLoss g_wasValue g_wasNumber g_path m_pathMany g_heavyValue g_heavyTimes m_heavyMany g_fewest g_which g_met m_mostMet, kx_a g_row cyI 160 f, kx_a g_many cyI 324 fm, kx_a g_loss cyI 324 fl, kx_a g_less cyI 324 fe, kx_a g_voteValue cyI 1944 vv, kx_a g_voteNumber cyI 1944 vn, kx_a g_allValue cyI 12 av, kx_a g_allNumber cyI 12 an, kx_a g_nodeL cyI 320 nl, kx_a g_nodeR cyI 320 nr, kx_a g_wasMany cyI 320 wm, kx_a g_wasLoss cyI 320 wl, kx_a g_wasValue cyI 1920 wv, kx_a g_wasNumber cyI 1920 wn])) (va_Qi (fun (r : Int32) (u : Int32 × Int32 × (Nat → Int32) × (Nat → Int32) × (Nat → Int32) × (Nat → Int32) × (Nat → Int32) × (Nat → Int32) × (Nat → Int32) × (Nat → Int32) × (Nat → Int32) × (Nat → Int32) × (Nat → Int32) × (Nat → Int32) × (Nat → Int32) × (Nat → Int32)) => (((0 ≤ p0.toInt ∧ p0.toInt < p1.toInt ∧ p1.toInt ≤ m_n.toInt ∧ -32768 ≤ p2.toInt ∧ p2.toInt ≤ 32767) ∧ u.2.2.2.2.2.2.2.2.2.2.2.2.2.2.2 = mj_fill f p0.toNatClampNeg p1.toNatClampNeg p2) ∨ ((p0.toInt < 0 ∨ p1.toInt ≤ p0.toInt ∨ m_n.toInt < p1.toInt ∨ p2.toInt < -32768 ∨ 32767 < p2.toInt) ∧ u.2.2.2.2.2.2.2.2.2.2.2.2.2.2.2 = f ∧ r = -1)) ∧ shorts u.2.2.2.2.2.2.2.2.2.2.2.2.2.2.2 ∧ six4 u.2.2.1) (fun (u : Int32 × Int32 × (Nat → Int32) × (Nat → Int32) × (Nat → Int32) × (Nat → Int32) × (Nat → Int32) × (Nat → Int32) × (Nat → Int32) × (Nat → Int32) × (Nat → Int32) × (Nat → Int32) × (Nat → Int32) × (Nat → Int32) × (Nat → Int32) × (Nat → Int32)) (t : State) => va_P (dC, dI) vwCl [kx_5 h0 g_row m_n m_slots 0 g_many g_loss g_less g_voteValue g_voteNumber g_allValue g_allNumber u.2.1 g_nodeL g_nodeR u.1 g_part m_partMany g_wasMany g_wasLoss g_wasValue g_wasNumber g_path m_pathMany g_heavyValue g_heavyTimes m_heavyMany g_fewest g_which g_met m_mostMet, kx_a g_row cyI 160 u.2.2.2.2.2.2.2.2.2.2.2.2.2.2.2, kx_a g_many cyI 324 u.2.2.1, kx_a g_loss cyI 324 u.2.2.2.1, kx_a g_less cyI 324 u.2.2.2.2.1, kx_a g_voteValue cyI 1944 u.2.2.2.2.2.1, kx_a g_voteNumber cyI 1944 u.2.2.2.2.2.2.1, kx_a g_allValue cyI 12 u.2.2.2.2.2.2.2.1, kx_a g_allNumber cyI 12 u.2.2.2.2.2.2.2.2.1, kx_a g_nodeL cyI 320 u.2.2.2.2.2.2.2.2.2.1, kx_a g_nodeR cyI 320 u.2.2.2.2.2.2.2.2.2.2.1, kx_a g_wasMany cyI 320 u.2.2.2.2.2.2.2.2.2.2.2.1, kx_a g_wasLoss cyI 320 u.2.2.2.2.2.2.2.2.2.2.2.2.1, kx_a g_wasValue cyI 1920 u.2.2.2.2.2.2.2.2.2.2.2.2.2.1, kx_a g_wasNumber cyI 1920 u.2.2.2.2.2.2.2.2.2.2.2.2.2.2.1] t.heap ∧ va_K (dC, dI) vwCl [(cyI, .int)] t ∧ va_D (va_A [kx_5 h0 g_row m_n m_slots m_thrown g_many g_loss g_less g_voteValue g_voteNumber g_allValue g_allNumber m_allMany g_nodeL g_nodeR m_nodes g_part m_partMany g_wasMany g_wasLoss g_wasValue g_wasNumber g_path m_pathMany g_heavyValue g_heavyTimes m_heavyMany g_fewest g_which g_met m_mostMet, kx_a g_row cyI 160 f, kx_a g_many cyI 324 fm, kx_a g_loss cyI 324 fl, kx_a g_less cyI 324 fe, kx_a g_voteValue cyI 1944 vv, kx_a g_voteNumber cyI 1944 vn, kx_a g_allValue cyI 12 av, kx_a g_allNumber cyI 12 an, kx_a g_nodeL cyI 320 nl, kx_a g_nodeR cyI 320 nr, kx_a g_wasMany cyI 320 wm, kx_a g_wasLoss cyI 320 wl, kx_a g_wasValue cyI 1920 wv, kx_a g_wasNumber cyI 1920 wn] sz) [kx_5 h0 g_row m_n m_slots 0 g_many g_loss g_less g_voteValue g_voteNumber g_allValue g_allNumber u.2.1 g_nodeL g_nodeR u.1 g_part m_partMany g_wasMany g_wasLoss g_wasValue g_wasNumber g_path m_pathMany g_heavyValue g_heavyTimes m_heavyMany g_fewest g_which g_met m_mostMet, kx_a g_row cyI 160 u.2.2.2.2.2.2.2.2.2.2.2.2.2.2.2, kx_a g_many cyI 324 u.2.2.1, kx_a g_loss cyI 324 u.2.2.2.1, kx_a g_less cyI 324 u.2.2.2.2.1, kx_a g_voteValue cyI 1944 u.2.2.2.2.2.1, kx_a g_voteNumber cyI 1944 u.2.2.2.2.2.2.1, kx_a g_allValue cyI 12 u.2.2.2.2.2.2.2.1, kx_a g_allNumber cyI 12 u.2.2.2.2.2.2.2.2.1, kx_a g_nodeL cyI 320 u.2.2.2.2.2.2.2.2.2.1, kx_a g_nodeR cyI 320 u.2.2.2.2.2.2.2.2.2.2.1, kx_a g_wasMany cyI 320 u.2.2.2.2.2.2.2.2.2.2.2.1, kx_a g_wasLoss cyI 320 u.2.2.2.2.2.2.2.2.2.2.2.2.1, kx_a g_wasValue cyI 1920 u.2.2.2.2.2.2.2.2.2.2.2.2.2.1, kx_a g_wasNumber cyI 1920 u.2.2.2.2.2.2.2.2.2.2.2.2.2.2.1]) (va_A [kx_5 h0 g_row m_n m_slots m_thrown g_many g_loss g_less g_voteValue g_voteNumber g_allValue g_allNumber m_allMany g_nodeL g_nodeR m_nodes g_part m_partMany g_wasMany g_wasLoss g_wasValue g_wasNumber g_path m_pathMany g_heavyValue g_heavyTimes m_heavyMany g_fewest g_which g_met m_mostMet, kx_a g_row cyI 160 f, kx_a g_many cyI 324 fm, kx_a g_loss cyI 324 fl, kx_a g_less cyI 324 fe, kx_a g_voteValue cyI 1944 vv, kx_a g_voteNumber cyI 1944 vn, kx_a g_allValue cyI 12 av, kx_a g_allNumber cyI 12 an, kx_a g_nodeL cyI 320 nl, kx_a g_nodeR cyI 320 nr, kx_a g_wasMany cyI 320 wm, kx_a g_wasLoss cyI 320 wl, kx_a g_wasValue cyI 1920 wv, kx_a g_wasNumber cyI 1920 wn] sz)) 0 0 (va_A [kx_5 h0 g_row m_n m_slots m_thrown g_many g_loss g_less g_voteValue g_voteNumber g_allValue g_allNumber m_allMany g_nodeL g_nodeR m_nodes g_part m_partMany g_wasMany g_wasLoss g_wasValue g_wasNumber g_path m_pathMany g_heavyValue g_heavyTimes m_heavyMany g_fewest g_which g_met m_mostMet, kx_a g_row cyI 160 f, kx_a g_many cyI 324 fm, kx_a g_loss cyI 324 fl, kx_a g_less cyI 324 fe, kx_a g_voteValue cyI 1944 vv, kx_a g_voteNumber cyI 1944 vn, kx_a g_allValue cyI 12 av, kx_a g_allNumber cyI 12 an, kx_a g_nodeL cyI 320 nl, kx_a g_nodeR cyI 320 nr, kx_a g_wasMany cyI 320 wm, kx_a g_wasLoss cyI 320 wl, kx_a g_wasValue cyI 1920 wv, kx_a g_wasNumber cyI 1920 wn] sz) := by
  refine Met.ofW (cc := cX5_fill) (maxL := 5) (ret := (some .int)) (by decide) rfl ?_
  intro p e s m args below meth c s₁ B hml hv
  obtain ⟨rfl, hsz, hP, hK, hD0⟩ := hv
  have hx := B.exec
  have hb := B.bytes
  have hr := B.returns
  have hts := atoms_spec (ws := wsX5_fill) B.pre
  have hown : s.vm.findClass RX5 = some m.cls := findClass_of_methodNamed B.named
  have hlocks := B.notSynchronized
  subst hsz
  have hD := hD0.self (sz := s.heap.size)
  generalize hAe : va_A [kx_5 h0 g_row m_n m_slots m_thrown g_many g_loss g_less g_voteValue g_voteNumber g_allValue g_allNumber m_allMany g_nodeL g_nodeR m_nodes g_part m_partMany g_wasMany g_wasLoss g_wasValue g_wasNumber g_path m_pathMany g_heavyValue g_heavyTimes m_heavyMany g_fewest g_which g_met m_mostMet, kx_a g_row cyI 160 f, kx_a g_many cyI 324 fm, kx_a g_loss cyI 324 fl, kx_a g_less cyI 324 fe, kx_a g_voteValue cyI 1944 vv, kx_a g_voteNumber cyI 1944 vn, kx_a g_allValue cyI 12 av, kx_a g_allNumber cyI 12 an, kx_a g_nodeL cyI 320 nl, kx_a g_nodeR cyI 320 nr, kx_a g_wasMany cyI 320 wm, kx_a g_wasLoss cyI 320 wl, kx_a g_wasValue cyI 1920 wv, kx_a g_wasNumber cyI 1920 wn] s.heap.size = A at hD ⊢
  have hA : ∀ q : Nat, s.heap.size ≤ q → A q := fun q h => by rw [← hAe]; exact Or.inr h
  have hS : va_S A s.heap s.heap [] := va_S.rf
  have hP : va_P (dC, dI) vwCl [kx_5 h0 g_row m_n m_slots m_thrown g_many g_loss g_less g_voteValue g_voteNumber g_allValue g_allNumber m_allMany g_nodeL g_nodeR m_nodes g_part m_partMany g_wasMany g_wasLoss g_wasValue g_wasNumber g_path m_pathMany g_heavyValue g_heavyTimes m_heavyMany g_fewest g_which g_met m_mostMet, kx_a g_row cyI 160 f, kx_a g_many cyI 324 fm, kx_a g_loss cyI 324 fl, kx_a g_less cyI 324 fe, kx_a g_voteValue cyI 1944 vv, kx_a g_voteNumber cyI 1944 vn, kx_a g_allValue cyI 12 av, kx_a g_allNumber cyI 12 an, kx_a g_nodeL cyI 320 nl, kx_a g_nodeR cyI 320 nr, kx_a g_wasMany cyI 320 wm, kx_a g_wasLoss cyI 320 wl, kx_a g_wasValue cyI 1920 wv, kx_a g_wasNumber cyI 1920 wn] s.heap := hP
  have hl := lv_entry ([.ref h0, .int p0, .int p1, .int p2]) (n := 5) (Nat.le_of_ble_eq_true rfl)
  rw [lg_entry_eq]
  generalize (lg_sl ([.ref h0, .int p0, .int p1, .int p2]) ++ List.replicate (5 - (lg_sl ([.ref h0, .int p0, .int p1, .int p2])).length) Slot.unset).toArray = ls at hl ⊢
  have hl : lv_has ls 5 [(0, .ref h0), (1, .int p0), (2, .int p1), (3, .int p2)] := hl
  have hf_77 := hts (.fieldLink RX5 77 "MajorityIndexModel" "thrown" "I") (List.mem_of_getElem? (i := 1) rfl)
  have hi_5 : ∀ w ∈ u_ws RX5 TX5 30, w ∈ wsX5_fill := fun w h => List.mem_cons_of_mem _ (List.mem_append_right _ h)
  have hf_7 := hts (.fieldLink RX5 7 "MajorityIndexModel" "row" "[I") (List.mem_of_getElem? (i := 2) rfl)
  refine lv_aload_n hx hb dX5_fill_0 rfl (lv_at hl 0 rfl) ?_
  refine lv_iconst (v := 0) hx hb dX5_fill_1 (by decide) ?_
  refine va_put (D := (dC, dI)) (ci := 5) (v := .int 0) (ty := .int) (C := RX5) (T := TX5) (N := 30) hx hb hts hi_5 tyX5 tyX5_ok nmX5 hown hK hP hD hS 0 rfl rfl 3 (by decide) hf_77 (fun _ h9 => h9) rfl (by decide +kernel) rfl rfl (Nat.le_of_ble_eq_true rfl) dX5_fill_2 (fun H locs hP hD hS => ?_)
  have hP : va_P (dC, dI) vwCl [kx_5 h0 g_row m_n m_slots 0 g_many g_loss g_less g_voteValue g_voteNumber g_allValue g_allNumber m_allMany g_nodeL g_nodeR m_nodes g_part m_partMany g_wasMany g_wasLoss g_wasValue g_wasNumber g_path m_pathMany g_heavyValue g_heavyTimes m_heavyMany g_fewest g_which g_met m_mostMet, kx_a g_row cyI 160 f, kx_a g_many cyI 324 fm, kx_a g_loss cyI 324 fl, kx_a g_less cyI 324 fe, kx_a g_voteValue cyI 1944 vv, kx_a g_voteNumber cyI 1944 vn, kx_a g_allValue cyI 12 av, kx_a g_allNumber cyI 12 an, kx_a g_nodeL cyI 320 nl, kx_a g_nodeR cyI 320 nr, kx_a g_wasMany cyI 320 wm, kx_a g_wasLoss cyI 320 wl, kx_a g_wasValue cyI 1920 wv, kx_a g_wasNumber cyI 1920 wn] H := hP
  have hD : va_D A [kx_5 h0 g_row m_n m_slots 0 g_many g_loss g_less g_voteValue g_voteNumber g_allValue g_allNumber m_allMany g_nodeL g_nodeR m_nodes g_part m_partMany g_wasMany g_wasLoss g_wasValue g_wasNumber g_path m_pathMany g_heavyValue g_heavyTimes m_heavyMany g_fewest g_which g_met m_mostMet, kx_a g_row cyI 160 f, kx_a g_many cyI 324 fm, kx_a g_loss cyI 324 fl, kx_a g_less cyI 324 fe, kx_a g_voteValue cyI 1944 vv, kx_a g_voteNumber cyI 1944 vn, kx_a g_allValue cyI 12 av, kx_a g_allNumber cyI 12 an, kx_a g_nodeL cyI 320 nl, kx_a g_nodeR cyI 320 nr, kx_a g_wasMany cyI 320 wm, kx_a g_wasLoss cyI 320 wl, kx_a g_wasValue cyI 1920 wv, kx_a g_wasNumber cyI 1920 wn] := hD
  refine lv_aload_n hx hb dX5_fill_5 rfl (lv_at hl 0 rfl) ?_
  refine lv_iload_n hx hb dX5_fill_6 rfl (lv_at hl 1 rfl) ?_
  refine lv_iload_n hx hb dX5_fill_7 rfl (lv_at hl 2 rfl) ?_
  have hPc := hP.sub (ws' := [kx_5 h0 g_row m_n m_slots 0 g_many g_loss g_less g_voteValue g_voteNumber g_allValue g_allNumber m_allMany g_nodeL g_nodeR m_nodes g_part m_partMany g_wasMany g_wasLoss g_wasValue g_wasNumber g_path m_pathMany g_heavyValue g_heavyTimes m_heavyMany g_fewest g_which g_met m_mostMet]) [0] rfl
  have hKc := hK.sub (tys' := []) [] rfl
  refine vp_callSi (W.runV (As := [.int p0, .int p1]) (rest := []) ⟨hx, hb, hml, hown, hts⟩ (c_X5_isRange l dC dI h0 g_row g_many g_loss g_less g_voteValue g_voteNumber g_allValue g_allNumber g_nodeL g_nodeR g_part g_wasMany g_wasLoss g_wasValue g_wasNumber g_path g_heavyValue g_heavyTimes g_fewest g_which g_met m_n m_slots 0 m_allMany m_nodes m_partMany m_pathMany m_heavyMany m_mostMet p0 p1) (cwV 2 hts gX5_fill_X5_isRange rfl rfl rfl (by decide +kernel) ⟨Nat.le_of_ble_eq_true rfl, Nat.le_of_ble_eq_true rfl⟩) ⟨fun a U g mk q => by obtain ⟨q0, qP, qK⟩ := q; exact ⟨q0, qP, va_K.moved (u := U) (U := U.calling g mk a) (Vm.Alike.refl U.vm) qK⟩, va_recv hKc hPc (ci := 5) (q0 := 0) rfl rfl, fun U hU hW => ⟨rfl, by rw [hU]; exact hPc, va_K.moved hW.alike hKc⟩⟩ rfl rfl hl.1 rfl (lv_room (Nat.le_of_ble_eq_true rfl)) dX5_fill_8 ⟨Nat.le_of_ble_eq_true rfl, Nat.le_of_ble_eq_true rfl⟩) (fun r_1 w_1 => ?_)
  rcases w_1 with ⟨rfl, w_1⟩ | ⟨rfl, w_1⟩
  · have w_1 : (0 ≤ p0.toInt ∧ p0.toInt < p1.toInt ∧ p1.toInt ≤ m_n.toInt) := w_1
    refine lv_if_eq (tgt := 21) hx hb dX5_fill_11 (by decide) (fun c_2 => ?_) (fun c_2 => ?_)
    · exact absurd c_2 (by decide)
    · refine lv_iload_n hx hb dX5_fill_14 rfl (lv_at hl 3 rfl) ?_
      have hPc := hP.sub (ws' := []) [] rfl
      have hKc := hK.sub (tys' := []) [] rfl
      refine vp_callSi (W.runS (As := [.int p2]) (rest := []) ⟨hx, hb, hml, hown, hts⟩ (c_X5_isValue l dC dI p2) (va_cwS 1 hts gX5_fill_X5_isValue rfl rfl rfl (by decide +kernel) ⟨Nat.le_of_ble_eq_true rfl, Nat.le_of_ble_eq_true rfl⟩) ⟨fun a U g mk q => by obtain ⟨q0, qP, qK⟩ := q; exact ⟨q0, qP, va_K.moved (u := U) (U := U.calling g mk a) (Vm.Alike.refl U.vm) qK⟩, fun U hU hW => ⟨rfl, by rw [hU]; exact hPc, va_K.moved hW.alike hKc⟩⟩ rfl rfl hl.1 rfl (lv_room (Nat.le_of_ble_eq_true rfl)) dX5_fill_15 ⟨Nat.le_of_ble_eq_true rfl, Nat.le_of_ble_eq_true rfl⟩) (fun r_3 w_3 => ?_)
      rcases w_3 with ⟨rfl, w_3⟩ | ⟨rfl, w_3⟩
      · have w_3 : (-32768 ≤ p2.toInt ∧ p2.toInt ≤ 32767) := w_3
        refine lv_if_ne (tgt := 23) hx hb dX5_fill_18 (by decide) (fun c_4 => ?_) (fun c_4 => ?_)
        · refine lv_aload_n hx hb dX5_fill_23 rfl (lv_at hl 0 rfl) ?_
          have hPc := hP
          have hKc := hK
          have hDc := hD
          have hFc := kx_free hD hS hA
          refine va_callv (va_runV (As := []) (rest := []) ⟨hx, hb, hml, hown, hts⟩ (c_X5_keeps l dC dI h0 g_row g_many g_loss g_less g_voteValue g_voteNumber g_allValue g_allNumber g_nodeL g_nodeR g_part g_wasMany g_wasLoss g_wasValue g_wasNumber g_path g_heavyValue g_heavyTimes g_fewest g_which g_met m_n m_slots 0 m_allMany m_nodes m_partMany m_pathMany m_heavyMany m_mostMet cyI fm fl fe vv vn f av an nl nr wm wl wv wn H.size a0 a1 sl0 sl1 s4) (cwV 0 hts gX5_fill_X5_keeps rfl rfl rfl (by decide +kernel) ⟨Nat.le_of_ble_eq_true rfl, Nat.le_of_ble_eq_true rfl⟩) ⟨fun a U g mk q => by obtain ⟨q0, q1, qP, qK, qD⟩ := q; exact ⟨q0, q1, qP, va_K.moved (u := U) (U := U.calling g mk a) (Vm.Alike.refl U.vm) qK, qD⟩, va_recv hKc hPc (ci := 5) (q0 := 0) rfl rfl, fun U hU hW => ⟨rfl, by rw [hU], by rw [hU]; exact hPc, va_K.moved hW.alike hKc, hDc.weaken (fun _ _ _ _ => trivial)⟩⟩ rfl rfl hl.1 rfl (lv_room (Nat.le_of_ble_eq_true rfl)) dX5_fill_24 ⟨Nat.le_of_ble_eq_true rfl, Nat.le_of_ble_eq_true rfl⟩) hS (fun q _ h => hFc q h) hFc (fun u t H1 locs ht hvm w_5 hB hz1 hk1 hS => ?_)
          obtain ⟨o_6, o_7, o_8, o_9, o_10, o_11, o_12, o_13, o_14, o_15, o_16, o_17, o_18, o_19, o_20⟩ := u
          dsimp only at w_5 hB
          obtain ⟨hP1, hK1, hD1⟩ := hB
          rw [ht] at hP1
          have hK1 := va_K.moved hvm.symm hK1
          have hD := hD1.weaken (fun _ q _ h => hFc q.1 h)
          have hP := hP1
          clear hP1 hD1 hK1 hk1 hz1 hFc hDc hPc hKc
          generalize H1 = H at hP hS ⊢
          have w_5 : six4 o_8 := w_5
          refine lv_iload_n hx hb dX5_fill_27 rfl (lv_at hl 1 rfl) ?_
          refine lv_istore (lv' := [(4, .int p0), (0, .ref h0), (1, .int p0), (2, .int p1), (3, .int p2)]) hx hb dX5_fill_28 hl (by decide) rfl (fun ls hl => ?_)
          have LP1 : ∀ (n : Nat) (k : Int32) (gc : Nat → Int32), (p0.toInt ≤ k.toInt) → (k.toInt ≤ p1.toInt) → (gc = mj_fill f p0.toNatClampNeg k.toNatClampNeg p2) → (p1.toInt - k.toInt).toNat < n → ∀ (H : Heap) (locs : List Loc), va_P (dC, dI) vwCl [kx_5 h0 g_row m_n m_slots 0 g_many g_loss g_less g_voteValue g_voteNumber g_allValue g_allNumber o_7 g_nodeL g_nodeR o_6 g_part m_partMany g_wasMany g_wasLoss g_wasValue g_wasNumber g_path m_pathMany g_heavyValue g_heavyTimes m_heavyMany g_fewest g_which g_met m_mostMet, kx_a g_row cyI 160 gc, kx_a g_many cyI 324 o_8, kx_a g_loss cyI 324 o_9, kx_a g_less cyI 324 o_10, kx_a g_voteValue cyI 1944 o_11, kx_a g_voteNumber cyI 1944 o_12, kx_a g_allValue cyI 12 o_13, kx_a g_allNumber cyI 12 o_14, kx_a g_nodeL cyI 320 o_15, kx_a g_nodeR cyI 320 o_16, kx_a g_wasMany cyI 320 o_17, kx_a g_wasLoss cyI 320 o_18, kx_a g_wasValue cyI 1920 o_19, kx_a g_wasNumber cyI 1920 o_20] H → va_D A [kx_5 h0 g_row m_n m_slots 0 g_many g_loss g_less g_voteValue g_voteNumber g_allValue g_allNumber o_7 g_nodeL g_nodeR o_6 g_part m_partMany g_wasMany g_wasLoss g_wasValue g_wasNumber g_path m_pathMany g_heavyValue g_heavyTimes m_heavyMany g_fewest g_which g_met m_mostMet, kx_a g_row cyI 160 gc, kx_a g_many cyI 324 o_8, kx_a g_loss cyI 324 o_9, kx_a g_less cyI 324 o_10, kx_a g_voteValue cyI 1944 o_11, kx_a g_voteNumber cyI 1944 o_12, kx_a g_allValue cyI 12 o_13, kx_a g_allNumber cyI 12 o_14, kx_a g_nodeL cyI 320 o_15, kx_a g_nodeR cyI 320 o_16, kx_a g_wasMany cyI 320 o_17, kx_a g_wasLoss cyI 320 o_18, kx_a g_wasValue cyI 1920 o_19, kx_a g_wasNumber cyI 1920 o_20] → va_S A s.heap H locs → ∀ (ls : Array Slot), lv_has ls 5 [(4, .int k), (0, .ref h0), (1, .int p0), (2, .int p1), (3, .int p2)] → W p l e (headSpec wsX5_fill ({ frames := 13, cells := 0, slots := 0, locals := 585 })).room s m ([.ref h0, .int p0, .int p1, .int p2] : List Value).toArray below meth c H locs 0 0 (MQ below (va_Qi (fun (r : Int32) (u : Int32 × Int32 × (Nat → Int32) × (Nat → Int32) × (Nat → Int32) × (Nat → Int32) × (Nat → Int32) × (Nat → Int32) × (Nat → Int32) × (Nat → Int32) × (Nat → Int32) × (Nat → Int32) × (Nat → Int32) × (Nat → Int32) × (Nat → Int32) × (Nat → Int32)) => (((0 ≤ p0.toInt ∧ p0.toInt < p1.toInt ∧ p1.toInt ≤ m_n.toInt ∧ -32768 ≤ p2.toInt ∧ p2.toInt ≤ 32767) ∧ u.2.2.2.2.2.2.2.2.2.2.2.2.2.2.2 = mj_fill f p0.toNatClampNeg p1.toNatClampNeg p2) ∨ ((p0.toInt < 0 ∨ p1.toInt ≤ p0.toInt ∨ m_n.toInt < p1.toInt ∨ p2.toInt < -32768 ∨ 32767 < p2.toInt) ∧ u.2.2.2.2.2.2.2.2.2.2.2.2.2.2.2 = f ∧ r = -1)) ∧ shorts u.2.2.2.2.2.2.2.2.2.2.2.2.2.2.2 ∧ six4 u.2.2.1) (fun (u : Int32 × Int32 × (Nat → Int32) × (Nat → Int32) × (Nat → Int32) × (Nat → Int32) × (Nat → Int32) × (Nat → Int32) × (Nat → Int32) × (Nat → Int32) × (Nat → Int32) × (Nat → Int32) × (Nat → Int32) × (Nat → Int32) × (Nat → Int32) × (Nat → Int32)) (t : State) => va_P (dC, dI) vwCl [kx_5 h0 g_row m_n m_slots 0 g_many g_loss g_less g_voteValue g_voteNumber g_allValue g_allNumber u.2.1 g_nodeL g_nodeR u.1 g_part m_partMany g_wasMany g_wasLoss g_wasValue g_wasNumber g_path m_pathMany g_heavyValue g_heavyTimes m_heavyMany g_fewest g_which g_met m_mostMet, kx_a g_row cyI 160 u.2.2.2.2.2.2.2.2.2.2.2.2.2.2.2, kx_a g_many cyI 324 u.2.2.1, kx_a g_loss cyI 324 u.2.2.2.1, kx_a g_less cyI 324 u.2.2.2.2.1, kx_a g_voteValue cyI 1944 u.2.2.2.2.2.1, kx_a g_voteNumber cyI 1944 u.2.2.2.2.2.2.1, kx_a g_allValue cyI 12 u.2.2.2.2.2.2.2.1, kx_a g_allNumber cyI 12 u.2.2.2.2.2.2.2.2.1, kx_a g_nodeL cyI 320 u.2.2.2.2.2.2.2.2.2.1, kx_a g_nodeR cyI 320 u.2.2.2.2.2.2.2.2.2.2.1, kx_a g_wasMany cyI 320 u.2.2.2.2.2.2.2.2.2.2.2.1, kx_a g_wasLoss cyI 320 u.2.2.2.2.2.2.2.2.2.2.2.2.1, kx_a g_wasValue cyI 1920 u.2.2.2.2.2.2.2.2.2.2.2.2.2.1, kx_a g_wasNumber cyI 1920 u.2.2.2.2.2.2.2.2.2.2.2.2.2.2.1] t.heap ∧ va_K (dC, dI) vwCl [(cyI, .int)] t ∧ va_D A [kx_5 h0 g_row m_n m_slots 0 g_many g_loss g_less g_voteValue g_voteNumber g_allValue g_allNumber u.2.1 g_nodeL g_nodeR u.1 g_part m_partMany g_wasMany g_wasLoss g_wasValue g_wasNumber g_path m_pathMany g_heavyValue g_heavyTimes m_heavyMany g_fewest g_which g_met m_mostMet, kx_a g_row cyI 160 u.2.2.2.2.2.2.2.2.2.2.2.2.2.2.2, kx_a g_many cyI 324 u.2.2.1, kx_a g_loss cyI 324 u.2.2.2.1, kx_a g_less cyI 324 u.2.2.2.2.1, kx_a g_voteValue cyI 1944 u.2.2.2.2.2.1, kx_a g_voteNumber cyI 1944 u.2.2.2.2.2.2.1, kx_a g_allValue cyI 12 u.2.2.2.2.2.2.2.1, kx_a g_allNumber cyI 12 u.2.2.2.2.2.2.2.2.1, kx_a g_nodeL cyI 320 u.2.2.2.2.2.2.2.2.2.1, kx_a g_nodeR cyI 320 u.2.2.2.2.2.2.2.2.2.2.1, kx_a g_wasMany cyI 320 u.2.2.2.2.2.2.2.2.2.2.2.1, kx_a g_wasLoss cyI 320 u.2.2.2.2.2.2.2.2.2.2.2.2.1, kx_a g_wasValue cyI 1920 u.2.2.2.2.2.2.2.2.2.2.2.2.2.1, kx_a g_wasNumber cyI 1920 u.2.2.2.2.2.2.2.2.2.2.2.2.2.2.1]) A) ([.ref h0, .int p0, .int p1, .int p2] : List Value).toArray s 0 0 A) (F0 m 30 ls []) := by
            intro n
            induction n with
            | zero => intro k gc LP1_h0 LP1_h1 LP1_h2 hn; exact absurd hn (Nat.not_lt_zero _)
            | succ n ih1 =>
              intro k gc LP1_h0 LP1_h1 LP1_h2 hn1 H locs hP hD hS ls hl
              have n_k := ki_nat k rfl (by omega)
              have n_p0 := ki_nat p0 rfl (by omega)
              refine lv_iload hx hb dX5_fill_30 (lv_at hl 0 rfl) ?_
              refine lv_iload_n hx hb dX5_fill_32 rfl (lv_at hl 3 rfl) ?_
              refine lv_icmp_ge (tgt := 50) hx hb dX5_fill_33 (by decide) (fun c_21 => ?_) (fun c_21 => ?_)
              · have i_21 : p1.toInt ≤ k.toInt := kc_le c_21
                refine lv_aload_n hx hb dX5_fill_50 rfl (lv_at hl 1 rfl) ?_
                have hPc := hP
                have hKc := hK
                have hDc := hD
                have hFc := kx_free hD hS hA
                refine va_calli (va_runV (As := []) (rest := []) ⟨hx, hb, hml, hown, hts⟩ (c_X5_others l dC dI h0 g_row g_many g_loss g_less g_voteValue g_voteNumber g_allValue g_allNumber g_nodeL g_nodeR g_part g_wasMany g_wasLoss g_wasValue g_wasNumber g_path g_heavyValue g_heavyTimes g_fewest g_which g_met m_n m_slots 0 o_7 o_6 m_partMany m_pathMany m_heavyMany m_mostMet cyI o_8 o_9 o_10 o_11 o_12 gc o_13 o_14 o_15 o_16 o_17 o_18 o_19 o_20 H.size a0 a1 sl0 sl1 w_5) (cwV 0 hts gX5_fill_X5_others rfl rfl rfl (by decide +kernel) ⟨Nat.le_of_ble_eq_true rfl, Nat.le_of_ble_eq_true rfl⟩) ⟨fun a U g mk q => by obtain ⟨q0, q1, qP, qK, qD⟩ := q; exact ⟨q0, q1, qP, va_K.moved (u := U) (U := U.calling g mk a) (Vm.Alike.refl U.vm) qK, qD⟩, va_recv hKc hPc (ci := 5) (q0 := 0) rfl rfl, fun U hU hW => ⟨rfl, by rw [hU], by rw [hU]; exact hPc, va_K.moved hW.alike hKc, hDc.weaken (fun _ _ _ _ => trivial)⟩⟩ rfl rfl hl.1 rfl (lv_room (Nat.le_of_ble_eq_true rfl)) dX5_fill_51 ⟨Nat.le_of_ble_eq_true rfl, Nat.le_of_ble_eq_true rfl⟩) hS (fun q _ h => hFc q h) hFc (fun r_22 u t H1 locs ht hvm w_22 hB hz1 hk1 hS => ?_)
                obtain ⟨o_23, o_24, o_25, o_26, o_27, o_28, o_29, o_30, o_31, o_32, o_33⟩ := u
                dsimp only at w_22 hB
                obtain ⟨hP1, hK1, hD1⟩ := hB
                rw [ht] at hP1
                have hK1 := va_K.moved hvm.symm hK1
                have hD := hD1.weaken (fun _ q _ h => hFc q.1 h)
                have hP := hP1
                clear hP1 hD1 hK1 hk1 hz1 hFc hDc hPc hKc
                generalize H1 = H at hP hS ⊢
                have w_22 : six4 o_25 := w_22
                have hP9 := hP
                have hD9 := hD
                have hK9 := hK
                have e_k : k.toNatClampNeg = p1.toNatClampNeg := by have := ki_nat p1 rfl (by omega); omega
                exact W.iret (v := r_22) hx hb hr (fun t ht hW => ⟨⟨r_22, (o_23, o_24, o_25, o_26, o_27, o_28, o_29, o_30, o_31, o_32, o_33, o_17, o_18, o_19, o_20, gc), rfl, ⟨Or.inl ⟨by omega, (by (try dsimp only); rw [LP1_h2, e_k])⟩, (by (try dsimp only); rw [LP1_h2]; exact shorts_fill s1 (by omega) (by omega)), w_22⟩, by rw [ht]; exact hP9, va_K.moved hW.alike hK9, hD9⟩, hS.F ht⟩) hS.2.2 dX5_fill_54
              · have i_21 : k.toInt < p1.toInt := kc_nle c_21
                refine lv_aload_n hx hb dX5_fill_36 rfl (lv_at hl 1 rfl) ?_
                refine va_get (D := (dC, dI)) (ci := 5) (v := .ref g_row) (C := RX5) (T := TX5) (N := 30) hx hb hts hi_5 hown hK hP 0 rfl rfl 0 (by decide) hf_7 (fun _ h9 => h9) rfl dX5_fill_37 ?_
                refine lv_iload hx hb dX5_fill_40 (lv_at hl 0 rfl) ?_
                refine lv_iload_n hx hb dX5_fill_42 rfl (lv_at hl 4 rfl) ?_
                refine va_iast hx hb hK hP hD hS 1 0 rfl rfl (ki_in (by omega) (by omega)) dX5_fill_43 (fun H locs hP hD hS => ?_)
                have hP : va_P (dC, dI) vwCl [kx_5 h0 g_row m_n m_slots 0 g_many g_loss g_less g_voteValue g_voteNumber g_allValue g_allNumber o_7 g_nodeL g_nodeR o_6 g_part m_partMany g_wasMany g_wasLoss g_wasValue g_wasNumber g_path m_pathMany g_heavyValue g_heavyTimes m_heavyMany g_fewest g_which g_met m_mostMet, kx_a g_row cyI 160 (upd gc k.toNatClampNeg p2), kx_a g_many cyI 324 o_8, kx_a g_loss cyI 324 o_9, kx_a g_less cyI 324 o_10, kx_a g_voteValue cyI 1944 o_11, kx_a g_voteNumber cyI 1944 o_12, kx_a g_allValue cyI 12 o_13, kx_a g_allNumber cyI 12 o_14, kx_a g_nodeL cyI 320 o_15, kx_a g_nodeR cyI 320 o_16, kx_a g_wasMany cyI 320 o_17, kx_a g_wasLoss cyI 320 o_18, kx_a g_wasValue cyI 1920 o_19, kx_a g_wasNumber cyI 1920 o_20] H := hP
                have hD : va_D A [kx_5 h0 g_row m_n m_slots 0 g_many g_loss g_less g_voteValue g_voteNumber g_allValue g_allNumber o_7 g_nodeL g_nodeR o_6 g_part m_partMany g_wasMany g_wasLoss g_wasValue g_wasNumber g_path m_pathMany g_heavyValue g_heavyTimes m_heavyMany g_fewest g_which g_met m_mostMet, kx_a g_row cyI 160 (upd gc k.toNatClampNeg p2), kx_a g_many cyI 324 o_8, kx_a g_loss cyI 324 o_9, kx_a g_less cyI 324 o_10, kx_a g_voteValue cyI 1944 o_11, kx_a g_voteNumber cyI 1944 o_12, kx_a g_allValue cyI 12 o_13, kx_a g_allNumber cyI 12 o_14, kx_a g_nodeL cyI 320 o_15, kx_a g_nodeR cyI 320 o_16, kx_a g_wasMany cyI 320 o_17, kx_a g_wasLoss cyI 320 o_18, kx_a g_wasValue cyI 1920 o_19, kx_a g_wasNumber cyI 1920 o_20] := hD
                obtain ⟨x_34, ex_34⟩ : ∃ y : Int32, y = k + 1 := ⟨_, rfl⟩
                have i_34 : x_34.toInt = k.toInt + 1 := ki_add ex_34 rfl rfl (by omega) (by omega)
                refine lv_iinc (v := x_34) (lv' := [(4, .int x_34), (0, .ref h0), (1, .int p0), (2, .int p1), (3, .int p2)]) hx hb dX5_fill_44 hl (k := 0) rfl (by rw [ex_34]; rfl) (by decide) rfl (fun ls hl => ?_)
                refine lv_goto (tgt := 30) hx hb dX5_fill_47 (by decide) ?_
                have n_35 := ki_nat x_34 rfl (by omega)
                exact ih1 x_34 (upd gc k.toNatClampNeg p2) (om_4 LP1_h0 i_34) (om_47 i_21 i_34) (by rw [LP1_h2]; exact mj_fill_step (by omega) (by omega)) (om_mu hn1 (om_5 i_34) (om_6 i_21)) _ _ hP hD hS ls (lv_sub hl [0, 1, 2, 3, 4] rfl)
          exact LP1 ((p1.toInt - p0.toInt : Int).toNat + 1) p0 f om_7 (by omega) (mj_fill_0 _ _ (Nat.le_refl _)).symm (Nat.lt_succ_self _) _ _ hP hD hS ls (lv_sub hl [0, 1, 2, 3, 4] rfl)
        · exact absurd c_4 (by decide)
      · have w_3 : (p2.toInt < -32768 ∨ 32767 < p2.toInt) := w_3
        refine lv_if_ne (tgt := 23) hx hb dX5_fill_18 (by decide) (fun c_36 => ?_) (fun c_36 => ?_)
        · exact absurd c_36 (by decide)
        · refine lv_iconst (v := (-1)) hx hb dX5_fill_21 (by decide) ?_
          have hP9 := hP
          have hD9 := hD
          have hK9 := hK
          exact W.iret (v := (-1)) hx hb hr (fun t ht hW => ⟨⟨(-1), (m_nodes, m_allMany, fm, fl, fe, vv, vn, av, an, nl, nr, wm, wl, wv, wn, f), rfl, ⟨Or.inr ⟨by omega, rfl, rfl⟩, s1, s4⟩, by rw [ht]; exact hP9, va_K.moved hW.alike hK9, hD9⟩, hS.F ht⟩) hS.2.2 dX5_fill_22
  · have w_1 : (p0.toInt < 0 ∨ p1.toInt ≤ p0.toInt ∨ m_n.toInt < p1.toInt) := w_1
    refine lv_if_eq (tgt := 21) hx hb dX5_fill_11 (by decide) (fun c_37 => ?_) (fun c_37 => ?_)
    · refine lv_iconst (v := (-1)) hx hb dX5_fill_21 (by decide) ?_
      have hP9 := hP
      have hD9 := hD
      have hK9 := hK
      exact W.iret (v := (-1)) hx hb hr (fun t ht hW => ⟨⟨(-1), (m_nodes, m_allMany, fm, fl, fe, vv, vn, av, an, nl, nr, wm, wl, wv, wn, f), rfl, ⟨Or.inr ⟨by omega, rfl, rfl⟩, s1, s4⟩, by rw [ht]; exact hP9, va_K.moved hW.alike hK9, hD9⟩, hS.F ht⟩) hS.2.2 dX5_fill_22
    · exact absurd c_37 (by decide)

set_option maxHeartbeats 4000000 in
set_option maxRecDepth 100000 in
theorem c_X5_turn (l : Launch) (dC : Nat → ClassId) (dI : Nat → Nat → Nat) (h0 : Nat) (g_row : Nat) (g_many : Nat) (g_loss : Nat) (g_less : Nat) (g_voteValue : Nat) (g_voteNumber : Nat) (g_allValue : Nat) (g_allNumber : Nat) (g_nodeL : Nat) (g_nodeR : Nat) (g_part : Nat) (g_wasMany : Nat) (g_wasLoss : Nat) (g_wasValue : Nat) (g_wasNumber : Nat) (g_path : Nat) (g_heavyValue : Nat) (g_heavyTimes : Nat) (g_fewest : Nat) (g_which : Nat) (g_met : Nat) (m_n : Int32) (m_slots : Int32) (m_thrown : Int32) (m_allMany : Int32) (m_nodes : Int32) (m_partMany : Int32) (m_pathMany : Int32) (m_heavyMany : Int32) (m_mostMet : Int32) (cyI : ClassId) (fm : Nat → Int32) (fl : Nat → Int32) (fe : Nat → Int32) (vv : Nat → Int32) (vn : Nat → Int32) (f : Nat → Int32) (av : Nat → Int32) (an : Nat → Int32) (nl : Nat → Int32) (nr : Nat → Int32) (wm : Nat → Int32) (wl : Nat → Int32) (wv : Nat → Int32) (wn : Nat → Int32) (p0 : Int32) (p1 : Int32) (sz : Nat) (a0 : 0 ≤ m_n.toInt) (a1 : m_n.toInt ≤ 160) (sl0 : 1 ≤ m_slots.toInt) (sl1 : m_slots.toInt ≤ 6) (s4 : six4 fm) (s1 : shorts f) : Met l yX5_turn wsX5_turn ({ frames := 13, cells := 0, slots := 0, locals := 585 }) (va_Pc [.ref h0, .int p0, .int p1] (fun U => U.heap.size = sz ∧ va_P (dC, dI) vwCl [kx_5 h0 g_row m_n m_slots m_thrown g_many g_loss g_less g_voteValue g_voteNumber g_allValue g_allNumber m_allMany g_nodeL g_nodeR m_nodes g_part m_partMany g_wasMany g_wasLoss g_wasValue g_wasNumber g_path m_pathMany g_heavyValue g_heavyTimes m_heavyMany g_fewest g_which g_met m_mostMet, kx_a g_row cyI 160 f, kx_a g_many cyI 324 fm, kx_a g_loss cyI 324 fl, kx_a g_less cyI 324 fe, kx_a g_voteValue cyI 1944 vv, kx_a g_voteNumber cyI 1944 vn, kx_a g_allValue cyI 12 av, kx_a g_allNumber cyI 12 an, kx_a g_nodeL cyI 320 nl, kx_a g_nodeR cyI 320 nr, kx_a g_wasMany cyI 320 wm, kx_a g_wasLoss cyI 320 wl, kx_a g_wasValue cyI 1920 wv, kx_a g_wasNumber cyI 1920 wn] U.heap ∧ va_K (dC, dI) vwCl [(cyI, .int)] U ∧ va_D (fun _ => True) [kx_5 h0 g_row m_n m_slots m_thrown g_many g_loss g_less g_voteValue g_voteNumber g_allValue g_allNumber m_allMany g_nodeL g_nodeR m_nodes g_part m_partMany g_wasMany g_wasLoss g_wasValue g_wasNumber g_path m_pathMany g_heavyValue g_heavyTimes m_heavyMany g_fewest g_which g_met m_mostMet, kx_a g_row cyI 160 f, kx_a g_many cyI 324 fm, kx_a g_loss cyI 324 fl, kx_a g_less cyI 324 fe, kx_a g_voteValue cyI 1944 vv, kx_a g_voteNumber cyI 1944 vn, kx_a g_allValue cyI 12 av, kx_a g_allNumber cyI 12 an, kx_a g_nodeL cyI 320 nl, kx_a g_nodeR cyI 320 nr, kx_a g_wasMany cyI 320 wm, kx_a g_wasLoss cyI 320 wl, kx_a g_wasValue cyI 1920 wv, kx_a g_wasNumber cyI 1920 wn])) (va_Qi (fun (r : Int32) (u : Int32 × Int32 × (Nat → Int32) × (Nat → Int32) × (Nat → Int32) × (Nat → Int32) × (Nat → Int32) × (Nat → Int32) × (Nat → Int32) × (Nat → Int32) × (Nat → Int32) × (Nat → Int32) × (Nat → Int32) × (Nat → Int32) × (Nat → Int32) × (Nat → Int32)) => (((0 ≤ p0.toInt ∧ p0.toInt < p1.toInt ∧ p1.toInt ≤ m_n.toInt) ∧ u.2.2.2.2.2.2.2.2.2.2.2.2.2.2.2 = mj_turn f p0.toNatClampNeg p1.toNatClampNeg) ∨ ((p0.toInt < 0 ∨ p1.toInt ≤ p0.toInt ∨ m_n.toInt < p1.toInt) ∧ u.2.2.2.2.2.2.2.2.2.2.2.2.2.2.2 = f ∧ r = -1)) ∧ shorts u.2.2.2.2.2.2.2.2.2.2.2.2.2.2.2 ∧ six4 u.2.2.1) (fun (u : Int32 × Int32 × (Nat → Int32) × (Nat → Int32) × (Nat → Int32) × (Nat → Int32) × (Nat → Int32) × (Nat → Int32) × (Nat → Int32) × (Nat → Int32) × (Nat → Int32) × (Nat → Int32) × (Nat → Int32) × (Nat → Int32) × (Nat → Int32) × (Nat → Int32)) (t : State) => va_P (dC, dI) vwCl [kx_5 h0 g_row m_n m_slots 0 g_many g_loss g_less g_voteValue g_voteNumber g_allValue g_allNumber u.2.1 g_nodeL g_nodeR u.1 g_part m_partMany g_wasMany g_wasLoss g_wasValue g_wasNumber g_path m_pathMany g_heavyValue g_heavyTimes m_heavyMany g_fewest g_which g_met m_mostMet, kx_a g_row cyI 160 u.2.2.2.2.2.2.2.2.2.2.2.2.2.2.2, kx_a g_many cyI 324 u.2.2.1, kx_a g_loss cyI 324 u.2.2.2.1, kx_a g_less cyI 324 u.2.2.2.2.1, kx_a g_voteValue cyI 1944 u.2.2.2.2.2.1, kx_a g_voteNumber cyI 1944 u.2.2.2.2.2.2.1, kx_a g_allValue cyI 12 u.2.2.2.2.2.2.2.1, kx_a g_allNumber cyI 12 u.2.2.2.2.2.2.2.2.1, kx_a g_nodeL cyI 320 u.2.2.2.2.2.2.2.2.2.1, kx_a g_nodeR cyI 320 u.2.2.2.2.2.2.2.2.2.2.1, kx_a g_wasMany cyI 320 u.2.2.2.2.2.2.2.2.2.2.2.1, kx_a g_wasLoss cyI 320 u.2.2.2.2.2.2.2.2.2.2.2.2.1, kx_a g_wasValue cyI 1920 u.2.2.2.2.2.2.2.2.2.2.2.2.2.1, kx_a g_wasNumber cyI 1920 u.2.2.2.2.2.2.2.2.2.2.2.2.2.2.1] t.heap ∧ va_K (dC, dI) vwCl [(cyI, .int)] t ∧ va_D (va_A [kx_5 h0 g_row m_n m_slots m_thrown g_many g_loss g_less g_voteValue g_voteNumber g_allValue g_allNumber m_allMany g_nodeL g_nodeR m_nodes g_part m_partMany g_wasMany g_wasLoss g_wasValue g_wasNumber g_path m_pathMany g_heavyValue g_heavyTimes m_heavyMany g_fewest g_which g_met m_mostMet, kx_a g_row cyI 160 f, kx_a g_many cyI 324 fm, kx_a g_loss cyI 324 fl, kx_a g_less cyI 324 fe, kx_a g_voteValue cyI 1944 vv, kx_a g_voteNumber cyI 1944 vn, kx_a g_allValue cyI 12 av, kx_a g_allNumber cyI 12 an, kx_a g_nodeL cyI 320 nl, kx_a g_nodeR cyI 320 nr, kx_a g_wasMany cyI 320 wm, kx_a g_wasLoss cyI 320 wl, kx_a g_wasValue cyI 1920 wv, kx_a g_wasNumber cyI 1920 wn] sz) [kx_5 h0 g_row m_n m_slots 0 g_many g_loss g_less g_voteValue g_voteNumber g_allValue g_allNumber u.2.1 g_nodeL g_nodeR u.1 g_part m_partMany g_wasMany g_wasLoss g_wasValue g_wasNumber g_path m_pathMany g_heavyValue g_heavyTimes m_heavyMany g_fewest g_which g_met m_mostMet, kx_a g_row cyI 160 u.2.2.2.2.2.2.2.2.2.2.2.2.2.2.2, kx_a g_many cyI 324 u.2.2.1, kx_a g_loss cyI 324 u.2.2.2.1, kx_a g_less cyI 324 u.2.2.2.2.1, kx_a g_voteValue cyI 1944 u.2.2.2.2.2.1, kx_a g_voteNumber cyI 1944 u.2.2.2.2.2.2.1, kx_a g_allValue cyI 12 u.2.2.2.2.2.2.2.1, kx_a g_allNumber cyI 12 u.2.2.2.2.2.2.2.2.1, kx_a g_nodeL cyI 320 u.2.2.2.2.2.2.2.2.2.1, kx_a g_nodeR cyI 320 u.2.2.2.2.2.2.2.2.2.2.1, kx_a g_wasMany cyI 320 u.2.2.2.2.2.2.2.2.2.2.2.1, kx_a g_wasLoss cyI 320 u.2.2.2.2.2.2.2.2.2.2.2.2.1, kx_a g_wasValue cyI 1920 u.2.2.2.2.2.2.2.2.2.2.2.2.2.1, kx_a g_wasNumber cyI 1920 u.2.2.2.2.2.2.2.2.2.2.2.2.2.2.1]) (va_A [kx_5 h0 g_row m_n m_slots m_thrown g_many g_loss g_less g_voteValue g_voteNumber g_allValue g_allNumber m_allMany g_nodeL g_nodeR m_nodes g_part m_partMany g_wasMany g_wasLoss g_wasValue g_wasNumber g_path m_pathMany g_heavyValue g_heavyTimes m_heavyMany g_fewest g_which g_met m_mostMet, kx_a g_row cyI 160 f, kx_a g_many cyI 324 fm, kx_a g_loss cyI 324 fl, kx_a g_less cyI 324 fe, kx_a g_voteValue cyI 1944 vv, kx_a g_voteNumber cyI 1944 vn, kx_a g_allValue cyI 12 av, kx_a g_allNumber cyI 12 an, kx_a g_nodeL cyI 320 nl, kx_a g_nodeR cyI 320 nr, kx_a g_wasMany cyI 320 wm, kx_a g_wasLoss cyI 320 wl, kx_a g_wasValue cyI 1920 wv, kx_a g_wasNumber cyI 1920 wn] sz)) 0 0 (va_A [kx_5 h0 g_row m_n m_slots m_thrown g_many g_loss g_less g_voteValue g_voteNumber g_allValue g_allNumber m_allMany g_nodeL g_nodeR m_nodes g_part m_partMany g_wasMany g_wasLoss g_wasValue g_wasNumber g_path m_pathMany g_heavyValue g_heavyTimes m_heavyMany g_fewest g_which g_met m_mostMet, kx_a g_row cyI 160 f, kx_a g_many cyI 324 fm, kx_a g_loss cyI 324 fl, kx_a g_less cyI 324 fe, kx_a g_voteValue cyI 1944 vv, kx_a g_voteNumber cyI 1944 vn, kx_a g_allValue cyI 12 av, kx_a g_allNumber cyI 12 an, kx_a g_nodeL cyI 320 nl, kx_a g_nodeR cyI 320 nr, kx_a g_wasMany cyI 320 wm, kx_a g_wasLoss cyI 320 wl, kx_a g_wasValue cyI 1920 wv, kx_a g_wasNumber cyI 1920 wn] sz) := by
  refine Met.ofW (cc := cX5_turn) (maxL := 4) (ret := (some .int)) (by decide) rfl ?_
  intro p e s m args below meth c s₁ B hml hv
  obtain ⟨rfl, hsz, hP, hK, hD0⟩ := hv
  have hx := B.exec
  have hb := B.bytes
  have hr := B.returns
  have hts := atoms_spec (ws := wsX5_turn) B.pre
  have hown : s.vm.findClass RX5 = some m.cls := findClass_of_methodNamed B.named
  have hlocks := B.notSynchronized
  subst hsz
  have hD := hD0.self (sz := s.heap.size)
  generalize hAe : va_A [kx_5 h0 g_row m_n m_slots m_thrown g_many g_loss g_less g_voteValue g_voteNumber g_allValue g_allNumber m_allMany g_nodeL g_nodeR m_nodes g_part m_partMany g_wasMany g_wasLoss g_wasValue g_wasNumber g_path m_pathMany g_heavyValue g_heavyTimes m_heavyMany g_fewest g_which g_met m_mostMet, kx_a g_row cyI 160 f, kx_a g_many cyI 324 fm, kx_a g_loss cyI 324 fl, kx_a g_less cyI 324 fe, kx_a g_voteValue cyI 1944 vv, kx_a g_voteNumber cyI 1944 vn, kx_a g_allValue cyI 12 av, kx_a g_allNumber cyI 12 an, kx_a g_nodeL cyI 320 nl, kx_a g_nodeR cyI 320 nr, kx_a g_wasMany cyI 320 wm, kx_a g_wasLoss cyI 320 wl, kx_a g_wasValue cyI 1920 wv, kx_a g_wasNumber cyI 1920 wn] s.heap.size = A at hD ⊢
  have hA : ∀ q : Nat, s.heap.size ≤ q → A q := fun q h => by rw [← hAe]; exact Or.inr h
  have hS : va_S A s.heap s.heap [] := va_S.rf
  have hP : va_P (dC, dI) vwCl [kx_5 h0 g_row m_n m_slots m_thrown g_many g_loss g_less g_voteValue g_voteNumber g_allValue g_allNumber m_allMany g_nodeL g_nodeR m_nodes g_part m_partMany g_wasMany g_wasLoss g_wasValue g_wasNumber g_path m_pathMany g_heavyValue g_heavyTimes m_heavyMany g_fewest g_which g_met m_mostMet, kx_a g_row cyI 160 f, kx_a g_many cyI 324 fm, kx_a g_loss cyI 324 fl, kx_a g_less cyI 324 fe, kx_a g_voteValue cyI 1944 vv, kx_a g_voteNumber cyI 1944 vn, kx_a g_allValue cyI 12 av, kx_a g_allNumber cyI 12 an, kx_a g_nodeL cyI 320 nl, kx_a g_nodeR cyI 320 nr, kx_a g_wasMany cyI 320 wm, kx_a g_wasLoss cyI 320 wl, kx_a g_wasValue cyI 1920 wv, kx_a g_wasNumber cyI 1920 wn] s.heap := hP
  have hl := lv_entry ([.ref h0, .int p0, .int p1]) (n := 4) (Nat.le_of_ble_eq_true rfl)
  rw [lg_entry_eq]
  generalize (lg_sl ([.ref h0, .int p0, .int p1]) ++ List.replicate (4 - (lg_sl ([.ref h0, .int p0, .int p1])).length) Slot.unset).toArray = ls at hl ⊢
  have hl : lv_has ls 4 [(0, .ref h0), (1, .int p0), (2, .int p1)] := hl
  have hf_77 := hts (.fieldLink RX5 77 "MajorityIndexModel" "thrown" "I") (List.mem_of_getElem? (i := 1) rfl)
  have hi_5 : ∀ w ∈ u_ws RX5 TX5 30, w ∈ wsX5_turn := fun w h => List.mem_cons_of_mem _ (List.mem_append_right _ h)
  refine lv_aload_n hx hb dX5_turn_0 rfl (lv_at hl 0 rfl) ?_
  refine lv_iconst (v := 0) hx hb dX5_turn_1 (by decide) ?_
  refine va_put (D := (dC, dI)) (ci := 5) (v := .int 0) (ty := .int) (C := RX5) (T := TX5) (N := 30) hx hb hts hi_5 tyX5 tyX5_ok nmX5 hown hK hP hD hS 0 rfl rfl 3 (by decide) hf_77 (fun _ h9 => h9) rfl (by decide +kernel) rfl rfl (Nat.le_of_ble_eq_true rfl) dX5_turn_2 (fun H locs hP hD hS => ?_)
  have hP : va_P (dC, dI) vwCl [kx_5 h0 g_row m_n m_slots 0 g_many g_loss g_less g_voteValue g_voteNumber g_allValue g_allNumber m_allMany g_nodeL g_nodeR m_nodes g_part m_partMany g_wasMany g_wasLoss g_wasValue g_wasNumber g_path m_pathMany g_heavyValue g_heavyTimes m_heavyMany g_fewest g_which g_met m_mostMet, kx_a g_row cyI 160 f, kx_a g_many cyI 324 fm, kx_a g_loss cyI 324 fl, kx_a g_less cyI 324 fe, kx_a g_voteValue cyI 1944 vv, kx_a g_voteNumber cyI 1944 vn, kx_a g_allValue cyI 12 av, kx_a g_allNumber cyI 12 an, kx_a g_nodeL cyI 320 nl, kx_a g_nodeR cyI 320 nr, kx_a g_wasMany cyI 320 wm, kx_a g_wasLoss cyI 320 wl, kx_a g_wasValue cyI 1920 wv, kx_a g_wasNumber cyI 1920 wn] H := hP
  have hD : va_D A [kx_5 h0 g_row m_n m_slots 0 g_many g_loss g_less g_voteValue g_voteNumber g_allValue g_allNumber m_allMany g_nodeL g_nodeR m_nodes g_part m_partMany g_wasMany g_wasLoss g_wasValue g_wasNumber g_path m_pathMany g_heavyValue g_heavyTimes m_heavyMany g_fewest g_which g_met m_mostMet, kx_a g_row cyI 160 f, kx_a g_many cyI 324 fm, kx_a g_loss cyI 324 fl, kx_a g_less cyI 324 fe, kx_a g_voteValue cyI 1944 vv, kx_a g_voteNumber cyI 1944 vn, kx_a g_allValue cyI 12 av, kx_a g_allNumber cyI 12 an, kx_a g_nodeL cyI 320 nl, kx_a g_nodeR cyI 320 nr, kx_a g_wasMany cyI 320 wm, kx_a g_wasLoss cyI 320 wl, kx_a g_wasValue cyI 1920 wv, kx_a g_wasNumber cyI 1920 wn] := hD
  refine lv_aload_n hx hb dX5_turn_5 rfl (lv_at hl 0 rfl) ?_
  refine lv_iload_n hx hb dX5_turn_6 rfl (lv_at hl 1 rfl) ?_
  refine lv_iload_n hx hb dX5_turn_7 rfl (lv_at hl 2 rfl) ?_
  have hPc := hP.sub (ws' := [kx_5 h0 g_row m_n m_slots 0 g_many g_loss g_less g_voteValue g_voteNumber g_allValue g_allNumber m_allMany g_nodeL g_nodeR m_nodes g_part m_partMany g_wasMany g_wasLoss g_wasValue g_wasNumber g_path m_pathMany g_heavyValue g_heavyTimes m_heavyMany g_fewest g_which g_met m_mostMet]) [0] rfl
  have hKc := hK.sub (tys' := []) [] rfl
  refine vp_callSi (W.runV (As := [.int p0, .int p1]) (rest := []) ⟨hx, hb, hml, hown, hts⟩ (c_X5_isRange l dC dI h0 g_row g_many g_loss g_less g_voteValue g_voteNumber g_allValue g_allNumber g_nodeL g_nodeR g_part g_wasMany g_wasLoss g_wasValue g_wasNumber g_path g_heavyValue g_heavyTimes g_fewest g_which g_met m_n m_slots 0 m_allMany m_nodes m_partMany m_pathMany m_heavyMany m_mostMet p0 p1) (cwV 2 hts gX5_turn_X5_isRange rfl rfl rfl (by decide +kernel) ⟨Nat.le_of_ble_eq_true rfl, Nat.le_of_ble_eq_true rfl⟩) ⟨fun a U g mk q => by obtain ⟨q0, qP, qK⟩ := q; exact ⟨q0, qP, va_K.moved (u := U) (U := U.calling g mk a) (Vm.Alike.refl U.vm) qK⟩, va_recv hKc hPc (ci := 5) (q0 := 0) rfl rfl, fun U hU hW => ⟨rfl, by rw [hU]; exact hPc, va_K.moved hW.alike hKc⟩⟩ rfl rfl hl.1 rfl (lv_room (Nat.le_of_ble_eq_true rfl)) dX5_turn_8 ⟨Nat.le_of_ble_eq_true rfl, Nat.le_of_ble_eq_true rfl⟩) (fun r_1 w_1 => ?_)
  rcases w_1 with ⟨rfl, w_1⟩ | ⟨rfl, w_1⟩
  · have w_1 : (0 ≤ p0.toInt ∧ p0.toInt < p1.toInt ∧ p1.toInt ≤ m_n.toInt) := w_1
    refine lv_if_ne (tgt := 16) hx hb dX5_turn_11 (by decide) (fun c_2 => ?_) (fun c_2 => ?_)
    · refine lv_aload_n hx hb dX5_turn_16 rfl (lv_at hl 0 rfl) ?_
      have hPc := hP
      have hKc := hK
      have hDc := hD
      have hFc := kx_free hD hS hA
      refine va_callv (va_runV (As := []) (rest := []) ⟨hx, hb, hml, hown, hts⟩ (c_X5_keeps l dC dI h0 g_row g_many g_loss g_less g_voteValue g_voteNumber g_allValue g_allNumber g_nodeL g_nodeR g_part g_wasMany g_wasLoss g_wasValue g_wasNumber g_path g_heavyValue g_heavyTimes g_fewest g_which g_met m_n m_slots 0 m_allMany m_nodes m_partMany m_pathMany m_heavyMany m_mostMet cyI fm fl fe vv vn f av an nl nr wm wl wv wn H.size a0 a1 sl0 sl1 s4) (cwV 0 hts gX5_turn_X5_keeps rfl rfl rfl (by decide +kernel) ⟨Nat.le_of_ble_eq_true rfl, Nat.le_of_ble_eq_true rfl⟩) ⟨fun a U g mk q => by obtain ⟨q0, q1, qP, qK, qD⟩ := q; exact ⟨q0, q1, qP, va_K.moved (u := U) (U := U.calling g mk a) (Vm.Alike.refl U.vm) qK, qD⟩, va_recv hKc hPc (ci := 5) (q0 := 0) rfl rfl, fun U hU hW => ⟨rfl, by rw [hU], by rw [hU]; exact hPc, va_K.moved hW.alike hKc, hDc.weaken (fun _ _ _ _ => trivial)⟩⟩ rfl rfl hl.1 rfl (lv_room (Nat.le_of_ble_eq_true rfl)) dX5_turn_17 ⟨Nat.le_of_ble_eq_true rfl, Nat.le_of_ble_eq_true rfl⟩) hS (fun q _ h => hFc q h) hFc (fun u t H1 locs ht hvm w_3 hB hz1 hk1 hS => ?_)
      obtain ⟨o_4, o_5, o_6, o_7, o_8, o_9, o_10, o_11, o_12, o_13, o_14, o_15, o_16, o_17, o_18⟩ := u
      dsimp only at w_3 hB
      obtain ⟨hP1, hK1, hD1⟩ := hB
      rw [ht] at hP1
      have hK1 := va_K.moved hvm.symm hK1
      have hD := hD1.weaken (fun _ q _ h => hFc q.1 h)
      have hP := hP1
      clear hP1 hD1 hK1 hk1 hz1 hFc hDc hPc hKc
      generalize H1 = H at hP hS ⊢
      have w_3 : six4 o_6 := w_3
      refine lv_iconst (v := 0) hx hb dX5_turn_20 (by decide) ?_
      refine lv_istore_n (lv' := [(3, .int 0), (0, .ref h0), (1, .int p0), (2, .int p1)]) hx hb dX5_turn_21 rfl hl (by decide) rfl (fun ls hl => ?_)
      have LP1 : ∀ (n : Nat) (k : Int32) (gc : Nat → Int32), (0 ≤ k.toInt) → (2 * k.toInt ≤ p1.toInt - p0.toInt) → (k.toInt ≤ 160) → (gc = mj_tu f p0.toNatClampNeg p1.toNatClampNeg k.toNatClampNeg) → (p1.toInt - p0.toInt - 2 * k.toInt).toNat < n → ∀ (H : Heap) (locs : List Loc), va_P (dC, dI) vwCl [kx_5 h0 g_row m_n m_slots 0 g_many g_loss g_less g_voteValue g_voteNumber g_allValue g_allNumber o_5 g_nodeL g_nodeR o_4 g_part m_partMany g_wasMany g_wasLoss g_wasValue g_wasNumber g_path m_pathMany g_heavyValue g_heavyTimes m_heavyMany g_fewest g_which g_met m_mostMet, kx_a g_row cyI 160 gc, kx_a g_many cyI 324 o_6, kx_a g_loss cyI 324 o_7, kx_a g_less cyI 324 o_8, kx_a g_voteValue cyI 1944 o_9, kx_a g_voteNumber cyI 1944 o_10, kx_a g_allValue cyI 12 o_11, kx_a g_allNumber cyI 12 o_12, kx_a g_nodeL cyI 320 o_13, kx_a g_nodeR cyI 320 o_14, kx_a g_wasMany cyI 320 o_15, kx_a g_wasLoss cyI 320 o_16, kx_a g_wasValue cyI 1920 o_17, kx_a g_wasNumber cyI 1920 o_18] H → va_D A [kx_5 h0 g_row m_n m_slots 0 g_many g_loss g_less g_voteValue g_voteNumber g_allValue g_allNumber o_5 g_nodeL g_nodeR o_4 g_part m_partMany g_wasMany g_wasLoss g_wasValue g_wasNumber g_path m_pathMany g_heavyValue g_heavyTimes m_heavyMany g_fewest g_which g_met m_mostMet, kx_a g_row cyI 160 gc, kx_a g_many cyI 324 o_6, kx_a g_loss cyI 324 o_7, kx_a g_less cyI 324 o_8, kx_a g_voteValue cyI 1944 o_9, kx_a g_voteNumber cyI 1944 o_10, kx_a g_allValue cyI 12 o_11, kx_a g_allNumber cyI 12 o_12, kx_a g_nodeL cyI 320 o_13, kx_a g_nodeR cyI 320 o_14, kx_a g_wasMany cyI 320 o_15, kx_a g_wasLoss cyI 320 o_16, kx_a g_wasValue cyI 1920 o_17, kx_a g_wasNumber cyI 1920 o_18] → va_S A s.heap H locs → ∀ (ls : Array Slot), lv_has ls 4 [(3, .int k), (0, .ref h0), (1, .int p0), (2, .int p1)] → W p l e (headSpec wsX5_turn ({ frames := 13, cells := 0, slots := 0, locals := 585 })).room s m ([.ref h0, .int p0, .int p1] : List Value).toArray below meth c H locs 0 0 (MQ below (va_Qi (fun (r : Int32) (u : Int32 × Int32 × (Nat → Int32) × (Nat → Int32) × (Nat → Int32) × (Nat → Int32) × (Nat → Int32) × (Nat → Int32) × (Nat → Int32) × (Nat → Int32) × (Nat → Int32) × (Nat → Int32) × (Nat → Int32) × (Nat → Int32) × (Nat → Int32) × (Nat → Int32)) => (((0 ≤ p0.toInt ∧ p0.toInt < p1.toInt ∧ p1.toInt ≤ m_n.toInt) ∧ u.2.2.2.2.2.2.2.2.2.2.2.2.2.2.2 = mj_turn f p0.toNatClampNeg p1.toNatClampNeg) ∨ ((p0.toInt < 0 ∨ p1.toInt ≤ p0.toInt ∨ m_n.toInt < p1.toInt) ∧ u.2.2.2.2.2.2.2.2.2.2.2.2.2.2.2 = f ∧ r = -1)) ∧ shorts u.2.2.2.2.2.2.2.2.2.2.2.2.2.2.2 ∧ six4 u.2.2.1) (fun (u : Int32 × Int32 × (Nat → Int32) × (Nat → Int32) × (Nat → Int32) × (Nat → Int32) × (Nat → Int32) × (Nat → Int32) × (Nat → Int32) × (Nat → Int32) × (Nat → Int32) × (Nat → Int32) × (Nat → Int32) × (Nat → Int32) × (Nat → Int32) × (Nat → Int32)) (t : State) => va_P (dC, dI) vwCl [kx_5 h0 g_row m_n m_slots 0 g_many g_loss g_less g_voteValue g_voteNumber g_allValue g_allNumber u.2.1 g_nodeL g_nodeR u.1 g_part m_partMany g_wasMany g_wasLoss g_wasValue g_wasNumber g_path m_pathMany g_heavyValue g_heavyTimes m_heavyMany g_fewest g_which g_met m_mostMet, kx_a g_row cyI 160 u.2.2.2.2.2.2.2.2.2.2.2.2.2.2.2, kx_a g_many cyI 324 u.2.2.1, kx_a g_loss cyI 324 u.2.2.2.1, kx_a g_less cyI 324 u.2.2.2.2.1, kx_a g_voteValue cyI 1944 u.2.2.2.2.2.1, kx_a g_voteNumber cyI 1944 u.2.2.2.2.2.2.1, kx_a g_allValue cyI 12 u.2.2.2.2.2.2.2.1, kx_a g_allNumber cyI 12 u.2.2.2.2.2.2.2.2.1, kx_a g_nodeL cyI 320 u.2.2.2.2.2.2.2.2.2.1, kx_a g_nodeR cyI 320 u.2.2.2.2.2.2.2.2.2.2.1, kx_a g_wasMany cyI 320 u.2.2.2.2.2.2.2.2.2.2.2.1, kx_a g_wasLoss cyI 320 u.2.2.2.2.2.2.2.2.2.2.2.2.1, kx_a g_wasValue cyI 1920 u.2.2.2.2.2.2.2.2.2.2.2.2.2.1, kx_a g_wasNumber cyI 1920 u.2.2.2.2.2.2.2.2.2.2.2.2.2.2.1] t.heap ∧ va_K (dC, dI) vwCl [(cyI, .int)] t ∧ va_D A [kx_5 h0 g_row m_n m_slots 0 g_many g_loss g_less g_voteValue g_voteNumber g_allValue g_allNumber u.2.1 g_nodeL g_nodeR u.1 g_part m_partMany g_wasMany g_wasLoss g_wasValue g_wasNumber g_path m_pathMany g_heavyValue g_heavyTimes m_heavyMany g_fewest g_which g_met m_mostMet, kx_a g_row cyI 160 u.2.2.2.2.2.2.2.2.2.2.2.2.2.2.2, kx_a g_many cyI 324 u.2.2.1, kx_a g_loss cyI 324 u.2.2.2.1, kx_a g_less cyI 324 u.2.2.2.2.1, kx_a g_voteValue cyI 1944 u.2.2.2.2.2.1, kx_a g_voteNumber cyI 1944 u.2.2.2.2.2.2.1, kx_a g_allValue cyI 12 u.2.2.2.2.2.2.2.1, kx_a g_allNumber cyI 12 u.2.2.2.2.2.2.2.2.1, kx_a g_nodeL cyI 320 u.2.2.2.2.2.2.2.2.2.1, kx_a g_nodeR cyI 320 u.2.2.2.2.2.2.2.2.2.2.1, kx_a g_wasMany cyI 320 u.2.2.2.2.2.2.2.2.2.2.2.1, kx_a g_wasLoss cyI 320 u.2.2.2.2.2.2.2.2.2.2.2.2.1, kx_a g_wasValue cyI 1920 u.2.2.2.2.2.2.2.2.2.2.2.2.2.1, kx_a g_wasNumber cyI 1920 u.2.2.2.2.2.2.2.2.2.2.2.2.2.2.1]) A) ([.ref h0, .int p0, .int p1] : List Value).toArray s 0 0 A) (F0 m 22 ls []) := by
        intro n
        induction n with
        | zero => intro k gc LP1_h0 LP1_h1 LP1_h2 LP1_h3 hn; exact absurd hn (Nat.not_lt_zero _)
        | succ n ih1 =>
          intro k gc LP1_h0 LP1_h1 LP1_h2 LP1_h3 hn1 H locs hP hD hS ls hl
          have n_k := ki_nat k rfl (om_8 LP1_h0)
          have n_p0 := ki_nat p0 rfl (by omega)
          have n_p1 := ki_nat p1 rfl (by omega)
          refine lv_iload_n hx hb dX5_turn_22 rfl (lv_at hl 0 rfl) ?_
          refine lv_iload_n hx hb dX5_turn_23 rfl (lv_at hl 3 rfl) ?_
          refine lv_iload_n hx hb dX5_turn_24 rfl (lv_at hl 2 rfl) ?_
          refine lv_isub hx hb dX5_turn_25 ?_
          refine lv_topi (fun y_19 ey_19 => ?_)
          have i_19 : y_19.toInt = p1.toInt - p0.toInt := ki_sub ey_19 rfl rfl (om_288 LP1_h0 LP1_h1) (by omega)
          refine lv_iconst (v := 2) hx hb dX5_turn_26 (by decide) ?_
          refine lv_idiv hx hb dX5_turn_27 (by decide) ?_
          refine lv_topi (fun y_20 ey_20 => ?_)
          have i_20 : y_20.toInt = y_19.toInt / 2 := ki_div2 ey_20 rfl (by omega)
          refine lv_icmp_ge (tgt := 49) hx hb dX5_turn_28 (by decide) (fun c_21 => ?_) (fun c_21 => ?_)
          · have i_21 : y_20.toInt ≤ k.toInt := kc_le c_21
            refine lv_aload_n hx hb dX5_turn_49 rfl (lv_at hl 1 rfl) ?_
            have hPc := hP
            have hKc := hK
            have hDc := hD
            have hFc := kx_free hD hS hA
            refine va_calli (va_runV (As := []) (rest := []) ⟨hx, hb, hml, hown, hts⟩ (c_X5_others l dC dI h0 g_row g_many g_loss g_less g_voteValue g_voteNumber g_allValue g_allNumber g_nodeL g_nodeR g_part g_wasMany g_wasLoss g_wasValue g_wasNumber g_path g_heavyValue g_heavyTimes g_fewest g_which g_met m_n m_slots 0 o_5 o_4 m_partMany m_pathMany m_heavyMany m_mostMet cyI o_6 o_7 o_8 o_9 o_10 gc o_11 o_12 o_13 o_14 o_15 o_16 o_17 o_18 H.size a0 a1 sl0 sl1 w_3) (cwV 0 hts gX5_turn_X5_others rfl rfl rfl (by decide +kernel) ⟨Nat.le_of_ble_eq_true rfl, Nat.le_of_ble_eq_true rfl⟩) ⟨fun a U g mk q => by obtain ⟨q0, q1, qP, qK, qD⟩ := q; exact ⟨q0, q1, qP, va_K.moved (u := U) (U := U.calling g mk a) (Vm.Alike.refl U.vm) qK, qD⟩, va_recv hKc hPc (ci := 5) (q0 := 0) rfl rfl, fun U hU hW => ⟨rfl, by rw [hU], by rw [hU]; exact hPc, va_K.moved hW.alike hKc, hDc.weaken (fun _ _ _ _ => trivial)⟩⟩ rfl rfl hl.1 rfl (lv_room (Nat.le_of_ble_eq_true rfl)) dX5_turn_50 ⟨Nat.le_of_ble_eq_true rfl, Nat.le_of_ble_eq_true rfl⟩) hS (fun q _ h => hFc q h) hFc (fun r_22 u t H1 locs ht hvm w_22 hB hz1 hk1 hS => ?_)
            obtain ⟨o_23, o_24, o_25, o_26, o_27, o_28, o_29, o_30, o_31, o_32, o_33⟩ := u
            dsimp only at w_22 hB
            obtain ⟨hP1, hK1, hD1⟩ := hB
            rw [ht] at hP1
            have hK1 := va_K.moved hvm.symm hK1
            have hD := hD1.weaken (fun _ q _ h => hFc q.1 h)
            have hP := hP1
            clear hP1 hD1 hK1 hk1 hz1 hFc hDc hPc hKc
            generalize H1 = H at hP hS ⊢
            have w_22 : six4 o_25 := w_22
            have hP9 := hP
            have hD9 := hD
            have hK9 := hK
            have e_t : gc = mj_turn f p0.toNatClampNeg p1.toNatClampNeg := by rw [LP1_h3]; exact mj_tu_end (by omega) (by omega) (by omega)
            exact W.iret (v := r_22) hx hb hr (fun t ht hW => ⟨⟨r_22, (o_23, o_24, o_25, o_26, o_27, o_28, o_29, o_30, o_31, o_32, o_33, o_15, o_16, o_17, o_18, gc), rfl, ⟨Or.inl ⟨by omega, e_t⟩, (by (try dsimp only); rw [e_t]; exact shorts_turn s1 (by omega)), w_22⟩, by rw [ht]; exact hP9, va_K.moved hW.alike hK9, hD9⟩, hS.F ht⟩) hS.2.2 dX5_turn_53
          · have i_21 : k.toInt < y_20.toInt := kc_nle c_21
            refine lv_aload_n hx hb dX5_turn_31 rfl (lv_at hl 1 rfl) ?_
            refine lv_iload_n hx hb dX5_turn_32 rfl (lv_at hl 2 rfl) ?_
            refine lv_iload_n hx hb dX5_turn_33 rfl (lv_at hl 0 rfl) ?_
            refine lv_iadd hx hb dX5_turn_34 ?_
            refine lv_topi (fun y_34 ey_34 => ?_)
            have i_34 : y_34.toInt = p0.toInt + k.toInt := ki_add ey_34 rfl rfl (by omega) (by omega)
            refine lv_iload_n hx hb dX5_turn_35 rfl (lv_at hl 3 rfl) ?_
            refine lv_iconst (v := 1) hx hb dX5_turn_36 (by decide) ?_
            refine lv_isub hx hb dX5_turn_37 ?_
            refine lv_topi (fun y_35 ey_35 => ?_)
            have i_35 : y_35.toInt = p1.toInt - 1 := ki_sub ey_35 rfl rfl (by omega) (by omega)
            refine lv_iload_n hx hb dX5_turn_38 rfl (lv_at hl 0 rfl) ?_
            refine lv_isub hx hb dX5_turn_39 ?_
            refine lv_topi (fun y_36 ey_36 => ?_)
            have i_36 : y_36.toInt = y_35.toInt - k.toInt := ki_sub ey_36 rfl rfl (by omega) (by omega)
            have hPc := hP.sub (ws' := [kx_5 h0 g_row m_n m_slots 0 g_many g_loss g_less g_voteValue g_voteNumber g_allValue g_allNumber o_5 g_nodeL g_nodeR o_4 g_part m_partMany g_wasMany g_wasLoss g_wasValue g_wasNumber g_path m_pathMany g_heavyValue g_heavyTimes m_heavyMany g_fewest g_which g_met m_mostMet, kx_a g_row cyI 160 gc]) [0, 1] rfl
            have hKc := hK
            have hDc := hD.sub (ws' := [kx_5 h0 g_row m_n m_slots 0 g_many g_loss g_less g_voteValue g_voteNumber g_allValue g_allNumber o_5 g_nodeL g_nodeR o_4 g_part m_partMany g_wasMany g_wasLoss g_wasValue g_wasNumber g_path m_pathMany g_heavyValue g_heavyTimes m_heavyMany g_fewest g_which g_met m_mostMet, kx_a g_row cyI 160 gc]) [0, 1] (by decide) rfl
            have hFc := va_free (wc := [kx_5 h0 g_row m_n m_slots 0 g_many g_loss g_less g_voteValue g_voteNumber g_allValue g_allNumber o_5 g_nodeL g_nodeR o_4 g_part m_partMany g_wasMany g_wasLoss g_wasValue g_wasNumber g_path m_pathMany g_heavyValue g_heavyTimes m_heavyMany g_fewest g_which g_met m_mostMet, kx_a g_row cyI 160 gc]) hD hS hA [0, 1] rfl
            refine va_callv (va_runV (As := [.int y_34, .int y_36]) (rest := []) ⟨hx, hb, hml, hown, hts⟩ (c_X5_exchanges l dC dI h0 g_row g_many g_loss g_less g_voteValue g_voteNumber g_allValue g_allNumber g_nodeL g_nodeR g_part g_wasMany g_wasLoss g_wasValue g_wasNumber g_path g_heavyValue g_heavyTimes g_fewest g_which g_met m_n m_slots 0 o_5 o_4 m_partMany m_pathMany m_heavyMany m_mostMet cyI gc y_34 y_36 H.size (by omega) (by omega) (by omega) (by omega)) (cwV 2 hts gX5_turn_X5_exchanges rfl rfl rfl (by decide +kernel) ⟨Nat.le_of_ble_eq_true rfl, Nat.le_of_ble_eq_true rfl⟩) ⟨fun a U g mk q => by obtain ⟨q0, q1, qP, qK, qD⟩ := q; exact ⟨q0, q1, qP, va_K.moved (u := U) (U := U.calling g mk a) (Vm.Alike.refl U.vm) qK, qD⟩, va_recv hKc hPc (ci := 5) (q0 := 0) rfl rfl, fun U hU hW => ⟨rfl, by rw [hU], by rw [hU]; exact hPc, va_K.moved hW.alike hKc, hDc.weaken (fun _ _ _ _ => trivial)⟩⟩ rfl rfl hl.1 rfl (lv_room (Nat.le_of_ble_eq_true rfl)) dX5_turn_40 ⟨Nat.le_of_ble_eq_true rfl, Nat.le_of_ble_eq_true rfl⟩) hS (fun q _ h => hFc q h) hFc (fun u t H1 locs ht hvm w_37 hB hz1 hk1 hS => ?_)
            obtain ⟨o_38, rfl⟩ : ∃ z, z = u := ⟨_, rfl⟩
            obtain ⟨hP1, hK1, hD1⟩ := hB
            rw [ht] at hP1
            have hK1 := va_K.moved hvm.symm hK1
            obtain ⟨hP, hD⟩ := va_join (wr := [kx_a g_many cyI 324 o_6, kx_a g_loss cyI 324 o_7, kx_a g_less cyI 324 o_8, kx_a g_voteValue cyI 1944 o_9, kx_a g_voteNumber cyI 1944 o_10, kx_a g_allValue cyI 12 o_11, kx_a g_allNumber cyI 12 o_12, kx_a g_nodeL cyI 320 o_13, kx_a g_nodeR cyI 320 o_14, kx_a g_wasMany cyI 320 o_15, kx_a g_wasLoss cyI 320 o_16, kx_a g_wasValue cyI 1920 o_17, kx_a g_wasNumber cyI 1920 o_18]) (w1 := [kx_5 h0 g_row m_n m_slots 0 g_many g_loss g_less g_voteValue g_voteNumber g_allValue g_allNumber o_5 g_nodeL g_nodeR o_4 g_part m_partMany g_wasMany g_wasLoss g_wasValue g_wasNumber g_path m_pathMany g_heavyValue g_heavyTimes m_heavyMany g_fewest g_which g_met m_mostMet, kx_a g_row cyI 160 o_38]) hP hD [0, 1] [2, 3, 4, 5, 6, 7, 8, 9, 10, 11, 12, 13, 14] rfl rfl (by decide) (by decide) hk1 hFc hP1 hD1
            clear hP1 hD1 hK1 hk1 hz1 hFc hDc hPc hKc
            generalize H1 = H at hP hS ⊢
            have hP : va_P (dC, dI) vwCl [kx_a g_many cyI 324 o_6, kx_a g_loss cyI 324 o_7, kx_a g_less cyI 324 o_8, kx_a g_voteValue cyI 1944 o_9, kx_a g_voteNumber cyI 1944 o_10, kx_a g_allValue cyI 12 o_11, kx_a g_allNumber cyI 12 o_12, kx_a g_nodeL cyI 320 o_13, kx_a g_nodeR cyI 320 o_14, kx_a g_wasMany cyI 320 o_15, kx_a g_wasLoss cyI 320 o_16, kx_a g_wasValue cyI 1920 o_17, kx_a g_wasNumber cyI 1920 o_18, kx_5 h0 g_row m_n m_slots 0 g_many g_loss g_less g_voteValue g_voteNumber g_allValue g_allNumber o_5 g_nodeL g_nodeR o_4 g_part m_partMany g_wasMany g_wasLoss g_wasValue g_wasNumber g_path m_pathMany g_heavyValue g_heavyTimes m_heavyMany g_fewest g_which g_met m_mostMet, kx_a g_row cyI 160 o_38] H := hP
            have hD : va_D A [kx_a g_many cyI 324 o_6, kx_a g_loss cyI 324 o_7, kx_a g_less cyI 324 o_8, kx_a g_voteValue cyI 1944 o_9, kx_a g_voteNumber cyI 1944 o_10, kx_a g_allValue cyI 12 o_11, kx_a g_allNumber cyI 12 o_12, kx_a g_nodeL cyI 320 o_13, kx_a g_nodeR cyI 320 o_14, kx_a g_wasMany cyI 320 o_15, kx_a g_wasLoss cyI 320 o_16, kx_a g_wasValue cyI 1920 o_17, kx_a g_wasNumber cyI 1920 o_18, kx_5 h0 g_row m_n m_slots 0 g_many g_loss g_less g_voteValue g_voteNumber g_allValue g_allNumber o_5 g_nodeL g_nodeR o_4 g_part m_partMany g_wasMany g_wasLoss g_wasValue g_wasNumber g_path m_pathMany g_heavyValue g_heavyTimes m_heavyMany g_fewest g_which g_met m_mostMet, kx_a g_row cyI 160 o_38] := hD
            have w_37 : o_38 = mj_ex gc y_34.toNatClampNeg y_36.toNatClampNeg := w_37
            obtain ⟨x_39, ex_39⟩ : ∃ y : Int32, y = k + 1 := ⟨_, rfl⟩
            have i_39 : x_39.toInt = k.toInt + 1 := ki_add ex_39 rfl rfl (om_10 LP1_h0) (om_130 LP1_h2)
            refine lv_iinc (v := x_39) (lv' := [(3, .int x_39), (0, .ref h0), (1, .int p0), (2, .int p1)]) hx hb dX5_turn_43 hl (k := 0) rfl (by rw [ex_39]; rfl) (by decide) rfl (fun ls hl => ?_)
            refine lv_goto (tgt := 22) hx hb dX5_turn_46 (by decide) ?_
            have hP : va_P (dC, dI) vwCl [kx_5 h0 g_row m_n m_slots 0 g_many g_loss g_less g_voteValue g_voteNumber g_allValue g_allNumber o_5 g_nodeL g_nodeR o_4 g_part m_partMany g_wasMany g_wasLoss g_wasValue g_wasNumber g_path m_pathMany g_heavyValue g_heavyTimes m_heavyMany g_fewest g_which g_met m_mostMet, kx_a g_row cyI 160 o_38, kx_a g_many cyI 324 o_6, kx_a g_loss cyI 324 o_7, kx_a g_less cyI 324 o_8, kx_a g_voteValue cyI 1944 o_9, kx_a g_voteNumber cyI 1944 o_10, kx_a g_allValue cyI 12 o_11, kx_a g_allNumber cyI 12 o_12, kx_a g_nodeL cyI 320 o_13, kx_a g_nodeR cyI 320 o_14, kx_a g_wasMany cyI 320 o_15, kx_a g_wasLoss cyI 320 o_16, kx_a g_wasValue cyI 1920 o_17, kx_a g_wasNumber cyI 1920 o_18] _ := hP.sub [13, 14, 0, 1, 2, 3, 4, 5, 6, 7, 8, 9, 10, 11, 12] rfl
            have hD : va_D A [kx_5 h0 g_row m_n m_slots 0 g_many g_loss g_less g_voteValue g_voteNumber g_allValue g_allNumber o_5 g_nodeL g_nodeR o_4 g_part m_partMany g_wasMany g_wasLoss g_wasValue g_wasNumber g_path m_pathMany g_heavyValue g_heavyTimes m_heavyMany g_fewest g_which g_met m_mostMet, kx_a g_row cyI 160 o_38, kx_a g_many cyI 324 o_6, kx_a g_loss cyI 324 o_7, kx_a g_less cyI 324 o_8, kx_a g_voteValue cyI 1944 o_9, kx_a g_voteNumber cyI 1944 o_10, kx_a g_allValue cyI 12 o_11, kx_a g_allNumber cyI 12 o_12, kx_a g_nodeL cyI 320 o_13, kx_a g_nodeR cyI 320 o_14, kx_a g_wasMany cyI 320 o_15, kx_a g_wasLoss cyI 320 o_16, kx_a g_wasValue cyI 1920 o_17, kx_a g_wasNumber cyI 1920 o_18] := hD.sub [13, 14, 0, 1, 2, 3, 4, 5, 6, 7, 8, 9, 10, 11, 12] (by decide) rfl
            have n_40 := ki_nat y_34 rfl (by omega)
            have n_41 := ki_nat y_36 rfl (by omega)
            have n_42 := ki_nat x_39 rfl (om_31 LP1_h0 i_39)
            exact ih1 x_39 o_38 (om_31 LP1_h0 i_39) (by omega) (by omega) (by rw [w_37, LP1_h3]; exact mj_tu_step (by omega) (by omega) (by omega) (by omega) (by omega)) (by omega) _ _ hP hD hS ls (lv_sub hl [0, 1, 2, 3] rfl)
      have k_43 : (0 : Int32).toInt = 0 := rfl
      exact LP1 ((p1.toInt - p0.toInt - 2 * 0 : Int).toNat + 1) 0 f om_32 (by omega) om_279 (mj_tu_0 _ _ _ rfl).symm (Nat.lt_succ_self _) _ _ hP hD hS ls (lv_sub hl [0, 1, 2, 3] rfl)
    · exact absurd c_2 (by decide)
  · have w_1 : (p0.toInt < 0 ∨ p1.toInt ≤ p0.toInt ∨ m_n.toInt < p1.toInt) := w_1
    refine lv_if_ne (tgt := 16) hx hb dX5_turn_11 (by decide) (fun c_44 => ?_) (fun c_44 => ?_)
    · exact absurd c_44 (by decide)
    · refine lv_iconst (v := (-1)) hx hb dX5_turn_14 (by decide) ?_
      have hP9 := hP
      have hD9 := hD
      have hK9 := hK
      exact W.iret (v := (-1)) hx hb hr (fun t ht hW => ⟨⟨(-1), (m_nodes, m_allMany, fm, fl, fe, vv, vn, av, an, nl, nr, wm, wl, wv, wn, f), rfl, ⟨Or.inr ⟨by omega, rfl, rfl⟩, s1, s4⟩, by rw [ht]; exact hP9, va_K.moved hW.alike hK9, hD9⟩, hS.F ht⟩) hS.2.2 dX5_turn_15

set_option maxHeartbeats 4000000 in
set_option maxRecDepth 100000 in
theorem c_X5_swap (l : Launch) (dC : Nat → ClassId) (dI : Nat → Nat → Nat) (h0 : Nat) (g_row : Nat) (g_many : Nat) (g_loss : Nat) (g_less : Nat) (g_voteValue : Nat) (g_voteNumber : Nat) (g_allValue : Nat) (g_allNumber : Nat) (g_nodeL : Nat) (g_nodeR : Nat) (g_part : Nat) (g_wasMany : Nat) (g_wasLoss : Nat) (g_wasValue : Nat) (g_wasNumber : Nat) (g_path : Nat) (g_heavyValue : Nat) (g_heavyTimes : Nat) (g_fewest : Nat) (g_which : Nat) (g_met : Nat) (m_n : Int32) (m_slots : Int32) (m_thrown : Int32) (m_allMany : Int32) (m_nodes : Int32) (m_partMany : Int32) (m_pathMany : Int32) (m_heavyMany : Int32) (m_mostMet : Int32) (cyI : ClassId) (fm : Nat → Int32) (fl : Nat → Int32) (fe : Nat → Int32) (vv : Nat → Int32) (vn : Nat → Int32) (f : Nat → Int32) (av : Nat → Int32) (an : Nat → Int32) (nl : Nat → Int32) (nr : Nat → Int32) (wm : Nat → Int32) (wl : Nat → Int32) (wv : Nat → Int32) (wn : Nat → Int32) (p0 : Int32) (p1 : Int32) (sz : Nat) (a0 : 0 ≤ m_n.toInt) (a1 : m_n.toInt ≤ 160) (sl0 : 1 ≤ m_slots.toInt) (sl1 : m_slots.toInt ≤ 6) (s4 : six4 fm) (s1 : shorts f) : Met l yX5_swap wsX5_swap ({ frames := 13, cells := 0, slots := 0, locals := 585 }) (va_Pc [.ref h0, .int p0, .int p1] (fun U => U.heap.size = sz ∧ va_P (dC, dI) vwCl [kx_5 h0 g_row m_n m_slots m_thrown g_many g_loss g_less g_voteValue g_voteNumber g_allValue g_allNumber m_allMany g_nodeL g_nodeR m_nodes g_part m_partMany g_wasMany g_wasLoss g_wasValue g_wasNumber g_path m_pathMany g_heavyValue g_heavyTimes m_heavyMany g_fewest g_which g_met m_mostMet, kx_a g_row cyI 160 f, kx_a g_many cyI 324 fm, kx_a g_loss cyI 324 fl, kx_a g_less cyI 324 fe, kx_a g_voteValue cyI 1944 vv, kx_a g_voteNumber cyI 1944 vn, kx_a g_allValue cyI 12 av, kx_a g_allNumber cyI 12 an, kx_a g_nodeL cyI 320 nl, kx_a g_nodeR cyI 320 nr, kx_a g_wasMany cyI 320 wm, kx_a g_wasLoss cyI 320 wl, kx_a g_wasValue cyI 1920 wv, kx_a g_wasNumber cyI 1920 wn] U.heap ∧ va_K (dC, dI) vwCl [(cyI, .int)] U ∧ va_D (fun _ => True) [kx_5 h0 g_row m_n m_slots m_thrown g_many g_loss g_less g_voteValue g_voteNumber g_allValue g_allNumber m_allMany g_nodeL g_nodeR m_nodes g_part m_partMany g_wasMany g_wasLoss g_wasValue g_wasNumber g_path m_pathMany g_heavyValue g_heavyTimes m_heavyMany g_fewest g_which g_met m_mostMet, kx_a g_row cyI 160 f, kx_a g_many cyI 324 fm, kx_a g_loss cyI 324 fl, kx_a g_less cyI 324 fe, kx_a g_voteValue cyI 1944 vv, kx_a g_voteNumber cyI 1944 vn, kx_a g_allValue cyI 12 av, kx_a g_allNumber cyI 12 an, kx_a g_nodeL cyI 320 nl, kx_a g_nodeR cyI 320 nr, kx_a g_wasMany cyI 320 wm, kx_a g_wasLoss cyI 320 wl, kx_a g_wasValue cyI 1920 wv, kx_a g_wasNumber cyI 1920 wn])) (va_Qi (fun (r : Int32) (u : Int32 × Int32 × (Nat → Int32) × (Nat → Int32) × (Nat → Int32) × (Nat → Int32) × (Nat → Int32) × (Nat → Int32) × (Nat → Int32) × (Nat → Int32) × (Nat → Int32) × (Nat → Int32) × (Nat → Int32) × (Nat → Int32) × (Nat → Int32) × (Nat → Int32)) => (((0 ≤ p0.toInt ∧ p0.toInt < m_n.toInt ∧ 0 ≤ p1.toInt ∧ p1.toInt < m_n.toInt) ∧ u.2.2.2.2.2.2.2.2.2.2.2.2.2.2.2 = mj_ex f p0.toNatClampNeg p1.toNatClampNeg) ∨ ((p0.toInt < 0 ∨ m_n.toInt ≤ p0.toInt ∨ p1.toInt < 0 ∨ m_n.toInt ≤ p1.toInt) ∧ u.2.2.2.2.2.2.2.2.2.2.2.2.2.2.2 = f ∧ r = -1)) ∧ shorts u.2.2.2.2.2.2.2.2.2.2.2.2.2.2.2 ∧ six4 u.2.2.1) (fun (u : Int32 × Int32 × (Nat → Int32) × (Nat → Int32) × (Nat → Int32) × (Nat → Int32) × (Nat → Int32) × (Nat → Int32) × (Nat → Int32) × (Nat → Int32) × (Nat → Int32) × (Nat → Int32) × (Nat → Int32) × (Nat → Int32) × (Nat → Int32) × (Nat → Int32)) (t : State) => va_P (dC, dI) vwCl [kx_5 h0 g_row m_n m_slots 0 g_many g_loss g_less g_voteValue g_voteNumber g_allValue g_allNumber u.2.1 g_nodeL g_nodeR u.1 g_part m_partMany g_wasMany g_wasLoss g_wasValue g_wasNumber g_path m_pathMany g_heavyValue g_heavyTimes m_heavyMany g_fewest g_which g_met m_mostMet, kx_a g_row cyI 160 u.2.2.2.2.2.2.2.2.2.2.2.2.2.2.2, kx_a g_many cyI 324 u.2.2.1, kx_a g_loss cyI 324 u.2.2.2.1, kx_a g_less cyI 324 u.2.2.2.2.1, kx_a g_voteValue cyI 1944 u.2.2.2.2.2.1, kx_a g_voteNumber cyI 1944 u.2.2.2.2.2.2.1, kx_a g_allValue cyI 12 u.2.2.2.2.2.2.2.1, kx_a g_allNumber cyI 12 u.2.2.2.2.2.2.2.2.1, kx_a g_nodeL cyI 320 u.2.2.2.2.2.2.2.2.2.1, kx_a g_nodeR cyI 320 u.2.2.2.2.2.2.2.2.2.2.1, kx_a g_wasMany cyI 320 u.2.2.2.2.2.2.2.2.2.2.2.1, kx_a g_wasLoss cyI 320 u.2.2.2.2.2.2.2.2.2.2.2.2.1, kx_a g_wasValue cyI 1920 u.2.2.2.2.2.2.2.2.2.2.2.2.2.1, kx_a g_wasNumber cyI 1920 u.2.2.2.2.2.2.2.2.2.2.2.2.2.2.1] t.heap ∧ va_K (dC, dI) vwCl [(cyI, .int)] t ∧ va_D (va_A [kx_5 h0 g_row m_n m_slots m_thrown g_many g_loss g_less g_voteValue g_voteNumber g_allValue g_allNumber m_allMany g_nodeL g_nodeR m_nodes g_part m_partMany g_wasMany g_wasLoss g_wasValue g_wasNumber g_path m_pathMany g_heavyValue g_heavyTimes m_heavyMany g_fewest g_which g_met m_mostMet, kx_a g_row cyI 160 f, kx_a g_many cyI 324 fm, kx_a g_loss cyI 324 fl, kx_a g_less cyI 324 fe, kx_a g_voteValue cyI 1944 vv, kx_a g_voteNumber cyI 1944 vn, kx_a g_allValue cyI 12 av, kx_a g_allNumber cyI 12 an, kx_a g_nodeL cyI 320 nl, kx_a g_nodeR cyI 320 nr, kx_a g_wasMany cyI 320 wm, kx_a g_wasLoss cyI 320 wl, kx_a g_wasValue cyI 1920 wv, kx_a g_wasNumber cyI 1920 wn] sz) [kx_5 h0 g_row m_n m_slots 0 g_many g_loss g_less g_voteValue g_voteNumber g_allValue g_allNumber u.2.1 g_nodeL g_nodeR u.1 g_part m_partMany g_wasMany g_wasLoss g_wasValue g_wasNumber g_path m_pathMany g_heavyValue g_heavyTimes m_heavyMany g_fewest g_which g_met m_mostMet, kx_a g_row cyI 160 u.2.2.2.2.2.2.2.2.2.2.2.2.2.2.2, kx_a g_many cyI 324 u.2.2.1, kx_a g_loss cyI 324 u.2.2.2.1, kx_a g_less cyI 324 u.2.2.2.2.1, kx_a g_voteValue cyI 1944 u.2.2.2.2.2.1, kx_a g_voteNumber cyI 1944 u.2.2.2.2.2.2.1, kx_a g_allValue cyI 12 u.2.2.2.2.2.2.2.1, kx_a g_allNumber cyI 12 u.2.2.2.2.2.2.2.2.1, kx_a g_nodeL cyI 320 u.2.2.2.2.2.2.2.2.2.1, kx_a g_nodeR cyI 320 u.2.2.2.2.2.2.2.2.2.2.1, kx_a g_wasMany cyI 320 u.2.2.2.2.2.2.2.2.2.2.2.1, kx_a g_wasLoss cyI 320 u.2.2.2.2.2.2.2.2.2.2.2.2.1, kx_a g_wasValue cyI 1920 u.2.2.2.2.2.2.2.2.2.2.2.2.2.1, kx_a g_wasNumber cyI 1920 u.2.2.2.2.2.2.2.2.2.2.2.2.2.2.1]) (va_A [kx_5 h0 g_row m_n m_slots m_thrown g_many g_loss g_less g_voteValue g_voteNumber g_allValue g_allNumber m_allMany g_nodeL g_nodeR m_nodes g_part m_partMany g_wasMany g_wasLoss g_wasValue g_wasNumber g_path m_pathMany g_heavyValue g_heavyTimes m_heavyMany g_fewest g_which g_met m_mostMet, kx_a g_row cyI 160 f, kx_a g_many cyI 324 fm, kx_a g_loss cyI 324 fl, kx_a g_less cyI 324 fe, kx_a g_voteValue cyI 1944 vv, kx_a g_voteNumber cyI 1944 vn, kx_a g_allValue cyI 12 av, kx_a g_allNumber cyI 12 an, kx_a g_nodeL cyI 320 nl, kx_a g_nodeR cyI 320 nr, kx_a g_wasMany cyI 320 wm, kx_a g_wasLoss cyI 320 wl, kx_a g_wasValue cyI 1920 wv, kx_a g_wasNumber cyI 1920 wn] sz)) 0 0 (va_A [kx_5 h0 g_row m_n m_slots m_thrown g_many g_loss g_less g_voteValue g_voteNumber g_allValue g_allNumber m_allMany g_nodeL g_nodeR m_nodes g_part m_partMany g_wasMany g_wasLoss g_wasValue g_wasNumber g_path m_pathMany g_heavyValue g_heavyTimes m_heavyMany g_fewest g_which g_met m_mostMet, kx_a g_row cyI 160 f, kx_a g_many cyI 324 fm, kx_a g_loss cyI 324 fl, kx_a g_less cyI 324 fe, kx_a g_voteValue cyI 1944 vv, kx_a g_voteNumber cyI 1944 vn, kx_a g_allValue cyI 12 av, kx_a g_allNumber cyI 12 an, kx_a g_nodeL cyI 320 nl, kx_a g_nodeR cyI 320 nr, kx_a g_wasMany cyI 320 wm, kx_a g_wasLoss cyI 320 wl, kx_a g_wasValue cyI 1920 wv, kx_a g_wasNumber cyI 1920 wn] sz) := by
  refine Met.ofW (cc := cX5_swap) (maxL := 3) (ret := (some .int)) (by decide) rfl ?_
  intro p e s m args below meth c s₁ B hml hv
  obtain ⟨rfl, hsz, hP, hK, hD0⟩ := hv
  have hx := B.exec
  have hb := B.bytes
  have hr := B.returns
  have hts := atoms_spec (ws := wsX5_swap) B.pre
  have hown : s.vm.findClass RX5 = some m.cls := findClass_of_methodNamed B.named
  have hlocks := B.notSynchronized
  subst hsz
  have hD := hD0.self (sz := s.heap.size)
  generalize hAe : va_A [kx_5 h0 g_row m_n m_slots m_thrown g_many g_loss g_less g_voteValue g_voteNumber g_allValue g_allNumber m_allMany g_nodeL g_nodeR m_nodes g_part m_partMany g_wasMany g_wasLoss g_wasValue g_wasNumber g_path m_pathMany g_heavyValue g_heavyTimes m_heavyMany g_fewest g_which g_met m_mostMet, kx_a g_row cyI 160 f, kx_a g_many cyI 324 fm, kx_a g_loss cyI 324 fl, kx_a g_less cyI 324 fe, kx_a g_voteValue cyI 1944 vv, kx_a g_voteNumber cyI 1944 vn, kx_a g_allValue cyI 12 av, kx_a g_allNumber cyI 12 an, kx_a g_nodeL cyI 320 nl, kx_a g_nodeR cyI 320 nr, kx_a g_wasMany cyI 320 wm, kx_a g_wasLoss cyI 320 wl, kx_a g_wasValue cyI 1920 wv, kx_a g_wasNumber cyI 1920 wn] s.heap.size = A at hD ⊢
  have hA : ∀ q : Nat, s.heap.size ≤ q → A q := fun q h => by rw [← hAe]; exact Or.inr h
  have hS : va_S A s.heap s.heap [] := va_S.rf
  have hP : va_P (dC, dI) vwCl [kx_5 h0 g_row m_n m_slots m_thrown g_many g_loss g_less g_voteValue g_voteNumber g_allValue g_allNumber m_allMany g_nodeL g_nodeR m_nodes g_part m_partMany g_wasMany g_wasLoss g_wasValue g_wasNumber g_path m_pathMany g_heavyValue g_heavyTimes m_heavyMany g_fewest g_which g_met m_mostMet, kx_a g_row cyI 160 f, kx_a g_many cyI 324 fm, kx_a g_loss cyI 324 fl, kx_a g_less cyI 324 fe, kx_a g_voteValue cyI 1944 vv, kx_a g_voteNumber cyI 1944 vn, kx_a g_allValue cyI 12 av, kx_a g_allNumber cyI 12 an, kx_a g_nodeL cyI 320 nl, kx_a g_nodeR cyI 320 nr, kx_a g_wasMany cyI 320 wm, kx_a g_wasLoss cyI 320 wl, kx_a g_wasValue cyI 1920 wv, kx_a g_wasNumber cyI 1920 wn] s.heap := hP
  have hl := lv_entry ([.ref h0, .int p0, .int p1]) (n := 3) (Nat.le_of_ble_eq_true rfl)
  rw [lg_entry_eq]
  generalize (lg_sl ([.ref h0, .int p0, .int p1]) ++ List.replicate (3 - (lg_sl ([.ref h0, .int p0, .int p1])).length) Slot.unset).toArray = ls at hl ⊢
  have hl : lv_has ls 3 [(0, .ref h0), (1, .int p0), (2, .int p1)] := hl
  have hf_77 := hts (.fieldLink RX5 77 "MajorityIndexModel" "thrown" "I") (List.mem_of_getElem? (i := 1) rfl)
  have hi_5 : ∀ w ∈ u_ws RX5 TX5 30, w ∈ wsX5_swap := fun w h => List.mem_cons_of_mem _ (List.mem_append_right _ h)
  refine lv_aload_n hx hb dX5_swap_0 rfl (lv_at hl 0 rfl) ?_
  refine lv_iconst (v := 0) hx hb dX5_swap_1 (by decide) ?_
  refine va_put (D := (dC, dI)) (ci := 5) (v := .int 0) (ty := .int) (C := RX5) (T := TX5) (N := 30) hx hb hts hi_5 tyX5 tyX5_ok nmX5 hown hK hP hD hS 0 rfl rfl 3 (by decide) hf_77 (fun _ h9 => h9) rfl (by decide +kernel) rfl rfl (Nat.le_of_ble_eq_true rfl) dX5_swap_2 (fun H locs hP hD hS => ?_)
  have hP : va_P (dC, dI) vwCl [kx_5 h0 g_row m_n m_slots 0 g_many g_loss g_less g_voteValue g_voteNumber g_allValue g_allNumber m_allMany g_nodeL g_nodeR m_nodes g_part m_partMany g_wasMany g_wasLoss g_wasValue g_wasNumber g_path m_pathMany g_heavyValue g_heavyTimes m_heavyMany g_fewest g_which g_met m_mostMet, kx_a g_row cyI 160 f, kx_a g_many cyI 324 fm, kx_a g_loss cyI 324 fl, kx_a g_less cyI 324 fe, kx_a g_voteValue cyI 1944 vv, kx_a g_voteNumber cyI 1944 vn, kx_a g_allValue cyI 12 av, kx_a g_allNumber cyI 12 an, kx_a g_nodeL cyI 320 nl, kx_a g_nodeR cyI 320 nr, kx_a g_wasMany cyI 320 wm, kx_a g_wasLoss cyI 320 wl, kx_a g_wasValue cyI 1920 wv, kx_a g_wasNumber cyI 1920 wn] H := hP
  have hD : va_D A [kx_5 h0 g_row m_n m_slots 0 g_many g_loss g_less g_voteValue g_voteNumber g_allValue g_allNumber m_allMany g_nodeL g_nodeR m_nodes g_part m_partMany g_wasMany g_wasLoss g_wasValue g_wasNumber g_path m_pathMany g_heavyValue g_heavyTimes m_heavyMany g_fewest g_which g_met m_mostMet, kx_a g_row cyI 160 f, kx_a g_many cyI 324 fm, kx_a g_loss cyI 324 fl, kx_a g_less cyI 324 fe, kx_a g_voteValue cyI 1944 vv, kx_a g_voteNumber cyI 1944 vn, kx_a g_allValue cyI 12 av, kx_a g_allNumber cyI 12 an, kx_a g_nodeL cyI 320 nl, kx_a g_nodeR cyI 320 nr, kx_a g_wasMany cyI 320 wm, kx_a g_wasLoss cyI 320 wl, kx_a g_wasValue cyI 1920 wv, kx_a g_wasNumber cyI 1920 wn] := hD
  refine lv_aload_n hx hb dX5_swap_5 rfl (lv_at hl 0 rfl) ?_
  refine lv_iload_n hx hb dX5_swap_6 rfl (lv_at hl 1 rfl) ?_
  have hPc := hP.sub (ws' := [kx_5 h0 g_row m_n m_slots 0 g_many g_loss g_less g_voteValue g_voteNumber g_allValue g_allNumber m_allMany g_nodeL g_nodeR m_nodes g_part m_partMany g_wasMany g_wasLoss g_wasValue g_wasNumber g_path m_pathMany g_heavyValue g_heavyTimes m_heavyMany g_fewest g_which g_met m_mostMet]) [0] rfl
  have hKc := hK.sub (tys' := []) [] rfl
  refine vp_callSi (W.runV (As := [.int p0]) (rest := []) ⟨hx, hb, hml, hown, hts⟩ (c_X5_isPlace l dC dI h0 g_row g_many g_loss g_less g_voteValue g_voteNumber g_allValue g_allNumber g_nodeL g_nodeR g_part g_wasMany g_wasLoss g_wasValue g_wasNumber g_path g_heavyValue g_heavyTimes g_fewest g_which g_met m_n m_slots 0 m_allMany m_nodes m_partMany m_pathMany m_heavyMany m_mostMet p0 a0 a1) (cwV 1 hts gX5_swap_X5_isPlace rfl rfl rfl (by decide +kernel) ⟨Nat.le_of_ble_eq_true rfl, Nat.le_of_ble_eq_true rfl⟩) ⟨fun a U g mk q => by obtain ⟨q0, qP, qK⟩ := q; exact ⟨q0, qP, va_K.moved (u := U) (U := U.calling g mk a) (Vm.Alike.refl U.vm) qK⟩, va_recv hKc hPc (ci := 5) (q0 := 0) rfl rfl, fun U hU hW => ⟨rfl, by rw [hU]; exact hPc, va_K.moved hW.alike hKc⟩⟩ rfl rfl hl.1 rfl (lv_room (Nat.le_of_ble_eq_true rfl)) dX5_swap_7 ⟨Nat.le_of_ble_eq_true rfl, Nat.le_of_ble_eq_true rfl⟩) (fun r_1 w_1 => ?_)
  rcases w_1 with ⟨rfl, w_1⟩ | ⟨rfl, w_1⟩
  · have w_1 : (0 ≤ p0.toInt ∧ p0.toInt < m_n.toInt) := w_1
    refine lv_if_eq (tgt := 21) hx hb dX5_swap_10 (by decide) (fun c_2 => ?_) (fun c_2 => ?_)
    · exact absurd c_2 (by decide)
    · refine lv_aload_n hx hb dX5_swap_13 rfl (lv_at hl 0 rfl) ?_
      refine lv_iload_n hx hb dX5_swap_14 rfl (lv_at hl 2 rfl) ?_
      have hPc := hP.sub (ws' := [kx_5 h0 g_row m_n m_slots 0 g_many g_loss g_less g_voteValue g_voteNumber g_allValue g_allNumber m_allMany g_nodeL g_nodeR m_nodes g_part m_partMany g_wasMany g_wasLoss g_wasValue g_wasNumber g_path m_pathMany g_heavyValue g_heavyTimes m_heavyMany g_fewest g_which g_met m_mostMet]) [0] rfl
      have hKc := hK.sub (tys' := []) [] rfl
      refine vp_callSi (W.runV (As := [.int p1]) (rest := []) ⟨hx, hb, hml, hown, hts⟩ (c_X5_isPlace l dC dI h0 g_row g_many g_loss g_less g_voteValue g_voteNumber g_allValue g_allNumber g_nodeL g_nodeR g_part g_wasMany g_wasLoss g_wasValue g_wasNumber g_path g_heavyValue g_heavyTimes g_fewest g_which g_met m_n m_slots 0 m_allMany m_nodes m_partMany m_pathMany m_heavyMany m_mostMet p1 a0 a1) (cwV 1 hts gX5_swap_X5_isPlace rfl rfl rfl (by decide +kernel) ⟨Nat.le_of_ble_eq_true rfl, Nat.le_of_ble_eq_true rfl⟩) ⟨fun a U g mk q => by obtain ⟨q0, qP, qK⟩ := q; exact ⟨q0, qP, va_K.moved (u := U) (U := U.calling g mk a) (Vm.Alike.refl U.vm) qK⟩, va_recv hKc hPc (ci := 5) (q0 := 0) rfl rfl, fun U hU hW => ⟨rfl, by rw [hU]; exact hPc, va_K.moved hW.alike hKc⟩⟩ rfl rfl hl.1 rfl (lv_room (Nat.le_of_ble_eq_true rfl)) dX5_swap_15 ⟨Nat.le_of_ble_eq_true rfl, Nat.le_of_ble_eq_true rfl⟩) (fun r_3 w_3 => ?_)
      rcases w_3 with ⟨rfl, w_3⟩ | ⟨rfl, w_3⟩
      · have w_3 : (0 ≤ p1.toInt ∧ p1.toInt < m_n.toInt) := w_3
        refine lv_if_ne (tgt := 23) hx hb dX5_swap_18 (by decide) (fun c_4 => ?_) (fun c_4 => ?_)
        · refine lv_aload_n hx hb dX5_swap_23 rfl (lv_at hl 0 rfl) ?_
          have hPc := hP
          have hKc := hK
          have hDc := hD
          have hFc := kx_free hD hS hA
          refine va_callv (va_runV (As := []) (rest := []) ⟨hx, hb, hml, hown, hts⟩ (c_X5_keeps l dC dI h0 g_row g_many g_loss g_less g_voteValue g_voteNumber g_allValue g_allNumber g_nodeL g_nodeR g_part g_wasMany g_wasLoss g_wasValue g_wasNumber g_path g_heavyValue g_heavyTimes g_fewest g_which g_met m_n m_slots 0 m_allMany m_nodes m_partMany m_pathMany m_heavyMany m_mostMet cyI fm fl fe vv vn f av an nl nr wm wl wv wn H.size a0 a1 sl0 sl1 s4) (cwV 0 hts gX5_swap_X5_keeps rfl rfl rfl (by decide +kernel) ⟨Nat.le_of_ble_eq_true rfl, Nat.le_of_ble_eq_true rfl⟩) ⟨fun a U g mk q => by obtain ⟨q0, q1, qP, qK, qD⟩ := q; exact ⟨q0, q1, qP, va_K.moved (u := U) (U := U.calling g mk a) (Vm.Alike.refl U.vm) qK, qD⟩, va_recv hKc hPc (ci := 5) (q0 := 0) rfl rfl, fun U hU hW => ⟨rfl, by rw [hU], by rw [hU]; exact hPc, va_K.moved hW.alike hKc, hDc.weaken (fun _ _ _ _ => trivial)⟩⟩ rfl rfl hl.1 rfl (lv_room (Nat.le_of_ble_eq_true rfl)) dX5_swap_24 ⟨Nat.le_of_ble_eq_true rfl, Nat.le_of_ble_eq_true rfl⟩) hS (fun q _ h => hFc q h) hFc (fun u t H1 locs ht hvm w_5 hB hz1 hk1 hS => ?_)
          obtain ⟨o_6, o_7, o_8, o_9, o_10, o_11, o_12, o_13, o_14, o_15, o_16, o_17, o_18, o_19, o_20⟩ := u
          dsimp only at w_5 hB
          obtain ⟨hP1, hK1, hD1⟩ := hB
          rw [ht] at hP1
          have hK1 := va_K.moved hvm.symm hK1
          have hD := hD1.weaken (fun _ q _ h => hFc q.1 h)
          have hP := hP1
          clear hP1 hD1 hK1 hk1 hz1 hFc hDc hPc hKc
          generalize H1 = H at hP hS ⊢
          have w_5 : six4 o_8 := w_5
          refine lv_aload_n hx hb dX5_swap_27 rfl (lv_at hl 0 rfl) ?_
          refine lv_iload_n hx hb dX5_swap_28 rfl (lv_at hl 1 rfl) ?_
          refine lv_iload_n hx hb dX5_swap_29 rfl (lv_at hl 2 rfl) ?_
          have hPc := hP.sub (ws' := [kx_5 h0 g_row m_n m_slots 0 g_many g_loss g_less g_voteValue g_voteNumber g_allValue g_allNumber o_7 g_nodeL g_nodeR o_6 g_part m_partMany g_wasMany g_wasLoss g_wasValue g_wasNumber g_path m_pathMany g_heavyValue g_heavyTimes m_heavyMany g_fewest g_which g_met m_mostMet, kx_a g_row cyI 160 f]) [0, 1] rfl
          have hKc := hK
          have hDc := hD.sub (ws' := [kx_5 h0 g_row m_n m_slots 0 g_many g_loss g_less g_voteValue g_voteNumber g_allValue g_allNumber o_7 g_nodeL g_nodeR o_6 g_part m_partMany g_wasMany g_wasLoss g_wasValue g_wasNumber g_path m_pathMany g_heavyValue g_heavyTimes m_heavyMany g_fewest g_which g_met m_mostMet, kx_a g_row cyI 160 f]) [0, 1] (by decide) rfl
          have hFc := va_free (wc := [kx_5 h0 g_row m_n m_slots 0 g_many g_loss g_less g_voteValue g_voteNumber g_allValue g_allNumber o_7 g_nodeL g_nodeR o_6 g_part m_partMany g_wasMany g_wasLoss g_wasValue g_wasNumber g_path m_pathMany g_heavyValue g_heavyTimes m_heavyMany g_fewest g_which g_met m_mostMet, kx_a g_row cyI 160 f]) hD hS hA [0, 1] rfl
          refine va_callv (va_runV (As := [.int p0, .int p1]) (rest := []) ⟨hx, hb, hml, hown, hts⟩ (c_X5_exchanges l dC dI h0 g_row g_many g_loss g_less g_voteValue g_voteNumber g_allValue g_allNumber g_nodeL g_nodeR g_part g_wasMany g_wasLoss g_wasValue g_wasNumber g_path g_heavyValue g_heavyTimes g_fewest g_which g_met m_n m_slots 0 o_7 o_6 m_partMany m_pathMany m_heavyMany m_mostMet cyI f p0 p1 H.size (by omega) (by omega) (by omega) (by omega)) (cwV 2 hts gX5_swap_X5_exchanges rfl rfl rfl (by decide +kernel) ⟨Nat.le_of_ble_eq_true rfl, Nat.le_of_ble_eq_true rfl⟩) ⟨fun a U g mk q => by obtain ⟨q0, q1, qP, qK, qD⟩ := q; exact ⟨q0, q1, qP, va_K.moved (u := U) (U := U.calling g mk a) (Vm.Alike.refl U.vm) qK, qD⟩, va_recv hKc hPc (ci := 5) (q0 := 0) rfl rfl, fun U hU hW => ⟨rfl, by rw [hU], by rw [hU]; exact hPc, va_K.moved hW.alike hKc, hDc.weaken (fun _ _ _ _ => trivial)⟩⟩ rfl rfl hl.1 rfl (lv_room (Nat.le_of_ble_eq_true rfl)) dX5_swap_30 ⟨Nat.le_of_ble_eq_true rfl, Nat.le_of_ble_eq_true rfl⟩) hS (fun q _ h => hFc q h) hFc (fun u t H1 locs ht hvm w_21 hB hz1 hk1 hS => ?_)
          obtain ⟨o_22, rfl⟩ : ∃ z, z = u := ⟨_, rfl⟩
          obtain ⟨hP1, hK1, hD1⟩ := hB
          rw [ht] at hP1
          have hK1 := va_K.moved hvm.symm hK1
          obtain ⟨hP, hD⟩ := va_join (wr := [kx_a g_many cyI 324 o_8, kx_a g_loss cyI 324 o_9, kx_a g_less cyI 324 o_10, kx_a g_voteValue cyI 1944 o_11, kx_a g_voteNumber cyI 1944 o_12, kx_a g_allValue cyI 12 o_13, kx_a g_allNumber cyI 12 o_14, kx_a g_nodeL cyI 320 o_15, kx_a g_nodeR cyI 320 o_16, kx_a g_wasMany cyI 320 o_17, kx_a g_wasLoss cyI 320 o_18, kx_a g_wasValue cyI 1920 o_19, kx_a g_wasNumber cyI 1920 o_20]) (w1 := [kx_5 h0 g_row m_n m_slots 0 g_many g_loss g_less g_voteValue g_voteNumber g_allValue g_allNumber o_7 g_nodeL g_nodeR o_6 g_part m_partMany g_wasMany g_wasLoss g_wasValue g_wasNumber g_path m_pathMany g_heavyValue g_heavyTimes m_heavyMany g_fewest g_which g_met m_mostMet, kx_a g_row cyI 160 o_22]) hP hD [0, 1] [2, 3, 4, 5, 6, 7, 8, 9, 10, 11, 12, 13, 14] rfl rfl (by decide) (by decide) hk1 hFc hP1 hD1
          clear hP1 hD1 hK1 hk1 hz1 hFc hDc hPc hKc
          generalize H1 = H at hP hS ⊢
          have hP : va_P (dC, dI) vwCl [kx_a g_many cyI 324 o_8, kx_a g_loss cyI 324 o_9, kx_a g_less cyI 324 o_10, kx_a g_voteValue cyI 1944 o_11, kx_a g_voteNumber cyI 1944 o_12, kx_a g_allValue cyI 12 o_13, kx_a g_allNumber cyI 12 o_14, kx_a g_nodeL cyI 320 o_15, kx_a g_nodeR cyI 320 o_16, kx_a g_wasMany cyI 320 o_17, kx_a g_wasLoss cyI 320 o_18, kx_a g_wasValue cyI 1920 o_19, kx_a g_wasNumber cyI 1920 o_20, kx_5 h0 g_row m_n m_slots 0 g_many g_loss g_less g_voteValue g_voteNumber g_allValue g_allNumber o_7 g_nodeL g_nodeR o_6 g_part m_partMany g_wasMany g_wasLoss g_wasValue g_wasNumber g_path m_pathMany g_heavyValue g_heavyTimes m_heavyMany g_fewest g_which g_met m_mostMet, kx_a g_row cyI 160 o_22] H := hP
          have hD : va_D A [kx_a g_many cyI 324 o_8, kx_a g_loss cyI 324 o_9, kx_a g_less cyI 324 o_10, kx_a g_voteValue cyI 1944 o_11, kx_a g_voteNumber cyI 1944 o_12, kx_a g_allValue cyI 12 o_13, kx_a g_allNumber cyI 12 o_14, kx_a g_nodeL cyI 320 o_15, kx_a g_nodeR cyI 320 o_16, kx_a g_wasMany cyI 320 o_17, kx_a g_wasLoss cyI 320 o_18, kx_a g_wasValue cyI 1920 o_19, kx_a g_wasNumber cyI 1920 o_20, kx_5 h0 g_row m_n m_slots 0 g_many g_loss g_less g_voteValue g_voteNumber g_allValue g_allNumber o_7 g_nodeL g_nodeR o_6 g_part m_partMany g_wasMany g_wasLoss g_wasValue g_wasNumber g_path m_pathMany g_heavyValue g_heavyTimes m_heavyMany g_fewest g_which g_met m_mostMet, kx_a g_row cyI 160 o_22] := hD
          have w_21 : o_22 = mj_ex f p0.toNatClampNeg p1.toNatClampNeg := w_21
          refine lv_aload_n hx hb dX5_swap_33 rfl (lv_at hl 0 rfl) ?_
          have hPc := hP.sub (ws' := [kx_5 h0 g_row m_n m_slots 0 g_many g_loss g_less g_voteValue g_voteNumber g_allValue g_allNumber o_7 g_nodeL g_nodeR o_6 g_part m_partMany g_wasMany g_wasLoss g_wasValue g_wasNumber g_path m_pathMany g_heavyValue g_heavyTimes m_heavyMany g_fewest g_which g_met m_mostMet, kx_a g_row cyI 160 o_22, kx_a g_many cyI 324 o_8, kx_a g_loss cyI 324 o_9, kx_a g_less cyI 324 o_10, kx_a g_voteValue cyI 1944 o_11, kx_a g_voteNumber cyI 1944 o_12, kx_a g_allValue cyI 12 o_13, kx_a g_allNumber cyI 12 o_14, kx_a g_nodeL cyI 320 o_15, kx_a g_nodeR cyI 320 o_16, kx_a g_wasMany cyI 320 o_17, kx_a g_wasLoss cyI 320 o_18, kx_a g_wasValue cyI 1920 o_19, kx_a g_wasNumber cyI 1920 o_20]) [13, 14, 0, 1, 2, 3, 4, 5, 6, 7, 8, 9, 10, 11, 12] rfl
          have hKc := hK
          have hDc := hD.sub (ws' := [kx_5 h0 g_row m_n m_slots 0 g_many g_loss g_less g_voteValue g_voteNumber g_allValue g_allNumber o_7 g_nodeL g_nodeR o_6 g_part m_partMany g_wasMany g_wasLoss g_wasValue g_wasNumber g_path m_pathMany g_heavyValue g_heavyTimes m_heavyMany g_fewest g_which g_met m_mostMet, kx_a g_row cyI 160 o_22, kx_a g_many cyI 324 o_8, kx_a g_loss cyI 324 o_9, kx_a g_less cyI 324 o_10, kx_a g_voteValue cyI 1944 o_11, kx_a g_voteNumber cyI 1944 o_12, kx_a g_allValue cyI 12 o_13, kx_a g_allNumber cyI 12 o_14, kx_a g_nodeL cyI 320 o_15, kx_a g_nodeR cyI 320 o_16, kx_a g_wasMany cyI 320 o_17, kx_a g_wasLoss cyI 320 o_18, kx_a g_wasValue cyI 1920 o_19, kx_a g_wasNumber cyI 1920 o_20]) [13, 14, 0, 1, 2, 3, 4, 5, 6, 7, 8, 9, 10, 11, 12] (by decide) rfl
          have hFc := va_free (wc := [kx_5 h0 g_row m_n m_slots 0 g_many g_loss g_less g_voteValue g_voteNumber g_allValue g_allNumber o_7 g_nodeL g_nodeR o_6 g_part m_partMany g_wasMany g_wasLoss g_wasValue g_wasNumber g_path m_pathMany g_heavyValue g_heavyTimes m_heavyMany g_fewest g_which g_met m_mostMet, kx_a g_row cyI 160 o_22, kx_a g_many cyI 324 o_8, kx_a g_loss cyI 324 o_9, kx_a g_less cyI 324 o_10, kx_a g_voteValue cyI 1944 o_11, kx_a g_voteNumber cyI 1944 o_12, kx_a g_allValue cyI 12 o_13, kx_a g_allNumber cyI 12 o_14, kx_a g_nodeL cyI 320 o_15, kx_a g_nodeR cyI 320 o_16, kx_a g_wasMany cyI 320 o_17, kx_a g_wasLoss cyI 320 o_18, kx_a g_wasValue cyI 1920 o_19, kx_a g_wasNumber cyI 1920 o_20]) hD hS hA [13, 14, 0, 1, 2, 3, 4, 5, 6, 7, 8, 9, 10, 11, 12] rfl
          refine va_calli (va_runV (As := []) (rest := []) ⟨hx, hb, hml, hown, hts⟩ (c_X5_others l dC dI h0 g_row g_many g_loss g_less g_voteValue g_voteNumber g_allValue g_allNumber g_nodeL g_nodeR g_part g_wasMany g_wasLoss g_wasValue g_wasNumber g_path g_heavyValue g_heavyTimes g_fewest g_which g_met m_n m_slots 0 o_7 o_6 m_partMany m_pathMany m_heavyMany m_mostMet cyI o_8 o_9 o_10 o_11 o_12 o_22 o_13 o_14 o_15 o_16 o_17 o_18 o_19 o_20 H.size a0 a1 sl0 sl1 w_5) (cwV 0 hts gX5_swap_X5_others rfl rfl rfl (by decide +kernel) ⟨Nat.le_of_ble_eq_true rfl, Nat.le_of_ble_eq_true rfl⟩) ⟨fun a U g mk q => by obtain ⟨q0, q1, qP, qK, qD⟩ := q; exact ⟨q0, q1, qP, va_K.moved (u := U) (U := U.calling g mk a) (Vm.Alike.refl U.vm) qK, qD⟩, va_recv hKc hPc (ci := 5) (q0 := 0) rfl rfl, fun U hU hW => ⟨rfl, by rw [hU], by rw [hU]; exact hPc, va_K.moved hW.alike hKc, hDc.weaken (fun _ _ _ _ => trivial)⟩⟩ rfl rfl hl.1 rfl (lv_room (Nat.le_of_ble_eq_true rfl)) dX5_swap_34 ⟨Nat.le_of_ble_eq_true rfl, Nat.le_of_ble_eq_true rfl⟩) hS (fun q _ h => hFc q h) hFc (fun r_23 u t H1 locs ht hvm w_23 hB hz1 hk1 hS => ?_)
          obtain ⟨o_24, o_25, o_26, o_27, o_28, o_29, o_30, o_31, o_32, o_33, o_34⟩ := u
          dsimp only at w_23 hB
          obtain ⟨hP1, hK1, hD1⟩ := hB
          rw [ht] at hP1
          have hK1 := va_K.moved hvm.symm hK1
          obtain ⟨hP, hD⟩ := va_join (wr := []) (w1 := [kx_5 h0 g_row m_n m_slots 0 g_many g_loss g_less g_voteValue g_voteNumber g_allValue g_allNumber o_25 g_nodeL g_nodeR o_24 g_part m_partMany g_wasMany g_wasLoss g_wasValue g_wasNumber g_path m_pathMany g_heavyValue g_heavyTimes m_heavyMany g_fewest g_which g_met m_mostMet, kx_a g_row cyI 160 o_22, kx_a g_many cyI 324 o_26, kx_a g_loss cyI 324 o_27, kx_a g_less cyI 324 o_28, kx_a g_voteValue cyI 1944 o_29, kx_a g_voteNumber cyI 1944 o_30, kx_a g_allValue cyI 12 o_31, kx_a g_allNumber cyI 12 o_32, kx_a g_nodeL cyI 320 o_33, kx_a g_nodeR cyI 320 o_34, kx_a g_wasMany cyI 320 o_17, kx_a g_wasLoss cyI 320 o_18, kx_a g_wasValue cyI 1920 o_19, kx_a g_wasNumber cyI 1920 o_20]) hP hD [13, 14, 0, 1, 2, 3, 4, 5, 6, 7, 8, 9, 10, 11, 12] [] rfl rfl (by decide) (by decide) hk1 hFc hP1 hD1
          clear hP1 hD1 hK1 hk1 hz1 hFc hDc hPc hKc
          generalize H1 = H at hP hS ⊢
          have hP : va_P (dC, dI) vwCl [kx_5 h0 g_row m_n m_slots 0 g_many g_loss g_less g_voteValue g_voteNumber g_allValue g_allNumber o_25 g_nodeL g_nodeR o_24 g_part m_partMany g_wasMany g_wasLoss g_wasValue g_wasNumber g_path m_pathMany g_heavyValue g_heavyTimes m_heavyMany g_fewest g_which g_met m_mostMet, kx_a g_row cyI 160 o_22, kx_a g_many cyI 324 o_26, kx_a g_loss cyI 324 o_27, kx_a g_less cyI 324 o_28, kx_a g_voteValue cyI 1944 o_29, kx_a g_voteNumber cyI 1944 o_30, kx_a g_allValue cyI 12 o_31, kx_a g_allNumber cyI 12 o_32, kx_a g_nodeL cyI 320 o_33, kx_a g_nodeR cyI 320 o_34, kx_a g_wasMany cyI 320 o_17, kx_a g_wasLoss cyI 320 o_18, kx_a g_wasValue cyI 1920 o_19, kx_a g_wasNumber cyI 1920 o_20] H := hP
          have hD : va_D A [kx_5 h0 g_row m_n m_slots 0 g_many g_loss g_less g_voteValue g_voteNumber g_allValue g_allNumber o_25 g_nodeL g_nodeR o_24 g_part m_partMany g_wasMany g_wasLoss g_wasValue g_wasNumber g_path m_pathMany g_heavyValue g_heavyTimes m_heavyMany g_fewest g_which g_met m_mostMet, kx_a g_row cyI 160 o_22, kx_a g_many cyI 324 o_26, kx_a g_loss cyI 324 o_27, kx_a g_less cyI 324 o_28, kx_a g_voteValue cyI 1944 o_29, kx_a g_voteNumber cyI 1944 o_30, kx_a g_allValue cyI 12 o_31, kx_a g_allNumber cyI 12 o_32, kx_a g_nodeL cyI 320 o_33, kx_a g_nodeR cyI 320 o_34, kx_a g_wasMany cyI 320 o_17, kx_a g_wasLoss cyI 320 o_18, kx_a g_wasValue cyI 1920 o_19, kx_a g_wasNumber cyI 1920 o_20] := hD
          have w_23 : six4 o_26 := w_23
          have hP9 := hP
          have hD9 := hD
          have hK9 := hK
          have n_p0 := ki_nat p0 rfl (by omega)
          have n_p1 := ki_nat p1 rfl (by omega)
          exact W.iret (v := r_23) hx hb hr (fun t ht hW => ⟨⟨r_23, (o_24, o_25, o_26, o_27, o_28, o_29, o_30, o_31, o_32, o_33, o_34, o_17, o_18, o_19, o_20, o_22), rfl, ⟨Or.inl ⟨by omega, w_21⟩, (by (try dsimp only); rw [w_21]; exact shorts_mex s1 (by omega) (by omega)), w_23⟩, by rw [ht]; exact hP9, va_K.moved hW.alike hK9, hD9⟩, hS.F ht⟩) hS.2.2 dX5_swap_37
        · exact absurd c_4 (by decide)
      · have w_3 : (p1.toInt < 0 ∨ m_n.toInt ≤ p1.toInt) := w_3
        refine lv_if_ne (tgt := 23) hx hb dX5_swap_18 (by decide) (fun c_35 => ?_) (fun c_35 => ?_)
        · exact absurd c_35 (by decide)
        · refine lv_iconst (v := (-1)) hx hb dX5_swap_21 (by decide) ?_
          have hP9 := hP
          have hD9 := hD
          have hK9 := hK
          exact W.iret (v := (-1)) hx hb hr (fun t ht hW => ⟨⟨(-1), (m_nodes, m_allMany, fm, fl, fe, vv, vn, av, an, nl, nr, wm, wl, wv, wn, f), rfl, ⟨Or.inr ⟨by omega, rfl, rfl⟩, s1, s4⟩, by rw [ht]; exact hP9, va_K.moved hW.alike hK9, hD9⟩, hS.F ht⟩) hS.2.2 dX5_swap_22
  · have w_1 : (p0.toInt < 0 ∨ m_n.toInt ≤ p0.toInt) := w_1
    refine lv_if_eq (tgt := 21) hx hb dX5_swap_10 (by decide) (fun c_36 => ?_) (fun c_36 => ?_)
    · refine lv_iconst (v := (-1)) hx hb dX5_swap_21 (by decide) ?_
      have hP9 := hP
      have hD9 := hD
      have hK9 := hK
      exact W.iret (v := (-1)) hx hb hr (fun t ht hW => ⟨⟨(-1), (m_nodes, m_allMany, fm, fl, fe, vv, vn, av, an, nl, nr, wm, wl, wv, wn, f), rfl, ⟨Or.inr ⟨by omega, rfl, rfl⟩, s1, s4⟩, by rw [ht]; exact hP9, va_K.moved hW.alike hK9, hD9⟩, hS.F ht⟩) hS.2.2 dX5_swap_22
    · exact absurd c_36 (by decide)


