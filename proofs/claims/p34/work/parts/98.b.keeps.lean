set_option maxHeartbeats 4000000 in
set_option maxRecDepth 100000 in
theorem c_X5_keeps (l : Launch) (dC : Nat → ClassId) (dI : Nat → Nat → Nat) (h0 : Nat) (g_row : Nat) (g_many : Nat) (g_loss : Nat) (g_less : Nat) (g_voteValue : Nat) (g_voteNumber : Nat) (g_allValue : Nat) (g_allNumber : Nat) (g_nodeL : Nat) (g_nodeR : Nat) (g_part : Nat) (g_wasMany : Nat) (g_wasLoss : Nat) (g_wasValue : Nat) (g_wasNumber : Nat) (g_path : Nat) (g_heavyValue : Nat) (g_heavyTimes : Nat) (g_fewest : Nat) (g_which : Nat) (g_met : Nat) (m_n : Int32) (m_slots : Int32) (m_thrown : Int32) (m_allMany : Int32) (m_nodes : Int32) (m_partMany : Int32) (m_pathMany : Int32) (m_heavyMany : Int32) (m_mostMet : Int32) (cyI : ClassId) (fm : Nat → Int32) (fl : Nat → Int32) (fe : Nat → Int32) (vv : Nat → Int32) (vn : Nat → Int32) (f : Nat → Int32) (av : Nat → Int32) (an : Nat → Int32) (nl : Nat → Int32) (nr : Nat → Int32) (wm : Nat → Int32) (wl : Nat → Int32) (wv : Nat → Int32) (wn : Nat → Int32) (sz : Nat) (a0 : 0 ≤ m_n.toInt) (a1 : m_n.toInt ≤ 160) (sl0 : 1 ≤ m_slots.toInt) (sl1 : m_slots.toInt ≤ 6) (s4 : six4 fm) : kx_MQ l (dC, dI) yX5_keeps wsX5_keeps ({ frames := 12, cells := 0, slots := 0, locals := 540 }) [.ref h0] [kx_5 h0 g_row m_n m_slots m_thrown g_many g_loss g_less g_voteValue g_voteNumber g_allValue g_allNumber m_allMany g_nodeL g_nodeR m_nodes g_part m_partMany g_wasMany g_wasLoss g_wasValue g_wasNumber g_path m_pathMany g_heavyValue g_heavyTimes m_heavyMany g_fewest g_which g_met m_mostMet, kx_a g_row cyI 160 f, kx_a g_many cyI 324 fm, kx_a g_loss cyI 324 fl, kx_a g_less cyI 324 fe, kx_a g_voteValue cyI 1944 vv, kx_a g_voteNumber cyI 1944 vn, kx_a g_allValue cyI 12 av, kx_a g_allNumber cyI 12 an, kx_a g_nodeL cyI 320 nl, kx_a g_nodeR cyI 320 nr, kx_a g_wasMany cyI 320 wm, kx_a g_wasLoss cyI 320 wl, kx_a g_wasValue cyI 1920 wv, kx_a g_wasNumber cyI 1920 wn] [(cyI, .int)] sz (fun A => va_Qv (fun u : Int32 × Int32 × (Nat → Int32) × (Nat → Int32) × (Nat → Int32) × (Nat → Int32) × (Nat → Int32) × (Nat → Int32) × (Nat → Int32) × (Nat → Int32) × (Nat → Int32) × (Nat → Int32) × (Nat → Int32) × (Nat → Int32) × (Nat → Int32) => six4 u.2.2.1) (fun (u : Int32 × Int32 × (Nat → Int32) × (Nat → Int32) × (Nat → Int32) × (Nat → Int32) × (Nat → Int32) × (Nat → Int32) × (Nat → Int32) × (Nat → Int32) × (Nat → Int32) × (Nat → Int32) × (Nat → Int32) × (Nat → Int32) × (Nat → Int32)) (t : State) => va_P (dC, dI) vwCl [kx_5 h0 g_row m_n m_slots m_thrown g_many g_loss g_less g_voteValue g_voteNumber g_allValue g_allNumber u.2.1 g_nodeL g_nodeR u.1 g_part m_partMany g_wasMany g_wasLoss g_wasValue g_wasNumber g_path m_pathMany g_heavyValue g_heavyTimes m_heavyMany g_fewest g_which g_met m_mostMet, kx_a g_row cyI 160 f, kx_a g_many cyI 324 u.2.2.1, kx_a g_loss cyI 324 u.2.2.2.1, kx_a g_less cyI 324 u.2.2.2.2.1, kx_a g_voteValue cyI 1944 u.2.2.2.2.2.1, kx_a g_voteNumber cyI 1944 u.2.2.2.2.2.2.1, kx_a g_allValue cyI 12 u.2.2.2.2.2.2.2.1, kx_a g_allNumber cyI 12 u.2.2.2.2.2.2.2.2.1, kx_a g_nodeL cyI 320 u.2.2.2.2.2.2.2.2.2.1, kx_a g_nodeR cyI 320 u.2.2.2.2.2.2.2.2.2.2.1, kx_a g_wasMany cyI 320 u.2.2.2.2.2.2.2.2.2.2.2.1, kx_a g_wasLoss cyI 320 u.2.2.2.2.2.2.2.2.2.2.2.2.1, kx_a g_wasValue cyI 1920 u.2.2.2.2.2.2.2.2.2.2.2.2.2.1, kx_a g_wasNumber cyI 1920 u.2.2.2.2.2.2.2.2.2.2.2.2.2.2] t.heap ∧ va_K (dC, dI) vwCl [(cyI, .int)] t ∧ va_D A [kx_5 h0 g_row m_n m_slots m_thrown g_many g_loss g_less g_voteValue g_voteNumber g_allValue g_allNumber u.2.1 g_nodeL g_nodeR u.1 g_part m_partMany g_wasMany g_wasLoss g_wasValue g_wasNumber g_path m_pathMany g_heavyValue g_heavyTimes m_heavyMany g_fewest g_which g_met m_mostMet, kx_a g_row cyI 160 f, kx_a g_many cyI 324 u.2.2.1, kx_a g_loss cyI 324 u.2.2.2.1, kx_a g_less cyI 324 u.2.2.2.2.1, kx_a g_voteValue cyI 1944 u.2.2.2.2.2.1, kx_a g_voteNumber cyI 1944 u.2.2.2.2.2.2.1, kx_a g_allValue cyI 12 u.2.2.2.2.2.2.2.1, kx_a g_allNumber cyI 12 u.2.2.2.2.2.2.2.2.1, kx_a g_nodeL cyI 320 u.2.2.2.2.2.2.2.2.2.1, kx_a g_nodeR cyI 320 u.2.2.2.2.2.2.2.2.2.2.1, kx_a g_wasMany cyI 320 u.2.2.2.2.2.2.2.2.2.2.2.1, kx_a g_wasLoss cyI 320 u.2.2.2.2.2.2.2.2.2.2.2.2.1, kx_a g_wasValue cyI 1920 u.2.2.2.2.2.2.2.2.2.2.2.2.2.1, kx_a g_wasNumber cyI 1920 u.2.2.2.2.2.2.2.2.2.2.2.2.2.2]) A) := by
  refine kx_stQ (ws := wsX5_keeps) (cc := cX5_keeps) (maxL := 3) (ret := none) (by decide) rfl (Nat.le_of_ble_eq_true rfl) ?_
  intro p e s m below meth c A ls hx hb hr hlocks hts hown hml hA hS hP hK hD hl
  have hown : s.vm.findClass RX5 = some m.cls := hown
  have hl : lv_has ls 3 [(0, .ref h0)] := hl
  have hf_13 := hts (.fieldLink RX5 13 "MajorityIndexModel" "slots" "I") (List.mem_of_getElem? (i := 1) rfl)
  have hi_5 : ∀ w ∈ u_ws RX5 TX5 30, w ∈ wsX5_keeps := fun w h => List.mem_cons_of_mem _ (List.mem_append_right _ h)
  have hf_101 := hts (.fieldLink RX5 101 "MajorityIndexModel" "nodes" "I") (List.mem_of_getElem? (i := 2) rfl)
  have hf_47 := hts (.fieldLink RX5 47 "MajorityIndexModel" "wasMany" "[I") (List.mem_of_getElem? (i := 3) rfl)
  have hf_17 := hts (.fieldLink RX5 17 "MajorityIndexModel" "many" "[I") (List.mem_of_getElem? (i := 4) rfl)
  have hf_50 := hts (.fieldLink RX5 50 "MajorityIndexModel" "wasLoss" "[I") (List.mem_of_getElem? (i := 5) rfl)
  have hf_20 := hts (.fieldLink RX5 20 "MajorityIndexModel" "loss" "[I") (List.mem_of_getElem? (i := 6) rfl)
  have hf_53 := hts (.fieldLink RX5 53 "MajorityIndexModel" "wasValue" "[I") (List.mem_of_getElem? (i := 7) rfl)
  have hf_26 := hts (.fieldLink RX5 26 "MajorityIndexModel" "voteValue" "[I") (List.mem_of_getElem? (i := 8) rfl)
  have hf_56 := hts (.fieldLink RX5 56 "MajorityIndexModel" "wasNumber" "[I") (List.mem_of_getElem? (i := 9) rfl)
  have hf_29 := hts (.fieldLink RX5 29 "MajorityIndexModel" "voteNumber" "[I") (List.mem_of_getElem? (i := 10) rfl)
  refine lv_aload_n hx hb dX5_keeps_0 rfl (lv_at hl 0 rfl) ?_
  refine lv_aload_n hx hb dX5_keeps_1 rfl (lv_at hl 0 rfl) ?_
  refine va_get (D := (dC, dI)) (ci := 5) (v := .int m_slots) (C := RX5) (T := TX5) (N := 30) hx hb hts hi_5 hown hK hP 0 rfl rfl 2 (by decide) hf_13 (fun _ h9 => h9) rfl dX5_keeps_2 ?_
  obtain ⟨hPc, hDc, hFc, hCc⟩ := kx_preM (wc := [kx_5 h0 g_row m_n m_slots m_thrown g_many g_loss g_less g_voteValue g_voteNumber g_allValue g_allNumber m_allMany g_nodeL g_nodeR m_nodes g_part m_partMany g_wasMany g_wasLoss g_wasValue g_wasNumber g_path m_pathMany g_heavyValue g_heavyTimes m_heavyMany g_fewest g_which g_met m_mostMet, kx_a g_row cyI 160 f, kx_a g_many cyI 324 fm, kx_a g_loss cyI 324 fl, kx_a g_less cyI 324 fe, kx_a g_voteValue cyI 1944 vv, kx_a g_voteNumber cyI 1944 vn, kx_a g_allValue cyI 12 av, kx_a g_allNumber cyI 12 an, kx_a g_nodeL cyI 320 nl, kx_a g_nodeR cyI 320 nr]) hP hD hS hA [true, true, true, true, true, true, true, true, true, true, true, false, false, false, false] rfl
  have hKc := hK
  refine va_callv (va_runV (As := [.int m_slots]) (rest := []) ⟨hx, hb, hml, hown, hts⟩ (kx_un (c_X5_laysAll l dC dI h0 g_row g_many g_loss g_less g_voteValue g_voteNumber g_allValue g_allNumber g_nodeL g_nodeR g_part g_wasMany g_wasLoss g_wasValue g_wasNumber g_path g_heavyValue g_heavyTimes g_fewest g_which g_met m_n m_slots m_thrown m_allMany m_nodes m_partMany m_pathMany m_heavyMany m_mostMet cyI fm fl fe vv vn f av an nl nr m_slots s.heap.size a0 a1 sl0 sl1 s4)) (cwV 1 hts gX5_keeps_X5_laysAll rfl rfl rfl (by decide +kernel) ⟨Nat.le_of_ble_eq_true rfl, Nat.le_of_ble_eq_true rfl⟩) ⟨fun a U g mk q => by obtain ⟨q0, q1, qP, qK, qD⟩ := q; exact ⟨q0, q1, qP, va_K.moved (u := U) (U := U.calling g mk a) (Vm.Alike.refl U.vm) qK, qD⟩, kx_rc5 hKc hPc (q0 := 0) rfl, fun U hU hW => ⟨rfl, by rw [hU], by rw [hU]; exact hPc, va_K.moved hW.alike hKc, hDc.weaken (fun _ _ _ _ => trivial)⟩⟩ rfl rfl hl.1 rfl (lv_room (Nat.le_of_ble_eq_true rfl)) dX5_keeps_5 ⟨Nat.le_of_ble_eq_true rfl, Nat.le_of_ble_eq_true rfl⟩) hS (fun q _ h => hFc q h) hFc (fun u t H1 locs ht hvm w_1 hB hz1 hk1 hS => ?_)
  obtain ⟨o_2, o_3, o_4, o_5, o_6, o_7, o_8, o_9, o_10, o_11, o_12⟩ := u
  dsimp only at w_1 hB
  obtain ⟨hP1, hK1, hD1⟩ := hB
  rw [ht] at hP1
  have hK1 := va_K.moved hvm.symm hK1
  obtain ⟨hP, hD⟩ := kx_joinM (w2 := [kx_5 h0 g_row m_n m_slots m_thrown g_many g_loss g_less g_voteValue g_voteNumber g_allValue g_allNumber o_3 g_nodeL g_nodeR o_2 g_part m_partMany g_wasMany g_wasLoss g_wasValue g_wasNumber g_path m_pathMany g_heavyValue g_heavyTimes m_heavyMany g_fewest g_which g_met m_mostMet, kx_a g_row cyI 160 f, kx_a g_many cyI 324 o_4, kx_a g_loss cyI 324 o_5, kx_a g_less cyI 324 o_6, kx_a g_voteValue cyI 1944 o_7, kx_a g_voteNumber cyI 1944 o_8, kx_a g_allValue cyI 12 o_9, kx_a g_allNumber cyI 12 o_10, kx_a g_nodeL cyI 320 o_11, kx_a g_nodeR cyI 320 o_12, kx_a g_wasMany cyI 320 wm, kx_a g_wasLoss cyI 320 wl, kx_a g_wasValue cyI 1920 wv, kx_a g_wasNumber cyI 1920 wn]) hP hD hP1 hD1 hk1 hFc [true, true, true, true, true, true, true, true, true, true, true, false, false, false, false] hCc rfl
  clear hP1 hD1 hK1 hk1 hz1 hFc hDc hPc hKc hCc
  generalize H1 = H at hP hS ⊢
  have w_1 : mj_L m_slots.toNatClampNeg f o_11 o_12 o_4 o_5 o_6 o_7 o_8 m_n.toInt o_2.toInt ∧ six4 o_4 ∧ 0 ≤ o_2.toInt ∧ o_2.toInt ≤ 319 := w_1
  refine lv_iconst (v := 0) hx hb dX5_keeps_8 (by decide) ?_
  refine lv_istore_n (lv' := [(1, .int 0), (0, .ref h0)]) hx hb dX5_keeps_9 rfl hl (by decide) rfl (fun ls hl => ?_)
  have LP1 : ∀ (n : Nat) (i : Int32) (x_wm : Nat → Int32) (x_wl : Nat → Int32) (x_wv : Nat → Int32) (x_wn : Nat → Int32), (0 ≤ i.toInt) → (o_2.toInt - i.toInt).toNat < n → ∀ (H : Heap) (locs : List Loc), va_P (dC, dI) vwCl [kx_5 h0 g_row m_n m_slots m_thrown g_many g_loss g_less g_voteValue g_voteNumber g_allValue g_allNumber o_3 g_nodeL g_nodeR o_2 g_part m_partMany g_wasMany g_wasLoss g_wasValue g_wasNumber g_path m_pathMany g_heavyValue g_heavyTimes m_heavyMany g_fewest g_which g_met m_mostMet, kx_a g_row cyI 160 f, kx_a g_many cyI 324 o_4, kx_a g_loss cyI 324 o_5, kx_a g_less cyI 324 o_6, kx_a g_voteValue cyI 1944 o_7, kx_a g_voteNumber cyI 1944 o_8, kx_a g_allValue cyI 12 o_9, kx_a g_allNumber cyI 12 o_10, kx_a g_nodeL cyI 320 o_11, kx_a g_nodeR cyI 320 o_12, kx_a g_wasMany cyI 320 x_wm, kx_a g_wasLoss cyI 320 x_wl, kx_a g_wasValue cyI 1920 x_wv, kx_a g_wasNumber cyI 1920 x_wn] H → va_D A [kx_5 h0 g_row m_n m_slots m_thrown g_many g_loss g_less g_voteValue g_voteNumber g_allValue g_allNumber o_3 g_nodeL g_nodeR o_2 g_part m_partMany g_wasMany g_wasLoss g_wasValue g_wasNumber g_path m_pathMany g_heavyValue g_heavyTimes m_heavyMany g_fewest g_which g_met m_mostMet, kx_a g_row cyI 160 f, kx_a g_many cyI 324 o_4, kx_a g_loss cyI 324 o_5, kx_a g_less cyI 324 o_6, kx_a g_voteValue cyI 1944 o_7, kx_a g_voteNumber cyI 1944 o_8, kx_a g_allValue cyI 12 o_9, kx_a g_allNumber cyI 12 o_10, kx_a g_nodeL cyI 320 o_11, kx_a g_nodeR cyI 320 o_12, kx_a g_wasMany cyI 320 x_wm, kx_a g_wasLoss cyI 320 x_wl, kx_a g_wasValue cyI 1920 x_wv, kx_a g_wasNumber cyI 1920 x_wn] → va_S A s.heap H locs → ∀ (ls : Array Slot), lv_has ls 3 [(1, .int i), (0, .ref h0)] → W p l e (headSpec wsX5_keeps ({ frames := 12, cells := 0, slots := 0, locals := 540 })).room s m ([.ref h0] : List Value).toArray below meth c H locs 0 0 (MQ below (va_Qv (fun u : Int32 × Int32 × (Nat → Int32) × (Nat → Int32) × (Nat → Int32) × (Nat → Int32) × (Nat → Int32) × (Nat → Int32) × (Nat → Int32) × (Nat → Int32) × (Nat → Int32) × (Nat → Int32) × (Nat → Int32) × (Nat → Int32) × (Nat → Int32) => six4 u.2.2.1) (fun (u : Int32 × Int32 × (Nat → Int32) × (Nat → Int32) × (Nat → Int32) × (Nat → Int32) × (Nat → Int32) × (Nat → Int32) × (Nat → Int32) × (Nat → Int32) × (Nat → Int32) × (Nat → Int32) × (Nat → Int32) × (Nat → Int32) × (Nat → Int32)) (t : State) => va_P (dC, dI) vwCl [kx_5 h0 g_row m_n m_slots m_thrown g_many g_loss g_less g_voteValue g_voteNumber g_allValue g_allNumber u.2.1 g_nodeL g_nodeR u.1 g_part m_partMany g_wasMany g_wasLoss g_wasValue g_wasNumber g_path m_pathMany g_heavyValue g_heavyTimes m_heavyMany g_fewest g_which g_met m_mostMet, kx_a g_row cyI 160 f, kx_a g_many cyI 324 u.2.2.1, kx_a g_loss cyI 324 u.2.2.2.1, kx_a g_less cyI 324 u.2.2.2.2.1, kx_a g_voteValue cyI 1944 u.2.2.2.2.2.1, kx_a g_voteNumber cyI 1944 u.2.2.2.2.2.2.1, kx_a g_allValue cyI 12 u.2.2.2.2.2.2.2.1, kx_a g_allNumber cyI 12 u.2.2.2.2.2.2.2.2.1, kx_a g_nodeL cyI 320 u.2.2.2.2.2.2.2.2.2.1, kx_a g_nodeR cyI 320 u.2.2.2.2.2.2.2.2.2.2.1, kx_a g_wasMany cyI 320 u.2.2.2.2.2.2.2.2.2.2.2.1, kx_a g_wasLoss cyI 320 u.2.2.2.2.2.2.2.2.2.2.2.2.1, kx_a g_wasValue cyI 1920 u.2.2.2.2.2.2.2.2.2.2.2.2.2.1, kx_a g_wasNumber cyI 1920 u.2.2.2.2.2.2.2.2.2.2.2.2.2.2] t.heap ∧ va_K (dC, dI) vwCl [(cyI, .int)] t ∧ va_D A [kx_5 h0 g_row m_n m_slots m_thrown g_many g_loss g_less g_voteValue g_voteNumber g_allValue g_allNumber u.2.1 g_nodeL g_nodeR u.1 g_part m_partMany g_wasMany g_wasLoss g_wasValue g_wasNumber g_path m_pathMany g_heavyValue g_heavyTimes m_heavyMany g_fewest g_which g_met m_mostMet, kx_a g_row cyI 160 f, kx_a g_many cyI 324 u.2.2.1, kx_a g_loss cyI 324 u.2.2.2.1, kx_a g_less cyI 324 u.2.2.2.2.1, kx_a g_voteValue cyI 1944 u.2.2.2.2.2.1, kx_a g_voteNumber cyI 1944 u.2.2.2.2.2.2.1, kx_a g_allValue cyI 12 u.2.2.2.2.2.2.2.1, kx_a g_allNumber cyI 12 u.2.2.2.2.2.2.2.2.1, kx_a g_nodeL cyI 320 u.2.2.2.2.2.2.2.2.2.1, kx_a g_nodeR cyI 320 u.2.2.2.2.2.2.2.2.2.2.1, kx_a g_wasMany cyI 320 u.2.2.2.2.2.2.2.2.2.2.2.1, kx_a g_wasLoss cyI 320 u.2.2.2.2.2.2.2.2.2.2.2.2.1, kx_a g_wasValue cyI 1920 u.2.2.2.2.2.2.2.2.2.2.2.2.2.1, kx_a g_wasNumber cyI 1920 u.2.2.2.2.2.2.2.2.2.2.2.2.2.2]) A) ([.ref h0] : List Value).toArray s 0 0 A) (F0 m 10 ls []) := by
    intro n
    induction n with
    | zero => intro i x_wm x_wl x_wv x_wn LP1_h0 hn; exact absurd hn (Nat.not_lt_zero _)
    | succ n ih1 =>
      intro i x_wm x_wl x_wv x_wn LP1_h0 hn1 H locs hP hD hS ls hl
      refine lv_iload_n hx hb dX5_keeps_10 rfl (lv_at hl 0 rfl) ?_
      refine lv_aload_n hx hb dX5_keeps_11 rfl (lv_at hl 1 rfl) ?_
      refine va_get (D := (dC, dI)) (ci := 5) (v := .int o_2) (C := RX5) (T := TX5) (N := 30) hx hb hts hi_5 hown hK hP 0 rfl rfl 14 (by decide) hf_101 (fun _ h9 => h9) rfl dX5_keeps_12 ?_
      refine lv_icmp_ge (tgt := 110) hx hb dX5_keeps_15 (by decide) (fun c_13 => ?_) (fun c_13 => ?_)
      · have i_13 : o_2.toInt ≤ i.toInt := kc_le c_13
        have hP9 := hP
        have hD9 := hD
        have hK9 := hK
        exact W.vret hx hb hr (hlocks := hlocks) (fun t ht hW => ⟨⟨(o_2, o_3, o_4, o_5, o_6, o_7, o_8, o_9, o_10, o_11, o_12, x_wm, x_wl, x_wv, x_wn), rfl, w_1.2.1, by rw [ht]; exact hP9, va_K.moved hW.alike hK9, hD9⟩, hS.F ht⟩) hS.2.2 dX5_keeps_110
      · have i_13 : i.toInt < o_2.toInt := kc_nle c_13
        refine lv_aload_n hx hb dX5_keeps_18 rfl (lv_at hl 1 rfl) ?_
        refine va_get (D := (dC, dI)) (ci := 5) (v := .ref g_wasMany) (C := RX5) (T := TX5) (N := 30) hx hb hts hi_5 hown hK hP 0 rfl rfl 17 (by decide) hf_47 (fun _ h9 => h9) rfl dX5_keeps_19 ?_
        refine lv_iload_n hx hb dX5_keeps_22 rfl (lv_at hl 0 rfl) ?_
        refine lv_aload_n hx hb dX5_keeps_23 rfl (lv_at hl 1 rfl) ?_
        refine va_get (D := (dC, dI)) (ci := 5) (v := .ref g_many) (C := RX5) (T := TX5) (N := 30) hx hb hts hi_5 hown hK hP 0 rfl rfl 4 (by decide) hf_17 (fun _ h9 => h9) rfl dX5_keeps_24 ?_
        refine lv_iload_n hx hb dX5_keeps_27 rfl (lv_at hl 0 rfl) ?_
        refine va_iald hx hb hK hP 2 0 rfl rfl (ki_in (om_10 LP1_h0) (om_424 w_1.2.2.2 i_13)) dX5_keeps_28 ?_
        refine lv_topi (fun y_14 ey_14 => ?_)
        have j_14 : y_14.toInt = (o_4 i.toNatClampNeg).toInt := congrArg Int32.toInt ey_14
        have n_15 : (i.toNatClampNeg : Int) = i.toInt := ki_nat _ rfl (om_10 LP1_h0)
        have i_16 := w_1.2.1 i.toNatClampNeg (om_ln n_15 (om_424 w_1.2.2.2 i_13))
        refine va_iast hx hb hK hP hD hS 11 0 rfl rfl (ki_in (om_10 LP1_h0) (om_425 w_1.2.2.2 i_13)) dX5_keeps_29 (fun H locs hP hD hS => ?_)
        obtain ⟨hP, hD⟩ := kx_re (w2 := [kx_5 h0 g_row m_n m_slots m_thrown g_many g_loss g_less g_voteValue g_voteNumber g_allValue g_allNumber o_3 g_nodeL g_nodeR o_2 g_part m_partMany g_wasMany g_wasLoss g_wasValue g_wasNumber g_path m_pathMany g_heavyValue g_heavyTimes m_heavyMany g_fewest g_which g_met m_mostMet, kx_a g_row cyI 160 f, kx_a g_many cyI 324 o_4, kx_a g_loss cyI 324 o_5, kx_a g_less cyI 324 o_6, kx_a g_voteValue cyI 1944 o_7, kx_a g_voteNumber cyI 1944 o_8, kx_a g_allValue cyI 12 o_9, kx_a g_allNumber cyI 12 o_10, kx_a g_nodeL cyI 320 o_11, kx_a g_nodeR cyI 320 o_12, kx_a g_wasMany cyI 320 (upd x_wm i.toNatClampNeg y_14), kx_a g_wasLoss cyI 320 x_wl, kx_a g_wasValue cyI 1920 x_wv, kx_a g_wasNumber cyI 1920 x_wn]) hP hD rfl
        refine lv_aload_n hx hb dX5_keeps_30 rfl (lv_at hl 1 rfl) ?_
        refine va_get (D := (dC, dI)) (ci := 5) (v := .ref g_wasLoss) (C := RX5) (T := TX5) (N := 30) hx hb hts hi_5 hown hK hP 0 rfl rfl 18 (by decide) hf_50 (fun _ h9 => h9) rfl dX5_keeps_31 ?_
        refine lv_iload_n hx hb dX5_keeps_34 rfl (lv_at hl 0 rfl) ?_
        refine lv_aload_n hx hb dX5_keeps_35 rfl (lv_at hl 1 rfl) ?_
        refine va_get (D := (dC, dI)) (ci := 5) (v := .ref g_loss) (C := RX5) (T := TX5) (N := 30) hx hb hts hi_5 hown hK hP 0 rfl rfl 5 (by decide) hf_20 (fun _ h9 => h9) rfl dX5_keeps_36 ?_
        refine lv_iload_n hx hb dX5_keeps_39 rfl (lv_at hl 0 rfl) ?_
        refine va_iald hx hb hK hP 3 0 rfl rfl (ki_in (om_10 LP1_h0) (om_424 w_1.2.2.2 i_13)) dX5_keeps_40 ?_
        refine lv_topi (fun y_17 ey_17 => ?_)
        have j_17 : y_17.toInt = (o_5 i.toNatClampNeg).toInt := congrArg Int32.toInt ey_17
        refine va_iast hx hb hK hP hD hS 12 0 rfl rfl (ki_in (om_10 LP1_h0) (om_425 w_1.2.2.2 i_13)) dX5_keeps_41 (fun H locs hP hD hS => ?_)
        obtain ⟨hP, hD⟩ := kx_re (w2 := [kx_5 h0 g_row m_n m_slots m_thrown g_many g_loss g_less g_voteValue g_voteNumber g_allValue g_allNumber o_3 g_nodeL g_nodeR o_2 g_part m_partMany g_wasMany g_wasLoss g_wasValue g_wasNumber g_path m_pathMany g_heavyValue g_heavyTimes m_heavyMany g_fewest g_which g_met m_mostMet, kx_a g_row cyI 160 f, kx_a g_many cyI 324 o_4, kx_a g_loss cyI 324 o_5, kx_a g_less cyI 324 o_6, kx_a g_voteValue cyI 1944 o_7, kx_a g_voteNumber cyI 1944 o_8, kx_a g_allValue cyI 12 o_9, kx_a g_allNumber cyI 12 o_10, kx_a g_nodeL cyI 320 o_11, kx_a g_nodeR cyI 320 o_12, kx_a g_wasMany cyI 320 (upd x_wm i.toNatClampNeg y_14), kx_a g_wasLoss cyI 320 (upd x_wl i.toNatClampNeg y_17), kx_a g_wasValue cyI 1920 x_wv, kx_a g_wasNumber cyI 1920 x_wn]) hP hD rfl
        refine lv_iconst (v := 0) hx hb dX5_keeps_42 (by decide) ?_
        refine lv_istore_n (lv' := [(2, .int 0), (1, .int i), (0, .ref h0)]) hx hb dX5_keeps_43 rfl hl (by decide) rfl (fun ls hl => ?_)
        have LP2 : ∀ (n : Nat) (j : Int32) (y_wv : Nat → Int32) (y_wn : Nat → Int32), (0 ≤ j.toInt) → (6 - j.toInt).toNat < n → ∀ (H : Heap) (locs : List Loc), va_P (dC, dI) vwCl [kx_5 h0 g_row m_n m_slots m_thrown g_many g_loss g_less g_voteValue g_voteNumber g_allValue g_allNumber o_3 g_nodeL g_nodeR o_2 g_part m_partMany g_wasMany g_wasLoss g_wasValue g_wasNumber g_path m_pathMany g_heavyValue g_heavyTimes m_heavyMany g_fewest g_which g_met m_mostMet, kx_a g_row cyI 160 f, kx_a g_many cyI 324 o_4, kx_a g_loss cyI 324 o_5, kx_a g_less cyI 324 o_6, kx_a g_voteValue cyI 1944 o_7, kx_a g_voteNumber cyI 1944 o_8, kx_a g_allValue cyI 12 o_9, kx_a g_allNumber cyI 12 o_10, kx_a g_nodeL cyI 320 o_11, kx_a g_nodeR cyI 320 o_12, kx_a g_wasMany cyI 320 (upd x_wm i.toNatClampNeg y_14), kx_a g_wasLoss cyI 320 (upd x_wl i.toNatClampNeg y_17), kx_a g_wasValue cyI 1920 y_wv, kx_a g_wasNumber cyI 1920 y_wn] H → va_D A [kx_5 h0 g_row m_n m_slots m_thrown g_many g_loss g_less g_voteValue g_voteNumber g_allValue g_allNumber o_3 g_nodeL g_nodeR o_2 g_part m_partMany g_wasMany g_wasLoss g_wasValue g_wasNumber g_path m_pathMany g_heavyValue g_heavyTimes m_heavyMany g_fewest g_which g_met m_mostMet, kx_a g_row cyI 160 f, kx_a g_many cyI 324 o_4, kx_a g_loss cyI 324 o_5, kx_a g_less cyI 324 o_6, kx_a g_voteValue cyI 1944 o_7, kx_a g_voteNumber cyI 1944 o_8, kx_a g_allValue cyI 12 o_9, kx_a g_allNumber cyI 12 o_10, kx_a g_nodeL cyI 320 o_11, kx_a g_nodeR cyI 320 o_12, kx_a g_wasMany cyI 320 (upd x_wm i.toNatClampNeg y_14), kx_a g_wasLoss cyI 320 (upd x_wl i.toNatClampNeg y_17), kx_a g_wasValue cyI 1920 y_wv, kx_a g_wasNumber cyI 1920 y_wn] → va_S A s.heap H locs → ∀ (ls : Array Slot), lv_has ls 3 [(2, .int j), (1, .int i), (0, .ref h0)] → W p l e (headSpec wsX5_keeps ({ frames := 12, cells := 0, slots := 0, locals := 540 })).room s m ([.ref h0] : List Value).toArray below meth c H locs 0 0 (MQ below (va_Qv (fun u : Int32 × Int32 × (Nat → Int32) × (Nat → Int32) × (Nat → Int32) × (Nat → Int32) × (Nat → Int32) × (Nat → Int32) × (Nat → Int32) × (Nat → Int32) × (Nat → Int32) × (Nat → Int32) × (Nat → Int32) × (Nat → Int32) × (Nat → Int32) => six4 u.2.2.1) (fun (u : Int32 × Int32 × (Nat → Int32) × (Nat → Int32) × (Nat → Int32) × (Nat → Int32) × (Nat → Int32) × (Nat → Int32) × (Nat → Int32) × (Nat → Int32) × (Nat → Int32) × (Nat → Int32) × (Nat → Int32) × (Nat → Int32) × (Nat → Int32)) (t : State) => va_P (dC, dI) vwCl [kx_5 h0 g_row m_n m_slots m_thrown g_many g_loss g_less g_voteValue g_voteNumber g_allValue g_allNumber u.2.1 g_nodeL g_nodeR u.1 g_part m_partMany g_wasMany g_wasLoss g_wasValue g_wasNumber g_path m_pathMany g_heavyValue g_heavyTimes m_heavyMany g_fewest g_which g_met m_mostMet, kx_a g_row cyI 160 f, kx_a g_many cyI 324 u.2.2.1, kx_a g_loss cyI 324 u.2.2.2.1, kx_a g_less cyI 324 u.2.2.2.2.1, kx_a g_voteValue cyI 1944 u.2.2.2.2.2.1, kx_a g_voteNumber cyI 1944 u.2.2.2.2.2.2.1, kx_a g_allValue cyI 12 u.2.2.2.2.2.2.2.1, kx_a g_allNumber cyI 12 u.2.2.2.2.2.2.2.2.1, kx_a g_nodeL cyI 320 u.2.2.2.2.2.2.2.2.2.1, kx_a g_nodeR cyI 320 u.2.2.2.2.2.2.2.2.2.2.1, kx_a g_wasMany cyI 320 u.2.2.2.2.2.2.2.2.2.2.2.1, kx_a g_wasLoss cyI 320 u.2.2.2.2.2.2.2.2.2.2.2.2.1, kx_a g_wasValue cyI 1920 u.2.2.2.2.2.2.2.2.2.2.2.2.2.1, kx_a g_wasNumber cyI 1920 u.2.2.2.2.2.2.2.2.2.2.2.2.2.2] t.heap ∧ va_K (dC, dI) vwCl [(cyI, .int)] t ∧ va_D A [kx_5 h0 g_row m_n m_slots m_thrown g_many g_loss g_less g_voteValue g_voteNumber g_allValue g_allNumber u.2.1 g_nodeL g_nodeR u.1 g_part m_partMany g_wasMany g_wasLoss g_wasValue g_wasNumber g_path m_pathMany g_heavyValue g_heavyTimes m_heavyMany g_fewest g_which g_met m_mostMet, kx_a g_row cyI 160 f, kx_a g_many cyI 324 u.2.2.1, kx_a g_loss cyI 324 u.2.2.2.1, kx_a g_less cyI 324 u.2.2.2.2.1, kx_a g_voteValue cyI 1944 u.2.2.2.2.2.1, kx_a g_voteNumber cyI 1944 u.2.2.2.2.2.2.1, kx_a g_allValue cyI 12 u.2.2.2.2.2.2.2.1, kx_a g_allNumber cyI 12 u.2.2.2.2.2.2.2.2.1, kx_a g_nodeL cyI 320 u.2.2.2.2.2.2.2.2.2.1, kx_a g_nodeR cyI 320 u.2.2.2.2.2.2.2.2.2.2.1, kx_a g_wasMany cyI 320 u.2.2.2.2.2.2.2.2.2.2.2.1, kx_a g_wasLoss cyI 320 u.2.2.2.2.2.2.2.2.2.2.2.2.1, kx_a g_wasValue cyI 1920 u.2.2.2.2.2.2.2.2.2.2.2.2.2.1, kx_a g_wasNumber cyI 1920 u.2.2.2.2.2.2.2.2.2.2.2.2.2.2]) A) ([.ref h0] : List Value).toArray s 0 0 A) (F0 m 44 ls []) := by
          intro n
          induction n with
          | zero => intro j y_wv y_wn LP2_h0 hn; exact absurd hn (Nat.not_lt_zero _)
          | succ n ih2 =>
            intro j y_wv y_wn LP2_h0 hn2 H locs hP hD hS ls hl
            refine lv_iload_n hx hb dX5_keeps_44 rfl (lv_at hl 0 rfl) ?_
            refine lv_aload_n hx hb dX5_keeps_45 rfl (lv_at hl 2 rfl) ?_
            refine va_get (D := (dC, dI)) (ci := 5) (v := .ref g_many) (C := RX5) (T := TX5) (N := 30) hx hb hts hi_5 hown hK hP 0 rfl rfl 4 (by decide) hf_17 (fun _ h9 => h9) rfl dX5_keeps_46 ?_
            refine lv_iload_n hx hb dX5_keeps_49 rfl (lv_at hl 1 rfl) ?_
            refine va_iald hx hb hK hP 2 0 rfl rfl (ki_in (om_10 LP1_h0) (om_424 w_1.2.2.2 i_13)) dX5_keeps_50 ?_
            refine lv_topi (fun y_18 ey_18 => ?_)
            have j_18 : y_18.toInt = (o_4 i.toNatClampNeg).toInt := congrArg Int32.toInt ey_18
            have n_19 : (i.toNatClampNeg : Int) = i.toInt := ki_nat _ rfl (om_10 LP1_h0)
            have i_20 := w_1.2.1 i.toNatClampNeg (om_ln n_19 (om_424 w_1.2.2.2 i_13))
            refine lv_icmp_ge (tgt := 104) hx hb dX5_keeps_51 (by decide) (fun c_21 => ?_) (fun c_21 => ?_)
            · have i_21 : y_18.toInt ≤ j.toInt := kc_le c_21
              obtain ⟨x_22, ex_22⟩ : ∃ y : Int32, y = i + 1 := ⟨_, rfl⟩
              have i_22 : x_22.toInt = i.toInt + 1 := ki_add ex_22 rfl rfl (om_13 LP1_h0) (om_125 w_1.2.2.2 i_13)
              refine lv_iinc (v := x_22) (lv' := [(1, .int x_22), (2, .int j), (0, .ref h0)]) hx hb dX5_keeps_104 hl (k := 1) rfl (by rw [ex_22]; rfl) (by decide) rfl (fun ls hl => ?_)
              refine lv_goto (tgt := 10) hx hb dX5_keeps_107 (by decide) ?_
              exact ih1 x_22 (upd x_wm i.toNatClampNeg y_14) (upd x_wl i.toNatClampNeg y_17) y_wv y_wn (om_34 LP1_h0 i_22) (om_mu hn1 (om_5 i_22) (om_6 i_13)) _ _ hP hD hS ls (lv_sub hl [0, 2] rfl)
            · have i_21 : j.toInt < y_18.toInt := kc_nle c_21
              refine lv_aload_n hx hb dX5_keeps_54 rfl (lv_at hl 2 rfl) ?_
              refine va_get (D := (dC, dI)) (ci := 5) (v := .ref g_wasValue) (C := RX5) (T := TX5) (N := 30) hx hb hts hi_5 hown hK hP 0 rfl rfl 19 (by decide) hf_53 (fun _ h9 => h9) rfl dX5_keeps_55 ?_
              refine lv_bipush (v := 6) hx hb dX5_keeps_58 (by decide) ?_
              refine lv_iload_n hx hb dX5_keeps_60 rfl (lv_at hl 1 rfl) ?_
              refine lv_imul hx hb dX5_keeps_61 ?_
              refine lv_topi (fun y_23 ey_23 => ?_)
              have i_23 : y_23.toInt = 6 * i.toInt := ki_mul ey_23 rfl rfl (om_247 LP1_h0) (om_426 w_1.2.2.2 i_13)
              refine lv_iload_n hx hb dX5_keeps_62 rfl (lv_at hl 0 rfl) ?_
              refine lv_iadd hx hb dX5_keeps_63 ?_
              refine lv_topi (fun y_24 ey_24 => ?_)
              have i_24 : y_24.toInt = y_23.toInt + j.toInt := ki_add ey_24 rfl rfl (om_251 LP1_h0 LP2_h0 i_23) (om_427 w_1.2.2.2 i_13 j_18 i_20.2 i_21 i_23)
              refine lv_aload_n hx hb dX5_keeps_64 rfl (lv_at hl 2 rfl) ?_
              refine va_get (D := (dC, dI)) (ci := 5) (v := .ref g_voteValue) (C := RX5) (T := TX5) (N := 30) hx hb hts hi_5 hown hK hP 0 rfl rfl 7 (by decide) hf_26 (fun _ h9 => h9) rfl dX5_keeps_65 ?_
              refine lv_bipush (v := 6) hx hb dX5_keeps_68 (by decide) ?_
              refine lv_iload_n hx hb dX5_keeps_70 rfl (lv_at hl 1 rfl) ?_
              refine lv_imul hx hb dX5_keeps_71 ?_
              refine lv_topi (fun y_25 ey_25 => ?_)
              have i_25 : y_25.toInt = 6 * i.toInt := ki_mul ey_25 rfl rfl (om_247 LP1_h0) (om_426 w_1.2.2.2 i_13)
              refine lv_iload_n hx hb dX5_keeps_72 rfl (lv_at hl 0 rfl) ?_
              refine lv_iadd hx hb dX5_keeps_73 ?_
              refine lv_topi (fun y_26 ey_26 => ?_)
              have i_26 : y_26.toInt = y_25.toInt + j.toInt := ki_add ey_26 rfl rfl (om_251 LP1_h0 LP2_h0 i_25) (om_427 w_1.2.2.2 i_13 j_18 i_20.2 i_21 i_25)
              refine va_iald hx hb hK hP 5 0 rfl rfl (ki_in (om_253 LP1_h0 LP2_h0 i_25 i_26) (om_428 w_1.2.2.2 i_13 j_18 i_20.2 i_21 i_25 i_26)) dX5_keeps_74 ?_
              refine lv_topi (fun y_27 ey_27 => ?_)
              have j_27 : y_27.toInt = (o_7 y_26.toNatClampNeg).toInt := congrArg Int32.toInt ey_27
              refine va_iast hx hb hK hP hD hS 13 0 rfl rfl (ki_in (om_253 LP1_h0 LP2_h0 i_23 i_24) (om_429 w_1.2.2.2 i_13 j_18 i_20.2 i_21 i_23 i_24)) dX5_keeps_75 (fun H locs hP hD hS => ?_)
              obtain ⟨hP, hD⟩ := kx_re (w2 := [kx_5 h0 g_row m_n m_slots m_thrown g_many g_loss g_less g_voteValue g_voteNumber g_allValue g_allNumber o_3 g_nodeL g_nodeR o_2 g_part m_partMany g_wasMany g_wasLoss g_wasValue g_wasNumber g_path m_pathMany g_heavyValue g_heavyTimes m_heavyMany g_fewest g_which g_met m_mostMet, kx_a g_row cyI 160 f, kx_a g_many cyI 324 o_4, kx_a g_loss cyI 324 o_5, kx_a g_less cyI 324 o_6, kx_a g_voteValue cyI 1944 o_7, kx_a g_voteNumber cyI 1944 o_8, kx_a g_allValue cyI 12 o_9, kx_a g_allNumber cyI 12 o_10, kx_a g_nodeL cyI 320 o_11, kx_a g_nodeR cyI 320 o_12, kx_a g_wasMany cyI 320 (upd x_wm i.toNatClampNeg y_14), kx_a g_wasLoss cyI 320 (upd x_wl i.toNatClampNeg y_17), kx_a g_wasValue cyI 1920 (upd y_wv y_24.toNatClampNeg y_27), kx_a g_wasNumber cyI 1920 y_wn]) hP hD rfl
              refine lv_aload_n hx hb dX5_keeps_76 rfl (lv_at hl 2 rfl) ?_
              refine va_get (D := (dC, dI)) (ci := 5) (v := .ref g_wasNumber) (C := RX5) (T := TX5) (N := 30) hx hb hts hi_5 hown hK hP 0 rfl rfl 20 (by decide) hf_56 (fun _ h9 => h9) rfl dX5_keeps_77 ?_
              refine lv_bipush (v := 6) hx hb dX5_keeps_80 (by decide) ?_
              refine lv_iload_n hx hb dX5_keeps_82 rfl (lv_at hl 1 rfl) ?_
              refine lv_imul hx hb dX5_keeps_83 ?_
              refine lv_topi (fun y_28 ey_28 => ?_)
              have i_28 : y_28.toInt = 6 * i.toInt := ki_mul ey_28 rfl rfl (om_247 LP1_h0) (om_426 w_1.2.2.2 i_13)
              refine lv_iload_n hx hb dX5_keeps_84 rfl (lv_at hl 0 rfl) ?_
              refine lv_iadd hx hb dX5_keeps_85 ?_
              refine lv_topi (fun y_29 ey_29 => ?_)
              have i_29 : y_29.toInt = y_28.toInt + j.toInt := ki_add ey_29 rfl rfl (om_251 LP1_h0 LP2_h0 i_28) (om_427 w_1.2.2.2 i_13 j_18 i_20.2 i_21 i_28)
              refine lv_aload_n hx hb dX5_keeps_86 rfl (lv_at hl 2 rfl) ?_
              refine va_get (D := (dC, dI)) (ci := 5) (v := .ref g_voteNumber) (C := RX5) (T := TX5) (N := 30) hx hb hts hi_5 hown hK hP 0 rfl rfl 8 (by decide) hf_29 (fun _ h9 => h9) rfl dX5_keeps_87 ?_
              refine lv_bipush (v := 6) hx hb dX5_keeps_90 (by decide) ?_
              refine lv_iload_n hx hb dX5_keeps_92 rfl (lv_at hl 1 rfl) ?_
              refine lv_imul hx hb dX5_keeps_93 ?_
              refine lv_topi (fun y_30 ey_30 => ?_)
              have i_30 : y_30.toInt = 6 * i.toInt := ki_mul ey_30 rfl rfl (om_247 LP1_h0) (om_426 w_1.2.2.2 i_13)
              refine lv_iload_n hx hb dX5_keeps_94 rfl (lv_at hl 0 rfl) ?_
              refine lv_iadd hx hb dX5_keeps_95 ?_
              refine lv_topi (fun y_31 ey_31 => ?_)
              have i_31 : y_31.toInt = y_30.toInt + j.toInt := ki_add ey_31 rfl rfl (om_251 LP1_h0 LP2_h0 i_30) (om_427 w_1.2.2.2 i_13 j_18 i_20.2 i_21 i_30)
              refine va_iald hx hb hK hP 6 0 rfl rfl (ki_in (om_253 LP1_h0 LP2_h0 i_30 i_31) (om_428 w_1.2.2.2 i_13 j_18 i_20.2 i_21 i_30 i_31)) dX5_keeps_96 ?_
              refine lv_topi (fun y_32 ey_32 => ?_)
              have j_32 : y_32.toInt = (o_8 y_31.toNatClampNeg).toInt := congrArg Int32.toInt ey_32
              refine va_iast hx hb hK hP hD hS 14 0 rfl rfl (ki_in (om_253 LP1_h0 LP2_h0 i_28 i_29) (om_429 w_1.2.2.2 i_13 j_18 i_20.2 i_21 i_28 i_29)) dX5_keeps_97 (fun H locs hP hD hS => ?_)
              obtain ⟨hP, hD⟩ := kx_re (w2 := [kx_5 h0 g_row m_n m_slots m_thrown g_many g_loss g_less g_voteValue g_voteNumber g_allValue g_allNumber o_3 g_nodeL g_nodeR o_2 g_part m_partMany g_wasMany g_wasLoss g_wasValue g_wasNumber g_path m_pathMany g_heavyValue g_heavyTimes m_heavyMany g_fewest g_which g_met m_mostMet, kx_a g_row cyI 160 f, kx_a g_many cyI 324 o_4, kx_a g_loss cyI 324 o_5, kx_a g_less cyI 324 o_6, kx_a g_voteValue cyI 1944 o_7, kx_a g_voteNumber cyI 1944 o_8, kx_a g_allValue cyI 12 o_9, kx_a g_allNumber cyI 12 o_10, kx_a g_nodeL cyI 320 o_11, kx_a g_nodeR cyI 320 o_12, kx_a g_wasMany cyI 320 (upd x_wm i.toNatClampNeg y_14), kx_a g_wasLoss cyI 320 (upd x_wl i.toNatClampNeg y_17), kx_a g_wasValue cyI 1920 (upd y_wv y_24.toNatClampNeg y_27), kx_a g_wasNumber cyI 1920 (upd y_wn y_29.toNatClampNeg y_32)]) hP hD rfl
              obtain ⟨x_33, ex_33⟩ : ∃ y : Int32, y = j + 1 := ⟨_, rfl⟩
              have i_33 : x_33.toInt = j.toInt + 1 := ki_add ex_33 rfl rfl (om_13 LP2_h0) (om_101 j_18 i_20.2 i_21)
              refine lv_iinc (v := x_33) (lv' := [(2, .int x_33), (1, .int i), (0, .ref h0)]) hx hb dX5_keeps_98 hl (k := 0) rfl (by rw [ex_33]; rfl) (by decide) rfl (fun ls hl => ?_)
              refine lv_goto (tgt := 44) hx hb dX5_keeps_101 (by decide) ?_
              exact ih2 x_33 (upd y_wv y_24.toNatClampNeg y_27) (upd y_wn y_29.toNatClampNeg y_32) (om_34 LP2_h0 i_33) (om_mu hn2 (om_102 i_33) (om_103 j_18 i_20.2 i_21)) _ _ hP hD hS ls (lv_sub hl [0, 1, 2] rfl)
        have k_34 : (0 : Int32).toInt = 0 := rfl
        exact LP2 ((6 - 0 : Int).toNat + 1) 0 x_wv x_wn om_35 (Nat.lt_succ_self _) _ _ hP hD hS ls (lv_sub hl [0, 1, 2] rfl)
  have k_35 : (0 : Int32).toInt = 0 := rfl
  exact LP1 ((o_2.toInt - 0 : Int).toNat + 1) 0 wm wl wv wn om_35 (Nat.lt_succ_self _) _ _ hP hD hS ls (lv_sub hl [0, 1] rfl)

set_option maxHeartbeats 4000000 in
set_option maxRecDepth 100000 in
theorem c_X5_others (l : Launch) (dC : Nat → ClassId) (dI : Nat → Nat → Nat) (h0 : Nat) (g_row : Nat) (g_many : Nat) (g_loss : Nat) (g_less : Nat) (g_voteValue : Nat) (g_voteNumber : Nat) (g_allValue : Nat) (g_allNumber : Nat) (g_nodeL : Nat) (g_nodeR : Nat) (g_part : Nat) (g_wasMany : Nat) (g_wasLoss : Nat) (g_wasValue : Nat) (g_wasNumber : Nat) (g_path : Nat) (g_heavyValue : Nat) (g_heavyTimes : Nat) (g_fewest : Nat) (g_which : Nat) (g_met : Nat) (m_n : Int32) (m_slots : Int32) (m_thrown : Int32) (m_allMany : Int32) (m_nodes : Int32) (m_partMany : Int32) (m_pathMany : Int32) (m_heavyMany : Int32) (m_mostMet : Int32) (cyI : ClassId) (fm : Nat → Int32) (fl : Nat → Int32) (fe : Nat → Int32) (vv : Nat → Int32) (vn : Nat → Int32) (f : Nat → Int32) (av : Nat → Int32) (an : Nat → Int32) (nl : Nat → Int32) (nr : Nat → Int32) (wm : Nat → Int32) (wl : Nat → Int32) (wv : Nat → Int32) (wn : Nat → Int32) (sz : Nat) (a0 : 0 ≤ m_n.toInt) (a1 : m_n.toInt ≤ 160) (sl0 : 1 ≤ m_slots.toInt) (sl1 : m_slots.toInt ≤ 6) (s4 : six4 fm) : kx_MQ l (dC, dI) yX5_others wsX5_others ({ frames := 12, cells := 0, slots := 0, locals := 540 }) [.ref h0] [kx_5 h0 g_row m_n m_slots m_thrown g_many g_loss g_less g_voteValue g_voteNumber g_allValue g_allNumber m_allMany g_nodeL g_nodeR m_nodes g_part m_partMany g_wasMany g_wasLoss g_wasValue g_wasNumber g_path m_pathMany g_heavyValue g_heavyTimes m_heavyMany g_fewest g_which g_met m_mostMet, kx_a g_row cyI 160 f, kx_a g_many cyI 324 fm, kx_a g_loss cyI 324 fl, kx_a g_less cyI 324 fe, kx_a g_voteValue cyI 1944 vv, kx_a g_voteNumber cyI 1944 vn, kx_a g_allValue cyI 12 av, kx_a g_allNumber cyI 12 an, kx_a g_nodeL cyI 320 nl, kx_a g_nodeR cyI 320 nr, kx_a g_wasMany cyI 320 wm, kx_a g_wasLoss cyI 320 wl, kx_a g_wasValue cyI 1920 wv, kx_a g_wasNumber cyI 1920 wn] [(cyI, .int)] sz (fun A => va_Qi (fun (r : Int32) (u : Int32 × Int32 × (Nat → Int32) × (Nat → Int32) × (Nat → Int32) × (Nat → Int32) × (Nat → Int32) × (Nat → Int32) × (Nat → Int32) × (Nat → Int32) × (Nat → Int32)) => six4 u.2.2.1) (fun (u : Int32 × Int32 × (Nat → Int32) × (Nat → Int32) × (Nat → Int32) × (Nat → Int32) × (Nat → Int32) × (Nat → Int32) × (Nat → Int32) × (Nat → Int32) × (Nat → Int32)) (t : State) => va_P (dC, dI) vwCl [kx_5 h0 g_row m_n m_slots m_thrown g_many g_loss g_less g_voteValue g_voteNumber g_allValue g_allNumber u.2.1 g_nodeL g_nodeR u.1 g_part m_partMany g_wasMany g_wasLoss g_wasValue g_wasNumber g_path m_pathMany g_heavyValue g_heavyTimes m_heavyMany g_fewest g_which g_met m_mostMet, kx_a g_row cyI 160 f, kx_a g_many cyI 324 u.2.2.1, kx_a g_loss cyI 324 u.2.2.2.1, kx_a g_less cyI 324 u.2.2.2.2.1, kx_a g_voteValue cyI 1944 u.2.2.2.2.2.1, kx_a g_voteNumber cyI 1944 u.2.2.2.2.2.2.1, kx_a g_allValue cyI 12 u.2.2.2.2.2.2.2.1, kx_a g_allNumber cyI 12 u.2.2.2.2.2.2.2.2.1, kx_a g_nodeL cyI 320 u.2.2.2.2.2.2.2.2.2.1, kx_a g_nodeR cyI 320 u.2.2.2.2.2.2.2.2.2.2, kx_a g_wasMany cyI 320 wm, kx_a g_wasLoss cyI 320 wl, kx_a g_wasValue cyI 1920 wv, kx_a g_wasNumber cyI 1920 wn] t.heap ∧ va_K (dC, dI) vwCl [(cyI, .int)] t ∧ va_D A [kx_5 h0 g_row m_n m_slots m_thrown g_many g_loss g_less g_voteValue g_voteNumber g_allValue g_allNumber u.2.1 g_nodeL g_nodeR u.1 g_part m_partMany g_wasMany g_wasLoss g_wasValue g_wasNumber g_path m_pathMany g_heavyValue g_heavyTimes m_heavyMany g_fewest g_which g_met m_mostMet, kx_a g_row cyI 160 f, kx_a g_many cyI 324 u.2.2.1, kx_a g_loss cyI 324 u.2.2.2.1, kx_a g_less cyI 324 u.2.2.2.2.1, kx_a g_voteValue cyI 1944 u.2.2.2.2.2.1, kx_a g_voteNumber cyI 1944 u.2.2.2.2.2.2.1, kx_a g_allValue cyI 12 u.2.2.2.2.2.2.2.1, kx_a g_allNumber cyI 12 u.2.2.2.2.2.2.2.2.1, kx_a g_nodeL cyI 320 u.2.2.2.2.2.2.2.2.2.1, kx_a g_nodeR cyI 320 u.2.2.2.2.2.2.2.2.2.2, kx_a g_wasMany cyI 320 wm, kx_a g_wasLoss cyI 320 wl, kx_a g_wasValue cyI 1920 wv, kx_a g_wasNumber cyI 1920 wn]) A) := by
  refine kx_stQ (ws := wsX5_others) (cc := cX5_others) (maxL := 5) (ret := (some .int)) (by decide) rfl (Nat.le_of_ble_eq_true rfl) ?_
  intro p e s m below meth c A ls hx hb hr hlocks hts hown hml hA hS hP hK hD hl
  have hown : s.vm.findClass RX5 = some m.cls := hown
  have hl : lv_has ls 5 [(0, .ref h0)] := hl
  have hf_13 := hts (.fieldLink RX5 13 "MajorityIndexModel" "slots" "I") (List.mem_of_getElem? (i := 1) rfl)
  have hi_5 : ∀ w ∈ u_ws RX5 TX5 30, w ∈ wsX5_others := fun w h => List.mem_cons_of_mem _ (List.mem_append_right _ h)
  have hf_101 := hts (.fieldLink RX5 101 "MajorityIndexModel" "nodes" "I") (List.mem_of_getElem? (i := 2) rfl)
  have hf_17 := hts (.fieldLink RX5 17 "MajorityIndexModel" "many" "[I") (List.mem_of_getElem? (i := 3) rfl)
  have hf_47 := hts (.fieldLink RX5 47 "MajorityIndexModel" "wasMany" "[I") (List.mem_of_getElem? (i := 4) rfl)
  have hf_26 := hts (.fieldLink RX5 26 "MajorityIndexModel" "voteValue" "[I") (List.mem_of_getElem? (i := 7) rfl)
  have hf_53 := hts (.fieldLink RX5 53 "MajorityIndexModel" "wasValue" "[I") (List.mem_of_getElem? (i := 8) rfl)
  have hf_29 := hts (.fieldLink RX5 29 "MajorityIndexModel" "voteNumber" "[I") (List.mem_of_getElem? (i := 9) rfl)
  have hf_56 := hts (.fieldLink RX5 56 "MajorityIndexModel" "wasNumber" "[I") (List.mem_of_getElem? (i := 10) rfl)
  have hf_20 := hts (.fieldLink RX5 20 "MajorityIndexModel" "loss" "[I") (List.mem_of_getElem? (i := 5) rfl)
  have hf_50 := hts (.fieldLink RX5 50 "MajorityIndexModel" "wasLoss" "[I") (List.mem_of_getElem? (i := 6) rfl)
  refine lv_aload_n hx hb dX5_others_0 rfl (lv_at hl 0 rfl) ?_
  refine lv_aload_n hx hb dX5_others_1 rfl (lv_at hl 0 rfl) ?_
  refine va_get (D := (dC, dI)) (ci := 5) (v := .int m_slots) (C := RX5) (T := TX5) (N := 30) hx hb hts hi_5 hown hK hP 0 rfl rfl 2 (by decide) hf_13 (fun _ h9 => h9) rfl dX5_others_2 ?_
  obtain ⟨hPc, hDc, hFc, hCc⟩ := kx_preM (wc := [kx_5 h0 g_row m_n m_slots m_thrown g_many g_loss g_less g_voteValue g_voteNumber g_allValue g_allNumber m_allMany g_nodeL g_nodeR m_nodes g_part m_partMany g_wasMany g_wasLoss g_wasValue g_wasNumber g_path m_pathMany g_heavyValue g_heavyTimes m_heavyMany g_fewest g_which g_met m_mostMet, kx_a g_row cyI 160 f, kx_a g_many cyI 324 fm, kx_a g_loss cyI 324 fl, kx_a g_less cyI 324 fe, kx_a g_voteValue cyI 1944 vv, kx_a g_voteNumber cyI 1944 vn, kx_a g_allValue cyI 12 av, kx_a g_allNumber cyI 12 an, kx_a g_nodeL cyI 320 nl, kx_a g_nodeR cyI 320 nr]) hP hD hS hA [true, true, true, true, true, true, true, true, true, true, true, false, false, false, false] rfl
  have hKc := hK
  refine va_callv (va_runV (As := [.int m_slots]) (rest := []) ⟨hx, hb, hml, hown, hts⟩ (kx_un (c_X5_laysAll l dC dI h0 g_row g_many g_loss g_less g_voteValue g_voteNumber g_allValue g_allNumber g_nodeL g_nodeR g_part g_wasMany g_wasLoss g_wasValue g_wasNumber g_path g_heavyValue g_heavyTimes g_fewest g_which g_met m_n m_slots m_thrown m_allMany m_nodes m_partMany m_pathMany m_heavyMany m_mostMet cyI fm fl fe vv vn f av an nl nr m_slots s.heap.size a0 a1 sl0 sl1 s4)) (cwV 1 hts gX5_others_X5_laysAll rfl rfl rfl (by decide +kernel) ⟨Nat.le_of_ble_eq_true rfl, Nat.le_of_ble_eq_true rfl⟩) ⟨fun a U g mk q => by obtain ⟨q0, q1, qP, qK, qD⟩ := q; exact ⟨q0, q1, qP, va_K.moved (u := U) (U := U.calling g mk a) (Vm.Alike.refl U.vm) qK, qD⟩, kx_rc5 hKc hPc (q0 := 0) rfl, fun U hU hW => ⟨rfl, by rw [hU], by rw [hU]; exact hPc, va_K.moved hW.alike hKc, hDc.weaken (fun _ _ _ _ => trivial)⟩⟩ rfl rfl hl.1 rfl (lv_room (Nat.le_of_ble_eq_true rfl)) dX5_others_5 ⟨Nat.le_of_ble_eq_true rfl, Nat.le_of_ble_eq_true rfl⟩) hS (fun q _ h => hFc q h) hFc (fun u t H1 locs ht hvm w_1 hB hz1 hk1 hS => ?_)
  obtain ⟨o_2, o_3, o_4, o_5, o_6, o_7, o_8, o_9, o_10, o_11, o_12⟩ := u
  dsimp only at w_1 hB
  obtain ⟨hP1, hK1, hD1⟩ := hB
  rw [ht] at hP1
  have hK1 := va_K.moved hvm.symm hK1
  obtain ⟨hP, hD⟩ := kx_joinM (w2 := [kx_5 h0 g_row m_n m_slots m_thrown g_many g_loss g_less g_voteValue g_voteNumber g_allValue g_allNumber o_3 g_nodeL g_nodeR o_2 g_part m_partMany g_wasMany g_wasLoss g_wasValue g_wasNumber g_path m_pathMany g_heavyValue g_heavyTimes m_heavyMany g_fewest g_which g_met m_mostMet, kx_a g_row cyI 160 f, kx_a g_many cyI 324 o_4, kx_a g_loss cyI 324 o_5, kx_a g_less cyI 324 o_6, kx_a g_voteValue cyI 1944 o_7, kx_a g_voteNumber cyI 1944 o_8, kx_a g_allValue cyI 12 o_9, kx_a g_allNumber cyI 12 o_10, kx_a g_nodeL cyI 320 o_11, kx_a g_nodeR cyI 320 o_12, kx_a g_wasMany cyI 320 wm, kx_a g_wasLoss cyI 320 wl, kx_a g_wasValue cyI 1920 wv, kx_a g_wasNumber cyI 1920 wn]) hP hD hP1 hD1 hk1 hFc [true, true, true, true, true, true, true, true, true, true, true, false, false, false, false] hCc rfl
  clear hP1 hD1 hK1 hk1 hz1 hFc hDc hPc hKc hCc
  generalize H1 = H at hP hS ⊢
  have w_1 : mj_L m_slots.toNatClampNeg f o_11 o_12 o_4 o_5 o_6 o_7 o_8 m_n.toInt o_2.toInt ∧ six4 o_4 ∧ 0 ≤ o_2.toInt ∧ o_2.toInt ≤ 319 := w_1
  refine lv_iconst (v := 0) hx hb dX5_others_8 (by decide) ?_
  refine lv_istore_n (lv' := [(1, .int 0), (0, .ref h0)]) hx hb dX5_others_9 rfl hl (by decide) rfl (fun ls hl => ?_)
  refine lv_iconst (v := 0) hx hb dX5_others_10 (by decide) ?_
  refine lv_istore_n (lv' := [(2, .int 0), (1, .int 0), (0, .ref h0)]) hx hb dX5_others_11 rfl hl (by decide) rfl (fun ls hl => ?_)
  have LP1 : ∀ (n : Nat) (i : Int32) (sm : Int32), (0 ≤ i.toInt) → (o_2.toInt - i.toInt).toNat < n → ∀ (H : Heap) (locs : List Loc), va_P (dC, dI) vwCl [kx_5 h0 g_row m_n m_slots m_thrown g_many g_loss g_less g_voteValue g_voteNumber g_allValue g_allNumber o_3 g_nodeL g_nodeR o_2 g_part m_partMany g_wasMany g_wasLoss g_wasValue g_wasNumber g_path m_pathMany g_heavyValue g_heavyTimes m_heavyMany g_fewest g_which g_met m_mostMet, kx_a g_row cyI 160 f, kx_a g_many cyI 324 o_4, kx_a g_loss cyI 324 o_5, kx_a g_less cyI 324 o_6, kx_a g_voteValue cyI 1944 o_7, kx_a g_voteNumber cyI 1944 o_8, kx_a g_allValue cyI 12 o_9, kx_a g_allNumber cyI 12 o_10, kx_a g_nodeL cyI 320 o_11, kx_a g_nodeR cyI 320 o_12, kx_a g_wasMany cyI 320 wm, kx_a g_wasLoss cyI 320 wl, kx_a g_wasValue cyI 1920 wv, kx_a g_wasNumber cyI 1920 wn] H → va_D A [kx_5 h0 g_row m_n m_slots m_thrown g_many g_loss g_less g_voteValue g_voteNumber g_allValue g_allNumber o_3 g_nodeL g_nodeR o_2 g_part m_partMany g_wasMany g_wasLoss g_wasValue g_wasNumber g_path m_pathMany g_heavyValue g_heavyTimes m_heavyMany g_fewest g_which g_met m_mostMet, kx_a g_row cyI 160 f, kx_a g_many cyI 324 o_4, kx_a g_loss cyI 324 o_5, kx_a g_less cyI 324 o_6, kx_a g_voteValue cyI 1944 o_7, kx_a g_voteNumber cyI 1944 o_8, kx_a g_allValue cyI 12 o_9, kx_a g_allNumber cyI 12 o_10, kx_a g_nodeL cyI 320 o_11, kx_a g_nodeR cyI 320 o_12, kx_a g_wasMany cyI 320 wm, kx_a g_wasLoss cyI 320 wl, kx_a g_wasValue cyI 1920 wv, kx_a g_wasNumber cyI 1920 wn] → va_S A s.heap H locs → ∀ (ls : Array Slot), lv_has ls 5 [(2, .int i), (1, .int sm), (0, .ref h0)] → W p l e (headSpec wsX5_others ({ frames := 12, cells := 0, slots := 0, locals := 540 })).room s m ([.ref h0] : List Value).toArray below meth c H locs 0 0 (MQ below (va_Qi (fun (r : Int32) (u : Int32 × Int32 × (Nat → Int32) × (Nat → Int32) × (Nat → Int32) × (Nat → Int32) × (Nat → Int32) × (Nat → Int32) × (Nat → Int32) × (Nat → Int32) × (Nat → Int32)) => six4 u.2.2.1) (fun (u : Int32 × Int32 × (Nat → Int32) × (Nat → Int32) × (Nat → Int32) × (Nat → Int32) × (Nat → Int32) × (Nat → Int32) × (Nat → Int32) × (Nat → Int32) × (Nat → Int32)) (t : State) => va_P (dC, dI) vwCl [kx_5 h0 g_row m_n m_slots m_thrown g_many g_loss g_less g_voteValue g_voteNumber g_allValue g_allNumber u.2.1 g_nodeL g_nodeR u.1 g_part m_partMany g_wasMany g_wasLoss g_wasValue g_wasNumber g_path m_pathMany g_heavyValue g_heavyTimes m_heavyMany g_fewest g_which g_met m_mostMet, kx_a g_row cyI 160 f, kx_a g_many cyI 324 u.2.2.1, kx_a g_loss cyI 324 u.2.2.2.1, kx_a g_less cyI 324 u.2.2.2.2.1, kx_a g_voteValue cyI 1944 u.2.2.2.2.2.1, kx_a g_voteNumber cyI 1944 u.2.2.2.2.2.2.1, kx_a g_allValue cyI 12 u.2.2.2.2.2.2.2.1, kx_a g_allNumber cyI 12 u.2.2.2.2.2.2.2.2.1, kx_a g_nodeL cyI 320 u.2.2.2.2.2.2.2.2.2.1, kx_a g_nodeR cyI 320 u.2.2.2.2.2.2.2.2.2.2, kx_a g_wasMany cyI 320 wm, kx_a g_wasLoss cyI 320 wl, kx_a g_wasValue cyI 1920 wv, kx_a g_wasNumber cyI 1920 wn] t.heap ∧ va_K (dC, dI) vwCl [(cyI, .int)] t ∧ va_D A [kx_5 h0 g_row m_n m_slots m_thrown g_many g_loss g_less g_voteValue g_voteNumber g_allValue g_allNumber u.2.1 g_nodeL g_nodeR u.1 g_part m_partMany g_wasMany g_wasLoss g_wasValue g_wasNumber g_path m_pathMany g_heavyValue g_heavyTimes m_heavyMany g_fewest g_which g_met m_mostMet, kx_a g_row cyI 160 f, kx_a g_many cyI 324 u.2.2.1, kx_a g_loss cyI 324 u.2.2.2.1, kx_a g_less cyI 324 u.2.2.2.2.1, kx_a g_voteValue cyI 1944 u.2.2.2.2.2.1, kx_a g_voteNumber cyI 1944 u.2.2.2.2.2.2.1, kx_a g_allValue cyI 12 u.2.2.2.2.2.2.2.1, kx_a g_allNumber cyI 12 u.2.2.2.2.2.2.2.2.1, kx_a g_nodeL cyI 320 u.2.2.2.2.2.2.2.2.2.1, kx_a g_nodeR cyI 320 u.2.2.2.2.2.2.2.2.2.2, kx_a g_wasMany cyI 320 wm, kx_a g_wasLoss cyI 320 wl, kx_a g_wasValue cyI 1920 wv, kx_a g_wasNumber cyI 1920 wn]) A) ([.ref h0] : List Value).toArray s 0 0 A) (F0 m 12 ls []) := by
    intro n
    induction n with
    | zero => intro i sm LP1_h0 hn; exact absurd hn (Nat.not_lt_zero _)
    | succ n ih1 =>
      intro i sm LP1_h0 hn1 H locs hP hD hS ls hl
      refine lv_iload_n hx hb dX5_others_12 rfl (lv_at hl 0 rfl) ?_
      refine lv_aload_n hx hb dX5_others_13 rfl (lv_at hl 2 rfl) ?_
      refine va_get (D := (dC, dI)) (ci := 5) (v := .int o_2) (C := RX5) (T := TX5) (N := 30) hx hb hts hi_5 hown hK hP 0 rfl rfl 14 (by decide) hf_101 (fun _ h9 => h9) rfl dX5_others_14 ?_
      refine lv_icmp_ge (tgt := 158) hx hb dX5_others_17 (by decide) (fun c_13 => ?_) (fun c_13 => ?_)
      · have i_13 : o_2.toInt ≤ i.toInt := kc_le c_13
        refine lv_iload_n hx hb dX5_others_158 rfl (lv_at hl 1 rfl) ?_
        have hP9 := hP
        have hD9 := hD
        have hK9 := hK
        exact W.iret (v := sm) hx hb hr (hlocks := hlocks) (fun t ht hW => ⟨⟨sm, (o_2, o_3, o_4, o_5, o_6, o_7, o_8, o_9, o_10, o_11, o_12), rfl, w_1.2.1, by rw [ht]; exact hP9, va_K.moved hW.alike hK9, hD9⟩, hS.F ht⟩) hS.2.2 dX5_others_159
      · have i_13 : i.toInt < o_2.toInt := kc_nle c_13
        refine lv_aload_n hx hb dX5_others_20 rfl (lv_at hl 2 rfl) ?_
        refine va_get (D := (dC, dI)) (ci := 5) (v := .ref g_many) (C := RX5) (T := TX5) (N := 30) hx hb hts hi_5 hown hK hP 0 rfl rfl 4 (by decide) hf_17 (fun _ h9 => h9) rfl dX5_others_21 ?_
        refine lv_iload_n hx hb dX5_others_24 rfl (lv_at hl 0 rfl) ?_
        refine va_iald hx hb hK hP 2 0 rfl rfl (ki_in (om_10 LP1_h0) (om_424 w_1.2.2.2 i_13)) dX5_others_25 ?_
        refine lv_topi (fun y_14 ey_14 => ?_)
        have j_14 : y_14.toInt = (o_4 i.toNatClampNeg).toInt := congrArg Int32.toInt ey_14
        have n_15 : (i.toNatClampNeg : Int) = i.toInt := ki_nat _ rfl (om_10 LP1_h0)
        have i_16 := w_1.2.1 i.toNatClampNeg (om_ln n_15 (om_424 w_1.2.2.2 i_13))
        refine lv_aload_n hx hb dX5_others_26 rfl (lv_at hl 2 rfl) ?_
        refine va_get (D := (dC, dI)) (ci := 5) (v := .ref g_wasMany) (C := RX5) (T := TX5) (N := 30) hx hb hts hi_5 hown hK hP 0 rfl rfl 17 (by decide) hf_47 (fun _ h9 => h9) rfl dX5_others_27 ?_
        refine lv_iload_n hx hb dX5_others_30 rfl (lv_at hl 0 rfl) ?_
        refine va_iald hx hb hK hP 11 0 rfl rfl (ki_in (om_10 LP1_h0) (om_425 w_1.2.2.2 i_13)) dX5_others_31 ?_
        refine lv_topi (fun y_17 ey_17 => ?_)
        have j_17 : y_17.toInt = (wm i.toNatClampNeg).toInt := congrArg Int32.toInt ey_17
        refine lv_icmp_ne (tgt := 54) hx hb dX5_others_32 (by decide) (fun c_18 => ?_) (fun c_18 => ?_)
        · have i_18 : ¬ y_14.toInt = y_17.toInt := kc_ne c_18
          refine lv_iconst (v := 0) hx hb dX5_others_54 (by decide) ?_
          refine lv_istore_n (lv' := [(3, .int 0), (2, .int i), (1, .int sm), (0, .ref h0)]) hx hb dX5_others_55 rfl hl (by decide) rfl (fun ls hl => ?_)
          refine lv_iconst (v := 0) hx hb dX5_others_56 (by decide) ?_
          refine lv_istore (lv' := [(4, .int 0), (3, .int 0), (2, .int i), (1, .int sm), (0, .ref h0)]) hx hb dX5_others_57 hl (by decide) rfl (fun ls hl => ?_)
          have LP2 : ∀ (n : Nat) (j : Int32) (is : Int32), (0 ≤ j.toInt) → (6 - j.toInt).toNat < n → ∀ (H : Heap) (locs : List Loc), va_P (dC, dI) vwCl [kx_5 h0 g_row m_n m_slots m_thrown g_many g_loss g_less g_voteValue g_voteNumber g_allValue g_allNumber o_3 g_nodeL g_nodeR o_2 g_part m_partMany g_wasMany g_wasLoss g_wasValue g_wasNumber g_path m_pathMany g_heavyValue g_heavyTimes m_heavyMany g_fewest g_which g_met m_mostMet, kx_a g_row cyI 160 f, kx_a g_many cyI 324 o_4, kx_a g_loss cyI 324 o_5, kx_a g_less cyI 324 o_6, kx_a g_voteValue cyI 1944 o_7, kx_a g_voteNumber cyI 1944 o_8, kx_a g_allValue cyI 12 o_9, kx_a g_allNumber cyI 12 o_10, kx_a g_nodeL cyI 320 o_11, kx_a g_nodeR cyI 320 o_12, kx_a g_wasMany cyI 320 wm, kx_a g_wasLoss cyI 320 wl, kx_a g_wasValue cyI 1920 wv, kx_a g_wasNumber cyI 1920 wn] H → va_D A [kx_5 h0 g_row m_n m_slots m_thrown g_many g_loss g_less g_voteValue g_voteNumber g_allValue g_allNumber o_3 g_nodeL g_nodeR o_2 g_part m_partMany g_wasMany g_wasLoss g_wasValue g_wasNumber g_path m_pathMany g_heavyValue g_heavyTimes m_heavyMany g_fewest g_which g_met m_mostMet, kx_a g_row cyI 160 f, kx_a g_many cyI 324 o_4, kx_a g_loss cyI 324 o_5, kx_a g_less cyI 324 o_6, kx_a g_voteValue cyI 1944 o_7, kx_a g_voteNumber cyI 1944 o_8, kx_a g_allValue cyI 12 o_9, kx_a g_allNumber cyI 12 o_10, kx_a g_nodeL cyI 320 o_11, kx_a g_nodeR cyI 320 o_12, kx_a g_wasMany cyI 320 wm, kx_a g_wasLoss cyI 320 wl, kx_a g_wasValue cyI 1920 wv, kx_a g_wasNumber cyI 1920 wn] → va_S A s.heap H locs → ∀ (ls : Array Slot), lv_has ls 5 [(4, .int j), (3, .int is), (2, .int i), (1, .int sm), (0, .ref h0)] → W p l e (headSpec wsX5_others ({ frames := 12, cells := 0, slots := 0, locals := 540 })).room s m ([.ref h0] : List Value).toArray below meth c H locs 0 0 (MQ below (va_Qi (fun (r : Int32) (u : Int32 × Int32 × (Nat → Int32) × (Nat → Int32) × (Nat → Int32) × (Nat → Int32) × (Nat → Int32) × (Nat → Int32) × (Nat → Int32) × (Nat → Int32) × (Nat → Int32)) => six4 u.2.2.1) (fun (u : Int32 × Int32 × (Nat → Int32) × (Nat → Int32) × (Nat → Int32) × (Nat → Int32) × (Nat → Int32) × (Nat → Int32) × (Nat → Int32) × (Nat → Int32) × (Nat → Int32)) (t : State) => va_P (dC, dI) vwCl [kx_5 h0 g_row m_n m_slots m_thrown g_many g_loss g_less g_voteValue g_voteNumber g_allValue g_allNumber u.2.1 g_nodeL g_nodeR u.1 g_part m_partMany g_wasMany g_wasLoss g_wasValue g_wasNumber g_path m_pathMany g_heavyValue g_heavyTimes m_heavyMany g_fewest g_which g_met m_mostMet, kx_a g_row cyI 160 f, kx_a g_many cyI 324 u.2.2.1, kx_a g_loss cyI 324 u.2.2.2.1, kx_a g_less cyI 324 u.2.2.2.2.1, kx_a g_voteValue cyI 1944 u.2.2.2.2.2.1, kx_a g_voteNumber cyI 1944 u.2.2.2.2.2.2.1, kx_a g_allValue cyI 12 u.2.2.2.2.2.2.2.1, kx_a g_allNumber cyI 12 u.2.2.2.2.2.2.2.2.1, kx_a g_nodeL cyI 320 u.2.2.2.2.2.2.2.2.2.1, kx_a g_nodeR cyI 320 u.2.2.2.2.2.2.2.2.2.2, kx_a g_wasMany cyI 320 wm, kx_a g_wasLoss cyI 320 wl, kx_a g_wasValue cyI 1920 wv, kx_a g_wasNumber cyI 1920 wn] t.heap ∧ va_K (dC, dI) vwCl [(cyI, .int)] t ∧ va_D A [kx_5 h0 g_row m_n m_slots m_thrown g_many g_loss g_less g_voteValue g_voteNumber g_allValue g_allNumber u.2.1 g_nodeL g_nodeR u.1 g_part m_partMany g_wasMany g_wasLoss g_wasValue g_wasNumber g_path m_pathMany g_heavyValue g_heavyTimes m_heavyMany g_fewest g_which g_met m_mostMet, kx_a g_row cyI 160 f, kx_a g_many cyI 324 u.2.2.1, kx_a g_loss cyI 324 u.2.2.2.1, kx_a g_less cyI 324 u.2.2.2.2.1, kx_a g_voteValue cyI 1944 u.2.2.2.2.2.1, kx_a g_voteNumber cyI 1944 u.2.2.2.2.2.2.1, kx_a g_allValue cyI 12 u.2.2.2.2.2.2.2.1, kx_a g_allNumber cyI 12 u.2.2.2.2.2.2.2.2.1, kx_a g_nodeL cyI 320 u.2.2.2.2.2.2.2.2.2.1, kx_a g_nodeR cyI 320 u.2.2.2.2.2.2.2.2.2.2, kx_a g_wasMany cyI 320 wm, kx_a g_wasLoss cyI 320 wl, kx_a g_wasValue cyI 1920 wv, kx_a g_wasNumber cyI 1920 wn]) A) ([.ref h0] : List Value).toArray s 0 0 A) (F0 m 59 ls []) := by
            intro n
            induction n with
            | zero => intro j is LP2_h0 hn; exact absurd hn (Nat.not_lt_zero _)
            | succ n ih2 =>
              intro j is LP2_h0 hn2 H locs hP hD hS ls hl
              refine lv_iload hx hb dX5_others_59 (lv_at hl 0 rfl) ?_
              refine lv_aload_n hx hb dX5_others_61 rfl (lv_at hl 4 rfl) ?_
              refine va_get (D := (dC, dI)) (ci := 5) (v := .ref g_many) (C := RX5) (T := TX5) (N := 30) hx hb hts hi_5 hown hK hP 0 rfl rfl 4 (by decide) hf_17 (fun _ h9 => h9) rfl dX5_others_62 ?_
              refine lv_iload_n hx hb dX5_others_65 rfl (lv_at hl 2 rfl) ?_
              refine va_iald hx hb hK hP 2 0 rfl rfl (ki_in (om_10 LP1_h0) (om_424 w_1.2.2.2 i_13)) dX5_others_66 ?_
              refine lv_topi (fun y_19 ey_19 => ?_)
              have j_19 : y_19.toInt = (o_4 i.toNatClampNeg).toInt := congrArg Int32.toInt ey_19
              have n_20 : (i.toNatClampNeg : Int) = i.toInt := ki_nat _ rfl (om_10 LP1_h0)
              have i_21 := w_1.2.1 i.toNatClampNeg (om_ln n_20 (om_424 w_1.2.2.2 i_13))
              refine lv_icmp_ge (tgt := 140) hx hb dX5_others_67 (by decide) (fun c_22 => ?_) (fun c_22 => ?_)
              · have i_22 : y_19.toInt ≤ j.toInt := kc_le c_22
                refine lv_iload_n hx hb dX5_others_140 rfl (lv_at hl 3 rfl) ?_
                refine lv_iload_n hx hb dX5_others_141 rfl (lv_at hl 1 rfl) ?_
                refine lv_if_eq (tgt := 149) hx hb dX5_others_142 (by decide) (fun c_23 => ?_) (fun c_23 => ?_)
                · have i_23 : is.toInt = 0 := kc_eq c_23
                  refine lv_iconst (v := 1) hx hb dX5_others_149 (by decide) ?_
                  refine lv_iadd hx hb dX5_others_150 ?_
                  refine lv_topi (fun y_24 ey_24 => ?_)
                  refine lv_istore_n (lv' := [(1, .int y_24), (4, .int j), (3, .int is), (2, .int i), (0, .ref h0)]) hx hb dX5_others_151 rfl hl (by decide) rfl (fun ls hl => ?_)
                  obtain ⟨x_25, ex_25⟩ : ∃ y : Int32, y = i + 1 := ⟨_, rfl⟩
                  have i_25 : x_25.toInt = i.toInt + 1 := ki_add ex_25 rfl rfl (om_13 LP1_h0) (om_125 w_1.2.2.2 i_13)
                  refine lv_iinc (v := x_25) (lv' := [(2, .int x_25), (1, .int y_24), (4, .int j), (3, .int is), (0, .ref h0)]) hx hb dX5_others_152 hl (k := 3) rfl (by rw [ex_25]; rfl) (by decide) rfl (fun ls hl => ?_)
                  refine lv_goto (tgt := 12) hx hb dX5_others_155 (by decide) ?_
                  exact ih1 x_25 y_24 (om_34 LP1_h0 i_25) (om_mu hn1 (om_5 i_25) (om_6 i_13)) _ _ hP hD hS ls (lv_sub hl [0, 1, 4] rfl)
                · have i_23 : ¬ is.toInt = 0 := kc_ne c_23
                  refine lv_iconst (v := 0) hx hb dX5_others_145 (by decide) ?_
                  refine lv_goto (tgt := 150) hx hb dX5_others_146 (by decide) ?_
                  refine lv_iadd hx hb dX5_others_150 ?_
                  refine lv_topi (fun y_26 ey_26 => ?_)
                  refine lv_istore_n (lv' := [(1, .int y_26), (4, .int j), (3, .int is), (2, .int i), (0, .ref h0)]) hx hb dX5_others_151 rfl hl (by decide) rfl (fun ls hl => ?_)
                  obtain ⟨x_27, ex_27⟩ : ∃ y : Int32, y = i + 1 := ⟨_, rfl⟩
                  have i_27 : x_27.toInt = i.toInt + 1 := ki_add ex_27 rfl rfl (om_13 LP1_h0) (om_125 w_1.2.2.2 i_13)
                  refine lv_iinc (v := x_27) (lv' := [(2, .int x_27), (1, .int y_26), (4, .int j), (3, .int is), (0, .ref h0)]) hx hb dX5_others_152 hl (k := 3) rfl (by rw [ex_27]; rfl) (by decide) rfl (fun ls hl => ?_)
                  refine lv_goto (tgt := 12) hx hb dX5_others_155 (by decide) ?_
                  exact ih1 x_27 y_26 (om_34 LP1_h0 i_27) (om_mu hn1 (om_5 i_27) (om_6 i_13)) _ _ hP hD hS ls (lv_sub hl [0, 1, 4] rfl)
              · have i_22 : j.toInt < y_19.toInt := kc_nle c_22
                refine lv_iload_n hx hb dX5_others_70 rfl (lv_at hl 1 rfl) ?_
                refine lv_if_eq (tgt := 140) hx hb dX5_others_71 (by decide) (fun c_28 => ?_) (fun c_28 => ?_)
                · have i_28 : is.toInt = 0 := kc_eq c_28
                  refine lv_iload_n hx hb dX5_others_140 rfl (lv_at hl 3 rfl) ?_
                  refine lv_iload_n hx hb dX5_others_141 rfl (lv_at hl 1 rfl) ?_
                  refine lv_if_eq (tgt := 149) hx hb dX5_others_142 (by decide) (fun c_29 => ?_) (fun c_29 => ?_)
                  · have i_29 : is.toInt = 0 := kc_eq c_29
                    refine lv_iconst (v := 1) hx hb dX5_others_149 (by decide) ?_
                    refine lv_iadd hx hb dX5_others_150 ?_
                    refine lv_topi (fun y_30 ey_30 => ?_)
                    refine lv_istore_n (lv' := [(1, .int y_30), (4, .int j), (3, .int is), (2, .int i), (0, .ref h0)]) hx hb dX5_others_151 rfl hl (by decide) rfl (fun ls hl => ?_)
                    obtain ⟨x_31, ex_31⟩ : ∃ y : Int32, y = i + 1 := ⟨_, rfl⟩
                    have i_31 : x_31.toInt = i.toInt + 1 := ki_add ex_31 rfl rfl (om_13 LP1_h0) (om_125 w_1.2.2.2 i_13)
                    refine lv_iinc (v := x_31) (lv' := [(2, .int x_31), (1, .int y_30), (4, .int j), (3, .int is), (0, .ref h0)]) hx hb dX5_others_152 hl (k := 3) rfl (by rw [ex_31]; rfl) (by decide) rfl (fun ls hl => ?_)
                    refine lv_goto (tgt := 12) hx hb dX5_others_155 (by decide) ?_
                    exact ih1 x_31 y_30 (om_34 LP1_h0 i_31) (om_mu hn1 (om_5 i_31) (om_6 i_13)) _ _ hP hD hS ls (lv_sub hl [0, 1, 4] rfl)
                  · have i_29 : ¬ is.toInt = 0 := kc_ne c_29
                    refine lv_iconst (v := 0) hx hb dX5_others_145 (by decide) ?_
                    refine lv_goto (tgt := 150) hx hb dX5_others_146 (by decide) ?_
                    refine lv_iadd hx hb dX5_others_150 ?_
                    refine lv_topi (fun y_32 ey_32 => ?_)
                    refine lv_istore_n (lv' := [(1, .int y_32), (4, .int j), (3, .int is), (2, .int i), (0, .ref h0)]) hx hb dX5_others_151 rfl hl (by decide) rfl (fun ls hl => ?_)
                    obtain ⟨x_33, ex_33⟩ : ∃ y : Int32, y = i + 1 := ⟨_, rfl⟩
                    have i_33 : x_33.toInt = i.toInt + 1 := ki_add ex_33 rfl rfl (om_13 LP1_h0) (om_125 w_1.2.2.2 i_13)
                    refine lv_iinc (v := x_33) (lv' := [(2, .int x_33), (1, .int y_32), (4, .int j), (3, .int is), (0, .ref h0)]) hx hb dX5_others_152 hl (k := 3) rfl (by rw [ex_33]; rfl) (by decide) rfl (fun ls hl => ?_)
                    refine lv_goto (tgt := 12) hx hb dX5_others_155 (by decide) ?_
                    exact ih1 x_33 y_32 (om_34 LP1_h0 i_33) (om_mu hn1 (om_5 i_33) (om_6 i_13)) _ _ hP hD hS ls (lv_sub hl [0, 1, 4] rfl)
                · have i_28 : ¬ is.toInt = 0 := kc_ne c_28
                  refine lv_aload_n hx hb dX5_others_74 rfl (lv_at hl 4 rfl) ?_
                  refine va_get (D := (dC, dI)) (ci := 5) (v := .ref g_voteValue) (C := RX5) (T := TX5) (N := 30) hx hb hts hi_5 hown hK hP 0 rfl rfl 7 (by decide) hf_26 (fun _ h9 => h9) rfl dX5_others_75 ?_
                  refine lv_bipush (v := 6) hx hb dX5_others_78 (by decide) ?_
                  refine lv_iload_n hx hb dX5_others_80 rfl (lv_at hl 2 rfl) ?_
                  refine lv_imul hx hb dX5_others_81 ?_
                  refine lv_topi (fun y_34 ey_34 => ?_)
                  have i_34 : y_34.toInt = 6 * i.toInt := ki_mul ey_34 rfl rfl (om_247 LP1_h0) (om_426 w_1.2.2.2 i_13)
                  refine lv_iload hx hb dX5_others_82 (lv_at hl 0 rfl) ?_
                  refine lv_iadd hx hb dX5_others_84 ?_
                  refine lv_topi (fun y_35 ey_35 => ?_)
                  have i_35 : y_35.toInt = y_34.toInt + j.toInt := ki_add ey_35 rfl rfl (om_251 LP1_h0 LP2_h0 i_34) (om_427 w_1.2.2.2 i_13 j_19 i_21.2 i_22 i_34)
                  refine va_iald hx hb hK hP 5 0 rfl rfl (ki_in (om_253 LP1_h0 LP2_h0 i_34 i_35) (om_428 w_1.2.2.2 i_13 j_19 i_21.2 i_22 i_34 i_35)) dX5_others_85 ?_
                  refine lv_topi (fun y_36 ey_36 => ?_)
                  have j_36 : y_36.toInt = (o_7 y_35.toNatClampNeg).toInt := congrArg Int32.toInt ey_36
                  refine lv_aload_n hx hb dX5_others_86 rfl (lv_at hl 4 rfl) ?_
                  refine va_get (D := (dC, dI)) (ci := 5) (v := .ref g_wasValue) (C := RX5) (T := TX5) (N := 30) hx hb hts hi_5 hown hK hP 0 rfl rfl 19 (by decide) hf_53 (fun _ h9 => h9) rfl dX5_others_87 ?_
                  refine lv_bipush (v := 6) hx hb dX5_others_90 (by decide) ?_
                  refine lv_iload_n hx hb dX5_others_92 rfl (lv_at hl 2 rfl) ?_
                  refine lv_imul hx hb dX5_others_93 ?_
                  refine lv_topi (fun y_37 ey_37 => ?_)
                  have i_37 : y_37.toInt = 6 * i.toInt := ki_mul ey_37 rfl rfl (om_247 LP1_h0) (om_426 w_1.2.2.2 i_13)
                  refine lv_iload hx hb dX5_others_94 (lv_at hl 0 rfl) ?_
                  refine lv_iadd hx hb dX5_others_96 ?_
                  refine lv_topi (fun y_38 ey_38 => ?_)
                  have i_38 : y_38.toInt = y_37.toInt + j.toInt := ki_add ey_38 rfl rfl (om_251 LP1_h0 LP2_h0 i_37) (om_427 w_1.2.2.2 i_13 j_19 i_21.2 i_22 i_37)
                  refine va_iald hx hb hK hP 13 0 rfl rfl (ki_in (om_253 LP1_h0 LP2_h0 i_37 i_38) (om_429 w_1.2.2.2 i_13 j_19 i_21.2 i_22 i_37 i_38)) dX5_others_97 ?_
                  refine lv_topi (fun y_39 ey_39 => ?_)
                  have j_39 : y_39.toInt = (wv y_38.toNatClampNeg).toInt := congrArg Int32.toInt ey_39
                  refine lv_icmp_ne (tgt := 132) hx hb dX5_others_98 (by decide) (fun c_40 => ?_) (fun c_40 => ?_)
                  · have i_40 : ¬ y_36.toInt = y_39.toInt := kc_ne c_40
                    refine lv_iconst (v := 0) hx hb dX5_others_132 (by decide) ?_
                    refine lv_istore_n (lv' := [(3, .int 0), (4, .int j), (2, .int i), (1, .int sm), (0, .ref h0)]) hx hb dX5_others_133 rfl hl (by decide) rfl (fun ls hl => ?_)
                    obtain ⟨x_41, ex_41⟩ : ∃ y : Int32, y = j + 1 := ⟨_, rfl⟩
                    have i_41 : x_41.toInt = j.toInt + 1 := ki_add ex_41 rfl rfl (om_13 LP2_h0) (om_101 j_19 i_21.2 i_22)
                    refine lv_iinc (v := x_41) (lv' := [(4, .int x_41), (3, .int 0), (2, .int i), (1, .int sm), (0, .ref h0)]) hx hb dX5_others_134 hl (k := 1) rfl (by rw [ex_41]; rfl) (by decide) rfl (fun ls hl => ?_)
                    refine lv_goto (tgt := 59) hx hb dX5_others_137 (by decide) ?_
                    have k_42 : (0 : Int32).toInt = 0 := rfl
                    exact ih2 x_41 0 (om_34 LP2_h0 i_41) (om_mu hn2 (om_102 i_41) (om_103 j_19 i_21.2 i_22)) _ _ hP hD hS ls (lv_sub hl [0, 1, 2, 3, 4] rfl)
                  · have i_40 : y_36.toInt = y_39.toInt := kc_eq c_40
                    refine lv_aload_n hx hb dX5_others_101 rfl (lv_at hl 4 rfl) ?_
                    refine va_get (D := (dC, dI)) (ci := 5) (v := .ref g_voteNumber) (C := RX5) (T := TX5) (N := 30) hx hb hts hi_5 hown hK hP 0 rfl rfl 8 (by decide) hf_29 (fun _ h9 => h9) rfl dX5_others_102 ?_
                    refine lv_bipush (v := 6) hx hb dX5_others_105 (by decide) ?_
                    refine lv_iload_n hx hb dX5_others_107 rfl (lv_at hl 2 rfl) ?_
                    refine lv_imul hx hb dX5_others_108 ?_
                    refine lv_topi (fun y_43 ey_43 => ?_)
                    have i_43 : y_43.toInt = 6 * i.toInt := ki_mul ey_43 rfl rfl (om_247 LP1_h0) (om_426 w_1.2.2.2 i_13)
                    refine lv_iload hx hb dX5_others_109 (lv_at hl 0 rfl) ?_
                    refine lv_iadd hx hb dX5_others_111 ?_
                    refine lv_topi (fun y_44 ey_44 => ?_)
                    have i_44 : y_44.toInt = y_43.toInt + j.toInt := ki_add ey_44 rfl rfl (om_251 LP1_h0 LP2_h0 i_43) (om_427 w_1.2.2.2 i_13 j_19 i_21.2 i_22 i_43)
                    refine va_iald hx hb hK hP 6 0 rfl rfl (ki_in (om_253 LP1_h0 LP2_h0 i_43 i_44) (om_428 w_1.2.2.2 i_13 j_19 i_21.2 i_22 i_43 i_44)) dX5_others_112 ?_
                    refine lv_topi (fun y_45 ey_45 => ?_)
                    have j_45 : y_45.toInt = (o_8 y_44.toNatClampNeg).toInt := congrArg Int32.toInt ey_45
                    refine lv_aload_n hx hb dX5_others_113 rfl (lv_at hl 4 rfl) ?_
                    refine va_get (D := (dC, dI)) (ci := 5) (v := .ref g_wasNumber) (C := RX5) (T := TX5) (N := 30) hx hb hts hi_5 hown hK hP 0 rfl rfl 20 (by decide) hf_56 (fun _ h9 => h9) rfl dX5_others_114 ?_
                    refine lv_bipush (v := 6) hx hb dX5_others_117 (by decide) ?_
                    refine lv_iload_n hx hb dX5_others_119 rfl (lv_at hl 2 rfl) ?_
                    refine lv_imul hx hb dX5_others_120 ?_
                    refine lv_topi (fun y_46 ey_46 => ?_)
                    have i_46 : y_46.toInt = 6 * i.toInt := ki_mul ey_46 rfl rfl (om_247 LP1_h0) (om_426 w_1.2.2.2 i_13)
                    refine lv_iload hx hb dX5_others_121 (lv_at hl 0 rfl) ?_
                    refine lv_iadd hx hb dX5_others_123 ?_
                    refine lv_topi (fun y_47 ey_47 => ?_)
                    have i_47 : y_47.toInt = y_46.toInt + j.toInt := ki_add ey_47 rfl rfl (om_251 LP1_h0 LP2_h0 i_46) (om_427 w_1.2.2.2 i_13 j_19 i_21.2 i_22 i_46)
                    refine va_iald hx hb hK hP 14 0 rfl rfl (ki_in (om_253 LP1_h0 LP2_h0 i_46 i_47) (om_429 w_1.2.2.2 i_13 j_19 i_21.2 i_22 i_46 i_47)) dX5_others_124 ?_
                    refine lv_topi (fun y_48 ey_48 => ?_)
                    have j_48 : y_48.toInt = (wn y_47.toNatClampNeg).toInt := congrArg Int32.toInt ey_48
                    refine lv_icmp_ne (tgt := 132) hx hb dX5_others_125 (by decide) (fun c_49 => ?_) (fun c_49 => ?_)
                    · have i_49 : ¬ y_45.toInt = y_48.toInt := kc_ne c_49
                      refine lv_iconst (v := 0) hx hb dX5_others_132 (by decide) ?_
                      refine lv_istore_n (lv' := [(3, .int 0), (4, .int j), (2, .int i), (1, .int sm), (0, .ref h0)]) hx hb dX5_others_133 rfl hl (by decide) rfl (fun ls hl => ?_)
                      obtain ⟨x_50, ex_50⟩ : ∃ y : Int32, y = j + 1 := ⟨_, rfl⟩
                      have i_50 : x_50.toInt = j.toInt + 1 := ki_add ex_50 rfl rfl (om_13 LP2_h0) (om_101 j_19 i_21.2 i_22)
                      refine lv_iinc (v := x_50) (lv' := [(4, .int x_50), (3, .int 0), (2, .int i), (1, .int sm), (0, .ref h0)]) hx hb dX5_others_134 hl (k := 1) rfl (by rw [ex_50]; rfl) (by decide) rfl (fun ls hl => ?_)
                      refine lv_goto (tgt := 59) hx hb dX5_others_137 (by decide) ?_
                      have k_51 : (0 : Int32).toInt = 0 := rfl
                      exact ih2 x_50 0 (om_34 LP2_h0 i_50) (om_mu hn2 (om_102 i_50) (om_103 j_19 i_21.2 i_22)) _ _ hP hD hS ls (lv_sub hl [0, 1, 2, 3, 4] rfl)
                    · have i_49 : y_45.toInt = y_48.toInt := kc_eq c_49
                      refine lv_iconst (v := 1) hx hb dX5_others_128 (by decide) ?_
                      refine lv_goto (tgt := 133) hx hb dX5_others_129 (by decide) ?_
                      refine lv_istore_n (lv' := [(3, .int 1), (4, .int j), (2, .int i), (1, .int sm), (0, .ref h0)]) hx hb dX5_others_133 rfl hl (by decide) rfl (fun ls hl => ?_)
                      obtain ⟨x_52, ex_52⟩ : ∃ y : Int32, y = j + 1 := ⟨_, rfl⟩
                      have i_52 : x_52.toInt = j.toInt + 1 := ki_add ex_52 rfl rfl (om_13 LP2_h0) (om_101 j_19 i_21.2 i_22)
                      refine lv_iinc (v := x_52) (lv' := [(4, .int x_52), (3, .int 1), (2, .int i), (1, .int sm), (0, .ref h0)]) hx hb dX5_others_134 hl (k := 1) rfl (by rw [ex_52]; rfl) (by decide) rfl (fun ls hl => ?_)
                      refine lv_goto (tgt := 59) hx hb dX5_others_137 (by decide) ?_
                      have k_53 : (1 : Int32).toInt = 1 := rfl
                      exact ih2 x_52 1 (om_34 LP2_h0 i_52) (om_mu hn2 (om_102 i_52) (om_103 j_19 i_21.2 i_22)) _ _ hP hD hS ls (lv_sub hl [0, 1, 2, 3, 4] rfl)
          have k_54 : (0 : Int32).toInt = 0 := rfl
          have k_55 : (0 : Int32).toInt = 0 := rfl
          exact LP2 ((6 - 0 : Int).toNat + 1) 0 0 om_35 (Nat.lt_succ_self _) _ _ hP hD hS ls (lv_sub hl [0, 1, 2, 3, 4] rfl)
        · have i_18 : y_14.toInt = y_17.toInt := kc_eq c_18
          refine lv_aload_n hx hb dX5_others_35 rfl (lv_at hl 2 rfl) ?_
          refine va_get (D := (dC, dI)) (ci := 5) (v := .ref g_loss) (C := RX5) (T := TX5) (N := 30) hx hb hts hi_5 hown hK hP 0 rfl rfl 5 (by decide) hf_20 (fun _ h9 => h9) rfl dX5_others_36 ?_
          refine lv_iload_n hx hb dX5_others_39 rfl (lv_at hl 0 rfl) ?_
          refine va_iald hx hb hK hP 3 0 rfl rfl (ki_in (om_10 LP1_h0) (om_424 w_1.2.2.2 i_13)) dX5_others_40 ?_
          refine lv_topi (fun y_56 ey_56 => ?_)
          have j_56 : y_56.toInt = (o_5 i.toNatClampNeg).toInt := congrArg Int32.toInt ey_56
          refine lv_aload_n hx hb dX5_others_41 rfl (lv_at hl 2 rfl) ?_
          refine va_get (D := (dC, dI)) (ci := 5) (v := .ref g_wasLoss) (C := RX5) (T := TX5) (N := 30) hx hb hts hi_5 hown hK hP 0 rfl rfl 18 (by decide) hf_50 (fun _ h9 => h9) rfl dX5_others_42 ?_
          refine lv_iload_n hx hb dX5_others_45 rfl (lv_at hl 0 rfl) ?_
          refine va_iald hx hb hK hP 12 0 rfl rfl (ki_in (om_10 LP1_h0) (om_425 w_1.2.2.2 i_13)) dX5_others_46 ?_
          refine lv_topi (fun y_57 ey_57 => ?_)
          have j_57 : y_57.toInt = (wl i.toNatClampNeg).toInt := congrArg Int32.toInt ey_57
          refine lv_icmp_ne (tgt := 54) hx hb dX5_others_47 (by decide) (fun c_58 => ?_) (fun c_58 => ?_)
          · have i_58 : ¬ y_56.toInt = y_57.toInt := kc_ne c_58
            refine lv_iconst (v := 0) hx hb dX5_others_54 (by decide) ?_
            refine lv_istore_n (lv' := [(3, .int 0), (2, .int i), (1, .int sm), (0, .ref h0)]) hx hb dX5_others_55 rfl hl (by decide) rfl (fun ls hl => ?_)
            refine lv_iconst (v := 0) hx hb dX5_others_56 (by decide) ?_
            refine lv_istore (lv' := [(4, .int 0), (3, .int 0), (2, .int i), (1, .int sm), (0, .ref h0)]) hx hb dX5_others_57 hl (by decide) rfl (fun ls hl => ?_)
            have LP3 : ∀ (n : Nat) (j : Int32) (is : Int32), (0 ≤ j.toInt) → (6 - j.toInt).toNat < n → ∀ (H : Heap) (locs : List Loc), va_P (dC, dI) vwCl [kx_5 h0 g_row m_n m_slots m_thrown g_many g_loss g_less g_voteValue g_voteNumber g_allValue g_allNumber o_3 g_nodeL g_nodeR o_2 g_part m_partMany g_wasMany g_wasLoss g_wasValue g_wasNumber g_path m_pathMany g_heavyValue g_heavyTimes m_heavyMany g_fewest g_which g_met m_mostMet, kx_a g_row cyI 160 f, kx_a g_many cyI 324 o_4, kx_a g_loss cyI 324 o_5, kx_a g_less cyI 324 o_6, kx_a g_voteValue cyI 1944 o_7, kx_a g_voteNumber cyI 1944 o_8, kx_a g_allValue cyI 12 o_9, kx_a g_allNumber cyI 12 o_10, kx_a g_nodeL cyI 320 o_11, kx_a g_nodeR cyI 320 o_12, kx_a g_wasMany cyI 320 wm, kx_a g_wasLoss cyI 320 wl, kx_a g_wasValue cyI 1920 wv, kx_a g_wasNumber cyI 1920 wn] H → va_D A [kx_5 h0 g_row m_n m_slots m_thrown g_many g_loss g_less g_voteValue g_voteNumber g_allValue g_allNumber o_3 g_nodeL g_nodeR o_2 g_part m_partMany g_wasMany g_wasLoss g_wasValue g_wasNumber g_path m_pathMany g_heavyValue g_heavyTimes m_heavyMany g_fewest g_which g_met m_mostMet, kx_a g_row cyI 160 f, kx_a g_many cyI 324 o_4, kx_a g_loss cyI 324 o_5, kx_a g_less cyI 324 o_6, kx_a g_voteValue cyI 1944 o_7, kx_a g_voteNumber cyI 1944 o_8, kx_a g_allValue cyI 12 o_9, kx_a g_allNumber cyI 12 o_10, kx_a g_nodeL cyI 320 o_11, kx_a g_nodeR cyI 320 o_12, kx_a g_wasMany cyI 320 wm, kx_a g_wasLoss cyI 320 wl, kx_a g_wasValue cyI 1920 wv, kx_a g_wasNumber cyI 1920 wn] → va_S A s.heap H locs → ∀ (ls : Array Slot), lv_has ls 5 [(4, .int j), (3, .int is), (2, .int i), (1, .int sm), (0, .ref h0)] → W p l e (headSpec wsX5_others ({ frames := 12, cells := 0, slots := 0, locals := 540 })).room s m ([.ref h0] : List Value).toArray below meth c H locs 0 0 (MQ below (va_Qi (fun (r : Int32) (u : Int32 × Int32 × (Nat → Int32) × (Nat → Int32) × (Nat → Int32) × (Nat → Int32) × (Nat → Int32) × (Nat → Int32) × (Nat → Int32) × (Nat → Int32) × (Nat → Int32)) => six4 u.2.2.1) (fun (u : Int32 × Int32 × (Nat → Int32) × (Nat → Int32) × (Nat → Int32) × (Nat → Int32) × (Nat → Int32) × (Nat → Int32) × (Nat → Int32) × (Nat → Int32) × (Nat → Int32)) (t : State) => va_P (dC, dI) vwCl [kx_5 h0 g_row m_n m_slots m_thrown g_many g_loss g_less g_voteValue g_voteNumber g_allValue g_allNumber u.2.1 g_nodeL g_nodeR u.1 g_part m_partMany g_wasMany g_wasLoss g_wasValue g_wasNumber g_path m_pathMany g_heavyValue g_heavyTimes m_heavyMany g_fewest g_which g_met m_mostMet, kx_a g_row cyI 160 f, kx_a g_many cyI 324 u.2.2.1, kx_a g_loss cyI 324 u.2.2.2.1, kx_a g_less cyI 324 u.2.2.2.2.1, kx_a g_voteValue cyI 1944 u.2.2.2.2.2.1, kx_a g_voteNumber cyI 1944 u.2.2.2.2.2.2.1, kx_a g_allValue cyI 12 u.2.2.2.2.2.2.2.1, kx_a g_allNumber cyI 12 u.2.2.2.2.2.2.2.2.1, kx_a g_nodeL cyI 320 u.2.2.2.2.2.2.2.2.2.1, kx_a g_nodeR cyI 320 u.2.2.2.2.2.2.2.2.2.2, kx_a g_wasMany cyI 320 wm, kx_a g_wasLoss cyI 320 wl, kx_a g_wasValue cyI 1920 wv, kx_a g_wasNumber cyI 1920 wn] t.heap ∧ va_K (dC, dI) vwCl [(cyI, .int)] t ∧ va_D A [kx_5 h0 g_row m_n m_slots m_thrown g_many g_loss g_less g_voteValue g_voteNumber g_allValue g_allNumber u.2.1 g_nodeL g_nodeR u.1 g_part m_partMany g_wasMany g_wasLoss g_wasValue g_wasNumber g_path m_pathMany g_heavyValue g_heavyTimes m_heavyMany g_fewest g_which g_met m_mostMet, kx_a g_row cyI 160 f, kx_a g_many cyI 324 u.2.2.1, kx_a g_loss cyI 324 u.2.2.2.1, kx_a g_less cyI 324 u.2.2.2.2.1, kx_a g_voteValue cyI 1944 u.2.2.2.2.2.1, kx_a g_voteNumber cyI 1944 u.2.2.2.2.2.2.1, kx_a g_allValue cyI 12 u.2.2.2.2.2.2.2.1, kx_a g_allNumber cyI 12 u.2.2.2.2.2.2.2.2.1, kx_a g_nodeL cyI 320 u.2.2.2.2.2.2.2.2.2.1, kx_a g_nodeR cyI 320 u.2.2.2.2.2.2.2.2.2.2, kx_a g_wasMany cyI 320 wm, kx_a g_wasLoss cyI 320 wl, kx_a g_wasValue cyI 1920 wv, kx_a g_wasNumber cyI 1920 wn]) A) ([.ref h0] : List Value).toArray s 0 0 A) (F0 m 59 ls []) := by
              intro n
              induction n with
              | zero => intro j is LP3_h0 hn; exact absurd hn (Nat.not_lt_zero _)
              | succ n ih3 =>
                intro j is LP3_h0 hn3 H locs hP hD hS ls hl
                refine lv_iload hx hb dX5_others_59 (lv_at hl 0 rfl) ?_
                refine lv_aload_n hx hb dX5_others_61 rfl (lv_at hl 4 rfl) ?_
                refine va_get (D := (dC, dI)) (ci := 5) (v := .ref g_many) (C := RX5) (T := TX5) (N := 30) hx hb hts hi_5 hown hK hP 0 rfl rfl 4 (by decide) hf_17 (fun _ h9 => h9) rfl dX5_others_62 ?_
                refine lv_iload_n hx hb dX5_others_65 rfl (lv_at hl 2 rfl) ?_
                refine va_iald hx hb hK hP 2 0 rfl rfl (ki_in (om_10 LP1_h0) (om_424 w_1.2.2.2 i_13)) dX5_others_66 ?_
                refine lv_topi (fun y_59 ey_59 => ?_)
                have j_59 : y_59.toInt = (o_4 i.toNatClampNeg).toInt := congrArg Int32.toInt ey_59
                have n_60 : (i.toNatClampNeg : Int) = i.toInt := ki_nat _ rfl (om_10 LP1_h0)
                have i_61 := w_1.2.1 i.toNatClampNeg (om_ln n_60 (om_424 w_1.2.2.2 i_13))
                refine lv_icmp_ge (tgt := 140) hx hb dX5_others_67 (by decide) (fun c_62 => ?_) (fun c_62 => ?_)
                · have i_62 : y_59.toInt ≤ j.toInt := kc_le c_62
                  refine lv_iload_n hx hb dX5_others_140 rfl (lv_at hl 3 rfl) ?_
                  refine lv_iload_n hx hb dX5_others_141 rfl (lv_at hl 1 rfl) ?_
                  refine lv_if_eq (tgt := 149) hx hb dX5_others_142 (by decide) (fun c_63 => ?_) (fun c_63 => ?_)
                  · have i_63 : is.toInt = 0 := kc_eq c_63
                    refine lv_iconst (v := 1) hx hb dX5_others_149 (by decide) ?_
                    refine lv_iadd hx hb dX5_others_150 ?_
                    refine lv_topi (fun y_64 ey_64 => ?_)
                    refine lv_istore_n (lv' := [(1, .int y_64), (4, .int j), (3, .int is), (2, .int i), (0, .ref h0)]) hx hb dX5_others_151 rfl hl (by decide) rfl (fun ls hl => ?_)
                    obtain ⟨x_65, ex_65⟩ : ∃ y : Int32, y = i + 1 := ⟨_, rfl⟩
                    have i_65 : x_65.toInt = i.toInt + 1 := ki_add ex_65 rfl rfl (om_13 LP1_h0) (om_125 w_1.2.2.2 i_13)
                    refine lv_iinc (v := x_65) (lv' := [(2, .int x_65), (1, .int y_64), (4, .int j), (3, .int is), (0, .ref h0)]) hx hb dX5_others_152 hl (k := 3) rfl (by rw [ex_65]; rfl) (by decide) rfl (fun ls hl => ?_)
                    refine lv_goto (tgt := 12) hx hb dX5_others_155 (by decide) ?_
                    exact ih1 x_65 y_64 (om_34 LP1_h0 i_65) (om_mu hn1 (om_5 i_65) (om_6 i_13)) _ _ hP hD hS ls (lv_sub hl [0, 1, 4] rfl)
                  · have i_63 : ¬ is.toInt = 0 := kc_ne c_63
                    refine lv_iconst (v := 0) hx hb dX5_others_145 (by decide) ?_
                    refine lv_goto (tgt := 150) hx hb dX5_others_146 (by decide) ?_
                    refine lv_iadd hx hb dX5_others_150 ?_
                    refine lv_topi (fun y_66 ey_66 => ?_)
                    refine lv_istore_n (lv' := [(1, .int y_66), (4, .int j), (3, .int is), (2, .int i), (0, .ref h0)]) hx hb dX5_others_151 rfl hl (by decide) rfl (fun ls hl => ?_)
                    obtain ⟨x_67, ex_67⟩ : ∃ y : Int32, y = i + 1 := ⟨_, rfl⟩
                    have i_67 : x_67.toInt = i.toInt + 1 := ki_add ex_67 rfl rfl (om_13 LP1_h0) (om_125 w_1.2.2.2 i_13)
                    refine lv_iinc (v := x_67) (lv' := [(2, .int x_67), (1, .int y_66), (4, .int j), (3, .int is), (0, .ref h0)]) hx hb dX5_others_152 hl (k := 3) rfl (by rw [ex_67]; rfl) (by decide) rfl (fun ls hl => ?_)
                    refine lv_goto (tgt := 12) hx hb dX5_others_155 (by decide) ?_
                    exact ih1 x_67 y_66 (om_34 LP1_h0 i_67) (om_mu hn1 (om_5 i_67) (om_6 i_13)) _ _ hP hD hS ls (lv_sub hl [0, 1, 4] rfl)
                · have i_62 : j.toInt < y_59.toInt := kc_nle c_62
                  refine lv_iload_n hx hb dX5_others_70 rfl (lv_at hl 1 rfl) ?_
                  refine lv_if_eq (tgt := 140) hx hb dX5_others_71 (by decide) (fun c_68 => ?_) (fun c_68 => ?_)
                  · have i_68 : is.toInt = 0 := kc_eq c_68
                    refine lv_iload_n hx hb dX5_others_140 rfl (lv_at hl 3 rfl) ?_
                    refine lv_iload_n hx hb dX5_others_141 rfl (lv_at hl 1 rfl) ?_
                    refine lv_if_eq (tgt := 149) hx hb dX5_others_142 (by decide) (fun c_69 => ?_) (fun c_69 => ?_)
                    · have i_69 : is.toInt = 0 := kc_eq c_69
                      refine lv_iconst (v := 1) hx hb dX5_others_149 (by decide) ?_
                      refine lv_iadd hx hb dX5_others_150 ?_
                      refine lv_topi (fun y_70 ey_70 => ?_)
                      refine lv_istore_n (lv' := [(1, .int y_70), (4, .int j), (3, .int is), (2, .int i), (0, .ref h0)]) hx hb dX5_others_151 rfl hl (by decide) rfl (fun ls hl => ?_)
                      obtain ⟨x_71, ex_71⟩ : ∃ y : Int32, y = i + 1 := ⟨_, rfl⟩
                      have i_71 : x_71.toInt = i.toInt + 1 := ki_add ex_71 rfl rfl (om_13 LP1_h0) (om_125 w_1.2.2.2 i_13)
                      refine lv_iinc (v := x_71) (lv' := [(2, .int x_71), (1, .int y_70), (4, .int j), (3, .int is), (0, .ref h0)]) hx hb dX5_others_152 hl (k := 3) rfl (by rw [ex_71]; rfl) (by decide) rfl (fun ls hl => ?_)
                      refine lv_goto (tgt := 12) hx hb dX5_others_155 (by decide) ?_
                      exact ih1 x_71 y_70 (om_34 LP1_h0 i_71) (om_mu hn1 (om_5 i_71) (om_6 i_13)) _ _ hP hD hS ls (lv_sub hl [0, 1, 4] rfl)
                    · have i_69 : ¬ is.toInt = 0 := kc_ne c_69
                      refine lv_iconst (v := 0) hx hb dX5_others_145 (by decide) ?_
                      refine lv_goto (tgt := 150) hx hb dX5_others_146 (by decide) ?_
                      refine lv_iadd hx hb dX5_others_150 ?_
                      refine lv_topi (fun y_72 ey_72 => ?_)
                      refine lv_istore_n (lv' := [(1, .int y_72), (4, .int j), (3, .int is), (2, .int i), (0, .ref h0)]) hx hb dX5_others_151 rfl hl (by decide) rfl (fun ls hl => ?_)
                      obtain ⟨x_73, ex_73⟩ : ∃ y : Int32, y = i + 1 := ⟨_, rfl⟩
                      have i_73 : x_73.toInt = i.toInt + 1 := ki_add ex_73 rfl rfl (om_13 LP1_h0) (om_125 w_1.2.2.2 i_13)
                      refine lv_iinc (v := x_73) (lv' := [(2, .int x_73), (1, .int y_72), (4, .int j), (3, .int is), (0, .ref h0)]) hx hb dX5_others_152 hl (k := 3) rfl (by rw [ex_73]; rfl) (by decide) rfl (fun ls hl => ?_)
                      refine lv_goto (tgt := 12) hx hb dX5_others_155 (by decide) ?_
                      exact ih1 x_73 y_72 (om_34 LP1_h0 i_73) (om_mu hn1 (om_5 i_73) (om_6 i_13)) _ _ hP hD hS ls (lv_sub hl [0, 1, 4] rfl)
                  · have i_68 : ¬ is.toInt = 0 := kc_ne c_68
                    refine lv_aload_n hx hb dX5_others_74 rfl (lv_at hl 4 rfl) ?_
                    refine va_get (D := (dC, dI)) (ci := 5) (v := .ref g_voteValue) (C := RX5) (T := TX5) (N := 30) hx hb hts hi_5 hown hK hP 0 rfl rfl 7 (by decide) hf_26 (fun _ h9 => h9) rfl dX5_others_75 ?_
                    refine lv_bipush (v := 6) hx hb dX5_others_78 (by decide) ?_
                    refine lv_iload_n hx hb dX5_others_80 rfl (lv_at hl 2 rfl) ?_
                    refine lv_imul hx hb dX5_others_81 ?_
                    refine lv_topi (fun y_74 ey_74 => ?_)
                    have i_74 : y_74.toInt = 6 * i.toInt := ki_mul ey_74 rfl rfl (om_247 LP1_h0) (om_426 w_1.2.2.2 i_13)
                    refine lv_iload hx hb dX5_others_82 (lv_at hl 0 rfl) ?_
                    refine lv_iadd hx hb dX5_others_84 ?_
                    refine lv_topi (fun y_75 ey_75 => ?_)
                    have i_75 : y_75.toInt = y_74.toInt + j.toInt := ki_add ey_75 rfl rfl (om_251 LP1_h0 LP3_h0 i_74) (om_427 w_1.2.2.2 i_13 j_59 i_61.2 i_62 i_74)
                    refine va_iald hx hb hK hP 5 0 rfl rfl (ki_in (om_253 LP1_h0 LP3_h0 i_74 i_75) (om_428 w_1.2.2.2 i_13 j_59 i_61.2 i_62 i_74 i_75)) dX5_others_85 ?_
                    refine lv_topi (fun y_76 ey_76 => ?_)
                    have j_76 : y_76.toInt = (o_7 y_75.toNatClampNeg).toInt := congrArg Int32.toInt ey_76
                    refine lv_aload_n hx hb dX5_others_86 rfl (lv_at hl 4 rfl) ?_
                    refine va_get (D := (dC, dI)) (ci := 5) (v := .ref g_wasValue) (C := RX5) (T := TX5) (N := 30) hx hb hts hi_5 hown hK hP 0 rfl rfl 19 (by decide) hf_53 (fun _ h9 => h9) rfl dX5_others_87 ?_
                    refine lv_bipush (v := 6) hx hb dX5_others_90 (by decide) ?_
                    refine lv_iload_n hx hb dX5_others_92 rfl (lv_at hl 2 rfl) ?_
                    refine lv_imul hx hb dX5_others_93 ?_
                    refine lv_topi (fun y_77 ey_77 => ?_)
                    have i_77 : y_77.toInt = 6 * i.toInt := ki_mul ey_77 rfl rfl (om_247 LP1_h0) (om_426 w_1.2.2.2 i_13)
                    refine lv_iload hx hb dX5_others_94 (lv_at hl 0 rfl) ?_
                    refine lv_iadd hx hb dX5_others_96 ?_
                    refine lv_topi (fun y_78 ey_78 => ?_)
                    have i_78 : y_78.toInt = y_77.toInt + j.toInt := ki_add ey_78 rfl rfl (om_251 LP1_h0 LP3_h0 i_77) (om_427 w_1.2.2.2 i_13 j_59 i_61.2 i_62 i_77)
                    refine va_iald hx hb hK hP 13 0 rfl rfl (ki_in (om_253 LP1_h0 LP3_h0 i_77 i_78) (om_429 w_1.2.2.2 i_13 j_59 i_61.2 i_62 i_77 i_78)) dX5_others_97 ?_
                    refine lv_topi (fun y_79 ey_79 => ?_)
                    have j_79 : y_79.toInt = (wv y_78.toNatClampNeg).toInt := congrArg Int32.toInt ey_79
                    refine lv_icmp_ne (tgt := 132) hx hb dX5_others_98 (by decide) (fun c_80 => ?_) (fun c_80 => ?_)
                    · have i_80 : ¬ y_76.toInt = y_79.toInt := kc_ne c_80
                      refine lv_iconst (v := 0) hx hb dX5_others_132 (by decide) ?_
                      refine lv_istore_n (lv' := [(3, .int 0), (4, .int j), (2, .int i), (1, .int sm), (0, .ref h0)]) hx hb dX5_others_133 rfl hl (by decide) rfl (fun ls hl => ?_)
                      obtain ⟨x_81, ex_81⟩ : ∃ y : Int32, y = j + 1 := ⟨_, rfl⟩
                      have i_81 : x_81.toInt = j.toInt + 1 := ki_add ex_81 rfl rfl (om_13 LP3_h0) (om_101 j_59 i_61.2 i_62)
                      refine lv_iinc (v := x_81) (lv' := [(4, .int x_81), (3, .int 0), (2, .int i), (1, .int sm), (0, .ref h0)]) hx hb dX5_others_134 hl (k := 1) rfl (by rw [ex_81]; rfl) (by decide) rfl (fun ls hl => ?_)
                      refine lv_goto (tgt := 59) hx hb dX5_others_137 (by decide) ?_
                      have k_82 : (0 : Int32).toInt = 0 := rfl
                      exact ih3 x_81 0 (om_34 LP3_h0 i_81) (om_mu hn3 (om_102 i_81) (om_103 j_59 i_61.2 i_62)) _ _ hP hD hS ls (lv_sub hl [0, 1, 2, 3, 4] rfl)
                    · have i_80 : y_76.toInt = y_79.toInt := kc_eq c_80
                      refine lv_aload_n hx hb dX5_others_101 rfl (lv_at hl 4 rfl) ?_
                      refine va_get (D := (dC, dI)) (ci := 5) (v := .ref g_voteNumber) (C := RX5) (T := TX5) (N := 30) hx hb hts hi_5 hown hK hP 0 rfl rfl 8 (by decide) hf_29 (fun _ h9 => h9) rfl dX5_others_102 ?_
                      refine lv_bipush (v := 6) hx hb dX5_others_105 (by decide) ?_
                      refine lv_iload_n hx hb dX5_others_107 rfl (lv_at hl 2 rfl) ?_
                      refine lv_imul hx hb dX5_others_108 ?_
                      refine lv_topi (fun y_83 ey_83 => ?_)
                      have i_83 : y_83.toInt = 6 * i.toInt := ki_mul ey_83 rfl rfl (om_247 LP1_h0) (om_426 w_1.2.2.2 i_13)
                      refine lv_iload hx hb dX5_others_109 (lv_at hl 0 rfl) ?_
                      refine lv_iadd hx hb dX5_others_111 ?_
                      refine lv_topi (fun y_84 ey_84 => ?_)
                      have i_84 : y_84.toInt = y_83.toInt + j.toInt := ki_add ey_84 rfl rfl (om_251 LP1_h0 LP3_h0 i_83) (om_427 w_1.2.2.2 i_13 j_59 i_61.2 i_62 i_83)
                      refine va_iald hx hb hK hP 6 0 rfl rfl (ki_in (om_253 LP1_h0 LP3_h0 i_83 i_84) (om_428 w_1.2.2.2 i_13 j_59 i_61.2 i_62 i_83 i_84)) dX5_others_112 ?_
                      refine lv_topi (fun y_85 ey_85 => ?_)
                      have j_85 : y_85.toInt = (o_8 y_84.toNatClampNeg).toInt := congrArg Int32.toInt ey_85
                      refine lv_aload_n hx hb dX5_others_113 rfl (lv_at hl 4 rfl) ?_
                      refine va_get (D := (dC, dI)) (ci := 5) (v := .ref g_wasNumber) (C := RX5) (T := TX5) (N := 30) hx hb hts hi_5 hown hK hP 0 rfl rfl 20 (by decide) hf_56 (fun _ h9 => h9) rfl dX5_others_114 ?_
                      refine lv_bipush (v := 6) hx hb dX5_others_117 (by decide) ?_
                      refine lv_iload_n hx hb dX5_others_119 rfl (lv_at hl 2 rfl) ?_
                      refine lv_imul hx hb dX5_others_120 ?_
                      refine lv_topi (fun y_86 ey_86 => ?_)
                      have i_86 : y_86.toInt = 6 * i.toInt := ki_mul ey_86 rfl rfl (om_247 LP1_h0) (om_426 w_1.2.2.2 i_13)
                      refine lv_iload hx hb dX5_others_121 (lv_at hl 0 rfl) ?_
                      refine lv_iadd hx hb dX5_others_123 ?_
                      refine lv_topi (fun y_87 ey_87 => ?_)
                      have i_87 : y_87.toInt = y_86.toInt + j.toInt := ki_add ey_87 rfl rfl (om_251 LP1_h0 LP3_h0 i_86) (om_427 w_1.2.2.2 i_13 j_59 i_61.2 i_62 i_86)
                      refine va_iald hx hb hK hP 14 0 rfl rfl (ki_in (om_253 LP1_h0 LP3_h0 i_86 i_87) (om_429 w_1.2.2.2 i_13 j_59 i_61.2 i_62 i_86 i_87)) dX5_others_124 ?_
                      refine lv_topi (fun y_88 ey_88 => ?_)
                      have j_88 : y_88.toInt = (wn y_87.toNatClampNeg).toInt := congrArg Int32.toInt ey_88
                      refine lv_icmp_ne (tgt := 132) hx hb dX5_others_125 (by decide) (fun c_89 => ?_) (fun c_89 => ?_)
                      · have i_89 : ¬ y_85.toInt = y_88.toInt := kc_ne c_89
                        refine lv_iconst (v := 0) hx hb dX5_others_132 (by decide) ?_
                        refine lv_istore_n (lv' := [(3, .int 0), (4, .int j), (2, .int i), (1, .int sm), (0, .ref h0)]) hx hb dX5_others_133 rfl hl (by decide) rfl (fun ls hl => ?_)
                        obtain ⟨x_90, ex_90⟩ : ∃ y : Int32, y = j + 1 := ⟨_, rfl⟩
                        have i_90 : x_90.toInt = j.toInt + 1 := ki_add ex_90 rfl rfl (om_13 LP3_h0) (om_101 j_59 i_61.2 i_62)
                        refine lv_iinc (v := x_90) (lv' := [(4, .int x_90), (3, .int 0), (2, .int i), (1, .int sm), (0, .ref h0)]) hx hb dX5_others_134 hl (k := 1) rfl (by rw [ex_90]; rfl) (by decide) rfl (fun ls hl => ?_)
                        refine lv_goto (tgt := 59) hx hb dX5_others_137 (by decide) ?_
                        have k_91 : (0 : Int32).toInt = 0 := rfl
                        exact ih3 x_90 0 (om_34 LP3_h0 i_90) (om_mu hn3 (om_102 i_90) (om_103 j_59 i_61.2 i_62)) _ _ hP hD hS ls (lv_sub hl [0, 1, 2, 3, 4] rfl)
                      · have i_89 : y_85.toInt = y_88.toInt := kc_eq c_89
                        refine lv_iconst (v := 1) hx hb dX5_others_128 (by decide) ?_
                        refine lv_goto (tgt := 133) hx hb dX5_others_129 (by decide) ?_
                        refine lv_istore_n (lv' := [(3, .int 1), (4, .int j), (2, .int i), (1, .int sm), (0, .ref h0)]) hx hb dX5_others_133 rfl hl (by decide) rfl (fun ls hl => ?_)
                        obtain ⟨x_92, ex_92⟩ : ∃ y : Int32, y = j + 1 := ⟨_, rfl⟩
                        have i_92 : x_92.toInt = j.toInt + 1 := ki_add ex_92 rfl rfl (om_13 LP3_h0) (om_101 j_59 i_61.2 i_62)
                        refine lv_iinc (v := x_92) (lv' := [(4, .int x_92), (3, .int 1), (2, .int i), (1, .int sm), (0, .ref h0)]) hx hb dX5_others_134 hl (k := 1) rfl (by rw [ex_92]; rfl) (by decide) rfl (fun ls hl => ?_)
                        refine lv_goto (tgt := 59) hx hb dX5_others_137 (by decide) ?_
                        have k_93 : (1 : Int32).toInt = 1 := rfl
                        exact ih3 x_92 1 (om_34 LP3_h0 i_92) (om_mu hn3 (om_102 i_92) (om_103 j_59 i_61.2 i_62)) _ _ hP hD hS ls (lv_sub hl [0, 1, 2, 3, 4] rfl)
            have k_94 : (0 : Int32).toInt = 0 := rfl
            have k_95 : (0 : Int32).toInt = 0 := rfl
            exact LP3 ((6 - 0 : Int).toNat + 1) 0 0 om_35 (Nat.lt_succ_self _) _ _ hP hD hS ls (lv_sub hl [0, 1, 2, 3, 4] rfl)
          · have i_58 : y_56.toInt = y_57.toInt := kc_eq c_58
            refine lv_iconst (v := 1) hx hb dX5_others_50 (by decide) ?_
            refine lv_goto (tgt := 55) hx hb dX5_others_51 (by decide) ?_
            refine lv_istore_n (lv' := [(3, .int 1), (2, .int i), (1, .int sm), (0, .ref h0)]) hx hb dX5_others_55 rfl hl (by decide) rfl (fun ls hl => ?_)
            refine lv_iconst (v := 0) hx hb dX5_others_56 (by decide) ?_
            refine lv_istore (lv' := [(4, .int 0), (3, .int 1), (2, .int i), (1, .int sm), (0, .ref h0)]) hx hb dX5_others_57 hl (by decide) rfl (fun ls hl => ?_)
            have LP4 : ∀ (n : Nat) (j : Int32) (is : Int32), (0 ≤ j.toInt) → (6 - j.toInt).toNat < n → ∀ (H : Heap) (locs : List Loc), va_P (dC, dI) vwCl [kx_5 h0 g_row m_n m_slots m_thrown g_many g_loss g_less g_voteValue g_voteNumber g_allValue g_allNumber o_3 g_nodeL g_nodeR o_2 g_part m_partMany g_wasMany g_wasLoss g_wasValue g_wasNumber g_path m_pathMany g_heavyValue g_heavyTimes m_heavyMany g_fewest g_which g_met m_mostMet, kx_a g_row cyI 160 f, kx_a g_many cyI 324 o_4, kx_a g_loss cyI 324 o_5, kx_a g_less cyI 324 o_6, kx_a g_voteValue cyI 1944 o_7, kx_a g_voteNumber cyI 1944 o_8, kx_a g_allValue cyI 12 o_9, kx_a g_allNumber cyI 12 o_10, kx_a g_nodeL cyI 320 o_11, kx_a g_nodeR cyI 320 o_12, kx_a g_wasMany cyI 320 wm, kx_a g_wasLoss cyI 320 wl, kx_a g_wasValue cyI 1920 wv, kx_a g_wasNumber cyI 1920 wn] H → va_D A [kx_5 h0 g_row m_n m_slots m_thrown g_many g_loss g_less g_voteValue g_voteNumber g_allValue g_allNumber o_3 g_nodeL g_nodeR o_2 g_part m_partMany g_wasMany g_wasLoss g_wasValue g_wasNumber g_path m_pathMany g_heavyValue g_heavyTimes m_heavyMany g_fewest g_which g_met m_mostMet, kx_a g_row cyI 160 f, kx_a g_many cyI 324 o_4, kx_a g_loss cyI 324 o_5, kx_a g_less cyI 324 o_6, kx_a g_voteValue cyI 1944 o_7, kx_a g_voteNumber cyI 1944 o_8, kx_a g_allValue cyI 12 o_9, kx_a g_allNumber cyI 12 o_10, kx_a g_nodeL cyI 320 o_11, kx_a g_nodeR cyI 320 o_12, kx_a g_wasMany cyI 320 wm, kx_a g_wasLoss cyI 320 wl, kx_a g_wasValue cyI 1920 wv, kx_a g_wasNumber cyI 1920 wn] → va_S A s.heap H locs → ∀ (ls : Array Slot), lv_has ls 5 [(4, .int j), (3, .int is), (2, .int i), (1, .int sm), (0, .ref h0)] → W p l e (headSpec wsX5_others ({ frames := 12, cells := 0, slots := 0, locals := 540 })).room s m ([.ref h0] : List Value).toArray below meth c H locs 0 0 (MQ below (va_Qi (fun (r : Int32) (u : Int32 × Int32 × (Nat → Int32) × (Nat → Int32) × (Nat → Int32) × (Nat → Int32) × (Nat → Int32) × (Nat → Int32) × (Nat → Int32) × (Nat → Int32) × (Nat → Int32)) => six4 u.2.2.1) (fun (u : Int32 × Int32 × (Nat → Int32) × (Nat → Int32) × (Nat → Int32) × (Nat → Int32) × (Nat → Int32) × (Nat → Int32) × (Nat → Int32) × (Nat → Int32) × (Nat → Int32)) (t : State) => va_P (dC, dI) vwCl [kx_5 h0 g_row m_n m_slots m_thrown g_many g_loss g_less g_voteValue g_voteNumber g_allValue g_allNumber u.2.1 g_nodeL g_nodeR u.1 g_part m_partMany g_wasMany g_wasLoss g_wasValue g_wasNumber g_path m_pathMany g_heavyValue g_heavyTimes m_heavyMany g_fewest g_which g_met m_mostMet, kx_a g_row cyI 160 f, kx_a g_many cyI 324 u.2.2.1, kx_a g_loss cyI 324 u.2.2.2.1, kx_a g_less cyI 324 u.2.2.2.2.1, kx_a g_voteValue cyI 1944 u.2.2.2.2.2.1, kx_a g_voteNumber cyI 1944 u.2.2.2.2.2.2.1, kx_a g_allValue cyI 12 u.2.2.2.2.2.2.2.1, kx_a g_allNumber cyI 12 u.2.2.2.2.2.2.2.2.1, kx_a g_nodeL cyI 320 u.2.2.2.2.2.2.2.2.2.1, kx_a g_nodeR cyI 320 u.2.2.2.2.2.2.2.2.2.2, kx_a g_wasMany cyI 320 wm, kx_a g_wasLoss cyI 320 wl, kx_a g_wasValue cyI 1920 wv, kx_a g_wasNumber cyI 1920 wn] t.heap ∧ va_K (dC, dI) vwCl [(cyI, .int)] t ∧ va_D A [kx_5 h0 g_row m_n m_slots m_thrown g_many g_loss g_less g_voteValue g_voteNumber g_allValue g_allNumber u.2.1 g_nodeL g_nodeR u.1 g_part m_partMany g_wasMany g_wasLoss g_wasValue g_wasNumber g_path m_pathMany g_heavyValue g_heavyTimes m_heavyMany g_fewest g_which g_met m_mostMet, kx_a g_row cyI 160 f, kx_a g_many cyI 324 u.2.2.1, kx_a g_loss cyI 324 u.2.2.2.1, kx_a g_less cyI 324 u.2.2.2.2.1, kx_a g_voteValue cyI 1944 u.2.2.2.2.2.1, kx_a g_voteNumber cyI 1944 u.2.2.2.2.2.2.1, kx_a g_allValue cyI 12 u.2.2.2.2.2.2.2.1, kx_a g_allNumber cyI 12 u.2.2.2.2.2.2.2.2.1, kx_a g_nodeL cyI 320 u.2.2.2.2.2.2.2.2.2.1, kx_a g_nodeR cyI 320 u.2.2.2.2.2.2.2.2.2.2, kx_a g_wasMany cyI 320 wm, kx_a g_wasLoss cyI 320 wl, kx_a g_wasValue cyI 1920 wv, kx_a g_wasNumber cyI 1920 wn]) A) ([.ref h0] : List Value).toArray s 0 0 A) (F0 m 59 ls []) := by
              intro n
              induction n with
              | zero => intro j is LP4_h0 hn; exact absurd hn (Nat.not_lt_zero _)
              | succ n ih4 =>
                intro j is LP4_h0 hn4 H locs hP hD hS ls hl
                refine lv_iload hx hb dX5_others_59 (lv_at hl 0 rfl) ?_
                refine lv_aload_n hx hb dX5_others_61 rfl (lv_at hl 4 rfl) ?_
                refine va_get (D := (dC, dI)) (ci := 5) (v := .ref g_many) (C := RX5) (T := TX5) (N := 30) hx hb hts hi_5 hown hK hP 0 rfl rfl 4 (by decide) hf_17 (fun _ h9 => h9) rfl dX5_others_62 ?_
                refine lv_iload_n hx hb dX5_others_65 rfl (lv_at hl 2 rfl) ?_
                refine va_iald hx hb hK hP 2 0 rfl rfl (ki_in (om_10 LP1_h0) (om_424 w_1.2.2.2 i_13)) dX5_others_66 ?_
                refine lv_topi (fun y_96 ey_96 => ?_)
                have j_96 : y_96.toInt = (o_4 i.toNatClampNeg).toInt := congrArg Int32.toInt ey_96
                have n_97 : (i.toNatClampNeg : Int) = i.toInt := ki_nat _ rfl (om_10 LP1_h0)
                have i_98 := w_1.2.1 i.toNatClampNeg (om_ln n_97 (om_424 w_1.2.2.2 i_13))
                refine lv_icmp_ge (tgt := 140) hx hb dX5_others_67 (by decide) (fun c_99 => ?_) (fun c_99 => ?_)
                · have i_99 : y_96.toInt ≤ j.toInt := kc_le c_99
                  refine lv_iload_n hx hb dX5_others_140 rfl (lv_at hl 3 rfl) ?_
                  refine lv_iload_n hx hb dX5_others_141 rfl (lv_at hl 1 rfl) ?_
                  refine lv_if_eq (tgt := 149) hx hb dX5_others_142 (by decide) (fun c_100 => ?_) (fun c_100 => ?_)
                  · have i_100 : is.toInt = 0 := kc_eq c_100
                    refine lv_iconst (v := 1) hx hb dX5_others_149 (by decide) ?_
                    refine lv_iadd hx hb dX5_others_150 ?_
                    refine lv_topi (fun y_101 ey_101 => ?_)
                    refine lv_istore_n (lv' := [(1, .int y_101), (4, .int j), (3, .int is), (2, .int i), (0, .ref h0)]) hx hb dX5_others_151 rfl hl (by decide) rfl (fun ls hl => ?_)
                    obtain ⟨x_102, ex_102⟩ : ∃ y : Int32, y = i + 1 := ⟨_, rfl⟩
                    have i_102 : x_102.toInt = i.toInt + 1 := ki_add ex_102 rfl rfl (om_13 LP1_h0) (om_125 w_1.2.2.2 i_13)
                    refine lv_iinc (v := x_102) (lv' := [(2, .int x_102), (1, .int y_101), (4, .int j), (3, .int is), (0, .ref h0)]) hx hb dX5_others_152 hl (k := 3) rfl (by rw [ex_102]; rfl) (by decide) rfl (fun ls hl => ?_)
                    refine lv_goto (tgt := 12) hx hb dX5_others_155 (by decide) ?_
                    exact ih1 x_102 y_101 (om_34 LP1_h0 i_102) (om_mu hn1 (om_5 i_102) (om_6 i_13)) _ _ hP hD hS ls (lv_sub hl [0, 1, 4] rfl)
                  · have i_100 : ¬ is.toInt = 0 := kc_ne c_100
                    refine lv_iconst (v := 0) hx hb dX5_others_145 (by decide) ?_
                    refine lv_goto (tgt := 150) hx hb dX5_others_146 (by decide) ?_
                    refine lv_iadd hx hb dX5_others_150 ?_
                    refine lv_topi (fun y_103 ey_103 => ?_)
                    refine lv_istore_n (lv' := [(1, .int y_103), (4, .int j), (3, .int is), (2, .int i), (0, .ref h0)]) hx hb dX5_others_151 rfl hl (by decide) rfl (fun ls hl => ?_)
                    obtain ⟨x_104, ex_104⟩ : ∃ y : Int32, y = i + 1 := ⟨_, rfl⟩
                    have i_104 : x_104.toInt = i.toInt + 1 := ki_add ex_104 rfl rfl (om_13 LP1_h0) (om_125 w_1.2.2.2 i_13)
                    refine lv_iinc (v := x_104) (lv' := [(2, .int x_104), (1, .int y_103), (4, .int j), (3, .int is), (0, .ref h0)]) hx hb dX5_others_152 hl (k := 3) rfl (by rw [ex_104]; rfl) (by decide) rfl (fun ls hl => ?_)
                    refine lv_goto (tgt := 12) hx hb dX5_others_155 (by decide) ?_
                    exact ih1 x_104 y_103 (om_34 LP1_h0 i_104) (om_mu hn1 (om_5 i_104) (om_6 i_13)) _ _ hP hD hS ls (lv_sub hl [0, 1, 4] rfl)
                · have i_99 : j.toInt < y_96.toInt := kc_nle c_99
                  refine lv_iload_n hx hb dX5_others_70 rfl (lv_at hl 1 rfl) ?_
                  refine lv_if_eq (tgt := 140) hx hb dX5_others_71 (by decide) (fun c_105 => ?_) (fun c_105 => ?_)
                  · have i_105 : is.toInt = 0 := kc_eq c_105
                    refine lv_iload_n hx hb dX5_others_140 rfl (lv_at hl 3 rfl) ?_
                    refine lv_iload_n hx hb dX5_others_141 rfl (lv_at hl 1 rfl) ?_
                    refine lv_if_eq (tgt := 149) hx hb dX5_others_142 (by decide) (fun c_106 => ?_) (fun c_106 => ?_)
                    · have i_106 : is.toInt = 0 := kc_eq c_106
                      refine lv_iconst (v := 1) hx hb dX5_others_149 (by decide) ?_
                      refine lv_iadd hx hb dX5_others_150 ?_
                      refine lv_topi (fun y_107 ey_107 => ?_)
                      refine lv_istore_n (lv' := [(1, .int y_107), (4, .int j), (3, .int is), (2, .int i), (0, .ref h0)]) hx hb dX5_others_151 rfl hl (by decide) rfl (fun ls hl => ?_)
                      obtain ⟨x_108, ex_108⟩ : ∃ y : Int32, y = i + 1 := ⟨_, rfl⟩
                      have i_108 : x_108.toInt = i.toInt + 1 := ki_add ex_108 rfl rfl (om_13 LP1_h0) (om_125 w_1.2.2.2 i_13)
                      refine lv_iinc (v := x_108) (lv' := [(2, .int x_108), (1, .int y_107), (4, .int j), (3, .int is), (0, .ref h0)]) hx hb dX5_others_152 hl (k := 3) rfl (by rw [ex_108]; rfl) (by decide) rfl (fun ls hl => ?_)
                      refine lv_goto (tgt := 12) hx hb dX5_others_155 (by decide) ?_
                      exact ih1 x_108 y_107 (om_34 LP1_h0 i_108) (om_mu hn1 (om_5 i_108) (om_6 i_13)) _ _ hP hD hS ls (lv_sub hl [0, 1, 4] rfl)
                    · have i_106 : ¬ is.toInt = 0 := kc_ne c_106
                      refine lv_iconst (v := 0) hx hb dX5_others_145 (by decide) ?_
                      refine lv_goto (tgt := 150) hx hb dX5_others_146 (by decide) ?_
                      refine lv_iadd hx hb dX5_others_150 ?_
                      refine lv_topi (fun y_109 ey_109 => ?_)
                      refine lv_istore_n (lv' := [(1, .int y_109), (4, .int j), (3, .int is), (2, .int i), (0, .ref h0)]) hx hb dX5_others_151 rfl hl (by decide) rfl (fun ls hl => ?_)
                      obtain ⟨x_110, ex_110⟩ : ∃ y : Int32, y = i + 1 := ⟨_, rfl⟩
                      have i_110 : x_110.toInt = i.toInt + 1 := ki_add ex_110 rfl rfl (om_13 LP1_h0) (om_125 w_1.2.2.2 i_13)
                      refine lv_iinc (v := x_110) (lv' := [(2, .int x_110), (1, .int y_109), (4, .int j), (3, .int is), (0, .ref h0)]) hx hb dX5_others_152 hl (k := 3) rfl (by rw [ex_110]; rfl) (by decide) rfl (fun ls hl => ?_)
                      refine lv_goto (tgt := 12) hx hb dX5_others_155 (by decide) ?_
                      exact ih1 x_110 y_109 (om_34 LP1_h0 i_110) (om_mu hn1 (om_5 i_110) (om_6 i_13)) _ _ hP hD hS ls (lv_sub hl [0, 1, 4] rfl)
                  · have i_105 : ¬ is.toInt = 0 := kc_ne c_105
                    refine lv_aload_n hx hb dX5_others_74 rfl (lv_at hl 4 rfl) ?_
                    refine va_get (D := (dC, dI)) (ci := 5) (v := .ref g_voteValue) (C := RX5) (T := TX5) (N := 30) hx hb hts hi_5 hown hK hP 0 rfl rfl 7 (by decide) hf_26 (fun _ h9 => h9) rfl dX5_others_75 ?_
                    refine lv_bipush (v := 6) hx hb dX5_others_78 (by decide) ?_
                    refine lv_iload_n hx hb dX5_others_80 rfl (lv_at hl 2 rfl) ?_
                    refine lv_imul hx hb dX5_others_81 ?_
                    refine lv_topi (fun y_111 ey_111 => ?_)
                    have i_111 : y_111.toInt = 6 * i.toInt := ki_mul ey_111 rfl rfl (om_247 LP1_h0) (om_426 w_1.2.2.2 i_13)
                    refine lv_iload hx hb dX5_others_82 (lv_at hl 0 rfl) ?_
                    refine lv_iadd hx hb dX5_others_84 ?_
                    refine lv_topi (fun y_112 ey_112 => ?_)
                    have i_112 : y_112.toInt = y_111.toInt + j.toInt := ki_add ey_112 rfl rfl (om_251 LP1_h0 LP4_h0 i_111) (om_427 w_1.2.2.2 i_13 j_96 i_98.2 i_99 i_111)
                    refine va_iald hx hb hK hP 5 0 rfl rfl (ki_in (om_253 LP1_h0 LP4_h0 i_111 i_112) (om_428 w_1.2.2.2 i_13 j_96 i_98.2 i_99 i_111 i_112)) dX5_others_85 ?_
                    refine lv_topi (fun y_113 ey_113 => ?_)
                    have j_113 : y_113.toInt = (o_7 y_112.toNatClampNeg).toInt := congrArg Int32.toInt ey_113
                    refine lv_aload_n hx hb dX5_others_86 rfl (lv_at hl 4 rfl) ?_
                    refine va_get (D := (dC, dI)) (ci := 5) (v := .ref g_wasValue) (C := RX5) (T := TX5) (N := 30) hx hb hts hi_5 hown hK hP 0 rfl rfl 19 (by decide) hf_53 (fun _ h9 => h9) rfl dX5_others_87 ?_
                    refine lv_bipush (v := 6) hx hb dX5_others_90 (by decide) ?_
                    refine lv_iload_n hx hb dX5_others_92 rfl (lv_at hl 2 rfl) ?_
                    refine lv_imul hx hb dX5_others_93 ?_
                    refine lv_topi (fun y_114 ey_114 => ?_)
                    have i_114 : y_114.toInt = 6 * i.toInt := ki_mul ey_114 rfl rfl (om_247 LP1_h0) (om_426 w_1.2.2.2 i_13)
                    refine lv_iload hx hb dX5_others_94 (lv_at hl 0 rfl) ?_
                    refine lv_iadd hx hb dX5_others_96 ?_
                    refine lv_topi (fun y_115 ey_115 => ?_)
                    have i_115 : y_115.toInt = y_114.toInt + j.toInt := ki_add ey_115 rfl rfl (om_251 LP1_h0 LP4_h0 i_114) (om_427 w_1.2.2.2 i_13 j_96 i_98.2 i_99 i_114)
                    refine va_iald hx hb hK hP 13 0 rfl rfl (ki_in (om_253 LP1_h0 LP4_h0 i_114 i_115) (om_429 w_1.2.2.2 i_13 j_96 i_98.2 i_99 i_114 i_115)) dX5_others_97 ?_
                    refine lv_topi (fun y_116 ey_116 => ?_)
                    have j_116 : y_116.toInt = (wv y_115.toNatClampNeg).toInt := congrArg Int32.toInt ey_116
                    refine lv_icmp_ne (tgt := 132) hx hb dX5_others_98 (by decide) (fun c_117 => ?_) (fun c_117 => ?_)
                    · have i_117 : ¬ y_113.toInt = y_116.toInt := kc_ne c_117
                      refine lv_iconst (v := 0) hx hb dX5_others_132 (by decide) ?_
                      refine lv_istore_n (lv' := [(3, .int 0), (4, .int j), (2, .int i), (1, .int sm), (0, .ref h0)]) hx hb dX5_others_133 rfl hl (by decide) rfl (fun ls hl => ?_)
                      obtain ⟨x_118, ex_118⟩ : ∃ y : Int32, y = j + 1 := ⟨_, rfl⟩
                      have i_118 : x_118.toInt = j.toInt + 1 := ki_add ex_118 rfl rfl (om_13 LP4_h0) (om_101 j_96 i_98.2 i_99)
                      refine lv_iinc (v := x_118) (lv' := [(4, .int x_118), (3, .int 0), (2, .int i), (1, .int sm), (0, .ref h0)]) hx hb dX5_others_134 hl (k := 1) rfl (by rw [ex_118]; rfl) (by decide) rfl (fun ls hl => ?_)
                      refine lv_goto (tgt := 59) hx hb dX5_others_137 (by decide) ?_
                      have k_119 : (0 : Int32).toInt = 0 := rfl
                      exact ih4 x_118 0 (om_34 LP4_h0 i_118) (om_mu hn4 (om_102 i_118) (om_103 j_96 i_98.2 i_99)) _ _ hP hD hS ls (lv_sub hl [0, 1, 2, 3, 4] rfl)
                    · have i_117 : y_113.toInt = y_116.toInt := kc_eq c_117
                      refine lv_aload_n hx hb dX5_others_101 rfl (lv_at hl 4 rfl) ?_
                      refine va_get (D := (dC, dI)) (ci := 5) (v := .ref g_voteNumber) (C := RX5) (T := TX5) (N := 30) hx hb hts hi_5 hown hK hP 0 rfl rfl 8 (by decide) hf_29 (fun _ h9 => h9) rfl dX5_others_102 ?_
                      refine lv_bipush (v := 6) hx hb dX5_others_105 (by decide) ?_
                      refine lv_iload_n hx hb dX5_others_107 rfl (lv_at hl 2 rfl) ?_
                      refine lv_imul hx hb dX5_others_108 ?_
                      refine lv_topi (fun y_120 ey_120 => ?_)
                      have i_120 : y_120.toInt = 6 * i.toInt := ki_mul ey_120 rfl rfl (om_247 LP1_h0) (om_426 w_1.2.2.2 i_13)
                      refine lv_iload hx hb dX5_others_109 (lv_at hl 0 rfl) ?_
                      refine lv_iadd hx hb dX5_others_111 ?_
                      refine lv_topi (fun y_121 ey_121 => ?_)
                      have i_121 : y_121.toInt = y_120.toInt + j.toInt := ki_add ey_121 rfl rfl (om_251 LP1_h0 LP4_h0 i_120) (om_427 w_1.2.2.2 i_13 j_96 i_98.2 i_99 i_120)
                      refine va_iald hx hb hK hP 6 0 rfl rfl (ki_in (om_253 LP1_h0 LP4_h0 i_120 i_121) (om_428 w_1.2.2.2 i_13 j_96 i_98.2 i_99 i_120 i_121)) dX5_others_112 ?_
                      refine lv_topi (fun y_122 ey_122 => ?_)
                      have j_122 : y_122.toInt = (o_8 y_121.toNatClampNeg).toInt := congrArg Int32.toInt ey_122
                      refine lv_aload_n hx hb dX5_others_113 rfl (lv_at hl 4 rfl) ?_
                      refine va_get (D := (dC, dI)) (ci := 5) (v := .ref g_wasNumber) (C := RX5) (T := TX5) (N := 30) hx hb hts hi_5 hown hK hP 0 rfl rfl 20 (by decide) hf_56 (fun _ h9 => h9) rfl dX5_others_114 ?_
                      refine lv_bipush (v := 6) hx hb dX5_others_117 (by decide) ?_
                      refine lv_iload_n hx hb dX5_others_119 rfl (lv_at hl 2 rfl) ?_
                      refine lv_imul hx hb dX5_others_120 ?_
                      refine lv_topi (fun y_123 ey_123 => ?_)
                      have i_123 : y_123.toInt = 6 * i.toInt := ki_mul ey_123 rfl rfl (om_247 LP1_h0) (om_426 w_1.2.2.2 i_13)
                      refine lv_iload hx hb dX5_others_121 (lv_at hl 0 rfl) ?_
                      refine lv_iadd hx hb dX5_others_123 ?_
                      refine lv_topi (fun y_124 ey_124 => ?_)
                      have i_124 : y_124.toInt = y_123.toInt + j.toInt := ki_add ey_124 rfl rfl (om_251 LP1_h0 LP4_h0 i_123) (om_427 w_1.2.2.2 i_13 j_96 i_98.2 i_99 i_123)
                      refine va_iald hx hb hK hP 14 0 rfl rfl (ki_in (om_253 LP1_h0 LP4_h0 i_123 i_124) (om_429 w_1.2.2.2 i_13 j_96 i_98.2 i_99 i_123 i_124)) dX5_others_124 ?_
                      refine lv_topi (fun y_125 ey_125 => ?_)
                      have j_125 : y_125.toInt = (wn y_124.toNatClampNeg).toInt := congrArg Int32.toInt ey_125
                      refine lv_icmp_ne (tgt := 132) hx hb dX5_others_125 (by decide) (fun c_126 => ?_) (fun c_126 => ?_)
                      · have i_126 : ¬ y_122.toInt = y_125.toInt := kc_ne c_126
                        refine lv_iconst (v := 0) hx hb dX5_others_132 (by decide) ?_
                        refine lv_istore_n (lv' := [(3, .int 0), (4, .int j), (2, .int i), (1, .int sm), (0, .ref h0)]) hx hb dX5_others_133 rfl hl (by decide) rfl (fun ls hl => ?_)
                        obtain ⟨x_127, ex_127⟩ : ∃ y : Int32, y = j + 1 := ⟨_, rfl⟩
                        have i_127 : x_127.toInt = j.toInt + 1 := ki_add ex_127 rfl rfl (om_13 LP4_h0) (om_101 j_96 i_98.2 i_99)
                        refine lv_iinc (v := x_127) (lv' := [(4, .int x_127), (3, .int 0), (2, .int i), (1, .int sm), (0, .ref h0)]) hx hb dX5_others_134 hl (k := 1) rfl (by rw [ex_127]; rfl) (by decide) rfl (fun ls hl => ?_)
                        refine lv_goto (tgt := 59) hx hb dX5_others_137 (by decide) ?_
                        have k_128 : (0 : Int32).toInt = 0 := rfl
                        exact ih4 x_127 0 (om_34 LP4_h0 i_127) (om_mu hn4 (om_102 i_127) (om_103 j_96 i_98.2 i_99)) _ _ hP hD hS ls (lv_sub hl [0, 1, 2, 3, 4] rfl)
                      · have i_126 : y_122.toInt = y_125.toInt := kc_eq c_126
                        refine lv_iconst (v := 1) hx hb dX5_others_128 (by decide) ?_
                        refine lv_goto (tgt := 133) hx hb dX5_others_129 (by decide) ?_
                        refine lv_istore_n (lv' := [(3, .int 1), (4, .int j), (2, .int i), (1, .int sm), (0, .ref h0)]) hx hb dX5_others_133 rfl hl (by decide) rfl (fun ls hl => ?_)
                        obtain ⟨x_129, ex_129⟩ : ∃ y : Int32, y = j + 1 := ⟨_, rfl⟩
                        have i_129 : x_129.toInt = j.toInt + 1 := ki_add ex_129 rfl rfl (om_13 LP4_h0) (om_101 j_96 i_98.2 i_99)
                        refine lv_iinc (v := x_129) (lv' := [(4, .int x_129), (3, .int 1), (2, .int i), (1, .int sm), (0, .ref h0)]) hx hb dX5_others_134 hl (k := 1) rfl (by rw [ex_129]; rfl) (by decide) rfl (fun ls hl => ?_)
                        refine lv_goto (tgt := 59) hx hb dX5_others_137 (by decide) ?_
                        have k_130 : (1 : Int32).toInt = 1 := rfl
                        exact ih4 x_129 1 (om_34 LP4_h0 i_129) (om_mu hn4 (om_102 i_129) (om_103 j_96 i_98.2 i_99)) _ _ hP hD hS ls (lv_sub hl [0, 1, 2, 3, 4] rfl)
            have k_131 : (0 : Int32).toInt = 0 := rfl
            have k_132 : (1 : Int32).toInt = 1 := rfl
            exact LP4 ((6 - 0 : Int).toNat + 1) 0 1 om_35 (Nat.lt_succ_self _) _ _ hP hD hS ls (lv_sub hl [0, 1, 2, 3, 4] rfl)
  have k_133 : (0 : Int32).toInt = 0 := rfl
  have k_134 : (0 : Int32).toInt = 0 := rfl
  exact LP1 ((o_2.toInt - 0 : Int).toNat + 1) 0 0 om_35 (Nat.lt_succ_self _) _ _ hP hD hS ls (lv_sub hl [0, 1, 2] rfl)

set_option maxHeartbeats 4000000 in
set_option maxRecDepth 100000 in
theorem c_X5_exchanges (l : Launch) (dC : Nat → ClassId) (dI : Nat → Nat → Nat) (h0 : Nat) (g_row : Nat) (g_many : Nat) (g_loss : Nat) (g_less : Nat) (g_voteValue : Nat) (g_voteNumber : Nat) (g_allValue : Nat) (g_allNumber : Nat) (g_nodeL : Nat) (g_nodeR : Nat) (g_part : Nat) (g_wasMany : Nat) (g_wasLoss : Nat) (g_wasValue : Nat) (g_wasNumber : Nat) (g_path : Nat) (g_heavyValue : Nat) (g_heavyTimes : Nat) (g_fewest : Nat) (g_which : Nat) (g_met : Nat) (m_n : Int32) (m_slots : Int32) (m_thrown : Int32) (m_allMany : Int32) (m_nodes : Int32) (m_partMany : Int32) (m_pathMany : Int32) (m_heavyMany : Int32) (m_mostMet : Int32) (cyI : ClassId) (f : Nat → Int32) (p0 : Int32) (p1 : Int32) (sz : Nat) (b0 : 0 ≤ p0.toInt) (b1 : p0.toInt < 160) (b2 : 0 ≤ p1.toInt) (b3 : p1.toInt < 160) : kx_MQ l (dC, dI) yX5_exchanges wsX5_exchanges ({ frames := 0, cells := 0, slots := 0, locals := 0 }) [.ref h0, .int p0, .int p1] [kx_5 h0 g_row m_n m_slots m_thrown g_many g_loss g_less g_voteValue g_voteNumber g_allValue g_allNumber m_allMany g_nodeL g_nodeR m_nodes g_part m_partMany g_wasMany g_wasLoss g_wasValue g_wasNumber g_path m_pathMany g_heavyValue g_heavyTimes m_heavyMany g_fewest g_which g_met m_mostMet, kx_a g_row cyI 160 f] [(cyI, .int)] sz (fun A => va_Qv (fun u : (Nat → Int32) => u = mj_ex f p0.toNatClampNeg p1.toNatClampNeg) (fun (u : (Nat → Int32)) (t : State) => va_P (dC, dI) vwCl [kx_5 h0 g_row m_n m_slots m_thrown g_many g_loss g_less g_voteValue g_voteNumber g_allValue g_allNumber m_allMany g_nodeL g_nodeR m_nodes g_part m_partMany g_wasMany g_wasLoss g_wasValue g_wasNumber g_path m_pathMany g_heavyValue g_heavyTimes m_heavyMany g_fewest g_which g_met m_mostMet, kx_a g_row cyI 160 u] t.heap ∧ va_K (dC, dI) vwCl [(cyI, .int)] t ∧ va_D A [kx_5 h0 g_row m_n m_slots m_thrown g_many g_loss g_less g_voteValue g_voteNumber g_allValue g_allNumber m_allMany g_nodeL g_nodeR m_nodes g_part m_partMany g_wasMany g_wasLoss g_wasValue g_wasNumber g_path m_pathMany g_heavyValue g_heavyTimes m_heavyMany g_fewest g_which g_met m_mostMet, kx_a g_row cyI 160 u]) A) := by
  refine kx_stQ (ws := wsX5_exchanges) (cc := cX5_exchanges) (maxL := 4) (ret := none) (by decide) rfl (Nat.le_of_ble_eq_true rfl) ?_
  intro p e s m below meth c A ls hx hb hr hlocks hts hown hml hA hS hP hK hD hl
  have hown : s.vm.findClass RX5 = some m.cls := hown
  have hl : lv_has ls 4 [(0, .ref h0), (1, .int p0), (2, .int p1)] := hl
  have hf_7 := hts (.fieldLink RX5 7 "MajorityIndexModel" "row" "[I") (List.mem_of_getElem? (i := 1) rfl)
  have hi_5 : ∀ w ∈ u_ws RX5 TX5 30, w ∈ wsX5_exchanges := fun w h => List.mem_cons_of_mem _ (List.mem_append_right _ h)
  refine lv_aload_n hx hb dX5_exchanges_0 rfl (lv_at hl 0 rfl) ?_
  refine va_get (D := (dC, dI)) (ci := 5) (v := .ref g_row) (C := RX5) (T := TX5) (N := 30) hx hb hts hi_5 hown hK hP 0 rfl rfl 0 (by decide) hf_7 (fun _ h9 => h9) rfl dX5_exchanges_1 ?_
  refine lv_iload_n hx hb dX5_exchanges_4 rfl (lv_at hl 1 rfl) ?_
  refine va_iald hx hb hK hP 1 0 rfl rfl (ki_in (om_10 b0) (om_12 b1)) dX5_exchanges_5 ?_
  refine lv_topi (fun y_1 ey_1 => ?_)
  have j_1 : y_1.toInt = (f p0.toNatClampNeg).toInt := congrArg Int32.toInt ey_1
  refine lv_istore_n (lv' := [(3, .int y_1), (0, .ref h0), (1, .int p0), (2, .int p1)]) hx hb dX5_exchanges_6 rfl hl (by decide) rfl (fun ls hl => ?_)
  refine lv_aload_n hx hb dX5_exchanges_7 rfl (lv_at hl 1 rfl) ?_
  refine va_get (D := (dC, dI)) (ci := 5) (v := .ref g_row) (C := RX5) (T := TX5) (N := 30) hx hb hts hi_5 hown hK hP 0 rfl rfl 0 (by decide) hf_7 (fun _ h9 => h9) rfl dX5_exchanges_8 ?_
  refine lv_iload_n hx hb dX5_exchanges_11 rfl (lv_at hl 2 rfl) ?_
  refine lv_aload_n hx hb dX5_exchanges_12 rfl (lv_at hl 1 rfl) ?_
  refine va_get (D := (dC, dI)) (ci := 5) (v := .ref g_row) (C := RX5) (T := TX5) (N := 30) hx hb hts hi_5 hown hK hP 0 rfl rfl 0 (by decide) hf_7 (fun _ h9 => h9) rfl dX5_exchanges_13 ?_
  refine lv_iload_n hx hb dX5_exchanges_16 rfl (lv_at hl 3 rfl) ?_
  refine va_iald hx hb hK hP 1 0 rfl rfl (ki_in (om_10 b2) (om_12 b3)) dX5_exchanges_17 ?_
  refine lv_topi (fun y_2 ey_2 => ?_)
  have j_2 : y_2.toInt = (f p1.toNatClampNeg).toInt := congrArg Int32.toInt ey_2
  refine va_iast hx hb hK hP hD hS 1 0 rfl rfl (ki_in (om_10 b0) (om_12 b1)) dX5_exchanges_18 (fun H locs hP hD hS => ?_)
  obtain ⟨hP, hD⟩ := kx_re (w2 := [kx_5 h0 g_row m_n m_slots m_thrown g_many g_loss g_less g_voteValue g_voteNumber g_allValue g_allNumber m_allMany g_nodeL g_nodeR m_nodes g_part m_partMany g_wasMany g_wasLoss g_wasValue g_wasNumber g_path m_pathMany g_heavyValue g_heavyTimes m_heavyMany g_fewest g_which g_met m_mostMet, kx_a g_row cyI 160 (upd f p0.toNatClampNeg y_2)]) hP hD rfl
  refine lv_aload_n hx hb dX5_exchanges_19 rfl (lv_at hl 1 rfl) ?_
  refine va_get (D := (dC, dI)) (ci := 5) (v := .ref g_row) (C := RX5) (T := TX5) (N := 30) hx hb hts hi_5 hown hK hP 0 rfl rfl 0 (by decide) hf_7 (fun _ h9 => h9) rfl dX5_exchanges_20 ?_
  refine lv_iload_n hx hb dX5_exchanges_23 rfl (lv_at hl 3 rfl) ?_
  refine lv_iload_n hx hb dX5_exchanges_24 rfl (lv_at hl 0 rfl) ?_
  refine va_iast hx hb hK hP hD hS 1 0 rfl rfl (ki_in (om_10 b2) (om_12 b3)) dX5_exchanges_25 (fun H locs hP hD hS => ?_)
  obtain ⟨hP, hD⟩ := kx_re (w2 := [kx_5 h0 g_row m_n m_slots m_thrown g_many g_loss g_less g_voteValue g_voteNumber g_allValue g_allNumber m_allMany g_nodeL g_nodeR m_nodes g_part m_partMany g_wasMany g_wasLoss g_wasValue g_wasNumber g_path m_pathMany g_heavyValue g_heavyTimes m_heavyMany g_fewest g_which g_met m_mostMet, kx_a g_row cyI 160 (upd (upd f p0.toNatClampNeg y_2) p1.toNatClampNeg y_1)]) hP hD rfl
  have hP9 := hP
  have hD9 := hD
  have hK9 := hK
  exact W.vret hx hb hr (hlocks := hlocks) (fun t ht hW => ⟨⟨((upd (upd f p0.toNatClampNeg y_2) p1.toNatClampNeg y_1)), rfl, (by (try dsimp only); rw [ey_2, ey_1]; rfl), by rw [ht]; exact hP9, va_K.moved hW.alike hK9, hD9⟩, hS.F ht⟩) hS.2.2 dX5_exchanges_26

set_option maxHeartbeats 4000000 in
set_option maxRecDepth 100000 in
theorem c_X5_set (l : Launch) (dC : Nat → ClassId) (dI : Nat → Nat → Nat) (h0 : Nat) (g_row : Nat) (g_many : Nat) (g_loss : Nat) (g_less : Nat) (g_voteValue : Nat) (g_voteNumber : Nat) (g_allValue : Nat) (g_allNumber : Nat) (g_nodeL : Nat) (g_nodeR : Nat) (g_part : Nat) (g_wasMany : Nat) (g_wasLoss : Nat) (g_wasValue : Nat) (g_wasNumber : Nat) (g_path : Nat) (g_heavyValue : Nat) (g_heavyTimes : Nat) (g_fewest : Nat) (g_which : Nat) (g_met : Nat) (m_n : Int32) (m_slots : Int32) (m_thrown : Int32) (m_allMany : Int32) (m_nodes : Int32) (m_partMany : Int32) (m_pathMany : Int32) (m_heavyMany : Int32) (m_mostMet : Int32) (cyI : ClassId) (fm : Nat → Int32) (fl : Nat → Int32) (fe : Nat → Int32) (vv : Nat → Int32) (vn : Nat → Int32) (f : Nat → Int32) (av : Nat → Int32) (an : Nat → Int32) (nl : Nat → Int32) (nr : Nat → Int32) (wm : Nat → Int32) (wl : Nat → Int32) (wv : Nat → Int32) (wn : Nat → Int32) (p0 : Int32) (p1 : Int32) (sz : Nat) (a0 : 0 ≤ m_n.toInt) (a1 : m_n.toInt ≤ 160) (sl0 : 1 ≤ m_slots.toInt) (sl1 : m_slots.toInt ≤ 6) (s4 : six4 fm) (s1 : shorts f) : kx_MQ l (dC, dI) yX5_set wsX5_set ({ frames := 13, cells := 0, slots := 0, locals := 585 }) [.ref h0, .int p0, .int p1] [kx_5 h0 g_row m_n m_slots m_thrown g_many g_loss g_less g_voteValue g_voteNumber g_allValue g_allNumber m_allMany g_nodeL g_nodeR m_nodes g_part m_partMany g_wasMany g_wasLoss g_wasValue g_wasNumber g_path m_pathMany g_heavyValue g_heavyTimes m_heavyMany g_fewest g_which g_met m_mostMet, kx_a g_row cyI 160 f, kx_a g_many cyI 324 fm, kx_a g_loss cyI 324 fl, kx_a g_less cyI 324 fe, kx_a g_voteValue cyI 1944 vv, kx_a g_voteNumber cyI 1944 vn, kx_a g_allValue cyI 12 av, kx_a g_allNumber cyI 12 an, kx_a g_nodeL cyI 320 nl, kx_a g_nodeR cyI 320 nr, kx_a g_wasMany cyI 320 wm, kx_a g_wasLoss cyI 320 wl, kx_a g_wasValue cyI 1920 wv, kx_a g_wasNumber cyI 1920 wn] [(cyI, .int)] sz (fun A => va_Qi (fun (r : Int32) (u : Int32 × Int32 × (Nat → Int32) × (Nat → Int32) × (Nat → Int32) × (Nat → Int32) × (Nat → Int32) × (Nat → Int32) × (Nat → Int32) × (Nat → Int32) × (Nat → Int32) × (Nat → Int32) × (Nat → Int32) × (Nat → Int32) × (Nat → Int32) × (Nat → Int32)) => (((0 ≤ p0.toInt ∧ p0.toInt < m_n.toInt ∧ -32768 ≤ p1.toInt ∧ p1.toInt ≤ 32767) ∧ u.2.2.2.2.2.2.2.2.2.2.2.2.2.2.2 = upd f p0.toNatClampNeg p1) ∨ ((p0.toInt < 0 ∨ m_n.toInt ≤ p0.toInt ∨ p1.toInt < -32768 ∨ 32767 < p1.toInt) ∧ u.2.2.2.2.2.2.2.2.2.2.2.2.2.2.2 = f ∧ r = -1)) ∧ shorts u.2.2.2.2.2.2.2.2.2.2.2.2.2.2.2 ∧ six4 u.2.2.1) (fun (u : Int32 × Int32 × (Nat → Int32) × (Nat → Int32) × (Nat → Int32) × (Nat → Int32) × (Nat → Int32) × (Nat → Int32) × (Nat → Int32) × (Nat → Int32) × (Nat → Int32) × (Nat → Int32) × (Nat → Int32) × (Nat → Int32) × (Nat → Int32) × (Nat → Int32)) (t : State) => va_P (dC, dI) vwCl [kx_5 h0 g_row m_n m_slots 0 g_many g_loss g_less g_voteValue g_voteNumber g_allValue g_allNumber u.2.1 g_nodeL g_nodeR u.1 g_part m_partMany g_wasMany g_wasLoss g_wasValue g_wasNumber g_path m_pathMany g_heavyValue g_heavyTimes m_heavyMany g_fewest g_which g_met m_mostMet, kx_a g_row cyI 160 u.2.2.2.2.2.2.2.2.2.2.2.2.2.2.2, kx_a g_many cyI 324 u.2.2.1, kx_a g_loss cyI 324 u.2.2.2.1, kx_a g_less cyI 324 u.2.2.2.2.1, kx_a g_voteValue cyI 1944 u.2.2.2.2.2.1, kx_a g_voteNumber cyI 1944 u.2.2.2.2.2.2.1, kx_a g_allValue cyI 12 u.2.2.2.2.2.2.2.1, kx_a g_allNumber cyI 12 u.2.2.2.2.2.2.2.2.1, kx_a g_nodeL cyI 320 u.2.2.2.2.2.2.2.2.2.1, kx_a g_nodeR cyI 320 u.2.2.2.2.2.2.2.2.2.2.1, kx_a g_wasMany cyI 320 u.2.2.2.2.2.2.2.2.2.2.2.1, kx_a g_wasLoss cyI 320 u.2.2.2.2.2.2.2.2.2.2.2.2.1, kx_a g_wasValue cyI 1920 u.2.2.2.2.2.2.2.2.2.2.2.2.2.1, kx_a g_wasNumber cyI 1920 u.2.2.2.2.2.2.2.2.2.2.2.2.2.2.1] t.heap ∧ va_K (dC, dI) vwCl [(cyI, .int)] t ∧ va_D A [kx_5 h0 g_row m_n m_slots 0 g_many g_loss g_less g_voteValue g_voteNumber g_allValue g_allNumber u.2.1 g_nodeL g_nodeR u.1 g_part m_partMany g_wasMany g_wasLoss g_wasValue g_wasNumber g_path m_pathMany g_heavyValue g_heavyTimes m_heavyMany g_fewest g_which g_met m_mostMet, kx_a g_row cyI 160 u.2.2.2.2.2.2.2.2.2.2.2.2.2.2.2, kx_a g_many cyI 324 u.2.2.1, kx_a g_loss cyI 324 u.2.2.2.1, kx_a g_less cyI 324 u.2.2.2.2.1, kx_a g_voteValue cyI 1944 u.2.2.2.2.2.1, kx_a g_voteNumber cyI 1944 u.2.2.2.2.2.2.1, kx_a g_allValue cyI 12 u.2.2.2.2.2.2.2.1, kx_a g_allNumber cyI 12 u.2.2.2.2.2.2.2.2.1, kx_a g_nodeL cyI 320 u.2.2.2.2.2.2.2.2.2.1, kx_a g_nodeR cyI 320 u.2.2.2.2.2.2.2.2.2.2.1, kx_a g_wasMany cyI 320 u.2.2.2.2.2.2.2.2.2.2.2.1, kx_a g_wasLoss cyI 320 u.2.2.2.2.2.2.2.2.2.2.2.2.1, kx_a g_wasValue cyI 1920 u.2.2.2.2.2.2.2.2.2.2.2.2.2.1, kx_a g_wasNumber cyI 1920 u.2.2.2.2.2.2.2.2.2.2.2.2.2.2.1]) A) := by
  refine kx_stQ (ws := wsX5_set) (cc := cX5_set) (maxL := 3) (ret := (some .int)) (by decide) rfl (Nat.le_of_ble_eq_true rfl) ?_
  intro p e s m below meth c A ls hx hb hr hlocks hts hown hml hA hS hP hK hD hl
  have hown : s.vm.findClass RX5 = some m.cls := hown
  have hl : lv_has ls 3 [(0, .ref h0), (1, .int p0), (2, .int p1)] := hl
  have hf_77 := hts (.fieldLink RX5 77 "MajorityIndexModel" "thrown" "I") (List.mem_of_getElem? (i := 1) rfl)
  have hi_5 : ∀ w ∈ u_ws RX5 TX5 30, w ∈ wsX5_set := fun w h => List.mem_cons_of_mem _ (List.mem_append_right _ h)
  have hf_7 := hts (.fieldLink RX5 7 "MajorityIndexModel" "row" "[I") (List.mem_of_getElem? (i := 2) rfl)
  refine lv_aload_n hx hb dX5_set_0 rfl (lv_at hl 0 rfl) ?_
  refine lv_iconst (v := 0) hx hb dX5_set_1 (by decide) ?_
  refine va_put (D := (dC, dI)) (ci := 5) (v := .int 0) (ty := .int) (C := RX5) (T := TX5) (N := 30) hx hb hts hi_5 tyX5 tyX5_ok nmX5 hown hK hP hD hS 0 rfl rfl 3 (by decide) hf_77 (fun _ h9 => h9) rfl (by decide +kernel) rfl rfl (Nat.le_of_ble_eq_true rfl) dX5_set_2 (fun H locs hP hD hS => ?_)
  obtain ⟨hP, hD⟩ := kx_re (w2 := [kx_5 h0 g_row m_n m_slots 0 g_many g_loss g_less g_voteValue g_voteNumber g_allValue g_allNumber m_allMany g_nodeL g_nodeR m_nodes g_part m_partMany g_wasMany g_wasLoss g_wasValue g_wasNumber g_path m_pathMany g_heavyValue g_heavyTimes m_heavyMany g_fewest g_which g_met m_mostMet, kx_a g_row cyI 160 f, kx_a g_many cyI 324 fm, kx_a g_loss cyI 324 fl, kx_a g_less cyI 324 fe, kx_a g_voteValue cyI 1944 vv, kx_a g_voteNumber cyI 1944 vn, kx_a g_allValue cyI 12 av, kx_a g_allNumber cyI 12 an, kx_a g_nodeL cyI 320 nl, kx_a g_nodeR cyI 320 nr, kx_a g_wasMany cyI 320 wm, kx_a g_wasLoss cyI 320 wl, kx_a g_wasValue cyI 1920 wv, kx_a g_wasNumber cyI 1920 wn]) hP hD rfl
  refine lv_aload_n hx hb dX5_set_5 rfl (lv_at hl 0 rfl) ?_
  refine lv_iload_n hx hb dX5_set_6 rfl (lv_at hl 1 rfl) ?_
  have hPc := hP.sub (ws' := [kx_5 h0 g_row m_n m_slots 0 g_many g_loss g_less g_voteValue g_voteNumber g_allValue g_allNumber m_allMany g_nodeL g_nodeR m_nodes g_part m_partMany g_wasMany g_wasLoss g_wasValue g_wasNumber g_path m_pathMany g_heavyValue g_heavyTimes m_heavyMany g_fewest g_which g_met m_mostMet]) [0] rfl
  have hKc := hK.sub (tys' := []) [] rfl
  refine vp_callSi (W.runV (As := [.int p0]) (rest := []) ⟨hx, hb, hml, hown, hts⟩ (c_X5_isPlace l dC dI h0 g_row g_many g_loss g_less g_voteValue g_voteNumber g_allValue g_allNumber g_nodeL g_nodeR g_part g_wasMany g_wasLoss g_wasValue g_wasNumber g_path g_heavyValue g_heavyTimes g_fewest g_which g_met m_n m_slots 0 m_allMany m_nodes m_partMany m_pathMany m_heavyMany m_mostMet p0 a0 a1) (cwV 1 hts gX5_set_X5_isPlace rfl rfl rfl (by decide +kernel) ⟨Nat.le_of_ble_eq_true rfl, Nat.le_of_ble_eq_true rfl⟩) ⟨fun a U g mk q => by obtain ⟨q0, qP, qK⟩ := q; exact ⟨q0, qP, va_K.moved (u := U) (U := U.calling g mk a) (Vm.Alike.refl U.vm) qK⟩, kx_rc5 hKc hPc (q0 := 0) rfl, fun U hU hW => ⟨rfl, by rw [hU]; exact hPc, va_K.moved hW.alike hKc⟩⟩ rfl rfl hl.1 rfl (lv_room (Nat.le_of_ble_eq_true rfl)) dX5_set_7 ⟨Nat.le_of_ble_eq_true rfl, Nat.le_of_ble_eq_true rfl⟩) (fun r_1 w_1 => ?_)
  rcases w_1 with ⟨rfl, w_1⟩ | ⟨rfl, w_1⟩
  · have w_1 : (0 ≤ p0.toInt ∧ p0.toInt < m_n.toInt) := w_1
    refine lv_if_eq (tgt := 20) hx hb dX5_set_10 (by decide) (fun c_2 => ?_) (fun c_2 => ?_)
    · exact absurd c_2 (by decide)
    · refine lv_iload_n hx hb dX5_set_13 rfl (lv_at hl 2 rfl) ?_
      have hPc := hP.sub (ws' := []) [] rfl
      have hKc := hK.sub (tys' := []) [] rfl
      refine vp_callSi (W.runS (As := [.int p1]) (rest := []) ⟨hx, hb, hml, hown, hts⟩ (c_X5_isValue l dC dI p1) (va_cwS 1 hts gX5_set_X5_isValue rfl rfl rfl (by decide +kernel) ⟨Nat.le_of_ble_eq_true rfl, Nat.le_of_ble_eq_true rfl⟩) ⟨fun a U g mk q => by obtain ⟨q0, qP, qK⟩ := q; exact ⟨q0, qP, va_K.moved (u := U) (U := U.calling g mk a) (Vm.Alike.refl U.vm) qK⟩, fun U hU hW => ⟨rfl, by rw [hU]; exact hPc, va_K.moved hW.alike hKc⟩⟩ rfl rfl hl.1 rfl (lv_room (Nat.le_of_ble_eq_true rfl)) dX5_set_14 ⟨Nat.le_of_ble_eq_true rfl, Nat.le_of_ble_eq_true rfl⟩) (fun r_3 w_3 => ?_)
      rcases w_3 with ⟨rfl, w_3⟩ | ⟨rfl, w_3⟩
      · have w_3 : (-32768 ≤ p1.toInt ∧ p1.toInt ≤ 32767) := w_3
        refine lv_if_ne (tgt := 22) hx hb dX5_set_17 (by decide) (fun c_4 => ?_) (fun c_4 => ?_)
        · refine lv_aload_n hx hb dX5_set_22 rfl (lv_at hl 0 rfl) ?_
          have hPc := hP
          have hKc := hK
          have hDc := hD
          have hFc := kx_free hD hS hA
          refine va_callv (va_runV (As := []) (rest := []) ⟨hx, hb, hml, hown, hts⟩ (kx_un (c_X5_keeps l dC dI h0 g_row g_many g_loss g_less g_voteValue g_voteNumber g_allValue g_allNumber g_nodeL g_nodeR g_part g_wasMany g_wasLoss g_wasValue g_wasNumber g_path g_heavyValue g_heavyTimes g_fewest g_which g_met m_n m_slots 0 m_allMany m_nodes m_partMany m_pathMany m_heavyMany m_mostMet cyI fm fl fe vv vn f av an nl nr wm wl wv wn H.size a0 a1 sl0 sl1 s4)) (cwV 0 hts gX5_set_X5_keeps rfl rfl rfl (by decide +kernel) ⟨Nat.le_of_ble_eq_true rfl, Nat.le_of_ble_eq_true rfl⟩) ⟨fun a U g mk q => by obtain ⟨q0, q1, qP, qK, qD⟩ := q; exact ⟨q0, q1, qP, va_K.moved (u := U) (U := U.calling g mk a) (Vm.Alike.refl U.vm) qK, qD⟩, kx_rc5 hKc hPc (q0 := 0) rfl, fun U hU hW => ⟨rfl, by rw [hU], by rw [hU]; exact hPc, va_K.moved hW.alike hKc, hDc.weaken (fun _ _ _ _ => trivial)⟩⟩ rfl rfl hl.1 rfl (lv_room (Nat.le_of_ble_eq_true rfl)) dX5_set_23 ⟨Nat.le_of_ble_eq_true rfl, Nat.le_of_ble_eq_true rfl⟩) hS (fun q _ h => hFc q h) hFc (fun u t H1 locs ht hvm w_5 hB hz1 hk1 hS => ?_)
          obtain ⟨o_6, o_7, o_8, o_9, o_10, o_11, o_12, o_13, o_14, o_15, o_16, o_17, o_18, o_19, o_20⟩ := u
          dsimp only at w_5 hB
          obtain ⟨hP1, hK1, hD1⟩ := hB
          rw [ht] at hP1
          have hK1 := va_K.moved hvm.symm hK1
          have hD := hD1.weaken (fun _ q _ h => hFc q.1 h)
          have hP := hP1
          clear hP1 hD1 hK1 hk1 hz1 hFc hDc hPc hKc
          generalize H1 = H at hP hS ⊢
          have w_5 : six4 o_8 := w_5
          refine lv_aload_n hx hb dX5_set_26 rfl (lv_at hl 0 rfl) ?_
          refine va_get (D := (dC, dI)) (ci := 5) (v := .ref g_row) (C := RX5) (T := TX5) (N := 30) hx hb hts hi_5 hown hK hP 0 rfl rfl 0 (by decide) hf_7 (fun _ h9 => h9) rfl dX5_set_27 ?_
          refine lv_iload_n hx hb dX5_set_30 rfl (lv_at hl 1 rfl) ?_
          refine lv_iload_n hx hb dX5_set_31 rfl (lv_at hl 2 rfl) ?_
          refine va_iast hx hb hK hP hD hS 1 0 rfl rfl (ki_in (om_10 w_1.1) (om_1 a1 w_1.2)) dX5_set_32 (fun H locs hP hD hS => ?_)
          obtain ⟨hP, hD⟩ := kx_re (w2 := [kx_5 h0 g_row m_n m_slots 0 g_many g_loss g_less g_voteValue g_voteNumber g_allValue g_allNumber o_7 g_nodeL g_nodeR o_6 g_part m_partMany g_wasMany g_wasLoss g_wasValue g_wasNumber g_path m_pathMany g_heavyValue g_heavyTimes m_heavyMany g_fewest g_which g_met m_mostMet, kx_a g_row cyI 160 (upd f p0.toNatClampNeg p1), kx_a g_many cyI 324 o_8, kx_a g_loss cyI 324 o_9, kx_a g_less cyI 324 o_10, kx_a g_voteValue cyI 1944 o_11, kx_a g_voteNumber cyI 1944 o_12, kx_a g_allValue cyI 12 o_13, kx_a g_allNumber cyI 12 o_14, kx_a g_nodeL cyI 320 o_15, kx_a g_nodeR cyI 320 o_16, kx_a g_wasMany cyI 320 o_17, kx_a g_wasLoss cyI 320 o_18, kx_a g_wasValue cyI 1920 o_19, kx_a g_wasNumber cyI 1920 o_20]) hP hD rfl
          refine lv_aload_n hx hb dX5_set_33 rfl (lv_at hl 0 rfl) ?_
          have hPc := hP
          have hKc := hK
          have hDc := hD
          have hFc := kx_free hD hS hA
          refine va_calli (va_runV (As := []) (rest := []) ⟨hx, hb, hml, hown, hts⟩ (kx_un (c_X5_others l dC dI h0 g_row g_many g_loss g_less g_voteValue g_voteNumber g_allValue g_allNumber g_nodeL g_nodeR g_part g_wasMany g_wasLoss g_wasValue g_wasNumber g_path g_heavyValue g_heavyTimes g_fewest g_which g_met m_n m_slots 0 o_7 o_6 m_partMany m_pathMany m_heavyMany m_mostMet cyI o_8 o_9 o_10 o_11 o_12 (upd f p0.toNatClampNeg p1) o_13 o_14 o_15 o_16 o_17 o_18 o_19 o_20 H.size a0 a1 sl0 sl1 w_5)) (cwV 0 hts gX5_set_X5_others rfl rfl rfl (by decide +kernel) ⟨Nat.le_of_ble_eq_true rfl, Nat.le_of_ble_eq_true rfl⟩) ⟨fun a U g mk q => by obtain ⟨q0, q1, qP, qK, qD⟩ := q; exact ⟨q0, q1, qP, va_K.moved (u := U) (U := U.calling g mk a) (Vm.Alike.refl U.vm) qK, qD⟩, kx_rc5 hKc hPc (q0 := 0) rfl, fun U hU hW => ⟨rfl, by rw [hU], by rw [hU]; exact hPc, va_K.moved hW.alike hKc, hDc.weaken (fun _ _ _ _ => trivial)⟩⟩ rfl rfl hl.1 rfl (lv_room (Nat.le_of_ble_eq_true rfl)) dX5_set_34 ⟨Nat.le_of_ble_eq_true rfl, Nat.le_of_ble_eq_true rfl⟩) hS (fun q _ h => hFc q h) hFc (fun r_21 u t H1 locs ht hvm w_21 hB hz1 hk1 hS => ?_)
          obtain ⟨o_22, o_23, o_24, o_25, o_26, o_27, o_28, o_29, o_30, o_31, o_32⟩ := u
          dsimp only at w_21 hB
          obtain ⟨hP1, hK1, hD1⟩ := hB
          rw [ht] at hP1
          have hK1 := va_K.moved hvm.symm hK1
          have hD := hD1.weaken (fun _ q _ h => hFc q.1 h)
          have hP := hP1
          clear hP1 hD1 hK1 hk1 hz1 hFc hDc hPc hKc
          generalize H1 = H at hP hS ⊢
          have w_21 : six4 o_24 := w_21
          have hP9 := hP
          have hD9 := hD
          have hK9 := hK
          exact W.iret (v := r_21) hx hb hr (hlocks := hlocks) (fun t ht hW => ⟨⟨r_21, (o_22, o_23, o_24, o_25, o_26, o_27, o_28, o_29, o_30, o_31, o_32, o_17, o_18, o_19, o_20, (upd f p0.toNatClampNeg p1)), rfl, ⟨Or.inl ⟨by omega, rfl⟩, (shorts_upd s1 (by (try dsimp only); omega) (by (try dsimp only); omega)), w_21⟩, by rw [ht]; exact hP9, va_K.moved hW.alike hK9, hD9⟩, hS.F ht⟩) hS.2.2 dX5_set_37
        · exact absurd c_4 (by decide)
      · have w_3 : (p1.toInt < -32768 ∨ 32767 < p1.toInt) := w_3
        refine lv_if_ne (tgt := 22) hx hb dX5_set_17 (by decide) (fun c_33 => ?_) (fun c_33 => ?_)
        · exact absurd c_33 (by decide)
        · refine lv_iconst (v := (-1)) hx hb dX5_set_20 (by decide) ?_
          have hP9 := hP
          have hD9 := hD
          have hK9 := hK
          exact W.iret (v := (-1)) hx hb hr (hlocks := hlocks) (fun t ht hW => ⟨⟨(-1), (m_nodes, m_allMany, fm, fl, fe, vv, vn, av, an, nl, nr, wm, wl, wv, wn, f), rfl, ⟨Or.inr ⟨by omega, rfl, rfl⟩, s1, s4⟩, by rw [ht]; exact hP9, va_K.moved hW.alike hK9, hD9⟩, hS.F ht⟩) hS.2.2 dX5_set_21
  · have w_1 : (p0.toInt < 0 ∨ m_n.toInt ≤ p0.toInt) := w_1
    refine lv_if_eq (tgt := 20) hx hb dX5_set_10 (by decide) (fun c_34 => ?_) (fun c_34 => ?_)
    · refine lv_iconst (v := (-1)) hx hb dX5_set_20 (by decide) ?_
      have hP9 := hP
      have hD9 := hD
      have hK9 := hK
      exact W.iret (v := (-1)) hx hb hr (hlocks := hlocks) (fun t ht hW => ⟨⟨(-1), (m_nodes, m_allMany, fm, fl, fe, vv, vn, av, an, nl, nr, wm, wl, wv, wn, f), rfl, ⟨Or.inr ⟨by omega, rfl, rfl⟩, s1, s4⟩, by rw [ht]; exact hP9, va_K.moved hW.alike hK9, hD9⟩, hS.F ht⟩) hS.2.2 dX5_set_21
    · exact absurd c_34 (by decide)

set_option maxHeartbeats 4000000 in
set_option maxRecDepth 100000 in
theorem c_X5_fill (l : Launch) (dC : Nat → ClassId) (dI : Nat → Nat → Nat) (h0 : Nat) (g_row : Nat) (g_many : Nat) (g_loss : Nat) (g_less : Nat) (g_voteValue : Nat) (g_voteNumber : Nat) (g_allValue : Nat) (g_allNumber : Nat) (g_nodeL : Nat) (g_nodeR : Nat) (g_part : Nat) (g_wasMany : Nat) (g_wasLoss : Nat) (g_wasValue : Nat) (g_wasNumber : Nat) (g_path : Nat) (g_heavyValue : Nat) (g_heavyTimes : Nat) (g_fewest : Nat) (g_which : Nat) (g_met : Nat) (m_n : Int32) (m_slots : Int32) (m_thrown : Int32) (m_allMany : Int32) (m_nodes : Int32) (m_partMany : Int32) (m_pathMany : Int32) (m_heavyMany : Int32) (m_mostMet : Int32) (cyI : ClassId) (fm : Nat → Int32) (fl : Nat → Int32) (fe : Nat → Int32) (vv : Nat → Int32) (vn : Nat → Int32) (f : Nat → Int32) (av : Nat → Int32) (an : Nat → Int32) (nl : Nat → Int32) (nr : Nat → Int32) (wm : Nat → Int32) (wl : Nat → Int32) (wv : Nat → Int32) (wn : Nat → Int32) (p0 : Int32) (p1 : Int32) (p2 : Int32) (sz : Nat) (a0 : 0 ≤ m_n.toInt) (a1 : m_n.toInt ≤ 160) (sl0 : 1 ≤ m_slots.toInt) (sl1 : m_slots.toInt ≤ 6) (s4 : six4 fm) (s1 : shorts f) : kx_MQ l (dC, dI) yX5_fill wsX5_fill ({ frames := 13, cells := 0, slots := 0, locals := 585 }) [.ref h0, .int p0, .int p1, .int p2] [kx_5 h0 g_row m_n m_slots m_thrown g_many g_loss g_less g_voteValue g_voteNumber g_allValue g_allNumber m_allMany g_nodeL g_nodeR m_nodes g_part m_partMany g_wasMany g_wasLoss g_wasValue g_wasNumber g_path m_pathMany g_heavyValue g_heavyTimes m_heavyMany g_fewest g_which g_met m_mostMet, kx_a g_row cyI 160 f, kx_a g_many cyI 324 fm, kx_a g_loss cyI 324 fl, kx_a g_less cyI 324 fe, kx_a g_voteValue cyI 1944 vv, kx_a g_voteNumber cyI 1944 vn, kx_a g_allValue cyI 12 av, kx_a g_allNumber cyI 12 an, kx_a g_nodeL cyI 320 nl, kx_a g_nodeR cyI 320 nr, kx_a g_wasMany cyI 320 wm, kx_a g_wasLoss cyI 320 wl, kx_a g_wasValue cyI 1920 wv, kx_a g_wasNumber cyI 1920 wn] [(cyI, .int)] sz (fun A => va_Qi (fun (r : Int32) (u : Int32 × Int32 × (Nat → Int32) × (Nat → Int32) × (Nat → Int32) × (Nat → Int32) × (Nat → Int32) × (Nat → Int32) × (Nat → Int32) × (Nat → Int32) × (Nat → Int32) × (Nat → Int32) × (Nat → Int32) × (Nat → Int32) × (Nat → Int32) × (Nat → Int32)) => (((0 ≤ p0.toInt ∧ p0.toInt < p1.toInt ∧ p1.toInt ≤ m_n.toInt ∧ -32768 ≤ p2.toInt ∧ p2.toInt ≤ 32767) ∧ u.2.2.2.2.2.2.2.2.2.2.2.2.2.2.2 = mj_fill f p0.toNatClampNeg p1.toNatClampNeg p2) ∨ ((p0.toInt < 0 ∨ p1.toInt ≤ p0.toInt ∨ m_n.toInt < p1.toInt ∨ p2.toInt < -32768 ∨ 32767 < p2.toInt) ∧ u.2.2.2.2.2.2.2.2.2.2.2.2.2.2.2 = f ∧ r = -1)) ∧ shorts u.2.2.2.2.2.2.2.2.2.2.2.2.2.2.2 ∧ six4 u.2.2.1) (fun (u : Int32 × Int32 × (Nat → Int32) × (Nat → Int32) × (Nat → Int32) × (Nat → Int32) × (Nat → Int32) × (Nat → Int32) × (Nat → Int32) × (Nat → Int32) × (Nat → Int32) × (Nat → Int32) × (Nat → Int32) × (Nat → Int32) × (Nat → Int32) × (Nat → Int32)) (t : State) => va_P (dC, dI) vwCl [kx_5 h0 g_row m_n m_slots 0 g_many g_loss g_less g_voteValue g_voteNumber g_allValue g_allNumber u.2.1 g_nodeL g_nodeR u.1 g_part m_partMany g_wasMany g_wasLoss g_wasValue g_wasNumber g_path m_pathMany g_heavyValue g_heavyTimes m_heavyMany g_fewest g_which g_met m_mostMet, kx_a g_row cyI 160 u.2.2.2.2.2.2.2.2.2.2.2.2.2.2.2, kx_a g_many cyI 324 u.2.2.1, kx_a g_loss cyI 324 u.2.2.2.1, kx_a g_less cyI 324 u.2.2.2.2.1, kx_a g_voteValue cyI 1944 u.2.2.2.2.2.1, kx_a g_voteNumber cyI 1944 u.2.2.2.2.2.2.1, kx_a g_allValue cyI 12 u.2.2.2.2.2.2.2.1, kx_a g_allNumber cyI 12 u.2.2.2.2.2.2.2.2.1, kx_a g_nodeL cyI 320 u.2.2.2.2.2.2.2.2.2.1, kx_a g_nodeR cyI 320 u.2.2.2.2.2.2.2.2.2.2.1, kx_a g_wasMany cyI 320 u.2.2.2.2.2.2.2.2.2.2.2.1, kx_a g_wasLoss cyI 320 u.2.2.2.2.2.2.2.2.2.2.2.2.1, kx_a g_wasValue cyI 1920 u.2.2.2.2.2.2.2.2.2.2.2.2.2.1, kx_a g_wasNumber cyI 1920 u.2.2.2.2.2.2.2.2.2.2.2.2.2.2.1] t.heap ∧ va_K (dC, dI) vwCl [(cyI, .int)] t ∧ va_D A [kx_5 h0 g_row m_n m_slots 0 g_many g_loss g_less g_voteValue g_voteNumber g_allValue g_allNumber u.2.1 g_nodeL g_nodeR u.1 g_part m_partMany g_wasMany g_wasLoss g_wasValue g_wasNumber g_path m_pathMany g_heavyValue g_heavyTimes m_heavyMany g_fewest g_which g_met m_mostMet, kx_a g_row cyI 160 u.2.2.2.2.2.2.2.2.2.2.2.2.2.2.2, kx_a g_many cyI 324 u.2.2.1, kx_a g_loss cyI 324 u.2.2.2.1, kx_a g_less cyI 324 u.2.2.2.2.1, kx_a g_voteValue cyI 1944 u.2.2.2.2.2.1, kx_a g_voteNumber cyI 1944 u.2.2.2.2.2.2.1, kx_a g_allValue cyI 12 u.2.2.2.2.2.2.2.1, kx_a g_allNumber cyI 12 u.2.2.2.2.2.2.2.2.1, kx_a g_nodeL cyI 320 u.2.2.2.2.2.2.2.2.2.1, kx_a g_nodeR cyI 320 u.2.2.2.2.2.2.2.2.2.2.1, kx_a g_wasMany cyI 320 u.2.2.2.2.2.2.2.2.2.2.2.1, kx_a g_wasLoss cyI 320 u.2.2.2.2.2.2.2.2.2.2.2.2.1, kx_a g_wasValue cyI 1920 u.2.2.2.2.2.2.2.2.2.2.2.2.2.1, kx_a g_wasNumber cyI 1920 u.2.2.2.2.2.2.2.2.2.2.2.2.2.2.1]) A) := by
  refine kx_stQ (ws := wsX5_fill) (cc := cX5_fill) (maxL := 5) (ret := (some .int)) (by decide) rfl (Nat.le_of_ble_eq_true rfl) ?_
  intro p e s m below meth c A ls hx hb hr hlocks hts hown hml hA hS hP hK hD hl
  have hown : s.vm.findClass RX5 = some m.cls := hown
  have hl : lv_has ls 5 [(0, .ref h0), (1, .int p0), (2, .int p1), (3, .int p2)] := hl
  have hf_77 := hts (.fieldLink RX5 77 "MajorityIndexModel" "thrown" "I") (List.mem_of_getElem? (i := 1) rfl)
  have hi_5 : ∀ w ∈ u_ws RX5 TX5 30, w ∈ wsX5_fill := fun w h => List.mem_cons_of_mem _ (List.mem_append_right _ h)
  have hf_7 := hts (.fieldLink RX5 7 "MajorityIndexModel" "row" "[I") (List.mem_of_getElem? (i := 2) rfl)
  refine lv_aload_n hx hb dX5_fill_0 rfl (lv_at hl 0 rfl) ?_
  refine lv_iconst (v := 0) hx hb dX5_fill_1 (by decide) ?_
  refine va_put (D := (dC, dI)) (ci := 5) (v := .int 0) (ty := .int) (C := RX5) (T := TX5) (N := 30) hx hb hts hi_5 tyX5 tyX5_ok nmX5 hown hK hP hD hS 0 rfl rfl 3 (by decide) hf_77 (fun _ h9 => h9) rfl (by decide +kernel) rfl rfl (Nat.le_of_ble_eq_true rfl) dX5_fill_2 (fun H locs hP hD hS => ?_)
  obtain ⟨hP, hD⟩ := kx_re (w2 := [kx_5 h0 g_row m_n m_slots 0 g_many g_loss g_less g_voteValue g_voteNumber g_allValue g_allNumber m_allMany g_nodeL g_nodeR m_nodes g_part m_partMany g_wasMany g_wasLoss g_wasValue g_wasNumber g_path m_pathMany g_heavyValue g_heavyTimes m_heavyMany g_fewest g_which g_met m_mostMet, kx_a g_row cyI 160 f, kx_a g_many cyI 324 fm, kx_a g_loss cyI 324 fl, kx_a g_less cyI 324 fe, kx_a g_voteValue cyI 1944 vv, kx_a g_voteNumber cyI 1944 vn, kx_a g_allValue cyI 12 av, kx_a g_allNumber cyI 12 an, kx_a g_nodeL cyI 320 nl, kx_a g_nodeR cyI 320 nr, kx_a g_wasMany cyI 320 wm, kx_a g_wasLoss cyI 320 wl, kx_a g_wasValue cyI 1920 wv, kx_a g_wasNumber cyI 1920 wn]) hP hD rfl
  refine lv_aload_n hx hb dX5_fill_5 rfl (lv_at hl 0 rfl) ?_
  refine lv_iload_n hx hb dX5_fill_6 rfl (lv_at hl 1 rfl) ?_
  refine lv_iload_n hx hb dX5_fill_7 rfl (lv_at hl 2 rfl) ?_
  have hPc := hP.sub (ws' := [kx_5 h0 g_row m_n m_slots 0 g_many g_loss g_less g_voteValue g_voteNumber g_allValue g_allNumber m_allMany g_nodeL g_nodeR m_nodes g_part m_partMany g_wasMany g_wasLoss g_wasValue g_wasNumber g_path m_pathMany g_heavyValue g_heavyTimes m_heavyMany g_fewest g_which g_met m_mostMet]) [0] rfl
  have hKc := hK.sub (tys' := []) [] rfl
  refine vp_callSi (W.runV (As := [.int p0, .int p1]) (rest := []) ⟨hx, hb, hml, hown, hts⟩ (c_X5_isRange l dC dI h0 g_row g_many g_loss g_less g_voteValue g_voteNumber g_allValue g_allNumber g_nodeL g_nodeR g_part g_wasMany g_wasLoss g_wasValue g_wasNumber g_path g_heavyValue g_heavyTimes g_fewest g_which g_met m_n m_slots 0 m_allMany m_nodes m_partMany m_pathMany m_heavyMany m_mostMet p0 p1) (cwV 2 hts gX5_fill_X5_isRange rfl rfl rfl (by decide +kernel) ⟨Nat.le_of_ble_eq_true rfl, Nat.le_of_ble_eq_true rfl⟩) ⟨fun a U g mk q => by obtain ⟨q0, qP, qK⟩ := q; exact ⟨q0, qP, va_K.moved (u := U) (U := U.calling g mk a) (Vm.Alike.refl U.vm) qK⟩, kx_rc5 hKc hPc (q0 := 0) rfl, fun U hU hW => ⟨rfl, by rw [hU]; exact hPc, va_K.moved hW.alike hKc⟩⟩ rfl rfl hl.1 rfl (lv_room (Nat.le_of_ble_eq_true rfl)) dX5_fill_8 ⟨Nat.le_of_ble_eq_true rfl, Nat.le_of_ble_eq_true rfl⟩) (fun r_1 w_1 => ?_)
  rcases w_1 with ⟨rfl, w_1⟩ | ⟨rfl, w_1⟩
  · have w_1 : (0 ≤ p0.toInt ∧ p0.toInt < p1.toInt ∧ p1.toInt ≤ m_n.toInt) := w_1
    refine lv_if_eq (tgt := 21) hx hb dX5_fill_11 (by decide) (fun c_2 => ?_) (fun c_2 => ?_)
    · exact absurd c_2 (by decide)
    · refine lv_iload_n hx hb dX5_fill_14 rfl (lv_at hl 3 rfl) ?_
      have hPc := hP.sub (ws' := []) [] rfl
      have hKc := hK.sub (tys' := []) [] rfl
      refine vp_callSi (W.runS (As := [.int p2]) (rest := []) ⟨hx, hb, hml, hown, hts⟩ (c_X5_isValue l dC dI p2) (va_cwS 1 hts gX5_fill_X5_isValue rfl rfl rfl (by decide +kernel) ⟨Nat.le_of_ble_eq_true rfl, Nat.le_of_ble_eq_true rfl⟩) ⟨fun a U g mk q => by obtain ⟨q0, qP, qK⟩ := q; exact ⟨q0, qP, va_K.moved (u := U) (U := U.calling g mk a) (Vm.Alike.refl U.vm) qK⟩, fun U hU hW => ⟨rfl, by rw [hU]; exact hPc, va_K.moved hW.alike hKc⟩⟩ rfl rfl hl.1 rfl (lv_room (Nat.le_of_ble_eq_true rfl)) dX5_fill_15 ⟨Nat.le_of_ble_eq_true rfl, Nat.le_of_ble_eq_true rfl⟩) (fun r_3 w_3 => ?_)
      rcases w_3 with ⟨rfl, w_3⟩ | ⟨rfl, w_3⟩
      · have w_3 : (-32768 ≤ p2.toInt ∧ p2.toInt ≤ 32767) := w_3
        refine lv_if_ne (tgt := 23) hx hb dX5_fill_18 (by decide) (fun c_4 => ?_) (fun c_4 => ?_)
        · refine lv_aload_n hx hb dX5_fill_23 rfl (lv_at hl 0 rfl) ?_
          have hPc := hP
          have hKc := hK
          have hDc := hD
          have hFc := kx_free hD hS hA
          refine va_callv (va_runV (As := []) (rest := []) ⟨hx, hb, hml, hown, hts⟩ (kx_un (c_X5_keeps l dC dI h0 g_row g_many g_loss g_less g_voteValue g_voteNumber g_allValue g_allNumber g_nodeL g_nodeR g_part g_wasMany g_wasLoss g_wasValue g_wasNumber g_path g_heavyValue g_heavyTimes g_fewest g_which g_met m_n m_slots 0 m_allMany m_nodes m_partMany m_pathMany m_heavyMany m_mostMet cyI fm fl fe vv vn f av an nl nr wm wl wv wn H.size a0 a1 sl0 sl1 s4)) (cwV 0 hts gX5_fill_X5_keeps rfl rfl rfl (by decide +kernel) ⟨Nat.le_of_ble_eq_true rfl, Nat.le_of_ble_eq_true rfl⟩) ⟨fun a U g mk q => by obtain ⟨q0, q1, qP, qK, qD⟩ := q; exact ⟨q0, q1, qP, va_K.moved (u := U) (U := U.calling g mk a) (Vm.Alike.refl U.vm) qK, qD⟩, kx_rc5 hKc hPc (q0 := 0) rfl, fun U hU hW => ⟨rfl, by rw [hU], by rw [hU]; exact hPc, va_K.moved hW.alike hKc, hDc.weaken (fun _ _ _ _ => trivial)⟩⟩ rfl rfl hl.1 rfl (lv_room (Nat.le_of_ble_eq_true rfl)) dX5_fill_24 ⟨Nat.le_of_ble_eq_true rfl, Nat.le_of_ble_eq_true rfl⟩) hS (fun q _ h => hFc q h) hFc (fun u t H1 locs ht hvm w_5 hB hz1 hk1 hS => ?_)
          obtain ⟨o_6, o_7, o_8, o_9, o_10, o_11, o_12, o_13, o_14, o_15, o_16, o_17, o_18, o_19, o_20⟩ := u
          dsimp only at w_5 hB
          obtain ⟨hP1, hK1, hD1⟩ := hB
          rw [ht] at hP1
          have hK1 := va_K.moved hvm.symm hK1
          have hD := hD1.weaken (fun _ q _ h => hFc q.1 h)
          have hP := hP1
          clear hP1 hD1 hK1 hk1 hz1 hFc hDc hPc hKc
          generalize H1 = H at hP hS ⊢
          have w_5 : six4 o_8 := w_5
          refine lv_iload_n hx hb dX5_fill_27 rfl (lv_at hl 1 rfl) ?_
          refine lv_istore (lv' := [(4, .int p0), (0, .ref h0), (1, .int p0), (2, .int p1), (3, .int p2)]) hx hb dX5_fill_28 hl (by decide) rfl (fun ls hl => ?_)
          have LP1 : ∀ (n : Nat) (k : Int32) (gc : Nat → Int32), (p0.toInt ≤ k.toInt) → (k.toInt ≤ p1.toInt) → (gc = mj_fill f p0.toNatClampNeg k.toNatClampNeg p2) → (p1.toInt - k.toInt).toNat < n → ∀ (H : Heap) (locs : List Loc), va_P (dC, dI) vwCl [kx_5 h0 g_row m_n m_slots 0 g_many g_loss g_less g_voteValue g_voteNumber g_allValue g_allNumber o_7 g_nodeL g_nodeR o_6 g_part m_partMany g_wasMany g_wasLoss g_wasValue g_wasNumber g_path m_pathMany g_heavyValue g_heavyTimes m_heavyMany g_fewest g_which g_met m_mostMet, kx_a g_row cyI 160 gc, kx_a g_many cyI 324 o_8, kx_a g_loss cyI 324 o_9, kx_a g_less cyI 324 o_10, kx_a g_voteValue cyI 1944 o_11, kx_a g_voteNumber cyI 1944 o_12, kx_a g_allValue cyI 12 o_13, kx_a g_allNumber cyI 12 o_14, kx_a g_nodeL cyI 320 o_15, kx_a g_nodeR cyI 320 o_16, kx_a g_wasMany cyI 320 o_17, kx_a g_wasLoss cyI 320 o_18, kx_a g_wasValue cyI 1920 o_19, kx_a g_wasNumber cyI 1920 o_20] H → va_D A [kx_5 h0 g_row m_n m_slots 0 g_many g_loss g_less g_voteValue g_voteNumber g_allValue g_allNumber o_7 g_nodeL g_nodeR o_6 g_part m_partMany g_wasMany g_wasLoss g_wasValue g_wasNumber g_path m_pathMany g_heavyValue g_heavyTimes m_heavyMany g_fewest g_which g_met m_mostMet, kx_a g_row cyI 160 gc, kx_a g_many cyI 324 o_8, kx_a g_loss cyI 324 o_9, kx_a g_less cyI 324 o_10, kx_a g_voteValue cyI 1944 o_11, kx_a g_voteNumber cyI 1944 o_12, kx_a g_allValue cyI 12 o_13, kx_a g_allNumber cyI 12 o_14, kx_a g_nodeL cyI 320 o_15, kx_a g_nodeR cyI 320 o_16, kx_a g_wasMany cyI 320 o_17, kx_a g_wasLoss cyI 320 o_18, kx_a g_wasValue cyI 1920 o_19, kx_a g_wasNumber cyI 1920 o_20] → va_S A s.heap H locs → ∀ (ls : Array Slot), lv_has ls 5 [(4, .int k), (0, .ref h0), (1, .int p0), (2, .int p1), (3, .int p2)] → W p l e (headSpec wsX5_fill ({ frames := 13, cells := 0, slots := 0, locals := 585 })).room s m ([.ref h0, .int p0, .int p1, .int p2] : List Value).toArray below meth c H locs 0 0 (MQ below (va_Qi (fun (r : Int32) (u : Int32 × Int32 × (Nat → Int32) × (Nat → Int32) × (Nat → Int32) × (Nat → Int32) × (Nat → Int32) × (Nat → Int32) × (Nat → Int32) × (Nat → Int32) × (Nat → Int32) × (Nat → Int32) × (Nat → Int32) × (Nat → Int32) × (Nat → Int32) × (Nat → Int32)) => (((0 ≤ p0.toInt ∧ p0.toInt < p1.toInt ∧ p1.toInt ≤ m_n.toInt ∧ -32768 ≤ p2.toInt ∧ p2.toInt ≤ 32767) ∧ u.2.2.2.2.2.2.2.2.2.2.2.2.2.2.2 = mj_fill f p0.toNatClampNeg p1.toNatClampNeg p2) ∨ ((p0.toInt < 0 ∨ p1.toInt ≤ p0.toInt ∨ m_n.toInt < p1.toInt ∨ p2.toInt < -32768 ∨ 32767 < p2.toInt) ∧ u.2.2.2.2.2.2.2.2.2.2.2.2.2.2.2 = f ∧ r = -1)) ∧ shorts u.2.2.2.2.2.2.2.2.2.2.2.2.2.2.2 ∧ six4 u.2.2.1) (fun (u : Int32 × Int32 × (Nat → Int32) × (Nat → Int32) × (Nat → Int32) × (Nat → Int32) × (Nat → Int32) × (Nat → Int32) × (Nat → Int32) × (Nat → Int32) × (Nat → Int32) × (Nat → Int32) × (Nat → Int32) × (Nat → Int32) × (Nat → Int32) × (Nat → Int32)) (t : State) => va_P (dC, dI) vwCl [kx_5 h0 g_row m_n m_slots 0 g_many g_loss g_less g_voteValue g_voteNumber g_allValue g_allNumber u.2.1 g_nodeL g_nodeR u.1 g_part m_partMany g_wasMany g_wasLoss g_wasValue g_wasNumber g_path m_pathMany g_heavyValue g_heavyTimes m_heavyMany g_fewest g_which g_met m_mostMet, kx_a g_row cyI 160 u.2.2.2.2.2.2.2.2.2.2.2.2.2.2.2, kx_a g_many cyI 324 u.2.2.1, kx_a g_loss cyI 324 u.2.2.2.1, kx_a g_less cyI 324 u.2.2.2.2.1, kx_a g_voteValue cyI 1944 u.2.2.2.2.2.1, kx_a g_voteNumber cyI 1944 u.2.2.2.2.2.2.1, kx_a g_allValue cyI 12 u.2.2.2.2.2.2.2.1, kx_a g_allNumber cyI 12 u.2.2.2.2.2.2.2.2.1, kx_a g_nodeL cyI 320 u.2.2.2.2.2.2.2.2.2.1, kx_a g_nodeR cyI 320 u.2.2.2.2.2.2.2.2.2.2.1, kx_a g_wasMany cyI 320 u.2.2.2.2.2.2.2.2.2.2.2.1, kx_a g_wasLoss cyI 320 u.2.2.2.2.2.2.2.2.2.2.2.2.1, kx_a g_wasValue cyI 1920 u.2.2.2.2.2.2.2.2.2.2.2.2.2.1, kx_a g_wasNumber cyI 1920 u.2.2.2.2.2.2.2.2.2.2.2.2.2.2.1] t.heap ∧ va_K (dC, dI) vwCl [(cyI, .int)] t ∧ va_D A [kx_5 h0 g_row m_n m_slots 0 g_many g_loss g_less g_voteValue g_voteNumber g_allValue g_allNumber u.2.1 g_nodeL g_nodeR u.1 g_part m_partMany g_wasMany g_wasLoss g_wasValue g_wasNumber g_path m_pathMany g_heavyValue g_heavyTimes m_heavyMany g_fewest g_which g_met m_mostMet, kx_a g_row cyI 160 u.2.2.2.2.2.2.2.2.2.2.2.2.2.2.2, kx_a g_many cyI 324 u.2.2.1, kx_a g_loss cyI 324 u.2.2.2.1, kx_a g_less cyI 324 u.2.2.2.2.1, kx_a g_voteValue cyI 1944 u.2.2.2.2.2.1, kx_a g_voteNumber cyI 1944 u.2.2.2.2.2.2.1, kx_a g_allValue cyI 12 u.2.2.2.2.2.2.2.1, kx_a g_allNumber cyI 12 u.2.2.2.2.2.2.2.2.1, kx_a g_nodeL cyI 320 u.2.2.2.2.2.2.2.2.2.1, kx_a g_nodeR cyI 320 u.2.2.2.2.2.2.2.2.2.2.1, kx_a g_wasMany cyI 320 u.2.2.2.2.2.2.2.2.2.2.2.1, kx_a g_wasLoss cyI 320 u.2.2.2.2.2.2.2.2.2.2.2.2.1, kx_a g_wasValue cyI 1920 u.2.2.2.2.2.2.2.2.2.2.2.2.2.1, kx_a g_wasNumber cyI 1920 u.2.2.2.2.2.2.2.2.2.2.2.2.2.2.1]) A) ([.ref h0, .int p0, .int p1, .int p2] : List Value).toArray s 0 0 A) (F0 m 30 ls []) := by
            intro n
            induction n with
            | zero => intro k gc LP1_h0 LP1_h1 LP1_h2 hn; exact absurd hn (Nat.not_lt_zero _)
            | succ n ih1 =>
              intro k gc LP1_h0 LP1_h1 LP1_h2 hn1 H locs hP hD hS ls hl
              have n_k := ki_nat k rfl (om_0 w_1.1 LP1_h0)
              have n_p0 := ki_nat p0 rfl (om_10 w_1.1)
              refine lv_iload hx hb dX5_fill_30 (lv_at hl 0 rfl) ?_
              refine lv_iload_n hx hb dX5_fill_32 rfl (lv_at hl 3 rfl) ?_
              refine lv_icmp_ge (tgt := 50) hx hb dX5_fill_33 (by decide) (fun c_21 => ?_) (fun c_21 => ?_)
              · have i_21 : p1.toInt ≤ k.toInt := kc_le c_21
                refine lv_aload_n hx hb dX5_fill_50 rfl (lv_at hl 1 rfl) ?_
                have hPc := hP
                have hKc := hK
                have hDc := hD
                have hFc := kx_free hD hS hA
                refine va_calli (va_runV (As := []) (rest := []) ⟨hx, hb, hml, hown, hts⟩ (kx_un (c_X5_others l dC dI h0 g_row g_many g_loss g_less g_voteValue g_voteNumber g_allValue g_allNumber g_nodeL g_nodeR g_part g_wasMany g_wasLoss g_wasValue g_wasNumber g_path g_heavyValue g_heavyTimes g_fewest g_which g_met m_n m_slots 0 o_7 o_6 m_partMany m_pathMany m_heavyMany m_mostMet cyI o_8 o_9 o_10 o_11 o_12 gc o_13 o_14 o_15 o_16 o_17 o_18 o_19 o_20 H.size a0 a1 sl0 sl1 w_5)) (cwV 0 hts gX5_fill_X5_others rfl rfl rfl (by decide +kernel) ⟨Nat.le_of_ble_eq_true rfl, Nat.le_of_ble_eq_true rfl⟩) ⟨fun a U g mk q => by obtain ⟨q0, q1, qP, qK, qD⟩ := q; exact ⟨q0, q1, qP, va_K.moved (u := U) (U := U.calling g mk a) (Vm.Alike.refl U.vm) qK, qD⟩, kx_rc5 hKc hPc (q0 := 0) rfl, fun U hU hW => ⟨rfl, by rw [hU], by rw [hU]; exact hPc, va_K.moved hW.alike hKc, hDc.weaken (fun _ _ _ _ => trivial)⟩⟩ rfl rfl hl.1 rfl (lv_room (Nat.le_of_ble_eq_true rfl)) dX5_fill_51 ⟨Nat.le_of_ble_eq_true rfl, Nat.le_of_ble_eq_true rfl⟩) hS (fun q _ h => hFc q h) hFc (fun r_22 u t H1 locs ht hvm w_22 hB hz1 hk1 hS => ?_)
                obtain ⟨o_23, o_24, o_25, o_26, o_27, o_28, o_29, o_30, o_31, o_32, o_33⟩ := u
                dsimp only at w_22 hB
                obtain ⟨hP1, hK1, hD1⟩ := hB
                rw [ht] at hP1
                have hK1 := va_K.moved hvm.symm hK1
                have hD := hD1.weaken (fun _ q _ h => hFc q.1 h)
                have hP := hP1
                clear hP1 hD1 hK1 hk1 hz1 hFc hDc hPc hKc
                generalize H1 = H at hP hS ⊢
                have w_22 : six4 o_25 := w_22
                have hP9 := hP
                have hD9 := hD
                have hK9 := hK
                have e_k : k.toNatClampNeg = p1.toNatClampNeg := by have := ki_nat p1 rfl (by omega); omega
                exact W.iret (v := r_22) hx hb hr (hlocks := hlocks) (fun t ht hW => ⟨⟨r_22, (o_23, o_24, o_25, o_26, o_27, o_28, o_29, o_30, o_31, o_32, o_33, o_17, o_18, o_19, o_20, gc), rfl, ⟨Or.inl ⟨by omega, (by (try dsimp only); rw [LP1_h2, e_k])⟩, (by (try dsimp only); rw [LP1_h2]; exact shorts_fill s1 (by omega) (by omega)), w_22⟩, by rw [ht]; exact hP9, va_K.moved hW.alike hK9, hD9⟩, hS.F ht⟩) hS.2.2 dX5_fill_54
              · have i_21 : k.toInt < p1.toInt := kc_nle c_21
                refine lv_aload_n hx hb dX5_fill_36 rfl (lv_at hl 1 rfl) ?_
                refine va_get (D := (dC, dI)) (ci := 5) (v := .ref g_row) (C := RX5) (T := TX5) (N := 30) hx hb hts hi_5 hown hK hP 0 rfl rfl 0 (by decide) hf_7 (fun _ h9 => h9) rfl dX5_fill_37 ?_
                refine lv_iload hx hb dX5_fill_40 (lv_at hl 0 rfl) ?_
                refine lv_iload_n hx hb dX5_fill_42 rfl (lv_at hl 4 rfl) ?_
                refine va_iast hx hb hK hP hD hS 1 0 rfl rfl (ki_in (om_0 w_1.1 LP1_h0) (om_430 a1 w_1.2.2 i_21)) dX5_fill_43 (fun H locs hP hD hS => ?_)
                obtain ⟨hP, hD⟩ := kx_re (w2 := [kx_5 h0 g_row m_n m_slots 0 g_many g_loss g_less g_voteValue g_voteNumber g_allValue g_allNumber o_7 g_nodeL g_nodeR o_6 g_part m_partMany g_wasMany g_wasLoss g_wasValue g_wasNumber g_path m_pathMany g_heavyValue g_heavyTimes m_heavyMany g_fewest g_which g_met m_mostMet, kx_a g_row cyI 160 (upd gc k.toNatClampNeg p2), kx_a g_many cyI 324 o_8, kx_a g_loss cyI 324 o_9, kx_a g_less cyI 324 o_10, kx_a g_voteValue cyI 1944 o_11, kx_a g_voteNumber cyI 1944 o_12, kx_a g_allValue cyI 12 o_13, kx_a g_allNumber cyI 12 o_14, kx_a g_nodeL cyI 320 o_15, kx_a g_nodeR cyI 320 o_16, kx_a g_wasMany cyI 320 o_17, kx_a g_wasLoss cyI 320 o_18, kx_a g_wasValue cyI 1920 o_19, kx_a g_wasNumber cyI 1920 o_20]) hP hD rfl
                obtain ⟨x_34, ex_34⟩ : ∃ y : Int32, y = k + 1 := ⟨_, rfl⟩
                have i_34 : x_34.toInt = k.toInt + 1 := ki_add ex_34 rfl rfl (om_2 w_1.1 LP1_h0) (om_267 a1 w_1.2.2 LP1_h1)
                refine lv_iinc (v := x_34) (lv' := [(4, .int x_34), (0, .ref h0), (1, .int p0), (2, .int p1), (3, .int p2)]) hx hb dX5_fill_44 hl (k := 0) rfl (by rw [ex_34]; rfl) (by decide) rfl (fun ls hl => ?_)
                refine lv_goto (tgt := 30) hx hb dX5_fill_47 (by decide) ?_
                have n_35 := ki_nat x_34 rfl (om_89 w_1.1 LP1_h0 i_34)
                exact ih1 x_34 (upd gc k.toNatClampNeg p2) (om_4 LP1_h0 i_34) (om_54 i_21 i_34) (by rw [LP1_h2]; exact mj_fill_step (by omega) (by omega)) (om_mu hn1 (om_5 i_34) (om_6 i_21)) _ _ hP hD hS ls (lv_sub hl [0, 1, 2, 3, 4] rfl)
          exact LP1 ((p1.toInt - p0.toInt : Int).toNat + 1) p0 f om_7 (om_414 w_1.2.1) (mj_fill_0 _ _ (Nat.le_refl _)).symm (Nat.lt_succ_self _) _ _ hP hD hS ls (lv_sub hl [0, 1, 2, 3, 4] rfl)
        · exact absurd c_4 (by decide)
      · have w_3 : (p2.toInt < -32768 ∨ 32767 < p2.toInt) := w_3
        refine lv_if_ne (tgt := 23) hx hb dX5_fill_18 (by decide) (fun c_36 => ?_) (fun c_36 => ?_)
        · exact absurd c_36 (by decide)
        · refine lv_iconst (v := (-1)) hx hb dX5_fill_21 (by decide) ?_
          have hP9 := hP
          have hD9 := hD
          have hK9 := hK
          exact W.iret (v := (-1)) hx hb hr (hlocks := hlocks) (fun t ht hW => ⟨⟨(-1), (m_nodes, m_allMany, fm, fl, fe, vv, vn, av, an, nl, nr, wm, wl, wv, wn, f), rfl, ⟨Or.inr ⟨by omega, rfl, rfl⟩, s1, s4⟩, by rw [ht]; exact hP9, va_K.moved hW.alike hK9, hD9⟩, hS.F ht⟩) hS.2.2 dX5_fill_22
  · have w_1 : (p0.toInt < 0 ∨ p1.toInt ≤ p0.toInt ∨ m_n.toInt < p1.toInt) := w_1
    refine lv_if_eq (tgt := 21) hx hb dX5_fill_11 (by decide) (fun c_37 => ?_) (fun c_37 => ?_)
    · refine lv_iconst (v := (-1)) hx hb dX5_fill_21 (by decide) ?_
      have hP9 := hP
      have hD9 := hD
      have hK9 := hK
      exact W.iret (v := (-1)) hx hb hr (hlocks := hlocks) (fun t ht hW => ⟨⟨(-1), (m_nodes, m_allMany, fm, fl, fe, vv, vn, av, an, nl, nr, wm, wl, wv, wn, f), rfl, ⟨Or.inr ⟨by omega, rfl, rfl⟩, s1, s4⟩, by rw [ht]; exact hP9, va_K.moved hW.alike hK9, hD9⟩, hS.F ht⟩) hS.2.2 dX5_fill_22
    · exact absurd c_37 (by decide)

set_option maxHeartbeats 4000000 in
set_option maxRecDepth 100000 in
theorem c_X5_turn (l : Launch) (dC : Nat → ClassId) (dI : Nat → Nat → Nat) (h0 : Nat) (g_row : Nat) (g_many : Nat) (g_loss : Nat) (g_less : Nat) (g_voteValue : Nat) (g_voteNumber : Nat) (g_allValue : Nat) (g_allNumber : Nat) (g_nodeL : Nat) (g_nodeR : Nat) (g_part : Nat) (g_wasMany : Nat) (g_wasLoss : Nat) (g_wasValue : Nat) (g_wasNumber : Nat) (g_path : Nat) (g_heavyValue : Nat) (g_heavyTimes : Nat) (g_fewest : Nat) (g_which : Nat) (g_met : Nat) (m_n : Int32) (m_slots : Int32) (m_thrown : Int32) (m_allMany : Int32) (m_nodes : Int32) (m_partMany : Int32) (m_pathMany : Int32) (m_heavyMany : Int32) (m_mostMet : Int32) (cyI : ClassId) (fm : Nat → Int32) (fl : Nat → Int32) (fe : Nat → Int32) (vv : Nat → Int32) (vn : Nat → Int32) (f : Nat → Int32) (av : Nat → Int32) (an : Nat → Int32) (nl : Nat → Int32) (nr : Nat → Int32) (wm : Nat → Int32) (wl : Nat → Int32) (wv : Nat → Int32) (wn : Nat → Int32) (p0 : Int32) (p1 : Int32) (sz : Nat) (a0 : 0 ≤ m_n.toInt) (a1 : m_n.toInt ≤ 160) (sl0 : 1 ≤ m_slots.toInt) (sl1 : m_slots.toInt ≤ 6) (s4 : six4 fm) (s1 : shorts f) : kx_MQ l (dC, dI) yX5_turn wsX5_turn ({ frames := 13, cells := 0, slots := 0, locals := 585 }) [.ref h0, .int p0, .int p1] [kx_5 h0 g_row m_n m_slots m_thrown g_many g_loss g_less g_voteValue g_voteNumber g_allValue g_allNumber m_allMany g_nodeL g_nodeR m_nodes g_part m_partMany g_wasMany g_wasLoss g_wasValue g_wasNumber g_path m_pathMany g_heavyValue g_heavyTimes m_heavyMany g_fewest g_which g_met m_mostMet, kx_a g_row cyI 160 f, kx_a g_many cyI 324 fm, kx_a g_loss cyI 324 fl, kx_a g_less cyI 324 fe, kx_a g_voteValue cyI 1944 vv, kx_a g_voteNumber cyI 1944 vn, kx_a g_allValue cyI 12 av, kx_a g_allNumber cyI 12 an, kx_a g_nodeL cyI 320 nl, kx_a g_nodeR cyI 320 nr, kx_a g_wasMany cyI 320 wm, kx_a g_wasLoss cyI 320 wl, kx_a g_wasValue cyI 1920 wv, kx_a g_wasNumber cyI 1920 wn] [(cyI, .int)] sz (fun A => va_Qi (fun (r : Int32) (u : Int32 × Int32 × (Nat → Int32) × (Nat → Int32) × (Nat → Int32) × (Nat → Int32) × (Nat → Int32) × (Nat → Int32) × (Nat → Int32) × (Nat → Int32) × (Nat → Int32) × (Nat → Int32) × (Nat → Int32) × (Nat → Int32) × (Nat → Int32) × (Nat → Int32)) => (((0 ≤ p0.toInt ∧ p0.toInt < p1.toInt ∧ p1.toInt ≤ m_n.toInt) ∧ u.2.2.2.2.2.2.2.2.2.2.2.2.2.2.2 = mj_turn f p0.toNatClampNeg p1.toNatClampNeg) ∨ ((p0.toInt < 0 ∨ p1.toInt ≤ p0.toInt ∨ m_n.toInt < p1.toInt) ∧ u.2.2.2.2.2.2.2.2.2.2.2.2.2.2.2 = f ∧ r = -1)) ∧ shorts u.2.2.2.2.2.2.2.2.2.2.2.2.2.2.2 ∧ six4 u.2.2.1) (fun (u : Int32 × Int32 × (Nat → Int32) × (Nat → Int32) × (Nat → Int32) × (Nat → Int32) × (Nat → Int32) × (Nat → Int32) × (Nat → Int32) × (Nat → Int32) × (Nat → Int32) × (Nat → Int32) × (Nat → Int32) × (Nat → Int32) × (Nat → Int32) × (Nat → Int32)) (t : State) => va_P (dC, dI) vwCl [kx_5 h0 g_row m_n m_slots 0 g_many g_loss g_less g_voteValue g_voteNumber g_allValue g_allNumber u.2.1 g_nodeL g_nodeR u.1 g_part m_partMany g_wasMany g_wasLoss g_wasValue g_wasNumber g_path m_pathMany g_heavyValue g_heavyTimes m_heavyMany g_fewest g_which g_met m_mostMet, kx_a g_row cyI 160 u.2.2.2.2.2.2.2.2.2.2.2.2.2.2.2, kx_a g_many cyI 324 u.2.2.1, kx_a g_loss cyI 324 u.2.2.2.1, kx_a g_less cyI 324 u.2.2.2.2.1, kx_a g_voteValue cyI 1944 u.2.2.2.2.2.1, kx_a g_voteNumber cyI 1944 u.2.2.2.2.2.2.1, kx_a g_allValue cyI 12 u.2.2.2.2.2.2.2.1, kx_a g_allNumber cyI 12 u.2.2.2.2.2.2.2.2.1, kx_a g_nodeL cyI 320 u.2.2.2.2.2.2.2.2.2.1, kx_a g_nodeR cyI 320 u.2.2.2.2.2.2.2.2.2.2.1, kx_a g_wasMany cyI 320 u.2.2.2.2.2.2.2.2.2.2.2.1, kx_a g_wasLoss cyI 320 u.2.2.2.2.2.2.2.2.2.2.2.2.1, kx_a g_wasValue cyI 1920 u.2.2.2.2.2.2.2.2.2.2.2.2.2.1, kx_a g_wasNumber cyI 1920 u.2.2.2.2.2.2.2.2.2.2.2.2.2.2.1] t.heap ∧ va_K (dC, dI) vwCl [(cyI, .int)] t ∧ va_D A [kx_5 h0 g_row m_n m_slots 0 g_many g_loss g_less g_voteValue g_voteNumber g_allValue g_allNumber u.2.1 g_nodeL g_nodeR u.1 g_part m_partMany g_wasMany g_wasLoss g_wasValue g_wasNumber g_path m_pathMany g_heavyValue g_heavyTimes m_heavyMany g_fewest g_which g_met m_mostMet, kx_a g_row cyI 160 u.2.2.2.2.2.2.2.2.2.2.2.2.2.2.2, kx_a g_many cyI 324 u.2.2.1, kx_a g_loss cyI 324 u.2.2.2.1, kx_a g_less cyI 324 u.2.2.2.2.1, kx_a g_voteValue cyI 1944 u.2.2.2.2.2.1, kx_a g_voteNumber cyI 1944 u.2.2.2.2.2.2.1, kx_a g_allValue cyI 12 u.2.2.2.2.2.2.2.1, kx_a g_allNumber cyI 12 u.2.2.2.2.2.2.2.2.1, kx_a g_nodeL cyI 320 u.2.2.2.2.2.2.2.2.2.1, kx_a g_nodeR cyI 320 u.2.2.2.2.2.2.2.2.2.2.1, kx_a g_wasMany cyI 320 u.2.2.2.2.2.2.2.2.2.2.2.1, kx_a g_wasLoss cyI 320 u.2.2.2.2.2.2.2.2.2.2.2.2.1, kx_a g_wasValue cyI 1920 u.2.2.2.2.2.2.2.2.2.2.2.2.2.1, kx_a g_wasNumber cyI 1920 u.2.2.2.2.2.2.2.2.2.2.2.2.2.2.1]) A) := by
  refine kx_stQ (ws := wsX5_turn) (cc := cX5_turn) (maxL := 4) (ret := (some .int)) (by decide) rfl (Nat.le_of_ble_eq_true rfl) ?_
  intro p e s m below meth c A ls hx hb hr hlocks hts hown hml hA hS hP hK hD hl
  have hown : s.vm.findClass RX5 = some m.cls := hown
  have hl : lv_has ls 4 [(0, .ref h0), (1, .int p0), (2, .int p1)] := hl
  have hf_77 := hts (.fieldLink RX5 77 "MajorityIndexModel" "thrown" "I") (List.mem_of_getElem? (i := 1) rfl)
  have hi_5 : ∀ w ∈ u_ws RX5 TX5 30, w ∈ wsX5_turn := fun w h => List.mem_cons_of_mem _ (List.mem_append_right _ h)
  refine lv_aload_n hx hb dX5_turn_0 rfl (lv_at hl 0 rfl) ?_
  refine lv_iconst (v := 0) hx hb dX5_turn_1 (by decide) ?_
  refine va_put (D := (dC, dI)) (ci := 5) (v := .int 0) (ty := .int) (C := RX5) (T := TX5) (N := 30) hx hb hts hi_5 tyX5 tyX5_ok nmX5 hown hK hP hD hS 0 rfl rfl 3 (by decide) hf_77 (fun _ h9 => h9) rfl (by decide +kernel) rfl rfl (Nat.le_of_ble_eq_true rfl) dX5_turn_2 (fun H locs hP hD hS => ?_)
  obtain ⟨hP, hD⟩ := kx_re (w2 := [kx_5 h0 g_row m_n m_slots 0 g_many g_loss g_less g_voteValue g_voteNumber g_allValue g_allNumber m_allMany g_nodeL g_nodeR m_nodes g_part m_partMany g_wasMany g_wasLoss g_wasValue g_wasNumber g_path m_pathMany g_heavyValue g_heavyTimes m_heavyMany g_fewest g_which g_met m_mostMet, kx_a g_row cyI 160 f, kx_a g_many cyI 324 fm, kx_a g_loss cyI 324 fl, kx_a g_less cyI 324 fe, kx_a g_voteValue cyI 1944 vv, kx_a g_voteNumber cyI 1944 vn, kx_a g_allValue cyI 12 av, kx_a g_allNumber cyI 12 an, kx_a g_nodeL cyI 320 nl, kx_a g_nodeR cyI 320 nr, kx_a g_wasMany cyI 320 wm, kx_a g_wasLoss cyI 320 wl, kx_a g_wasValue cyI 1920 wv, kx_a g_wasNumber cyI 1920 wn]) hP hD rfl
  refine lv_aload_n hx hb dX5_turn_5 rfl (lv_at hl 0 rfl) ?_
  refine lv_iload_n hx hb dX5_turn_6 rfl (lv_at hl 1 rfl) ?_
  refine lv_iload_n hx hb dX5_turn_7 rfl (lv_at hl 2 rfl) ?_
  have hPc := hP.sub (ws' := [kx_5 h0 g_row m_n m_slots 0 g_many g_loss g_less g_voteValue g_voteNumber g_allValue g_allNumber m_allMany g_nodeL g_nodeR m_nodes g_part m_partMany g_wasMany g_wasLoss g_wasValue g_wasNumber g_path m_pathMany g_heavyValue g_heavyTimes m_heavyMany g_fewest g_which g_met m_mostMet]) [0] rfl
  have hKc := hK.sub (tys' := []) [] rfl
  refine vp_callSi (W.runV (As := [.int p0, .int p1]) (rest := []) ⟨hx, hb, hml, hown, hts⟩ (c_X5_isRange l dC dI h0 g_row g_many g_loss g_less g_voteValue g_voteNumber g_allValue g_allNumber g_nodeL g_nodeR g_part g_wasMany g_wasLoss g_wasValue g_wasNumber g_path g_heavyValue g_heavyTimes g_fewest g_which g_met m_n m_slots 0 m_allMany m_nodes m_partMany m_pathMany m_heavyMany m_mostMet p0 p1) (cwV 2 hts gX5_turn_X5_isRange rfl rfl rfl (by decide +kernel) ⟨Nat.le_of_ble_eq_true rfl, Nat.le_of_ble_eq_true rfl⟩) ⟨fun a U g mk q => by obtain ⟨q0, qP, qK⟩ := q; exact ⟨q0, qP, va_K.moved (u := U) (U := U.calling g mk a) (Vm.Alike.refl U.vm) qK⟩, kx_rc5 hKc hPc (q0 := 0) rfl, fun U hU hW => ⟨rfl, by rw [hU]; exact hPc, va_K.moved hW.alike hKc⟩⟩ rfl rfl hl.1 rfl (lv_room (Nat.le_of_ble_eq_true rfl)) dX5_turn_8 ⟨Nat.le_of_ble_eq_true rfl, Nat.le_of_ble_eq_true rfl⟩) (fun r_1 w_1 => ?_)
  rcases w_1 with ⟨rfl, w_1⟩ | ⟨rfl, w_1⟩
  · have w_1 : (0 ≤ p0.toInt ∧ p0.toInt < p1.toInt ∧ p1.toInt ≤ m_n.toInt) := w_1
    refine lv_if_ne (tgt := 16) hx hb dX5_turn_11 (by decide) (fun c_2 => ?_) (fun c_2 => ?_)
    · refine lv_aload_n hx hb dX5_turn_16 rfl (lv_at hl 0 rfl) ?_
      have hPc := hP
      have hKc := hK
      have hDc := hD
      have hFc := kx_free hD hS hA
      refine va_callv (va_runV (As := []) (rest := []) ⟨hx, hb, hml, hown, hts⟩ (kx_un (c_X5_keeps l dC dI h0 g_row g_many g_loss g_less g_voteValue g_voteNumber g_allValue g_allNumber g_nodeL g_nodeR g_part g_wasMany g_wasLoss g_wasValue g_wasNumber g_path g_heavyValue g_heavyTimes g_fewest g_which g_met m_n m_slots 0 m_allMany m_nodes m_partMany m_pathMany m_heavyMany m_mostMet cyI fm fl fe vv vn f av an nl nr wm wl wv wn H.size a0 a1 sl0 sl1 s4)) (cwV 0 hts gX5_turn_X5_keeps rfl rfl rfl (by decide +kernel) ⟨Nat.le_of_ble_eq_true rfl, Nat.le_of_ble_eq_true rfl⟩) ⟨fun a U g mk q => by obtain ⟨q0, q1, qP, qK, qD⟩ := q; exact ⟨q0, q1, qP, va_K.moved (u := U) (U := U.calling g mk a) (Vm.Alike.refl U.vm) qK, qD⟩, kx_rc5 hKc hPc (q0 := 0) rfl, fun U hU hW => ⟨rfl, by rw [hU], by rw [hU]; exact hPc, va_K.moved hW.alike hKc, hDc.weaken (fun _ _ _ _ => trivial)⟩⟩ rfl rfl hl.1 rfl (lv_room (Nat.le_of_ble_eq_true rfl)) dX5_turn_17 ⟨Nat.le_of_ble_eq_true rfl, Nat.le_of_ble_eq_true rfl⟩) hS (fun q _ h => hFc q h) hFc (fun u t H1 locs ht hvm w_3 hB hz1 hk1 hS => ?_)
      obtain ⟨o_4, o_5, o_6, o_7, o_8, o_9, o_10, o_11, o_12, o_13, o_14, o_15, o_16, o_17, o_18⟩ := u
      dsimp only at w_3 hB
      obtain ⟨hP1, hK1, hD1⟩ := hB
      rw [ht] at hP1
      have hK1 := va_K.moved hvm.symm hK1
      have hD := hD1.weaken (fun _ q _ h => hFc q.1 h)
      have hP := hP1
      clear hP1 hD1 hK1 hk1 hz1 hFc hDc hPc hKc
      generalize H1 = H at hP hS ⊢
      have w_3 : six4 o_6 := w_3
      refine lv_iconst (v := 0) hx hb dX5_turn_20 (by decide) ?_
      refine lv_istore_n (lv' := [(3, .int 0), (0, .ref h0), (1, .int p0), (2, .int p1)]) hx hb dX5_turn_21 rfl hl (by decide) rfl (fun ls hl => ?_)
      have LP1 : ∀ (n : Nat) (k : Int32) (gc : Nat → Int32), (0 ≤ k.toInt) → (2 * k.toInt ≤ p1.toInt - p0.toInt) → (k.toInt ≤ 160) → (gc = mj_tu f p0.toNatClampNeg p1.toNatClampNeg k.toNatClampNeg) → (p1.toInt - p0.toInt - 2 * k.toInt).toNat < n → ∀ (H : Heap) (locs : List Loc), va_P (dC, dI) vwCl [kx_5 h0 g_row m_n m_slots 0 g_many g_loss g_less g_voteValue g_voteNumber g_allValue g_allNumber o_5 g_nodeL g_nodeR o_4 g_part m_partMany g_wasMany g_wasLoss g_wasValue g_wasNumber g_path m_pathMany g_heavyValue g_heavyTimes m_heavyMany g_fewest g_which g_met m_mostMet, kx_a g_row cyI 160 gc, kx_a g_many cyI 324 o_6, kx_a g_loss cyI 324 o_7, kx_a g_less cyI 324 o_8, kx_a g_voteValue cyI 1944 o_9, kx_a g_voteNumber cyI 1944 o_10, kx_a g_allValue cyI 12 o_11, kx_a g_allNumber cyI 12 o_12, kx_a g_nodeL cyI 320 o_13, kx_a g_nodeR cyI 320 o_14, kx_a g_wasMany cyI 320 o_15, kx_a g_wasLoss cyI 320 o_16, kx_a g_wasValue cyI 1920 o_17, kx_a g_wasNumber cyI 1920 o_18] H → va_D A [kx_5 h0 g_row m_n m_slots 0 g_many g_loss g_less g_voteValue g_voteNumber g_allValue g_allNumber o_5 g_nodeL g_nodeR o_4 g_part m_partMany g_wasMany g_wasLoss g_wasValue g_wasNumber g_path m_pathMany g_heavyValue g_heavyTimes m_heavyMany g_fewest g_which g_met m_mostMet, kx_a g_row cyI 160 gc, kx_a g_many cyI 324 o_6, kx_a g_loss cyI 324 o_7, kx_a g_less cyI 324 o_8, kx_a g_voteValue cyI 1944 o_9, kx_a g_voteNumber cyI 1944 o_10, kx_a g_allValue cyI 12 o_11, kx_a g_allNumber cyI 12 o_12, kx_a g_nodeL cyI 320 o_13, kx_a g_nodeR cyI 320 o_14, kx_a g_wasMany cyI 320 o_15, kx_a g_wasLoss cyI 320 o_16, kx_a g_wasValue cyI 1920 o_17, kx_a g_wasNumber cyI 1920 o_18] → va_S A s.heap H locs → ∀ (ls : Array Slot), lv_has ls 4 [(3, .int k), (0, .ref h0), (1, .int p0), (2, .int p1)] → W p l e (headSpec wsX5_turn ({ frames := 13, cells := 0, slots := 0, locals := 585 })).room s m ([.ref h0, .int p0, .int p1] : List Value).toArray below meth c H locs 0 0 (MQ below (va_Qi (fun (r : Int32) (u : Int32 × Int32 × (Nat → Int32) × (Nat → Int32) × (Nat → Int32) × (Nat → Int32) × (Nat → Int32) × (Nat → Int32) × (Nat → Int32) × (Nat → Int32) × (Nat → Int32) × (Nat → Int32) × (Nat → Int32) × (Nat → Int32) × (Nat → Int32) × (Nat → Int32)) => (((0 ≤ p0.toInt ∧ p0.toInt < p1.toInt ∧ p1.toInt ≤ m_n.toInt) ∧ u.2.2.2.2.2.2.2.2.2.2.2.2.2.2.2 = mj_turn f p0.toNatClampNeg p1.toNatClampNeg) ∨ ((p0.toInt < 0 ∨ p1.toInt ≤ p0.toInt ∨ m_n.toInt < p1.toInt) ∧ u.2.2.2.2.2.2.2.2.2.2.2.2.2.2.2 = f ∧ r = -1)) ∧ shorts u.2.2.2.2.2.2.2.2.2.2.2.2.2.2.2 ∧ six4 u.2.2.1) (fun (u : Int32 × Int32 × (Nat → Int32) × (Nat → Int32) × (Nat → Int32) × (Nat → Int32) × (Nat → Int32) × (Nat → Int32) × (Nat → Int32) × (Nat → Int32) × (Nat → Int32) × (Nat → Int32) × (Nat → Int32) × (Nat → Int32) × (Nat → Int32) × (Nat → Int32)) (t : State) => va_P (dC, dI) vwCl [kx_5 h0 g_row m_n m_slots 0 g_many g_loss g_less g_voteValue g_voteNumber g_allValue g_allNumber u.2.1 g_nodeL g_nodeR u.1 g_part m_partMany g_wasMany g_wasLoss g_wasValue g_wasNumber g_path m_pathMany g_heavyValue g_heavyTimes m_heavyMany g_fewest g_which g_met m_mostMet, kx_a g_row cyI 160 u.2.2.2.2.2.2.2.2.2.2.2.2.2.2.2, kx_a g_many cyI 324 u.2.2.1, kx_a g_loss cyI 324 u.2.2.2.1, kx_a g_less cyI 324 u.2.2.2.2.1, kx_a g_voteValue cyI 1944 u.2.2.2.2.2.1, kx_a g_voteNumber cyI 1944 u.2.2.2.2.2.2.1, kx_a g_allValue cyI 12 u.2.2.2.2.2.2.2.1, kx_a g_allNumber cyI 12 u.2.2.2.2.2.2.2.2.1, kx_a g_nodeL cyI 320 u.2.2.2.2.2.2.2.2.2.1, kx_a g_nodeR cyI 320 u.2.2.2.2.2.2.2.2.2.2.1, kx_a g_wasMany cyI 320 u.2.2.2.2.2.2.2.2.2.2.2.1, kx_a g_wasLoss cyI 320 u.2.2.2.2.2.2.2.2.2.2.2.2.1, kx_a g_wasValue cyI 1920 u.2.2.2.2.2.2.2.2.2.2.2.2.2.1, kx_a g_wasNumber cyI 1920 u.2.2.2.2.2.2.2.2.2.2.2.2.2.2.1] t.heap ∧ va_K (dC, dI) vwCl [(cyI, .int)] t ∧ va_D A [kx_5 h0 g_row m_n m_slots 0 g_many g_loss g_less g_voteValue g_voteNumber g_allValue g_allNumber u.2.1 g_nodeL g_nodeR u.1 g_part m_partMany g_wasMany g_wasLoss g_wasValue g_wasNumber g_path m_pathMany g_heavyValue g_heavyTimes m_heavyMany g_fewest g_which g_met m_mostMet, kx_a g_row cyI 160 u.2.2.2.2.2.2.2.2.2.2.2.2.2.2.2, kx_a g_many cyI 324 u.2.2.1, kx_a g_loss cyI 324 u.2.2.2.1, kx_a g_less cyI 324 u.2.2.2.2.1, kx_a g_voteValue cyI 1944 u.2.2.2.2.2.1, kx_a g_voteNumber cyI 1944 u.2.2.2.2.2.2.1, kx_a g_allValue cyI 12 u.2.2.2.2.2.2.2.1, kx_a g_allNumber cyI 12 u.2.2.2.2.2.2.2.2.1, kx_a g_nodeL cyI 320 u.2.2.2.2.2.2.2.2.2.1, kx_a g_nodeR cyI 320 u.2.2.2.2.2.2.2.2.2.2.1, kx_a g_wasMany cyI 320 u.2.2.2.2.2.2.2.2.2.2.2.1, kx_a g_wasLoss cyI 320 u.2.2.2.2.2.2.2.2.2.2.2.2.1, kx_a g_wasValue cyI 1920 u.2.2.2.2.2.2.2.2.2.2.2.2.2.1, kx_a g_wasNumber cyI 1920 u.2.2.2.2.2.2.2.2.2.2.2.2.2.2.1]) A) ([.ref h0, .int p0, .int p1] : List Value).toArray s 0 0 A) (F0 m 22 ls []) := by
        intro n
        induction n with
        | zero => intro k gc LP1_h0 LP1_h1 LP1_h2 LP1_h3 hn; exact absurd hn (Nat.not_lt_zero _)
        | succ n ih1 =>
          intro k gc LP1_h0 LP1_h1 LP1_h2 LP1_h3 hn1 H locs hP hD hS ls hl
          have n_k := ki_nat k rfl (om_10 LP1_h0)
          have n_p0 := ki_nat p0 rfl (om_10 w_1.1)
          have n_p1 := ki_nat p1 rfl (om_21 w_1.1 w_1.2.1)
          refine lv_iload_n hx hb dX5_turn_22 rfl (lv_at hl 0 rfl) ?_
          refine lv_iload_n hx hb dX5_turn_23 rfl (lv_at hl 3 rfl) ?_
          refine lv_iload_n hx hb dX5_turn_24 rfl (lv_at hl 2 rfl) ?_
          refine lv_isub hx hb dX5_turn_25 ?_
          refine lv_topi (fun y_19 ey_19 => ?_)
          have i_19 : y_19.toInt = p1.toInt - p0.toInt := ki_sub ey_19 rfl rfl (om_168 w_1.2.1) (om_169 a1 w_1.1 w_1.2.2)
          refine lv_iconst (v := 2) hx hb dX5_turn_26 (by decide) ?_
          refine lv_idiv hx hb dX5_turn_27 (by decide) ?_
          refine lv_topi (fun y_20 ey_20 => ?_)
          have i_20 : y_20.toInt = y_19.toInt / 2 := ki_div2 ey_20 rfl (om_431 w_1.2.1 i_19)
          have d_21 := om_dv i_20
          refine lv_icmp_ge (tgt := 49) hx hb dX5_turn_28 (by decide) (fun c_22 => ?_) (fun c_22 => ?_)
          · have i_22 : y_20.toInt ≤ k.toInt := kc_le c_22
            refine lv_aload_n hx hb dX5_turn_49 rfl (lv_at hl 1 rfl) ?_
            have hPc := hP
            have hKc := hK
            have hDc := hD
            have hFc := kx_free hD hS hA
            refine va_calli (va_runV (As := []) (rest := []) ⟨hx, hb, hml, hown, hts⟩ (kx_un (c_X5_others l dC dI h0 g_row g_many g_loss g_less g_voteValue g_voteNumber g_allValue g_allNumber g_nodeL g_nodeR g_part g_wasMany g_wasLoss g_wasValue g_wasNumber g_path g_heavyValue g_heavyTimes g_fewest g_which g_met m_n m_slots 0 o_5 o_4 m_partMany m_pathMany m_heavyMany m_mostMet cyI o_6 o_7 o_8 o_9 o_10 gc o_11 o_12 o_13 o_14 o_15 o_16 o_17 o_18 H.size a0 a1 sl0 sl1 w_3)) (cwV 0 hts gX5_turn_X5_others rfl rfl rfl (by decide +kernel) ⟨Nat.le_of_ble_eq_true rfl, Nat.le_of_ble_eq_true rfl⟩) ⟨fun a U g mk q => by obtain ⟨q0, q1, qP, qK, qD⟩ := q; exact ⟨q0, q1, qP, va_K.moved (u := U) (U := U.calling g mk a) (Vm.Alike.refl U.vm) qK, qD⟩, kx_rc5 hKc hPc (q0 := 0) rfl, fun U hU hW => ⟨rfl, by rw [hU], by rw [hU]; exact hPc, va_K.moved hW.alike hKc, hDc.weaken (fun _ _ _ _ => trivial)⟩⟩ rfl rfl hl.1 rfl (lv_room (Nat.le_of_ble_eq_true rfl)) dX5_turn_50 ⟨Nat.le_of_ble_eq_true rfl, Nat.le_of_ble_eq_true rfl⟩) hS (fun q _ h => hFc q h) hFc (fun r_23 u t H1 locs ht hvm w_23 hB hz1 hk1 hS => ?_)
            obtain ⟨o_24, o_25, o_26, o_27, o_28, o_29, o_30, o_31, o_32, o_33, o_34⟩ := u
            dsimp only at w_23 hB
            obtain ⟨hP1, hK1, hD1⟩ := hB
            rw [ht] at hP1
            have hK1 := va_K.moved hvm.symm hK1
            have hD := hD1.weaken (fun _ q _ h => hFc q.1 h)
            have hP := hP1
            clear hP1 hD1 hK1 hk1 hz1 hFc hDc hPc hKc
            generalize H1 = H at hP hS ⊢
            have w_23 : six4 o_26 := w_23
            have hP9 := hP
            have hD9 := hD
            have hK9 := hK
            have e_t : gc = mj_turn f p0.toNatClampNeg p1.toNatClampNeg := by rw [LP1_h3]; exact mj_tu_end (by omega) (by omega) (by omega)
            exact W.iret (v := r_23) hx hb hr (hlocks := hlocks) (fun t ht hW => ⟨⟨r_23, (o_24, o_25, o_26, o_27, o_28, o_29, o_30, o_31, o_32, o_33, o_34, o_15, o_16, o_17, o_18, gc), rfl, ⟨Or.inl ⟨by omega, e_t⟩, (by (try dsimp only); rw [e_t]; exact shorts_turn s1 (by omega)), w_23⟩, by rw [ht]; exact hP9, va_K.moved hW.alike hK9, hD9⟩, hS.F ht⟩) hS.2.2 dX5_turn_53
          · have i_22 : k.toInt < y_20.toInt := kc_nle c_22
            refine lv_aload_n hx hb dX5_turn_31 rfl (lv_at hl 1 rfl) ?_
            refine lv_iload_n hx hb dX5_turn_32 rfl (lv_at hl 2 rfl) ?_
            refine lv_iload_n hx hb dX5_turn_33 rfl (lv_at hl 0 rfl) ?_
            refine lv_iadd hx hb dX5_turn_34 ?_
            refine lv_topi (fun y_35 ey_35 => ?_)
            have i_35 : y_35.toInt = p0.toInt + k.toInt := ki_add ey_35 rfl rfl (om_432 w_1.1 LP1_h0) (om_433 a1 w_1.2.1 w_1.2.2 LP1_h1)
            refine lv_iload_n hx hb dX5_turn_35 rfl (lv_at hl 3 rfl) ?_
            refine lv_iconst (v := 1) hx hb dX5_turn_36 (by decide) ?_
            refine lv_isub hx hb dX5_turn_37 ?_
            refine lv_topi (fun y_36 ey_36 => ?_)
            have i_36 : y_36.toInt = p1.toInt - 1 := ki_sub ey_36 rfl rfl (om_17 w_1.1 w_1.2.1) (om_183 a1 w_1.2.2)
            refine lv_iload_n hx hb dX5_turn_38 rfl (lv_at hl 0 rfl) ?_
            refine lv_isub hx hb dX5_turn_39 ?_
            refine lv_topi (fun y_37 ey_37 => ?_)
            have i_37 : y_37.toInt = y_36.toInt - k.toInt := ki_sub ey_37 rfl rfl (om_434 w_1.1 w_1.2.1 LP1_h1 i_36) (om_435 a1 w_1.2.2 LP1_h0 i_36)
            obtain ⟨hPc, hDc, hFc, hCc⟩ := kx_preM (wc := [kx_5 h0 g_row m_n m_slots 0 g_many g_loss g_less g_voteValue g_voteNumber g_allValue g_allNumber o_5 g_nodeL g_nodeR o_4 g_part m_partMany g_wasMany g_wasLoss g_wasValue g_wasNumber g_path m_pathMany g_heavyValue g_heavyTimes m_heavyMany g_fewest g_which g_met m_mostMet, kx_a g_row cyI 160 gc]) hP hD hS hA [true, true, false, false, false, false, false, false, false, false, false, false, false, false, false] rfl
            have hKc := hK
            refine va_callv (va_runV (As := [.int y_35, .int y_37]) (rest := []) ⟨hx, hb, hml, hown, hts⟩ (kx_un (c_X5_exchanges l dC dI h0 g_row g_many g_loss g_less g_voteValue g_voteNumber g_allValue g_allNumber g_nodeL g_nodeR g_part g_wasMany g_wasLoss g_wasValue g_wasNumber g_path g_heavyValue g_heavyTimes g_fewest g_which g_met m_n m_slots 0 o_5 o_4 m_partMany m_pathMany m_heavyMany m_mostMet cyI gc y_35 y_37 H.size (om_436 w_1.1 LP1_h0 i_35) (om_437 a1 w_1.2.1 w_1.2.2 LP1_h1 i_19 d_21.1 i_22 i_35) (om_438 w_1.1 w_1.2.1 LP1_h1 i_19 d_21.1 i_22 i_36 i_37) (om_439 a1 w_1.2.2 LP1_h0 i_36 i_37))) (cwV 2 hts gX5_turn_X5_exchanges rfl rfl rfl (by decide +kernel) ⟨Nat.le_of_ble_eq_true rfl, Nat.le_of_ble_eq_true rfl⟩) ⟨fun a U g mk q => by obtain ⟨q0, q1, qP, qK, qD⟩ := q; exact ⟨q0, q1, qP, va_K.moved (u := U) (U := U.calling g mk a) (Vm.Alike.refl U.vm) qK, qD⟩, kx_rc5 hKc hPc (q0 := 0) rfl, fun U hU hW => ⟨rfl, by rw [hU], by rw [hU]; exact hPc, va_K.moved hW.alike hKc, hDc.weaken (fun _ _ _ _ => trivial)⟩⟩ rfl rfl hl.1 rfl (lv_room (Nat.le_of_ble_eq_true rfl)) dX5_turn_40 ⟨Nat.le_of_ble_eq_true rfl, Nat.le_of_ble_eq_true rfl⟩) hS (fun q _ h => hFc q h) hFc (fun u t H1 locs ht hvm w_38 hB hz1 hk1 hS => ?_)
            obtain ⟨o_39, rfl⟩ : ∃ z, z = u := ⟨_, rfl⟩
            obtain ⟨hP1, hK1, hD1⟩ := hB
            rw [ht] at hP1
            have hK1 := va_K.moved hvm.symm hK1
            obtain ⟨hP, hD⟩ := kx_joinM (w2 := [kx_5 h0 g_row m_n m_slots 0 g_many g_loss g_less g_voteValue g_voteNumber g_allValue g_allNumber o_5 g_nodeL g_nodeR o_4 g_part m_partMany g_wasMany g_wasLoss g_wasValue g_wasNumber g_path m_pathMany g_heavyValue g_heavyTimes m_heavyMany g_fewest g_which g_met m_mostMet, kx_a g_row cyI 160 o_39, kx_a g_many cyI 324 o_6, kx_a g_loss cyI 324 o_7, kx_a g_less cyI 324 o_8, kx_a g_voteValue cyI 1944 o_9, kx_a g_voteNumber cyI 1944 o_10, kx_a g_allValue cyI 12 o_11, kx_a g_allNumber cyI 12 o_12, kx_a g_nodeL cyI 320 o_13, kx_a g_nodeR cyI 320 o_14, kx_a g_wasMany cyI 320 o_15, kx_a g_wasLoss cyI 320 o_16, kx_a g_wasValue cyI 1920 o_17, kx_a g_wasNumber cyI 1920 o_18]) hP hD hP1 hD1 hk1 hFc [true, true, false, false, false, false, false, false, false, false, false, false, false, false, false] hCc rfl
            clear hP1 hD1 hK1 hk1 hz1 hFc hDc hPc hKc hCc
            generalize H1 = H at hP hS ⊢
            have w_38 : o_39 = mj_ex gc y_35.toNatClampNeg y_37.toNatClampNeg := w_38
            obtain ⟨x_40, ex_40⟩ : ∃ y : Int32, y = k + 1 := ⟨_, rfl⟩
            have i_40 : x_40.toInt = k.toInt + 1 := ki_add ex_40 rfl rfl (om_13 LP1_h0) (om_192 LP1_h2)
            refine lv_iinc (v := x_40) (lv' := [(3, .int x_40), (0, .ref h0), (1, .int p0), (2, .int p1)]) hx hb dX5_turn_43 hl (k := 0) rfl (by rw [ex_40]; rfl) (by decide) rfl (fun ls hl => ?_)
            refine lv_goto (tgt := 22) hx hb dX5_turn_46 (by decide) ?_
            have n_41 := ki_nat y_35 rfl (om_436 w_1.1 LP1_h0 i_35)
            have n_42 := ki_nat y_37 rfl (om_438 w_1.1 w_1.2.1 LP1_h1 i_19 d_21.1 i_22 i_36 i_37)
            have n_43 := ki_nat x_40 rfl (om_34 LP1_h0 i_40)
            exact ih1 x_40 o_39 (om_34 LP1_h0 i_40) (om_440 i_19 d_21.1 i_22 i_40) (om_441 a1 w_1.1 w_1.2.2 LP1_h1 LP1_h2 i_40) (by rw [w_38, LP1_h3]; exact mj_tu_step (by omega) (by omega) (by omega) (by omega) (by omega)) (om_mu hn1 (om_442 i_40) (om_443 LP1_h1 i_19 d_21.1 i_22)) _ _ hP hD hS ls (lv_sub hl [0, 1, 2, 3] rfl)
      have k_44 : (0 : Int32).toInt = 0 := rfl
      exact LP1 ((p1.toInt - p0.toInt - 2 * 0 : Int).toNat + 1) 0 f om_35 (om_444 w_1.2.1) om_415 (mj_tu_0 _ _ _ rfl).symm (Nat.lt_succ_self _) _ _ hP hD hS ls (lv_sub hl [0, 1, 2, 3] rfl)
    · exact absurd c_2 (by decide)
  · have w_1 : (p0.toInt < 0 ∨ p1.toInt ≤ p0.toInt ∨ m_n.toInt < p1.toInt) := w_1
    refine lv_if_ne (tgt := 16) hx hb dX5_turn_11 (by decide) (fun c_45 => ?_) (fun c_45 => ?_)
    · exact absurd c_45 (by decide)
    · refine lv_iconst (v := (-1)) hx hb dX5_turn_14 (by decide) ?_
      have hP9 := hP
      have hD9 := hD
      have hK9 := hK
      exact W.iret (v := (-1)) hx hb hr (hlocks := hlocks) (fun t ht hW => ⟨⟨(-1), (m_nodes, m_allMany, fm, fl, fe, vv, vn, av, an, nl, nr, wm, wl, wv, wn, f), rfl, ⟨Or.inr ⟨by omega, rfl, rfl⟩, s1, s4⟩, by rw [ht]; exact hP9, va_K.moved hW.alike hK9, hD9⟩, hS.F ht⟩) hS.2.2 dX5_turn_15

set_option maxHeartbeats 4000000 in
set_option maxRecDepth 100000 in
theorem c_X5_swap (l : Launch) (dC : Nat → ClassId) (dI : Nat → Nat → Nat) (h0 : Nat) (g_row : Nat) (g_many : Nat) (g_loss : Nat) (g_less : Nat) (g_voteValue : Nat) (g_voteNumber : Nat) (g_allValue : Nat) (g_allNumber : Nat) (g_nodeL : Nat) (g_nodeR : Nat) (g_part : Nat) (g_wasMany : Nat) (g_wasLoss : Nat) (g_wasValue : Nat) (g_wasNumber : Nat) (g_path : Nat) (g_heavyValue : Nat) (g_heavyTimes : Nat) (g_fewest : Nat) (g_which : Nat) (g_met : Nat) (m_n : Int32) (m_slots : Int32) (m_thrown : Int32) (m_allMany : Int32) (m_nodes : Int32) (m_partMany : Int32) (m_pathMany : Int32) (m_heavyMany : Int32) (m_mostMet : Int32) (cyI : ClassId) (fm : Nat → Int32) (fl : Nat → Int32) (fe : Nat → Int32) (vv : Nat → Int32) (vn : Nat → Int32) (f : Nat → Int32) (av : Nat → Int32) (an : Nat → Int32) (nl : Nat → Int32) (nr : Nat → Int32) (wm : Nat → Int32) (wl : Nat → Int32) (wv : Nat → Int32) (wn : Nat → Int32) (p0 : Int32) (p1 : Int32) (sz : Nat) (a0 : 0 ≤ m_n.toInt) (a1 : m_n.toInt ≤ 160) (sl0 : 1 ≤ m_slots.toInt) (sl1 : m_slots.toInt ≤ 6) (s4 : six4 fm) (s1 : shorts f) : kx_MQ l (dC, dI) yX5_swap wsX5_swap ({ frames := 13, cells := 0, slots := 0, locals := 585 }) [.ref h0, .int p0, .int p1] [kx_5 h0 g_row m_n m_slots m_thrown g_many g_loss g_less g_voteValue g_voteNumber g_allValue g_allNumber m_allMany g_nodeL g_nodeR m_nodes g_part m_partMany g_wasMany g_wasLoss g_wasValue g_wasNumber g_path m_pathMany g_heavyValue g_heavyTimes m_heavyMany g_fewest g_which g_met m_mostMet, kx_a g_row cyI 160 f, kx_a g_many cyI 324 fm, kx_a g_loss cyI 324 fl, kx_a g_less cyI 324 fe, kx_a g_voteValue cyI 1944 vv, kx_a g_voteNumber cyI 1944 vn, kx_a g_allValue cyI 12 av, kx_a g_allNumber cyI 12 an, kx_a g_nodeL cyI 320 nl, kx_a g_nodeR cyI 320 nr, kx_a g_wasMany cyI 320 wm, kx_a g_wasLoss cyI 320 wl, kx_a g_wasValue cyI 1920 wv, kx_a g_wasNumber cyI 1920 wn] [(cyI, .int)] sz (fun A => va_Qi (fun (r : Int32) (u : Int32 × Int32 × (Nat → Int32) × (Nat → Int32) × (Nat → Int32) × (Nat → Int32) × (Nat → Int32) × (Nat → Int32) × (Nat → Int32) × (Nat → Int32) × (Nat → Int32) × (Nat → Int32) × (Nat → Int32) × (Nat → Int32) × (Nat → Int32) × (Nat → Int32)) => (((0 ≤ p0.toInt ∧ p0.toInt < m_n.toInt ∧ 0 ≤ p1.toInt ∧ p1.toInt < m_n.toInt) ∧ u.2.2.2.2.2.2.2.2.2.2.2.2.2.2.2 = mj_ex f p0.toNatClampNeg p1.toNatClampNeg) ∨ ((p0.toInt < 0 ∨ m_n.toInt ≤ p0.toInt ∨ p1.toInt < 0 ∨ m_n.toInt ≤ p1.toInt) ∧ u.2.2.2.2.2.2.2.2.2.2.2.2.2.2.2 = f ∧ r = -1)) ∧ shorts u.2.2.2.2.2.2.2.2.2.2.2.2.2.2.2 ∧ six4 u.2.2.1) (fun (u : Int32 × Int32 × (Nat → Int32) × (Nat → Int32) × (Nat → Int32) × (Nat → Int32) × (Nat → Int32) × (Nat → Int32) × (Nat → Int32) × (Nat → Int32) × (Nat → Int32) × (Nat → Int32) × (Nat → Int32) × (Nat → Int32) × (Nat → Int32) × (Nat → Int32)) (t : State) => va_P (dC, dI) vwCl [kx_5 h0 g_row m_n m_slots 0 g_many g_loss g_less g_voteValue g_voteNumber g_allValue g_allNumber u.2.1 g_nodeL g_nodeR u.1 g_part m_partMany g_wasMany g_wasLoss g_wasValue g_wasNumber g_path m_pathMany g_heavyValue g_heavyTimes m_heavyMany g_fewest g_which g_met m_mostMet, kx_a g_row cyI 160 u.2.2.2.2.2.2.2.2.2.2.2.2.2.2.2, kx_a g_many cyI 324 u.2.2.1, kx_a g_loss cyI 324 u.2.2.2.1, kx_a g_less cyI 324 u.2.2.2.2.1, kx_a g_voteValue cyI 1944 u.2.2.2.2.2.1, kx_a g_voteNumber cyI 1944 u.2.2.2.2.2.2.1, kx_a g_allValue cyI 12 u.2.2.2.2.2.2.2.1, kx_a g_allNumber cyI 12 u.2.2.2.2.2.2.2.2.1, kx_a g_nodeL cyI 320 u.2.2.2.2.2.2.2.2.2.1, kx_a g_nodeR cyI 320 u.2.2.2.2.2.2.2.2.2.2.1, kx_a g_wasMany cyI 320 u.2.2.2.2.2.2.2.2.2.2.2.1, kx_a g_wasLoss cyI 320 u.2.2.2.2.2.2.2.2.2.2.2.2.1, kx_a g_wasValue cyI 1920 u.2.2.2.2.2.2.2.2.2.2.2.2.2.1, kx_a g_wasNumber cyI 1920 u.2.2.2.2.2.2.2.2.2.2.2.2.2.2.1] t.heap ∧ va_K (dC, dI) vwCl [(cyI, .int)] t ∧ va_D A [kx_5 h0 g_row m_n m_slots 0 g_many g_loss g_less g_voteValue g_voteNumber g_allValue g_allNumber u.2.1 g_nodeL g_nodeR u.1 g_part m_partMany g_wasMany g_wasLoss g_wasValue g_wasNumber g_path m_pathMany g_heavyValue g_heavyTimes m_heavyMany g_fewest g_which g_met m_mostMet, kx_a g_row cyI 160 u.2.2.2.2.2.2.2.2.2.2.2.2.2.2.2, kx_a g_many cyI 324 u.2.2.1, kx_a g_loss cyI 324 u.2.2.2.1, kx_a g_less cyI 324 u.2.2.2.2.1, kx_a g_voteValue cyI 1944 u.2.2.2.2.2.1, kx_a g_voteNumber cyI 1944 u.2.2.2.2.2.2.1, kx_a g_allValue cyI 12 u.2.2.2.2.2.2.2.1, kx_a g_allNumber cyI 12 u.2.2.2.2.2.2.2.2.1, kx_a g_nodeL cyI 320 u.2.2.2.2.2.2.2.2.2.1, kx_a g_nodeR cyI 320 u.2.2.2.2.2.2.2.2.2.2.1, kx_a g_wasMany cyI 320 u.2.2.2.2.2.2.2.2.2.2.2.1, kx_a g_wasLoss cyI 320 u.2.2.2.2.2.2.2.2.2.2.2.2.1, kx_a g_wasValue cyI 1920 u.2.2.2.2.2.2.2.2.2.2.2.2.2.1, kx_a g_wasNumber cyI 1920 u.2.2.2.2.2.2.2.2.2.2.2.2.2.2.1]) A) := by
  refine kx_stQ (ws := wsX5_swap) (cc := cX5_swap) (maxL := 3) (ret := (some .int)) (by decide) rfl (Nat.le_of_ble_eq_true rfl) ?_
  intro p e s m below meth c A ls hx hb hr hlocks hts hown hml hA hS hP hK hD hl
  have hown : s.vm.findClass RX5 = some m.cls := hown
  have hl : lv_has ls 3 [(0, .ref h0), (1, .int p0), (2, .int p1)] := hl
  have hf_77 := hts (.fieldLink RX5 77 "MajorityIndexModel" "thrown" "I") (List.mem_of_getElem? (i := 1) rfl)
  have hi_5 : ∀ w ∈ u_ws RX5 TX5 30, w ∈ wsX5_swap := fun w h => List.mem_cons_of_mem _ (List.mem_append_right _ h)
  refine lv_aload_n hx hb dX5_swap_0 rfl (lv_at hl 0 rfl) ?_
  refine lv_iconst (v := 0) hx hb dX5_swap_1 (by decide) ?_
  refine va_put (D := (dC, dI)) (ci := 5) (v := .int 0) (ty := .int) (C := RX5) (T := TX5) (N := 30) hx hb hts hi_5 tyX5 tyX5_ok nmX5 hown hK hP hD hS 0 rfl rfl 3 (by decide) hf_77 (fun _ h9 => h9) rfl (by decide +kernel) rfl rfl (Nat.le_of_ble_eq_true rfl) dX5_swap_2 (fun H locs hP hD hS => ?_)
  obtain ⟨hP, hD⟩ := kx_re (w2 := [kx_5 h0 g_row m_n m_slots 0 g_many g_loss g_less g_voteValue g_voteNumber g_allValue g_allNumber m_allMany g_nodeL g_nodeR m_nodes g_part m_partMany g_wasMany g_wasLoss g_wasValue g_wasNumber g_path m_pathMany g_heavyValue g_heavyTimes m_heavyMany g_fewest g_which g_met m_mostMet, kx_a g_row cyI 160 f, kx_a g_many cyI 324 fm, kx_a g_loss cyI 324 fl, kx_a g_less cyI 324 fe, kx_a g_voteValue cyI 1944 vv, kx_a g_voteNumber cyI 1944 vn, kx_a g_allValue cyI 12 av, kx_a g_allNumber cyI 12 an, kx_a g_nodeL cyI 320 nl, kx_a g_nodeR cyI 320 nr, kx_a g_wasMany cyI 320 wm, kx_a g_wasLoss cyI 320 wl, kx_a g_wasValue cyI 1920 wv, kx_a g_wasNumber cyI 1920 wn]) hP hD rfl
  refine lv_aload_n hx hb dX5_swap_5 rfl (lv_at hl 0 rfl) ?_
  refine lv_iload_n hx hb dX5_swap_6 rfl (lv_at hl 1 rfl) ?_
  have hPc := hP.sub (ws' := [kx_5 h0 g_row m_n m_slots 0 g_many g_loss g_less g_voteValue g_voteNumber g_allValue g_allNumber m_allMany g_nodeL g_nodeR m_nodes g_part m_partMany g_wasMany g_wasLoss g_wasValue g_wasNumber g_path m_pathMany g_heavyValue g_heavyTimes m_heavyMany g_fewest g_which g_met m_mostMet]) [0] rfl
  have hKc := hK.sub (tys' := []) [] rfl
  refine vp_callSi (W.runV (As := [.int p0]) (rest := []) ⟨hx, hb, hml, hown, hts⟩ (c_X5_isPlace l dC dI h0 g_row g_many g_loss g_less g_voteValue g_voteNumber g_allValue g_allNumber g_nodeL g_nodeR g_part g_wasMany g_wasLoss g_wasValue g_wasNumber g_path g_heavyValue g_heavyTimes g_fewest g_which g_met m_n m_slots 0 m_allMany m_nodes m_partMany m_pathMany m_heavyMany m_mostMet p0 a0 a1) (cwV 1 hts gX5_swap_X5_isPlace rfl rfl rfl (by decide +kernel) ⟨Nat.le_of_ble_eq_true rfl, Nat.le_of_ble_eq_true rfl⟩) ⟨fun a U g mk q => by obtain ⟨q0, qP, qK⟩ := q; exact ⟨q0, qP, va_K.moved (u := U) (U := U.calling g mk a) (Vm.Alike.refl U.vm) qK⟩, kx_rc5 hKc hPc (q0 := 0) rfl, fun U hU hW => ⟨rfl, by rw [hU]; exact hPc, va_K.moved hW.alike hKc⟩⟩ rfl rfl hl.1 rfl (lv_room (Nat.le_of_ble_eq_true rfl)) dX5_swap_7 ⟨Nat.le_of_ble_eq_true rfl, Nat.le_of_ble_eq_true rfl⟩) (fun r_1 w_1 => ?_)
  rcases w_1 with ⟨rfl, w_1⟩ | ⟨rfl, w_1⟩
  · have w_1 : (0 ≤ p0.toInt ∧ p0.toInt < m_n.toInt) := w_1
    refine lv_if_eq (tgt := 21) hx hb dX5_swap_10 (by decide) (fun c_2 => ?_) (fun c_2 => ?_)
    · exact absurd c_2 (by decide)
    · refine lv_aload_n hx hb dX5_swap_13 rfl (lv_at hl 0 rfl) ?_
      refine lv_iload_n hx hb dX5_swap_14 rfl (lv_at hl 2 rfl) ?_
      have hPc := hP.sub (ws' := [kx_5 h0 g_row m_n m_slots 0 g_many g_loss g_less g_voteValue g_voteNumber g_allValue g_allNumber m_allMany g_nodeL g_nodeR m_nodes g_part m_partMany g_wasMany g_wasLoss g_wasValue g_wasNumber g_path m_pathMany g_heavyValue g_heavyTimes m_heavyMany g_fewest g_which g_met m_mostMet]) [0] rfl
      have hKc := hK.sub (tys' := []) [] rfl
      refine vp_callSi (W.runV (As := [.int p1]) (rest := []) ⟨hx, hb, hml, hown, hts⟩ (c_X5_isPlace l dC dI h0 g_row g_many g_loss g_less g_voteValue g_voteNumber g_allValue g_allNumber g_nodeL g_nodeR g_part g_wasMany g_wasLoss g_wasValue g_wasNumber g_path g_heavyValue g_heavyTimes g_fewest g_which g_met m_n m_slots 0 m_allMany m_nodes m_partMany m_pathMany m_heavyMany m_mostMet p1 a0 a1) (cwV 1 hts gX5_swap_X5_isPlace rfl rfl rfl (by decide +kernel) ⟨Nat.le_of_ble_eq_true rfl, Nat.le_of_ble_eq_true rfl⟩) ⟨fun a U g mk q => by obtain ⟨q0, qP, qK⟩ := q; exact ⟨q0, qP, va_K.moved (u := U) (U := U.calling g mk a) (Vm.Alike.refl U.vm) qK⟩, kx_rc5 hKc hPc (q0 := 0) rfl, fun U hU hW => ⟨rfl, by rw [hU]; exact hPc, va_K.moved hW.alike hKc⟩⟩ rfl rfl hl.1 rfl (lv_room (Nat.le_of_ble_eq_true rfl)) dX5_swap_15 ⟨Nat.le_of_ble_eq_true rfl, Nat.le_of_ble_eq_true rfl⟩) (fun r_3 w_3 => ?_)
      rcases w_3 with ⟨rfl, w_3⟩ | ⟨rfl, w_3⟩
      · have w_3 : (0 ≤ p1.toInt ∧ p1.toInt < m_n.toInt) := w_3
        refine lv_if_ne (tgt := 23) hx hb dX5_swap_18 (by decide) (fun c_4 => ?_) (fun c_4 => ?_)
        · refine lv_aload_n hx hb dX5_swap_23 rfl (lv_at hl 0 rfl) ?_
          have hPc := hP
          have hKc := hK
          have hDc := hD
          have hFc := kx_free hD hS hA
          refine va_callv (va_runV (As := []) (rest := []) ⟨hx, hb, hml, hown, hts⟩ (kx_un (c_X5_keeps l dC dI h0 g_row g_many g_loss g_less g_voteValue g_voteNumber g_allValue g_allNumber g_nodeL g_nodeR g_part g_wasMany g_wasLoss g_wasValue g_wasNumber g_path g_heavyValue g_heavyTimes g_fewest g_which g_met m_n m_slots 0 m_allMany m_nodes m_partMany m_pathMany m_heavyMany m_mostMet cyI fm fl fe vv vn f av an nl nr wm wl wv wn H.size a0 a1 sl0 sl1 s4)) (cwV 0 hts gX5_swap_X5_keeps rfl rfl rfl (by decide +kernel) ⟨Nat.le_of_ble_eq_true rfl, Nat.le_of_ble_eq_true rfl⟩) ⟨fun a U g mk q => by obtain ⟨q0, q1, qP, qK, qD⟩ := q; exact ⟨q0, q1, qP, va_K.moved (u := U) (U := U.calling g mk a) (Vm.Alike.refl U.vm) qK, qD⟩, kx_rc5 hKc hPc (q0 := 0) rfl, fun U hU hW => ⟨rfl, by rw [hU], by rw [hU]; exact hPc, va_K.moved hW.alike hKc, hDc.weaken (fun _ _ _ _ => trivial)⟩⟩ rfl rfl hl.1 rfl (lv_room (Nat.le_of_ble_eq_true rfl)) dX5_swap_24 ⟨Nat.le_of_ble_eq_true rfl, Nat.le_of_ble_eq_true rfl⟩) hS (fun q _ h => hFc q h) hFc (fun u t H1 locs ht hvm w_5 hB hz1 hk1 hS => ?_)
          obtain ⟨o_6, o_7, o_8, o_9, o_10, o_11, o_12, o_13, o_14, o_15, o_16, o_17, o_18, o_19, o_20⟩ := u
          dsimp only at w_5 hB
          obtain ⟨hP1, hK1, hD1⟩ := hB
          rw [ht] at hP1
          have hK1 := va_K.moved hvm.symm hK1
          have hD := hD1.weaken (fun _ q _ h => hFc q.1 h)
          have hP := hP1
          clear hP1 hD1 hK1 hk1 hz1 hFc hDc hPc hKc
          generalize H1 = H at hP hS ⊢
          have w_5 : six4 o_8 := w_5
          refine lv_aload_n hx hb dX5_swap_27 rfl (lv_at hl 0 rfl) ?_
          refine lv_iload_n hx hb dX5_swap_28 rfl (lv_at hl 1 rfl) ?_
          refine lv_iload_n hx hb dX5_swap_29 rfl (lv_at hl 2 rfl) ?_
          obtain ⟨hPc, hDc, hFc, hCc⟩ := kx_preM (wc := [kx_5 h0 g_row m_n m_slots 0 g_many g_loss g_less g_voteValue g_voteNumber g_allValue g_allNumber o_7 g_nodeL g_nodeR o_6 g_part m_partMany g_wasMany g_wasLoss g_wasValue g_wasNumber g_path m_pathMany g_heavyValue g_heavyTimes m_heavyMany g_fewest g_which g_met m_mostMet, kx_a g_row cyI 160 f]) hP hD hS hA [true, true, false, false, false, false, false, false, false, false, false, false, false, false, false] rfl
          have hKc := hK
          refine va_callv (va_runV (As := [.int p0, .int p1]) (rest := []) ⟨hx, hb, hml, hown, hts⟩ (kx_un (c_X5_exchanges l dC dI h0 g_row g_many g_loss g_less g_voteValue g_voteNumber g_allValue g_allNumber g_nodeL g_nodeR g_part g_wasMany g_wasLoss g_wasValue g_wasNumber g_path g_heavyValue g_heavyTimes g_fewest g_which g_met m_n m_slots 0 o_7 o_6 m_partMany m_pathMany m_heavyMany m_mostMet cyI f p0 p1 H.size (om_10 w_1.1) (om_143 a1 w_1.2) (om_10 w_3.1) (om_143 a1 w_3.2))) (cwV 2 hts gX5_swap_X5_exchanges rfl rfl rfl (by decide +kernel) ⟨Nat.le_of_ble_eq_true rfl, Nat.le_of_ble_eq_true rfl⟩) ⟨fun a U g mk q => by obtain ⟨q0, q1, qP, qK, qD⟩ := q; exact ⟨q0, q1, qP, va_K.moved (u := U) (U := U.calling g mk a) (Vm.Alike.refl U.vm) qK, qD⟩, kx_rc5 hKc hPc (q0 := 0) rfl, fun U hU hW => ⟨rfl, by rw [hU], by rw [hU]; exact hPc, va_K.moved hW.alike hKc, hDc.weaken (fun _ _ _ _ => trivial)⟩⟩ rfl rfl hl.1 rfl (lv_room (Nat.le_of_ble_eq_true rfl)) dX5_swap_30 ⟨Nat.le_of_ble_eq_true rfl, Nat.le_of_ble_eq_true rfl⟩) hS (fun q _ h => hFc q h) hFc (fun u t H1 locs ht hvm w_21 hB hz1 hk1 hS => ?_)
          obtain ⟨o_22, rfl⟩ : ∃ z, z = u := ⟨_, rfl⟩
          obtain ⟨hP1, hK1, hD1⟩ := hB
          rw [ht] at hP1
          have hK1 := va_K.moved hvm.symm hK1
          obtain ⟨hP, hD⟩ := kx_joinM (w2 := [kx_5 h0 g_row m_n m_slots 0 g_many g_loss g_less g_voteValue g_voteNumber g_allValue g_allNumber o_7 g_nodeL g_nodeR o_6 g_part m_partMany g_wasMany g_wasLoss g_wasValue g_wasNumber g_path m_pathMany g_heavyValue g_heavyTimes m_heavyMany g_fewest g_which g_met m_mostMet, kx_a g_row cyI 160 o_22, kx_a g_many cyI 324 o_8, kx_a g_loss cyI 324 o_9, kx_a g_less cyI 324 o_10, kx_a g_voteValue cyI 1944 o_11, kx_a g_voteNumber cyI 1944 o_12, kx_a g_allValue cyI 12 o_13, kx_a g_allNumber cyI 12 o_14, kx_a g_nodeL cyI 320 o_15, kx_a g_nodeR cyI 320 o_16, kx_a g_wasMany cyI 320 o_17, kx_a g_wasLoss cyI 320 o_18, kx_a g_wasValue cyI 1920 o_19, kx_a g_wasNumber cyI 1920 o_20]) hP hD hP1 hD1 hk1 hFc [true, true, false, false, false, false, false, false, false, false, false, false, false, false, false] hCc rfl
          clear hP1 hD1 hK1 hk1 hz1 hFc hDc hPc hKc hCc
          generalize H1 = H at hP hS ⊢
          have w_21 : o_22 = mj_ex f p0.toNatClampNeg p1.toNatClampNeg := w_21
          refine lv_aload_n hx hb dX5_swap_33 rfl (lv_at hl 0 rfl) ?_
          have hPc := hP
          have hKc := hK
          have hDc := hD
          have hFc := kx_free hD hS hA
          refine va_calli (va_runV (As := []) (rest := []) ⟨hx, hb, hml, hown, hts⟩ (kx_un (c_X5_others l dC dI h0 g_row g_many g_loss g_less g_voteValue g_voteNumber g_allValue g_allNumber g_nodeL g_nodeR g_part g_wasMany g_wasLoss g_wasValue g_wasNumber g_path g_heavyValue g_heavyTimes g_fewest g_which g_met m_n m_slots 0 o_7 o_6 m_partMany m_pathMany m_heavyMany m_mostMet cyI o_8 o_9 o_10 o_11 o_12 o_22 o_13 o_14 o_15 o_16 o_17 o_18 o_19 o_20 H.size a0 a1 sl0 sl1 w_5)) (cwV 0 hts gX5_swap_X5_others rfl rfl rfl (by decide +kernel) ⟨Nat.le_of_ble_eq_true rfl, Nat.le_of_ble_eq_true rfl⟩) ⟨fun a U g mk q => by obtain ⟨q0, q1, qP, qK, qD⟩ := q; exact ⟨q0, q1, qP, va_K.moved (u := U) (U := U.calling g mk a) (Vm.Alike.refl U.vm) qK, qD⟩, kx_rc5 hKc hPc (q0 := 0) rfl, fun U hU hW => ⟨rfl, by rw [hU], by rw [hU]; exact hPc, va_K.moved hW.alike hKc, hDc.weaken (fun _ _ _ _ => trivial)⟩⟩ rfl rfl hl.1 rfl (lv_room (Nat.le_of_ble_eq_true rfl)) dX5_swap_34 ⟨Nat.le_of_ble_eq_true rfl, Nat.le_of_ble_eq_true rfl⟩) hS (fun q _ h => hFc q h) hFc (fun r_23 u t H1 locs ht hvm w_23 hB hz1 hk1 hS => ?_)
          obtain ⟨o_24, o_25, o_26, o_27, o_28, o_29, o_30, o_31, o_32, o_33, o_34⟩ := u
          dsimp only at w_23 hB
          obtain ⟨hP1, hK1, hD1⟩ := hB
          rw [ht] at hP1
          have hK1 := va_K.moved hvm.symm hK1
          have hD := hD1.weaken (fun _ q _ h => hFc q.1 h)
          have hP := hP1
          clear hP1 hD1 hK1 hk1 hz1 hFc hDc hPc hKc
          generalize H1 = H at hP hS ⊢
          have w_23 : six4 o_26 := w_23
          have hP9 := hP
          have hD9 := hD
          have hK9 := hK
          have n_p0 := ki_nat p0 rfl (om_10 w_1.1)
          have n_p1 := ki_nat p1 rfl (om_10 w_3.1)
          exact W.iret (v := r_23) hx hb hr (hlocks := hlocks) (fun t ht hW => ⟨⟨r_23, (o_24, o_25, o_26, o_27, o_28, o_29, o_30, o_31, o_32, o_33, o_34, o_17, o_18, o_19, o_20, o_22), rfl, ⟨Or.inl ⟨by omega, w_21⟩, (by (try dsimp only); rw [w_21]; exact shorts_mex s1 (by omega) (by omega)), w_23⟩, by rw [ht]; exact hP9, va_K.moved hW.alike hK9, hD9⟩, hS.F ht⟩) hS.2.2 dX5_swap_37
        · exact absurd c_4 (by decide)
      · have w_3 : (p1.toInt < 0 ∨ m_n.toInt ≤ p1.toInt) := w_3
        refine lv_if_ne (tgt := 23) hx hb dX5_swap_18 (by decide) (fun c_35 => ?_) (fun c_35 => ?_)
        · exact absurd c_35 (by decide)
        · refine lv_iconst (v := (-1)) hx hb dX5_swap_21 (by decide) ?_
          have hP9 := hP
          have hD9 := hD
          have hK9 := hK
          exact W.iret (v := (-1)) hx hb hr (hlocks := hlocks) (fun t ht hW => ⟨⟨(-1), (m_nodes, m_allMany, fm, fl, fe, vv, vn, av, an, nl, nr, wm, wl, wv, wn, f), rfl, ⟨Or.inr ⟨by omega, rfl, rfl⟩, s1, s4⟩, by rw [ht]; exact hP9, va_K.moved hW.alike hK9, hD9⟩, hS.F ht⟩) hS.2.2 dX5_swap_22
  · have w_1 : (p0.toInt < 0 ∨ m_n.toInt ≤ p0.toInt) := w_1
    refine lv_if_eq (tgt := 21) hx hb dX5_swap_10 (by decide) (fun c_36 => ?_) (fun c_36 => ?_)
    · refine lv_iconst (v := (-1)) hx hb dX5_swap_21 (by decide) ?_
      have hP9 := hP
      have hD9 := hD
      have hK9 := hK
      exact W.iret (v := (-1)) hx hb hr (hlocks := hlocks) (fun t ht hW => ⟨⟨(-1), (m_nodes, m_allMany, fm, fl, fe, vv, vn, av, an, nl, nr, wm, wl, wv, wn, f), rfl, ⟨Or.inr ⟨by omega, rfl, rfl⟩, s1, s4⟩, by rw [ht]; exact hP9, va_K.moved hW.alike hK9, hD9⟩, hS.F ht⟩) hS.2.2 dX5_swap_22
    · exact absurd c_36 (by decide)



abbrev cX5_reach : ByteArray := prog_7_method_66_code
def yX5_reach : MethodName := ⟨RX5, "reach", "(I)I"⟩
abbrev cX5_spares : ByteArray := prog_7_method_77_code
def yX5_spares : MethodName := ⟨RX5, "spares", "(IIIII)I"⟩
abbrev cX5_swings : ByteArray := prog_7_method_79_code
def yX5_swings : MethodName := ⟨RX5, "swings", "(IIII)I"⟩
abbrev cX5_deep : ByteArray := prog_7_method_80_code
def yX5_deep : MethodName := ⟨RX5, "deep", "(II)I"⟩
abbrev cX5_nodesWithMajority : ByteArray := prog_7_method_81_code
def yX5_nodesWithMajority : MethodName := ⟨RX5, "nodesWithMajority", "()I"⟩
abbrev cX5_told : ByteArray := prog_7_method_82_code
def yX5_told : MethodName := ⟨RX5, "told", "(I)I"⟩
def wsX5_reach : List Cond := .code yX5_reach cX5_reach 3 (some .int) :: ([.fieldLink RX5 77 "MajorityIndexModel" "thrown" "I", .fieldLink RX5 84 "MajorityIndexModel" "n" "I", .constant RX5 148 (-40000), .methodLink RX5 128 yX5_isPlace, .instanceMethod yX5_isPlace, .selects RX5 yX5_isPlace yX5_isPlace, .initialized RX5, .code yX5_isPlace cX5_isPlace 2 (some .boolean), .methodLink RX5 80 yX5_within, .static yX5_within, .code yX5_within cX5_within 3 (some .boolean), .methodLink RX5 194 yX5_majorityOf, .instanceMethod yX5_majorityOf, .selects RX5 yX5_majorityOf yX5_majorityOf, .code yX5_majorityOf cX5_majorityOf 4 (some .int), .fieldLink RX5 7 "MajorityIndexModel" "row" "[I", .methodLink RX5 149 yX5_times, .instanceMethod yX5_times, .selects RX5 yX5_times yX5_times, .code yX5_times cX5_times 6 (some .int)] ++ wsX50)
def wsX5_spares : List Cond := .code yX5_spares cX5_spares 8 (some .int) :: ([.fieldLink RX5 77 "MajorityIndexModel" "thrown" "I", .methodLink RX5 132 yX5_isValue, .static yX5_isValue, .initialized RX5, .code yX5_isValue cX5_isValue 1 (some .boolean), .methodLink RX5 80 yX5_within, .static yX5_within, .code yX5_within cX5_within 3 (some .boolean), .methodLink RX5 142 yX5_isRange, .instanceMethod yX5_isRange, .selects RX5 yX5_isRange yX5_isRange, .code yX5_isRange cX5_isRange 3 (some .boolean), .fieldLink RX5 84 "MajorityIndexModel" "n" "I", .methodLink RX5 184 yX5_isShare, .static yX5_isShare, .code yX5_isShare cX5_isShare 2 (some .boolean), .methodLink RX5 149 yX5_times, .instanceMethod yX5_times, .selects RX5 yX5_times yX5_times, .code yX5_times cX5_times 6 (some .int), .fieldLink RX5 7 "MajorityIndexModel" "row" "[I"] ++ wsX50)
def wsX5_swings_r1 : List Cond := [Cond.fieldLink RX5 77 "MajorityIndexModel" "thrown" "I", Cond.fieldLink RX5 7 "MajorityIndexModel" "row" "[I", Cond.fieldLink RX5 13 "MajorityIndexModel" "slots" "I", Cond.methodLink RX5 142 yX5_isRange, Cond.instanceMethod yX5_isRange, Cond.selects RX5 yX5_isRange yX5_isRange, Cond.initialized RX5, Cond.code yX5_isRange cX5_isRange 3 (some .boolean), Cond.fieldLink RX5 84 "MajorityIndexModel" "n" "I", Cond.methodLink RX5 132 yX5_isValue, Cond.static yX5_isValue, Cond.code yX5_isValue cX5_isValue 1 (some .boolean), Cond.methodLink RX5 80 yX5_within, Cond.static yX5_within, Cond.code yX5_within cX5_within 3 (some .boolean), Cond.methodLink RX5 124 yX5_laysAll, Cond.instanceMethod yX5_laysAll, Cond.selects RX5 yX5_laysAll yX5_laysAll, Cond.code yX5_laysAll cX5_laysAll 2 none, Cond.fieldLink RX5 101 "MajorityIndexModel" "nodes" "I", Cond.methodLink RX5 107 yX5_lays, Cond.instanceMethod yX5_lays, Cond.selects RX5 yX5_lays yX5_lays, Cond.code yX5_lays cX5_lays 8 (some .int)]
def wsX5_swings_r2 : List Cond := [Cond.fieldLink RX5 38 "MajorityIndexModel" "nodeL" "[I", Cond.fieldLink RX5 41 "MajorityIndexModel" "nodeR" "[I", Cond.methodLink RX5 104 yX5_one, Cond.instanceMethod yX5_one, Cond.selects RX5 yX5_one yX5_one, Cond.code yX5_one cX5_one 3 none, Cond.fieldLink RX5 17 "MajorityIndexModel" "many" "[I", Cond.fieldLink RX5 20 "MajorityIndexModel" "loss" "[I", Cond.fieldLink RX5 23 "MajorityIndexModel" "less" "[I", Cond.fieldLink RX5 26 "MajorityIndexModel" "voteValue" "[I", Cond.fieldLink RX5 29 "MajorityIndexModel" "voteNumber" "[I", Cond.methodLink RX5 111 yX5_together, Cond.instanceMethod yX5_together, Cond.selects RX5 yX5_together yX5_together, Cond.code yX5_together cX5_together 9 none, Cond.fieldLink RX5 87 "MajorityIndexModel" "allMany" "I", Cond.fieldLink RX5 35 "MajorityIndexModel" "allNumber" "[I", Cond.fieldLink RX5 32 "MajorityIndexModel" "allValue" "[I", Cond.methodLink RX5 94 yX5_adds, Cond.instanceMethod yX5_adds, Cond.selects RX5 yX5_adds yX5_adds, Cond.code yX5_adds cX5_adds 4 none, Cond.methodLink RX5 98 yX5_sorts, Cond.instanceMethod yX5_sorts]
def wsX5_swings_r3 : List Cond := [Cond.selects RX5 yX5_sorts yX5_sorts, Cond.code yX5_sorts cX5_sorts 4 none, Cond.methodLink RX5 90 yX5_isAhead, Cond.instanceMethod yX5_isAhead, Cond.selects RX5 yX5_isAhead yX5_isAhead, Cond.code yX5_isAhead cX5_isAhead 3 (some .boolean), Cond.methodLink RX5 174 yX5_numbersOf, Cond.instanceMethod yX5_numbersOf, Cond.selects RX5 yX5_numbersOf yX5_numbersOf, Cond.code yX5_numbersOf cX5_numbersOf 4 (some .int)]
def wsX5_swings : List Cond := .code yX5_swings cX5_swings 10 (some .int) :: ((wsX5_swings_r1 ++ (wsX5_swings_r2 ++ wsX5_swings_r3)) ++ wsX50)
def wsX5_deep : List Cond := .code yX5_deep cX5_deep 6 (some .int) :: ([.methodLink RX5 220 yX5_deep, .instanceMethod yX5_deep, .selects RX5 yX5_deep yX5_deep, .initialized RX5])
def wsX5_nodesWithMajority : List Cond := .code yX5_nodesWithMajority cX5_nodesWithMajority 3 (some .int) :: ([.fieldLink RX5 101 "MajorityIndexModel" "nodes" "I", .fieldLink RX5 38 "MajorityIndexModel" "nodeL" "[I", .fieldLink RX5 41 "MajorityIndexModel" "nodeR" "[I", .constant RX5 148 (-40000), .methodLink RX5 194 yX5_majorityOf, .instanceMethod yX5_majorityOf, .selects RX5 yX5_majorityOf yX5_majorityOf, .initialized RX5, .code yX5_majorityOf cX5_majorityOf 4 (some .int), .fieldLink RX5 7 "MajorityIndexModel" "row" "[I", .methodLink RX5 149 yX5_times, .instanceMethod yX5_times, .selects RX5 yX5_times yX5_times, .code yX5_times cX5_times 6 (some .int)] ++ wsX50)
def wsX5_told_r1 : List Cond := [Cond.fieldLink RX5 77 "MajorityIndexModel" "thrown" "I", Cond.fieldLink RX5 13 "MajorityIndexModel" "slots" "I", Cond.fieldLink RX5 84 "MajorityIndexModel" "n" "I", Cond.fieldLink RX5 101 "MajorityIndexModel" "nodes" "I", Cond.fieldLink RX5 20 "MajorityIndexModel" "loss" "[I", Cond.methodLink RX5 124 yX5_laysAll, Cond.instanceMethod yX5_laysAll, Cond.selects RX5 yX5_laysAll yX5_laysAll, Cond.initialized RX5, Cond.code yX5_laysAll cX5_laysAll 2 none, Cond.methodLink RX5 107 yX5_lays, Cond.instanceMethod yX5_lays, Cond.selects RX5 yX5_lays yX5_lays, Cond.code yX5_lays cX5_lays 8 (some .int), Cond.fieldLink RX5 38 "MajorityIndexModel" "nodeL" "[I", Cond.fieldLink RX5 41 "MajorityIndexModel" "nodeR" "[I", Cond.fieldLink RX5 7 "MajorityIndexModel" "row" "[I", Cond.methodLink RX5 104 yX5_one, Cond.instanceMethod yX5_one, Cond.selects RX5 yX5_one yX5_one, Cond.code yX5_one cX5_one 3 none, Cond.fieldLink RX5 17 "MajorityIndexModel" "many" "[I", Cond.fieldLink RX5 23 "MajorityIndexModel" "less" "[I", Cond.fieldLink RX5 26 "MajorityIndexModel" "voteValue" "[I"]
def wsX5_told_r2 : List Cond := [Cond.fieldLink RX5 29 "MajorityIndexModel" "voteNumber" "[I", Cond.methodLink RX5 111 yX5_together, Cond.instanceMethod yX5_together, Cond.selects RX5 yX5_together yX5_together, Cond.code yX5_together cX5_together 9 none, Cond.fieldLink RX5 87 "MajorityIndexModel" "allMany" "I", Cond.fieldLink RX5 35 "MajorityIndexModel" "allNumber" "[I", Cond.fieldLink RX5 32 "MajorityIndexModel" "allValue" "[I", Cond.methodLink RX5 94 yX5_adds, Cond.instanceMethod yX5_adds, Cond.selects RX5 yX5_adds yX5_adds, Cond.code yX5_adds cX5_adds 4 none, Cond.methodLink RX5 98 yX5_sorts, Cond.instanceMethod yX5_sorts, Cond.selects RX5 yX5_sorts yX5_sorts, Cond.code yX5_sorts cX5_sorts 4 none, Cond.methodLink RX5 90 yX5_isAhead, Cond.instanceMethod yX5_isAhead, Cond.selects RX5 yX5_isAhead yX5_isAhead, Cond.code yX5_isAhead cX5_isAhead 3 (some .boolean), Cond.methodLink RX5 223 yX5_nodesWithMajority, Cond.instanceMethod yX5_nodesWithMajority, Cond.selects RX5 yX5_nodesWithMajority yX5_nodesWithMajority, Cond.code yX5_nodesWithMajority cX5_nodesWithMajority 3 (some .int)]
def wsX5_told_r3 : List Cond := [Cond.constant RX5 148 (-40000), Cond.methodLink RX5 194 yX5_majorityOf, Cond.instanceMethod yX5_majorityOf, Cond.selects RX5 yX5_majorityOf yX5_majorityOf, Cond.code yX5_majorityOf cX5_majorityOf 4 (some .int), Cond.methodLink RX5 149 yX5_times, Cond.instanceMethod yX5_times, Cond.selects RX5 yX5_times yX5_times, Cond.code yX5_times cX5_times 6 (some .int), Cond.methodLink RX5 220 yX5_deep, Cond.instanceMethod yX5_deep, Cond.selects RX5 yX5_deep yX5_deep, Cond.code yX5_deep cX5_deep 6 (some .int)]
def wsX5_told : List Cond := .code yX5_told cX5_told 4 (some .int) :: ((wsX5_told_r1 ++ (wsX5_told_r2 ++ wsX5_told_r3)) ++ wsX50)
set_option maxRecDepth 20000 in
theorem ggX5_reach_X5_isPlace : GoodIn wsX5_reach wsX5_isPlace := goodIn_r _ [8, 2, 9, 10, 7, 11, 21, 22, 23, 24, 25, 26, 27, 28, 29, 30, 31, 32, 33, 34, 35, 36, 37, 38, 39, 40, 41, 42, 43, 44, 45, 46, 47, 48, 49, 50] rfl (by decide +kernel)
set_option maxRecDepth 20000 in
theorem gX5_reach_X5_isPlace : GoodIn wsX5_reach (wsV RX5 128 RX5 yX5_isPlace wsX5_isPlace) := goodIn_app (goodIn_r _ [4, 5, 6, 7] rfl (by decide +kernel)) ggX5_reach_X5_isPlace
set_option maxRecDepth 20000 in
theorem ggX5_reach_X5_majorityOf : GoodIn wsX5_reach wsX5_majorityOf := goodIn_r _ [15, 16, 3, 17, 18, 19, 7, 20, 21, 22, 23, 24, 25, 26, 27, 28, 29, 30, 31, 32, 33, 34, 35, 36, 37, 38, 39, 40, 41, 42, 43, 44, 45, 46, 47, 48, 49, 50] rfl (by decide +kernel)
set_option maxRecDepth 20000 in
theorem gX5_reach_X5_majorityOf : GoodIn wsX5_reach (wsV RX5 194 RX5 yX5_majorityOf wsX5_majorityOf) := goodIn_app (goodIn_r _ [12, 13, 14, 7] rfl (by decide +kernel)) ggX5_reach_X5_majorityOf
def dt_cX5_reach_0 : List (Nat × Nat × Nat × Nat) := [(0, 42, 0, 0), (1, 3, 0, 0), (2, 181, 2, 77), (5, 42, 0, 0), (6, 27, 0, 0), (7, 182, 2, 128), (10, 154, 2, 5), (13, 2, 0, 0), (14, 172, 0, 0), (15, 42, 0, 0), (16, 180, 2, 84), (19, 61, 0, 0), (20, 42, 0, 0), (21, 27, 0, 0), (22, 28, 0, 0), (23, 182, 2, 194), (26, 18, 1, 148), (28, 160, 2, 9), (31, 132, 2, 767), (34, 167, 2, 65522)]
theorem da_cX5_reach_0 : fw dt_cX5_reach_0 0 cX5_reach.data.toList = true := by decide +kernel
theorem dX5_reach_0 : decode cX5_reach 0 = .ok (.aload_n 0, 1) := fo_42 (fw_get da_cX5_reach_0 0 rfl)
theorem dX5_reach_1 : decode cX5_reach 1 = .ok (.iconst 0, 1) := fo_3 (fw_get da_cX5_reach_0 1 rfl)
theorem dX5_reach_2 : decode cX5_reach 2 = .ok (.putfield 77, 3) := fo_181 (fw_get da_cX5_reach_0 2 rfl)
theorem dX5_reach_5 : decode cX5_reach 5 = .ok (.aload_n 0, 1) := fo_42 (fw_get da_cX5_reach_0 3 rfl)
theorem dX5_reach_6 : decode cX5_reach 6 = .ok (.iload_n 1, 1) := fo_27 (fw_get da_cX5_reach_0 4 rfl)
theorem dX5_reach_7 : decode cX5_reach 7 = .ok (.invokevirtual 128, 3) := fo_182 (fw_get da_cX5_reach_0 5 rfl)
theorem dX5_reach_10 : decode cX5_reach 10 = .ok (.ifCond .ne 5, 3) := fo_154 (fw_get da_cX5_reach_0 6 rfl) (by decide +kernel)
theorem dX5_reach_13 : decode cX5_reach 13 = .ok (.iconst (-1), 1) := fo_2 (fw_get da_cX5_reach_0 7 rfl)
theorem dX5_reach_14 : decode cX5_reach 14 = .ok (.ireturn, 1) := fo_172 (fw_get da_cX5_reach_0 8 rfl)
theorem dX5_reach_15 : decode cX5_reach 15 = .ok (.aload_n 0, 1) := fo_42 (fw_get da_cX5_reach_0 9 rfl)
theorem dX5_reach_16 : decode cX5_reach 16 = .ok (.getfield 84, 3) := fo_180 (fw_get da_cX5_reach_0 10 rfl)
theorem dX5_reach_19 : decode cX5_reach 19 = .ok (.istore_n 2, 1) := fo_61 (fw_get da_cX5_reach_0 11 rfl)
theorem dX5_reach_20 : decode cX5_reach 20 = .ok (.aload_n 0, 1) := fo_42 (fw_get da_cX5_reach_0 12 rfl)
theorem dX5_reach_21 : decode cX5_reach 21 = .ok (.iload_n 1, 1) := fo_27 (fw_get da_cX5_reach_0 13 rfl)
theorem dX5_reach_22 : decode cX5_reach 22 = .ok (.iload_n 2, 1) := fo_28 (fw_get da_cX5_reach_0 14 rfl)
theorem dX5_reach_23 : decode cX5_reach 23 = .ok (.invokevirtual 194, 3) := fo_182 (fw_get da_cX5_reach_0 15 rfl)
theorem dX5_reach_26 : decode cX5_reach 26 = .ok (.ldc 148, 2) := fo_18 (fw_get da_cX5_reach_0 16 rfl)
theorem dX5_reach_28 : decode cX5_reach 28 = .ok (.if_icmp .ne 9, 3) := fo_160 (fw_get da_cX5_reach_0 17 rfl) (by decide +kernel)
theorem dX5_reach_31 : decode cX5_reach 31 = .ok (.iinc 2 (-1), 3) := fo_132 (fw_get da_cX5_reach_0 18 rfl) rfl (by decide +kernel)
theorem dX5_reach_34 : decode cX5_reach 34 = .ok (.goto (-14), 3) := fo_167 (fw_get da_cX5_reach_0 19 rfl) (by decide +kernel)
def dt_cX5_reach_1 : List (Nat × Nat × Nat × Nat) := [(37, 28, 0, 0), (38, 172, 0, 0)]
theorem da_cX5_reach_1 : fw dt_cX5_reach_1 0 cX5_reach.data.toList = true := by decide +kernel
theorem dX5_reach_37 : decode cX5_reach 37 = .ok (.iload_n 2, 1) := fo_28 (fw_get da_cX5_reach_1 0 rfl)
theorem dX5_reach_38 : decode cX5_reach 38 = .ok (.ireturn, 1) := fo_172 (fw_get da_cX5_reach_1 1 rfl)
set_option maxRecDepth 20000 in
theorem ggX5_spares_X5_isValue : GoodIn wsX5_spares wsX5_isValue := goodIn_r _ [5, 6, 7, 4, 8] rfl (by decide +kernel)
set_option maxRecDepth 20000 in
theorem gX5_spares_X5_isValue : GoodIn wsX5_spares (va_wsS RX5 132 yX5_isValue wsX5_isValue) := goodIn_app (goodIn_r _ [2, 3, 4] rfl (by decide +kernel)) ggX5_spares_X5_isValue
set_option maxRecDepth 20000 in
theorem ggX5_spares_X5_isRange : GoodIn wsX5_spares wsX5_isRange := goodIn_r _ [12, 13, 22, 23, 24, 25, 26, 27, 28, 29, 30, 31, 32, 33, 34, 35, 36, 37, 38, 39, 40, 41, 42, 43, 44, 45, 46, 47, 48, 49, 50, 51] rfl (by decide +kernel)
set_option maxRecDepth 20000 in
theorem gX5_spares_X5_isRange : GoodIn wsX5_spares (wsV RX5 142 RX5 yX5_isRange wsX5_isRange) := goodIn_app (goodIn_r _ [9, 10, 11, 4] rfl (by decide +kernel)) ggX5_spares_X5_isRange
set_option maxRecDepth 20000 in
theorem ggX5_spares_X5_isShare : GoodIn wsX5_spares wsX5_isShare := goodIn_r _ [16, 6, 7, 4, 8] rfl (by decide +kernel)
set_option maxRecDepth 20000 in
theorem gX5_spares_X5_isShare : GoodIn wsX5_spares (va_wsS RX5 184 yX5_isShare wsX5_isShare) := goodIn_app (goodIn_r _ [14, 15, 4] rfl (by decide +kernel)) ggX5_spares_X5_isShare
set_option maxRecDepth 20000 in
theorem ggX5_spares_X5_times : GoodIn wsX5_spares wsX5_times := goodIn_r _ [20, 21, 22, 23, 24, 25, 26, 27, 28, 29, 30, 31, 32, 33, 34, 35, 36, 37, 38, 39, 40, 41, 42, 43, 44, 45, 46, 47, 48, 49, 50, 51] rfl (by decide +kernel)
set_option maxRecDepth 20000 in
theorem gX5_spares_X5_times : GoodIn wsX5_spares (wsV RX5 149 RX5 yX5_times wsX5_times) := goodIn_app (goodIn_r _ [17, 18, 19, 4] rfl (by decide +kernel)) ggX5_spares_X5_times
def dt_cX5_spares_0 : List (Nat × Nat × Nat × Nat) := [(0, 42, 0, 0), (1, 3, 0, 0), (2, 181, 2, 77), (5, 27, 0, 0), (6, 184, 2, 132), (9, 153, 2, 22), (12, 42, 0, 0), (13, 28, 0, 0), (14, 29, 0, 0), (15, 182, 2, 142), (18, 153, 2, 13), (21, 21, 1, 4), (23, 21, 1, 5), (25, 184, 2, 184), (28, 154, 2, 5), (31, 2, 0, 0), (32, 172, 0, 0), (33, 42, 0, 0), (34, 27, 0, 0), (35, 28, 0, 0)]
theorem da_cX5_spares_0 : fw dt_cX5_spares_0 0 cX5_spares.data.toList = true := by decide +kernel
theorem dX5_spares_0 : decode cX5_spares 0 = .ok (.aload_n 0, 1) := fo_42 (fw_get da_cX5_spares_0 0 rfl)
theorem dX5_spares_1 : decode cX5_spares 1 = .ok (.iconst 0, 1) := fo_3 (fw_get da_cX5_spares_0 1 rfl)
theorem dX5_spares_2 : decode cX5_spares 2 = .ok (.putfield 77, 3) := fo_181 (fw_get da_cX5_spares_0 2 rfl)
theorem dX5_spares_5 : decode cX5_spares 5 = .ok (.iload_n 1, 1) := fo_27 (fw_get da_cX5_spares_0 3 rfl)
theorem dX5_spares_6 : decode cX5_spares 6 = .ok (.invokestatic 132, 3) := fo_184 (fw_get da_cX5_spares_0 4 rfl)
theorem dX5_spares_9 : decode cX5_spares 9 = .ok (.ifCond .eq 22, 3) := fo_153 (fw_get da_cX5_spares_0 5 rfl) (by decide +kernel)
theorem dX5_spares_12 : decode cX5_spares 12 = .ok (.aload_n 0, 1) := fo_42 (fw_get da_cX5_spares_0 6 rfl)
theorem dX5_spares_13 : decode cX5_spares 13 = .ok (.iload_n 2, 1) := fo_28 (fw_get da_cX5_spares_0 7 rfl)
theorem dX5_spares_14 : decode cX5_spares 14 = .ok (.iload_n 3, 1) := fo_29 (fw_get da_cX5_spares_0 8 rfl)
theorem dX5_spares_15 : decode cX5_spares 15 = .ok (.invokevirtual 142, 3) := fo_182 (fw_get da_cX5_spares_0 9 rfl)
theorem dX5_spares_18 : decode cX5_spares 18 = .ok (.ifCond .eq 13, 3) := fo_153 (fw_get da_cX5_spares_0 10 rfl) (by decide +kernel)
theorem dX5_spares_21 : decode cX5_spares 21 = .ok (.iload 4, 2) := fo_21 (fw_get da_cX5_spares_0 11 rfl)
theorem dX5_spares_23 : decode cX5_spares 23 = .ok (.iload 5, 2) := fo_21 (fw_get da_cX5_spares_0 12 rfl)
theorem dX5_spares_25 : decode cX5_spares 25 = .ok (.invokestatic 184, 3) := fo_184 (fw_get da_cX5_spares_0 13 rfl)
theorem dX5_spares_28 : decode cX5_spares 28 = .ok (.ifCond .ne 5, 3) := fo_154 (fw_get da_cX5_spares_0 14 rfl) (by decide +kernel)
theorem dX5_spares_31 : decode cX5_spares 31 = .ok (.iconst (-1), 1) := fo_2 (fw_get da_cX5_spares_0 15 rfl)
theorem dX5_spares_32 : decode cX5_spares 32 = .ok (.ireturn, 1) := fo_172 (fw_get da_cX5_spares_0 16 rfl)
theorem dX5_spares_33 : decode cX5_spares 33 = .ok (.aload_n 0, 1) := fo_42 (fw_get da_cX5_spares_0 17 rfl)
theorem dX5_spares_34 : decode cX5_spares 34 = .ok (.iload_n 1, 1) := fo_27 (fw_get da_cX5_spares_0 18 rfl)
theorem dX5_spares_35 : decode cX5_spares 35 = .ok (.iload_n 2, 1) := fo_28 (fw_get da_cX5_spares_0 19 rfl)
def dt_cX5_spares_1 : List (Nat × Nat × Nat × Nat) := [(36, 29, 0, 0), (37, 182, 2, 149), (40, 54, 1, 6), (42, 3, 0, 0), (43, 54, 1, 7), (45, 21, 1, 6), (47, 21, 1, 7), (49, 100, 0, 0), (50, 21, 1, 5), (52, 104, 0, 0), (53, 21, 1, 4), (55, 29, 0, 0), (56, 28, 0, 0), (57, 100, 0, 0), (58, 104, 0, 0), (59, 164, 2, 9), (62, 132, 2, 1793), (65, 167, 2, 65516), (68, 21, 1, 7), (70, 172, 0, 0)]
theorem da_cX5_spares_1 : fw dt_cX5_spares_1 0 cX5_spares.data.toList = true := by decide +kernel
theorem dX5_spares_36 : decode cX5_spares 36 = .ok (.iload_n 3, 1) := fo_29 (fw_get da_cX5_spares_1 0 rfl)
theorem dX5_spares_37 : decode cX5_spares 37 = .ok (.invokevirtual 149, 3) := fo_182 (fw_get da_cX5_spares_1 1 rfl)
theorem dX5_spares_40 : decode cX5_spares 40 = .ok (.istore 6, 2) := fo_54 (fw_get da_cX5_spares_1 2 rfl)
theorem dX5_spares_42 : decode cX5_spares 42 = .ok (.iconst 0, 1) := fo_3 (fw_get da_cX5_spares_1 3 rfl)
theorem dX5_spares_43 : decode cX5_spares 43 = .ok (.istore 7, 2) := fo_54 (fw_get da_cX5_spares_1 4 rfl)
theorem dX5_spares_45 : decode cX5_spares 45 = .ok (.iload 6, 2) := fo_21 (fw_get da_cX5_spares_1 5 rfl)
theorem dX5_spares_47 : decode cX5_spares 47 = .ok (.iload 7, 2) := fo_21 (fw_get da_cX5_spares_1 6 rfl)
theorem dX5_spares_49 : decode cX5_spares 49 = .ok (.isub, 1) := fo_100 (fw_get da_cX5_spares_1 7 rfl)
theorem dX5_spares_50 : decode cX5_spares 50 = .ok (.iload 5, 2) := fo_21 (fw_get da_cX5_spares_1 8 rfl)
theorem dX5_spares_52 : decode cX5_spares 52 = .ok (.imul, 1) := fo_104 (fw_get da_cX5_spares_1 9 rfl)
theorem dX5_spares_53 : decode cX5_spares 53 = .ok (.iload 4, 2) := fo_21 (fw_get da_cX5_spares_1 10 rfl)
theorem dX5_spares_55 : decode cX5_spares 55 = .ok (.iload_n 3, 1) := fo_29 (fw_get da_cX5_spares_1 11 rfl)
theorem dX5_spares_56 : decode cX5_spares 56 = .ok (.iload_n 2, 1) := fo_28 (fw_get da_cX5_spares_1 12 rfl)
theorem dX5_spares_57 : decode cX5_spares 57 = .ok (.isub, 1) := fo_100 (fw_get da_cX5_spares_1 13 rfl)
theorem dX5_spares_58 : decode cX5_spares 58 = .ok (.imul, 1) := fo_104 (fw_get da_cX5_spares_1 14 rfl)
theorem dX5_spares_59 : decode cX5_spares 59 = .ok (.if_icmp .le 9, 3) := fo_164 (fw_get da_cX5_spares_1 15 rfl) (by decide +kernel)
theorem dX5_spares_62 : decode cX5_spares 62 = .ok (.iinc 7 1, 3) := fo_132 (fw_get da_cX5_spares_1 16 rfl) rfl (by decide +kernel)
theorem dX5_spares_65 : decode cX5_spares 65 = .ok (.goto (-20), 3) := fo_167 (fw_get da_cX5_spares_1 17 rfl) (by decide +kernel)
theorem dX5_spares_68 : decode cX5_spares 68 = .ok (.iload 7, 2) := fo_21 (fw_get da_cX5_spares_1 18 rfl)
theorem dX5_spares_70 : decode cX5_spares 70 = .ok (.ireturn, 1) := fo_172 (fw_get da_cX5_spares_1 19 rfl)
theorem mi_wsX5_swings_wsX5_swings_r1 : ∀ w ∈ wsX5_swings_r1, w ∈ wsX5_swings := fun _ h => (List.mem_cons_of_mem _ (List.mem_append_left _ (List.mem_append_left _ h)))
theorem mi_wsX5_swings_wsX50 : ∀ w ∈ wsX50, w ∈ wsX5_swings := fun _ h => (List.mem_cons_of_mem _ (List.mem_append_right _ h))
set_option maxRecDepth 20000 in
theorem ggX5_swings_X5_isRange : GoodIn wsX5_swings wsX5_isRange := goodIn_m _ [(wsX5_swings_r1, [false, false, false, false, false, false, false, true, true]), (wsX50, [true, true, true, true, true, true, true, true, true, true, true, true, true, true, true, true, true, true, true, true, true, true, true, true, true, true, true, true, true, true])] (gm_c mi_wsX5_swings_wsX5_swings_r1 (gm_c mi_wsX5_swings_wsX50 gm_n)) rfl (by decide +kernel)
set_option maxRecDepth 20000 in
theorem gX5_swings_X5_isRange : GoodIn wsX5_swings (wsV RX5 142 RX5 yX5_isRange wsX5_isRange) := goodIn_app (goodIn_m _ [(wsX5_swings_r1, [false, false, false, true, true, true, true])] (gm_c mi_wsX5_swings_wsX5_swings_r1 gm_n) rfl (by decide +kernel)) ggX5_swings_X5_isRange
set_option maxRecDepth 20000 in
theorem ggX5_swings_X5_isValue : GoodIn wsX5_swings wsX5_isValue := goodIn_m _ [(wsX5_swings_r1, [false, false, false, false, false, false, false, false, false, false, false, true, true, true]), (wsX5_swings_r1, [false, false, false, false, false, false, true, false, false, false, false, false, false, false, true])] (gm_c mi_wsX5_swings_wsX5_swings_r1 (gm_c mi_wsX5_swings_wsX5_swings_r1 gm_n)) rfl (by decide +kernel)
set_option maxRecDepth 20000 in
theorem gX5_swings_X5_isValue : GoodIn wsX5_swings (va_wsS RX5 132 yX5_isValue wsX5_isValue) := goodIn_app (goodIn_m _ [(wsX5_swings_r1, [false, false, false, false, false, false, false, false, false, true, true]), (wsX5_swings_r1, [false, false, false, false, false, false, true])] (gm_c mi_wsX5_swings_wsX5_swings_r1 (gm_c mi_wsX5_swings_wsX5_swings_r1 gm_n)) rfl (by decide +kernel)) ggX5_swings_X5_isValue
set_option maxRecDepth 20000 in
theorem ggX5_swings_X5_within : GoodIn wsX5_swings wsX5_within := goodIn_m _ [(wsX5_swings_r1, [false, false, false, false, false, false, false, false, false, false, false, false, false, false, true])] (gm_c mi_wsX5_swings_wsX5_swings_r1 gm_n) rfl (by decide +kernel)
set_option maxRecDepth 20000 in
theorem gX5_swings_X5_within : GoodIn wsX5_swings (va_wsS RX5 80 yX5_within wsX5_within) := goodIn_app (goodIn_m _ [(wsX5_swings_r1, [false, false, false, false, false, false, false, false, false, false, false, false, true, true]), (wsX5_swings_r1, [false, false, false, false, false, false, true])] (gm_c mi_wsX5_swings_wsX5_swings_r1 (gm_c mi_wsX5_swings_wsX5_swings_r1 gm_n)) rfl (by decide +kernel)) ggX5_swings_X5_within
theorem mi_wsX5_swings_wsX5_swings_r2 : ∀ w ∈ wsX5_swings_r2, w ∈ wsX5_swings := fun _ h => (List.mem_cons_of_mem _ (List.mem_append_left _ (List.mem_append_right _ (List.mem_append_left _ h))))
theorem mi_wsX5_swings_wsX5_swings_r3 : ∀ w ∈ wsX5_swings_r3, w ∈ wsX5_swings := fun _ h => (List.mem_cons_of_mem _ (List.mem_append_left _ (List.mem_append_right _ (List.mem_append_right _ h))))
set_option maxRecDepth 20000 in
theorem ggX5_swings_X5_laysAll : GoodIn wsX5_swings wsX5_laysAll := goodIn_m _ [(wsX5_swings_r1, [false, false, false, false, false, false, false, false, false, false, false, false, false, false, false, false, false, false, true, true]), (wsX5_swings_r1, [false, false, false, false, false, false, false, false, true, false, false, false, false, false, false, false, false, false, false, false, true, true, true]), (wsX5_swings_r1, [false, false, false, false, false, false, true, false, false, false, false, false, false, false, false, false, false, false, false, false, false, false, false, true]), (wsX5_swings_r2, [true, true]), (wsX5_swings_r1, [false, true]), (wsX5_swings_r2, [false, false, true, true, true, true, true, true, true, true, true, true, true, true, true, true, true, true, true, true, true, true, true, true]), (wsX5_swings_r3, [true, true, true, true, true, true]), (wsX50, [true, true, true, true, true, true, true, true, true, true, true, true, true, true, true, true, true, true, true, true, true, true, true, true, true, true, true, true, true, true])] (gm_c mi_wsX5_swings_wsX5_swings_r1 (gm_c mi_wsX5_swings_wsX5_swings_r1 (gm_c mi_wsX5_swings_wsX5_swings_r1 (gm_c mi_wsX5_swings_wsX5_swings_r2 (gm_c mi_wsX5_swings_wsX5_swings_r1 (gm_c mi_wsX5_swings_wsX5_swings_r2 (gm_c mi_wsX5_swings_wsX5_swings_r3 (gm_c mi_wsX5_swings_wsX50 gm_n)))))))) rfl (by decide +kernel)
set_option maxRecDepth 20000 in
theorem gX5_swings_X5_laysAll : GoodIn wsX5_swings (wsV RX5 124 RX5 yX5_laysAll wsX5_laysAll) := goodIn_app (goodIn_m _ [(wsX5_swings_r1, [false, false, false, false, false, false, false, false, false, false, false, false, false, false, false, true, true, true]), (wsX5_swings_r1, [false, false, false, false, false, false, true])] (gm_c mi_wsX5_swings_wsX5_swings_r1 (gm_c mi_wsX5_swings_wsX5_swings_r1 gm_n)) rfl (by decide +kernel)) ggX5_swings_X5_laysAll
set_option maxRecDepth 20000 in
theorem ggX5_swings_X5_numbersOf : GoodIn wsX5_swings wsX5_numbersOf := goodIn_m _ [(wsX5_swings_r3, [false, false, false, false, false, false, false, false, false, true]), (wsX5_swings_r2, [false, false, false, false, false, false, true, false, false, false, true]), (wsX50, [true, true, true, true, true, true, true, true, true, true, true, true, true, true, true, true, true, true, true, true, true, true, true, true, true, true, true, true, true, true])] (gm_c mi_wsX5_swings_wsX5_swings_r3 (gm_c mi_wsX5_swings_wsX5_swings_r2 (gm_c mi_wsX5_swings_wsX50 gm_n))) rfl (by decide +kernel)
set_option maxRecDepth 20000 in
theorem gX5_swings_X5_numbersOf : GoodIn wsX5_swings (wsV RX5 174 RX5 yX5_numbersOf wsX5_numbersOf) := goodIn_app (goodIn_m _ [(wsX5_swings_r3, [false, false, false, false, false, false, true, true, true]), (wsX5_swings_r1, [false, false, false, false, false, false, true])] (gm_c mi_wsX5_swings_wsX5_swings_r3 (gm_c mi_wsX5_swings_wsX5_swings_r1 gm_n)) rfl (by decide +kernel)) ggX5_swings_X5_numbersOf
def dt_cX5_swings_0 : List (Nat × Nat × Nat × Nat) := [(0, 42, 0, 0), (1, 3, 0, 0), (2, 181, 2, 77), (5, 42, 0, 0), (6, 27, 0, 0), (7, 28, 0, 0), (8, 182, 2, 142), (11, 153, 2, 28), (14, 28, 0, 0), (15, 27, 0, 0), (16, 100, 0, 0), (17, 16, 1, 40), (19, 163, 2, 20), (22, 29, 0, 0), (23, 184, 2, 132), (26, 153, 2, 13), (29, 21, 1, 4), (31, 3, 0, 0), (32, 4, 0, 0), (33, 184, 2, 80)]
theorem da_cX5_swings_0 : fw dt_cX5_swings_0 0 cX5_swings.data.toList = true := by decide +kernel
theorem dX5_swings_0 : decode cX5_swings 0 = .ok (.aload_n 0, 1) := fo_42 (fw_get da_cX5_swings_0 0 rfl)
theorem dX5_swings_1 : decode cX5_swings 1 = .ok (.iconst 0, 1) := fo_3 (fw_get da_cX5_swings_0 1 rfl)
theorem dX5_swings_2 : decode cX5_swings 2 = .ok (.putfield 77, 3) := fo_181 (fw_get da_cX5_swings_0 2 rfl)
theorem dX5_swings_5 : decode cX5_swings 5 = .ok (.aload_n 0, 1) := fo_42 (fw_get da_cX5_swings_0 3 rfl)
theorem dX5_swings_6 : decode cX5_swings 6 = .ok (.iload_n 1, 1) := fo_27 (fw_get da_cX5_swings_0 4 rfl)
theorem dX5_swings_7 : decode cX5_swings 7 = .ok (.iload_n 2, 1) := fo_28 (fw_get da_cX5_swings_0 5 rfl)
theorem dX5_swings_8 : decode cX5_swings 8 = .ok (.invokevirtual 142, 3) := fo_182 (fw_get da_cX5_swings_0 6 rfl)
theorem dX5_swings_11 : decode cX5_swings 11 = .ok (.ifCond .eq 28, 3) := fo_153 (fw_get da_cX5_swings_0 7 rfl) (by decide +kernel)
theorem dX5_swings_14 : decode cX5_swings 14 = .ok (.iload_n 2, 1) := fo_28 (fw_get da_cX5_swings_0 8 rfl)
theorem dX5_swings_15 : decode cX5_swings 15 = .ok (.iload_n 1, 1) := fo_27 (fw_get da_cX5_swings_0 9 rfl)
theorem dX5_swings_16 : decode cX5_swings 16 = .ok (.isub, 1) := fo_100 (fw_get da_cX5_swings_0 10 rfl)
theorem dX5_swings_17 : decode cX5_swings 17 = .ok (.bipush 40, 2) := fo_16 (fw_get da_cX5_swings_0 11 rfl) (by decide +kernel)
theorem dX5_swings_19 : decode cX5_swings 19 = .ok (.if_icmp .gt 20, 3) := fo_163 (fw_get da_cX5_swings_0 12 rfl) (by decide +kernel)
theorem dX5_swings_22 : decode cX5_swings 22 = .ok (.iload_n 3, 1) := fo_29 (fw_get da_cX5_swings_0 13 rfl)
theorem dX5_swings_23 : decode cX5_swings 23 = .ok (.invokestatic 132, 3) := fo_184 (fw_get da_cX5_swings_0 14 rfl)
theorem dX5_swings_26 : decode cX5_swings 26 = .ok (.ifCond .eq 13, 3) := fo_153 (fw_get da_cX5_swings_0 15 rfl) (by decide +kernel)
theorem dX5_swings_29 : decode cX5_swings 29 = .ok (.iload 4, 2) := fo_21 (fw_get da_cX5_swings_0 16 rfl)
theorem dX5_swings_31 : decode cX5_swings 31 = .ok (.iconst 0, 1) := fo_3 (fw_get da_cX5_swings_0 17 rfl)
theorem dX5_swings_32 : decode cX5_swings 32 = .ok (.iconst 1, 1) := fo_4 (fw_get da_cX5_swings_0 18 rfl)
theorem dX5_swings_33 : decode cX5_swings 33 = .ok (.invokestatic 80, 3) := fo_184 (fw_get da_cX5_swings_0 19 rfl)
def dt_cX5_swings_1 : List (Nat × Nat × Nat × Nat) := [(36, 154, 2, 5), (39, 2, 0, 0), (40, 172, 0, 0), (41, 2, 0, 0), (42, 54, 1, 5), (44, 2, 0, 0), (45, 54, 1, 6), (47, 27, 0, 0), (48, 54, 1, 7), (50, 21, 1, 7), (52, 28, 0, 0), (53, 162, 2, 68), (56, 42, 0, 0), (57, 180, 2, 7), (60, 21, 1, 7), (62, 46, 0, 0), (63, 54, 1, 8), (65, 42, 0, 0), (66, 180, 2, 7), (69, 21, 1, 7)]
theorem da_cX5_swings_1 : fw dt_cX5_swings_1 0 cX5_swings.data.toList = true := by decide +kernel
theorem dX5_swings_36 : decode cX5_swings 36 = .ok (.ifCond .ne 5, 3) := fo_154 (fw_get da_cX5_swings_1 0 rfl) (by decide +kernel)
theorem dX5_swings_39 : decode cX5_swings 39 = .ok (.iconst (-1), 1) := fo_2 (fw_get da_cX5_swings_1 1 rfl)
theorem dX5_swings_40 : decode cX5_swings 40 = .ok (.ireturn, 1) := fo_172 (fw_get da_cX5_swings_1 2 rfl)
theorem dX5_swings_41 : decode cX5_swings 41 = .ok (.iconst (-1), 1) := fo_2 (fw_get da_cX5_swings_1 3 rfl)
theorem dX5_swings_42 : decode cX5_swings 42 = .ok (.istore 5, 2) := fo_54 (fw_get da_cX5_swings_1 4 rfl)
theorem dX5_swings_44 : decode cX5_swings 44 = .ok (.iconst (-1), 1) := fo_2 (fw_get da_cX5_swings_1 5 rfl)
theorem dX5_swings_45 : decode cX5_swings 45 = .ok (.istore 6, 2) := fo_54 (fw_get da_cX5_swings_1 6 rfl)
theorem dX5_swings_47 : decode cX5_swings 47 = .ok (.iload_n 1, 1) := fo_27 (fw_get da_cX5_swings_1 7 rfl)
theorem dX5_swings_48 : decode cX5_swings 48 = .ok (.istore 7, 2) := fo_54 (fw_get da_cX5_swings_1 8 rfl)
theorem dX5_swings_50 : decode cX5_swings 50 = .ok (.iload 7, 2) := fo_21 (fw_get da_cX5_swings_1 9 rfl)
theorem dX5_swings_52 : decode cX5_swings 52 = .ok (.iload_n 2, 1) := fo_28 (fw_get da_cX5_swings_1 10 rfl)
theorem dX5_swings_53 : decode cX5_swings 53 = .ok (.if_icmp .ge 68, 3) := fo_162 (fw_get da_cX5_swings_1 11 rfl) (by decide +kernel)
theorem dX5_swings_56 : decode cX5_swings 56 = .ok (.aload_n 0, 1) := fo_42 (fw_get da_cX5_swings_1 12 rfl)
theorem dX5_swings_57 : decode cX5_swings 57 = .ok (.getfield 7, 3) := fo_180 (fw_get da_cX5_swings_1 13 rfl)
theorem dX5_swings_60 : decode cX5_swings 60 = .ok (.iload 7, 2) := fo_21 (fw_get da_cX5_swings_1 14 rfl)
theorem dX5_swings_62 : decode cX5_swings 62 = .ok (.iaload, 1) := fo_46 (fw_get da_cX5_swings_1 15 rfl)
theorem dX5_swings_63 : decode cX5_swings 63 = .ok (.istore 8, 2) := fo_54 (fw_get da_cX5_swings_1 16 rfl)
theorem dX5_swings_65 : decode cX5_swings 65 = .ok (.aload_n 0, 1) := fo_42 (fw_get da_cX5_swings_1 17 rfl)
theorem dX5_swings_66 : decode cX5_swings 66 = .ok (.getfield 7, 3) := fo_180 (fw_get da_cX5_swings_1 18 rfl)
theorem dX5_swings_69 : decode cX5_swings 69 = .ok (.iload 7, 2) := fo_21 (fw_get da_cX5_swings_1 19 rfl)
def dt_cX5_swings_2 : List (Nat × Nat × Nat × Nat) := [(71, 29, 0, 0), (72, 79, 0, 0), (73, 42, 0, 0), (74, 42, 0, 0), (75, 180, 2, 13), (78, 182, 2, 124), (81, 42, 0, 0), (82, 180, 2, 7), (85, 21, 1, 7), (87, 21, 1, 8), (89, 79, 0, 0), (90, 42, 0, 0), (91, 3, 0, 0), (92, 182, 2, 174), (95, 54, 1, 9), (97, 21, 1, 9), (99, 21, 1, 6), (101, 163, 2, 6), (104, 167, 2, 11), (107, 21, 1, 7)]
theorem da_cX5_swings_2 : fw dt_cX5_swings_2 0 cX5_swings.data.toList = true := by decide +kernel
theorem dX5_swings_71 : decode cX5_swings 71 = .ok (.iload_n 3, 1) := fo_29 (fw_get da_cX5_swings_2 0 rfl)
theorem dX5_swings_72 : decode cX5_swings 72 = .ok (.iastore, 1) := fo_79 (fw_get da_cX5_swings_2 1 rfl)
theorem dX5_swings_73 : decode cX5_swings 73 = .ok (.aload_n 0, 1) := fo_42 (fw_get da_cX5_swings_2 2 rfl)
theorem dX5_swings_74 : decode cX5_swings 74 = .ok (.aload_n 0, 1) := fo_42 (fw_get da_cX5_swings_2 3 rfl)
theorem dX5_swings_75 : decode cX5_swings 75 = .ok (.getfield 13, 3) := fo_180 (fw_get da_cX5_swings_2 4 rfl)
theorem dX5_swings_78 : decode cX5_swings 78 = .ok (.invokevirtual 124, 3) := fo_182 (fw_get da_cX5_swings_2 5 rfl)
theorem dX5_swings_81 : decode cX5_swings 81 = .ok (.aload_n 0, 1) := fo_42 (fw_get da_cX5_swings_2 6 rfl)
theorem dX5_swings_82 : decode cX5_swings 82 = .ok (.getfield 7, 3) := fo_180 (fw_get da_cX5_swings_2 7 rfl)
theorem dX5_swings_85 : decode cX5_swings 85 = .ok (.iload 7, 2) := fo_21 (fw_get da_cX5_swings_2 8 rfl)
theorem dX5_swings_87 : decode cX5_swings 87 = .ok (.iload 8, 2) := fo_21 (fw_get da_cX5_swings_2 9 rfl)
theorem dX5_swings_89 : decode cX5_swings 89 = .ok (.iastore, 1) := fo_79 (fw_get da_cX5_swings_2 10 rfl)
theorem dX5_swings_90 : decode cX5_swings 90 = .ok (.aload_n 0, 1) := fo_42 (fw_get da_cX5_swings_2 11 rfl)
theorem dX5_swings_91 : decode cX5_swings 91 = .ok (.iconst 0, 1) := fo_3 (fw_get da_cX5_swings_2 12 rfl)
theorem dX5_swings_92 : decode cX5_swings 92 = .ok (.invokevirtual 174, 3) := fo_182 (fw_get da_cX5_swings_2 13 rfl)
theorem dX5_swings_95 : decode cX5_swings 95 = .ok (.istore 9, 2) := fo_54 (fw_get da_cX5_swings_2 14 rfl)
theorem dX5_swings_97 : decode cX5_swings 97 = .ok (.iload 9, 2) := fo_21 (fw_get da_cX5_swings_2 15 rfl)
theorem dX5_swings_99 : decode cX5_swings 99 = .ok (.iload 6, 2) := fo_21 (fw_get da_cX5_swings_2 16 rfl)
theorem dX5_swings_101 : decode cX5_swings 101 = .ok (.if_icmp .gt 6, 3) := fo_163 (fw_get da_cX5_swings_2 17 rfl) (by decide +kernel)
theorem dX5_swings_104 : decode cX5_swings 104 = .ok (.goto 11, 3) := fo_167 (fw_get da_cX5_swings_2 18 rfl) (by decide +kernel)
theorem dX5_swings_107 : decode cX5_swings 107 = .ok (.iload 7, 2) := fo_21 (fw_get da_cX5_swings_2 19 rfl)
def dt_cX5_swings_3 : List (Nat × Nat × Nat × Nat) := [(109, 54, 1, 5), (111, 21, 1, 9), (113, 54, 1, 6), (115, 132, 2, 1793), (118, 167, 2, 65468), (121, 21, 1, 4), (123, 154, 2, 8), (126, 21, 1, 5), (128, 167, 2, 5), (131, 21, 1, 6), (133, 172, 0, 0)]
theorem da_cX5_swings_3 : fw dt_cX5_swings_3 0 cX5_swings.data.toList = true := by decide +kernel
theorem dX5_swings_109 : decode cX5_swings 109 = .ok (.istore 5, 2) := fo_54 (fw_get da_cX5_swings_3 0 rfl)
theorem dX5_swings_111 : decode cX5_swings 111 = .ok (.iload 9, 2) := fo_21 (fw_get da_cX5_swings_3 1 rfl)
theorem dX5_swings_113 : decode cX5_swings 113 = .ok (.istore 6, 2) := fo_54 (fw_get da_cX5_swings_3 2 rfl)
theorem dX5_swings_115 : decode cX5_swings 115 = .ok (.iinc 7 1, 3) := fo_132 (fw_get da_cX5_swings_3 3 rfl) rfl (by decide +kernel)
theorem dX5_swings_118 : decode cX5_swings 118 = .ok (.goto (-68), 3) := fo_167 (fw_get da_cX5_swings_3 4 rfl) (by decide +kernel)
theorem dX5_swings_121 : decode cX5_swings 121 = .ok (.iload 4, 2) := fo_21 (fw_get da_cX5_swings_3 5 rfl)
theorem dX5_swings_123 : decode cX5_swings 123 = .ok (.ifCond .ne 8, 3) := fo_154 (fw_get da_cX5_swings_3 6 rfl) (by decide +kernel)
theorem dX5_swings_126 : decode cX5_swings 126 = .ok (.iload 5, 2) := fo_21 (fw_get da_cX5_swings_3 7 rfl)
theorem dX5_swings_128 : decode cX5_swings 128 = .ok (.goto 5, 3) := fo_167 (fw_get da_cX5_swings_3 8 rfl) (by decide +kernel)
theorem dX5_swings_131 : decode cX5_swings 131 = .ok (.iload 6, 2) := fo_21 (fw_get da_cX5_swings_3 9 rfl)
theorem dX5_swings_133 : decode cX5_swings 133 = .ok (.ireturn, 1) := fo_172 (fw_get da_cX5_swings_3 10 rfl)
set_option maxRecDepth 20000 in
theorem ggX5_deep_X5_deep : GoodIn wsX5_deep wsX5_deep := goodIn_r _ [0, 1, 2, 3, 4] rfl (by decide +kernel)
set_option maxRecDepth 20000 in
theorem gX5_deep_X5_deep : GoodIn wsX5_deep (wsV RX5 220 RX5 yX5_deep wsX5_deep) := goodIn_app (goodIn_r _ [1, 2, 3, 4] rfl (by decide +kernel)) ggX5_deep_X5_deep
def dt_cX5_deep_0 : List (Nat × Nat × Nat × Nat) := [(0, 28, 0, 0), (1, 27, 0, 0), (2, 100, 0, 0), (3, 5, 0, 0), (4, 162, 2, 7), (7, 28, 0, 0), (8, 27, 0, 0), (9, 100, 0, 0), (10, 172, 0, 0), (11, 27, 0, 0), (12, 28, 0, 0), (13, 96, 0, 0), (14, 5, 0, 0), (15, 108, 0, 0), (16, 62, 0, 0), (17, 42, 0, 0), (18, 27, 0, 0), (19, 29, 0, 0), (20, 182, 2, 220), (23, 54, 1, 4)]
theorem da_cX5_deep_0 : fw dt_cX5_deep_0 0 cX5_deep.data.toList = true := by decide +kernel
theorem dX5_deep_0 : decode cX5_deep 0 = .ok (.iload_n 2, 1) := fo_28 (fw_get da_cX5_deep_0 0 rfl)
theorem dX5_deep_1 : decode cX5_deep 1 = .ok (.iload_n 1, 1) := fo_27 (fw_get da_cX5_deep_0 1 rfl)
theorem dX5_deep_2 : decode cX5_deep 2 = .ok (.isub, 1) := fo_100 (fw_get da_cX5_deep_0 2 rfl)
theorem dX5_deep_3 : decode cX5_deep 3 = .ok (.iconst 2, 1) := fo_5 (fw_get da_cX5_deep_0 3 rfl)
theorem dX5_deep_4 : decode cX5_deep 4 = .ok (.if_icmp .ge 7, 3) := fo_162 (fw_get da_cX5_deep_0 4 rfl) (by decide +kernel)
theorem dX5_deep_7 : decode cX5_deep 7 = .ok (.iload_n 2, 1) := fo_28 (fw_get da_cX5_deep_0 5 rfl)
theorem dX5_deep_8 : decode cX5_deep 8 = .ok (.iload_n 1, 1) := fo_27 (fw_get da_cX5_deep_0 6 rfl)
theorem dX5_deep_9 : decode cX5_deep 9 = .ok (.isub, 1) := fo_100 (fw_get da_cX5_deep_0 7 rfl)
theorem dX5_deep_10 : decode cX5_deep 10 = .ok (.ireturn, 1) := fo_172 (fw_get da_cX5_deep_0 8 rfl)
theorem dX5_deep_11 : decode cX5_deep 11 = .ok (.iload_n 1, 1) := fo_27 (fw_get da_cX5_deep_0 9 rfl)
theorem dX5_deep_12 : decode cX5_deep 12 = .ok (.iload_n 2, 1) := fo_28 (fw_get da_cX5_deep_0 10 rfl)
theorem dX5_deep_13 : decode cX5_deep 13 = .ok (.iadd, 1) := fo_96 (fw_get da_cX5_deep_0 11 rfl)
theorem dX5_deep_14 : decode cX5_deep 14 = .ok (.iconst 2, 1) := fo_5 (fw_get da_cX5_deep_0 12 rfl)
theorem dX5_deep_15 : decode cX5_deep 15 = .ok (.idiv, 1) := fo_108 (fw_get da_cX5_deep_0 13 rfl)
theorem dX5_deep_16 : decode cX5_deep 16 = .ok (.istore_n 3, 1) := fo_62 (fw_get da_cX5_deep_0 14 rfl)
theorem dX5_deep_17 : decode cX5_deep 17 = .ok (.aload_n 0, 1) := fo_42 (fw_get da_cX5_deep_0 15 rfl)
theorem dX5_deep_18 : decode cX5_deep 18 = .ok (.iload_n 1, 1) := fo_27 (fw_get da_cX5_deep_0 16 rfl)
theorem dX5_deep_19 : decode cX5_deep 19 = .ok (.iload_n 3, 1) := fo_29 (fw_get da_cX5_deep_0 17 rfl)
theorem dX5_deep_20 : decode cX5_deep 20 = .ok (.invokevirtual 220, 3) := fo_182 (fw_get da_cX5_deep_0 18 rfl)
theorem dX5_deep_23 : decode cX5_deep 23 = .ok (.istore 4, 2) := fo_54 (fw_get da_cX5_deep_0 19 rfl)
def dt_cX5_deep_1 : List (Nat × Nat × Nat × Nat) := [(25, 42, 0, 0), (26, 29, 0, 0), (27, 28, 0, 0), (28, 182, 2, 220), (31, 54, 1, 5), (33, 4, 0, 0), (34, 21, 1, 4), (36, 21, 1, 5), (38, 164, 2, 8), (41, 21, 1, 4), (43, 167, 2, 5), (46, 21, 1, 5), (48, 96, 0, 0), (49, 172, 0, 0)]
theorem da_cX5_deep_1 : fw dt_cX5_deep_1 0 cX5_deep.data.toList = true := by decide +kernel
theorem dX5_deep_25 : decode cX5_deep 25 = .ok (.aload_n 0, 1) := fo_42 (fw_get da_cX5_deep_1 0 rfl)
theorem dX5_deep_26 : decode cX5_deep 26 = .ok (.iload_n 3, 1) := fo_29 (fw_get da_cX5_deep_1 1 rfl)
theorem dX5_deep_27 : decode cX5_deep 27 = .ok (.iload_n 2, 1) := fo_28 (fw_get da_cX5_deep_1 2 rfl)
theorem dX5_deep_28 : decode cX5_deep 28 = .ok (.invokevirtual 220, 3) := fo_182 (fw_get da_cX5_deep_1 3 rfl)
theorem dX5_deep_31 : decode cX5_deep 31 = .ok (.istore 5, 2) := fo_54 (fw_get da_cX5_deep_1 4 rfl)
theorem dX5_deep_33 : decode cX5_deep 33 = .ok (.iconst 1, 1) := fo_4 (fw_get da_cX5_deep_1 5 rfl)
theorem dX5_deep_34 : decode cX5_deep 34 = .ok (.iload 4, 2) := fo_21 (fw_get da_cX5_deep_1 6 rfl)
theorem dX5_deep_36 : decode cX5_deep 36 = .ok (.iload 5, 2) := fo_21 (fw_get da_cX5_deep_1 7 rfl)
theorem dX5_deep_38 : decode cX5_deep 38 = .ok (.if_icmp .le 8, 3) := fo_164 (fw_get da_cX5_deep_1 8 rfl) (by decide +kernel)
theorem dX5_deep_41 : decode cX5_deep 41 = .ok (.iload 4, 2) := fo_21 (fw_get da_cX5_deep_1 9 rfl)
theorem dX5_deep_43 : decode cX5_deep 43 = .ok (.goto 5, 3) := fo_167 (fw_get da_cX5_deep_1 10 rfl) (by decide +kernel)
theorem dX5_deep_46 : decode cX5_deep 46 = .ok (.iload 5, 2) := fo_21 (fw_get da_cX5_deep_1 11 rfl)
theorem dX5_deep_48 : decode cX5_deep 48 = .ok (.iadd, 1) := fo_96 (fw_get da_cX5_deep_1 12 rfl)
theorem dX5_deep_49 : decode cX5_deep 49 = .ok (.ireturn, 1) := fo_172 (fw_get da_cX5_deep_1 13 rfl)
set_option maxRecDepth 20000 in
theorem ggX5_nodesWithMajority_X5_majorityOf : GoodIn wsX5_nodesWithMajority wsX5_majorityOf := goodIn_r _ [9, 10, 4, 11, 12, 13, 8, 14, 15, 16, 17, 18, 19, 20, 21, 22, 23, 24, 25, 26, 27, 28, 29, 30, 31, 32, 33, 34, 35, 36, 37, 38, 39, 40, 41, 42, 43, 44] rfl (by decide +kernel)
set_option maxRecDepth 20000 in
theorem gX5_nodesWithMajority_X5_majorityOf : GoodIn wsX5_nodesWithMajority (wsV RX5 194 RX5 yX5_majorityOf wsX5_majorityOf) := goodIn_app (goodIn_r _ [5, 6, 7, 8] rfl (by decide +kernel)) ggX5_nodesWithMajority_X5_majorityOf
def dt_cX5_nodesWithMajority_0 : List (Nat × Nat × Nat × Nat) := [(0, 3, 0, 0), (1, 60, 0, 0), (2, 3, 0, 0), (3, 61, 0, 0), (4, 28, 0, 0), (5, 42, 0, 0), (6, 180, 2, 101), (9, 162, 2, 33), (12, 42, 0, 0), (13, 42, 0, 0), (14, 180, 2, 38), (17, 28, 0, 0), (18, 46, 0, 0), (19, 42, 0, 0), (20, 180, 2, 41), (23, 28, 0, 0), (24, 46, 0, 0), (25, 182, 2, 194), (28, 18, 1, 148), (30, 159, 2, 6)]
theorem da_cX5_nodesWithMajority_0 : fw dt_cX5_nodesWithMajority_0 0 cX5_nodesWithMajority.data.toList = true := by decide +kernel
theorem dX5_nodesWithMajority_0 : decode cX5_nodesWithMajority 0 = .ok (.iconst 0, 1) := fo_3 (fw_get da_cX5_nodesWithMajority_0 0 rfl)
theorem dX5_nodesWithMajority_1 : decode cX5_nodesWithMajority 1 = .ok (.istore_n 1, 1) := fo_60 (fw_get da_cX5_nodesWithMajority_0 1 rfl)
theorem dX5_nodesWithMajority_2 : decode cX5_nodesWithMajority 2 = .ok (.iconst 0, 1) := fo_3 (fw_get da_cX5_nodesWithMajority_0 2 rfl)
theorem dX5_nodesWithMajority_3 : decode cX5_nodesWithMajority 3 = .ok (.istore_n 2, 1) := fo_61 (fw_get da_cX5_nodesWithMajority_0 3 rfl)
theorem dX5_nodesWithMajority_4 : decode cX5_nodesWithMajority 4 = .ok (.iload_n 2, 1) := fo_28 (fw_get da_cX5_nodesWithMajority_0 4 rfl)
theorem dX5_nodesWithMajority_5 : decode cX5_nodesWithMajority 5 = .ok (.aload_n 0, 1) := fo_42 (fw_get da_cX5_nodesWithMajority_0 5 rfl)
theorem dX5_nodesWithMajority_6 : decode cX5_nodesWithMajority 6 = .ok (.getfield 101, 3) := fo_180 (fw_get da_cX5_nodesWithMajority_0 6 rfl)
theorem dX5_nodesWithMajority_9 : decode cX5_nodesWithMajority 9 = .ok (.if_icmp .ge 33, 3) := fo_162 (fw_get da_cX5_nodesWithMajority_0 7 rfl) (by decide +kernel)
theorem dX5_nodesWithMajority_12 : decode cX5_nodesWithMajority 12 = .ok (.aload_n 0, 1) := fo_42 (fw_get da_cX5_nodesWithMajority_0 8 rfl)
theorem dX5_nodesWithMajority_13 : decode cX5_nodesWithMajority 13 = .ok (.aload_n 0, 1) := fo_42 (fw_get da_cX5_nodesWithMajority_0 9 rfl)
theorem dX5_nodesWithMajority_14 : decode cX5_nodesWithMajority 14 = .ok (.getfield 38, 3) := fo_180 (fw_get da_cX5_nodesWithMajority_0 10 rfl)
theorem dX5_nodesWithMajority_17 : decode cX5_nodesWithMajority 17 = .ok (.iload_n 2, 1) := fo_28 (fw_get da_cX5_nodesWithMajority_0 11 rfl)
theorem dX5_nodesWithMajority_18 : decode cX5_nodesWithMajority 18 = .ok (.iaload, 1) := fo_46 (fw_get da_cX5_nodesWithMajority_0 12 rfl)
theorem dX5_nodesWithMajority_19 : decode cX5_nodesWithMajority 19 = .ok (.aload_n 0, 1) := fo_42 (fw_get da_cX5_nodesWithMajority_0 13 rfl)
theorem dX5_nodesWithMajority_20 : decode cX5_nodesWithMajority 20 = .ok (.getfield 41, 3) := fo_180 (fw_get da_cX5_nodesWithMajority_0 14 rfl)
theorem dX5_nodesWithMajority_23 : decode cX5_nodesWithMajority 23 = .ok (.iload_n 2, 1) := fo_28 (fw_get da_cX5_nodesWithMajority_0 15 rfl)
theorem dX5_nodesWithMajority_24 : decode cX5_nodesWithMajority 24 = .ok (.iaload, 1) := fo_46 (fw_get da_cX5_nodesWithMajority_0 16 rfl)
theorem dX5_nodesWithMajority_25 : decode cX5_nodesWithMajority 25 = .ok (.invokevirtual 194, 3) := fo_182 (fw_get da_cX5_nodesWithMajority_0 17 rfl)
theorem dX5_nodesWithMajority_28 : decode cX5_nodesWithMajority 28 = .ok (.ldc 148, 2) := fo_18 (fw_get da_cX5_nodesWithMajority_0 18 rfl)
theorem dX5_nodesWithMajority_30 : decode cX5_nodesWithMajority 30 = .ok (.if_icmp .eq 6, 3) := fo_159 (fw_get da_cX5_nodesWithMajority_0 19 rfl) (by decide +kernel)
def dt_cX5_nodesWithMajority_1 : List (Nat × Nat × Nat × Nat) := [(33, 132, 2, 257), (36, 132, 2, 513), (39, 167, 2, 65501), (42, 27, 0, 0), (43, 172, 0, 0)]
theorem da_cX5_nodesWithMajority_1 : fw dt_cX5_nodesWithMajority_1 0 cX5_nodesWithMajority.data.toList = true := by decide +kernel
theorem dX5_nodesWithMajority_33 : decode cX5_nodesWithMajority 33 = .ok (.iinc 1 1, 3) := fo_132 (fw_get da_cX5_nodesWithMajority_1 0 rfl) rfl (by decide +kernel)
theorem dX5_nodesWithMajority_36 : decode cX5_nodesWithMajority 36 = .ok (.iinc 2 1, 3) := fo_132 (fw_get da_cX5_nodesWithMajority_1 1 rfl) rfl (by decide +kernel)
theorem dX5_nodesWithMajority_39 : decode cX5_nodesWithMajority 39 = .ok (.goto (-35), 3) := fo_167 (fw_get da_cX5_nodesWithMajority_1 2 rfl) (by decide +kernel)
theorem dX5_nodesWithMajority_42 : decode cX5_nodesWithMajority 42 = .ok (.iload_n 1, 1) := fo_27 (fw_get da_cX5_nodesWithMajority_1 3 rfl)
theorem dX5_nodesWithMajority_43 : decode cX5_nodesWithMajority 43 = .ok (.ireturn, 1) := fo_172 (fw_get da_cX5_nodesWithMajority_1 4 rfl)
theorem mi_wsX5_told_wsX5_told_r1 : ∀ w ∈ wsX5_told_r1, w ∈ wsX5_told := fun _ h => (List.mem_cons_of_mem _ (List.mem_append_left _ (List.mem_append_left _ h)))
theorem mi_wsX5_told_wsX5_told_r2 : ∀ w ∈ wsX5_told_r2, w ∈ wsX5_told := fun _ h => (List.mem_cons_of_mem _ (List.mem_append_left _ (List.mem_append_right _ (List.mem_append_left _ h))))
theorem mi_wsX5_told_wsX50 : ∀ w ∈ wsX50, w ∈ wsX5_told := fun _ h => (List.mem_cons_of_mem _ (List.mem_append_right _ h))
set_option maxRecDepth 20000 in
theorem ggX5_told_X5_laysAll : GoodIn wsX5_told wsX5_laysAll := goodIn_m _ [(wsX5_told_r1, [false, false, false, false, false, false, false, false, false, true]), (wsX5_told_r1, [false, false, false, true]), (wsX5_told_r1, [false, false, true, false, false, false, false, false, false, false, true, true, true]), (wsX5_told_r1, [false, false, false, false, false, false, false, false, true, false, false, false, false, true, true, true, true, true, true, true, true, true]), (wsX5_told_r1, [false, false, false, false, true, false, false, false, false, false, false, false, false, false, false, false, false, false, false, false, false, false, true, true]), (wsX5_told_r2, [true, true, true, true, true, true, true, true, true, true, true, true, true, true, true, true, true, true, true, true]), (wsX50, [true, true, true, true, true, true, true, true, true, true, true, true, true, true, true, true, true, true, true, true, true, true, true, true, true, true, true, true, true, true])] (gm_c mi_wsX5_told_wsX5_told_r1 (gm_c mi_wsX5_told_wsX5_told_r1 (gm_c mi_wsX5_told_wsX5_told_r1 (gm_c mi_wsX5_told_wsX5_told_r1 (gm_c mi_wsX5_told_wsX5_told_r1 (gm_c mi_wsX5_told_wsX5_told_r2 (gm_c mi_wsX5_told_wsX50 gm_n))))))) rfl (by decide +kernel)
set_option maxRecDepth 20000 in
theorem gX5_told_X5_laysAll : GoodIn wsX5_told (wsV RX5 124 RX5 yX5_laysAll wsX5_laysAll) := goodIn_app (goodIn_m _ [(wsX5_told_r1, [false, false, false, false, false, true, true, true, true])] (gm_c mi_wsX5_told_wsX5_told_r1 gm_n) rfl (by decide +kernel)) ggX5_told_X5_laysAll
theorem mi_wsX5_told_wsX5_told_r3 : ∀ w ∈ wsX5_told_r3, w ∈ wsX5_told := fun _ h => (List.mem_cons_of_mem _ (List.mem_append_left _ (List.mem_append_right _ (List.mem_append_right _ h))))
set_option maxRecDepth 20000 in
theorem ggX5_told_X5_nodesWithMajority : GoodIn wsX5_told wsX5_nodesWithMajority := goodIn_m _ [(wsX5_told_r2, [false, false, false, false, false, false, false, false, false, false, false, false, false, false, false, false, false, false, false, false, false, false, false, true]), (wsX5_told_r1, [false, false, false, true, false, false, false, false, false, false, false, false, false, false, true, true]), (wsX5_told_r3, [true, true, true, true]), (wsX5_told_r1, [false, false, false, false, false, false, false, false, true]), (wsX5_told_r3, [false, false, false, false, true]), (wsX5_told_r1, [false, false, false, false, false, false, false, false, false, false, false, false, false, false, false, false, true]), (wsX5_told_r3, [false, false, false, false, false, true, true, true, true]), (wsX50, [true, true, true, true, true, true, true, true, true, true, true, true, true, true, true, true, true, true, true, true, true, true, true, true, true, true, true, true, true, true])] (gm_c mi_wsX5_told_wsX5_told_r2 (gm_c mi_wsX5_told_wsX5_told_r1 (gm_c mi_wsX5_told_wsX5_told_r3 (gm_c mi_wsX5_told_wsX5_told_r1 (gm_c mi_wsX5_told_wsX5_told_r3 (gm_c mi_wsX5_told_wsX5_told_r1 (gm_c mi_wsX5_told_wsX5_told_r3 (gm_c mi_wsX5_told_wsX50 gm_n)))))))) rfl (by decide +kernel)
set_option maxRecDepth 20000 in
theorem gX5_told_X5_nodesWithMajority : GoodIn wsX5_told (wsV RX5 223 RX5 yX5_nodesWithMajority wsX5_nodesWithMajority) := goodIn_app (goodIn_m _ [(wsX5_told_r2, [false, false, false, false, false, false, false, false, false, false, false, false, false, false, false, false, false, false, false, false, true, true, true]), (wsX5_told_r1, [false, false, false, false, false, false, false, false, true])] (gm_c mi_wsX5_told_wsX5_told_r2 (gm_c mi_wsX5_told_wsX5_told_r1 gm_n)) rfl (by decide +kernel)) ggX5_told_X5_nodesWithMajority
set_option maxRecDepth 20000 in
theorem ggX5_told_X5_deep : GoodIn wsX5_told wsX5_deep := goodIn_m _ [(wsX5_told_r3, [false, false, false, false, false, false, false, false, false, false, false, false, true]), (wsX5_told_r3, [false, false, false, false, false, false, false, false, false, true, true, true]), (wsX5_told_r1, [false, false, false, false, false, false, false, false, true])] (gm_c mi_wsX5_told_wsX5_told_r3 (gm_c mi_wsX5_told_wsX5_told_r3 (gm_c mi_wsX5_told_wsX5_told_r1 gm_n))) rfl (by decide +kernel)
set_option maxRecDepth 20000 in
theorem gX5_told_X5_deep : GoodIn wsX5_told (wsV RX5 220 RX5 yX5_deep wsX5_deep) := goodIn_app (goodIn_m _ [(wsX5_told_r3, [false, false, false, false, false, false, false, false, false, true, true, true]), (wsX5_told_r1, [false, false, false, false, false, false, false, false, true])] (gm_c mi_wsX5_told_wsX5_told_r3 (gm_c mi_wsX5_told_wsX5_told_r1 gm_n)) rfl (by decide +kernel)) ggX5_told_X5_deep
def dt_cX5_told_0 : List (Nat × Nat × Nat × Nat) := [(0, 42, 0, 0), (1, 3, 0, 0), (2, 181, 2, 77), (5, 42, 0, 0), (6, 42, 0, 0), (7, 180, 2, 13), (10, 182, 2, 124), (13, 27, 0, 0)]
theorem da_cX5_told_0 : fw dt_cX5_told_0 0 cX5_told.data.toList = true := by decide +kernel
theorem dX5_told_0 : decode cX5_told 0 = .ok (.aload_n 0, 1) := fo_42 (fw_get da_cX5_told_0 0 rfl)
theorem dX5_told_1 : decode cX5_told 1 = .ok (.iconst 0, 1) := fo_3 (fw_get da_cX5_told_0 1 rfl)
theorem dX5_told_2 : decode cX5_told 2 = .ok (.putfield 77, 3) := fo_181 (fw_get da_cX5_told_0 2 rfl)
theorem dX5_told_5 : decode cX5_told 5 = .ok (.aload_n 0, 1) := fo_42 (fw_get da_cX5_told_0 3 rfl)
theorem dX5_told_6 : decode cX5_told 6 = .ok (.aload_n 0, 1) := fo_42 (fw_get da_cX5_told_0 4 rfl)
theorem dX5_told_7 : decode cX5_told 7 = .ok (.getfield 13, 3) := fo_180 (fw_get da_cX5_told_0 5 rfl)
theorem dX5_told_10 : decode cX5_told 10 = .ok (.invokevirtual 124, 3) := fo_182 (fw_get da_cX5_told_0 6 rfl)
theorem dX5_told_13 : decode cX5_told 13 = .ok (.iload_n 1, 1) := fo_27 (fw_get da_cX5_told_0 7 rfl)
theorem dX5_told_14 : decode cX5_told 14 = .ok (.tableswitch 119 0 6 #[42, 47, 52, 57, 62, 72, 90], 42) := by decide +kernel
def dt_cX5_told_1 : List (Nat × Nat × Nat × Nat) := [(56, 42, 0, 0), (57, 180, 2, 84), (60, 172, 0, 0), (61, 42, 0, 0), (62, 180, 2, 13), (65, 172, 0, 0), (66, 42, 0, 0), (67, 180, 2, 101), (70, 172, 0, 0), (71, 42, 0, 0), (72, 182, 2, 223), (75, 172, 0, 0), (76, 42, 0, 0), (77, 3, 0, 0), (78, 42, 0, 0), (79, 180, 2, 84), (82, 182, 2, 220), (85, 172, 0, 0), (86, 42, 0, 0), (87, 180, 2, 84)]
theorem da_cX5_told_1 : fw dt_cX5_told_1 0 cX5_told.data.toList = true := by decide +kernel
theorem dX5_told_56 : decode cX5_told 56 = .ok (.aload_n 0, 1) := fo_42 (fw_get da_cX5_told_1 0 rfl)
theorem dX5_told_57 : decode cX5_told 57 = .ok (.getfield 84, 3) := fo_180 (fw_get da_cX5_told_1 1 rfl)
theorem dX5_told_60 : decode cX5_told 60 = .ok (.ireturn, 1) := fo_172 (fw_get da_cX5_told_1 2 rfl)
theorem dX5_told_61 : decode cX5_told 61 = .ok (.aload_n 0, 1) := fo_42 (fw_get da_cX5_told_1 3 rfl)
theorem dX5_told_62 : decode cX5_told 62 = .ok (.getfield 13, 3) := fo_180 (fw_get da_cX5_told_1 4 rfl)
theorem dX5_told_65 : decode cX5_told 65 = .ok (.ireturn, 1) := fo_172 (fw_get da_cX5_told_1 5 rfl)
theorem dX5_told_66 : decode cX5_told 66 = .ok (.aload_n 0, 1) := fo_42 (fw_get da_cX5_told_1 6 rfl)
theorem dX5_told_67 : decode cX5_told 67 = .ok (.getfield 101, 3) := fo_180 (fw_get da_cX5_told_1 7 rfl)
theorem dX5_told_70 : decode cX5_told 70 = .ok (.ireturn, 1) := fo_172 (fw_get da_cX5_told_1 8 rfl)
theorem dX5_told_71 : decode cX5_told 71 = .ok (.aload_n 0, 1) := fo_42 (fw_get da_cX5_told_1 9 rfl)
theorem dX5_told_72 : decode cX5_told 72 = .ok (.invokevirtual 223, 3) := fo_182 (fw_get da_cX5_told_1 10 rfl)
theorem dX5_told_75 : decode cX5_told 75 = .ok (.ireturn, 1) := fo_172 (fw_get da_cX5_told_1 11 rfl)
theorem dX5_told_76 : decode cX5_told 76 = .ok (.aload_n 0, 1) := fo_42 (fw_get da_cX5_told_1 12 rfl)
theorem dX5_told_77 : decode cX5_told 77 = .ok (.iconst 0, 1) := fo_3 (fw_get da_cX5_told_1 13 rfl)
theorem dX5_told_78 : decode cX5_told 78 = .ok (.aload_n 0, 1) := fo_42 (fw_get da_cX5_told_1 14 rfl)
theorem dX5_told_79 : decode cX5_told 79 = .ok (.getfield 84, 3) := fo_180 (fw_get da_cX5_told_1 15 rfl)
theorem dX5_told_82 : decode cX5_told 82 = .ok (.invokevirtual 220, 3) := fo_182 (fw_get da_cX5_told_1 16 rfl)
theorem dX5_told_85 : decode cX5_told 85 = .ok (.ireturn, 1) := fo_172 (fw_get da_cX5_told_1 17 rfl)
theorem dX5_told_86 : decode cX5_told 86 = .ok (.aload_n 0, 1) := fo_42 (fw_get da_cX5_told_1 18 rfl)
theorem dX5_told_87 : decode cX5_told 87 = .ok (.getfield 84, 3) := fo_180 (fw_get da_cX5_told_1 19 rfl)
def dt_cX5_told_2 : List (Nat × Nat × Nat × Nat) := [(90, 154, 2, 7), (93, 3, 0, 0), (94, 167, 2, 9), (97, 42, 0, 0), (98, 180, 2, 20), (101, 3, 0, 0), (102, 46, 0, 0), (103, 172, 0, 0), (104, 3, 0, 0), (105, 61, 0, 0), (106, 3, 0, 0), (107, 62, 0, 0), (108, 29, 0, 0), (109, 42, 0, 0), (110, 180, 2, 101), (113, 162, 2, 18), (116, 28, 0, 0), (117, 42, 0, 0), (118, 180, 2, 20), (121, 29, 0, 0)]
theorem da_cX5_told_2 : fw dt_cX5_told_2 0 cX5_told.data.toList = true := by decide +kernel
theorem dX5_told_90 : decode cX5_told 90 = .ok (.ifCond .ne 7, 3) := fo_154 (fw_get da_cX5_told_2 0 rfl) (by decide +kernel)
theorem dX5_told_93 : decode cX5_told 93 = .ok (.iconst 0, 1) := fo_3 (fw_get da_cX5_told_2 1 rfl)
theorem dX5_told_94 : decode cX5_told 94 = .ok (.goto 9, 3) := fo_167 (fw_get da_cX5_told_2 2 rfl) (by decide +kernel)
theorem dX5_told_97 : decode cX5_told 97 = .ok (.aload_n 0, 1) := fo_42 (fw_get da_cX5_told_2 3 rfl)
theorem dX5_told_98 : decode cX5_told 98 = .ok (.getfield 20, 3) := fo_180 (fw_get da_cX5_told_2 4 rfl)
theorem dX5_told_101 : decode cX5_told 101 = .ok (.iconst 0, 1) := fo_3 (fw_get da_cX5_told_2 5 rfl)
theorem dX5_told_102 : decode cX5_told 102 = .ok (.iaload, 1) := fo_46 (fw_get da_cX5_told_2 6 rfl)
theorem dX5_told_103 : decode cX5_told 103 = .ok (.ireturn, 1) := fo_172 (fw_get da_cX5_told_2 7 rfl)
theorem dX5_told_104 : decode cX5_told 104 = .ok (.iconst 0, 1) := fo_3 (fw_get da_cX5_told_2 8 rfl)
theorem dX5_told_105 : decode cX5_told 105 = .ok (.istore_n 2, 1) := fo_61 (fw_get da_cX5_told_2 9 rfl)
theorem dX5_told_106 : decode cX5_told 106 = .ok (.iconst 0, 1) := fo_3 (fw_get da_cX5_told_2 10 rfl)
theorem dX5_told_107 : decode cX5_told 107 = .ok (.istore_n 3, 1) := fo_62 (fw_get da_cX5_told_2 11 rfl)
theorem dX5_told_108 : decode cX5_told 108 = .ok (.iload_n 3, 1) := fo_29 (fw_get da_cX5_told_2 12 rfl)
theorem dX5_told_109 : decode cX5_told 109 = .ok (.aload_n 0, 1) := fo_42 (fw_get da_cX5_told_2 13 rfl)
theorem dX5_told_110 : decode cX5_told 110 = .ok (.getfield 101, 3) := fo_180 (fw_get da_cX5_told_2 14 rfl)
theorem dX5_told_113 : decode cX5_told 113 = .ok (.if_icmp .ge 18, 3) := fo_162 (fw_get da_cX5_told_2 15 rfl) (by decide +kernel)
theorem dX5_told_116 : decode cX5_told 116 = .ok (.iload_n 2, 1) := fo_28 (fw_get da_cX5_told_2 16 rfl)
theorem dX5_told_117 : decode cX5_told 117 = .ok (.aload_n 0, 1) := fo_42 (fw_get da_cX5_told_2 17 rfl)
theorem dX5_told_118 : decode cX5_told 118 = .ok (.getfield 20, 3) := fo_180 (fw_get da_cX5_told_2 18 rfl)
theorem dX5_told_121 : decode cX5_told 121 = .ok (.iload_n 3, 1) := fo_29 (fw_get da_cX5_told_2 19 rfl)
def dt_cX5_told_3 : List (Nat × Nat × Nat × Nat) := [(122, 46, 0, 0), (123, 96, 0, 0), (124, 61, 0, 0), (125, 132, 2, 769), (128, 167, 2, 65516), (131, 28, 0, 0), (132, 172, 0, 0), (133, 2, 0, 0), (134, 172, 0, 0)]
theorem da_cX5_told_3 : fw dt_cX5_told_3 0 cX5_told.data.toList = true := by decide +kernel
theorem dX5_told_122 : decode cX5_told 122 = .ok (.iaload, 1) := fo_46 (fw_get da_cX5_told_3 0 rfl)
theorem dX5_told_123 : decode cX5_told 123 = .ok (.iadd, 1) := fo_96 (fw_get da_cX5_told_3 1 rfl)
theorem dX5_told_124 : decode cX5_told 124 = .ok (.istore_n 2, 1) := fo_61 (fw_get da_cX5_told_3 2 rfl)
theorem dX5_told_125 : decode cX5_told 125 = .ok (.iinc 3 1, 3) := fo_132 (fw_get da_cX5_told_3 3 rfl) rfl (by decide +kernel)
theorem dX5_told_128 : decode cX5_told 128 = .ok (.goto (-20), 3) := fo_167 (fw_get da_cX5_told_3 4 rfl) (by decide +kernel)
theorem dX5_told_131 : decode cX5_told 131 = .ok (.iload_n 2, 1) := fo_28 (fw_get da_cX5_told_3 5 rfl)
theorem dX5_told_132 : decode cX5_told 132 = .ok (.ireturn, 1) := fo_172 (fw_get da_cX5_told_3 6 rfl)
theorem dX5_told_133 : decode cX5_told 133 = .ok (.iconst (-1), 1) := fo_2 (fw_get da_cX5_told_3 7 rfl)
theorem dX5_told_134 : decode cX5_told 134 = .ok (.ireturn, 1) := fo_172 (fw_get da_cX5_told_3 8 rfl)


set_option maxHeartbeats 4000000 in
set_option maxRecDepth 100000 in
theorem c_X5_majorityOf_x (l : Launch) (dC : Nat → ClassId) (dI : Nat → Nat → Nat) (h0 : Nat) (g_row : Nat) (g_many : Nat) (g_loss : Nat) (g_less : Nat) (g_voteValue : Nat) (g_voteNumber : Nat) (g_allValue : Nat) (g_allNumber : Nat) (g_nodeL : Nat) (g_nodeR : Nat) (g_part : Nat) (g_wasMany : Nat) (g_wasLoss : Nat) (g_wasValue : Nat) (g_wasNumber : Nat) (g_path : Nat) (g_heavyValue : Nat) (g_heavyTimes : Nat) (g_fewest : Nat) (g_which : Nat) (g_met : Nat) (m_n : Int32) (m_slots : Int32) (m_thrown : Int32) (m_allMany : Int32) (m_nodes : Int32) (m_partMany : Int32) (m_pathMany : Int32) (m_heavyMany : Int32) (m_mostMet : Int32) (cyI : ClassId) (f : Nat → Int32) (p0 : Int32) (p1 : Int32) (d0 : 0 ≤ p0.toInt) (d1 : p1.toInt ≤ 160) (d2 : p0.toInt < p1.toInt) : Met l yX5_majorityOf wsX5_majorityOf ({ frames := 1, cells := 0, slots := 0, locals := 45 }) (va_Pc [.ref h0, .int p0, .int p1] (fun U => va_P (dC, dI) vwCl [kx_5 h0 g_row m_n m_slots m_thrown g_many g_loss g_less g_voteValue g_voteNumber g_allValue g_allNumber m_allMany g_nodeL g_nodeR m_nodes g_part m_partMany g_wasMany g_wasLoss g_wasValue g_wasNumber g_path m_pathMany g_heavyValue g_heavyTimes m_heavyMany g_fewest g_which g_met m_mostMet, kx_a g_row cyI 160 f] U.heap ∧ va_K (dC, dI) vwCl [(cyI, .int)] U)) (vp_Si (fun r : Int32 => mj_maj f p0.toNatClampNeg p1.toNatClampNeg r)) 0 0 (fun _ => False) := by
  refine kx_stS (ws := wsX5_majorityOf) (cc := cX5_majorityOf) (maxL := 4) (ret := (some .int)) (by decide) rfl (Nat.le_of_ble_eq_true rfl) ?_
  intro p e s m below meth c ls hx hb hr hlocks hts hown hml hP hK hl
  have hown : s.vm.findClass RX5 = some m.cls := hown
  have hl : lv_has ls 4 [(0, .ref h0), (1, .int p0), (2, .int p1)] := hl
  have hk_148 := hts (.constant RX5 148 (-40000)) (List.mem_of_getElem? (i := 2) rfl)
  have hf_7 := hts (.fieldLink RX5 7 "MajorityIndexModel" "row" "[I") (List.mem_of_getElem? (i := 1) rfl)
  have hi_5 : ∀ w ∈ u_ws RX5 TX5 30, w ∈ wsX5_majorityOf := fun w h => List.mem_cons_of_mem _ (List.mem_append_right _ h)
  have n_p0 := ki_nat p0 rfl (om_10 d0)
  have n_p1 := ki_nat p1 rfl (om_21 d0 d2)
  refine lv_iload_n hx hb dX5_majorityOf_0 rfl (lv_at hl 1 rfl) ?_
  refine lv_istore_n (lv' := [(3, .int p0), (0, .ref h0), (1, .int p0), (2, .int p1)]) hx hb dX5_majorityOf_1 rfl hl (by decide) rfl (fun ls hl => ?_)
  have LP1 : ∀ (n : Nat) (i : Int32), (p0.toInt ≤ i.toInt) → (∀ k : Nat, p0.toNatClampNeg ≤ k → k < i.toNatClampNeg → 2 * (cnt f (f k) p0.toNatClampNeg (p1.toNatClampNeg - p0.toNatClampNeg) : Int) ≤ ((p1.toNatClampNeg - p0.toNatClampNeg : Nat) : Int)) → (p1.toInt - i.toInt).toNat < n → ∀ (ls : Array Slot), lv_has ls 4 [(3, .int i), (0, .ref h0), (1, .int p0), (2, .int p1)] → W p l e (headSpec wsX5_majorityOf ({ frames := 1, cells := 0, slots := 0, locals := 45 })).room s m ([.ref h0, .int p0, .int p1] : List Value).toArray below meth c s.heap [] 0 0 (MQ below (vp_Si (fun r : Int32 => mj_maj f p0.toNatClampNeg p1.toNatClampNeg r)) ([.ref h0, .int p0, .int p1] : List Value).toArray s 0 0 (fun _ => False)) (F0 m 2 ls []) := by
    intro n
    induction n with
    | zero => intro i LP1_h0 LP1_h1 hn; exact absurd hn (Nat.not_lt_zero _)
    | succ n ih1 =>
      intro i LP1_h0 LP1_h1 hn1 ls hl
      have n_i := ki_nat i rfl (om_0 d0 LP1_h0)
      refine lv_iload_n hx hb dX5_majorityOf_2 rfl (lv_at hl 0 rfl) ?_
      refine lv_iload_n hx hb dX5_majorityOf_3 rfl (lv_at hl 3 rfl) ?_
      refine lv_icmp_ge (tgt := 40) hx hb dX5_majorityOf_4 (by decide) (fun c_1 => ?_) (fun c_1 => ?_)
      · have i_1 : p1.toInt ≤ i.toInt := kc_le c_1
        refine lv_ldc (v := (-40000)) hx hb hown hk_148 dX5_majorityOf_40 ?_
        exact W.iret (v := (-40000)) hx hb hr (hlocks := hlocks) (fun t ht hW => ⟨(-40000), rfl, (Or.inr ⟨rfl, fun k h1 h2 => LP1_h1 k h1 (by (try dsimp only); omega)⟩), ht⟩) (fun q hq => by cases hq) dX5_majorityOf_42
      · have i_1 : i.toInt < p1.toInt := kc_nle c_1
        refine lv_iconst (v := 2) hx hb dX5_majorityOf_7 (by decide) ?_
        refine lv_aload_n hx hb dX5_majorityOf_8 rfl (lv_at hl 1 rfl) ?_
        refine lv_aload_n hx hb dX5_majorityOf_9 rfl (lv_at hl 1 rfl) ?_
        refine va_get (D := (dC, dI)) (ci := 5) (v := .ref g_row) (C := RX5) (T := TX5) (N := 30) hx hb hts hi_5 hown hK hP 0 rfl rfl 0 (by decide) hf_7 (fun _ h9 => h9) rfl dX5_majorityOf_10 ?_
        refine lv_iload_n hx hb dX5_majorityOf_13 rfl (lv_at hl 0 rfl) ?_
        refine va_iald hx hb hK hP 1 0 rfl rfl (ki_in (om_0 d0 LP1_h0) (om_1 d1 i_1)) dX5_majorityOf_14 ?_
        refine lv_topi (fun y_2 ey_2 => ?_)
        have j_2 : y_2.toInt = (f i.toNatClampNeg).toInt := congrArg Int32.toInt ey_2
        refine lv_iload_n hx hb dX5_majorityOf_15 rfl (lv_at hl 2 rfl) ?_
        refine lv_iload_n hx hb dX5_majorityOf_16 rfl (lv_at hl 3 rfl) ?_
        have hPc := hP
        have hKc := hK
        refine vp_callSi (W.runV (As := [.int y_2, .int p0, .int p1]) (rest := [.int 2]) ⟨hx, hb, hml, hown, hts⟩ (c_X5_times l dC dI h0 g_row g_many g_loss g_less g_voteValue g_voteNumber g_allValue g_allNumber g_nodeL g_nodeR g_part g_wasMany g_wasLoss g_wasValue g_wasNumber g_path g_heavyValue g_heavyTimes g_fewest g_which g_met m_n m_slots m_thrown m_allMany m_nodes m_partMany m_pathMany m_heavyMany m_mostMet cyI f y_2 p0 p1 d0 d1) (cwV 3 hts gX5_majorityOf_X5_times rfl rfl rfl (by decide +kernel) ⟨Nat.le_of_ble_eq_true rfl, Nat.le_of_ble_eq_true rfl⟩) ⟨fun a U g mk q => by obtain ⟨q0, qP, qK⟩ := q; exact ⟨q0, qP, va_K.moved (u := U) (U := U.calling g mk a) (Vm.Alike.refl U.vm) qK⟩, kx_rc5 hKc hPc (q0 := 0) rfl, fun U hU hW => ⟨rfl, by rw [hU]; exact hPc, va_K.moved hW.alike hKc⟩⟩ rfl rfl hl.1 rfl (lv_room (Nat.le_of_ble_eq_true rfl)) dX5_majorityOf_17 ⟨Nat.le_of_ble_eq_true rfl, Nat.le_of_ble_eq_true rfl⟩) (fun r_3 w_3 => ?_)
        have w_3 : r_3.toInt = (cnt f y_2 p0.toNatClampNeg (p1.toInt - p0.toInt).toNat : Int) := w_3
        have hle := cnt_le f y_2 p0.toNatClampNeg (p1.toInt - p0.toInt).toNat
        refine lv_imul hx hb dX5_majorityOf_20 ?_
        refine lv_topi (fun y_4 ey_4 => ?_)
        have i_4 : y_4.toInt = 2 * r_3.toInt := ki_mul ey_4 rfl rfl (by omega) (by omega)
        refine lv_iload_n hx hb dX5_majorityOf_21 rfl (lv_at hl 3 rfl) ?_
        refine lv_iload_n hx hb dX5_majorityOf_22 rfl (lv_at hl 2 rfl) ?_
        refine lv_isub hx hb dX5_majorityOf_23 ?_
        refine lv_topi (fun y_5 ey_5 => ?_)
        have i_5 : y_5.toInt = p1.toInt - p0.toInt := ki_sub ey_5 rfl rfl (om_168 d2) (om_445 d0 d1)
        refine lv_icmp_le (tgt := 34) hx hb dX5_majorityOf_24 (by decide) (fun c_6 => ?_) (fun c_6 => ?_)
        · have i_6 : y_4.toInt ≤ y_5.toInt := kc_le c_6
          obtain ⟨x_7, ex_7⟩ : ∃ y : Int32, y = i + 1 := ⟨_, rfl⟩
          have i_7 : x_7.toInt = i.toInt + 1 := ki_add ex_7 rfl rfl (om_2 d0 LP1_h0) (om_3 d1 i_1)
          refine lv_iinc (v := x_7) (lv' := [(3, .int x_7), (0, .ref h0), (1, .int p0), (2, .int p1)]) hx hb dX5_majorityOf_34 hl (k := 0) rfl (by rw [ex_7]; rfl) (by decide) rfl (fun ls hl => ?_)
          refine lv_goto (tgt := 2) hx hb dX5_majorityOf_37 (by decide) ?_
          have n_8 := ki_nat x_7 rfl (om_89 d0 LP1_h0 i_7)
          exact ih1 x_7 (om_4 LP1_h0 i_7) (fun k h1 h2 => if h9 : k < i.toNatClampNeg then LP1_h1 k h1 h9 else (by rw [show k = i.toNatClampNeg by omega, ← ey_2, show p1.toNatClampNeg - p0.toNatClampNeg = (p1.toInt - p0.toInt).toNat by omega]; omega)) (om_mu hn1 (om_5 i_7) (om_6 i_1)) ls (lv_sub hl [0, 1, 2, 3] rfl)
        · have i_6 : y_5.toInt < y_4.toInt := kc_nle c_6
          refine lv_aload_n hx hb dX5_majorityOf_27 rfl (lv_at hl 1 rfl) ?_
          refine va_get (D := (dC, dI)) (ci := 5) (v := .ref g_row) (C := RX5) (T := TX5) (N := 30) hx hb hts hi_5 hown hK hP 0 rfl rfl 0 (by decide) hf_7 (fun _ h9 => h9) rfl dX5_majorityOf_28 ?_
          refine lv_iload_n hx hb dX5_majorityOf_31 rfl (lv_at hl 0 rfl) ?_
          refine va_iald hx hb hK hP 1 0 rfl rfl (ki_in (om_0 d0 LP1_h0) (om_1 d1 i_1)) dX5_majorityOf_32 ?_
          refine lv_topi (fun y_9 ey_9 => ?_)
          have j_9 : y_9.toInt = (f i.toNatClampNeg).toInt := congrArg Int32.toInt ey_9
          exact W.iret (v := y_9) hx hb hr (hlocks := hlocks) (fun t ht hW => ⟨y_9, rfl, (Or.inl ⟨i.toNatClampNeg, (by (try dsimp only); omega), (by (try dsimp only); omega), ey_9.symm, (by (try dsimp only); rw [show p1.toNatClampNeg - p0.toNatClampNeg = (p1.toInt - p0.toInt).toNat by omega, ey_9, ← ey_2]; omega)⟩), ht⟩) (fun q hq => by cases hq) dX5_majorityOf_33
  exact LP1 ((p1.toInt - p0.toInt : Int).toNat + 1) p0 om_7 (fun k h1 h2 => absurd h2 (by omega)) (Nat.lt_succ_self _) ls (lv_sub hl [0, 1, 2, 3] rfl)

set_option maxHeartbeats 4000000 in
set_option maxRecDepth 100000 in
theorem c_X5_reach (l : Launch) (dC : Nat → ClassId) (dI : Nat → Nat → Nat) (h0 : Nat) (g_row : Nat) (g_many : Nat) (g_loss : Nat) (g_less : Nat) (g_voteValue : Nat) (g_voteNumber : Nat) (g_allValue : Nat) (g_allNumber : Nat) (g_nodeL : Nat) (g_nodeR : Nat) (g_part : Nat) (g_wasMany : Nat) (g_wasLoss : Nat) (g_wasValue : Nat) (g_wasNumber : Nat) (g_path : Nat) (g_heavyValue : Nat) (g_heavyTimes : Nat) (g_fewest : Nat) (g_which : Nat) (g_met : Nat) (m_n : Int32) (m_slots : Int32) (m_thrown : Int32) (m_allMany : Int32) (m_nodes : Int32) (m_partMany : Int32) (m_pathMany : Int32) (m_heavyMany : Int32) (m_mostMet : Int32) (cyI : ClassId) (f : Nat → Int32) (p0 : Int32) (sz : Nat) (a0 : 0 ≤ m_n.toInt) (a1 : m_n.toInt ≤ 160) (s1 : shorts f) : kx_MQ l (dC, dI) yX5_reach wsX5_reach ({ frames := 2, cells := 0, slots := 0, locals := 90 }) [.ref h0, .int p0] [kx_5 h0 g_row m_n m_slots m_thrown g_many g_loss g_less g_voteValue g_voteNumber g_allValue g_allNumber m_allMany g_nodeL g_nodeR m_nodes g_part m_partMany g_wasMany g_wasLoss g_wasValue g_wasNumber g_path m_pathMany g_heavyValue g_heavyTimes m_heavyMany g_fewest g_which g_met m_mostMet, kx_a g_row cyI 160 f] [(cyI, .int)] sz (fun A => va_Qi (fun (r : Int32) (_ : Unit) => True) (fun (_ : Unit) (t : State) => va_P (dC, dI) vwCl [kx_5 h0 g_row m_n m_slots 0 g_many g_loss g_less g_voteValue g_voteNumber g_allValue g_allNumber m_allMany g_nodeL g_nodeR m_nodes g_part m_partMany g_wasMany g_wasLoss g_wasValue g_wasNumber g_path m_pathMany g_heavyValue g_heavyTimes m_heavyMany g_fewest g_which g_met m_mostMet, kx_a g_row cyI 160 f] t.heap ∧ va_K (dC, dI) vwCl [(cyI, .int)] t ∧ va_D A [kx_5 h0 g_row m_n m_slots 0 g_many g_loss g_less g_voteValue g_voteNumber g_allValue g_allNumber m_allMany g_nodeL g_nodeR m_nodes g_part m_partMany g_wasMany g_wasLoss g_wasValue g_wasNumber g_path m_pathMany g_heavyValue g_heavyTimes m_heavyMany g_fewest g_which g_met m_mostMet, kx_a g_row cyI 160 f]) A) := by
  refine kx_stQ (ws := wsX5_reach) (cc := cX5_reach) (maxL := 3) (ret := (some .int)) (by decide) rfl (Nat.le_of_ble_eq_true rfl) ?_
  intro p e s m below meth c A ls hx hb hr hlocks hts hown hml hA hS hP hK hD hl
  have hown : s.vm.findClass RX5 = some m.cls := hown
  have hl : lv_has ls 3 [(0, .ref h0), (1, .int p0)] := hl
  have hf_77 := hts (.fieldLink RX5 77 "MajorityIndexModel" "thrown" "I") (List.mem_of_getElem? (i := 1) rfl)
  have hi_5 : ∀ w ∈ u_ws RX5 TX5 30, w ∈ wsX5_reach := fun w h => List.mem_cons_of_mem _ (List.mem_append_right _ h)
  have hf_84 := hts (.fieldLink RX5 84 "MajorityIndexModel" "n" "I") (List.mem_of_getElem? (i := 2) rfl)
  have hk_148 := hts (.constant RX5 148 (-40000)) (List.mem_of_getElem? (i := 3) rfl)
  refine lv_aload_n hx hb dX5_reach_0 rfl (lv_at hl 0 rfl) ?_
  refine lv_iconst (v := 0) hx hb dX5_reach_1 (by decide) ?_
  refine va_put (D := (dC, dI)) (ci := 5) (v := .int 0) (ty := .int) (C := RX5) (T := TX5) (N := 30) hx hb hts hi_5 tyX5 tyX5_ok nmX5 hown hK hP hD hS 0 rfl rfl 3 (by decide) hf_77 (fun _ h9 => h9) rfl (by decide +kernel) rfl rfl (Nat.le_of_ble_eq_true rfl) dX5_reach_2 (fun H locs hP hD hS => ?_)
  obtain ⟨hP, hD⟩ := kx_re (w2 := [kx_5 h0 g_row m_n m_slots 0 g_many g_loss g_less g_voteValue g_voteNumber g_allValue g_allNumber m_allMany g_nodeL g_nodeR m_nodes g_part m_partMany g_wasMany g_wasLoss g_wasValue g_wasNumber g_path m_pathMany g_heavyValue g_heavyTimes m_heavyMany g_fewest g_which g_met m_mostMet, kx_a g_row cyI 160 f]) hP hD rfl
  refine lv_aload_n hx hb dX5_reach_5 rfl (lv_at hl 0 rfl) ?_
  refine lv_iload_n hx hb dX5_reach_6 rfl (lv_at hl 1 rfl) ?_
  have hPc := hP.sub (ws' := [kx_5 h0 g_row m_n m_slots 0 g_many g_loss g_less g_voteValue g_voteNumber g_allValue g_allNumber m_allMany g_nodeL g_nodeR m_nodes g_part m_partMany g_wasMany g_wasLoss g_wasValue g_wasNumber g_path m_pathMany g_heavyValue g_heavyTimes m_heavyMany g_fewest g_which g_met m_mostMet]) [0] rfl
  have hKc := hK.sub (tys' := []) [] rfl
  refine vp_callSi (W.runV (As := [.int p0]) (rest := []) ⟨hx, hb, hml, hown, hts⟩ (c_X5_isPlace l dC dI h0 g_row g_many g_loss g_less g_voteValue g_voteNumber g_allValue g_allNumber g_nodeL g_nodeR g_part g_wasMany g_wasLoss g_wasValue g_wasNumber g_path g_heavyValue g_heavyTimes g_fewest g_which g_met m_n m_slots 0 m_allMany m_nodes m_partMany m_pathMany m_heavyMany m_mostMet p0 a0 a1) (cwV 1 hts gX5_reach_X5_isPlace rfl rfl rfl (by decide +kernel) ⟨Nat.le_of_ble_eq_true rfl, Nat.le_of_ble_eq_true rfl⟩) ⟨fun a U g mk q => by obtain ⟨q0, qP, qK⟩ := q; exact ⟨q0, qP, va_K.moved (u := U) (U := U.calling g mk a) (Vm.Alike.refl U.vm) qK⟩, kx_rc5 hKc hPc (q0 := 0) rfl, fun U hU hW => ⟨rfl, by rw [hU]; exact hPc, va_K.moved hW.alike hKc⟩⟩ rfl rfl hl.1 rfl (lv_room (Nat.le_of_ble_eq_true rfl)) dX5_reach_7 ⟨Nat.le_of_ble_eq_true rfl, Nat.le_of_ble_eq_true rfl⟩) (fun r_1 w_1 => ?_)
  rcases w_1 with ⟨rfl, w_1⟩ | ⟨rfl, w_1⟩
  · have w_1 : (0 ≤ p0.toInt ∧ p0.toInt < m_n.toInt) := w_1
    refine lv_if_ne (tgt := 15) hx hb dX5_reach_10 (by decide) (fun c_2 => ?_) (fun c_2 => ?_)
    · refine lv_aload_n hx hb dX5_reach_15 rfl (lv_at hl 0 rfl) ?_
      refine va_get (D := (dC, dI)) (ci := 5) (v := .int m_n) (C := RX5) (T := TX5) (N := 30) hx hb hts hi_5 hown hK hP 0 rfl rfl 1 (by decide) hf_84 (fun _ h9 => h9) rfl dX5_reach_16 ?_
      refine lv_istore_n (lv' := [(2, .int m_n), (0, .ref h0), (1, .int p0)]) hx hb dX5_reach_19 rfl hl (by decide) rfl (fun ls hl => ?_)
      have LP1 : ∀ (n : Nat) (rr : Int32), (p0.toInt < rr.toInt) → (rr.toInt ≤ m_n.toInt) → (rr.toInt).toNat < n → ∀ (H : Heap) (locs : List Loc), va_P (dC, dI) vwCl [kx_5 h0 g_row m_n m_slots 0 g_many g_loss g_less g_voteValue g_voteNumber g_allValue g_allNumber m_allMany g_nodeL g_nodeR m_nodes g_part m_partMany g_wasMany g_wasLoss g_wasValue g_wasNumber g_path m_pathMany g_heavyValue g_heavyTimes m_heavyMany g_fewest g_which g_met m_mostMet, kx_a g_row cyI 160 f] H → va_D A [kx_5 h0 g_row m_n m_slots 0 g_many g_loss g_less g_voteValue g_voteNumber g_allValue g_allNumber m_allMany g_nodeL g_nodeR m_nodes g_part m_partMany g_wasMany g_wasLoss g_wasValue g_wasNumber g_path m_pathMany g_heavyValue g_heavyTimes m_heavyMany g_fewest g_which g_met m_mostMet, kx_a g_row cyI 160 f] → va_S A s.heap H locs → ∀ (ls : Array Slot), lv_has ls 3 [(2, .int rr), (0, .ref h0), (1, .int p0)] → W p l e (headSpec wsX5_reach ({ frames := 2, cells := 0, slots := 0, locals := 90 })).room s m ([.ref h0, .int p0] : List Value).toArray below meth c H locs 0 0 (MQ below (va_Qi (fun (r : Int32) (_ : Unit) => True) (fun (_ : Unit) (t : State) => va_P (dC, dI) vwCl [kx_5 h0 g_row m_n m_slots 0 g_many g_loss g_less g_voteValue g_voteNumber g_allValue g_allNumber m_allMany g_nodeL g_nodeR m_nodes g_part m_partMany g_wasMany g_wasLoss g_wasValue g_wasNumber g_path m_pathMany g_heavyValue g_heavyTimes m_heavyMany g_fewest g_which g_met m_mostMet, kx_a g_row cyI 160 f] t.heap ∧ va_K (dC, dI) vwCl [(cyI, .int)] t ∧ va_D A [kx_5 h0 g_row m_n m_slots 0 g_many g_loss g_less g_voteValue g_voteNumber g_allValue g_allNumber m_allMany g_nodeL g_nodeR m_nodes g_part m_partMany g_wasMany g_wasLoss g_wasValue g_wasNumber g_path m_pathMany g_heavyValue g_heavyTimes m_heavyMany g_fewest g_which g_met m_mostMet, kx_a g_row cyI 160 f]) A) ([.ref h0, .int p0] : List Value).toArray s 0 0 A) (F0 m 20 ls []) := by
        intro n
        induction n with
        | zero => intro rr LP1_h0 LP1_h1 hn; exact absurd hn (Nat.not_lt_zero _)
        | succ n ih1 =>
          intro rr LP1_h0 LP1_h1 hn1 H locs hP hD hS ls hl
          refine lv_aload_n hx hb dX5_reach_20 rfl (lv_at hl 1 rfl) ?_
          refine lv_iload_n hx hb dX5_reach_21 rfl (lv_at hl 2 rfl) ?_
          refine lv_iload_n hx hb dX5_reach_22 rfl (lv_at hl 0 rfl) ?_
          have hPc := hP
          have hKc := hK
          refine vp_callSi (W.runV (As := [.int p0, .int rr]) (rest := []) ⟨hx, hb, hml, hown, hts⟩ (c_X5_majorityOf_x l dC dI h0 g_row g_many g_loss g_less g_voteValue g_voteNumber g_allValue g_allNumber g_nodeL g_nodeR g_part g_wasMany g_wasLoss g_wasValue g_wasNumber g_path g_heavyValue g_heavyTimes g_fewest g_which g_met m_n m_slots 0 m_allMany m_nodes m_partMany m_pathMany m_heavyMany m_mostMet cyI f p0 rr (om_10 w_1.1) (om_167 a1 LP1_h1) LP1_h0) (cwV 2 hts gX5_reach_X5_majorityOf rfl rfl rfl (by decide +kernel) ⟨Nat.le_of_ble_eq_true rfl, Nat.le_of_ble_eq_true rfl⟩) ⟨fun a U g mk q => by obtain ⟨q0, qP, qK⟩ := q; exact ⟨q0, qP, va_K.moved (u := U) (U := U.calling g mk a) (Vm.Alike.refl U.vm) qK⟩, kx_rc5 hKc hPc (q0 := 0) rfl, fun U hU hW => ⟨rfl, by rw [hU]; exact hPc, va_K.moved hW.alike hKc⟩⟩ rfl rfl hl.1 rfl (lv_room (Nat.le_of_ble_eq_true rfl)) dX5_reach_23 ⟨Nat.le_of_ble_eq_true rfl, Nat.le_of_ble_eq_true rfl⟩) (fun r_3 w_3 => ?_)
          have w_3 : mj_maj f p0.toNatClampNeg rr.toNatClampNeg r_3 := w_3
          refine lv_ldc (v := (-40000)) hx hb hown hk_148 dX5_reach_26 ?_
          refine lv_icmp_ne (tgt := 37) hx hb dX5_reach_28 (by decide) (fun c_4 => ?_) (fun c_4 => ?_)
          · have i_4 : ¬ r_3.toInt = (-40000) := kc_ne c_4
            refine lv_iload_n hx hb dX5_reach_37 rfl (lv_at hl 0 rfl) ?_
            have hP9 := hP
            have hD9 := hD
            have hK9 := hK
            exact W.iret (v := rr) hx hb hr (hlocks := hlocks) (fun t ht hW => ⟨⟨rr, (), rfl, trivial, by rw [ht]; exact hP9, va_K.moved hW.alike hK9, hD9⟩, hS.F ht⟩) hS.2.2 dX5_reach_38
          · have i_4 : r_3.toInt = (-40000) := kc_eq c_4
            have n_p0 := ki_nat p0 rfl (om_10 w_1.1)
            have n_rr := ki_nat rr rfl (om_21 w_1.1 LP1_h0)
            have hne := mj_maj_one w_3 s1 (by omega) c_4
            obtain ⟨x_5, ex_5⟩ : ∃ y : Int32, y = rr + (-1) := ⟨_, rfl⟩
            have i_5 : x_5.toInt = rr.toInt + (-1) := ki_add ex_5 rfl rfl (om_23 w_1.1 LP1_h0) (om_233 a1 LP1_h1)
            refine lv_iinc (v := x_5) (lv' := [(2, .int x_5), (0, .ref h0), (1, .int p0)]) hx hb dX5_reach_31 hl (k := 0) rfl (by rw [ex_5]; rfl) (by decide) rfl (fun ls hl => ?_)
            refine lv_goto (tgt := 20) hx hb dX5_reach_34 (by decide) ?_
            exact ih1 x_5 (by omega) (om_26 LP1_h1 i_5) (om_mu hn1 (om_27 i_5) (om_28 w_1.1 LP1_h0)) _ _ hP hD hS ls (lv_sub hl [0, 1, 2] rfl)
      exact LP1 ((m_n.toInt : Int).toNat + 1) m_n (om_11 w_1.2) om_7 (Nat.lt_succ_self _) _ _ hP hD hS ls (lv_sub hl [0, 1, 2] rfl)
    · exact absurd c_2 (by decide)
  · have w_1 : (p0.toInt < 0 ∨ m_n.toInt ≤ p0.toInt) := w_1
    refine lv_if_ne (tgt := 15) hx hb dX5_reach_10 (by decide) (fun c_6 => ?_) (fun c_6 => ?_)
    · exact absurd c_6 (by decide)
    · refine lv_iconst (v := (-1)) hx hb dX5_reach_13 (by decide) ?_
      have hP9 := hP
      have hD9 := hD
      have hK9 := hK
      exact W.iret (v := (-1)) hx hb hr (hlocks := hlocks) (fun t ht hW => ⟨⟨(-1), (), rfl, trivial, by rw [ht]; exact hP9, va_K.moved hW.alike hK9, hD9⟩, hS.F ht⟩) hS.2.2 dX5_reach_14

set_option maxHeartbeats 4000000 in
set_option maxRecDepth 100000 in
theorem c_X5_spares (l : Launch) (dC : Nat → ClassId) (dI : Nat → Nat → Nat) (h0 : Nat) (g_row : Nat) (g_many : Nat) (g_loss : Nat) (g_less : Nat) (g_voteValue : Nat) (g_voteNumber : Nat) (g_allValue : Nat) (g_allNumber : Nat) (g_nodeL : Nat) (g_nodeR : Nat) (g_part : Nat) (g_wasMany : Nat) (g_wasLoss : Nat) (g_wasValue : Nat) (g_wasNumber : Nat) (g_path : Nat) (g_heavyValue : Nat) (g_heavyTimes : Nat) (g_fewest : Nat) (g_which : Nat) (g_met : Nat) (m_n : Int32) (m_slots : Int32) (m_thrown : Int32) (m_allMany : Int32) (m_nodes : Int32) (m_partMany : Int32) (m_pathMany : Int32) (m_heavyMany : Int32) (m_mostMet : Int32) (cyI : ClassId) (f : Nat → Int32) (p0 : Int32) (p1 : Int32) (p2 : Int32) (p3 : Int32) (p4 : Int32) (sz : Nat) (a0 : 0 ≤ m_n.toInt) (a1 : m_n.toInt ≤ 160) : kx_MQ l (dC, dI) yX5_spares wsX5_spares ({ frames := 2, cells := 0, slots := 0, locals := 90 }) [.ref h0, .int p0, .int p1, .int p2, .int p3, .int p4] [kx_5 h0 g_row m_n m_slots m_thrown g_many g_loss g_less g_voteValue g_voteNumber g_allValue g_allNumber m_allMany g_nodeL g_nodeR m_nodes g_part m_partMany g_wasMany g_wasLoss g_wasValue g_wasNumber g_path m_pathMany g_heavyValue g_heavyTimes m_heavyMany g_fewest g_which g_met m_mostMet, kx_a g_row cyI 160 f] [(cyI, .int)] sz (fun A => va_Qi (fun (r : Int32) (_ : Unit) => True) (fun (_ : Unit) (t : State) => va_P (dC, dI) vwCl [kx_5 h0 g_row m_n m_slots 0 g_many g_loss g_less g_voteValue g_voteNumber g_allValue g_allNumber m_allMany g_nodeL g_nodeR m_nodes g_part m_partMany g_wasMany g_wasLoss g_wasValue g_wasNumber g_path m_pathMany g_heavyValue g_heavyTimes m_heavyMany g_fewest g_which g_met m_mostMet, kx_a g_row cyI 160 f] t.heap ∧ va_K (dC, dI) vwCl [(cyI, .int)] t ∧ va_D A [kx_5 h0 g_row m_n m_slots 0 g_many g_loss g_less g_voteValue g_voteNumber g_allValue g_allNumber m_allMany g_nodeL g_nodeR m_nodes g_part m_partMany g_wasMany g_wasLoss g_wasValue g_wasNumber g_path m_pathMany g_heavyValue g_heavyTimes m_heavyMany g_fewest g_which g_met m_mostMet, kx_a g_row cyI 160 f]) A) := by
  refine kx_stQ (ws := wsX5_spares) (cc := cX5_spares) (maxL := 8) (ret := (some .int)) (by decide) rfl (Nat.le_of_ble_eq_true rfl) ?_
  intro p e s m below meth c A ls hx hb hr hlocks hts hown hml hA hS hP hK hD hl
  have hown : s.vm.findClass RX5 = some m.cls := hown
  have hl : lv_has ls 8 [(0, .ref h0), (1, .int p0), (2, .int p1), (3, .int p2), (4, .int p3), (5, .int p4)] := hl
  have hf_77 := hts (.fieldLink RX5 77 "MajorityIndexModel" "thrown" "I") (List.mem_of_getElem? (i := 1) rfl)
  have hi_5 : ∀ w ∈ u_ws RX5 TX5 30, w ∈ wsX5_spares := fun w h => List.mem_cons_of_mem _ (List.mem_append_right _ h)
  refine lv_aload_n hx hb dX5_spares_0 rfl (lv_at hl 0 rfl) ?_
  refine lv_iconst (v := 0) hx hb dX5_spares_1 (by decide) ?_
  refine va_put (D := (dC, dI)) (ci := 5) (v := .int 0) (ty := .int) (C := RX5) (T := TX5) (N := 30) hx hb hts hi_5 tyX5 tyX5_ok nmX5 hown hK hP hD hS 0 rfl rfl 3 (by decide) hf_77 (fun _ h9 => h9) rfl (by decide +kernel) rfl rfl (Nat.le_of_ble_eq_true rfl) dX5_spares_2 (fun H locs hP hD hS => ?_)
  obtain ⟨hP, hD⟩ := kx_re (w2 := [kx_5 h0 g_row m_n m_slots 0 g_many g_loss g_less g_voteValue g_voteNumber g_allValue g_allNumber m_allMany g_nodeL g_nodeR m_nodes g_part m_partMany g_wasMany g_wasLoss g_wasValue g_wasNumber g_path m_pathMany g_heavyValue g_heavyTimes m_heavyMany g_fewest g_which g_met m_mostMet, kx_a g_row cyI 160 f]) hP hD rfl
  refine lv_iload_n hx hb dX5_spares_5 rfl (lv_at hl 1 rfl) ?_
  have hPc := hP.sub (ws' := []) [] rfl
  have hKc := hK.sub (tys' := []) [] rfl
  refine vp_callSi (W.runS (As := [.int p0]) (rest := []) ⟨hx, hb, hml, hown, hts⟩ (c_X5_isValue l dC dI p0) (va_cwS 1 hts gX5_spares_X5_isValue rfl rfl rfl (by decide +kernel) ⟨Nat.le_of_ble_eq_true rfl, Nat.le_of_ble_eq_true rfl⟩) ⟨fun a U g mk q => by obtain ⟨q0, qP, qK⟩ := q; exact ⟨q0, qP, va_K.moved (u := U) (U := U.calling g mk a) (Vm.Alike.refl U.vm) qK⟩, fun U hU hW => ⟨rfl, by rw [hU]; exact hPc, va_K.moved hW.alike hKc⟩⟩ rfl rfl hl.1 rfl (lv_room (Nat.le_of_ble_eq_true rfl)) dX5_spares_6 ⟨Nat.le_of_ble_eq_true rfl, Nat.le_of_ble_eq_true rfl⟩) (fun r_1 w_1 => ?_)
  rcases w_1 with ⟨rfl, w_1⟩ | ⟨rfl, w_1⟩
  · have w_1 : (-32768 ≤ p0.toInt ∧ p0.toInt ≤ 32767) := w_1
    refine lv_if_eq (tgt := 31) hx hb dX5_spares_9 (by decide) (fun c_2 => ?_) (fun c_2 => ?_)
    · exact absurd c_2 (by decide)
    · refine lv_aload_n hx hb dX5_spares_12 rfl (lv_at hl 0 rfl) ?_
      refine lv_iload_n hx hb dX5_spares_13 rfl (lv_at hl 2 rfl) ?_
      refine lv_iload_n hx hb dX5_spares_14 rfl (lv_at hl 3 rfl) ?_
      have hPc := hP.sub (ws' := [kx_5 h0 g_row m_n m_slots 0 g_many g_loss g_less g_voteValue g_voteNumber g_allValue g_allNumber m_allMany g_nodeL g_nodeR m_nodes g_part m_partMany g_wasMany g_wasLoss g_wasValue g_wasNumber g_path m_pathMany g_heavyValue g_heavyTimes m_heavyMany g_fewest g_which g_met m_mostMet]) [0] rfl
      have hKc := hK.sub (tys' := []) [] rfl
      refine vp_callSi (W.runV (As := [.int p1, .int p2]) (rest := []) ⟨hx, hb, hml, hown, hts⟩ (c_X5_isRange l dC dI h0 g_row g_many g_loss g_less g_voteValue g_voteNumber g_allValue g_allNumber g_nodeL g_nodeR g_part g_wasMany g_wasLoss g_wasValue g_wasNumber g_path g_heavyValue g_heavyTimes g_fewest g_which g_met m_n m_slots 0 m_allMany m_nodes m_partMany m_pathMany m_heavyMany m_mostMet p1 p2) (cwV 2 hts gX5_spares_X5_isRange rfl rfl rfl (by decide +kernel) ⟨Nat.le_of_ble_eq_true rfl, Nat.le_of_ble_eq_true rfl⟩) ⟨fun a U g mk q => by obtain ⟨q0, qP, qK⟩ := q; exact ⟨q0, qP, va_K.moved (u := U) (U := U.calling g mk a) (Vm.Alike.refl U.vm) qK⟩, kx_rc5 hKc hPc (q0 := 0) rfl, fun U hU hW => ⟨rfl, by rw [hU]; exact hPc, va_K.moved hW.alike hKc⟩⟩ rfl rfl hl.1 rfl (lv_room (Nat.le_of_ble_eq_true rfl)) dX5_spares_15 ⟨Nat.le_of_ble_eq_true rfl, Nat.le_of_ble_eq_true rfl⟩) (fun r_3 w_3 => ?_)
      rcases w_3 with ⟨rfl, w_3⟩ | ⟨rfl, w_3⟩
      · have w_3 : (0 ≤ p1.toInt ∧ p1.toInt < p2.toInt ∧ p2.toInt ≤ m_n.toInt) := w_3
        refine lv_if_eq (tgt := 31) hx hb dX5_spares_18 (by decide) (fun c_4 => ?_) (fun c_4 => ?_)
        · exact absurd c_4 (by decide)
        · refine lv_iload hx hb dX5_spares_21 (lv_at hl 4 rfl) ?_
          refine lv_iload hx hb dX5_spares_23 (lv_at hl 5 rfl) ?_
          have hPc := hP.sub (ws' := []) [] rfl
          have hKc := hK.sub (tys' := []) [] rfl
          refine vp_callSi (W.runS (As := [.int p3, .int p4]) (rest := []) ⟨hx, hb, hml, hown, hts⟩ (c_X5_isShare l dC dI p3 p4) (va_cwS 2 hts gX5_spares_X5_isShare rfl rfl rfl (by decide +kernel) ⟨Nat.le_of_ble_eq_true rfl, Nat.le_of_ble_eq_true rfl⟩) ⟨fun a U g mk q => by obtain ⟨q0, qP, qK⟩ := q; exact ⟨q0, qP, va_K.moved (u := U) (U := U.calling g mk a) (Vm.Alike.refl U.vm) qK⟩, fun U hU hW => ⟨rfl, by rw [hU]; exact hPc, va_K.moved hW.alike hKc⟩⟩ rfl rfl hl.1 rfl (lv_room (Nat.le_of_ble_eq_true rfl)) dX5_spares_25 ⟨Nat.le_of_ble_eq_true rfl, Nat.le_of_ble_eq_true rfl⟩) (fun r_5 w_5 => ?_)
          rcases w_5 with ⟨rfl, w_5⟩ | ⟨rfl, w_5⟩
          · have w_5 : (1 ≤ p3.toInt ∧ p3.toInt ≤ p4.toInt ∧ p4.toInt ≤ 999) := w_5
            refine lv_if_ne (tgt := 33) hx hb dX5_spares_28 (by decide) (fun c_6 => ?_) (fun c_6 => ?_)
            · refine lv_aload_n hx hb dX5_spares_33 rfl (lv_at hl 0 rfl) ?_
              refine lv_iload_n hx hb dX5_spares_34 rfl (lv_at hl 1 rfl) ?_
              refine lv_iload_n hx hb dX5_spares_35 rfl (lv_at hl 2 rfl) ?_
              refine lv_iload_n hx hb dX5_spares_36 rfl (lv_at hl 3 rfl) ?_
              have hPc := hP
              have hKc := hK
              refine vp_callSi (W.runV (As := [.int p0, .int p1, .int p2]) (rest := []) ⟨hx, hb, hml, hown, hts⟩ (c_X5_times l dC dI h0 g_row g_many g_loss g_less g_voteValue g_voteNumber g_allValue g_allNumber g_nodeL g_nodeR g_part g_wasMany g_wasLoss g_wasValue g_wasNumber g_path g_heavyValue g_heavyTimes g_fewest g_which g_met m_n m_slots 0 m_allMany m_nodes m_partMany m_pathMany m_heavyMany m_mostMet cyI f p0 p1 p2 (om_10 w_3.1) (om_167 a1 w_3.2.2)) (cwV 3 hts gX5_spares_X5_times rfl rfl rfl (by decide +kernel) ⟨Nat.le_of_ble_eq_true rfl, Nat.le_of_ble_eq_true rfl⟩) ⟨fun a U g mk q => by obtain ⟨q0, qP, qK⟩ := q; exact ⟨q0, qP, va_K.moved (u := U) (U := U.calling g mk a) (Vm.Alike.refl U.vm) qK⟩, kx_rc5 hKc hPc (q0 := 0) rfl, fun U hU hW => ⟨rfl, by rw [hU]; exact hPc, va_K.moved hW.alike hKc⟩⟩ rfl rfl hl.1 rfl (lv_room (Nat.le_of_ble_eq_true rfl)) dX5_spares_37 ⟨Nat.le_of_ble_eq_true rfl, Nat.le_of_ble_eq_true rfl⟩) (fun r_7 w_7 => ?_)
              have w_7 : r_7.toInt = (cnt f p0 p1.toNatClampNeg (p2.toInt - p1.toInt).toNat : Int) := w_7
              have hle := cnt_le f p0 p1.toNatClampNeg (p2.toInt - p1.toInt).toNat
              refine lv_istore (lv' := [(6, .int r_7), (0, .ref h0), (1, .int p0), (2, .int p1), (3, .int p2), (4, .int p3), (5, .int p4)]) hx hb dX5_spares_40 hl (by decide) rfl (fun ls hl => ?_)
              refine lv_iconst (v := 0) hx hb dX5_spares_42 (by decide) ?_
              refine lv_istore (lv' := [(7, .int 0), (6, .int r_7), (0, .ref h0), (1, .int p0), (2, .int p1), (3, .int p2), (4, .int p3), (5, .int p4)]) hx hb dX5_spares_43 hl (by decide) rfl (fun ls hl => ?_)
              have LP1 : ∀ (n : Nat) (k : Int32), (0 ≤ k.toInt) → (k.toInt ≤ r_7.toInt) → (r_7.toInt - k.toInt).toNat < n → ∀ (H : Heap) (locs : List Loc), va_P (dC, dI) vwCl [kx_5 h0 g_row m_n m_slots 0 g_many g_loss g_less g_voteValue g_voteNumber g_allValue g_allNumber m_allMany g_nodeL g_nodeR m_nodes g_part m_partMany g_wasMany g_wasLoss g_wasValue g_wasNumber g_path m_pathMany g_heavyValue g_heavyTimes m_heavyMany g_fewest g_which g_met m_mostMet, kx_a g_row cyI 160 f] H → va_D A [kx_5 h0 g_row m_n m_slots 0 g_many g_loss g_less g_voteValue g_voteNumber g_allValue g_allNumber m_allMany g_nodeL g_nodeR m_nodes g_part m_partMany g_wasMany g_wasLoss g_wasValue g_wasNumber g_path m_pathMany g_heavyValue g_heavyTimes m_heavyMany g_fewest g_which g_met m_mostMet, kx_a g_row cyI 160 f] → va_S A s.heap H locs → ∀ (ls : Array Slot), lv_has ls 8 [(7, .int k), (6, .int r_7), (0, .ref h0), (1, .int p0), (2, .int p1), (3, .int p2), (4, .int p3), (5, .int p4)] → W p l e (headSpec wsX5_spares ({ frames := 2, cells := 0, slots := 0, locals := 90 })).room s m ([.ref h0, .int p0, .int p1, .int p2, .int p3, .int p4] : List Value).toArray below meth c H locs 0 0 (MQ below (va_Qi (fun (r : Int32) (_ : Unit) => True) (fun (_ : Unit) (t : State) => va_P (dC, dI) vwCl [kx_5 h0 g_row m_n m_slots 0 g_many g_loss g_less g_voteValue g_voteNumber g_allValue g_allNumber m_allMany g_nodeL g_nodeR m_nodes g_part m_partMany g_wasMany g_wasLoss g_wasValue g_wasNumber g_path m_pathMany g_heavyValue g_heavyTimes m_heavyMany g_fewest g_which g_met m_mostMet, kx_a g_row cyI 160 f] t.heap ∧ va_K (dC, dI) vwCl [(cyI, .int)] t ∧ va_D A [kx_5 h0 g_row m_n m_slots 0 g_many g_loss g_less g_voteValue g_voteNumber g_allValue g_allNumber m_allMany g_nodeL g_nodeR m_nodes g_part m_partMany g_wasMany g_wasLoss g_wasValue g_wasNumber g_path m_pathMany g_heavyValue g_heavyTimes m_heavyMany g_fewest g_which g_met m_mostMet, kx_a g_row cyI 160 f]) A) ([.ref h0, .int p0, .int p1, .int p2, .int p3, .int p4] : List Value).toArray s 0 0 A) (F0 m 45 ls []) := by
                intro n
                induction n with
                | zero => intro k LP1_h0 LP1_h1 hn; exact absurd hn (Nat.not_lt_zero _)
                | succ n ih1 =>
                  intro k LP1_h0 LP1_h1 hn1 H locs hP hD hS ls hl
                  refine lv_iload hx hb dX5_spares_45 (lv_at hl 1 rfl) ?_
                  refine lv_iload hx hb dX5_spares_47 (lv_at hl 0 rfl) ?_
                  refine lv_isub hx hb dX5_spares_49 ?_
                  refine lv_topi (fun y_8 ey_8 => ?_)
                  have i_8 : y_8.toInt = r_7.toInt - k.toInt := ki_sub ey_8 rfl rfl (om_184 LP1_h1) (by omega)
                  refine lv_iload hx hb dX5_spares_50 (lv_at hl 7 rfl) ?_
                  refine lv_imul hx hb dX5_spares_52 ?_
                  refine lv_topi (fun y_9 ey_9 => ?_)
                  refine lv_iload hx hb dX5_spares_53 (lv_at hl 6 rfl) ?_
                  refine lv_iload_n hx hb dX5_spares_55 rfl (lv_at hl 5 rfl) ?_
                  refine lv_iload_n hx hb dX5_spares_56 rfl (lv_at hl 4 rfl) ?_
                  refine lv_isub hx hb dX5_spares_57 ?_
                  refine lv_topi (fun y_10 ey_10 => ?_)
                  have i_10 : y_10.toInt = p2.toInt - p1.toInt := ki_sub ey_10 rfl rfl (om_168 w_3.2.1) (om_169 a1 w_3.1 w_3.2.2)
                  refine lv_imul hx hb dX5_spares_58 ?_
                  refine lv_topi (fun y_11 ey_11 => ?_)
                  have b1 := ki_mulb (a := y_8.toInt) (b := p4.toInt) (A := 160) (B := 999) (by omega) (by omega) (by omega) (by omega)
                  have b2 := ki_mulb (a := p3.toInt) (b := y_10.toInt) (A := 999) (B := 160) (by omega) (by omega) (by omega) (by omega)
                  have m1 : y_9.toInt = y_8.toInt * p4.toInt := ki_mul ey_9 rfl rfl (by omega) (by omega)
                  have m2 : y_11.toInt = p3.toInt * y_10.toInt := ki_mul ey_11 rfl rfl (by omega) (by omega)
                  refine lv_icmp_le (tgt := 68) hx hb dX5_spares_59 (by decide) (fun c_12 => ?_) (fun c_12 => ?_)
                  · have i_12 : y_9.toInt ≤ y_11.toInt := kc_le c_12
                    refine lv_iload hx hb dX5_spares_68 (lv_at hl 0 rfl) ?_
                    have hP9 := hP
                    have hD9 := hD
                    have hK9 := hK
                    exact W.iret (v := k) hx hb hr (hlocks := hlocks) (fun t ht hW => ⟨⟨k, (), rfl, trivial, by rw [ht]; exact hP9, va_K.moved hW.alike hK9, hD9⟩, hS.F ht⟩) hS.2.2 dX5_spares_70
                  · have i_12 : y_11.toInt < y_9.toInt := kc_nle c_12
                    have h3 := ki_mulpos (z := p3.toInt * y_10.toInt) (a := y_8.toInt) (b := p4.toInt) (by omega) (by omega) (by omega)
                    obtain ⟨x_13, ex_13⟩ : ∃ y : Int32, y = k + 1 := ⟨_, rfl⟩
                    have i_13 : x_13.toInt = k.toInt + 1 := ki_add ex_13 rfl rfl (om_13 LP1_h0) (by omega)
                    refine lv_iinc (v := x_13) (lv' := [(7, .int x_13), (6, .int r_7), (0, .ref h0), (1, .int p0), (2, .int p1), (3, .int p2), (4, .int p3), (5, .int p4)]) hx hb dX5_spares_62 hl (k := 0) rfl (by rw [ex_13]; rfl) (by decide) rfl (fun ls hl => ?_)
                    refine lv_goto (tgt := 45) hx hb dX5_spares_65 (by decide) ?_
                    exact ih1 x_13 (om_34 LP1_h0 i_13) (by omega) (by omega) _ _ hP hD hS ls (lv_sub hl [0, 1, 2, 3, 4, 5, 6, 7] rfl)
              have k_14 : (0 : Int32).toInt = 0 := rfl
              exact LP1 ((r_7.toInt - 0 : Int).toNat + 1) 0 om_35 (by omega) (Nat.lt_succ_self _) _ _ hP hD hS ls (lv_sub hl [0, 1, 2, 3, 4, 5, 6, 7] rfl)
            · exact absurd c_6 (by decide)
          · have w_5 : (p3.toInt < 1 ∨ p4.toInt < p3.toInt ∨ 999 < p4.toInt) := w_5
            refine lv_if_ne (tgt := 33) hx hb dX5_spares_28 (by decide) (fun c_15 => ?_) (fun c_15 => ?_)
            · exact absurd c_15 (by decide)
            · refine lv_iconst (v := (-1)) hx hb dX5_spares_31 (by decide) ?_
              have hP9 := hP
              have hD9 := hD
              have hK9 := hK
              exact W.iret (v := (-1)) hx hb hr (hlocks := hlocks) (fun t ht hW => ⟨⟨(-1), (), rfl, trivial, by rw [ht]; exact hP9, va_K.moved hW.alike hK9, hD9⟩, hS.F ht⟩) hS.2.2 dX5_spares_32
      · have w_3 : (p1.toInt < 0 ∨ p2.toInt ≤ p1.toInt ∨ m_n.toInt < p2.toInt) := w_3
        refine lv_if_eq (tgt := 31) hx hb dX5_spares_18 (by decide) (fun c_16 => ?_) (fun c_16 => ?_)
        · refine lv_iconst (v := (-1)) hx hb dX5_spares_31 (by decide) ?_
          have hP9 := hP
          have hD9 := hD
          have hK9 := hK
          exact W.iret (v := (-1)) hx hb hr (hlocks := hlocks) (fun t ht hW => ⟨⟨(-1), (), rfl, trivial, by rw [ht]; exact hP9, va_K.moved hW.alike hK9, hD9⟩, hS.F ht⟩) hS.2.2 dX5_spares_32
        · exact absurd c_16 (by decide)
  · have w_1 : (p0.toInt < -32768 ∨ 32767 < p0.toInt) := w_1
    refine lv_if_eq (tgt := 31) hx hb dX5_spares_9 (by decide) (fun c_17 => ?_) (fun c_17 => ?_)
    · refine lv_iconst (v := (-1)) hx hb dX5_spares_31 (by decide) ?_
      have hP9 := hP
      have hD9 := hD
      have hK9 := hK
      exact W.iret (v := (-1)) hx hb hr (hlocks := hlocks) (fun t ht hW => ⟨⟨(-1), (), rfl, trivial, by rw [ht]; exact hP9, va_K.moved hW.alike hK9, hD9⟩, hS.F ht⟩) hS.2.2 dX5_spares_32
    · exact absurd c_17 (by decide)

set_option maxHeartbeats 4000000 in
set_option maxRecDepth 100000 in
theorem c_X5_swings (l : Launch) (dC : Nat → ClassId) (dI : Nat → Nat → Nat) (h0 : Nat) (g_row : Nat) (g_many : Nat) (g_loss : Nat) (g_less : Nat) (g_voteValue : Nat) (g_voteNumber : Nat) (g_allValue : Nat) (g_allNumber : Nat) (g_nodeL : Nat) (g_nodeR : Nat) (g_part : Nat) (g_wasMany : Nat) (g_wasLoss : Nat) (g_wasValue : Nat) (g_wasNumber : Nat) (g_path : Nat) (g_heavyValue : Nat) (g_heavyTimes : Nat) (g_fewest : Nat) (g_which : Nat) (g_met : Nat) (m_n : Int32) (m_slots : Int32) (m_thrown : Int32) (m_allMany : Int32) (m_nodes : Int32) (m_partMany : Int32) (m_pathMany : Int32) (m_heavyMany : Int32) (m_mostMet : Int32) (cyI : ClassId) (fm : Nat → Int32) (fl : Nat → Int32) (fe : Nat → Int32) (vv : Nat → Int32) (vn : Nat → Int32) (f : Nat → Int32) (av : Nat → Int32) (an : Nat → Int32) (nl : Nat → Int32) (nr : Nat → Int32) (p0 : Int32) (p1 : Int32) (p2 : Int32) (p3 : Int32) (sz : Nat) (a0 : 0 ≤ m_n.toInt) (a1 : m_n.toInt ≤ 160) (sl0 : 1 ≤ m_slots.toInt) (sl1 : m_slots.toInt ≤ 6) (s4 : six4 fm) : kx_MQ l (dC, dI) yX5_swings wsX5_swings ({ frames := 12, cells := 0, slots := 0, locals := 540 }) [.ref h0, .int p0, .int p1, .int p2, .int p3] [kx_5 h0 g_row m_n m_slots m_thrown g_many g_loss g_less g_voteValue g_voteNumber g_allValue g_allNumber m_allMany g_nodeL g_nodeR m_nodes g_part m_partMany g_wasMany g_wasLoss g_wasValue g_wasNumber g_path m_pathMany g_heavyValue g_heavyTimes m_heavyMany g_fewest g_which g_met m_mostMet, kx_a g_row cyI 160 f, kx_a g_many cyI 324 fm, kx_a g_loss cyI 324 fl, kx_a g_less cyI 324 fe, kx_a g_voteValue cyI 1944 vv, kx_a g_voteNumber cyI 1944 vn, kx_a g_allValue cyI 12 av, kx_a g_allNumber cyI 12 an, kx_a g_nodeL cyI 320 nl, kx_a g_nodeR cyI 320 nr] [(cyI, .int)] sz (fun A => va_Qi (fun (r : Int32) (u : Int32 × Int32 × (Nat → Int32) × (Nat → Int32) × (Nat → Int32) × (Nat → Int32) × (Nat → Int32) × (Nat → Int32) × (Nat → Int32) × (Nat → Int32) × (Nat → Int32) × (Nat → Int32)) => six4 u.2.2.1 ∧ u.2.2.2.2.2.2.2.2.2.2.2 = f) (fun (u : Int32 × Int32 × (Nat → Int32) × (Nat → Int32) × (Nat → Int32) × (Nat → Int32) × (Nat → Int32) × (Nat → Int32) × (Nat → Int32) × (Nat → Int32) × (Nat → Int32) × (Nat → Int32)) (t : State) => va_P (dC, dI) vwCl [kx_5 h0 g_row m_n m_slots 0 g_many g_loss g_less g_voteValue g_voteNumber g_allValue g_allNumber u.2.1 g_nodeL g_nodeR u.1 g_part m_partMany g_wasMany g_wasLoss g_wasValue g_wasNumber g_path m_pathMany g_heavyValue g_heavyTimes m_heavyMany g_fewest g_which g_met m_mostMet, kx_a g_row cyI 160 u.2.2.2.2.2.2.2.2.2.2.2, kx_a g_many cyI 324 u.2.2.1, kx_a g_loss cyI 324 u.2.2.2.1, kx_a g_less cyI 324 u.2.2.2.2.1, kx_a g_voteValue cyI 1944 u.2.2.2.2.2.1, kx_a g_voteNumber cyI 1944 u.2.2.2.2.2.2.1, kx_a g_allValue cyI 12 u.2.2.2.2.2.2.2.1, kx_a g_allNumber cyI 12 u.2.2.2.2.2.2.2.2.1, kx_a g_nodeL cyI 320 u.2.2.2.2.2.2.2.2.2.1, kx_a g_nodeR cyI 320 u.2.2.2.2.2.2.2.2.2.2.1] t.heap ∧ va_K (dC, dI) vwCl [(cyI, .int)] t ∧ va_D A [kx_5 h0 g_row m_n m_slots 0 g_many g_loss g_less g_voteValue g_voteNumber g_allValue g_allNumber u.2.1 g_nodeL g_nodeR u.1 g_part m_partMany g_wasMany g_wasLoss g_wasValue g_wasNumber g_path m_pathMany g_heavyValue g_heavyTimes m_heavyMany g_fewest g_which g_met m_mostMet, kx_a g_row cyI 160 u.2.2.2.2.2.2.2.2.2.2.2, kx_a g_many cyI 324 u.2.2.1, kx_a g_loss cyI 324 u.2.2.2.1, kx_a g_less cyI 324 u.2.2.2.2.1, kx_a g_voteValue cyI 1944 u.2.2.2.2.2.1, kx_a g_voteNumber cyI 1944 u.2.2.2.2.2.2.1, kx_a g_allValue cyI 12 u.2.2.2.2.2.2.2.1, kx_a g_allNumber cyI 12 u.2.2.2.2.2.2.2.2.1, kx_a g_nodeL cyI 320 u.2.2.2.2.2.2.2.2.2.1, kx_a g_nodeR cyI 320 u.2.2.2.2.2.2.2.2.2.2.1]) A) := by
  refine kx_stQ (ws := wsX5_swings) (cc := cX5_swings) (maxL := 10) (ret := (some .int)) (by decide) rfl (Nat.le_of_ble_eq_true rfl) ?_
  intro p e s m below meth c A ls hx hb hr hlocks hts hown hml hA hS hP hK hD hl
  have hown : s.vm.findClass RX5 = some m.cls := hown
  have hl : lv_has ls 10 [(0, .ref h0), (1, .int p0), (2, .int p1), (3, .int p2), (4, .int p3)] := hl
  have hf_77 := hts (.fieldLink RX5 77 "MajorityIndexModel" "thrown" "I") (List.mem_of_getElem? (i := 1) rfl)
  have hi_5 : ∀ w ∈ u_ws RX5 TX5 30, w ∈ wsX5_swings := fun w h => List.mem_cons_of_mem _ (List.mem_append_right _ h)
  have hf_7 := hts (.fieldLink RX5 7 "MajorityIndexModel" "row" "[I") (List.mem_of_getElem? (i := 2) rfl)
  have hf_13 := hts (.fieldLink RX5 13 "MajorityIndexModel" "slots" "I") (List.mem_of_getElem? (i := 3) rfl)
  refine lv_aload_n hx hb dX5_swings_0 rfl (lv_at hl 0 rfl) ?_
  refine lv_iconst (v := 0) hx hb dX5_swings_1 (by decide) ?_
  refine va_put (D := (dC, dI)) (ci := 5) (v := .int 0) (ty := .int) (C := RX5) (T := TX5) (N := 30) hx hb hts hi_5 tyX5 tyX5_ok nmX5 hown hK hP hD hS 0 rfl rfl 3 (by decide) hf_77 (fun _ h9 => h9) rfl (by decide +kernel) rfl rfl (Nat.le_of_ble_eq_true rfl) dX5_swings_2 (fun H locs hP hD hS => ?_)
  obtain ⟨hP, hD⟩ := kx_re (w2 := [kx_5 h0 g_row m_n m_slots 0 g_many g_loss g_less g_voteValue g_voteNumber g_allValue g_allNumber m_allMany g_nodeL g_nodeR m_nodes g_part m_partMany g_wasMany g_wasLoss g_wasValue g_wasNumber g_path m_pathMany g_heavyValue g_heavyTimes m_heavyMany g_fewest g_which g_met m_mostMet, kx_a g_row cyI 160 f, kx_a g_many cyI 324 fm, kx_a g_loss cyI 324 fl, kx_a g_less cyI 324 fe, kx_a g_voteValue cyI 1944 vv, kx_a g_voteNumber cyI 1944 vn, kx_a g_allValue cyI 12 av, kx_a g_allNumber cyI 12 an, kx_a g_nodeL cyI 320 nl, kx_a g_nodeR cyI 320 nr]) hP hD rfl
  refine lv_aload_n hx hb dX5_swings_5 rfl (lv_at hl 0 rfl) ?_
  refine lv_iload_n hx hb dX5_swings_6 rfl (lv_at hl 1 rfl) ?_
  refine lv_iload_n hx hb dX5_swings_7 rfl (lv_at hl 2 rfl) ?_
  have hPc := hP.sub (ws' := [kx_5 h0 g_row m_n m_slots 0 g_many g_loss g_less g_voteValue g_voteNumber g_allValue g_allNumber m_allMany g_nodeL g_nodeR m_nodes g_part m_partMany g_wasMany g_wasLoss g_wasValue g_wasNumber g_path m_pathMany g_heavyValue g_heavyTimes m_heavyMany g_fewest g_which g_met m_mostMet]) [0] rfl
  have hKc := hK.sub (tys' := []) [] rfl
  refine vp_callSi (W.runV (As := [.int p0, .int p1]) (rest := []) ⟨hx, hb, hml, hown, hts⟩ (c_X5_isRange l dC dI h0 g_row g_many g_loss g_less g_voteValue g_voteNumber g_allValue g_allNumber g_nodeL g_nodeR g_part g_wasMany g_wasLoss g_wasValue g_wasNumber g_path g_heavyValue g_heavyTimes g_fewest g_which g_met m_n m_slots 0 m_allMany m_nodes m_partMany m_pathMany m_heavyMany m_mostMet p0 p1) (cwV 2 hts gX5_swings_X5_isRange rfl rfl rfl (by decide +kernel) ⟨Nat.le_of_ble_eq_true rfl, Nat.le_of_ble_eq_true rfl⟩) ⟨fun a U g mk q => by obtain ⟨q0, qP, qK⟩ := q; exact ⟨q0, qP, va_K.moved (u := U) (U := U.calling g mk a) (Vm.Alike.refl U.vm) qK⟩, kx_rc5 hKc hPc (q0 := 0) rfl, fun U hU hW => ⟨rfl, by rw [hU]; exact hPc, va_K.moved hW.alike hKc⟩⟩ rfl rfl hl.1 rfl (lv_room (Nat.le_of_ble_eq_true rfl)) dX5_swings_8 ⟨Nat.le_of_ble_eq_true rfl, Nat.le_of_ble_eq_true rfl⟩) (fun r_1 w_1 => ?_)
  rcases w_1 with ⟨rfl, w_1⟩ | ⟨rfl, w_1⟩
  · have w_1 : (0 ≤ p0.toInt ∧ p0.toInt < p1.toInt ∧ p1.toInt ≤ m_n.toInt) := w_1
    refine lv_if_eq (tgt := 39) hx hb dX5_swings_11 (by decide) (fun c_2 => ?_) (fun c_2 => ?_)
    · exact absurd c_2 (by decide)
    · refine lv_iload_n hx hb dX5_swings_14 rfl (lv_at hl 2 rfl) ?_
      refine lv_iload_n hx hb dX5_swings_15 rfl (lv_at hl 1 rfl) ?_
      refine lv_isub hx hb dX5_swings_16 ?_
      refine lv_topi (fun y_3 ey_3 => ?_)
      have i_3 : y_3.toInt = p1.toInt - p0.toInt := ki_sub ey_3 rfl rfl (om_168 w_1.2.1) (om_169 a1 w_1.1 w_1.2.2)
      refine lv_bipush (v := 40) hx hb dX5_swings_17 (by decide) ?_
      refine lv_icmp_gt (tgt := 39) hx hb dX5_swings_19 (by decide) (fun c_4 => ?_) (fun c_4 => ?_)
      · have i_4 : 40 < y_3.toInt := kc_lt c_4
        refine lv_iconst (v := (-1)) hx hb dX5_swings_39 (by decide) ?_
        have hP9 := hP
        have hD9 := hD
        have hK9 := hK
        exact W.iret (v := (-1)) hx hb hr (hlocks := hlocks) (fun t ht hW => ⟨⟨(-1), (m_nodes, m_allMany, fm, fl, fe, vv, vn, av, an, nl, nr, f), rfl, ⟨s4, rfl⟩, by rw [ht]; exact hP9, va_K.moved hW.alike hK9, hD9⟩, hS.F ht⟩) hS.2.2 dX5_swings_40
      · have i_4 : y_3.toInt ≤ 40 := kc_nlt c_4
        refine lv_iload_n hx hb dX5_swings_22 rfl (lv_at hl 3 rfl) ?_
        have hPc := hP.sub (ws' := []) [] rfl
        have hKc := hK.sub (tys' := []) [] rfl
        refine vp_callSi (W.runS (As := [.int p2]) (rest := []) ⟨hx, hb, hml, hown, hts⟩ (c_X5_isValue l dC dI p2) (va_cwS 1 hts gX5_swings_X5_isValue rfl rfl rfl (by decide +kernel) ⟨Nat.le_of_ble_eq_true rfl, Nat.le_of_ble_eq_true rfl⟩) ⟨fun a U g mk q => by obtain ⟨q0, qP, qK⟩ := q; exact ⟨q0, qP, va_K.moved (u := U) (U := U.calling g mk a) (Vm.Alike.refl U.vm) qK⟩, fun U hU hW => ⟨rfl, by rw [hU]; exact hPc, va_K.moved hW.alike hKc⟩⟩ rfl rfl hl.1 rfl (lv_room (Nat.le_of_ble_eq_true rfl)) dX5_swings_23 ⟨Nat.le_of_ble_eq_true rfl, Nat.le_of_ble_eq_true rfl⟩) (fun r_5 w_5 => ?_)
        rcases w_5 with ⟨rfl, w_5⟩ | ⟨rfl, w_5⟩
        · have w_5 : (-32768 ≤ p2.toInt ∧ p2.toInt ≤ 32767) := w_5
          refine lv_if_eq (tgt := 39) hx hb dX5_swings_26 (by decide) (fun c_6 => ?_) (fun c_6 => ?_)
          · exact absurd c_6 (by decide)
          · refine lv_iload hx hb dX5_swings_29 (lv_at hl 4 rfl) ?_
            refine lv_iconst (v := 0) hx hb dX5_swings_31 (by decide) ?_
            refine lv_iconst (v := 1) hx hb dX5_swings_32 (by decide) ?_
            have hPc := hP.sub (ws' := []) [] rfl
            have hKc := hK.sub (tys' := []) [] rfl
            refine vp_callSi (W.runS (As := [.int p3, .int 0, .int 1]) (rest := []) ⟨hx, hb, hml, hown, hts⟩ (c_X5_within l dC dI p3 0 1) (va_cwS 3 hts gX5_swings_X5_within rfl rfl rfl (by decide +kernel) ⟨Nat.le_of_ble_eq_true rfl, Nat.le_of_ble_eq_true rfl⟩) ⟨fun a U g mk q => by obtain ⟨q0, qP, qK⟩ := q; exact ⟨q0, qP, va_K.moved (u := U) (U := U.calling g mk a) (Vm.Alike.refl U.vm) qK⟩, fun U hU hW => ⟨rfl, by rw [hU]; exact hPc, va_K.moved hW.alike hKc⟩⟩ rfl rfl hl.1 rfl (lv_room (Nat.le_of_ble_eq_true rfl)) dX5_swings_33 ⟨Nat.le_of_ble_eq_true rfl, Nat.le_of_ble_eq_true rfl⟩) (fun r_7 w_7 => ?_)
            rcases w_7 with ⟨rfl, w_7⟩ | ⟨rfl, w_7⟩
            · have w_7 : (0 ≤ p3.toInt ∧ p3.toInt ≤ 1) := w_7
              refine lv_if_ne (tgt := 41) hx hb dX5_swings_36 (by decide) (fun c_8 => ?_) (fun c_8 => ?_)
              · refine lv_iconst (v := (-1)) hx hb dX5_swings_41 (by decide) ?_
                refine lv_istore (lv' := [(5, .int (-1)), (0, .ref h0), (1, .int p0), (2, .int p1), (3, .int p2), (4, .int p3)]) hx hb dX5_swings_42 hl (by decide) rfl (fun ls hl => ?_)
                refine lv_iconst (v := (-1)) hx hb dX5_swings_44 (by decide) ?_
                refine lv_istore (lv' := [(6, .int (-1)), (5, .int (-1)), (0, .ref h0), (1, .int p0), (2, .int p1), (3, .int p2), (4, .int p3)]) hx hb dX5_swings_45 hl (by decide) rfl (fun ls hl => ?_)
                refine lv_iload_n hx hb dX5_swings_47 rfl (lv_at hl 3 rfl) ?_
                refine lv_istore (lv' := [(7, .int p0), (6, .int (-1)), (5, .int (-1)), (0, .ref h0), (1, .int p0), (2, .int p1), (3, .int p2), (4, .int p3)]) hx hb dX5_swings_48 hl (by decide) rfl (fun ls hl => ?_)
                have LP1 : ∀ (n : Nat) (i : Int32) (bp : Int32) (bt : Int32) (gc : Nat → Int32) (x_nd : Int32) (x_am : Int32) (x_m : Nat → Int32) (x_l : Nat → Int32) (x_e : Nat → Int32) (x_vv : Nat → Int32) (x_vn : Nat → Int32) (x_av : Nat → Int32) (x_an : Nat → Int32) (x_nl : Nat → Int32) (x_nr : Nat → Int32), (p0.toInt ≤ i.toInt) → (six4 x_m) → (gc = f) → (p1.toInt - i.toInt).toNat < n → ∀ (H : Heap) (locs : List Loc), va_P (dC, dI) vwCl [kx_5 h0 g_row m_n m_slots 0 g_many g_loss g_less g_voteValue g_voteNumber g_allValue g_allNumber x_am g_nodeL g_nodeR x_nd g_part m_partMany g_wasMany g_wasLoss g_wasValue g_wasNumber g_path m_pathMany g_heavyValue g_heavyTimes m_heavyMany g_fewest g_which g_met m_mostMet, kx_a g_row cyI 160 gc, kx_a g_many cyI 324 x_m, kx_a g_loss cyI 324 x_l, kx_a g_less cyI 324 x_e, kx_a g_voteValue cyI 1944 x_vv, kx_a g_voteNumber cyI 1944 x_vn, kx_a g_allValue cyI 12 x_av, kx_a g_allNumber cyI 12 x_an, kx_a g_nodeL cyI 320 x_nl, kx_a g_nodeR cyI 320 x_nr] H → va_D A [kx_5 h0 g_row m_n m_slots 0 g_many g_loss g_less g_voteValue g_voteNumber g_allValue g_allNumber x_am g_nodeL g_nodeR x_nd g_part m_partMany g_wasMany g_wasLoss g_wasValue g_wasNumber g_path m_pathMany g_heavyValue g_heavyTimes m_heavyMany g_fewest g_which g_met m_mostMet, kx_a g_row cyI 160 gc, kx_a g_many cyI 324 x_m, kx_a g_loss cyI 324 x_l, kx_a g_less cyI 324 x_e, kx_a g_voteValue cyI 1944 x_vv, kx_a g_voteNumber cyI 1944 x_vn, kx_a g_allValue cyI 12 x_av, kx_a g_allNumber cyI 12 x_an, kx_a g_nodeL cyI 320 x_nl, kx_a g_nodeR cyI 320 x_nr] → va_S A s.heap H locs → ∀ (ls : Array Slot), lv_has ls 10 [(7, .int i), (6, .int bt), (5, .int bp), (0, .ref h0), (1, .int p0), (2, .int p1), (3, .int p2), (4, .int p3)] → W p l e (headSpec wsX5_swings ({ frames := 12, cells := 0, slots := 0, locals := 540 })).room s m ([.ref h0, .int p0, .int p1, .int p2, .int p3] : List Value).toArray below meth c H locs 0 0 (MQ below (va_Qi (fun (r : Int32) (u : Int32 × Int32 × (Nat → Int32) × (Nat → Int32) × (Nat → Int32) × (Nat → Int32) × (Nat → Int32) × (Nat → Int32) × (Nat → Int32) × (Nat → Int32) × (Nat → Int32) × (Nat → Int32)) => six4 u.2.2.1 ∧ u.2.2.2.2.2.2.2.2.2.2.2 = f) (fun (u : Int32 × Int32 × (Nat → Int32) × (Nat → Int32) × (Nat → Int32) × (Nat → Int32) × (Nat → Int32) × (Nat → Int32) × (Nat → Int32) × (Nat → Int32) × (Nat → Int32) × (Nat → Int32)) (t : State) => va_P (dC, dI) vwCl [kx_5 h0 g_row m_n m_slots 0 g_many g_loss g_less g_voteValue g_voteNumber g_allValue g_allNumber u.2.1 g_nodeL g_nodeR u.1 g_part m_partMany g_wasMany g_wasLoss g_wasValue g_wasNumber g_path m_pathMany g_heavyValue g_heavyTimes m_heavyMany g_fewest g_which g_met m_mostMet, kx_a g_row cyI 160 u.2.2.2.2.2.2.2.2.2.2.2, kx_a g_many cyI 324 u.2.2.1, kx_a g_loss cyI 324 u.2.2.2.1, kx_a g_less cyI 324 u.2.2.2.2.1, kx_a g_voteValue cyI 1944 u.2.2.2.2.2.1, kx_a g_voteNumber cyI 1944 u.2.2.2.2.2.2.1, kx_a g_allValue cyI 12 u.2.2.2.2.2.2.2.1, kx_a g_allNumber cyI 12 u.2.2.2.2.2.2.2.2.1, kx_a g_nodeL cyI 320 u.2.2.2.2.2.2.2.2.2.1, kx_a g_nodeR cyI 320 u.2.2.2.2.2.2.2.2.2.2.1] t.heap ∧ va_K (dC, dI) vwCl [(cyI, .int)] t ∧ va_D A [kx_5 h0 g_row m_n m_slots 0 g_many g_loss g_less g_voteValue g_voteNumber g_allValue g_allNumber u.2.1 g_nodeL g_nodeR u.1 g_part m_partMany g_wasMany g_wasLoss g_wasValue g_wasNumber g_path m_pathMany g_heavyValue g_heavyTimes m_heavyMany g_fewest g_which g_met m_mostMet, kx_a g_row cyI 160 u.2.2.2.2.2.2.2.2.2.2.2, kx_a g_many cyI 324 u.2.2.1, kx_a g_loss cyI 324 u.2.2.2.1, kx_a g_less cyI 324 u.2.2.2.2.1, kx_a g_voteValue cyI 1944 u.2.2.2.2.2.1, kx_a g_voteNumber cyI 1944 u.2.2.2.2.2.2.1, kx_a g_allValue cyI 12 u.2.2.2.2.2.2.2.1, kx_a g_allNumber cyI 12 u.2.2.2.2.2.2.2.2.1, kx_a g_nodeL cyI 320 u.2.2.2.2.2.2.2.2.2.1, kx_a g_nodeR cyI 320 u.2.2.2.2.2.2.2.2.2.2.1]) A) ([.ref h0, .int p0, .int p1, .int p2, .int p3] : List Value).toArray s 0 0 A) (F0 m 50 ls []) := by
                  intro n
                  induction n with
                  | zero => intro i bp bt gc x_nd x_am x_m x_l x_e x_vv x_vn x_av x_an x_nl x_nr LP1_h0 LP1_h1 LP1_h2 hn; exact absurd hn (Nat.not_lt_zero _)
                  | succ n ih1 =>
                    intro i bp bt gc x_nd x_am x_m x_l x_e x_vv x_vn x_av x_an x_nl x_nr LP1_h0 LP1_h1 LP1_h2 hn1 H locs hP hD hS ls hl
                    refine lv_iload hx hb dX5_swings_50 (lv_at hl 0 rfl) ?_
                    refine lv_iload_n hx hb dX5_swings_52 rfl (lv_at hl 5 rfl) ?_
                    refine lv_icmp_ge (tgt := 121) hx hb dX5_swings_53 (by decide) (fun c_9 => ?_) (fun c_9 => ?_)
                    · have i_9 : p1.toInt ≤ i.toInt := kc_le c_9
                      refine lv_iload hx hb dX5_swings_121 (lv_at hl 7 rfl) ?_
                      refine lv_if_ne (tgt := 131) hx hb dX5_swings_123 (by decide) (fun c_10 => ?_) (fun c_10 => ?_)
                      · have i_10 : ¬ p3.toInt = 0 := kc_ne c_10
                        refine lv_iload hx hb dX5_swings_131 (lv_at hl 1 rfl) ?_
                        have hP9 := hP
                        have hD9 := hD
                        have hK9 := hK
                        exact W.iret (v := bt) hx hb hr (hlocks := hlocks) (fun t ht hW => ⟨⟨bt, (x_nd, x_am, x_m, x_l, x_e, x_vv, x_vn, x_av, x_an, x_nl, x_nr, gc), rfl, ⟨LP1_h1, LP1_h2⟩, by rw [ht]; exact hP9, va_K.moved hW.alike hK9, hD9⟩, hS.F ht⟩) hS.2.2 dX5_swings_133
                      · have i_10 : p3.toInt = 0 := kc_eq c_10
                        refine lv_iload hx hb dX5_swings_126 (lv_at hl 2 rfl) ?_
                        refine lv_goto (tgt := 133) hx hb dX5_swings_128 (by decide) ?_
                        have hP9 := hP
                        have hD9 := hD
                        have hK9 := hK
                        exact W.iret (v := bp) hx hb hr (hlocks := hlocks) (fun t ht hW => ⟨⟨bp, (x_nd, x_am, x_m, x_l, x_e, x_vv, x_vn, x_av, x_an, x_nl, x_nr, gc), rfl, ⟨LP1_h1, LP1_h2⟩, by rw [ht]; exact hP9, va_K.moved hW.alike hK9, hD9⟩, hS.F ht⟩) hS.2.2 dX5_swings_133
                    · have i_9 : i.toInt < p1.toInt := kc_nle c_9
                      refine lv_aload_n hx hb dX5_swings_56 rfl (lv_at hl 3 rfl) ?_
                      refine va_get (D := (dC, dI)) (ci := 5) (v := .ref g_row) (C := RX5) (T := TX5) (N := 30) hx hb hts hi_5 hown hK hP 0 rfl rfl 0 (by decide) hf_7 (fun _ h9 => h9) rfl dX5_swings_57 ?_
                      refine lv_iload hx hb dX5_swings_60 (lv_at hl 0 rfl) ?_
                      refine va_iald hx hb hK hP 1 0 rfl rfl (ki_in (om_0 w_1.1 LP1_h0) (om_430 a1 w_1.2.2 i_9)) dX5_swings_62 ?_
                      refine lv_topi (fun y_11 ey_11 => ?_)
                      have j_11 : y_11.toInt = (gc i.toNatClampNeg).toInt := congrArg Int32.toInt ey_11
                      refine lv_istore (lv' := [(8, .int y_11), (7, .int i), (6, .int bt), (5, .int bp), (0, .ref h0), (1, .int p0), (2, .int p1), (3, .int p2), (4, .int p3)]) hx hb dX5_swings_63 hl (by decide) rfl (fun ls hl => ?_)
                      refine lv_aload_n hx hb dX5_swings_65 rfl (lv_at hl 4 rfl) ?_
                      refine va_get (D := (dC, dI)) (ci := 5) (v := .ref g_row) (C := RX5) (T := TX5) (N := 30) hx hb hts hi_5 hown hK hP 0 rfl rfl 0 (by decide) hf_7 (fun _ h9 => h9) rfl dX5_swings_66 ?_
                      refine lv_iload hx hb dX5_swings_69 (lv_at hl 1 rfl) ?_
                      refine lv_iload_n hx hb dX5_swings_71 rfl (lv_at hl 7 rfl) ?_
                      refine va_iast hx hb hK hP hD hS 1 0 rfl rfl (ki_in (om_0 w_1.1 LP1_h0) (om_430 a1 w_1.2.2 i_9)) dX5_swings_72 (fun H locs hP hD hS => ?_)
                      obtain ⟨hP, hD⟩ := kx_re (w2 := [kx_5 h0 g_row m_n m_slots 0 g_many g_loss g_less g_voteValue g_voteNumber g_allValue g_allNumber x_am g_nodeL g_nodeR x_nd g_part m_partMany g_wasMany g_wasLoss g_wasValue g_wasNumber g_path m_pathMany g_heavyValue g_heavyTimes m_heavyMany g_fewest g_which g_met m_mostMet, kx_a g_row cyI 160 (upd gc i.toNatClampNeg p2), kx_a g_many cyI 324 x_m, kx_a g_loss cyI 324 x_l, kx_a g_less cyI 324 x_e, kx_a g_voteValue cyI 1944 x_vv, kx_a g_voteNumber cyI 1944 x_vn, kx_a g_allValue cyI 12 x_av, kx_a g_allNumber cyI 12 x_an, kx_a g_nodeL cyI 320 x_nl, kx_a g_nodeR cyI 320 x_nr]) hP hD rfl
                      refine lv_aload_n hx hb dX5_swings_73 rfl (lv_at hl 4 rfl) ?_
                      refine lv_aload_n hx hb dX5_swings_74 rfl (lv_at hl 4 rfl) ?_
                      refine va_get (D := (dC, dI)) (ci := 5) (v := .int m_slots) (C := RX5) (T := TX5) (N := 30) hx hb hts hi_5 hown hK hP 0 rfl rfl 2 (by decide) hf_13 (fun _ h9 => h9) rfl dX5_swings_75 ?_
                      have hPc := hP
                      have hKc := hK
                      have hDc := hD
                      have hFc := kx_free hD hS hA
                      refine va_callv (va_runV (As := [.int m_slots]) (rest := []) ⟨hx, hb, hml, hown, hts⟩ (kx_un (c_X5_laysAll l dC dI h0 g_row g_many g_loss g_less g_voteValue g_voteNumber g_allValue g_allNumber g_nodeL g_nodeR g_part g_wasMany g_wasLoss g_wasValue g_wasNumber g_path g_heavyValue g_heavyTimes g_fewest g_which g_met m_n m_slots 0 x_am x_nd m_partMany m_pathMany m_heavyMany m_mostMet cyI x_m x_l x_e x_vv x_vn (upd gc i.toNatClampNeg p2) x_av x_an x_nl x_nr m_slots H.size a0 a1 sl0 sl1 LP1_h1)) (cwV 1 hts gX5_swings_X5_laysAll rfl rfl rfl (by decide +kernel) ⟨Nat.le_of_ble_eq_true rfl, Nat.le_of_ble_eq_true rfl⟩) ⟨fun a U g mk q => by obtain ⟨q0, q1, qP, qK, qD⟩ := q; exact ⟨q0, q1, qP, va_K.moved (u := U) (U := U.calling g mk a) (Vm.Alike.refl U.vm) qK, qD⟩, kx_rc5 hKc hPc (q0 := 0) rfl, fun U hU hW => ⟨rfl, by rw [hU], by rw [hU]; exact hPc, va_K.moved hW.alike hKc, hDc.weaken (fun _ _ _ _ => trivial)⟩⟩ rfl rfl hl.1 rfl (lv_room (Nat.le_of_ble_eq_true rfl)) dX5_swings_78 ⟨Nat.le_of_ble_eq_true rfl, Nat.le_of_ble_eq_true rfl⟩) hS (fun q _ h => hFc q h) hFc (fun u t H1 locs ht hvm w_12 hB hz1 hk1 hS => ?_)
                      obtain ⟨o_13, o_14, o_15, o_16, o_17, o_18, o_19, o_20, o_21, o_22, o_23⟩ := u
                      dsimp only at w_12 hB
                      obtain ⟨hP1, hK1, hD1⟩ := hB
                      rw [ht] at hP1
                      have hK1 := va_K.moved hvm.symm hK1
                      have hD := hD1.weaken (fun _ q _ h => hFc q.1 h)
                      have hP := hP1
                      clear hP1 hD1 hK1 hk1 hz1 hFc hDc hPc hKc
                      generalize H1 = H at hP hS ⊢
                      have w_12 : mj_L m_slots.toNatClampNeg (upd gc i.toNatClampNeg p2) o_22 o_23 o_15 o_16 o_17 o_18 o_19 m_n.toInt o_13.toInt ∧ six4 o_15 ∧ 0 ≤ o_13.toInt ∧ o_13.toInt ≤ 319 := w_12
                      refine lv_aload_n hx hb dX5_swings_81 rfl (lv_at hl 4 rfl) ?_
                      refine va_get (D := (dC, dI)) (ci := 5) (v := .ref g_row) (C := RX5) (T := TX5) (N := 30) hx hb hts hi_5 hown hK hP 0 rfl rfl 0 (by decide) hf_7 (fun _ h9 => h9) rfl dX5_swings_82 ?_
                      refine lv_iload hx hb dX5_swings_85 (lv_at hl 1 rfl) ?_
                      refine lv_iload hx hb dX5_swings_87 (lv_at hl 0 rfl) ?_
                      refine va_iast hx hb hK hP hD hS 1 0 rfl rfl (ki_in (om_0 w_1.1 LP1_h0) (om_430 a1 w_1.2.2 i_9)) dX5_swings_89 (fun H locs hP hD hS => ?_)
                      obtain ⟨hP, hD⟩ := kx_re (w2 := [kx_5 h0 g_row m_n m_slots 0 g_many g_loss g_less g_voteValue g_voteNumber g_allValue g_allNumber o_14 g_nodeL g_nodeR o_13 g_part m_partMany g_wasMany g_wasLoss g_wasValue g_wasNumber g_path m_pathMany g_heavyValue g_heavyTimes m_heavyMany g_fewest g_which g_met m_mostMet, kx_a g_row cyI 160 (upd (upd gc i.toNatClampNeg p2) i.toNatClampNeg y_11), kx_a g_many cyI 324 o_15, kx_a g_loss cyI 324 o_16, kx_a g_less cyI 324 o_17, kx_a g_voteValue cyI 1944 o_18, kx_a g_voteNumber cyI 1944 o_19, kx_a g_allValue cyI 12 o_20, kx_a g_allNumber cyI 12 o_21, kx_a g_nodeL cyI 320 o_22, kx_a g_nodeR cyI 320 o_23]) hP hD rfl
                      refine lv_aload_n hx hb dX5_swings_90 rfl (lv_at hl 4 rfl) ?_
                      refine lv_iconst (v := 0) hx hb dX5_swings_91 (by decide) ?_
                      have hPc := hP.sub (ws' := [kx_5 h0 g_row m_n m_slots 0 g_many g_loss g_less g_voteValue g_voteNumber g_allValue g_allNumber o_14 g_nodeL g_nodeR o_13 g_part m_partMany g_wasMany g_wasLoss g_wasValue g_wasNumber g_path m_pathMany g_heavyValue g_heavyTimes m_heavyMany g_fewest g_which g_met m_mostMet, kx_a g_many cyI 324 o_15, kx_a g_voteNumber cyI 1944 o_19]) [0, 2, 6] rfl
                      have hKc := hK
                      have k_24 : (0 : Int32).toInt = 0 := rfl
                      refine vp_callSi (W.runV (As := [.int 0]) (rest := []) ⟨hx, hb, hml, hown, hts⟩ (c_X5_numbersOf l dC dI h0 g_row g_many g_loss g_less g_voteValue g_voteNumber g_allValue g_allNumber g_nodeL g_nodeR g_part g_wasMany g_wasLoss g_wasValue g_wasNumber g_path g_heavyValue g_heavyTimes g_fewest g_which g_met m_n m_slots 0 o_14 o_13 m_partMany m_pathMany m_heavyMany m_mostMet cyI o_15 o_19 0 om_35 om_446 w_12.2.1) (cwV 1 hts gX5_swings_X5_numbersOf rfl rfl rfl (by decide +kernel) ⟨Nat.le_of_ble_eq_true rfl, Nat.le_of_ble_eq_true rfl⟩) ⟨fun a U g mk q => by obtain ⟨q0, qP, qK⟩ := q; exact ⟨q0, qP, va_K.moved (u := U) (U := U.calling g mk a) (Vm.Alike.refl U.vm) qK⟩, kx_rc5 hKc hPc (q0 := 0) rfl, fun U hU hW => ⟨rfl, by rw [hU]; exact hPc, va_K.moved hW.alike hKc⟩⟩ rfl rfl hl.1 rfl (lv_room (Nat.le_of_ble_eq_true rfl)) dX5_swings_92 ⟨Nat.le_of_ble_eq_true rfl, Nat.le_of_ble_eq_true rfl⟩) (fun r_25 w_25 => ?_)
                      refine lv_istore (lv' := [(9, .int r_25), (8, .int y_11), (7, .int i), (6, .int bt), (5, .int bp), (0, .ref h0), (1, .int p0), (2, .int p1), (3, .int p2), (4, .int p3)]) hx hb dX5_swings_95 hl (by decide) rfl (fun ls hl => ?_)
                      refine lv_iload hx hb dX5_swings_97 (lv_at hl 0 rfl) ?_
                      refine lv_iload hx hb dX5_swings_99 (lv_at hl 3 rfl) ?_
                      refine lv_icmp_gt (tgt := 107) hx hb dX5_swings_101 (by decide) (fun c_26 => ?_) (fun c_26 => ?_)
                      · have i_26 : bt.toInt < r_25.toInt := kc_lt c_26
                        refine lv_iload hx hb dX5_swings_107 (lv_at hl 2 rfl) ?_
                        refine lv_istore (lv' := [(5, .int i), (9, .int r_25), (8, .int y_11), (7, .int i), (6, .int bt), (0, .ref h0), (1, .int p0), (2, .int p1), (3, .int p2), (4, .int p3)]) hx hb dX5_swings_109 hl (by decide) rfl (fun ls hl => ?_)
                        refine lv_iload hx hb dX5_swings_111 (lv_at hl 1 rfl) ?_
                        refine lv_istore (lv' := [(6, .int r_25), (5, .int i), (9, .int r_25), (8, .int y_11), (7, .int i), (0, .ref h0), (1, .int p0), (2, .int p1), (3, .int p2), (4, .int p3)]) hx hb dX5_swings_113 hl (by decide) rfl (fun ls hl => ?_)
                        obtain ⟨x_27, ex_27⟩ : ∃ y : Int32, y = i + 1 := ⟨_, rfl⟩
                        have i_27 : x_27.toInt = i.toInt + 1 := ki_add ex_27 rfl rfl (om_2 w_1.1 LP1_h0) (om_172 a1 w_1.2.2 i_9)
                        refine lv_iinc (v := x_27) (lv' := [(7, .int x_27), (6, .int r_25), (5, .int i), (9, .int r_25), (8, .int y_11), (0, .ref h0), (1, .int p0), (2, .int p1), (3, .int p2), (4, .int p3)]) hx hb dX5_swings_115 hl (k := 4) rfl (by rw [ex_27]; rfl) (by decide) rfl (fun ls hl => ?_)
                        refine lv_goto (tgt := 50) hx hb dX5_swings_118 (by decide) ?_
                        exact ih1 x_27 i r_25 (upd (upd gc i.toNatClampNeg p2) i.toNatClampNeg y_11) o_13 o_14 o_15 o_16 o_17 o_18 o_19 o_20 o_21 o_22 o_23 (om_4 LP1_h0 i_27) w_12.2.1 (by rw [ey_11, upd_back]; exact LP1_h2) (om_mu hn1 (om_5 i_27) (om_6 i_9)) _ _ hP hD hS ls (lv_sub hl [0, 1, 2, 5, 6, 7, 8, 9] rfl)
                      · have i_26 : r_25.toInt ≤ bt.toInt := kc_nlt c_26
                        refine lv_goto (tgt := 115) hx hb dX5_swings_104 (by decide) ?_
                        obtain ⟨x_28, ex_28⟩ : ∃ y : Int32, y = i + 1 := ⟨_, rfl⟩
                        have i_28 : x_28.toInt = i.toInt + 1 := ki_add ex_28 rfl rfl (om_2 w_1.1 LP1_h0) (om_172 a1 w_1.2.2 i_9)
                        refine lv_iinc (v := x_28) (lv' := [(7, .int x_28), (9, .int r_25), (8, .int y_11), (6, .int bt), (5, .int bp), (0, .ref h0), (1, .int p0), (2, .int p1), (3, .int p2), (4, .int p3)]) hx hb dX5_swings_115 hl (k := 2) rfl (by rw [ex_28]; rfl) (by decide) rfl (fun ls hl => ?_)
                        refine lv_goto (tgt := 50) hx hb dX5_swings_118 (by decide) ?_
                        exact ih1 x_28 bp bt (upd (upd gc i.toNatClampNeg p2) i.toNatClampNeg y_11) o_13 o_14 o_15 o_16 o_17 o_18 o_19 o_20 o_21 o_22 o_23 (om_4 LP1_h0 i_28) w_12.2.1 (by rw [ey_11, upd_back]; exact LP1_h2) (om_mu hn1 (om_5 i_28) (om_6 i_9)) _ _ hP hD hS ls (lv_sub hl [0, 3, 4, 5, 6, 7, 8, 9] rfl)
                have k_29 : ((-1) : Int32).toInt = -1 := rfl
                have k_30 : ((-1) : Int32).toInt = -1 := rfl
                exact LP1 ((p1.toInt - p0.toInt : Int).toNat + 1) p0 (-1) (-1) f m_nodes m_allMany fm fl fe vv vn av an nl nr om_7 s4 rfl (Nat.lt_succ_self _) _ _ hP hD hS ls (lv_sub hl [0, 1, 2, 3, 4, 5, 6, 7] rfl)
              · exact absurd c_8 (by decide)
            · have w_7 : (p3.toInt < 0 ∨ 1 < p3.toInt) := w_7
              refine lv_if_ne (tgt := 41) hx hb dX5_swings_36 (by decide) (fun c_31 => ?_) (fun c_31 => ?_)
              · exact absurd c_31 (by decide)
              · refine lv_iconst (v := (-1)) hx hb dX5_swings_39 (by decide) ?_
                have hP9 := hP
                have hD9 := hD
                have hK9 := hK
                exact W.iret (v := (-1)) hx hb hr (hlocks := hlocks) (fun t ht hW => ⟨⟨(-1), (m_nodes, m_allMany, fm, fl, fe, vv, vn, av, an, nl, nr, f), rfl, ⟨s4, rfl⟩, by rw [ht]; exact hP9, va_K.moved hW.alike hK9, hD9⟩, hS.F ht⟩) hS.2.2 dX5_swings_40
        · have w_5 : (p2.toInt < -32768 ∨ 32767 < p2.toInt) := w_5
          refine lv_if_eq (tgt := 39) hx hb dX5_swings_26 (by decide) (fun c_32 => ?_) (fun c_32 => ?_)
          · refine lv_iconst (v := (-1)) hx hb dX5_swings_39 (by decide) ?_
            have hP9 := hP
            have hD9 := hD
            have hK9 := hK
            exact W.iret (v := (-1)) hx hb hr (hlocks := hlocks) (fun t ht hW => ⟨⟨(-1), (m_nodes, m_allMany, fm, fl, fe, vv, vn, av, an, nl, nr, f), rfl, ⟨s4, rfl⟩, by rw [ht]; exact hP9, va_K.moved hW.alike hK9, hD9⟩, hS.F ht⟩) hS.2.2 dX5_swings_40
          · exact absurd c_32 (by decide)
  · have w_1 : (p0.toInt < 0 ∨ p1.toInt ≤ p0.toInt ∨ m_n.toInt < p1.toInt) := w_1
    refine lv_if_eq (tgt := 39) hx hb dX5_swings_11 (by decide) (fun c_33 => ?_) (fun c_33 => ?_)
    · refine lv_iconst (v := (-1)) hx hb dX5_swings_39 (by decide) ?_
      have hP9 := hP
      have hD9 := hD
      have hK9 := hK
      exact W.iret (v := (-1)) hx hb hr (hlocks := hlocks) (fun t ht hW => ⟨⟨(-1), (m_nodes, m_allMany, fm, fl, fe, vv, vn, av, an, nl, nr, f), rfl, ⟨s4, rfl⟩, by rw [ht]; exact hP9, va_K.moved hW.alike hK9, hD9⟩, hS.F ht⟩) hS.2.2 dX5_swings_40
    · exact absurd c_33 (by decide)

set_option maxHeartbeats 4000000 in
set_option maxRecDepth 100000 in
theorem c_X5_deep_0 (l : Launch) (dC : Nat → ClassId) (dI : Nat → Nat → Nat) (h0 : Nat) (g_row : Nat) (g_many : Nat) (g_loss : Nat) (g_less : Nat) (g_voteValue : Nat) (g_voteNumber : Nat) (g_allValue : Nat) (g_allNumber : Nat) (g_nodeL : Nat) (g_nodeR : Nat) (g_part : Nat) (g_wasMany : Nat) (g_wasLoss : Nat) (g_wasValue : Nat) (g_wasNumber : Nat) (g_path : Nat) (g_heavyValue : Nat) (g_heavyTimes : Nat) (g_fewest : Nat) (g_which : Nat) (g_met : Nat) (m_n : Int32) (m_slots : Int32) (m_thrown : Int32) (m_allMany : Int32) (m_nodes : Int32) (m_partMany : Int32) (m_pathMany : Int32) (m_heavyMany : Int32) (m_mostMet : Int32) (p0 : Int32) (p1 : Int32) (b0 : 0 ≤ p0.toInt) (b1 : p0.toInt ≤ p1.toInt) (b2 : p1.toInt ≤ 160) (b3 : p1.toInt - p0.toInt ≤ 1) : Met l yX5_deep wsX5_deep ({ frames := 0, cells := 0, slots := 0, locals := 0 }) (va_Pc [.ref h0, .int p0, .int p1] (fun U => va_P (dC, dI) vwCl [kx_5 h0 g_row m_n m_slots m_thrown g_many g_loss g_less g_voteValue g_voteNumber g_allValue g_allNumber m_allMany g_nodeL g_nodeR m_nodes g_part m_partMany g_wasMany g_wasLoss g_wasValue g_wasNumber g_path m_pathMany g_heavyValue g_heavyTimes m_heavyMany g_fewest g_which g_met m_mostMet] U.heap ∧ va_K (dC, dI) vwCl [] U)) (vp_Si (fun r : Int32 => 0 ≤ r.toInt ∧ r.toInt ≤ 1)) 0 0 (fun _ => False) := by
  refine kx_stS (ws := wsX5_deep) (cc := cX5_deep) (maxL := 6) (ret := (some .int)) (by decide) rfl (Nat.le_of_ble_eq_true rfl) ?_
  intro p e s m below meth c ls hx hb hr hlocks hts hown hml hP hK hl
  have hown : s.vm.findClass RX5 = some m.cls := hown
  have hl : lv_has ls 6 [(0, .ref h0), (1, .int p0), (2, .int p1)] := hl
  refine lv_iload_n hx hb dX5_deep_0 rfl (lv_at hl 2 rfl) ?_
  refine lv_iload_n hx hb dX5_deep_1 rfl (lv_at hl 1 rfl) ?_
  refine lv_isub hx hb dX5_deep_2 ?_
  refine lv_topi (fun y_1 ey_1 => ?_)
  have i_1 : y_1.toInt = p1.toInt - p0.toInt := ki_sub ey_1 rfl rfl (om_184 b1) (om_326 b3)
  refine lv_iconst (v := 2) hx hb dX5_deep_3 (by decide) ?_
  refine lv_icmp_ge (tgt := 11) hx hb dX5_deep_4 (by decide) (fun c_2 => ?_) (fun c_2 => ?_)
  · have i_2 : 2 ≤ y_1.toInt := kc_le c_2
    exfalso; omega
  · have i_2 : y_1.toInt < 2 := kc_nle c_2
    refine lv_iload_n hx hb dX5_deep_7 rfl (lv_at hl 2 rfl) ?_
    refine lv_iload_n hx hb dX5_deep_8 rfl (lv_at hl 1 rfl) ?_
    refine lv_isub hx hb dX5_deep_9 ?_
    refine lv_topi (fun y_3 ey_3 => ?_)
    have i_3 : y_3.toInt = p1.toInt - p0.toInt := ki_sub ey_3 rfl rfl (om_184 b1) (om_326 b3)
    exact W.iret (v := y_3) hx hb hr (hlocks := hlocks) (fun t ht hW => ⟨y_3, rfl, (by (try dsimp only); omega), ht⟩) (fun q hq => by cases hq) dX5_deep_10

set_option maxHeartbeats 4000000 in
set_option maxRecDepth 100000 in
theorem c_X5_deep_1 (l : Launch) (dC : Nat → ClassId) (dI : Nat → Nat → Nat) (h0 : Nat) (g_row : Nat) (g_many : Nat) (g_loss : Nat) (g_less : Nat) (g_voteValue : Nat) (g_voteNumber : Nat) (g_allValue : Nat) (g_allNumber : Nat) (g_nodeL : Nat) (g_nodeR : Nat) (g_part : Nat) (g_wasMany : Nat) (g_wasLoss : Nat) (g_wasValue : Nat) (g_wasNumber : Nat) (g_path : Nat) (g_heavyValue : Nat) (g_heavyTimes : Nat) (g_fewest : Nat) (g_which : Nat) (g_met : Nat) (m_n : Int32) (m_slots : Int32) (m_thrown : Int32) (m_allMany : Int32) (m_nodes : Int32) (m_partMany : Int32) (m_pathMany : Int32) (m_heavyMany : Int32) (m_mostMet : Int32) (p0 : Int32) (p1 : Int32) (b0 : 0 ≤ p0.toInt) (b1 : p0.toInt ≤ p1.toInt) (b2 : p1.toInt ≤ 160) (b3 : p1.toInt - p0.toInt ≤ 2) : Met l yX5_deep wsX5_deep ({ frames := 1, cells := 0, slots := 0, locals := 45 }) (va_Pc [.ref h0, .int p0, .int p1] (fun U => va_P (dC, dI) vwCl [kx_5 h0 g_row m_n m_slots m_thrown g_many g_loss g_less g_voteValue g_voteNumber g_allValue g_allNumber m_allMany g_nodeL g_nodeR m_nodes g_part m_partMany g_wasMany g_wasLoss g_wasValue g_wasNumber g_path m_pathMany g_heavyValue g_heavyTimes m_heavyMany g_fewest g_which g_met m_mostMet] U.heap ∧ va_K (dC, dI) vwCl [] U)) (vp_Si (fun r : Int32 => 0 ≤ r.toInt ∧ r.toInt ≤ 2)) 0 0 (fun _ => False) := by
  refine kx_stS (ws := wsX5_deep) (cc := cX5_deep) (maxL := 6) (ret := (some .int)) (by decide) rfl (Nat.le_of_ble_eq_true rfl) ?_
  intro p e s m below meth c ls hx hb hr hlocks hts hown hml hP hK hl
  have hown : s.vm.findClass RX5 = some m.cls := hown
  have hl : lv_has ls 6 [(0, .ref h0), (1, .int p0), (2, .int p1)] := hl
  refine lv_iload_n hx hb dX5_deep_0 rfl (lv_at hl 2 rfl) ?_
  refine lv_iload_n hx hb dX5_deep_1 rfl (lv_at hl 1 rfl) ?_
  refine lv_isub hx hb dX5_deep_2 ?_
  refine lv_topi (fun y_1 ey_1 => ?_)
  have i_1 : y_1.toInt = p1.toInt - p0.toInt := ki_sub ey_1 rfl rfl (om_184 b1) (om_329 b3)
  refine lv_iconst (v := 2) hx hb dX5_deep_3 (by decide) ?_
  refine lv_icmp_ge (tgt := 11) hx hb dX5_deep_4 (by decide) (fun c_2 => ?_) (fun c_2 => ?_)
  · have i_2 : 2 ≤ y_1.toInt := kc_le c_2
    refine lv_iload_n hx hb dX5_deep_11 rfl (lv_at hl 1 rfl) ?_
    refine lv_iload_n hx hb dX5_deep_12 rfl (lv_at hl 2 rfl) ?_
    refine lv_iadd hx hb dX5_deep_13 ?_
    refine lv_topi (fun y_3 ey_3 => ?_)
    have i_3 : y_3.toInt = p0.toInt + p1.toInt := ki_add ey_3 rfl rfl (om_447 b0 b1) (om_448 b1 b2)
    refine lv_iconst (v := 2) hx hb dX5_deep_14 (by decide) ?_
    refine lv_idiv hx hb dX5_deep_15 (by decide) ?_
    refine lv_topi (fun y_4 ey_4 => ?_)
    have i_4 : y_4.toInt = y_3.toInt / 2 := ki_div2 ey_4 rfl (om_449 b0 b1 i_3)
    have d_5 := om_dv i_4
    refine lv_istore_n (lv' := [(3, .int y_4), (0, .ref h0), (1, .int p0), (2, .int p1)]) hx hb dX5_deep_16 rfl hl (by decide) rfl (fun ls hl => ?_)
    refine lv_aload_n hx hb dX5_deep_17 rfl (lv_at hl 1 rfl) ?_
    refine lv_iload_n hx hb dX5_deep_18 rfl (lv_at hl 2 rfl) ?_
    refine lv_iload_n hx hb dX5_deep_19 rfl (lv_at hl 0 rfl) ?_
    have hPc := hP
    have hKc := hK
    refine vp_callSi (W.runV (As := [.int p0, .int y_4]) (rest := []) ⟨hx, hb, hml, hown, hts⟩ (c_X5_deep_0 l dC dI h0 g_row g_many g_loss g_less g_voteValue g_voteNumber g_allValue g_allNumber g_nodeL g_nodeR g_part g_wasMany g_wasLoss g_wasValue g_wasNumber g_path g_heavyValue g_heavyTimes g_fewest g_which g_met m_n m_slots m_thrown m_allMany m_nodes m_partMany m_pathMany m_heavyMany m_mostMet p0 y_4 b0 (om_450 b1 i_1 i_2 i_3 d_5.2) (om_451 b1 b2 i_3 d_5.1) (om_335 b3 i_3 d_5.1)) (cwV 2 hts gX5_deep_X5_deep rfl rfl rfl (by decide +kernel) ⟨Nat.le_of_ble_eq_true rfl, Nat.le_of_ble_eq_true rfl⟩) ⟨fun a U g mk q => by obtain ⟨q0, qP, qK⟩ := q; exact ⟨q0, qP, va_K.moved (u := U) (U := U.calling g mk a) (Vm.Alike.refl U.vm) qK⟩, kx_rc5 hKc hPc (q0 := 0) rfl, fun U hU hW => ⟨rfl, by rw [hU]; exact hPc, va_K.moved hW.alike hKc⟩⟩ rfl rfl hl.1 rfl (lv_room (Nat.le_of_ble_eq_true rfl)) dX5_deep_20 ⟨Nat.le_of_ble_eq_true rfl, Nat.le_of_ble_eq_true rfl⟩) (fun r_6 w_6 => ?_)
    have w_6 : 0 ≤ r_6.toInt ∧ r_6.toInt ≤ 1 := w_6
    refine lv_istore (lv' := [(4, .int r_6), (3, .int y_4), (0, .ref h0), (1, .int p0), (2, .int p1)]) hx hb dX5_deep_23 hl (by decide) rfl (fun ls hl => ?_)
    refine lv_aload_n hx hb dX5_deep_25 rfl (lv_at hl 2 rfl) ?_
    refine lv_iload_n hx hb dX5_deep_26 rfl (lv_at hl 1 rfl) ?_
    refine lv_iload_n hx hb dX5_deep_27 rfl (lv_at hl 4 rfl) ?_
    have hPc := hP
    have hKc := hK
    refine vp_callSi (W.runV (As := [.int y_4, .int p1]) (rest := []) ⟨hx, hb, hml, hown, hts⟩ (c_X5_deep_0 l dC dI h0 g_row g_many g_loss g_less g_voteValue g_voteNumber g_allValue g_allNumber g_nodeL g_nodeR g_part g_wasMany g_wasLoss g_wasValue g_wasNumber g_path g_heavyValue g_heavyTimes g_fewest g_which g_met m_n m_slots m_thrown m_allMany m_nodes m_partMany m_pathMany m_heavyMany m_mostMet y_4 p1 (om_452 b0 b1 i_1 i_2 i_3 d_5.2) (om_453 b1 i_3 d_5.1) b2 (by omega)) (cwV 2 hts gX5_deep_X5_deep rfl rfl rfl (by decide +kernel) ⟨Nat.le_of_ble_eq_true rfl, Nat.le_of_ble_eq_true rfl⟩) ⟨fun a U g mk q => by obtain ⟨q0, qP, qK⟩ := q; exact ⟨q0, qP, va_K.moved (u := U) (U := U.calling g mk a) (Vm.Alike.refl U.vm) qK⟩, kx_rc5 hKc hPc (q0 := 0) rfl, fun U hU hW => ⟨rfl, by rw [hU]; exact hPc, va_K.moved hW.alike hKc⟩⟩ rfl rfl hl.1 rfl (lv_room (Nat.le_of_ble_eq_true rfl)) dX5_deep_28 ⟨Nat.le_of_ble_eq_true rfl, Nat.le_of_ble_eq_true rfl⟩) (fun r_7 w_7 => ?_)
    have w_7 : 0 ≤ r_7.toInt ∧ r_7.toInt ≤ 1 := w_7
    refine lv_istore (lv' := [(5, .int r_7), (4, .int r_6), (3, .int y_4), (0, .ref h0), (1, .int p0), (2, .int p1)]) hx hb dX5_deep_31 hl (by decide) rfl (fun ls hl => ?_)
    refine lv_iconst (v := 1) hx hb dX5_deep_33 (by decide) ?_
    refine lv_iload hx hb dX5_deep_34 (lv_at hl 1 rfl) ?_
    refine lv_iload hx hb dX5_deep_36 (lv_at hl 0 rfl) ?_
    refine lv_icmp_le (tgt := 46) hx hb dX5_deep_38 (by decide) (fun c_8 => ?_) (fun c_8 => ?_)
    · have i_8 : r_6.toInt ≤ r_7.toInt := kc_le c_8
      refine lv_iload hx hb dX5_deep_46 (lv_at hl 0 rfl) ?_
      refine lv_iadd hx hb dX5_deep_48 ?_
      refine lv_topi (fun y_9 ey_9 => ?_)
      have i_9 : y_9.toInt = 1 + r_7.toInt := ki_add ey_9 rfl rfl (om_454 w_7.1) (om_455 w_7.2)
      exact W.iret (v := y_9) hx hb hr (hlocks := hlocks) (fun t ht hW => ⟨y_9, rfl, (by (try dsimp only); omega), ht⟩) (fun q hq => by cases hq) dX5_deep_49
    · have i_8 : r_7.toInt < r_6.toInt := kc_nle c_8
      refine lv_iload hx hb dX5_deep_41 (lv_at hl 1 rfl) ?_
      refine lv_goto (tgt := 48) hx hb dX5_deep_43 (by decide) ?_
      refine lv_iadd hx hb dX5_deep_48 ?_
      refine lv_topi (fun y_10 ey_10 => ?_)
      have i_10 : y_10.toInt = 1 + r_6.toInt := ki_add ey_10 rfl rfl (om_454 w_6.1) (om_455 w_6.2)
      exact W.iret (v := y_10) hx hb hr (hlocks := hlocks) (fun t ht hW => ⟨y_10, rfl, (by (try dsimp only); omega), ht⟩) (fun q hq => by cases hq) dX5_deep_49
  · have i_2 : y_1.toInt < 2 := kc_nle c_2
    refine lv_iload_n hx hb dX5_deep_7 rfl (lv_at hl 2 rfl) ?_
    refine lv_iload_n hx hb dX5_deep_8 rfl (lv_at hl 1 rfl) ?_
    refine lv_isub hx hb dX5_deep_9 ?_
    refine lv_topi (fun y_11 ey_11 => ?_)
    have i_11 : y_11.toInt = p1.toInt - p0.toInt := ki_sub ey_11 rfl rfl (om_184 b1) (om_329 b3)
    exact W.iret (v := y_11) hx hb hr (hlocks := hlocks) (fun t ht hW => ⟨y_11, rfl, (by (try dsimp only); omega), ht⟩) (fun q hq => by cases hq) dX5_deep_10

set_option maxHeartbeats 4000000 in
set_option maxRecDepth 100000 in
theorem c_X5_deep_2 (l : Launch) (dC : Nat → ClassId) (dI : Nat → Nat → Nat) (h0 : Nat) (g_row : Nat) (g_many : Nat) (g_loss : Nat) (g_less : Nat) (g_voteValue : Nat) (g_voteNumber : Nat) (g_allValue : Nat) (g_allNumber : Nat) (g_nodeL : Nat) (g_nodeR : Nat) (g_part : Nat) (g_wasMany : Nat) (g_wasLoss : Nat) (g_wasValue : Nat) (g_wasNumber : Nat) (g_path : Nat) (g_heavyValue : Nat) (g_heavyTimes : Nat) (g_fewest : Nat) (g_which : Nat) (g_met : Nat) (m_n : Int32) (m_slots : Int32) (m_thrown : Int32) (m_allMany : Int32) (m_nodes : Int32) (m_partMany : Int32) (m_pathMany : Int32) (m_heavyMany : Int32) (m_mostMet : Int32) (p0 : Int32) (p1 : Int32) (b0 : 0 ≤ p0.toInt) (b1 : p0.toInt ≤ p1.toInt) (b2 : p1.toInt ≤ 160) (b3 : p1.toInt - p0.toInt ≤ 4) : Met l yX5_deep wsX5_deep ({ frames := 2, cells := 0, slots := 0, locals := 90 }) (va_Pc [.ref h0, .int p0, .int p1] (fun U => va_P (dC, dI) vwCl [kx_5 h0 g_row m_n m_slots m_thrown g_many g_loss g_less g_voteValue g_voteNumber g_allValue g_allNumber m_allMany g_nodeL g_nodeR m_nodes g_part m_partMany g_wasMany g_wasLoss g_wasValue g_wasNumber g_path m_pathMany g_heavyValue g_heavyTimes m_heavyMany g_fewest g_which g_met m_mostMet] U.heap ∧ va_K (dC, dI) vwCl [] U)) (vp_Si (fun r : Int32 => 0 ≤ r.toInt ∧ r.toInt ≤ 3)) 0 0 (fun _ => False) := by
  refine kx_stS (ws := wsX5_deep) (cc := cX5_deep) (maxL := 6) (ret := (some .int)) (by decide) rfl (Nat.le_of_ble_eq_true rfl) ?_
  intro p e s m below meth c ls hx hb hr hlocks hts hown hml hP hK hl
  have hown : s.vm.findClass RX5 = some m.cls := hown
  have hl : lv_has ls 6 [(0, .ref h0), (1, .int p0), (2, .int p1)] := hl
  refine lv_iload_n hx hb dX5_deep_0 rfl (lv_at hl 2 rfl) ?_
  refine lv_iload_n hx hb dX5_deep_1 rfl (lv_at hl 1 rfl) ?_
  refine lv_isub hx hb dX5_deep_2 ?_
  refine lv_topi (fun y_1 ey_1 => ?_)
  have i_1 : y_1.toInt = p1.toInt - p0.toInt := ki_sub ey_1 rfl rfl (om_184 b1) (om_348 b3)
  refine lv_iconst (v := 2) hx hb dX5_deep_3 (by decide) ?_
  refine lv_icmp_ge (tgt := 11) hx hb dX5_deep_4 (by decide) (fun c_2 => ?_) (fun c_2 => ?_)
  · have i_2 : 2 ≤ y_1.toInt := kc_le c_2
    refine lv_iload_n hx hb dX5_deep_11 rfl (lv_at hl 1 rfl) ?_
    refine lv_iload_n hx hb dX5_deep_12 rfl (lv_at hl 2 rfl) ?_
    refine lv_iadd hx hb dX5_deep_13 ?_
    refine lv_topi (fun y_3 ey_3 => ?_)
    have i_3 : y_3.toInt = p0.toInt + p1.toInt := ki_add ey_3 rfl rfl (om_447 b0 b1) (om_448 b1 b2)
    refine lv_iconst (v := 2) hx hb dX5_deep_14 (by decide) ?_
    refine lv_idiv hx hb dX5_deep_15 (by decide) ?_
    refine lv_topi (fun y_4 ey_4 => ?_)
    have i_4 : y_4.toInt = y_3.toInt / 2 := ki_div2 ey_4 rfl (om_449 b0 b1 i_3)
    have d_5 := om_dv i_4
    refine lv_istore_n (lv' := [(3, .int y_4), (0, .ref h0), (1, .int p0), (2, .int p1)]) hx hb dX5_deep_16 rfl hl (by decide) rfl (fun ls hl => ?_)
    refine lv_aload_n hx hb dX5_deep_17 rfl (lv_at hl 1 rfl) ?_
    refine lv_iload_n hx hb dX5_deep_18 rfl (lv_at hl 2 rfl) ?_
    refine lv_iload_n hx hb dX5_deep_19 rfl (lv_at hl 0 rfl) ?_
    have hPc := hP
    have hKc := hK
    refine vp_callSi (W.runV (As := [.int p0, .int y_4]) (rest := []) ⟨hx, hb, hml, hown, hts⟩ (c_X5_deep_1 l dC dI h0 g_row g_many g_loss g_less g_voteValue g_voteNumber g_allValue g_allNumber g_nodeL g_nodeR g_part g_wasMany g_wasLoss g_wasValue g_wasNumber g_path g_heavyValue g_heavyTimes g_fewest g_which g_met m_n m_slots m_thrown m_allMany m_nodes m_partMany m_pathMany m_heavyMany m_mostMet p0 y_4 b0 (om_450 b1 i_1 i_2 i_3 d_5.2) (om_451 b1 b2 i_3 d_5.1) (om_349 b3 i_3 d_5.1)) (cwV 2 hts gX5_deep_X5_deep rfl rfl rfl (by decide +kernel) ⟨Nat.le_of_ble_eq_true rfl, Nat.le_of_ble_eq_true rfl⟩) ⟨fun a U g mk q => by obtain ⟨q0, qP, qK⟩ := q; exact ⟨q0, qP, va_K.moved (u := U) (U := U.calling g mk a) (Vm.Alike.refl U.vm) qK⟩, kx_rc5 hKc hPc (q0 := 0) rfl, fun U hU hW => ⟨rfl, by rw [hU]; exact hPc, va_K.moved hW.alike hKc⟩⟩ rfl rfl hl.1 rfl (lv_room (Nat.le_of_ble_eq_true rfl)) dX5_deep_20 ⟨Nat.le_of_ble_eq_true rfl, Nat.le_of_ble_eq_true rfl⟩) (fun r_6 w_6 => ?_)
    have w_6 : 0 ≤ r_6.toInt ∧ r_6.toInt ≤ 2 := w_6
    refine lv_istore (lv' := [(4, .int r_6), (3, .int y_4), (0, .ref h0), (1, .int p0), (2, .int p1)]) hx hb dX5_deep_23 hl (by decide) rfl (fun ls hl => ?_)
    refine lv_aload_n hx hb dX5_deep_25 rfl (lv_at hl 2 rfl) ?_
    refine lv_iload_n hx hb dX5_deep_26 rfl (lv_at hl 1 rfl) ?_
    refine lv_iload_n hx hb dX5_deep_27 rfl (lv_at hl 4 rfl) ?_
    have hPc := hP
    have hKc := hK
    refine vp_callSi (W.runV (As := [.int y_4, .int p1]) (rest := []) ⟨hx, hb, hml, hown, hts⟩ (c_X5_deep_1 l dC dI h0 g_row g_many g_loss g_less g_voteValue g_voteNumber g_allValue g_allNumber g_nodeL g_nodeR g_part g_wasMany g_wasLoss g_wasValue g_wasNumber g_path g_heavyValue g_heavyTimes g_fewest g_which g_met m_n m_slots m_thrown m_allMany m_nodes m_partMany m_pathMany m_heavyMany m_mostMet y_4 p1 (om_452 b0 b1 i_1 i_2 i_3 d_5.2) (om_453 b1 i_3 d_5.1) b2 (by omega)) (cwV 2 hts gX5_deep_X5_deep rfl rfl rfl (by decide +kernel) ⟨Nat.le_of_ble_eq_true rfl, Nat.le_of_ble_eq_true rfl⟩) ⟨fun a U g mk q => by obtain ⟨q0, qP, qK⟩ := q; exact ⟨q0, qP, va_K.moved (u := U) (U := U.calling g mk a) (Vm.Alike.refl U.vm) qK⟩, kx_rc5 hKc hPc (q0 := 0) rfl, fun U hU hW => ⟨rfl, by rw [hU]; exact hPc, va_K.moved hW.alike hKc⟩⟩ rfl rfl hl.1 rfl (lv_room (Nat.le_of_ble_eq_true rfl)) dX5_deep_28 ⟨Nat.le_of_ble_eq_true rfl, Nat.le_of_ble_eq_true rfl⟩) (fun r_7 w_7 => ?_)
    have w_7 : 0 ≤ r_7.toInt ∧ r_7.toInt ≤ 2 := w_7
    refine lv_istore (lv' := [(5, .int r_7), (4, .int r_6), (3, .int y_4), (0, .ref h0), (1, .int p0), (2, .int p1)]) hx hb dX5_deep_31 hl (by decide) rfl (fun ls hl => ?_)
    refine lv_iconst (v := 1) hx hb dX5_deep_33 (by decide) ?_
    refine lv_iload hx hb dX5_deep_34 (lv_at hl 1 rfl) ?_
    refine lv_iload hx hb dX5_deep_36 (lv_at hl 0 rfl) ?_
    refine lv_icmp_le (tgt := 46) hx hb dX5_deep_38 (by decide) (fun c_8 => ?_) (fun c_8 => ?_)
    · have i_8 : r_6.toInt ≤ r_7.toInt := kc_le c_8
      refine lv_iload hx hb dX5_deep_46 (lv_at hl 0 rfl) ?_
      refine lv_iadd hx hb dX5_deep_48 ?_
      refine lv_topi (fun y_9 ey_9 => ?_)
      have i_9 : y_9.toInt = 1 + r_7.toInt := ki_add ey_9 rfl rfl (om_454 w_7.1) (om_456 w_7.2)
      exact W.iret (v := y_9) hx hb hr (hlocks := hlocks) (fun t ht hW => ⟨y_9, rfl, (by (try dsimp only); omega), ht⟩) (fun q hq => by cases hq) dX5_deep_49
    · have i_8 : r_7.toInt < r_6.toInt := kc_nle c_8
      refine lv_iload hx hb dX5_deep_41 (lv_at hl 1 rfl) ?_
      refine lv_goto (tgt := 48) hx hb dX5_deep_43 (by decide) ?_
      refine lv_iadd hx hb dX5_deep_48 ?_
      refine lv_topi (fun y_10 ey_10 => ?_)
      have i_10 : y_10.toInt = 1 + r_6.toInt := ki_add ey_10 rfl rfl (om_454 w_6.1) (om_456 w_6.2)
      exact W.iret (v := y_10) hx hb hr (hlocks := hlocks) (fun t ht hW => ⟨y_10, rfl, (by (try dsimp only); omega), ht⟩) (fun q hq => by cases hq) dX5_deep_49
  · have i_2 : y_1.toInt < 2 := kc_nle c_2
    refine lv_iload_n hx hb dX5_deep_7 rfl (lv_at hl 2 rfl) ?_
    refine lv_iload_n hx hb dX5_deep_8 rfl (lv_at hl 1 rfl) ?_
    refine lv_isub hx hb dX5_deep_9 ?_
    refine lv_topi (fun y_11 ey_11 => ?_)
    have i_11 : y_11.toInt = p1.toInt - p0.toInt := ki_sub ey_11 rfl rfl (om_184 b1) (om_348 b3)
    exact W.iret (v := y_11) hx hb hr (hlocks := hlocks) (fun t ht hW => ⟨y_11, rfl, (by (try dsimp only); omega), ht⟩) (fun q hq => by cases hq) dX5_deep_10

set_option maxHeartbeats 4000000 in
set_option maxRecDepth 100000 in
theorem c_X5_deep_3 (l : Launch) (dC : Nat → ClassId) (dI : Nat → Nat → Nat) (h0 : Nat) (g_row : Nat) (g_many : Nat) (g_loss : Nat) (g_less : Nat) (g_voteValue : Nat) (g_voteNumber : Nat) (g_allValue : Nat) (g_allNumber : Nat) (g_nodeL : Nat) (g_nodeR : Nat) (g_part : Nat) (g_wasMany : Nat) (g_wasLoss : Nat) (g_wasValue : Nat) (g_wasNumber : Nat) (g_path : Nat) (g_heavyValue : Nat) (g_heavyTimes : Nat) (g_fewest : Nat) (g_which : Nat) (g_met : Nat) (m_n : Int32) (m_slots : Int32) (m_thrown : Int32) (m_allMany : Int32) (m_nodes : Int32) (m_partMany : Int32) (m_pathMany : Int32) (m_heavyMany : Int32) (m_mostMet : Int32) (p0 : Int32) (p1 : Int32) (b0 : 0 ≤ p0.toInt) (b1 : p0.toInt ≤ p1.toInt) (b2 : p1.toInt ≤ 160) (b3 : p1.toInt - p0.toInt ≤ 8) : Met l yX5_deep wsX5_deep ({ frames := 3, cells := 0, slots := 0, locals := 135 }) (va_Pc [.ref h0, .int p0, .int p1] (fun U => va_P (dC, dI) vwCl [kx_5 h0 g_row m_n m_slots m_thrown g_many g_loss g_less g_voteValue g_voteNumber g_allValue g_allNumber m_allMany g_nodeL g_nodeR m_nodes g_part m_partMany g_wasMany g_wasLoss g_wasValue g_wasNumber g_path m_pathMany g_heavyValue g_heavyTimes m_heavyMany g_fewest g_which g_met m_mostMet] U.heap ∧ va_K (dC, dI) vwCl [] U)) (vp_Si (fun r : Int32 => 0 ≤ r.toInt ∧ r.toInt ≤ 4)) 0 0 (fun _ => False) := by
  refine kx_stS (ws := wsX5_deep) (cc := cX5_deep) (maxL := 6) (ret := (some .int)) (by decide) rfl (Nat.le_of_ble_eq_true rfl) ?_
  intro p e s m below meth c ls hx hb hr hlocks hts hown hml hP hK hl
  have hown : s.vm.findClass RX5 = some m.cls := hown
  have hl : lv_has ls 6 [(0, .ref h0), (1, .int p0), (2, .int p1)] := hl
  refine lv_iload_n hx hb dX5_deep_0 rfl (lv_at hl 2 rfl) ?_
  refine lv_iload_n hx hb dX5_deep_1 rfl (lv_at hl 1 rfl) ?_
  refine lv_isub hx hb dX5_deep_2 ?_
  refine lv_topi (fun y_1 ey_1 => ?_)
  have i_1 : y_1.toInt = p1.toInt - p0.toInt := ki_sub ey_1 rfl rfl (om_184 b1) (om_350 b3)
  refine lv_iconst (v := 2) hx hb dX5_deep_3 (by decide) ?_
  refine lv_icmp_ge (tgt := 11) hx hb dX5_deep_4 (by decide) (fun c_2 => ?_) (fun c_2 => ?_)
  · have i_2 : 2 ≤ y_1.toInt := kc_le c_2
    refine lv_iload_n hx hb dX5_deep_11 rfl (lv_at hl 1 rfl) ?_
    refine lv_iload_n hx hb dX5_deep_12 rfl (lv_at hl 2 rfl) ?_
    refine lv_iadd hx hb dX5_deep_13 ?_
    refine lv_topi (fun y_3 ey_3 => ?_)
    have i_3 : y_3.toInt = p0.toInt + p1.toInt := ki_add ey_3 rfl rfl (om_447 b0 b1) (om_448 b1 b2)
    refine lv_iconst (v := 2) hx hb dX5_deep_14 (by decide) ?_
    refine lv_idiv hx hb dX5_deep_15 (by decide) ?_
    refine lv_topi (fun y_4 ey_4 => ?_)
    have i_4 : y_4.toInt = y_3.toInt / 2 := ki_div2 ey_4 rfl (om_449 b0 b1 i_3)
    have d_5 := om_dv i_4
    refine lv_istore_n (lv' := [(3, .int y_4), (0, .ref h0), (1, .int p0), (2, .int p1)]) hx hb dX5_deep_16 rfl hl (by decide) rfl (fun ls hl => ?_)
    refine lv_aload_n hx hb dX5_deep_17 rfl (lv_at hl 1 rfl) ?_
    refine lv_iload_n hx hb dX5_deep_18 rfl (lv_at hl 2 rfl) ?_
    refine lv_iload_n hx hb dX5_deep_19 rfl (lv_at hl 0 rfl) ?_
    have hPc := hP
    have hKc := hK
    refine vp_callSi (W.runV (As := [.int p0, .int y_4]) (rest := []) ⟨hx, hb, hml, hown, hts⟩ (c_X5_deep_2 l dC dI h0 g_row g_many g_loss g_less g_voteValue g_voteNumber g_allValue g_allNumber g_nodeL g_nodeR g_part g_wasMany g_wasLoss g_wasValue g_wasNumber g_path g_heavyValue g_heavyTimes g_fewest g_which g_met m_n m_slots m_thrown m_allMany m_nodes m_partMany m_pathMany m_heavyMany m_mostMet p0 y_4 b0 (om_450 b1 i_1 i_2 i_3 d_5.2) (om_451 b1 b2 i_3 d_5.1) (om_351 b3 i_3 d_5.1)) (cwV 2 hts gX5_deep_X5_deep rfl rfl rfl (by decide +kernel) ⟨Nat.le_of_ble_eq_true rfl, Nat.le_of_ble_eq_true rfl⟩) ⟨fun a U g mk q => by obtain ⟨q0, qP, qK⟩ := q; exact ⟨q0, qP, va_K.moved (u := U) (U := U.calling g mk a) (Vm.Alike.refl U.vm) qK⟩, kx_rc5 hKc hPc (q0 := 0) rfl, fun U hU hW => ⟨rfl, by rw [hU]; exact hPc, va_K.moved hW.alike hKc⟩⟩ rfl rfl hl.1 rfl (lv_room (Nat.le_of_ble_eq_true rfl)) dX5_deep_20 ⟨Nat.le_of_ble_eq_true rfl, Nat.le_of_ble_eq_true rfl⟩) (fun r_6 w_6 => ?_)
    have w_6 : 0 ≤ r_6.toInt ∧ r_6.toInt ≤ 3 := w_6
    refine lv_istore (lv' := [(4, .int r_6), (3, .int y_4), (0, .ref h0), (1, .int p0), (2, .int p1)]) hx hb dX5_deep_23 hl (by decide) rfl (fun ls hl => ?_)
    refine lv_aload_n hx hb dX5_deep_25 rfl (lv_at hl 2 rfl) ?_
    refine lv_iload_n hx hb dX5_deep_26 rfl (lv_at hl 1 rfl) ?_
    refine lv_iload_n hx hb dX5_deep_27 rfl (lv_at hl 4 rfl) ?_
    have hPc := hP
    have hKc := hK
    refine vp_callSi (W.runV (As := [.int y_4, .int p1]) (rest := []) ⟨hx, hb, hml, hown, hts⟩ (c_X5_deep_2 l dC dI h0 g_row g_many g_loss g_less g_voteValue g_voteNumber g_allValue g_allNumber g_nodeL g_nodeR g_part g_wasMany g_wasLoss g_wasValue g_wasNumber g_path g_heavyValue g_heavyTimes g_fewest g_which g_met m_n m_slots m_thrown m_allMany m_nodes m_partMany m_pathMany m_heavyMany m_mostMet y_4 p1 (om_452 b0 b1 i_1 i_2 i_3 d_5.2) (om_453 b1 i_3 d_5.1) b2 (by omega)) (cwV 2 hts gX5_deep_X5_deep rfl rfl rfl (by decide +kernel) ⟨Nat.le_of_ble_eq_true rfl, Nat.le_of_ble_eq_true rfl⟩) ⟨fun a U g mk q => by obtain ⟨q0, qP, qK⟩ := q; exact ⟨q0, qP, va_K.moved (u := U) (U := U.calling g mk a) (Vm.Alike.refl U.vm) qK⟩, kx_rc5 hKc hPc (q0 := 0) rfl, fun U hU hW => ⟨rfl, by rw [hU]; exact hPc, va_K.moved hW.alike hKc⟩⟩ rfl rfl hl.1 rfl (lv_room (Nat.le_of_ble_eq_true rfl)) dX5_deep_28 ⟨Nat.le_of_ble_eq_true rfl, Nat.le_of_ble_eq_true rfl⟩) (fun r_7 w_7 => ?_)
    have w_7 : 0 ≤ r_7.toInt ∧ r_7.toInt ≤ 3 := w_7
    refine lv_istore (lv' := [(5, .int r_7), (4, .int r_6), (3, .int y_4), (0, .ref h0), (1, .int p0), (2, .int p1)]) hx hb dX5_deep_31 hl (by decide) rfl (fun ls hl => ?_)
    refine lv_iconst (v := 1) hx hb dX5_deep_33 (by decide) ?_
    refine lv_iload hx hb dX5_deep_34 (lv_at hl 1 rfl) ?_
    refine lv_iload hx hb dX5_deep_36 (lv_at hl 0 rfl) ?_
    refine lv_icmp_le (tgt := 46) hx hb dX5_deep_38 (by decide) (fun c_8 => ?_) (fun c_8 => ?_)
    · have i_8 : r_6.toInt ≤ r_7.toInt := kc_le c_8
      refine lv_iload hx hb dX5_deep_46 (lv_at hl 0 rfl) ?_
      refine lv_iadd hx hb dX5_deep_48 ?_
      refine lv_topi (fun y_9 ey_9 => ?_)
      have i_9 : y_9.toInt = 1 + r_7.toInt := ki_add ey_9 rfl rfl (om_454 w_7.1) (om_457 w_7.2)
      exact W.iret (v := y_9) hx hb hr (hlocks := hlocks) (fun t ht hW => ⟨y_9, rfl, (by (try dsimp only); omega), ht⟩) (fun q hq => by cases hq) dX5_deep_49
    · have i_8 : r_7.toInt < r_6.toInt := kc_nle c_8
      refine lv_iload hx hb dX5_deep_41 (lv_at hl 1 rfl) ?_
      refine lv_goto (tgt := 48) hx hb dX5_deep_43 (by decide) ?_
      refine lv_iadd hx hb dX5_deep_48 ?_
      refine lv_topi (fun y_10 ey_10 => ?_)
      have i_10 : y_10.toInt = 1 + r_6.toInt := ki_add ey_10 rfl rfl (om_454 w_6.1) (om_457 w_6.2)
      exact W.iret (v := y_10) hx hb hr (hlocks := hlocks) (fun t ht hW => ⟨y_10, rfl, (by (try dsimp only); omega), ht⟩) (fun q hq => by cases hq) dX5_deep_49
  · have i_2 : y_1.toInt < 2 := kc_nle c_2
    refine lv_iload_n hx hb dX5_deep_7 rfl (lv_at hl 2 rfl) ?_
    refine lv_iload_n hx hb dX5_deep_8 rfl (lv_at hl 1 rfl) ?_
    refine lv_isub hx hb dX5_deep_9 ?_
    refine lv_topi (fun y_11 ey_11 => ?_)
    have i_11 : y_11.toInt = p1.toInt - p0.toInt := ki_sub ey_11 rfl rfl (om_184 b1) (om_350 b3)
    exact W.iret (v := y_11) hx hb hr (hlocks := hlocks) (fun t ht hW => ⟨y_11, rfl, (by (try dsimp only); omega), ht⟩) (fun q hq => by cases hq) dX5_deep_10

set_option maxHeartbeats 4000000 in
set_option maxRecDepth 100000 in
theorem c_X5_deep_4 (l : Launch) (dC : Nat → ClassId) (dI : Nat → Nat → Nat) (h0 : Nat) (g_row : Nat) (g_many : Nat) (g_loss : Nat) (g_less : Nat) (g_voteValue : Nat) (g_voteNumber : Nat) (g_allValue : Nat) (g_allNumber : Nat) (g_nodeL : Nat) (g_nodeR : Nat) (g_part : Nat) (g_wasMany : Nat) (g_wasLoss : Nat) (g_wasValue : Nat) (g_wasNumber : Nat) (g_path : Nat) (g_heavyValue : Nat) (g_heavyTimes : Nat) (g_fewest : Nat) (g_which : Nat) (g_met : Nat) (m_n : Int32) (m_slots : Int32) (m_thrown : Int32) (m_allMany : Int32) (m_nodes : Int32) (m_partMany : Int32) (m_pathMany : Int32) (m_heavyMany : Int32) (m_mostMet : Int32) (p0 : Int32) (p1 : Int32) (b0 : 0 ≤ p0.toInt) (b1 : p0.toInt ≤ p1.toInt) (b2 : p1.toInt ≤ 160) (b3 : p1.toInt - p0.toInt ≤ 16) : Met l yX5_deep wsX5_deep ({ frames := 4, cells := 0, slots := 0, locals := 180 }) (va_Pc [.ref h0, .int p0, .int p1] (fun U => va_P (dC, dI) vwCl [kx_5 h0 g_row m_n m_slots m_thrown g_many g_loss g_less g_voteValue g_voteNumber g_allValue g_allNumber m_allMany g_nodeL g_nodeR m_nodes g_part m_partMany g_wasMany g_wasLoss g_wasValue g_wasNumber g_path m_pathMany g_heavyValue g_heavyTimes m_heavyMany g_fewest g_which g_met m_mostMet] U.heap ∧ va_K (dC, dI) vwCl [] U)) (vp_Si (fun r : Int32 => 0 ≤ r.toInt ∧ r.toInt ≤ 5)) 0 0 (fun _ => False) := by
  refine kx_stS (ws := wsX5_deep) (cc := cX5_deep) (maxL := 6) (ret := (some .int)) (by decide) rfl (Nat.le_of_ble_eq_true rfl) ?_
  intro p e s m below meth c ls hx hb hr hlocks hts hown hml hP hK hl
  have hown : s.vm.findClass RX5 = some m.cls := hown
  have hl : lv_has ls 6 [(0, .ref h0), (1, .int p0), (2, .int p1)] := hl
  refine lv_iload_n hx hb dX5_deep_0 rfl (lv_at hl 2 rfl) ?_
  refine lv_iload_n hx hb dX5_deep_1 rfl (lv_at hl 1 rfl) ?_
  refine lv_isub hx hb dX5_deep_2 ?_
  refine lv_topi (fun y_1 ey_1 => ?_)
  have i_1 : y_1.toInt = p1.toInt - p0.toInt := ki_sub ey_1 rfl rfl (om_184 b1) (om_352 b3)
  refine lv_iconst (v := 2) hx hb dX5_deep_3 (by decide) ?_
  refine lv_icmp_ge (tgt := 11) hx hb dX5_deep_4 (by decide) (fun c_2 => ?_) (fun c_2 => ?_)
  · have i_2 : 2 ≤ y_1.toInt := kc_le c_2
    refine lv_iload_n hx hb dX5_deep_11 rfl (lv_at hl 1 rfl) ?_
    refine lv_iload_n hx hb dX5_deep_12 rfl (lv_at hl 2 rfl) ?_
    refine lv_iadd hx hb dX5_deep_13 ?_
    refine lv_topi (fun y_3 ey_3 => ?_)
    have i_3 : y_3.toInt = p0.toInt + p1.toInt := ki_add ey_3 rfl rfl (om_447 b0 b1) (om_448 b1 b2)
    refine lv_iconst (v := 2) hx hb dX5_deep_14 (by decide) ?_
    refine lv_idiv hx hb dX5_deep_15 (by decide) ?_
    refine lv_topi (fun y_4 ey_4 => ?_)
    have i_4 : y_4.toInt = y_3.toInt / 2 := ki_div2 ey_4 rfl (om_449 b0 b1 i_3)
    have d_5 := om_dv i_4
    refine lv_istore_n (lv' := [(3, .int y_4), (0, .ref h0), (1, .int p0), (2, .int p1)]) hx hb dX5_deep_16 rfl hl (by decide) rfl (fun ls hl => ?_)
    refine lv_aload_n hx hb dX5_deep_17 rfl (lv_at hl 1 rfl) ?_
    refine lv_iload_n hx hb dX5_deep_18 rfl (lv_at hl 2 rfl) ?_
    refine lv_iload_n hx hb dX5_deep_19 rfl (lv_at hl 0 rfl) ?_
    have hPc := hP
    have hKc := hK
    refine vp_callSi (W.runV (As := [.int p0, .int y_4]) (rest := []) ⟨hx, hb, hml, hown, hts⟩ (c_X5_deep_3 l dC dI h0 g_row g_many g_loss g_less g_voteValue g_voteNumber g_allValue g_allNumber g_nodeL g_nodeR g_part g_wasMany g_wasLoss g_wasValue g_wasNumber g_path g_heavyValue g_heavyTimes g_fewest g_which g_met m_n m_slots m_thrown m_allMany m_nodes m_partMany m_pathMany m_heavyMany m_mostMet p0 y_4 b0 (om_450 b1 i_1 i_2 i_3 d_5.2) (om_451 b1 b2 i_3 d_5.1) (om_353 b3 i_3 d_5.1)) (cwV 2 hts gX5_deep_X5_deep rfl rfl rfl (by decide +kernel) ⟨Nat.le_of_ble_eq_true rfl, Nat.le_of_ble_eq_true rfl⟩) ⟨fun a U g mk q => by obtain ⟨q0, qP, qK⟩ := q; exact ⟨q0, qP, va_K.moved (u := U) (U := U.calling g mk a) (Vm.Alike.refl U.vm) qK⟩, kx_rc5 hKc hPc (q0 := 0) rfl, fun U hU hW => ⟨rfl, by rw [hU]; exact hPc, va_K.moved hW.alike hKc⟩⟩ rfl rfl hl.1 rfl (lv_room (Nat.le_of_ble_eq_true rfl)) dX5_deep_20 ⟨Nat.le_of_ble_eq_true rfl, Nat.le_of_ble_eq_true rfl⟩) (fun r_6 w_6 => ?_)
    have w_6 : 0 ≤ r_6.toInt ∧ r_6.toInt ≤ 4 := w_6
    refine lv_istore (lv' := [(4, .int r_6), (3, .int y_4), (0, .ref h0), (1, .int p0), (2, .int p1)]) hx hb dX5_deep_23 hl (by decide) rfl (fun ls hl => ?_)
    refine lv_aload_n hx hb dX5_deep_25 rfl (lv_at hl 2 rfl) ?_
    refine lv_iload_n hx hb dX5_deep_26 rfl (lv_at hl 1 rfl) ?_
    refine lv_iload_n hx hb dX5_deep_27 rfl (lv_at hl 4 rfl) ?_
    have hPc := hP
    have hKc := hK
    refine vp_callSi (W.runV (As := [.int y_4, .int p1]) (rest := []) ⟨hx, hb, hml, hown, hts⟩ (c_X5_deep_3 l dC dI h0 g_row g_many g_loss g_less g_voteValue g_voteNumber g_allValue g_allNumber g_nodeL g_nodeR g_part g_wasMany g_wasLoss g_wasValue g_wasNumber g_path g_heavyValue g_heavyTimes g_fewest g_which g_met m_n m_slots m_thrown m_allMany m_nodes m_partMany m_pathMany m_heavyMany m_mostMet y_4 p1 (om_452 b0 b1 i_1 i_2 i_3 d_5.2) (om_453 b1 i_3 d_5.1) b2 (by omega)) (cwV 2 hts gX5_deep_X5_deep rfl rfl rfl (by decide +kernel) ⟨Nat.le_of_ble_eq_true rfl, Nat.le_of_ble_eq_true rfl⟩) ⟨fun a U g mk q => by obtain ⟨q0, qP, qK⟩ := q; exact ⟨q0, qP, va_K.moved (u := U) (U := U.calling g mk a) (Vm.Alike.refl U.vm) qK⟩, kx_rc5 hKc hPc (q0 := 0) rfl, fun U hU hW => ⟨rfl, by rw [hU]; exact hPc, va_K.moved hW.alike hKc⟩⟩ rfl rfl hl.1 rfl (lv_room (Nat.le_of_ble_eq_true rfl)) dX5_deep_28 ⟨Nat.le_of_ble_eq_true rfl, Nat.le_of_ble_eq_true rfl⟩) (fun r_7 w_7 => ?_)
    have w_7 : 0 ≤ r_7.toInt ∧ r_7.toInt ≤ 4 := w_7
    refine lv_istore (lv' := [(5, .int r_7), (4, .int r_6), (3, .int y_4), (0, .ref h0), (1, .int p0), (2, .int p1)]) hx hb dX5_deep_31 hl (by decide) rfl (fun ls hl => ?_)
    refine lv_iconst (v := 1) hx hb dX5_deep_33 (by decide) ?_
    refine lv_iload hx hb dX5_deep_34 (lv_at hl 1 rfl) ?_
    refine lv_iload hx hb dX5_deep_36 (lv_at hl 0 rfl) ?_
    refine lv_icmp_le (tgt := 46) hx hb dX5_deep_38 (by decide) (fun c_8 => ?_) (fun c_8 => ?_)
    · have i_8 : r_6.toInt ≤ r_7.toInt := kc_le c_8
      refine lv_iload hx hb dX5_deep_46 (lv_at hl 0 rfl) ?_
      refine lv_iadd hx hb dX5_deep_48 ?_
      refine lv_topi (fun y_9 ey_9 => ?_)
      have i_9 : y_9.toInt = 1 + r_7.toInt := ki_add ey_9 rfl rfl (om_454 w_7.1) (om_458 w_7.2)
      exact W.iret (v := y_9) hx hb hr (hlocks := hlocks) (fun t ht hW => ⟨y_9, rfl, (by (try dsimp only); omega), ht⟩) (fun q hq => by cases hq) dX5_deep_49
    · have i_8 : r_7.toInt < r_6.toInt := kc_nle c_8
      refine lv_iload hx hb dX5_deep_41 (lv_at hl 1 rfl) ?_
      refine lv_goto (tgt := 48) hx hb dX5_deep_43 (by decide) ?_
      refine lv_iadd hx hb dX5_deep_48 ?_
      refine lv_topi (fun y_10 ey_10 => ?_)
      have i_10 : y_10.toInt = 1 + r_6.toInt := ki_add ey_10 rfl rfl (om_454 w_6.1) (om_458 w_6.2)
      exact W.iret (v := y_10) hx hb hr (hlocks := hlocks) (fun t ht hW => ⟨y_10, rfl, (by (try dsimp only); omega), ht⟩) (fun q hq => by cases hq) dX5_deep_49
  · have i_2 : y_1.toInt < 2 := kc_nle c_2
    refine lv_iload_n hx hb dX5_deep_7 rfl (lv_at hl 2 rfl) ?_
    refine lv_iload_n hx hb dX5_deep_8 rfl (lv_at hl 1 rfl) ?_
    refine lv_isub hx hb dX5_deep_9 ?_
    refine lv_topi (fun y_11 ey_11 => ?_)
    have i_11 : y_11.toInt = p1.toInt - p0.toInt := ki_sub ey_11 rfl rfl (om_184 b1) (om_352 b3)
    exact W.iret (v := y_11) hx hb hr (hlocks := hlocks) (fun t ht hW => ⟨y_11, rfl, (by (try dsimp only); omega), ht⟩) (fun q hq => by cases hq) dX5_deep_10

set_option maxHeartbeats 4000000 in
set_option maxRecDepth 100000 in
theorem c_X5_deep_5 (l : Launch) (dC : Nat → ClassId) (dI : Nat → Nat → Nat) (h0 : Nat) (g_row : Nat) (g_many : Nat) (g_loss : Nat) (g_less : Nat) (g_voteValue : Nat) (g_voteNumber : Nat) (g_allValue : Nat) (g_allNumber : Nat) (g_nodeL : Nat) (g_nodeR : Nat) (g_part : Nat) (g_wasMany : Nat) (g_wasLoss : Nat) (g_wasValue : Nat) (g_wasNumber : Nat) (g_path : Nat) (g_heavyValue : Nat) (g_heavyTimes : Nat) (g_fewest : Nat) (g_which : Nat) (g_met : Nat) (m_n : Int32) (m_slots : Int32) (m_thrown : Int32) (m_allMany : Int32) (m_nodes : Int32) (m_partMany : Int32) (m_pathMany : Int32) (m_heavyMany : Int32) (m_mostMet : Int32) (p0 : Int32) (p1 : Int32) (b0 : 0 ≤ p0.toInt) (b1 : p0.toInt ≤ p1.toInt) (b2 : p1.toInt ≤ 160) (b3 : p1.toInt - p0.toInt ≤ 32) : Met l yX5_deep wsX5_deep ({ frames := 5, cells := 0, slots := 0, locals := 225 }) (va_Pc [.ref h0, .int p0, .int p1] (fun U => va_P (dC, dI) vwCl [kx_5 h0 g_row m_n m_slots m_thrown g_many g_loss g_less g_voteValue g_voteNumber g_allValue g_allNumber m_allMany g_nodeL g_nodeR m_nodes g_part m_partMany g_wasMany g_wasLoss g_wasValue g_wasNumber g_path m_pathMany g_heavyValue g_heavyTimes m_heavyMany g_fewest g_which g_met m_mostMet] U.heap ∧ va_K (dC, dI) vwCl [] U)) (vp_Si (fun r : Int32 => 0 ≤ r.toInt ∧ r.toInt ≤ 6)) 0 0 (fun _ => False) := by
  refine kx_stS (ws := wsX5_deep) (cc := cX5_deep) (maxL := 6) (ret := (some .int)) (by decide) rfl (Nat.le_of_ble_eq_true rfl) ?_
  intro p e s m below meth c ls hx hb hr hlocks hts hown hml hP hK hl
  have hown : s.vm.findClass RX5 = some m.cls := hown
  have hl : lv_has ls 6 [(0, .ref h0), (1, .int p0), (2, .int p1)] := hl
  refine lv_iload_n hx hb dX5_deep_0 rfl (lv_at hl 2 rfl) ?_
  refine lv_iload_n hx hb dX5_deep_1 rfl (lv_at hl 1 rfl) ?_
  refine lv_isub hx hb dX5_deep_2 ?_
  refine lv_topi (fun y_1 ey_1 => ?_)
  have i_1 : y_1.toInt = p1.toInt - p0.toInt := ki_sub ey_1 rfl rfl (om_184 b1) (om_354 b3)
  refine lv_iconst (v := 2) hx hb dX5_deep_3 (by decide) ?_
  refine lv_icmp_ge (tgt := 11) hx hb dX5_deep_4 (by decide) (fun c_2 => ?_) (fun c_2 => ?_)
  · have i_2 : 2 ≤ y_1.toInt := kc_le c_2
    refine lv_iload_n hx hb dX5_deep_11 rfl (lv_at hl 1 rfl) ?_
    refine lv_iload_n hx hb dX5_deep_12 rfl (lv_at hl 2 rfl) ?_
    refine lv_iadd hx hb dX5_deep_13 ?_
    refine lv_topi (fun y_3 ey_3 => ?_)
    have i_3 : y_3.toInt = p0.toInt + p1.toInt := ki_add ey_3 rfl rfl (om_447 b0 b1) (om_448 b1 b2)
    refine lv_iconst (v := 2) hx hb dX5_deep_14 (by decide) ?_
    refine lv_idiv hx hb dX5_deep_15 (by decide) ?_
    refine lv_topi (fun y_4 ey_4 => ?_)
    have i_4 : y_4.toInt = y_3.toInt / 2 := ki_div2 ey_4 rfl (om_449 b0 b1 i_3)
    have d_5 := om_dv i_4
    refine lv_istore_n (lv' := [(3, .int y_4), (0, .ref h0), (1, .int p0), (2, .int p1)]) hx hb dX5_deep_16 rfl hl (by decide) rfl (fun ls hl => ?_)
    refine lv_aload_n hx hb dX5_deep_17 rfl (lv_at hl 1 rfl) ?_
    refine lv_iload_n hx hb dX5_deep_18 rfl (lv_at hl 2 rfl) ?_
    refine lv_iload_n hx hb dX5_deep_19 rfl (lv_at hl 0 rfl) ?_
    have hPc := hP
    have hKc := hK
    refine vp_callSi (W.runV (As := [.int p0, .int y_4]) (rest := []) ⟨hx, hb, hml, hown, hts⟩ (c_X5_deep_4 l dC dI h0 g_row g_many g_loss g_less g_voteValue g_voteNumber g_allValue g_allNumber g_nodeL g_nodeR g_part g_wasMany g_wasLoss g_wasValue g_wasNumber g_path g_heavyValue g_heavyTimes g_fewest g_which g_met m_n m_slots m_thrown m_allMany m_nodes m_partMany m_pathMany m_heavyMany m_mostMet p0 y_4 b0 (om_450 b1 i_1 i_2 i_3 d_5.2) (om_451 b1 b2 i_3 d_5.1) (om_355 b3 i_3 d_5.1)) (cwV 2 hts gX5_deep_X5_deep rfl rfl rfl (by decide +kernel) ⟨Nat.le_of_ble_eq_true rfl, Nat.le_of_ble_eq_true rfl⟩) ⟨fun a U g mk q => by obtain ⟨q0, qP, qK⟩ := q; exact ⟨q0, qP, va_K.moved (u := U) (U := U.calling g mk a) (Vm.Alike.refl U.vm) qK⟩, kx_rc5 hKc hPc (q0 := 0) rfl, fun U hU hW => ⟨rfl, by rw [hU]; exact hPc, va_K.moved hW.alike hKc⟩⟩ rfl rfl hl.1 rfl (lv_room (Nat.le_of_ble_eq_true rfl)) dX5_deep_20 ⟨Nat.le_of_ble_eq_true rfl, Nat.le_of_ble_eq_true rfl⟩) (fun r_6 w_6 => ?_)
    have w_6 : 0 ≤ r_6.toInt ∧ r_6.toInt ≤ 5 := w_6
    refine lv_istore (lv' := [(4, .int r_6), (3, .int y_4), (0, .ref h0), (1, .int p0), (2, .int p1)]) hx hb dX5_deep_23 hl (by decide) rfl (fun ls hl => ?_)
    refine lv_aload_n hx hb dX5_deep_25 rfl (lv_at hl 2 rfl) ?_
    refine lv_iload_n hx hb dX5_deep_26 rfl (lv_at hl 1 rfl) ?_
    refine lv_iload_n hx hb dX5_deep_27 rfl (lv_at hl 4 rfl) ?_
    have hPc := hP
    have hKc := hK
    refine vp_callSi (W.runV (As := [.int y_4, .int p1]) (rest := []) ⟨hx, hb, hml, hown, hts⟩ (c_X5_deep_4 l dC dI h0 g_row g_many g_loss g_less g_voteValue g_voteNumber g_allValue g_allNumber g_nodeL g_nodeR g_part g_wasMany g_wasLoss g_wasValue g_wasNumber g_path g_heavyValue g_heavyTimes g_fewest g_which g_met m_n m_slots m_thrown m_allMany m_nodes m_partMany m_pathMany m_heavyMany m_mostMet y_4 p1 (om_452 b0 b1 i_1 i_2 i_3 d_5.2) (om_453 b1 i_3 d_5.1) b2 (by omega)) (cwV 2 hts gX5_deep_X5_deep rfl rfl rfl (by decide +kernel) ⟨Nat.le_of_ble_eq_true rfl, Nat.le_of_ble_eq_true rfl⟩) ⟨fun a U g mk q => by obtain ⟨q0, qP, qK⟩ := q; exact ⟨q0, qP, va_K.moved (u := U) (U := U.calling g mk a) (Vm.Alike.refl U.vm) qK⟩, kx_rc5 hKc hPc (q0 := 0) rfl, fun U hU hW => ⟨rfl, by rw [hU]; exact hPc, va_K.moved hW.alike hKc⟩⟩ rfl rfl hl.1 rfl (lv_room (Nat.le_of_ble_eq_true rfl)) dX5_deep_28 ⟨Nat.le_of_ble_eq_true rfl, Nat.le_of_ble_eq_true rfl⟩) (fun r_7 w_7 => ?_)
    have w_7 : 0 ≤ r_7.toInt ∧ r_7.toInt ≤ 5 := w_7
    refine lv_istore (lv' := [(5, .int r_7), (4, .int r_6), (3, .int y_4), (0, .ref h0), (1, .int p0), (2, .int p1)]) hx hb dX5_deep_31 hl (by decide) rfl (fun ls hl => ?_)
    refine lv_iconst (v := 1) hx hb dX5_deep_33 (by decide) ?_
    refine lv_iload hx hb dX5_deep_34 (lv_at hl 1 rfl) ?_
    refine lv_iload hx hb dX5_deep_36 (lv_at hl 0 rfl) ?_
    refine lv_icmp_le (tgt := 46) hx hb dX5_deep_38 (by decide) (fun c_8 => ?_) (fun c_8 => ?_)
    · have i_8 : r_6.toInt ≤ r_7.toInt := kc_le c_8
      refine lv_iload hx hb dX5_deep_46 (lv_at hl 0 rfl) ?_
      refine lv_iadd hx hb dX5_deep_48 ?_
      refine lv_topi (fun y_9 ey_9 => ?_)
      have i_9 : y_9.toInt = 1 + r_7.toInt := ki_add ey_9 rfl rfl (om_454 w_7.1) (om_459 w_7.2)
      exact W.iret (v := y_9) hx hb hr (hlocks := hlocks) (fun t ht hW => ⟨y_9, rfl, (by (try dsimp only); omega), ht⟩) (fun q hq => by cases hq) dX5_deep_49
    · have i_8 : r_7.toInt < r_6.toInt := kc_nle c_8
      refine lv_iload hx hb dX5_deep_41 (lv_at hl 1 rfl) ?_
      refine lv_goto (tgt := 48) hx hb dX5_deep_43 (by decide) ?_
      refine lv_iadd hx hb dX5_deep_48 ?_
      refine lv_topi (fun y_10 ey_10 => ?_)
      have i_10 : y_10.toInt = 1 + r_6.toInt := ki_add ey_10 rfl rfl (om_454 w_6.1) (om_459 w_6.2)
      exact W.iret (v := y_10) hx hb hr (hlocks := hlocks) (fun t ht hW => ⟨y_10, rfl, (by (try dsimp only); omega), ht⟩) (fun q hq => by cases hq) dX5_deep_49
  · have i_2 : y_1.toInt < 2 := kc_nle c_2
    refine lv_iload_n hx hb dX5_deep_7 rfl (lv_at hl 2 rfl) ?_
    refine lv_iload_n hx hb dX5_deep_8 rfl (lv_at hl 1 rfl) ?_
    refine lv_isub hx hb dX5_deep_9 ?_
    refine lv_topi (fun y_11 ey_11 => ?_)
    have i_11 : y_11.toInt = p1.toInt - p0.toInt := ki_sub ey_11 rfl rfl (om_184 b1) (om_354 b3)
    exact W.iret (v := y_11) hx hb hr (hlocks := hlocks) (fun t ht hW => ⟨y_11, rfl, (by (try dsimp only); omega), ht⟩) (fun q hq => by cases hq) dX5_deep_10

set_option maxHeartbeats 4000000 in
set_option maxRecDepth 100000 in
theorem c_X5_deep_6 (l : Launch) (dC : Nat → ClassId) (dI : Nat → Nat → Nat) (h0 : Nat) (g_row : Nat) (g_many : Nat) (g_loss : Nat) (g_less : Nat) (g_voteValue : Nat) (g_voteNumber : Nat) (g_allValue : Nat) (g_allNumber : Nat) (g_nodeL : Nat) (g_nodeR : Nat) (g_part : Nat) (g_wasMany : Nat) (g_wasLoss : Nat) (g_wasValue : Nat) (g_wasNumber : Nat) (g_path : Nat) (g_heavyValue : Nat) (g_heavyTimes : Nat) (g_fewest : Nat) (g_which : Nat) (g_met : Nat) (m_n : Int32) (m_slots : Int32) (m_thrown : Int32) (m_allMany : Int32) (m_nodes : Int32) (m_partMany : Int32) (m_pathMany : Int32) (m_heavyMany : Int32) (m_mostMet : Int32) (p0 : Int32) (p1 : Int32) (b0 : 0 ≤ p0.toInt) (b1 : p0.toInt ≤ p1.toInt) (b2 : p1.toInt ≤ 160) (b3 : p1.toInt - p0.toInt ≤ 64) : Met l yX5_deep wsX5_deep ({ frames := 6, cells := 0, slots := 0, locals := 270 }) (va_Pc [.ref h0, .int p0, .int p1] (fun U => va_P (dC, dI) vwCl [kx_5 h0 g_row m_n m_slots m_thrown g_many g_loss g_less g_voteValue g_voteNumber g_allValue g_allNumber m_allMany g_nodeL g_nodeR m_nodes g_part m_partMany g_wasMany g_wasLoss g_wasValue g_wasNumber g_path m_pathMany g_heavyValue g_heavyTimes m_heavyMany g_fewest g_which g_met m_mostMet] U.heap ∧ va_K (dC, dI) vwCl [] U)) (vp_Si (fun r : Int32 => 0 ≤ r.toInt ∧ r.toInt ≤ 7)) 0 0 (fun _ => False) := by
  refine kx_stS (ws := wsX5_deep) (cc := cX5_deep) (maxL := 6) (ret := (some .int)) (by decide) rfl (Nat.le_of_ble_eq_true rfl) ?_
  intro p e s m below meth c ls hx hb hr hlocks hts hown hml hP hK hl
  have hown : s.vm.findClass RX5 = some m.cls := hown
  have hl : lv_has ls 6 [(0, .ref h0), (1, .int p0), (2, .int p1)] := hl
  refine lv_iload_n hx hb dX5_deep_0 rfl (lv_at hl 2 rfl) ?_
  refine lv_iload_n hx hb dX5_deep_1 rfl (lv_at hl 1 rfl) ?_
  refine lv_isub hx hb dX5_deep_2 ?_
  refine lv_topi (fun y_1 ey_1 => ?_)
  have i_1 : y_1.toInt = p1.toInt - p0.toInt := ki_sub ey_1 rfl rfl (om_184 b1) (om_356 b3)
  refine lv_iconst (v := 2) hx hb dX5_deep_3 (by decide) ?_
  refine lv_icmp_ge (tgt := 11) hx hb dX5_deep_4 (by decide) (fun c_2 => ?_) (fun c_2 => ?_)
  · have i_2 : 2 ≤ y_1.toInt := kc_le c_2
    refine lv_iload_n hx hb dX5_deep_11 rfl (lv_at hl 1 rfl) ?_
    refine lv_iload_n hx hb dX5_deep_12 rfl (lv_at hl 2 rfl) ?_
    refine lv_iadd hx hb dX5_deep_13 ?_
    refine lv_topi (fun y_3 ey_3 => ?_)
    have i_3 : y_3.toInt = p0.toInt + p1.toInt := ki_add ey_3 rfl rfl (om_447 b0 b1) (om_448 b1 b2)
    refine lv_iconst (v := 2) hx hb dX5_deep_14 (by decide) ?_
    refine lv_idiv hx hb dX5_deep_15 (by decide) ?_
    refine lv_topi (fun y_4 ey_4 => ?_)
    have i_4 : y_4.toInt = y_3.toInt / 2 := ki_div2 ey_4 rfl (om_449 b0 b1 i_3)
    have d_5 := om_dv i_4
    refine lv_istore_n (lv' := [(3, .int y_4), (0, .ref h0), (1, .int p0), (2, .int p1)]) hx hb dX5_deep_16 rfl hl (by decide) rfl (fun ls hl => ?_)
    refine lv_aload_n hx hb dX5_deep_17 rfl (lv_at hl 1 rfl) ?_
    refine lv_iload_n hx hb dX5_deep_18 rfl (lv_at hl 2 rfl) ?_
    refine lv_iload_n hx hb dX5_deep_19 rfl (lv_at hl 0 rfl) ?_
    have hPc := hP
    have hKc := hK
    refine vp_callSi (W.runV (As := [.int p0, .int y_4]) (rest := []) ⟨hx, hb, hml, hown, hts⟩ (c_X5_deep_5 l dC dI h0 g_row g_many g_loss g_less g_voteValue g_voteNumber g_allValue g_allNumber g_nodeL g_nodeR g_part g_wasMany g_wasLoss g_wasValue g_wasNumber g_path g_heavyValue g_heavyTimes g_fewest g_which g_met m_n m_slots m_thrown m_allMany m_nodes m_partMany m_pathMany m_heavyMany m_mostMet p0 y_4 b0 (om_450 b1 i_1 i_2 i_3 d_5.2) (om_451 b1 b2 i_3 d_5.1) (om_357 b3 i_3 d_5.1)) (cwV 2 hts gX5_deep_X5_deep rfl rfl rfl (by decide +kernel) ⟨Nat.le_of_ble_eq_true rfl, Nat.le_of_ble_eq_true rfl⟩) ⟨fun a U g mk q => by obtain ⟨q0, qP, qK⟩ := q; exact ⟨q0, qP, va_K.moved (u := U) (U := U.calling g mk a) (Vm.Alike.refl U.vm) qK⟩, kx_rc5 hKc hPc (q0 := 0) rfl, fun U hU hW => ⟨rfl, by rw [hU]; exact hPc, va_K.moved hW.alike hKc⟩⟩ rfl rfl hl.1 rfl (lv_room (Nat.le_of_ble_eq_true rfl)) dX5_deep_20 ⟨Nat.le_of_ble_eq_true rfl, Nat.le_of_ble_eq_true rfl⟩) (fun r_6 w_6 => ?_)
    have w_6 : 0 ≤ r_6.toInt ∧ r_6.toInt ≤ 6 := w_6
    refine lv_istore (lv' := [(4, .int r_6), (3, .int y_4), (0, .ref h0), (1, .int p0), (2, .int p1)]) hx hb dX5_deep_23 hl (by decide) rfl (fun ls hl => ?_)
    refine lv_aload_n hx hb dX5_deep_25 rfl (lv_at hl 2 rfl) ?_
    refine lv_iload_n hx hb dX5_deep_26 rfl (lv_at hl 1 rfl) ?_
    refine lv_iload_n hx hb dX5_deep_27 rfl (lv_at hl 4 rfl) ?_
    have hPc := hP
    have hKc := hK
    refine vp_callSi (W.runV (As := [.int y_4, .int p1]) (rest := []) ⟨hx, hb, hml, hown, hts⟩ (c_X5_deep_5 l dC dI h0 g_row g_many g_loss g_less g_voteValue g_voteNumber g_allValue g_allNumber g_nodeL g_nodeR g_part g_wasMany g_wasLoss g_wasValue g_wasNumber g_path g_heavyValue g_heavyTimes g_fewest g_which g_met m_n m_slots m_thrown m_allMany m_nodes m_partMany m_pathMany m_heavyMany m_mostMet y_4 p1 (om_452 b0 b1 i_1 i_2 i_3 d_5.2) (om_453 b1 i_3 d_5.1) b2 (by omega)) (cwV 2 hts gX5_deep_X5_deep rfl rfl rfl (by decide +kernel) ⟨Nat.le_of_ble_eq_true rfl, Nat.le_of_ble_eq_true rfl⟩) ⟨fun a U g mk q => by obtain ⟨q0, qP, qK⟩ := q; exact ⟨q0, qP, va_K.moved (u := U) (U := U.calling g mk a) (Vm.Alike.refl U.vm) qK⟩, kx_rc5 hKc hPc (q0 := 0) rfl, fun U hU hW => ⟨rfl, by rw [hU]; exact hPc, va_K.moved hW.alike hKc⟩⟩ rfl rfl hl.1 rfl (lv_room (Nat.le_of_ble_eq_true rfl)) dX5_deep_28 ⟨Nat.le_of_ble_eq_true rfl, Nat.le_of_ble_eq_true rfl⟩) (fun r_7 w_7 => ?_)
    have w_7 : 0 ≤ r_7.toInt ∧ r_7.toInt ≤ 6 := w_7
    refine lv_istore (lv' := [(5, .int r_7), (4, .int r_6), (3, .int y_4), (0, .ref h0), (1, .int p0), (2, .int p1)]) hx hb dX5_deep_31 hl (by decide) rfl (fun ls hl => ?_)
    refine lv_iconst (v := 1) hx hb dX5_deep_33 (by decide) ?_
    refine lv_iload hx hb dX5_deep_34 (lv_at hl 1 rfl) ?_
    refine lv_iload hx hb dX5_deep_36 (lv_at hl 0 rfl) ?_
    refine lv_icmp_le (tgt := 46) hx hb dX5_deep_38 (by decide) (fun c_8 => ?_) (fun c_8 => ?_)
    · have i_8 : r_6.toInt ≤ r_7.toInt := kc_le c_8
      refine lv_iload hx hb dX5_deep_46 (lv_at hl 0 rfl) ?_
      refine lv_iadd hx hb dX5_deep_48 ?_
      refine lv_topi (fun y_9 ey_9 => ?_)
      have i_9 : y_9.toInt = 1 + r_7.toInt := ki_add ey_9 rfl rfl (om_454 w_7.1) (om_460 w_7.2)
      exact W.iret (v := y_9) hx hb hr (hlocks := hlocks) (fun t ht hW => ⟨y_9, rfl, (by (try dsimp only); omega), ht⟩) (fun q hq => by cases hq) dX5_deep_49
    · have i_8 : r_7.toInt < r_6.toInt := kc_nle c_8
      refine lv_iload hx hb dX5_deep_41 (lv_at hl 1 rfl) ?_
      refine lv_goto (tgt := 48) hx hb dX5_deep_43 (by decide) ?_
      refine lv_iadd hx hb dX5_deep_48 ?_
      refine lv_topi (fun y_10 ey_10 => ?_)
      have i_10 : y_10.toInt = 1 + r_6.toInt := ki_add ey_10 rfl rfl (om_454 w_6.1) (om_460 w_6.2)
      exact W.iret (v := y_10) hx hb hr (hlocks := hlocks) (fun t ht hW => ⟨y_10, rfl, (by (try dsimp only); omega), ht⟩) (fun q hq => by cases hq) dX5_deep_49
  · have i_2 : y_1.toInt < 2 := kc_nle c_2
    refine lv_iload_n hx hb dX5_deep_7 rfl (lv_at hl 2 rfl) ?_
    refine lv_iload_n hx hb dX5_deep_8 rfl (lv_at hl 1 rfl) ?_
    refine lv_isub hx hb dX5_deep_9 ?_
    refine lv_topi (fun y_11 ey_11 => ?_)
    have i_11 : y_11.toInt = p1.toInt - p0.toInt := ki_sub ey_11 rfl rfl (om_184 b1) (om_356 b3)
    exact W.iret (v := y_11) hx hb hr (hlocks := hlocks) (fun t ht hW => ⟨y_11, rfl, (by (try dsimp only); omega), ht⟩) (fun q hq => by cases hq) dX5_deep_10

set_option maxHeartbeats 4000000 in
set_option maxRecDepth 100000 in
theorem c_X5_deep_7 (l : Launch) (dC : Nat → ClassId) (dI : Nat → Nat → Nat) (h0 : Nat) (g_row : Nat) (g_many : Nat) (g_loss : Nat) (g_less : Nat) (g_voteValue : Nat) (g_voteNumber : Nat) (g_allValue : Nat) (g_allNumber : Nat) (g_nodeL : Nat) (g_nodeR : Nat) (g_part : Nat) (g_wasMany : Nat) (g_wasLoss : Nat) (g_wasValue : Nat) (g_wasNumber : Nat) (g_path : Nat) (g_heavyValue : Nat) (g_heavyTimes : Nat) (g_fewest : Nat) (g_which : Nat) (g_met : Nat) (m_n : Int32) (m_slots : Int32) (m_thrown : Int32) (m_allMany : Int32) (m_nodes : Int32) (m_partMany : Int32) (m_pathMany : Int32) (m_heavyMany : Int32) (m_mostMet : Int32) (p0 : Int32) (p1 : Int32) (b0 : 0 ≤ p0.toInt) (b1 : p0.toInt ≤ p1.toInt) (b2 : p1.toInt ≤ 160) (b3 : p1.toInt - p0.toInt ≤ 128) : Met l yX5_deep wsX5_deep ({ frames := 7, cells := 0, slots := 0, locals := 315 }) (va_Pc [.ref h0, .int p0, .int p1] (fun U => va_P (dC, dI) vwCl [kx_5 h0 g_row m_n m_slots m_thrown g_many g_loss g_less g_voteValue g_voteNumber g_allValue g_allNumber m_allMany g_nodeL g_nodeR m_nodes g_part m_partMany g_wasMany g_wasLoss g_wasValue g_wasNumber g_path m_pathMany g_heavyValue g_heavyTimes m_heavyMany g_fewest g_which g_met m_mostMet] U.heap ∧ va_K (dC, dI) vwCl [] U)) (vp_Si (fun r : Int32 => 0 ≤ r.toInt ∧ r.toInt ≤ 8)) 0 0 (fun _ => False) := by
  refine kx_stS (ws := wsX5_deep) (cc := cX5_deep) (maxL := 6) (ret := (some .int)) (by decide) rfl (Nat.le_of_ble_eq_true rfl) ?_
  intro p e s m below meth c ls hx hb hr hlocks hts hown hml hP hK hl
  have hown : s.vm.findClass RX5 = some m.cls := hown
  have hl : lv_has ls 6 [(0, .ref h0), (1, .int p0), (2, .int p1)] := hl
  refine lv_iload_n hx hb dX5_deep_0 rfl (lv_at hl 2 rfl) ?_
  refine lv_iload_n hx hb dX5_deep_1 rfl (lv_at hl 1 rfl) ?_
  refine lv_isub hx hb dX5_deep_2 ?_
  refine lv_topi (fun y_1 ey_1 => ?_)
  have i_1 : y_1.toInt = p1.toInt - p0.toInt := ki_sub ey_1 rfl rfl (om_184 b1) (om_358 b3)
  refine lv_iconst (v := 2) hx hb dX5_deep_3 (by decide) ?_
  refine lv_icmp_ge (tgt := 11) hx hb dX5_deep_4 (by decide) (fun c_2 => ?_) (fun c_2 => ?_)
  · have i_2 : 2 ≤ y_1.toInt := kc_le c_2
    refine lv_iload_n hx hb dX5_deep_11 rfl (lv_at hl 1 rfl) ?_
    refine lv_iload_n hx hb dX5_deep_12 rfl (lv_at hl 2 rfl) ?_
    refine lv_iadd hx hb dX5_deep_13 ?_
    refine lv_topi (fun y_3 ey_3 => ?_)
    have i_3 : y_3.toInt = p0.toInt + p1.toInt := ki_add ey_3 rfl rfl (om_447 b0 b1) (om_448 b1 b2)
    refine lv_iconst (v := 2) hx hb dX5_deep_14 (by decide) ?_
    refine lv_idiv hx hb dX5_deep_15 (by decide) ?_
    refine lv_topi (fun y_4 ey_4 => ?_)
    have i_4 : y_4.toInt = y_3.toInt / 2 := ki_div2 ey_4 rfl (om_449 b0 b1 i_3)
    have d_5 := om_dv i_4
    refine lv_istore_n (lv' := [(3, .int y_4), (0, .ref h0), (1, .int p0), (2, .int p1)]) hx hb dX5_deep_16 rfl hl (by decide) rfl (fun ls hl => ?_)
    refine lv_aload_n hx hb dX5_deep_17 rfl (lv_at hl 1 rfl) ?_
    refine lv_iload_n hx hb dX5_deep_18 rfl (lv_at hl 2 rfl) ?_
    refine lv_iload_n hx hb dX5_deep_19 rfl (lv_at hl 0 rfl) ?_
    have hPc := hP
    have hKc := hK
    refine vp_callSi (W.runV (As := [.int p0, .int y_4]) (rest := []) ⟨hx, hb, hml, hown, hts⟩ (c_X5_deep_6 l dC dI h0 g_row g_many g_loss g_less g_voteValue g_voteNumber g_allValue g_allNumber g_nodeL g_nodeR g_part g_wasMany g_wasLoss g_wasValue g_wasNumber g_path g_heavyValue g_heavyTimes g_fewest g_which g_met m_n m_slots m_thrown m_allMany m_nodes m_partMany m_pathMany m_heavyMany m_mostMet p0 y_4 b0 (om_450 b1 i_1 i_2 i_3 d_5.2) (om_451 b1 b2 i_3 d_5.1) (om_359 b3 i_3 d_5.1)) (cwV 2 hts gX5_deep_X5_deep rfl rfl rfl (by decide +kernel) ⟨Nat.le_of_ble_eq_true rfl, Nat.le_of_ble_eq_true rfl⟩) ⟨fun a U g mk q => by obtain ⟨q0, qP, qK⟩ := q; exact ⟨q0, qP, va_K.moved (u := U) (U := U.calling g mk a) (Vm.Alike.refl U.vm) qK⟩, kx_rc5 hKc hPc (q0 := 0) rfl, fun U hU hW => ⟨rfl, by rw [hU]; exact hPc, va_K.moved hW.alike hKc⟩⟩ rfl rfl hl.1 rfl (lv_room (Nat.le_of_ble_eq_true rfl)) dX5_deep_20 ⟨Nat.le_of_ble_eq_true rfl, Nat.le_of_ble_eq_true rfl⟩) (fun r_6 w_6 => ?_)
    have w_6 : 0 ≤ r_6.toInt ∧ r_6.toInt ≤ 7 := w_6
    refine lv_istore (lv' := [(4, .int r_6), (3, .int y_4), (0, .ref h0), (1, .int p0), (2, .int p1)]) hx hb dX5_deep_23 hl (by decide) rfl (fun ls hl => ?_)
    refine lv_aload_n hx hb dX5_deep_25 rfl (lv_at hl 2 rfl) ?_
    refine lv_iload_n hx hb dX5_deep_26 rfl (lv_at hl 1 rfl) ?_
    refine lv_iload_n hx hb dX5_deep_27 rfl (lv_at hl 4 rfl) ?_
    have hPc := hP
    have hKc := hK
    refine vp_callSi (W.runV (As := [.int y_4, .int p1]) (rest := []) ⟨hx, hb, hml, hown, hts⟩ (c_X5_deep_6 l dC dI h0 g_row g_many g_loss g_less g_voteValue g_voteNumber g_allValue g_allNumber g_nodeL g_nodeR g_part g_wasMany g_wasLoss g_wasValue g_wasNumber g_path g_heavyValue g_heavyTimes g_fewest g_which g_met m_n m_slots m_thrown m_allMany m_nodes m_partMany m_pathMany m_heavyMany m_mostMet y_4 p1 (om_452 b0 b1 i_1 i_2 i_3 d_5.2) (om_453 b1 i_3 d_5.1) b2 (by omega)) (cwV 2 hts gX5_deep_X5_deep rfl rfl rfl (by decide +kernel) ⟨Nat.le_of_ble_eq_true rfl, Nat.le_of_ble_eq_true rfl⟩) ⟨fun a U g mk q => by obtain ⟨q0, qP, qK⟩ := q; exact ⟨q0, qP, va_K.moved (u := U) (U := U.calling g mk a) (Vm.Alike.refl U.vm) qK⟩, kx_rc5 hKc hPc (q0 := 0) rfl, fun U hU hW => ⟨rfl, by rw [hU]; exact hPc, va_K.moved hW.alike hKc⟩⟩ rfl rfl hl.1 rfl (lv_room (Nat.le_of_ble_eq_true rfl)) dX5_deep_28 ⟨Nat.le_of_ble_eq_true rfl, Nat.le_of_ble_eq_true rfl⟩) (fun r_7 w_7 => ?_)
    have w_7 : 0 ≤ r_7.toInt ∧ r_7.toInt ≤ 7 := w_7
    refine lv_istore (lv' := [(5, .int r_7), (4, .int r_6), (3, .int y_4), (0, .ref h0), (1, .int p0), (2, .int p1)]) hx hb dX5_deep_31 hl (by decide) rfl (fun ls hl => ?_)
    refine lv_iconst (v := 1) hx hb dX5_deep_33 (by decide) ?_
    refine lv_iload hx hb dX5_deep_34 (lv_at hl 1 rfl) ?_
    refine lv_iload hx hb dX5_deep_36 (lv_at hl 0 rfl) ?_
    refine lv_icmp_le (tgt := 46) hx hb dX5_deep_38 (by decide) (fun c_8 => ?_) (fun c_8 => ?_)
    · have i_8 : r_6.toInt ≤ r_7.toInt := kc_le c_8
      refine lv_iload hx hb dX5_deep_46 (lv_at hl 0 rfl) ?_
      refine lv_iadd hx hb dX5_deep_48 ?_
      refine lv_topi (fun y_9 ey_9 => ?_)
      have i_9 : y_9.toInt = 1 + r_7.toInt := ki_add ey_9 rfl rfl (om_454 w_7.1) (om_461 w_7.2)
      exact W.iret (v := y_9) hx hb hr (hlocks := hlocks) (fun t ht hW => ⟨y_9, rfl, (by (try dsimp only); omega), ht⟩) (fun q hq => by cases hq) dX5_deep_49
    · have i_8 : r_7.toInt < r_6.toInt := kc_nle c_8
      refine lv_iload hx hb dX5_deep_41 (lv_at hl 1 rfl) ?_
      refine lv_goto (tgt := 48) hx hb dX5_deep_43 (by decide) ?_
      refine lv_iadd hx hb dX5_deep_48 ?_
      refine lv_topi (fun y_10 ey_10 => ?_)
      have i_10 : y_10.toInt = 1 + r_6.toInt := ki_add ey_10 rfl rfl (om_454 w_6.1) (om_461 w_6.2)
      exact W.iret (v := y_10) hx hb hr (hlocks := hlocks) (fun t ht hW => ⟨y_10, rfl, (by (try dsimp only); omega), ht⟩) (fun q hq => by cases hq) dX5_deep_49
  · have i_2 : y_1.toInt < 2 := kc_nle c_2
    refine lv_iload_n hx hb dX5_deep_7 rfl (lv_at hl 2 rfl) ?_
    refine lv_iload_n hx hb dX5_deep_8 rfl (lv_at hl 1 rfl) ?_
    refine lv_isub hx hb dX5_deep_9 ?_
    refine lv_topi (fun y_11 ey_11 => ?_)
    have i_11 : y_11.toInt = p1.toInt - p0.toInt := ki_sub ey_11 rfl rfl (om_184 b1) (om_358 b3)
    exact W.iret (v := y_11) hx hb hr (hlocks := hlocks) (fun t ht hW => ⟨y_11, rfl, (by (try dsimp only); omega), ht⟩) (fun q hq => by cases hq) dX5_deep_10

set_option maxHeartbeats 4000000 in
set_option maxRecDepth 100000 in
theorem c_X5_deep_8 (l : Launch) (dC : Nat → ClassId) (dI : Nat → Nat → Nat) (h0 : Nat) (g_row : Nat) (g_many : Nat) (g_loss : Nat) (g_less : Nat) (g_voteValue : Nat) (g_voteNumber : Nat) (g_allValue : Nat) (g_allNumber : Nat) (g_nodeL : Nat) (g_nodeR : Nat) (g_part : Nat) (g_wasMany : Nat) (g_wasLoss : Nat) (g_wasValue : Nat) (g_wasNumber : Nat) (g_path : Nat) (g_heavyValue : Nat) (g_heavyTimes : Nat) (g_fewest : Nat) (g_which : Nat) (g_met : Nat) (m_n : Int32) (m_slots : Int32) (m_thrown : Int32) (m_allMany : Int32) (m_nodes : Int32) (m_partMany : Int32) (m_pathMany : Int32) (m_heavyMany : Int32) (m_mostMet : Int32) (p0 : Int32) (p1 : Int32) (b0 : 0 ≤ p0.toInt) (b1 : p0.toInt ≤ p1.toInt) (b2 : p1.toInt ≤ 160) (b3 : p1.toInt - p0.toInt ≤ 256) : Met l yX5_deep wsX5_deep ({ frames := 8, cells := 0, slots := 0, locals := 360 }) (va_Pc [.ref h0, .int p0, .int p1] (fun U => va_P (dC, dI) vwCl [kx_5 h0 g_row m_n m_slots m_thrown g_many g_loss g_less g_voteValue g_voteNumber g_allValue g_allNumber m_allMany g_nodeL g_nodeR m_nodes g_part m_partMany g_wasMany g_wasLoss g_wasValue g_wasNumber g_path m_pathMany g_heavyValue g_heavyTimes m_heavyMany g_fewest g_which g_met m_mostMet] U.heap ∧ va_K (dC, dI) vwCl [] U)) (vp_Si (fun r : Int32 => 0 ≤ r.toInt ∧ r.toInt ≤ 9)) 0 0 (fun _ => False) := by
  refine kx_stS (ws := wsX5_deep) (cc := cX5_deep) (maxL := 6) (ret := (some .int)) (by decide) rfl (Nat.le_of_ble_eq_true rfl) ?_
  intro p e s m below meth c ls hx hb hr hlocks hts hown hml hP hK hl
  have hown : s.vm.findClass RX5 = some m.cls := hown
  have hl : lv_has ls 6 [(0, .ref h0), (1, .int p0), (2, .int p1)] := hl
  refine lv_iload_n hx hb dX5_deep_0 rfl (lv_at hl 2 rfl) ?_
  refine lv_iload_n hx hb dX5_deep_1 rfl (lv_at hl 1 rfl) ?_
  refine lv_isub hx hb dX5_deep_2 ?_
  refine lv_topi (fun y_1 ey_1 => ?_)
  have i_1 : y_1.toInt = p1.toInt - p0.toInt := ki_sub ey_1 rfl rfl (om_184 b1) (om_360 b3)
  refine lv_iconst (v := 2) hx hb dX5_deep_3 (by decide) ?_
  refine lv_icmp_ge (tgt := 11) hx hb dX5_deep_4 (by decide) (fun c_2 => ?_) (fun c_2 => ?_)
  · have i_2 : 2 ≤ y_1.toInt := kc_le c_2
    refine lv_iload_n hx hb dX5_deep_11 rfl (lv_at hl 1 rfl) ?_
    refine lv_iload_n hx hb dX5_deep_12 rfl (lv_at hl 2 rfl) ?_
    refine lv_iadd hx hb dX5_deep_13 ?_
    refine lv_topi (fun y_3 ey_3 => ?_)
    have i_3 : y_3.toInt = p0.toInt + p1.toInt := ki_add ey_3 rfl rfl (om_447 b0 b1) (om_448 b1 b2)
    refine lv_iconst (v := 2) hx hb dX5_deep_14 (by decide) ?_
    refine lv_idiv hx hb dX5_deep_15 (by decide) ?_
    refine lv_topi (fun y_4 ey_4 => ?_)
    have i_4 : y_4.toInt = y_3.toInt / 2 := ki_div2 ey_4 rfl (om_449 b0 b1 i_3)
    have d_5 := om_dv i_4
    refine lv_istore_n (lv' := [(3, .int y_4), (0, .ref h0), (1, .int p0), (2, .int p1)]) hx hb dX5_deep_16 rfl hl (by decide) rfl (fun ls hl => ?_)
    refine lv_aload_n hx hb dX5_deep_17 rfl (lv_at hl 1 rfl) ?_
    refine lv_iload_n hx hb dX5_deep_18 rfl (lv_at hl 2 rfl) ?_
    refine lv_iload_n hx hb dX5_deep_19 rfl (lv_at hl 0 rfl) ?_
    have hPc := hP
    have hKc := hK
    refine vp_callSi (W.runV (As := [.int p0, .int y_4]) (rest := []) ⟨hx, hb, hml, hown, hts⟩ (c_X5_deep_7 l dC dI h0 g_row g_many g_loss g_less g_voteValue g_voteNumber g_allValue g_allNumber g_nodeL g_nodeR g_part g_wasMany g_wasLoss g_wasValue g_wasNumber g_path g_heavyValue g_heavyTimes g_fewest g_which g_met m_n m_slots m_thrown m_allMany m_nodes m_partMany m_pathMany m_heavyMany m_mostMet p0 y_4 b0 (om_450 b1 i_1 i_2 i_3 d_5.2) (om_451 b1 b2 i_3 d_5.1) (om_361 b3 i_3 d_5.1)) (cwV 2 hts gX5_deep_X5_deep rfl rfl rfl (by decide +kernel) ⟨Nat.le_of_ble_eq_true rfl, Nat.le_of_ble_eq_true rfl⟩) ⟨fun a U g mk q => by obtain ⟨q0, qP, qK⟩ := q; exact ⟨q0, qP, va_K.moved (u := U) (U := U.calling g mk a) (Vm.Alike.refl U.vm) qK⟩, kx_rc5 hKc hPc (q0 := 0) rfl, fun U hU hW => ⟨rfl, by rw [hU]; exact hPc, va_K.moved hW.alike hKc⟩⟩ rfl rfl hl.1 rfl (lv_room (Nat.le_of_ble_eq_true rfl)) dX5_deep_20 ⟨Nat.le_of_ble_eq_true rfl, Nat.le_of_ble_eq_true rfl⟩) (fun r_6 w_6 => ?_)
    have w_6 : 0 ≤ r_6.toInt ∧ r_6.toInt ≤ 8 := w_6
    refine lv_istore (lv' := [(4, .int r_6), (3, .int y_4), (0, .ref h0), (1, .int p0), (2, .int p1)]) hx hb dX5_deep_23 hl (by decide) rfl (fun ls hl => ?_)
    refine lv_aload_n hx hb dX5_deep_25 rfl (lv_at hl 2 rfl) ?_
    refine lv_iload_n hx hb dX5_deep_26 rfl (lv_at hl 1 rfl) ?_
    refine lv_iload_n hx hb dX5_deep_27 rfl (lv_at hl 4 rfl) ?_
    have hPc := hP
    have hKc := hK
    refine vp_callSi (W.runV (As := [.int y_4, .int p1]) (rest := []) ⟨hx, hb, hml, hown, hts⟩ (c_X5_deep_7 l dC dI h0 g_row g_many g_loss g_less g_voteValue g_voteNumber g_allValue g_allNumber g_nodeL g_nodeR g_part g_wasMany g_wasLoss g_wasValue g_wasNumber g_path g_heavyValue g_heavyTimes g_fewest g_which g_met m_n m_slots m_thrown m_allMany m_nodes m_partMany m_pathMany m_heavyMany m_mostMet y_4 p1 (om_452 b0 b1 i_1 i_2 i_3 d_5.2) (om_453 b1 i_3 d_5.1) b2 (om_462 b0 b2 b3 i_3 d_5.2)) (cwV 2 hts gX5_deep_X5_deep rfl rfl rfl (by decide +kernel) ⟨Nat.le_of_ble_eq_true rfl, Nat.le_of_ble_eq_true rfl⟩) ⟨fun a U g mk q => by obtain ⟨q0, qP, qK⟩ := q; exact ⟨q0, qP, va_K.moved (u := U) (U := U.calling g mk a) (Vm.Alike.refl U.vm) qK⟩, kx_rc5 hKc hPc (q0 := 0) rfl, fun U hU hW => ⟨rfl, by rw [hU]; exact hPc, va_K.moved hW.alike hKc⟩⟩ rfl rfl hl.1 rfl (lv_room (Nat.le_of_ble_eq_true rfl)) dX5_deep_28 ⟨Nat.le_of_ble_eq_true rfl, Nat.le_of_ble_eq_true rfl⟩) (fun r_7 w_7 => ?_)
    have w_7 : 0 ≤ r_7.toInt ∧ r_7.toInt ≤ 8 := w_7
    refine lv_istore (lv' := [(5, .int r_7), (4, .int r_6), (3, .int y_4), (0, .ref h0), (1, .int p0), (2, .int p1)]) hx hb dX5_deep_31 hl (by decide) rfl (fun ls hl => ?_)
    refine lv_iconst (v := 1) hx hb dX5_deep_33 (by decide) ?_
    refine lv_iload hx hb dX5_deep_34 (lv_at hl 1 rfl) ?_
    refine lv_iload hx hb dX5_deep_36 (lv_at hl 0 rfl) ?_
    refine lv_icmp_le (tgt := 46) hx hb dX5_deep_38 (by decide) (fun c_8 => ?_) (fun c_8 => ?_)
    · have i_8 : r_6.toInt ≤ r_7.toInt := kc_le c_8
      refine lv_iload hx hb dX5_deep_46 (lv_at hl 0 rfl) ?_
      refine lv_iadd hx hb dX5_deep_48 ?_
      refine lv_topi (fun y_9 ey_9 => ?_)
      have i_9 : y_9.toInt = 1 + r_7.toInt := ki_add ey_9 rfl rfl (om_454 w_7.1) (om_463 w_7.2)
      exact W.iret (v := y_9) hx hb hr (hlocks := hlocks) (fun t ht hW => ⟨y_9, rfl, (by (try dsimp only); omega), ht⟩) (fun q hq => by cases hq) dX5_deep_49
    · have i_8 : r_7.toInt < r_6.toInt := kc_nle c_8
      refine lv_iload hx hb dX5_deep_41 (lv_at hl 1 rfl) ?_
      refine lv_goto (tgt := 48) hx hb dX5_deep_43 (by decide) ?_
      refine lv_iadd hx hb dX5_deep_48 ?_
      refine lv_topi (fun y_10 ey_10 => ?_)
      have i_10 : y_10.toInt = 1 + r_6.toInt := ki_add ey_10 rfl rfl (om_454 w_6.1) (om_463 w_6.2)
      exact W.iret (v := y_10) hx hb hr (hlocks := hlocks) (fun t ht hW => ⟨y_10, rfl, (by (try dsimp only); omega), ht⟩) (fun q hq => by cases hq) dX5_deep_49
  · have i_2 : y_1.toInt < 2 := kc_nle c_2
    refine lv_iload_n hx hb dX5_deep_7 rfl (lv_at hl 2 rfl) ?_
    refine lv_iload_n hx hb dX5_deep_8 rfl (lv_at hl 1 rfl) ?_
    refine lv_isub hx hb dX5_deep_9 ?_
    refine lv_topi (fun y_11 ey_11 => ?_)
    have i_11 : y_11.toInt = p1.toInt - p0.toInt := ki_sub ey_11 rfl rfl (om_184 b1) (om_360 b3)
    exact W.iret (v := y_11) hx hb hr (hlocks := hlocks) (fun t ht hW => ⟨y_11, rfl, (by (try dsimp only); omega), ht⟩) (fun q hq => by cases hq) dX5_deep_10

set_option maxHeartbeats 4000000 in
set_option maxRecDepth 100000 in
theorem c_X5_nodesWithMajority (l : Launch) (dC : Nat → ClassId) (dI : Nat → Nat → Nat) (h0 : Nat) (g_row : Nat) (g_many : Nat) (g_loss : Nat) (g_less : Nat) (g_voteValue : Nat) (g_voteNumber : Nat) (g_allValue : Nat) (g_allNumber : Nat) (g_nodeL : Nat) (g_nodeR : Nat) (g_part : Nat) (g_wasMany : Nat) (g_wasLoss : Nat) (g_wasValue : Nat) (g_wasNumber : Nat) (g_path : Nat) (g_heavyValue : Nat) (g_heavyTimes : Nat) (g_fewest : Nat) (g_which : Nat) (g_met : Nat) (m_n : Int32) (m_slots : Int32) (m_thrown : Int32) (m_allMany : Int32) (m_nodes : Int32) (m_partMany : Int32) (m_pathMany : Int32) (m_heavyMany : Int32) (m_mostMet : Int32) (cyI : ClassId) (f : Nat → Int32) (nl : Nat → Int32) (nr : Nat → Int32) (b0 : 0 ≤ m_nodes.toInt) (b1 : m_nodes.toInt ≤ 319) (ok : nodesOk nl nr m_nodes.toInt) : Met l yX5_nodesWithMajority wsX5_nodesWithMajority ({ frames := 2, cells := 0, slots := 0, locals := 90 }) (va_Pc [.ref h0] (fun U => va_P (dC, dI) vwCl [kx_5 h0 g_row m_n m_slots m_thrown g_many g_loss g_less g_voteValue g_voteNumber g_allValue g_allNumber m_allMany g_nodeL g_nodeR m_nodes g_part m_partMany g_wasMany g_wasLoss g_wasValue g_wasNumber g_path m_pathMany g_heavyValue g_heavyTimes m_heavyMany g_fewest g_which g_met m_mostMet, kx_a g_row cyI 160 f, kx_a g_nodeL cyI 320 nl, kx_a g_nodeR cyI 320 nr] U.heap ∧ va_K (dC, dI) vwCl [(cyI, .int)] U)) (vp_Si (fun r : Int32 => True)) 0 0 (fun _ => False) := by
  refine kx_stS (ws := wsX5_nodesWithMajority) (cc := cX5_nodesWithMajority) (maxL := 3) (ret := (some .int)) (by decide) rfl (Nat.le_of_ble_eq_true rfl) ?_
  intro p e s m below meth c ls hx hb hr hlocks hts hown hml hP hK hl
  have hown : s.vm.findClass RX5 = some m.cls := hown
  have hl : lv_has ls 3 [(0, .ref h0)] := hl
  have hf_101 := hts (.fieldLink RX5 101 "MajorityIndexModel" "nodes" "I") (List.mem_of_getElem? (i := 1) rfl)
  have hi_5 : ∀ w ∈ u_ws RX5 TX5 30, w ∈ wsX5_nodesWithMajority := fun w h => List.mem_cons_of_mem _ (List.mem_append_right _ h)
  have hf_38 := hts (.fieldLink RX5 38 "MajorityIndexModel" "nodeL" "[I") (List.mem_of_getElem? (i := 2) rfl)
  have hf_41 := hts (.fieldLink RX5 41 "MajorityIndexModel" "nodeR" "[I") (List.mem_of_getElem? (i := 3) rfl)
  have hk_148 := hts (.constant RX5 148 (-40000)) (List.mem_of_getElem? (i := 4) rfl)
  refine lv_iconst (v := 0) hx hb dX5_nodesWithMajority_0 (by decide) ?_
  refine lv_istore_n (lv' := [(1, .int 0), (0, .ref h0)]) hx hb dX5_nodesWithMajority_1 rfl hl (by decide) rfl (fun ls hl => ?_)
  refine lv_iconst (v := 0) hx hb dX5_nodesWithMajority_2 (by decide) ?_
  refine lv_istore_n (lv' := [(2, .int 0), (1, .int 0), (0, .ref h0)]) hx hb dX5_nodesWithMajority_3 rfl hl (by decide) rfl (fun ls hl => ?_)
  have LP1 : ∀ (n : Nat) (i : Int32) (sm : Int32), (0 ≤ i.toInt) → (m_nodes.toInt - i.toInt).toNat < n → ∀ (ls : Array Slot), lv_has ls 3 [(2, .int i), (1, .int sm), (0, .ref h0)] → W p l e (headSpec wsX5_nodesWithMajority ({ frames := 2, cells := 0, slots := 0, locals := 90 })).room s m ([.ref h0] : List Value).toArray below meth c s.heap [] 0 0 (MQ below (vp_Si (fun r : Int32 => True)) ([.ref h0] : List Value).toArray s 0 0 (fun _ => False)) (F0 m 4 ls []) := by
    intro n
    induction n with
    | zero => intro i sm LP1_h0 hn; exact absurd hn (Nat.not_lt_zero _)
    | succ n ih1 =>
      intro i sm LP1_h0 hn1 ls hl
      refine lv_iload_n hx hb dX5_nodesWithMajority_4 rfl (lv_at hl 0 rfl) ?_
      refine lv_aload_n hx hb dX5_nodesWithMajority_5 rfl (lv_at hl 2 rfl) ?_
      refine va_get (D := (dC, dI)) (ci := 5) (v := .int m_nodes) (C := RX5) (T := TX5) (N := 30) hx hb hts hi_5 hown hK hP 0 rfl rfl 14 (by decide) hf_101 (fun _ h9 => h9) rfl dX5_nodesWithMajority_6 ?_
      refine lv_icmp_ge (tgt := 42) hx hb dX5_nodesWithMajority_9 (by decide) (fun c_1 => ?_) (fun c_1 => ?_)
      · have i_1 : m_nodes.toInt ≤ i.toInt := kc_le c_1
        refine lv_iload_n hx hb dX5_nodesWithMajority_42 rfl (lv_at hl 1 rfl) ?_
        exact W.iret (v := sm) hx hb hr (hlocks := hlocks) (fun t ht hW => ⟨sm, rfl, trivial, ht⟩) (fun q hq => by cases hq) dX5_nodesWithMajority_43
      · have i_1 : i.toInt < m_nodes.toInt := kc_nle c_1
        refine lv_aload_n hx hb dX5_nodesWithMajority_12 rfl (lv_at hl 2 rfl) ?_
        refine lv_aload_n hx hb dX5_nodesWithMajority_13 rfl (lv_at hl 2 rfl) ?_
        refine va_get (D := (dC, dI)) (ci := 5) (v := .ref g_nodeL) (C := RX5) (T := TX5) (N := 30) hx hb hts hi_5 hown hK hP 0 rfl rfl 12 (by decide) hf_38 (fun _ h9 => h9) rfl dX5_nodesWithMajority_14 ?_
        refine lv_iload_n hx hb dX5_nodesWithMajority_17 rfl (lv_at hl 0 rfl) ?_
        refine va_iald hx hb hK hP 2 0 rfl rfl (ki_in (om_10 LP1_h0) (om_425 b1 i_1)) dX5_nodesWithMajority_18 ?_
        refine lv_topi (fun y_2 ey_2 => ?_)
        have j_2 : y_2.toInt = (nl i.toNatClampNeg).toInt := congrArg Int32.toInt ey_2
        have n_3 : (i.toNatClampNeg : Int) = i.toInt := ki_nat _ rfl (om_10 LP1_h0)
        have i_4 := ok i.toNatClampNeg (by omega)
        refine lv_aload_n hx hb dX5_nodesWithMajority_19 rfl (lv_at hl 2 rfl) ?_
        refine va_get (D := (dC, dI)) (ci := 5) (v := .ref g_nodeR) (C := RX5) (T := TX5) (N := 30) hx hb hts hi_5 hown hK hP 0 rfl rfl 13 (by decide) hf_41 (fun _ h9 => h9) rfl dX5_nodesWithMajority_20 ?_
        refine lv_iload_n hx hb dX5_nodesWithMajority_23 rfl (lv_at hl 0 rfl) ?_
        refine va_iald hx hb hK hP 3 0 rfl rfl (ki_in (om_10 LP1_h0) (om_425 b1 i_1)) dX5_nodesWithMajority_24 ?_
        refine lv_topi (fun y_5 ey_5 => ?_)
        have j_5 : y_5.toInt = (nr i.toNatClampNeg).toInt := congrArg Int32.toInt ey_5
        have n_6 : (i.toNatClampNeg : Int) = i.toInt := ki_nat _ rfl (om_10 LP1_h0)
        have i_7 := ok i.toNatClampNeg (by omega)
        have hPc := hP.sub (ws' := [kx_5 h0 g_row m_n m_slots m_thrown g_many g_loss g_less g_voteValue g_voteNumber g_allValue g_allNumber m_allMany g_nodeL g_nodeR m_nodes g_part m_partMany g_wasMany g_wasLoss g_wasValue g_wasNumber g_path m_pathMany g_heavyValue g_heavyTimes m_heavyMany g_fewest g_which g_met m_mostMet, kx_a g_row cyI 160 f]) [0, 1] rfl
        have hKc := hK
        refine vp_callSi (W.runV (As := [.int y_2, .int y_5]) (rest := []) ⟨hx, hb, hml, hown, hts⟩ (c_X5_majorityOf_x l dC dI h0 g_row g_many g_loss g_less g_voteValue g_voteNumber g_allValue g_allNumber g_nodeL g_nodeR g_part g_wasMany g_wasLoss g_wasValue g_wasNumber g_path g_heavyValue g_heavyTimes g_fewest g_which g_met m_n m_slots m_thrown m_allMany m_nodes m_partMany m_pathMany m_heavyMany m_mostMet cyI f y_2 y_5 (by omega) (by omega) (by omega)) (cwV 2 hts gX5_nodesWithMajority_X5_majorityOf rfl rfl rfl (by decide +kernel) ⟨Nat.le_of_ble_eq_true rfl, Nat.le_of_ble_eq_true rfl⟩) ⟨fun a U g mk q => by obtain ⟨q0, qP, qK⟩ := q; exact ⟨q0, qP, va_K.moved (u := U) (U := U.calling g mk a) (Vm.Alike.refl U.vm) qK⟩, kx_rc5 hKc hPc (q0 := 0) rfl, fun U hU hW => ⟨rfl, by rw [hU]; exact hPc, va_K.moved hW.alike hKc⟩⟩ rfl rfl hl.1 rfl (lv_room (Nat.le_of_ble_eq_true rfl)) dX5_nodesWithMajority_25 ⟨Nat.le_of_ble_eq_true rfl, Nat.le_of_ble_eq_true rfl⟩) (fun r_8 w_8 => ?_)
        have w_8 : mj_maj f y_2.toNatClampNeg y_5.toNatClampNeg r_8 := w_8
        refine lv_ldc (v := (-40000)) hx hb hown hk_148 dX5_nodesWithMajority_28 ?_
        refine lv_icmp_eq (tgt := 36) hx hb dX5_nodesWithMajority_30 (by decide) (fun c_9 => ?_) (fun c_9 => ?_)
        · have i_9 : r_8.toInt = (-40000) := kc_eq c_9
          obtain ⟨x_10, ex_10⟩ : ∃ y : Int32, y = i + 1 := ⟨_, rfl⟩
          have i_10 : x_10.toInt = i.toInt + 1 := ki_add ex_10 rfl rfl (om_13 LP1_h0) (om_125 b1 i_1)
          refine lv_iinc (v := x_10) (lv' := [(2, .int x_10), (1, .int sm), (0, .ref h0)]) hx hb dX5_nodesWithMajority_36 hl (k := 0) rfl (by rw [ex_10]; rfl) (by decide) rfl (fun ls hl => ?_)
          refine lv_goto (tgt := 4) hx hb dX5_nodesWithMajority_39 (by decide) ?_
          exact ih1 x_10 sm (om_34 LP1_h0 i_10) (om_mu hn1 (om_5 i_10) (om_6 i_1)) ls (lv_sub hl [0, 1, 2] rfl)
        · have i_9 : ¬ r_8.toInt = (-40000) := kc_ne c_9
          obtain ⟨x_11, ex_11⟩ : ∃ y : Int32, y = sm + 1 := ⟨_, rfl⟩
          refine lv_iinc (v := x_11) (lv' := [(1, .int x_11), (2, .int i), (0, .ref h0)]) hx hb dX5_nodesWithMajority_33 hl (k := 1) rfl (by rw [ex_11]; rfl) (by decide) rfl (fun ls hl => ?_)
          obtain ⟨x_12, ex_12⟩ : ∃ y : Int32, y = i + 1 := ⟨_, rfl⟩
          have i_12 : x_12.toInt = i.toInt + 1 := ki_add ex_12 rfl rfl (om_13 LP1_h0) (om_125 b1 i_1)
          refine lv_iinc (v := x_12) (lv' := [(2, .int x_12), (1, .int x_11), (0, .ref h0)]) hx hb dX5_nodesWithMajority_36 hl (k := 1) rfl (by rw [ex_12]; rfl) (by decide) rfl (fun ls hl => ?_)
          refine lv_goto (tgt := 4) hx hb dX5_nodesWithMajority_39 (by decide) ?_
          exact ih1 x_12 x_11 (om_34 LP1_h0 i_12) (om_mu hn1 (om_5 i_12) (om_6 i_1)) ls (lv_sub hl [0, 1, 2] rfl)
  have k_13 : (0 : Int32).toInt = 0 := rfl
  have k_14 : (0 : Int32).toInt = 0 := rfl
  exact LP1 ((m_nodes.toInt - 0 : Int).toNat + 1) 0 0 om_35 (Nat.lt_succ_self _) ls (lv_sub hl [0, 1, 2] rfl)

set_option maxHeartbeats 4000000 in
set_option maxRecDepth 100000 in
theorem c_X5_told (l : Launch) (dC : Nat → ClassId) (dI : Nat → Nat → Nat) (h0 : Nat) (g_row : Nat) (g_many : Nat) (g_loss : Nat) (g_less : Nat) (g_voteValue : Nat) (g_voteNumber : Nat) (g_allValue : Nat) (g_allNumber : Nat) (g_nodeL : Nat) (g_nodeR : Nat) (g_part : Nat) (g_wasMany : Nat) (g_wasLoss : Nat) (g_wasValue : Nat) (g_wasNumber : Nat) (g_path : Nat) (g_heavyValue : Nat) (g_heavyTimes : Nat) (g_fewest : Nat) (g_which : Nat) (g_met : Nat) (m_n : Int32) (m_slots : Int32) (m_thrown : Int32) (m_allMany : Int32) (m_nodes : Int32) (m_partMany : Int32) (m_pathMany : Int32) (m_heavyMany : Int32) (m_mostMet : Int32) (cyI : ClassId) (fm : Nat → Int32) (fl : Nat → Int32) (fe : Nat → Int32) (vv : Nat → Int32) (vn : Nat → Int32) (f : Nat → Int32) (av : Nat → Int32) (an : Nat → Int32) (nl : Nat → Int32) (nr : Nat → Int32) (p0 : Int32) (sz : Nat) (a0 : 0 ≤ m_n.toInt) (a1 : m_n.toInt ≤ 160) (sl0 : 1 ≤ m_slots.toInt) (sl1 : m_slots.toInt ≤ 6) (s4 : six4 fm) : kx_MQ l (dC, dI) yX5_told wsX5_told ({ frames := 12, cells := 0, slots := 0, locals := 540 }) [.ref h0, .int p0] [kx_5 h0 g_row m_n m_slots m_thrown g_many g_loss g_less g_voteValue g_voteNumber g_allValue g_allNumber m_allMany g_nodeL g_nodeR m_nodes g_part m_partMany g_wasMany g_wasLoss g_wasValue g_wasNumber g_path m_pathMany g_heavyValue g_heavyTimes m_heavyMany g_fewest g_which g_met m_mostMet, kx_a g_row cyI 160 f, kx_a g_many cyI 324 fm, kx_a g_loss cyI 324 fl, kx_a g_less cyI 324 fe, kx_a g_voteValue cyI 1944 vv, kx_a g_voteNumber cyI 1944 vn, kx_a g_allValue cyI 12 av, kx_a g_allNumber cyI 12 an, kx_a g_nodeL cyI 320 nl, kx_a g_nodeR cyI 320 nr] [(cyI, .int)] sz (fun A => va_Qi (fun (r : Int32) (u : Int32 × Int32 × (Nat → Int32) × (Nat → Int32) × (Nat → Int32) × (Nat → Int32) × (Nat → Int32) × (Nat → Int32) × (Nat → Int32) × (Nat → Int32) × (Nat → Int32)) => six4 u.2.2.1) (fun (u : Int32 × Int32 × (Nat → Int32) × (Nat → Int32) × (Nat → Int32) × (Nat → Int32) × (Nat → Int32) × (Nat → Int32) × (Nat → Int32) × (Nat → Int32) × (Nat → Int32)) (t : State) => va_P (dC, dI) vwCl [kx_5 h0 g_row m_n m_slots 0 g_many g_loss g_less g_voteValue g_voteNumber g_allValue g_allNumber u.2.1 g_nodeL g_nodeR u.1 g_part m_partMany g_wasMany g_wasLoss g_wasValue g_wasNumber g_path m_pathMany g_heavyValue g_heavyTimes m_heavyMany g_fewest g_which g_met m_mostMet, kx_a g_row cyI 160 f, kx_a g_many cyI 324 u.2.2.1, kx_a g_loss cyI 324 u.2.2.2.1, kx_a g_less cyI 324 u.2.2.2.2.1, kx_a g_voteValue cyI 1944 u.2.2.2.2.2.1, kx_a g_voteNumber cyI 1944 u.2.2.2.2.2.2.1, kx_a g_allValue cyI 12 u.2.2.2.2.2.2.2.1, kx_a g_allNumber cyI 12 u.2.2.2.2.2.2.2.2.1, kx_a g_nodeL cyI 320 u.2.2.2.2.2.2.2.2.2.1, kx_a g_nodeR cyI 320 u.2.2.2.2.2.2.2.2.2.2] t.heap ∧ va_K (dC, dI) vwCl [(cyI, .int)] t ∧ va_D A [kx_5 h0 g_row m_n m_slots 0 g_many g_loss g_less g_voteValue g_voteNumber g_allValue g_allNumber u.2.1 g_nodeL g_nodeR u.1 g_part m_partMany g_wasMany g_wasLoss g_wasValue g_wasNumber g_path m_pathMany g_heavyValue g_heavyTimes m_heavyMany g_fewest g_which g_met m_mostMet, kx_a g_row cyI 160 f, kx_a g_many cyI 324 u.2.2.1, kx_a g_loss cyI 324 u.2.2.2.1, kx_a g_less cyI 324 u.2.2.2.2.1, kx_a g_voteValue cyI 1944 u.2.2.2.2.2.1, kx_a g_voteNumber cyI 1944 u.2.2.2.2.2.2.1, kx_a g_allValue cyI 12 u.2.2.2.2.2.2.2.1, kx_a g_allNumber cyI 12 u.2.2.2.2.2.2.2.2.1, kx_a g_nodeL cyI 320 u.2.2.2.2.2.2.2.2.2.1, kx_a g_nodeR cyI 320 u.2.2.2.2.2.2.2.2.2.2]) A) := by
  refine kx_stQ (ws := wsX5_told) (cc := cX5_told) (maxL := 4) (ret := (some .int)) (by decide) rfl (Nat.le_of_ble_eq_true rfl) ?_
  intro p e s m below meth c A ls hx hb hr hlocks hts hown hml hA hS hP hK hD hl
  have hown : s.vm.findClass RX5 = some m.cls := hown
  have hl : lv_has ls 4 [(0, .ref h0), (1, .int p0)] := hl
  have hf_77 := hts (.fieldLink RX5 77 "MajorityIndexModel" "thrown" "I") (List.mem_of_getElem? (i := 1) rfl)
  have hi_5 : ∀ w ∈ u_ws RX5 TX5 30, w ∈ wsX5_told := fun w h => List.mem_cons_of_mem _ (List.mem_append_right _ h)
  have hf_13 := hts (.fieldLink RX5 13 "MajorityIndexModel" "slots" "I") (List.mem_of_getElem? (i := 2) rfl)
  have hf_84 := hts (.fieldLink RX5 84 "MajorityIndexModel" "n" "I") (List.mem_of_getElem? (i := 3) rfl)
  have hf_101 := hts (.fieldLink RX5 101 "MajorityIndexModel" "nodes" "I") (List.mem_of_getElem? (i := 4) rfl)
  have hf_20 := hts (.fieldLink RX5 20 "MajorityIndexModel" "loss" "[I") (List.mem_of_getElem? (i := 5) rfl)
  refine lv_aload_n hx hb dX5_told_0 rfl (lv_at hl 0 rfl) ?_
  refine lv_iconst (v := 0) hx hb dX5_told_1 (by decide) ?_
  refine va_put (D := (dC, dI)) (ci := 5) (v := .int 0) (ty := .int) (C := RX5) (T := TX5) (N := 30) hx hb hts hi_5 tyX5 tyX5_ok nmX5 hown hK hP hD hS 0 rfl rfl 3 (by decide) hf_77 (fun _ h9 => h9) rfl (by decide +kernel) rfl rfl (Nat.le_of_ble_eq_true rfl) dX5_told_2 (fun H locs hP hD hS => ?_)
  obtain ⟨hP, hD⟩ := kx_re (w2 := [kx_5 h0 g_row m_n m_slots 0 g_many g_loss g_less g_voteValue g_voteNumber g_allValue g_allNumber m_allMany g_nodeL g_nodeR m_nodes g_part m_partMany g_wasMany g_wasLoss g_wasValue g_wasNumber g_path m_pathMany g_heavyValue g_heavyTimes m_heavyMany g_fewest g_which g_met m_mostMet, kx_a g_row cyI 160 f, kx_a g_many cyI 324 fm, kx_a g_loss cyI 324 fl, kx_a g_less cyI 324 fe, kx_a g_voteValue cyI 1944 vv, kx_a g_voteNumber cyI 1944 vn, kx_a g_allValue cyI 12 av, kx_a g_allNumber cyI 12 an, kx_a g_nodeL cyI 320 nl, kx_a g_nodeR cyI 320 nr]) hP hD rfl
  refine lv_aload_n hx hb dX5_told_5 rfl (lv_at hl 0 rfl) ?_
  refine lv_aload_n hx hb dX5_told_6 rfl (lv_at hl 0 rfl) ?_
  refine va_get (D := (dC, dI)) (ci := 5) (v := .int m_slots) (C := RX5) (T := TX5) (N := 30) hx hb hts hi_5 hown hK hP 0 rfl rfl 2 (by decide) hf_13 (fun _ h9 => h9) rfl dX5_told_7 ?_
  have hPc := hP
  have hKc := hK
  have hDc := hD
  have hFc := kx_free hD hS hA
  refine va_callv (va_runV (As := [.int m_slots]) (rest := []) ⟨hx, hb, hml, hown, hts⟩ (kx_un (c_X5_laysAll l dC dI h0 g_row g_many g_loss g_less g_voteValue g_voteNumber g_allValue g_allNumber g_nodeL g_nodeR g_part g_wasMany g_wasLoss g_wasValue g_wasNumber g_path g_heavyValue g_heavyTimes g_fewest g_which g_met m_n m_slots 0 m_allMany m_nodes m_partMany m_pathMany m_heavyMany m_mostMet cyI fm fl fe vv vn f av an nl nr m_slots H.size a0 a1 sl0 sl1 s4)) (cwV 1 hts gX5_told_X5_laysAll rfl rfl rfl (by decide +kernel) ⟨Nat.le_of_ble_eq_true rfl, Nat.le_of_ble_eq_true rfl⟩) ⟨fun a U g mk q => by obtain ⟨q0, q1, qP, qK, qD⟩ := q; exact ⟨q0, q1, qP, va_K.moved (u := U) (U := U.calling g mk a) (Vm.Alike.refl U.vm) qK, qD⟩, kx_rc5 hKc hPc (q0 := 0) rfl, fun U hU hW => ⟨rfl, by rw [hU], by rw [hU]; exact hPc, va_K.moved hW.alike hKc, hDc.weaken (fun _ _ _ _ => trivial)⟩⟩ rfl rfl hl.1 rfl (lv_room (Nat.le_of_ble_eq_true rfl)) dX5_told_10 ⟨Nat.le_of_ble_eq_true rfl, Nat.le_of_ble_eq_true rfl⟩) hS (fun q _ h => hFc q h) hFc (fun u t H1 locs ht hvm w_1 hB hz1 hk1 hS => ?_)
  obtain ⟨o_2, o_3, o_4, o_5, o_6, o_7, o_8, o_9, o_10, o_11, o_12⟩ := u
  dsimp only at w_1 hB
  obtain ⟨hP1, hK1, hD1⟩ := hB
  rw [ht] at hP1
  have hK1 := va_K.moved hvm.symm hK1
  have hD := hD1.weaken (fun _ q _ h => hFc q.1 h)
  have hP := hP1
  clear hP1 hD1 hK1 hk1 hz1 hFc hDc hPc hKc
  generalize H1 = H at hP hS ⊢
  have w_1 : mj_L m_slots.toNatClampNeg f o_11 o_12 o_4 o_5 o_6 o_7 o_8 m_n.toInt o_2.toInt ∧ six4 o_4 ∧ 0 ≤ o_2.toInt ∧ o_2.toInt ≤ 319 := w_1
  have hok : nodesOk o_11 o_12 o_2.toInt := fun k hk => by have := mj_L_ok w_1.1 k hk; omega
  refine lv_iload_n hx hb dX5_told_13 rfl (lv_at hl 1 rfl) ?_
  by_cases s_13 : p0.toInt = 0
  · refine lv_tableIn (tgt := 56) (off := 42) hx hb dX5_told_14 (om_161 s_13) (om_210 s_13) (by rw [s_13]; rfl) (by decide) ?_
    refine lv_aload_n hx hb dX5_told_56 rfl (lv_at hl 0 rfl) ?_
    refine va_get (D := (dC, dI)) (ci := 5) (v := .int m_n) (C := RX5) (T := TX5) (N := 30) hx hb hts hi_5 hown hK hP 0 rfl rfl 1 (by decide) hf_84 (fun _ h9 => h9) rfl dX5_told_57 ?_
    have hP9 := hP
    have hD9 := hD
    have hK9 := hK
    exact W.iret (v := m_n) hx hb hr (hlocks := hlocks) (fun t ht hW => ⟨⟨m_n, (o_2, o_3, o_4, o_5, o_6, o_7, o_8, o_9, o_10, o_11, o_12), rfl, w_1.2.1, by rw [ht]; exact hP9, va_K.moved hW.alike hK9, hD9⟩, hS.F ht⟩) hS.2.2 dX5_told_60
  by_cases s_14 : p0.toInt = 1
  · refine lv_tableIn (tgt := 61) (off := 47) hx hb dX5_told_14 (om_163 s_14) (om_211 s_14) (by rw [s_14]; rfl) (by decide) ?_
    refine lv_aload_n hx hb dX5_told_61 rfl (lv_at hl 0 rfl) ?_
    refine va_get (D := (dC, dI)) (ci := 5) (v := .int m_slots) (C := RX5) (T := TX5) (N := 30) hx hb hts hi_5 hown hK hP 0 rfl rfl 2 (by decide) hf_13 (fun _ h9 => h9) rfl dX5_told_62 ?_
    have hP9 := hP
    have hD9 := hD
    have hK9 := hK
    exact W.iret (v := m_slots) hx hb hr (hlocks := hlocks) (fun t ht hW => ⟨⟨m_slots, (o_2, o_3, o_4, o_5, o_6, o_7, o_8, o_9, o_10, o_11, o_12), rfl, w_1.2.1, by rw [ht]; exact hP9, va_K.moved hW.alike hK9, hD9⟩, hS.F ht⟩) hS.2.2 dX5_told_65
  by_cases s_15 : p0.toInt = 2
  · refine lv_tableIn (tgt := 66) (off := 52) hx hb dX5_told_14 (om_165 s_15) (om_212 s_15) (by rw [s_15]; rfl) (by decide) ?_
    refine lv_aload_n hx hb dX5_told_66 rfl (lv_at hl 0 rfl) ?_
    refine va_get (D := (dC, dI)) (ci := 5) (v := .int o_2) (C := RX5) (T := TX5) (N := 30) hx hb hts hi_5 hown hK hP 0 rfl rfl 14 (by decide) hf_101 (fun _ h9 => h9) rfl dX5_told_67 ?_
    have hP9 := hP
    have hD9 := hD
    have hK9 := hK
    exact W.iret (v := o_2) hx hb hr (hlocks := hlocks) (fun t ht hW => ⟨⟨o_2, (o_2, o_3, o_4, o_5, o_6, o_7, o_8, o_9, o_10, o_11, o_12), rfl, w_1.2.1, by rw [ht]; exact hP9, va_K.moved hW.alike hK9, hD9⟩, hS.F ht⟩) hS.2.2 dX5_told_70
  by_cases s_16 : p0.toInt = 3
  · refine lv_tableIn (tgt := 71) (off := 57) hx hb dX5_told_14 (om_213 s_16) (om_214 s_16) (by rw [s_16]; rfl) (by decide) ?_
    refine lv_aload_n hx hb dX5_told_71 rfl (lv_at hl 0 rfl) ?_
    have hPc := hP.sub (ws' := [kx_5 h0 g_row m_n m_slots 0 g_many g_loss g_less g_voteValue g_voteNumber g_allValue g_allNumber o_3 g_nodeL g_nodeR o_2 g_part m_partMany g_wasMany g_wasLoss g_wasValue g_wasNumber g_path m_pathMany g_heavyValue g_heavyTimes m_heavyMany g_fewest g_which g_met m_mostMet, kx_a g_row cyI 160 f, kx_a g_nodeL cyI 320 o_11, kx_a g_nodeR cyI 320 o_12]) [0, 1, 9, 10] rfl
    have hKc := hK
    refine vp_callSi (W.runV (As := []) (rest := []) ⟨hx, hb, hml, hown, hts⟩ (c_X5_nodesWithMajority l dC dI h0 g_row g_many g_loss g_less g_voteValue g_voteNumber g_allValue g_allNumber g_nodeL g_nodeR g_part g_wasMany g_wasLoss g_wasValue g_wasNumber g_path g_heavyValue g_heavyTimes g_fewest g_which g_met m_n m_slots 0 o_3 o_2 m_partMany m_pathMany m_heavyMany m_mostMet cyI f o_11 o_12 w_1.2.2.1 w_1.2.2.2 hok) (cwV 0 hts gX5_told_X5_nodesWithMajority rfl rfl rfl (by decide +kernel) ⟨Nat.le_of_ble_eq_true rfl, Nat.le_of_ble_eq_true rfl⟩) ⟨fun a U g mk q => by obtain ⟨q0, qP, qK⟩ := q; exact ⟨q0, qP, va_K.moved (u := U) (U := U.calling g mk a) (Vm.Alike.refl U.vm) qK⟩, kx_rc5 hKc hPc (q0 := 0) rfl, fun U hU hW => ⟨rfl, by rw [hU]; exact hPc, va_K.moved hW.alike hKc⟩⟩ rfl rfl hl.1 rfl (lv_room (Nat.le_of_ble_eq_true rfl)) dX5_told_72 ⟨Nat.le_of_ble_eq_true rfl, Nat.le_of_ble_eq_true rfl⟩) (fun r_17 w_17 => ?_)
    have hP9 := hP
    have hD9 := hD
    have hK9 := hK
    exact W.iret (v := r_17) hx hb hr (hlocks := hlocks) (fun t ht hW => ⟨⟨r_17, (o_2, o_3, o_4, o_5, o_6, o_7, o_8, o_9, o_10, o_11, o_12), rfl, w_1.2.1, by rw [ht]; exact hP9, va_K.moved hW.alike hK9, hD9⟩, hS.F ht⟩) hS.2.2 dX5_told_75
  by_cases s_18 : p0.toInt = 4
  · refine lv_tableIn (tgt := 76) (off := 62) hx hb dX5_told_14 (om_215 s_18) (om_216 s_18) (by rw [s_18]; rfl) (by decide) ?_
    refine lv_aload_n hx hb dX5_told_76 rfl (lv_at hl 0 rfl) ?_
    refine lv_iconst (v := 0) hx hb dX5_told_77 (by decide) ?_
    refine lv_aload_n hx hb dX5_told_78 rfl (lv_at hl 0 rfl) ?_
    refine va_get (D := (dC, dI)) (ci := 5) (v := .int m_n) (C := RX5) (T := TX5) (N := 30) hx hb hts hi_5 hown hK hP 0 rfl rfl 1 (by decide) hf_84 (fun _ h9 => h9) rfl dX5_told_79 ?_
    have hPc := hP.sub (ws' := [kx_5 h0 g_row m_n m_slots 0 g_many g_loss g_less g_voteValue g_voteNumber g_allValue g_allNumber o_3 g_nodeL g_nodeR o_2 g_part m_partMany g_wasMany g_wasLoss g_wasValue g_wasNumber g_path m_pathMany g_heavyValue g_heavyTimes m_heavyMany g_fewest g_which g_met m_mostMet]) [0] rfl
    have hKc := hK.sub (tys' := []) [] rfl
    have k_19 : (0 : Int32).toInt = 0 := rfl
    refine vp_callSi (W.runV (As := [.int 0, .int m_n]) (rest := []) ⟨hx, hb, hml, hown, hts⟩ (c_X5_deep_8 l dC dI h0 g_row g_many g_loss g_less g_voteValue g_voteNumber g_allValue g_allNumber g_nodeL g_nodeR g_part g_wasMany g_wasLoss g_wasValue g_wasNumber g_path g_heavyValue g_heavyTimes g_fewest g_which g_met m_n m_slots 0 o_3 o_2 m_partMany m_pathMany m_heavyMany m_mostMet 0 m_n om_35 a0 a1 (om_364 a1)) (cwV 2 hts gX5_told_X5_deep rfl rfl rfl (by decide +kernel) ⟨Nat.le_of_ble_eq_true rfl, Nat.le_of_ble_eq_true rfl⟩) ⟨fun a U g mk q => by obtain ⟨q0, qP, qK⟩ := q; exact ⟨q0, qP, va_K.moved (u := U) (U := U.calling g mk a) (Vm.Alike.refl U.vm) qK⟩, kx_rc5 hKc hPc (q0 := 0) rfl, fun U hU hW => ⟨rfl, by rw [hU]; exact hPc, va_K.moved hW.alike hKc⟩⟩ rfl rfl hl.1 rfl (lv_room (Nat.le_of_ble_eq_true rfl)) dX5_told_82 ⟨Nat.le_of_ble_eq_true rfl, Nat.le_of_ble_eq_true rfl⟩) (fun r_20 w_20 => ?_)
    have w_20 : 0 ≤ r_20.toInt ∧ r_20.toInt ≤ 9 := w_20
    have hP9 := hP
    have hD9 := hD
    have hK9 := hK
    exact W.iret (v := r_20) hx hb hr (hlocks := hlocks) (fun t ht hW => ⟨⟨r_20, (o_2, o_3, o_4, o_5, o_6, o_7, o_8, o_9, o_10, o_11, o_12), rfl, w_1.2.1, by rw [ht]; exact hP9, va_K.moved hW.alike hK9, hD9⟩, hS.F ht⟩) hS.2.2 dX5_told_85
  by_cases s_21 : p0.toInt = 5
  · refine lv_tableIn (tgt := 86) (off := 72) hx hb dX5_told_14 (om_217 s_21) (om_218 s_21) (by rw [s_21]; rfl) (by decide) ?_
    refine lv_aload_n hx hb dX5_told_86 rfl (lv_at hl 0 rfl) ?_
    refine va_get (D := (dC, dI)) (ci := 5) (v := .int m_n) (C := RX5) (T := TX5) (N := 30) hx hb hts hi_5 hown hK hP 0 rfl rfl 1 (by decide) hf_84 (fun _ h9 => h9) rfl dX5_told_87 ?_
    refine lv_if_ne (tgt := 97) hx hb dX5_told_90 (by decide) (fun c_22 => ?_) (fun c_22 => ?_)
    · have i_22 : ¬ m_n.toInt = 0 := kc_ne c_22
      refine lv_aload_n hx hb dX5_told_97 rfl (lv_at hl 0 rfl) ?_
      refine va_get (D := (dC, dI)) (ci := 5) (v := .ref g_loss) (C := RX5) (T := TX5) (N := 30) hx hb hts hi_5 hown hK hP 0 rfl rfl 5 (by decide) hf_20 (fun _ h9 => h9) rfl dX5_told_98 ?_
      refine lv_iconst (v := 0) hx hb dX5_told_101 (by decide) ?_
      refine va_iald hx hb hK hP 3 0 rfl rfl (ki_inl (by decide)) dX5_told_102 ?_
      refine lv_topi (fun y_23 ey_23 => ?_)
      have j_23 : y_23.toInt = (o_5 (0 : Int32).toNatClampNeg).toInt := congrArg Int32.toInt ey_23
      have hP9 := hP
      have hD9 := hD
      have hK9 := hK
      exact W.iret (v := y_23) hx hb hr (hlocks := hlocks) (fun t ht hW => ⟨⟨y_23, (o_2, o_3, o_4, o_5, o_6, o_7, o_8, o_9, o_10, o_11, o_12), rfl, w_1.2.1, by rw [ht]; exact hP9, va_K.moved hW.alike hK9, hD9⟩, hS.F ht⟩) hS.2.2 dX5_told_103
    · have i_22 : m_n.toInt = 0 := kc_eq c_22
      refine lv_iconst (v := 0) hx hb dX5_told_93 (by decide) ?_
      refine lv_goto (tgt := 103) hx hb dX5_told_94 (by decide) ?_
      have hP9 := hP
      have hD9 := hD
      have hK9 := hK
      exact W.iret (v := 0) hx hb hr (hlocks := hlocks) (fun t ht hW => ⟨⟨0, (o_2, o_3, o_4, o_5, o_6, o_7, o_8, o_9, o_10, o_11, o_12), rfl, w_1.2.1, by rw [ht]; exact hP9, va_K.moved hW.alike hK9, hD9⟩, hS.F ht⟩) hS.2.2 dX5_told_103
  by_cases s_24 : p0.toInt = 6
  · refine lv_tableIn (tgt := 104) (off := 90) hx hb dX5_told_14 (om_219 s_24) (om_220 s_24) (by rw [s_24]; rfl) (by decide) ?_
    refine lv_iconst (v := 0) hx hb dX5_told_104 (by decide) ?_
    refine lv_istore_n (lv' := [(2, .int 0), (0, .ref h0), (1, .int p0)]) hx hb dX5_told_105 rfl hl (by decide) rfl (fun ls hl => ?_)
    refine lv_iconst (v := 0) hx hb dX5_told_106 (by decide) ?_
    refine lv_istore_n (lv' := [(3, .int 0), (2, .int 0), (0, .ref h0), (1, .int p0)]) hx hb dX5_told_107 rfl hl (by decide) rfl (fun ls hl => ?_)
    have LP1 : ∀ (n : Nat) (i : Int32) (sm : Int32), (0 ≤ i.toInt) → (o_2.toInt - i.toInt).toNat < n → ∀ (H : Heap) (locs : List Loc), va_P (dC, dI) vwCl [kx_5 h0 g_row m_n m_slots 0 g_many g_loss g_less g_voteValue g_voteNumber g_allValue g_allNumber o_3 g_nodeL g_nodeR o_2 g_part m_partMany g_wasMany g_wasLoss g_wasValue g_wasNumber g_path m_pathMany g_heavyValue g_heavyTimes m_heavyMany g_fewest g_which g_met m_mostMet, kx_a g_row cyI 160 f, kx_a g_many cyI 324 o_4, kx_a g_loss cyI 324 o_5, kx_a g_less cyI 324 o_6, kx_a g_voteValue cyI 1944 o_7, kx_a g_voteNumber cyI 1944 o_8, kx_a g_allValue cyI 12 o_9, kx_a g_allNumber cyI 12 o_10, kx_a g_nodeL cyI 320 o_11, kx_a g_nodeR cyI 320 o_12] H → va_D A [kx_5 h0 g_row m_n m_slots 0 g_many g_loss g_less g_voteValue g_voteNumber g_allValue g_allNumber o_3 g_nodeL g_nodeR o_2 g_part m_partMany g_wasMany g_wasLoss g_wasValue g_wasNumber g_path m_pathMany g_heavyValue g_heavyTimes m_heavyMany g_fewest g_which g_met m_mostMet, kx_a g_row cyI 160 f, kx_a g_many cyI 324 o_4, kx_a g_loss cyI 324 o_5, kx_a g_less cyI 324 o_6, kx_a g_voteValue cyI 1944 o_7, kx_a g_voteNumber cyI 1944 o_8, kx_a g_allValue cyI 12 o_9, kx_a g_allNumber cyI 12 o_10, kx_a g_nodeL cyI 320 o_11, kx_a g_nodeR cyI 320 o_12] → va_S A s.heap H locs → ∀ (ls : Array Slot), lv_has ls 4 [(3, .int i), (2, .int sm), (0, .ref h0), (1, .int p0)] → W p l e (headSpec wsX5_told ({ frames := 12, cells := 0, slots := 0, locals := 540 })).room s m ([.ref h0, .int p0] : List Value).toArray below meth c H locs 0 0 (MQ below (va_Qi (fun (r : Int32) (u : Int32 × Int32 × (Nat → Int32) × (Nat → Int32) × (Nat → Int32) × (Nat → Int32) × (Nat → Int32) × (Nat → Int32) × (Nat → Int32) × (Nat → Int32) × (Nat → Int32)) => six4 u.2.2.1) (fun (u : Int32 × Int32 × (Nat → Int32) × (Nat → Int32) × (Nat → Int32) × (Nat → Int32) × (Nat → Int32) × (Nat → Int32) × (Nat → Int32) × (Nat → Int32) × (Nat → Int32)) (t : State) => va_P (dC, dI) vwCl [kx_5 h0 g_row m_n m_slots 0 g_many g_loss g_less g_voteValue g_voteNumber g_allValue g_allNumber u.2.1 g_nodeL g_nodeR u.1 g_part m_partMany g_wasMany g_wasLoss g_wasValue g_wasNumber g_path m_pathMany g_heavyValue g_heavyTimes m_heavyMany g_fewest g_which g_met m_mostMet, kx_a g_row cyI 160 f, kx_a g_many cyI 324 u.2.2.1, kx_a g_loss cyI 324 u.2.2.2.1, kx_a g_less cyI 324 u.2.2.2.2.1, kx_a g_voteValue cyI 1944 u.2.2.2.2.2.1, kx_a g_voteNumber cyI 1944 u.2.2.2.2.2.2.1, kx_a g_allValue cyI 12 u.2.2.2.2.2.2.2.1, kx_a g_allNumber cyI 12 u.2.2.2.2.2.2.2.2.1, kx_a g_nodeL cyI 320 u.2.2.2.2.2.2.2.2.2.1, kx_a g_nodeR cyI 320 u.2.2.2.2.2.2.2.2.2.2] t.heap ∧ va_K (dC, dI) vwCl [(cyI, .int)] t ∧ va_D A [kx_5 h0 g_row m_n m_slots 0 g_many g_loss g_less g_voteValue g_voteNumber g_allValue g_allNumber u.2.1 g_nodeL g_nodeR u.1 g_part m_partMany g_wasMany g_wasLoss g_wasValue g_wasNumber g_path m_pathMany g_heavyValue g_heavyTimes m_heavyMany g_fewest g_which g_met m_mostMet, kx_a g_row cyI 160 f, kx_a g_many cyI 324 u.2.2.1, kx_a g_loss cyI 324 u.2.2.2.1, kx_a g_less cyI 324 u.2.2.2.2.1, kx_a g_voteValue cyI 1944 u.2.2.2.2.2.1, kx_a g_voteNumber cyI 1944 u.2.2.2.2.2.2.1, kx_a g_allValue cyI 12 u.2.2.2.2.2.2.2.1, kx_a g_allNumber cyI 12 u.2.2.2.2.2.2.2.2.1, kx_a g_nodeL cyI 320 u.2.2.2.2.2.2.2.2.2.1, kx_a g_nodeR cyI 320 u.2.2.2.2.2.2.2.2.2.2]) A) ([.ref h0, .int p0] : List Value).toArray s 0 0 A) (F0 m 108 ls []) := by
      intro n
      induction n with
      | zero => intro i sm LP1_h0 hn; exact absurd hn (Nat.not_lt_zero _)
      | succ n ih1 =>
        intro i sm LP1_h0 hn1 H locs hP hD hS ls hl
        refine lv_iload_n hx hb dX5_told_108 rfl (lv_at hl 0 rfl) ?_
        refine lv_aload_n hx hb dX5_told_109 rfl (lv_at hl 2 rfl) ?_
        refine va_get (D := (dC, dI)) (ci := 5) (v := .int o_2) (C := RX5) (T := TX5) (N := 30) hx hb hts hi_5 hown hK hP 0 rfl rfl 14 (by decide) hf_101 (fun _ h9 => h9) rfl dX5_told_110 ?_
        refine lv_icmp_ge (tgt := 131) hx hb dX5_told_113 (by decide) (fun c_25 => ?_) (fun c_25 => ?_)
        · have i_25 : o_2.toInt ≤ i.toInt := kc_le c_25
          refine lv_iload_n hx hb dX5_told_131 rfl (lv_at hl 1 rfl) ?_
          have hP9 := hP
          have hD9 := hD
          have hK9 := hK
          exact W.iret (v := sm) hx hb hr (hlocks := hlocks) (fun t ht hW => ⟨⟨sm, (o_2, o_3, o_4, o_5, o_6, o_7, o_8, o_9, o_10, o_11, o_12), rfl, w_1.2.1, by rw [ht]; exact hP9, va_K.moved hW.alike hK9, hD9⟩, hS.F ht⟩) hS.2.2 dX5_told_132
        · have i_25 : i.toInt < o_2.toInt := kc_nle c_25
          refine lv_iload_n hx hb dX5_told_116 rfl (lv_at hl 1 rfl) ?_
          refine lv_aload_n hx hb dX5_told_117 rfl (lv_at hl 2 rfl) ?_
          refine va_get (D := (dC, dI)) (ci := 5) (v := .ref g_loss) (C := RX5) (T := TX5) (N := 30) hx hb hts hi_5 hown hK hP 0 rfl rfl 5 (by decide) hf_20 (fun _ h9 => h9) rfl dX5_told_118 ?_
          refine lv_iload_n hx hb dX5_told_121 rfl (lv_at hl 0 rfl) ?_
          refine va_iald hx hb hK hP 3 0 rfl rfl (ki_in (om_10 LP1_h0) (om_424 w_1.2.2.2 i_25)) dX5_told_122 ?_
          refine lv_topi (fun y_26 ey_26 => ?_)
          have j_26 : y_26.toInt = (o_5 i.toNatClampNeg).toInt := congrArg Int32.toInt ey_26
          refine lv_iadd hx hb dX5_told_123 ?_
          refine lv_topi (fun y_27 ey_27 => ?_)
          refine lv_istore_n (lv' := [(2, .int y_27), (3, .int i), (0, .ref h0), (1, .int p0)]) hx hb dX5_told_124 rfl hl (by decide) rfl (fun ls hl => ?_)
          obtain ⟨x_28, ex_28⟩ : ∃ y : Int32, y = i + 1 := ⟨_, rfl⟩
          have i_28 : x_28.toInt = i.toInt + 1 := ki_add ex_28 rfl rfl (om_13 LP1_h0) (om_125 w_1.2.2.2 i_25)
          refine lv_iinc (v := x_28) (lv' := [(3, .int x_28), (2, .int y_27), (0, .ref h0), (1, .int p0)]) hx hb dX5_told_125 hl (k := 1) rfl (by rw [ex_28]; rfl) (by decide) rfl (fun ls hl => ?_)
          refine lv_goto (tgt := 108) hx hb dX5_told_128 (by decide) ?_
          exact ih1 x_28 y_27 (om_34 LP1_h0 i_28) (om_mu hn1 (om_5 i_28) (om_6 i_25)) _ _ hP hD hS ls (lv_sub hl [0, 1, 2, 3] rfl)
    have k_29 : (0 : Int32).toInt = 0 := rfl
    have k_30 : (0 : Int32).toInt = 0 := rfl
    exact LP1 ((o_2.toInt - 0 : Int).toNat + 1) 0 0 om_35 (Nat.lt_succ_self _) _ _ hP hD hS ls (lv_sub hl [0, 1, 2, 3] rfl)
  refine lv_tableOut (tgt := 133) hx hb dX5_told_14 (by omega) (by decide) ?_
  refine lv_iconst (v := (-1)) hx hb dX5_told_133 (by decide) ?_
  have hP9 := hP
  have hD9 := hD
  have hK9 := hK
  exact W.iret (v := (-1)) hx hb hr (hlocks := hlocks) (fun t ht hW => ⟨⟨(-1), (o_2, o_3, o_4, o_5, o_6, o_7, o_8, o_9, o_10, o_11, o_12), rfl, w_1.2.1, by rw [ht]; exact hP9, va_K.moved hW.alike hK9, hD9⟩, hS.F ht⟩) hS.2.2 dX5_told_134



def mj_feed (f : Nat → Int32) (n : Nat) (a b : Int32) : Nat → Int32 := upd (upd (upd (upd f n (a >>> (16 &&& 31))) (n + 1) a.toInt16.toInt32) (n + 2) (b >>> (16 &&& 31))) (n + 3) b.toInt16.toInt32
theorem ki_short {x : Int32} (h1 : -32768 ≤ x.toInt) (h2 : x.toInt ≤ 32767) : x.toInt16.toInt32 = x := by
  apply Int32.toInt_inj.mp
  rw [Int16.toInt_toInt32, Int32.toInt_toInt16]
  exact Int.bmod_eq_of_le (by omega) (by omega)
theorem ki_short16 (x : Int32) : (x >>> (16 &&& 31)).toInt16.toInt32 = x >>> (16 &&& 31) := ki_short (ki_shr16 x).1 (ki_shr16 x).2
theorem shorts_feed {f : Nat → Int32} {n : Nat} (a b : Int32) (h : shorts f) : shorts (mj_feed f n a b) :=
  shorts_upd (shorts_upd (shorts_upd (shorts_upd h (ki_shr16 a).1 (ki_shr16 a).2) (ki_i2s a).1 (ki_i2s a).2) (ki_shr16 b).1 (ki_shr16 b).2) (ki_i2s b).1 (ki_i2s b).2
theorem mj_fill_one (f : Nat → Int32) {l r : Nat} (v : Int32) (h : r = l + 1) : mj_fill f l r v = upd f l v := by
  subst h
  rw [← mj_fill_step (Nat.le_refl l) rfl, mj_fill_0 f v (Nat.le_refl l)]
set_option maxHeartbeats 4000000 in
set_option maxRecDepth 100000 in
theorem c_X4_feed_x (l : Launch) (dC : Nat → ClassId) (dI : Nat → Nat → Nat) (m_ : Nat) (q_row : Nat) (q_t : Nat) (t_ : Nat) (h0 : Nat) (k0 : Nat) (w_ : Nat) (z_ : Nat) (slots : Int32) (old : Int32) (q_cell : Nat) (cyI : ClassId) (len : Int32) (f : Nat → Int32) (p0 : Int32) (p1 : Int32) (sz : Nat) (a0 : 0 ≤ len.toInt) (a1 : len.toInt ≤ 160) (s1 : shorts f) : kx_MQ l (dC, dI) yX4_feed wsX4_feed ({ frames := 1, cells := 0, slots := 0, locals := 45 }) [.ref m_, .int p0, .int p1] [kx_4 m_ q_row q_t t_ h0 k0 w_ z_ slots old, kx_0 q_row q_cell len, kx_a q_cell cyI 160 f] [(cyI, .int)] sz (fun A => va_Qi (fun (r : Int32) (u : Int32 × Int32 × (Nat → Int32)) => ((len.toInt ≤ 156 ∧ r.toInt = len.toInt + 4 ∧ u.2.1.toInt = len.toInt + 4 ∧ u.2.2 = mj_feed f len.toNatClampNeg p0 p1 ∧ u.1 = 1) ∨ (156 < len.toInt ∧ r.toInt = -1 ∧ u.2.1 = len ∧ u.2.2 = f ∧ u.1 = old)) ∧ shorts u.2.2) (fun (u : Int32 × Int32 × (Nat → Int32)) (t : State) => va_P (dC, dI) vwCl [kx_4 m_ q_row q_t t_ h0 k0 w_ z_ slots u.1, kx_0 q_row q_cell u.2.1, kx_a q_cell cyI 160 u.2.2] t.heap ∧ va_K (dC, dI) vwCl [(cyI, .int)] t ∧ va_D A [kx_4 m_ q_row q_t t_ h0 k0 w_ z_ slots u.1, kx_0 q_row q_cell u.2.1, kx_a q_cell cyI 160 u.2.2]) A) := by
  refine kx_stQ (ws := wsX4_feed) (cc := cX4_feed) (maxL := 3) (ret := (some .int)) (by decide) rfl (Nat.le_of_ble_eq_true rfl) ?_
  intro p e s m below meth c A ls hx hb hr hlocks hts hown hml hA hS hP hK hD hl
  have hown : s.vm.findClass RX4 = some m.cls := hown
  have hl : lv_has ls 3 [(0, .ref m_), (1, .int p0), (2, .int p1)] := hl
  have hf_12 := hts (.fieldLink RX4 12 "MajorityIndex" "row" "LMajorityIndex$Row;") (List.mem_of_getElem? (i := 1) rfl)
  have hi_4 : ∀ w ∈ u_ws RX4 TX4 9, w ∈ wsX4_feed := fun w h => List.mem_cons_of_mem _ (List.mem_append_left _ (List.mem_append_right _ h))
  have hf_57 := hts (.fieldLink RX4 57 "MajorityIndex$Row" "length" "I") (List.mem_of_getElem? (i := 2) rfl)
  have hi_0 : ∀ w ∈ u_ws RX0 TX0 2, w ∈ wsX4_feed := fun w h => List.mem_cons_of_mem _ (List.mem_append_right _ h)
  have hf_53 := hts (.fieldLink RX4 53 "MajorityIndex" "treeIsOld" "Z") (List.mem_of_getElem? (i := 3) rfl)
  refine lv_aload_n hx hb dX4_feed_0 rfl (lv_at hl 0 rfl) ?_
  refine va_get (D := (dC, dI)) (ci := 4) (v := .ref q_row) (C := RX4) (T := TX4) (N := 9) hx hb hts hi_4 hown hK hP 0 rfl rfl 0 (by decide) hf_12 (fun _ h9 => h9) rfl dX4_feed_1 ?_
  refine va_get (D := (dC, dI)) (ci := 0) (v := .int len) (C := RX0) (T := TX0) (N := 2) hx hb hts hi_0 hown hK hP 1 rfl rfl 1 (by decide) hf_57 (fun _ h9 => h9) rfl dX4_feed_4 ?_
  refine lv_iconst (v := 4) hx hb dX4_feed_7 (by decide) ?_
  refine lv_iadd hx hb dX4_feed_8 ?_
  refine lv_topi (fun y_1 ey_1 => ?_)
  have i_1 : y_1.toInt = len.toInt + 4 := ki_add ey_1 rfl rfl (om_153 a0) (om_154 a1)
  refine lv_sipush (v := 160) hx hb dX4_feed_9 (by decide) ?_
  refine lv_icmp_le (tgt := 17) hx hb dX4_feed_12 (by decide) (fun c_2 => ?_) (fun c_2 => ?_)
  · have i_2 : y_1.toInt ≤ 160 := kc_le c_2
    refine lv_aload_n hx hb dX4_feed_17 rfl (lv_at hl 0 rfl) ?_
    refine va_get (D := (dC, dI)) (ci := 4) (v := .ref q_row) (C := RX4) (T := TX4) (N := 9) hx hb hts hi_4 hown hK hP 0 rfl rfl 0 (by decide) hf_12 (fun _ h9 => h9) rfl dX4_feed_18 ?_
    refine lv_iload_n hx hb dX4_feed_21 rfl (lv_at hl 1 rfl) ?_
    refine lv_bipush (v := 16) hx hb dX4_feed_22 (by decide) ?_
    refine lv_ishr hx hb dX4_feed_24 ?_
    obtain ⟨hPc, hDc, hFc, hCc⟩ := kx_preM (wc := [kx_0 q_row q_cell len, kx_a q_cell cyI 160 f]) hP hD hS hA [false, true, true] rfl
    have hKc := hK
    refine va_callv (va_runV (As := [.int (p0 >>> (16 &&& 31))]) (rest := []) ⟨hx, hb, hml, hown, hts⟩ (kx_un (c_X0_append l dC dI q_row q_cell cyI len f (p0 >>> (16 &&& 31)) s.heap.size a0 (om_155 a1 i_1 i_2))) (cwV 1 hts gX4_feed_X0_append rfl rfl rfl (by decide +kernel) ⟨Nat.le_of_ble_eq_true rfl, Nat.le_of_ble_eq_true rfl⟩) ⟨fun a U g mk q => by obtain ⟨q0, q1, qP, qK, qD⟩ := q; exact ⟨q0, q1, qP, va_K.moved (u := U) (U := U.calling g mk a) (Vm.Alike.refl U.vm) qK, qD⟩, kx_rc0 hKc hPc (q0 := 0) rfl, fun U hU hW => ⟨rfl, by rw [hU], by rw [hU]; exact hPc, va_K.moved hW.alike hKc, hDc.weaken (fun _ _ _ _ => trivial)⟩⟩ rfl rfl hl.1 rfl (lv_room (Nat.le_of_ble_eq_true rfl)) dX4_feed_25 ⟨Nat.le_of_ble_eq_true rfl, Nat.le_of_ble_eq_true rfl⟩) hS (fun q _ h => hFc q h) hFc (fun u t H1 locs ht hvm w_3 hB hz1 hk1 hS => ?_)
    obtain ⟨o_4, rfl⟩ : ∃ z, z = u := ⟨_, rfl⟩
    obtain ⟨hP1, hK1, hD1⟩ := hB
    rw [ht] at hP1
    have hK1 := va_K.moved hvm.symm hK1
    obtain ⟨hP, hD⟩ := kx_joinM (w2 := [kx_4 m_ q_row q_t t_ h0 k0 w_ z_ slots old, kx_0 q_row q_cell o_4, kx_a q_cell cyI 160 (upd f len.toNatClampNeg (p0 >>> (16 &&& 31)))]) hP hD hP1 hD1 hk1 hFc [false, true, true] hCc rfl
    clear hP1 hD1 hK1 hk1 hz1 hFc hDc hPc hKc hCc
    generalize H1 = H at hP hS ⊢
    have w_3 : o_4.toInt = len.toInt + 1 := w_3
    refine lv_aload_n hx hb dX4_feed_28 rfl (lv_at hl 0 rfl) ?_
    refine va_get (D := (dC, dI)) (ci := 4) (v := .ref q_row) (C := RX4) (T := TX4) (N := 9) hx hb hts hi_4 hown hK hP 0 rfl rfl 0 (by decide) hf_12 (fun _ h9 => h9) rfl dX4_feed_29 ?_
    refine lv_iload_n hx hb dX4_feed_32 rfl (lv_at hl 1 rfl) ?_
    refine lv_i2s hx hb dX4_feed_33 rfl ?_
    obtain ⟨hPc, hDc, hFc, hCc⟩ := kx_preM (wc := [kx_0 q_row q_cell o_4, kx_a q_cell cyI 160 (upd f len.toNatClampNeg (p0 >>> (16 &&& 31)))]) hP hD hS hA [false, true, true] rfl
    have hKc := hK
    refine va_callv (va_runV (As := [.int p0.toInt16.toInt32]) (rest := []) ⟨hx, hb, hml, hown, hts⟩ (kx_un (c_X0_append l dC dI q_row q_cell cyI o_4 (upd f len.toNatClampNeg (p0 >>> (16 &&& 31))) p0.toInt16.toInt32 H.size (om_34 a0 w_3) (om_156 a1 i_1 i_2 w_3))) (cwV 1 hts gX4_feed_X0_append rfl rfl rfl (by decide +kernel) ⟨Nat.le_of_ble_eq_true rfl, Nat.le_of_ble_eq_true rfl⟩) ⟨fun a U g mk q => by obtain ⟨q0, q1, qP, qK, qD⟩ := q; exact ⟨q0, q1, qP, va_K.moved (u := U) (U := U.calling g mk a) (Vm.Alike.refl U.vm) qK, qD⟩, kx_rc0 hKc hPc (q0 := 0) rfl, fun U hU hW => ⟨rfl, by rw [hU], by rw [hU]; exact hPc, va_K.moved hW.alike hKc, hDc.weaken (fun _ _ _ _ => trivial)⟩⟩ rfl rfl hl.1 rfl (lv_room (Nat.le_of_ble_eq_true rfl)) dX4_feed_34 ⟨Nat.le_of_ble_eq_true rfl, Nat.le_of_ble_eq_true rfl⟩) hS (fun q _ h => hFc q h) hFc (fun u t H1 locs ht hvm w_5 hB hz1 hk1 hS => ?_)
    obtain ⟨o_6, rfl⟩ : ∃ z, z = u := ⟨_, rfl⟩
    obtain ⟨hP1, hK1, hD1⟩ := hB
    rw [ht] at hP1
    have hK1 := va_K.moved hvm.symm hK1
    obtain ⟨hP, hD⟩ := kx_joinM (w2 := [kx_4 m_ q_row q_t t_ h0 k0 w_ z_ slots old, kx_0 q_row q_cell o_6, kx_a q_cell cyI 160 (upd (upd f len.toNatClampNeg (p0 >>> (16 &&& 31))) o_4.toNatClampNeg p0.toInt16.toInt32)]) hP hD hP1 hD1 hk1 hFc [false, true, true] hCc rfl
    clear hP1 hD1 hK1 hk1 hz1 hFc hDc hPc hKc hCc
    generalize H1 = H at hP hS ⊢
    have w_5 : o_6.toInt = o_4.toInt + 1 := w_5
    refine lv_aload_n hx hb dX4_feed_37 rfl (lv_at hl 0 rfl) ?_
    refine va_get (D := (dC, dI)) (ci := 4) (v := .ref q_row) (C := RX4) (T := TX4) (N := 9) hx hb hts hi_4 hown hK hP 0 rfl rfl 0 (by decide) hf_12 (fun _ h9 => h9) rfl dX4_feed_38 ?_
    refine lv_iload_n hx hb dX4_feed_41 rfl (lv_at hl 2 rfl) ?_
    refine lv_bipush (v := 16) hx hb dX4_feed_42 (by decide) ?_
    refine lv_ishr hx hb dX4_feed_44 ?_
    obtain ⟨hPc, hDc, hFc, hCc⟩ := kx_preM (wc := [kx_0 q_row q_cell o_6, kx_a q_cell cyI 160 (upd (upd f len.toNatClampNeg (p0 >>> (16 &&& 31))) o_4.toNatClampNeg p0.toInt16.toInt32)]) hP hD hS hA [false, true, true] rfl
    have hKc := hK
    refine va_callv (va_runV (As := [.int (p1 >>> (16 &&& 31))]) (rest := []) ⟨hx, hb, hml, hown, hts⟩ (kx_un (c_X0_append l dC dI q_row q_cell cyI o_6 (upd (upd f len.toNatClampNeg (p0 >>> (16 &&& 31))) o_4.toNatClampNeg p0.toInt16.toInt32) (p1 >>> (16 &&& 31)) H.size (om_157 a0 w_3 w_5) (om_158 a1 i_1 i_2 w_3 w_5))) (cwV 1 hts gX4_feed_X0_append rfl rfl rfl (by decide +kernel) ⟨Nat.le_of_ble_eq_true rfl, Nat.le_of_ble_eq_true rfl⟩) ⟨fun a U g mk q => by obtain ⟨q0, q1, qP, qK, qD⟩ := q; exact ⟨q0, q1, qP, va_K.moved (u := U) (U := U.calling g mk a) (Vm.Alike.refl U.vm) qK, qD⟩, kx_rc0 hKc hPc (q0 := 0) rfl, fun U hU hW => ⟨rfl, by rw [hU], by rw [hU]; exact hPc, va_K.moved hW.alike hKc, hDc.weaken (fun _ _ _ _ => trivial)⟩⟩ rfl rfl hl.1 rfl (lv_room (Nat.le_of_ble_eq_true rfl)) dX4_feed_45 ⟨Nat.le_of_ble_eq_true rfl, Nat.le_of_ble_eq_true rfl⟩) hS (fun q _ h => hFc q h) hFc (fun u t H1 locs ht hvm w_7 hB hz1 hk1 hS => ?_)
    obtain ⟨o_8, rfl⟩ : ∃ z, z = u := ⟨_, rfl⟩
    obtain ⟨hP1, hK1, hD1⟩ := hB
    rw [ht] at hP1
    have hK1 := va_K.moved hvm.symm hK1
    obtain ⟨hP, hD⟩ := kx_joinM (w2 := [kx_4 m_ q_row q_t t_ h0 k0 w_ z_ slots old, kx_0 q_row q_cell o_8, kx_a q_cell cyI 160 (upd (upd (upd f len.toNatClampNeg (p0 >>> (16 &&& 31))) o_4.toNatClampNeg p0.toInt16.toInt32) o_6.toNatClampNeg (p1 >>> (16 &&& 31)))]) hP hD hP1 hD1 hk1 hFc [false, true, true] hCc rfl
    clear hP1 hD1 hK1 hk1 hz1 hFc hDc hPc hKc hCc
    generalize H1 = H at hP hS ⊢
    have w_7 : o_8.toInt = o_6.toInt + 1 := w_7
    refine lv_aload_n hx hb dX4_feed_48 rfl (lv_at hl 0 rfl) ?_
    refine va_get (D := (dC, dI)) (ci := 4) (v := .ref q_row) (C := RX4) (T := TX4) (N := 9) hx hb hts hi_4 hown hK hP 0 rfl rfl 0 (by decide) hf_12 (fun _ h9 => h9) rfl dX4_feed_49 ?_
    refine lv_iload_n hx hb dX4_feed_52 rfl (lv_at hl 2 rfl) ?_
    refine lv_i2s hx hb dX4_feed_53 rfl ?_
    obtain ⟨hPc, hDc, hFc, hCc⟩ := kx_preM (wc := [kx_0 q_row q_cell o_8, kx_a q_cell cyI 160 (upd (upd (upd f len.toNatClampNeg (p0 >>> (16 &&& 31))) o_4.toNatClampNeg p0.toInt16.toInt32) o_6.toNatClampNeg (p1 >>> (16 &&& 31)))]) hP hD hS hA [false, true, true] rfl
    have hKc := hK
    refine va_callv (va_runV (As := [.int p1.toInt16.toInt32]) (rest := []) ⟨hx, hb, hml, hown, hts⟩ (kx_un (c_X0_append l dC dI q_row q_cell cyI o_8 (upd (upd (upd f len.toNatClampNeg (p0 >>> (16 &&& 31))) o_4.toNatClampNeg p0.toInt16.toInt32) o_6.toNatClampNeg (p1 >>> (16 &&& 31))) p1.toInt16.toInt32 H.size (om_159 a0 w_3 w_5 w_7) (om_160 i_1 i_2 w_3 w_5 w_7))) (cwV 1 hts gX4_feed_X0_append rfl rfl rfl (by decide +kernel) ⟨Nat.le_of_ble_eq_true rfl, Nat.le_of_ble_eq_true rfl⟩) ⟨fun a U g mk q => by obtain ⟨q0, q1, qP, qK, qD⟩ := q; exact ⟨q0, q1, qP, va_K.moved (u := U) (U := U.calling g mk a) (Vm.Alike.refl U.vm) qK, qD⟩, kx_rc0 hKc hPc (q0 := 0) rfl, fun U hU hW => ⟨rfl, by rw [hU], by rw [hU]; exact hPc, va_K.moved hW.alike hKc, hDc.weaken (fun _ _ _ _ => trivial)⟩⟩ rfl rfl hl.1 rfl (lv_room (Nat.le_of_ble_eq_true rfl)) dX4_feed_54 ⟨Nat.le_of_ble_eq_true rfl, Nat.le_of_ble_eq_true rfl⟩) hS (fun q _ h => hFc q h) hFc (fun u t H1 locs ht hvm w_9 hB hz1 hk1 hS => ?_)
    obtain ⟨o_10, rfl⟩ : ∃ z, z = u := ⟨_, rfl⟩
    obtain ⟨hP1, hK1, hD1⟩ := hB
    rw [ht] at hP1
    have hK1 := va_K.moved hvm.symm hK1
    obtain ⟨hP, hD⟩ := kx_joinM (w2 := [kx_4 m_ q_row q_t t_ h0 k0 w_ z_ slots old, kx_0 q_row q_cell o_10, kx_a q_cell cyI 160 (upd (upd (upd (upd f len.toNatClampNeg (p0 >>> (16 &&& 31))) o_4.toNatClampNeg p0.toInt16.toInt32) o_6.toNatClampNeg (p1 >>> (16 &&& 31))) o_8.toNatClampNeg p1.toInt16.toInt32)]) hP hD hP1 hD1 hk1 hFc [false, true, true] hCc rfl
    clear hP1 hD1 hK1 hk1 hz1 hFc hDc hPc hKc hCc
    generalize H1 = H at hP hS ⊢
    have w_9 : o_10.toInt = o_8.toInt + 1 := w_9
    refine lv_aload_n hx hb dX4_feed_57 rfl (lv_at hl 0 rfl) ?_
    refine lv_iconst (v := 1) hx hb dX4_feed_58 (by decide) ?_
    refine va_put (D := (dC, dI)) (ci := 4) (v := .int 1) (ty := .boolean) (C := RX4) (T := TX4) (N := 9) hx hb hts hi_4 tyX4 tyX4_ok nmX4 hown hK hP hD hS 0 rfl rfl 8 (by decide) hf_53 (fun _ h9 => h9) rfl (by decide +kernel) (by decide) (by decide) (Nat.le_of_ble_eq_true rfl) dX4_feed_59 (fun H locs hP hD hS => ?_)
    obtain ⟨hP, hD⟩ := kx_re (w2 := [kx_4 m_ q_row q_t t_ h0 k0 w_ z_ slots 1, kx_0 q_row q_cell o_10, kx_a q_cell cyI 160 (upd (upd (upd (upd f len.toNatClampNeg (p0 >>> (16 &&& 31))) o_4.toNatClampNeg p0.toInt16.toInt32) o_6.toNatClampNeg (p1 >>> (16 &&& 31))) o_8.toNatClampNeg p1.toInt16.toInt32)]) hP hD rfl
    refine lv_aload_n hx hb dX4_feed_62 rfl (lv_at hl 0 rfl) ?_
    refine va_get (D := (dC, dI)) (ci := 4) (v := .ref q_row) (C := RX4) (T := TX4) (N := 9) hx hb hts hi_4 hown hK hP 0 rfl rfl 0 (by decide) hf_12 (fun _ h9 => h9) rfl dX4_feed_63 ?_
    refine va_get (D := (dC, dI)) (ci := 0) (v := .int o_10) (C := RX0) (T := TX0) (N := 2) hx hb hts hi_0 hown hK hP 1 rfl rfl 1 (by decide) hf_57 (fun _ h9 => h9) rfl dX4_feed_66 ?_
    have hP9 := hP
    have hD9 := hD
    have hK9 := hK
    have n_l := ki_nat len rfl (om_10 a0)
    have n_11 := ki_nat o_4 rfl (om_34 a0 w_3)
    have n_12 := ki_nat o_6 rfl (om_157 a0 w_3 w_5)
    have n_13 := ki_nat o_8 rfl (om_159 a0 w_3 w_5 w_7)
    have n_14 := ki_nat o_10 rfl (om_464 a0 w_3 w_5 w_7 w_9)
    have e_f : upd (upd (upd (upd f len.toNatClampNeg (p0 >>> (16 &&& 31))) o_4.toNatClampNeg p0.toInt16.toInt32) o_6.toNatClampNeg (p1 >>> (16 &&& 31))) o_8.toNatClampNeg p1.toInt16.toInt32 = mj_feed f len.toNatClampNeg p0 p1 := by
      rw [show o_4.toNatClampNeg = len.toNatClampNeg + 1 by omega, show o_6.toNatClampNeg = len.toNatClampNeg + 2 by omega, show o_8.toNatClampNeg = len.toNatClampNeg + 3 by omega]; rfl
    exact W.iret (v := o_10) hx hb hr (hlocks := hlocks) (fun t ht hW => ⟨⟨o_10, (1, o_10, (upd (upd (upd (upd f len.toNatClampNeg (p0 >>> (16 &&& 31))) o_4.toNatClampNeg p0.toInt16.toInt32) o_6.toNatClampNeg (p1 >>> (16 &&& 31))) o_8.toNatClampNeg p1.toInt16.toInt32)), rfl, ⟨Or.inl ⟨by omega, (by (try dsimp only); omega), (by (try dsimp only); omega), e_f, rfl⟩, (by (try dsimp only); rw [e_f]; exact shorts_feed p0 p1 s1)⟩, by rw [ht]; exact hP9, va_K.moved hW.alike hK9, hD9⟩, hS.F ht⟩) hS.2.2 dX4_feed_69
  · have i_2 : 160 < y_1.toInt := kc_nle c_2
    refine lv_iconst (v := (-1)) hx hb dX4_feed_15 (by decide) ?_
    have hP9 := hP
    have hD9 := hD
    have hK9 := hK
    exact W.iret (v := (-1)) hx hb hr (hlocks := hlocks) (fun t ht hW => ⟨⟨(-1), (old, len, f), rfl, ⟨Or.inr ⟨by omega, rfl, rfl, rfl, rfl⟩, s1⟩, by rw [ht]; exact hP9, va_K.moved hW.alike hK9, hD9⟩, hS.F ht⟩) hS.2.2 dX4_feed_16

set_option maxHeartbeats 4000000 in
set_option maxRecDepth 100000 in
theorem c_X5_feed_x (l : Launch) (dC : Nat → ClassId) (dI : Nat → Nat → Nat) (h0 : Nat) (g_row : Nat) (g_many : Nat) (g_loss : Nat) (g_less : Nat) (g_voteValue : Nat) (g_voteNumber : Nat) (g_allValue : Nat) (g_allNumber : Nat) (g_nodeL : Nat) (g_nodeR : Nat) (g_part : Nat) (g_wasMany : Nat) (g_wasLoss : Nat) (g_wasValue : Nat) (g_wasNumber : Nat) (g_path : Nat) (g_heavyValue : Nat) (g_heavyTimes : Nat) (g_fewest : Nat) (g_which : Nat) (g_met : Nat) (m_n : Int32) (m_slots : Int32) (m_thrown : Int32) (m_allMany : Int32) (m_nodes : Int32) (m_partMany : Int32) (m_pathMany : Int32) (m_heavyMany : Int32) (m_mostMet : Int32) (cyI : ClassId) (f : Nat → Int32) (p0 : Int32) (p1 : Int32) (sz : Nat) (a0 : 0 ≤ m_n.toInt) (a1 : m_n.toInt ≤ 160) (s1 : shorts f) : kx_MQ l (dC, dI) yX5_feed wsX5_feed ({ frames := 0, cells := 0, slots := 0, locals := 0 }) [.ref h0, .int p0, .int p1] [kx_5 h0 g_row m_n m_slots m_thrown g_many g_loss g_less g_voteValue g_voteNumber g_allValue g_allNumber m_allMany g_nodeL g_nodeR m_nodes g_part m_partMany g_wasMany g_wasLoss g_wasValue g_wasNumber g_path m_pathMany g_heavyValue g_heavyTimes m_heavyMany g_fewest g_which g_met m_mostMet, kx_a g_row cyI 160 f] [(cyI, .int)] sz (fun A => va_Qi (fun (r : Int32) (u : Int32 × (Nat → Int32)) => ((m_n.toInt ≤ 156 ∧ r.toInt = m_n.toInt + 4 ∧ u.1.toInt = m_n.toInt + 4 ∧ u.2 = mj_feed f m_n.toNatClampNeg p0 p1) ∨ (156 < m_n.toInt ∧ r.toInt = -1 ∧ u.1 = m_n ∧ u.2 = f)) ∧ shorts u.2) (fun (u : Int32 × (Nat → Int32)) (t : State) => va_P (dC, dI) vwCl [kx_5 h0 g_row u.1 m_slots 0 g_many g_loss g_less g_voteValue g_voteNumber g_allValue g_allNumber m_allMany g_nodeL g_nodeR m_nodes g_part m_partMany g_wasMany g_wasLoss g_wasValue g_wasNumber g_path m_pathMany g_heavyValue g_heavyTimes m_heavyMany g_fewest g_which g_met m_mostMet, kx_a g_row cyI 160 u.2] t.heap ∧ va_K (dC, dI) vwCl [(cyI, .int)] t ∧ va_D A [kx_5 h0 g_row u.1 m_slots 0 g_many g_loss g_less g_voteValue g_voteNumber g_allValue g_allNumber m_allMany g_nodeL g_nodeR m_nodes g_part m_partMany g_wasMany g_wasLoss g_wasValue g_wasNumber g_path m_pathMany g_heavyValue g_heavyTimes m_heavyMany g_fewest g_which g_met m_mostMet, kx_a g_row cyI 160 u.2]) A) := by
  refine kx_stQ (ws := wsX5_feed) (cc := cX5_feed) (maxL := 3) (ret := (some .int)) (by decide) rfl (Nat.le_of_ble_eq_true rfl) ?_
  intro p e s m below meth c A ls hx hb hr hlocks hts hown hml hA hS hP hK hD hl
  have hown : s.vm.findClass RX5 = some m.cls := hown
  have hl : lv_has ls 3 [(0, .ref h0), (1, .int p0), (2, .int p1)] := hl
  have hf_77 := hts (.fieldLink RX5 77 "MajorityIndexModel" "thrown" "I") (List.mem_of_getElem? (i := 1) rfl)
  have hi_5 : ∀ w ∈ u_ws RX5 TX5 30, w ∈ wsX5_feed := fun w h => List.mem_cons_of_mem _ (List.mem_append_right _ h)
  have hf_84 := hts (.fieldLink RX5 84 "MajorityIndexModel" "n" "I") (List.mem_of_getElem? (i := 2) rfl)
  have hf_7 := hts (.fieldLink RX5 7 "MajorityIndexModel" "row" "[I") (List.mem_of_getElem? (i := 3) rfl)
  refine lv_aload_n hx hb dX5_feed_0 rfl (lv_at hl 0 rfl) ?_
  refine lv_iconst (v := 0) hx hb dX5_feed_1 (by decide) ?_
  refine va_put (D := (dC, dI)) (ci := 5) (v := .int 0) (ty := .int) (C := RX5) (T := TX5) (N := 30) hx hb hts hi_5 tyX5 tyX5_ok nmX5 hown hK hP hD hS 0 rfl rfl 3 (by decide) hf_77 (fun _ h9 => h9) rfl (by decide +kernel) rfl rfl (Nat.le_of_ble_eq_true rfl) dX5_feed_2 (fun H locs hP hD hS => ?_)
  obtain ⟨hP, hD⟩ := kx_re (w2 := [kx_5 h0 g_row m_n m_slots 0 g_many g_loss g_less g_voteValue g_voteNumber g_allValue g_allNumber m_allMany g_nodeL g_nodeR m_nodes g_part m_partMany g_wasMany g_wasLoss g_wasValue g_wasNumber g_path m_pathMany g_heavyValue g_heavyTimes m_heavyMany g_fewest g_which g_met m_mostMet, kx_a g_row cyI 160 f]) hP hD rfl
  refine lv_aload_n hx hb dX5_feed_5 rfl (lv_at hl 0 rfl) ?_
  refine va_get (D := (dC, dI)) (ci := 5) (v := .int m_n) (C := RX5) (T := TX5) (N := 30) hx hb hts hi_5 hown hK hP 0 rfl rfl 1 (by decide) hf_84 (fun _ h9 => h9) rfl dX5_feed_6 ?_
  refine lv_iconst (v := 4) hx hb dX5_feed_9 (by decide) ?_
  refine lv_iadd hx hb dX5_feed_10 ?_
  refine lv_topi (fun y_1 ey_1 => ?_)
  have i_1 : y_1.toInt = m_n.toInt + 4 := ki_add ey_1 rfl rfl (om_153 a0) (om_154 a1)
  refine lv_sipush (v := 160) hx hb dX5_feed_11 (by decide) ?_
  refine lv_icmp_le (tgt := 19) hx hb dX5_feed_14 (by decide) (fun c_2 => ?_) (fun c_2 => ?_)
  · have i_2 : y_1.toInt ≤ 160 := kc_le c_2
    refine lv_aload_n hx hb dX5_feed_19 rfl (lv_at hl 0 rfl) ?_
    refine va_get (D := (dC, dI)) (ci := 5) (v := .ref g_row) (C := RX5) (T := TX5) (N := 30) hx hb hts hi_5 hown hK hP 0 rfl rfl 0 (by decide) hf_7 (fun _ h9 => h9) rfl dX5_feed_20 ?_
    refine lv_aload_n hx hb dX5_feed_23 rfl (lv_at hl 0 rfl) ?_
    refine va_get (D := (dC, dI)) (ci := 5) (v := .int m_n) (C := RX5) (T := TX5) (N := 30) hx hb hts hi_5 hown hK hP 0 rfl rfl 1 (by decide) hf_84 (fun _ h9 => h9) rfl dX5_feed_24 ?_
    refine lv_iload_n hx hb dX5_feed_27 rfl (lv_at hl 1 rfl) ?_
    refine lv_bipush (v := 16) hx hb dX5_feed_28 (by decide) ?_
    refine lv_ishr hx hb dX5_feed_30 ?_
    refine lv_i2s hx hb dX5_feed_31 rfl ?_
    refine va_iast hx hb hK hP hD hS 1 0 rfl rfl (ki_in (om_10 a0) (om_222 a1 i_1 i_2)) dX5_feed_32 (fun H locs hP hD hS => ?_)
    obtain ⟨hP, hD⟩ := kx_re (w2 := [kx_5 h0 g_row m_n m_slots 0 g_many g_loss g_less g_voteValue g_voteNumber g_allValue g_allNumber m_allMany g_nodeL g_nodeR m_nodes g_part m_partMany g_wasMany g_wasLoss g_wasValue g_wasNumber g_path m_pathMany g_heavyValue g_heavyTimes m_heavyMany g_fewest g_which g_met m_mostMet, kx_a g_row cyI 160 (upd f m_n.toNatClampNeg ((p0 >>> (16 &&& 31)).toInt16.toInt32))]) hP hD rfl
    refine lv_aload_n hx hb dX5_feed_33 rfl (lv_at hl 0 rfl) ?_
    refine va_get (D := (dC, dI)) (ci := 5) (v := .ref g_row) (C := RX5) (T := TX5) (N := 30) hx hb hts hi_5 hown hK hP 0 rfl rfl 0 (by decide) hf_7 (fun _ h9 => h9) rfl dX5_feed_34 ?_
    refine lv_aload_n hx hb dX5_feed_37 rfl (lv_at hl 0 rfl) ?_
    refine va_get (D := (dC, dI)) (ci := 5) (v := .int m_n) (C := RX5) (T := TX5) (N := 30) hx hb hts hi_5 hown hK hP 0 rfl rfl 1 (by decide) hf_84 (fun _ h9 => h9) rfl dX5_feed_38 ?_
    refine lv_iconst (v := 1) hx hb dX5_feed_41 (by decide) ?_
    refine lv_iadd hx hb dX5_feed_42 ?_
    refine lv_topi (fun y_3 ey_3 => ?_)
    have i_3 : y_3.toInt = m_n.toInt + 1 := ki_add ey_3 rfl rfl (om_13 a0) (om_192 a1)
    refine lv_iload_n hx hb dX5_feed_43 rfl (lv_at hl 1 rfl) ?_
    refine lv_i2s hx hb dX5_feed_44 rfl ?_
    refine va_iast hx hb hK hP hD hS 1 0 rfl rfl (ki_in (om_34 a0 i_3) (om_223 a1 i_1 i_2 i_3)) dX5_feed_45 (fun H locs hP hD hS => ?_)
    obtain ⟨hP, hD⟩ := kx_re (w2 := [kx_5 h0 g_row m_n m_slots 0 g_many g_loss g_less g_voteValue g_voteNumber g_allValue g_allNumber m_allMany g_nodeL g_nodeR m_nodes g_part m_partMany g_wasMany g_wasLoss g_wasValue g_wasNumber g_path m_pathMany g_heavyValue g_heavyTimes m_heavyMany g_fewest g_which g_met m_mostMet, kx_a g_row cyI 160 (upd (upd f m_n.toNatClampNeg ((p0 >>> (16 &&& 31)).toInt16.toInt32)) y_3.toNatClampNeg p0.toInt16.toInt32)]) hP hD rfl
    refine lv_aload_n hx hb dX5_feed_46 rfl (lv_at hl 0 rfl) ?_
    refine va_get (D := (dC, dI)) (ci := 5) (v := .ref g_row) (C := RX5) (T := TX5) (N := 30) hx hb hts hi_5 hown hK hP 0 rfl rfl 0 (by decide) hf_7 (fun _ h9 => h9) rfl dX5_feed_47 ?_
    refine lv_aload_n hx hb dX5_feed_50 rfl (lv_at hl 0 rfl) ?_
    refine va_get (D := (dC, dI)) (ci := 5) (v := .int m_n) (C := RX5) (T := TX5) (N := 30) hx hb hts hi_5 hown hK hP 0 rfl rfl 1 (by decide) hf_84 (fun _ h9 => h9) rfl dX5_feed_51 ?_
    refine lv_iconst (v := 2) hx hb dX5_feed_54 (by decide) ?_
    refine lv_iadd hx hb dX5_feed_55 ?_
    refine lv_topi (fun y_4 ey_4 => ?_)
    have i_4 : y_4.toInt = m_n.toInt + 2 := ki_add ey_4 rfl rfl (om_224 a0) (om_225 a1)
    refine lv_iload_n hx hb dX5_feed_56 rfl (lv_at hl 2 rfl) ?_
    refine lv_bipush (v := 16) hx hb dX5_feed_57 (by decide) ?_
    refine lv_ishr hx hb dX5_feed_59 ?_
    refine lv_i2s hx hb dX5_feed_60 rfl ?_
    refine va_iast hx hb hK hP hD hS 1 0 rfl rfl (ki_in (om_226 a0 i_4) (om_227 a1 i_1 i_2 i_4)) dX5_feed_61 (fun H locs hP hD hS => ?_)
    obtain ⟨hP, hD⟩ := kx_re (w2 := [kx_5 h0 g_row m_n m_slots 0 g_many g_loss g_less g_voteValue g_voteNumber g_allValue g_allNumber m_allMany g_nodeL g_nodeR m_nodes g_part m_partMany g_wasMany g_wasLoss g_wasValue g_wasNumber g_path m_pathMany g_heavyValue g_heavyTimes m_heavyMany g_fewest g_which g_met m_mostMet, kx_a g_row cyI 160 (upd (upd (upd f m_n.toNatClampNeg ((p0 >>> (16 &&& 31)).toInt16.toInt32)) y_3.toNatClampNeg p0.toInt16.toInt32) y_4.toNatClampNeg ((p1 >>> (16 &&& 31)).toInt16.toInt32))]) hP hD rfl
    refine lv_aload_n hx hb dX5_feed_62 rfl (lv_at hl 0 rfl) ?_
    refine va_get (D := (dC, dI)) (ci := 5) (v := .ref g_row) (C := RX5) (T := TX5) (N := 30) hx hb hts hi_5 hown hK hP 0 rfl rfl 0 (by decide) hf_7 (fun _ h9 => h9) rfl dX5_feed_63 ?_
    refine lv_aload_n hx hb dX5_feed_66 rfl (lv_at hl 0 rfl) ?_
    refine va_get (D := (dC, dI)) (ci := 5) (v := .int m_n) (C := RX5) (T := TX5) (N := 30) hx hb hts hi_5 hown hK hP 0 rfl rfl 1 (by decide) hf_84 (fun _ h9 => h9) rfl dX5_feed_67 ?_
    refine lv_iconst (v := 3) hx hb dX5_feed_70 (by decide) ?_
    refine lv_iadd hx hb dX5_feed_71 ?_
    refine lv_topi (fun y_5 ey_5 => ?_)
    have i_5 : y_5.toInt = m_n.toInt + 3 := ki_add ey_5 rfl rfl (om_228 a0) (om_229 a1)
    refine lv_iload_n hx hb dX5_feed_72 rfl (lv_at hl 2 rfl) ?_
    refine lv_i2s hx hb dX5_feed_73 rfl ?_
    refine va_iast hx hb hK hP hD hS 1 0 rfl rfl (ki_in (om_230 a0 i_5) (om_231 i_1 i_2 i_5)) dX5_feed_74 (fun H locs hP hD hS => ?_)
    obtain ⟨hP, hD⟩ := kx_re (w2 := [kx_5 h0 g_row m_n m_slots 0 g_many g_loss g_less g_voteValue g_voteNumber g_allValue g_allNumber m_allMany g_nodeL g_nodeR m_nodes g_part m_partMany g_wasMany g_wasLoss g_wasValue g_wasNumber g_path m_pathMany g_heavyValue g_heavyTimes m_heavyMany g_fewest g_which g_met m_mostMet, kx_a g_row cyI 160 (upd (upd (upd (upd f m_n.toNatClampNeg ((p0 >>> (16 &&& 31)).toInt16.toInt32)) y_3.toNatClampNeg p0.toInt16.toInt32) y_4.toNatClampNeg ((p1 >>> (16 &&& 31)).toInt16.toInt32)) y_5.toNatClampNeg p1.toInt16.toInt32)]) hP hD rfl
    refine lv_aload_n hx hb dX5_feed_75 rfl (lv_at hl 0 rfl) ?_
    refine lv_dup hx hb dX5_feed_76 rfl ?_
    refine va_get (D := (dC, dI)) (ci := 5) (v := .int m_n) (C := RX5) (T := TX5) (N := 30) hx hb hts hi_5 hown hK hP 0 rfl rfl 1 (by decide) hf_84 (fun _ h9 => h9) rfl dX5_feed_77 ?_
    refine lv_iconst (v := 4) hx hb dX5_feed_80 (by decide) ?_
    refine lv_iadd hx hb dX5_feed_81 ?_
    refine lv_topi (fun y_6 ey_6 => ?_)
    have i_6 : y_6.toInt = m_n.toInt + 4 := ki_add ey_6 rfl rfl (om_153 a0) (om_154 a1)
    refine va_put (D := (dC, dI)) (ci := 5) (v := .int y_6) (ty := .int) (C := RX5) (T := TX5) (N := 30) hx hb hts hi_5 tyX5 tyX5_ok nmX5 hown hK hP hD hS 0 rfl rfl 1 (by decide) hf_84 (fun _ h9 => h9) rfl (by decide +kernel) rfl rfl (Nat.le_of_ble_eq_true rfl) dX5_feed_82 (fun H locs hP hD hS => ?_)
    obtain ⟨hP, hD⟩ := kx_re (w2 := [kx_5 h0 g_row y_6 m_slots 0 g_many g_loss g_less g_voteValue g_voteNumber g_allValue g_allNumber m_allMany g_nodeL g_nodeR m_nodes g_part m_partMany g_wasMany g_wasLoss g_wasValue g_wasNumber g_path m_pathMany g_heavyValue g_heavyTimes m_heavyMany g_fewest g_which g_met m_mostMet, kx_a g_row cyI 160 (upd (upd (upd (upd f m_n.toNatClampNeg ((p0 >>> (16 &&& 31)).toInt16.toInt32)) y_3.toNatClampNeg p0.toInt16.toInt32) y_4.toNatClampNeg ((p1 >>> (16 &&& 31)).toInt16.toInt32)) y_5.toNatClampNeg p1.toInt16.toInt32)]) hP hD rfl
    refine lv_aload_n hx hb dX5_feed_85 rfl (lv_at hl 0 rfl) ?_
    refine va_get (D := (dC, dI)) (ci := 5) (v := .int y_6) (C := RX5) (T := TX5) (N := 30) hx hb hts hi_5 hown hK hP 0 rfl rfl 1 (by decide) hf_84 (fun _ h9 => h9) rfl dX5_feed_86 ?_
    have hP9 := hP
    have hD9 := hD
    have hK9 := hK
    have n_l := ki_nat m_n rfl (om_10 a0)
    have n_7 := ki_nat y_3 rfl (om_34 a0 i_3)
    have n_8 := ki_nat y_4 rfl (om_226 a0 i_4)
    have n_9 := ki_nat y_5 rfl (om_230 a0 i_5)
    have e_f : upd (upd (upd (upd f m_n.toNatClampNeg ((p0 >>> (16 &&& 31)).toInt16.toInt32)) y_3.toNatClampNeg p0.toInt16.toInt32) y_4.toNatClampNeg ((p1 >>> (16 &&& 31)).toInt16.toInt32)) y_5.toNatClampNeg p1.toInt16.toInt32 = mj_feed f m_n.toNatClampNeg p0 p1 := by
      rw [show y_3.toNatClampNeg = m_n.toNatClampNeg + 1 by omega, show y_4.toNatClampNeg = m_n.toNatClampNeg + 2 by omega, show y_5.toNatClampNeg = m_n.toNatClampNeg + 3 by omega, ki_short16, ki_short16]; rfl
    exact W.iret (v := y_6) hx hb hr (hlocks := hlocks) (fun t ht hW => ⟨⟨y_6, (y_6, (upd (upd (upd (upd f m_n.toNatClampNeg ((p0 >>> (16 &&& 31)).toInt16.toInt32)) y_3.toNatClampNeg p0.toInt16.toInt32) y_4.toNatClampNeg ((p1 >>> (16 &&& 31)).toInt16.toInt32)) y_5.toNatClampNeg p1.toInt16.toInt32)), rfl, ⟨Or.inl ⟨by omega, (by (try dsimp only); omega), (by (try dsimp only); omega), e_f⟩, (by (try dsimp only); rw [e_f]; exact shorts_feed p0 p1 s1)⟩, by rw [ht]; exact hP9, va_K.moved hW.alike hK9, hD9⟩, hS.F ht⟩) hS.2.2 dX5_feed_89
  · have i_2 : 160 < y_1.toInt := kc_nle c_2
    refine lv_iconst (v := (-1)) hx hb dX5_feed_17 (by decide) ?_
    have hP9 := hP
    have hD9 := hD
    have hK9 := hK
    exact W.iret (v := (-1)) hx hb hr (hlocks := hlocks) (fun t ht hW => ⟨⟨(-1), (m_n, f), rfl, ⟨Or.inr ⟨by omega, rfl, rfl, rfl⟩, s1⟩, by rw [ht]; exact hP9, va_K.moved hW.alike hK9, hD9⟩, hS.F ht⟩) hS.2.2 dX5_feed_18


