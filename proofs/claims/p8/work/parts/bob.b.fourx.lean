set_option maxHeartbeats 4000000 in
set_option maxRecDepth 100000 in
theorem c_X5_swap_x (l : Launch) (dC : Nat → ClassId) (dI : Nat → Nat → Nat) (h0 : Nat) (g_row : Nat) (g_many : Nat) (g_loss : Nat) (g_less : Nat) (g_voteValue : Nat) (g_voteNumber : Nat) (g_allValue : Nat) (g_allNumber : Nat) (g_nodeL : Nat) (g_nodeR : Nat) (g_part : Nat) (g_wasMany : Nat) (g_wasLoss : Nat) (g_wasValue : Nat) (g_wasNumber : Nat) (g_path : Nat) (g_heavyValue : Nat) (g_heavyTimes : Nat) (g_fewest : Nat) (g_which : Nat) (g_met : Nat) (m_n : Int32) (m_slots : Int32) (m_thrown : Int32) (m_allMany : Int32) (m_nodes : Int32) (m_partMany : Int32) (m_pathMany : Int32) (m_heavyMany : Int32) (m_mostMet : Int32) (cyI : ClassId) (fm : Nat → Int32) (fl : Nat → Int32) (fe : Nat → Int32) (vv : Nat → Int32) (vn : Nat → Int32) (f : Nat → Int32) (av : Nat → Int32) (an : Nat → Int32) (nl : Nat → Int32) (nr : Nat → Int32) (wm : Nat → Int32) (wl : Nat → Int32) (wv : Nat → Int32) (wn : Nat → Int32) (p0 : Int32) (p1 : Int32) (sz : Nat) (a0 : 0 ≤ m_n.toInt) (a1 : m_n.toInt ≤ 160) (sl0 : 1 ≤ m_slots.toInt) (sl1 : m_slots.toInt ≤ 6) (s4 : six4 fm) (s1 : shorts f) : kx_MQ l (dC, dI) yX5_swap wsX5_swap ({ frames := 13, cells := 0, slots := 0, locals := 585 }) [.ref h0, .int p0, .int p1] [kx_5 h0 g_row m_n m_slots m_thrown g_many g_loss g_less g_voteValue g_voteNumber g_allValue g_allNumber m_allMany g_nodeL g_nodeR m_nodes g_part m_partMany g_wasMany g_wasLoss g_wasValue g_wasNumber g_path m_pathMany g_heavyValue g_heavyTimes m_heavyMany g_fewest g_which g_met m_mostMet, kx_a g_row cyI 160 f, kx_a g_many cyI 324 fm, kx_a g_loss cyI 324 fl, kx_a g_less cyI 324 fe, kx_a g_voteValue cyI 1944 vv, kx_a g_voteNumber cyI 1944 vn, kx_a g_allValue cyI 12 av, kx_a g_allNumber cyI 12 an, kx_a g_nodeL cyI 320 nl, kx_a g_nodeR cyI 320 nr, kx_a g_wasMany cyI 320 wm, kx_a g_wasLoss cyI 320 wl, kx_a g_wasValue cyI 1920 wv, kx_a g_wasNumber cyI 1920 wn] [(cyI, .int)] sz (fun A => va_Qi (fun (r : Int32) (u : Int32 × Int32 × (Nat → Int32) × (Nat → Int32) × (Nat → Int32) × (Nat → Int32) × (Nat → Int32) × (Nat → Int32) × (Nat → Int32) × (Nat → Int32) × (Nat → Int32) × (Nat → Int32) × (Nat → Int32) × (Nat → Int32) × (Nat → Int32) × (Nat → Int32) × Int32 × (Nat → Int32) × (Nat → Int32) × (Nat → Int32) × (Nat → Int32) × (Nat → Int32) × (Nat → Int32) × (Nat → Int32)) => (((0 ≤ p0.toInt ∧ p0.toInt < m_n.toInt ∧ 0 ≤ p1.toInt ∧ p1.toInt < m_n.toInt) ∧ u.2.2.2.2.2.2.2.2.2.2.2.2.2.2.2.1 = mj_ex f p0.toNatClampNeg p1.toNatClampNeg ∧ (mj_L m_slots.toNatClampNeg f u.2.2.2.2.2.2.2.2.2.2.2.2.2.2.2.2.2.1 u.2.2.2.2.2.2.2.2.2.2.2.2.2.2.2.2.2.2.1 u.2.2.2.2.2.2.2.2.2.2.2.2.2.2.2.2.2.2.2.1 u.2.2.2.2.2.2.2.2.2.2.2.2.2.2.2.2.2.2.2.2.1 u.2.2.2.2.2.2.2.2.2.2.2.2.2.2.2.2.2.2.2.2.2.1 u.2.2.2.2.2.2.2.2.2.2.2.2.2.2.2.2.2.2.2.2.2.2.1 u.2.2.2.2.2.2.2.2.2.2.2.2.2.2.2.2.2.2.2.2.2.2.2 m_n.toInt u.2.2.2.2.2.2.2.2.2.2.2.2.2.2.2.2.1.toInt ∧ 0 ≤ u.2.2.2.2.2.2.2.2.2.2.2.2.2.2.2.2.1.toInt ∧ u.2.2.2.2.2.2.2.2.2.2.2.2.2.2.2.2.1.toInt ≤ 319) ∧ (∀ k : Nat, k < u.2.2.2.2.2.2.2.2.2.2.2.2.2.2.2.2.1.toNatClampNeg → mj_ks u.2.2.2.2.2.2.2.2.2.2.2.1 u.2.2.2.2.2.2.2.2.2.2.2.2.1 u.2.2.2.2.2.2.2.2.2.2.2.2.2.1 u.2.2.2.2.2.2.2.2.2.2.2.2.2.2.1 u.2.2.2.2.2.2.2.2.2.2.2.2.2.2.2.2.2.2.2.1 u.2.2.2.2.2.2.2.2.2.2.2.2.2.2.2.2.2.2.2.2.1 u.2.2.2.2.2.2.2.2.2.2.2.2.2.2.2.2.2.2.2.2.2.2.1 u.2.2.2.2.2.2.2.2.2.2.2.2.2.2.2.2.2.2.2.2.2.2.2 k) ∧ (mj_L m_slots.toNatClampNeg u.2.2.2.2.2.2.2.2.2.2.2.2.2.2.2.1 u.2.2.2.2.2.2.2.2.2.1 u.2.2.2.2.2.2.2.2.2.2.1 u.2.2.1 u.2.2.2.1 u.2.2.2.2.1 u.2.2.2.2.2.1 u.2.2.2.2.2.2.1 m_n.toInt u.1.toInt ∧ 0 ≤ u.1.toInt ∧ u.1.toInt ≤ 319) ∧ r.toInt = (mj_dn (mj_sm u.2.2.2.2.2.2.2.2.2.2.2.1 u.2.2.2.2.2.2.2.2.2.2.2.2.1 u.2.2.2.2.2.2.2.2.2.2.2.2.2.1 u.2.2.2.2.2.2.2.2.2.2.2.2.2.2.1 u.2.2.1 u.2.2.2.1 u.2.2.2.2.2.1 u.2.2.2.2.2.2.1) u.1.toNatClampNeg : Int)) ∨ ((p0.toInt < 0 ∨ m_n.toInt ≤ p0.toInt ∨ p1.toInt < 0 ∨ m_n.toInt ≤ p1.toInt) ∧ u.2.2.2.2.2.2.2.2.2.2.2.2.2.2.2.1 = f ∧ r = -1)) ∧ shorts u.2.2.2.2.2.2.2.2.2.2.2.2.2.2.2.1 ∧ six4 u.2.2.1) (fun (u : Int32 × Int32 × (Nat → Int32) × (Nat → Int32) × (Nat → Int32) × (Nat → Int32) × (Nat → Int32) × (Nat → Int32) × (Nat → Int32) × (Nat → Int32) × (Nat → Int32) × (Nat → Int32) × (Nat → Int32) × (Nat → Int32) × (Nat → Int32) × (Nat → Int32) × Int32 × (Nat → Int32) × (Nat → Int32) × (Nat → Int32) × (Nat → Int32) × (Nat → Int32) × (Nat → Int32) × (Nat → Int32)) (t : State) => va_P (dC, dI) vwCl [kx_5 h0 g_row m_n m_slots 0 g_many g_loss g_less g_voteValue g_voteNumber g_allValue g_allNumber u.2.1 g_nodeL g_nodeR u.1 g_part m_partMany g_wasMany g_wasLoss g_wasValue g_wasNumber g_path m_pathMany g_heavyValue g_heavyTimes m_heavyMany g_fewest g_which g_met m_mostMet, kx_a g_row cyI 160 u.2.2.2.2.2.2.2.2.2.2.2.2.2.2.2.1, kx_a g_many cyI 324 u.2.2.1, kx_a g_loss cyI 324 u.2.2.2.1, kx_a g_less cyI 324 u.2.2.2.2.1, kx_a g_voteValue cyI 1944 u.2.2.2.2.2.1, kx_a g_voteNumber cyI 1944 u.2.2.2.2.2.2.1, kx_a g_allValue cyI 12 u.2.2.2.2.2.2.2.1, kx_a g_allNumber cyI 12 u.2.2.2.2.2.2.2.2.1, kx_a g_nodeL cyI 320 u.2.2.2.2.2.2.2.2.2.1, kx_a g_nodeR cyI 320 u.2.2.2.2.2.2.2.2.2.2.1, kx_a g_wasMany cyI 320 u.2.2.2.2.2.2.2.2.2.2.2.1, kx_a g_wasLoss cyI 320 u.2.2.2.2.2.2.2.2.2.2.2.2.1, kx_a g_wasValue cyI 1920 u.2.2.2.2.2.2.2.2.2.2.2.2.2.1, kx_a g_wasNumber cyI 1920 u.2.2.2.2.2.2.2.2.2.2.2.2.2.2.1] t.heap ∧ va_K (dC, dI) vwCl [(cyI, .int)] t ∧ va_D A [kx_5 h0 g_row m_n m_slots 0 g_many g_loss g_less g_voteValue g_voteNumber g_allValue g_allNumber u.2.1 g_nodeL g_nodeR u.1 g_part m_partMany g_wasMany g_wasLoss g_wasValue g_wasNumber g_path m_pathMany g_heavyValue g_heavyTimes m_heavyMany g_fewest g_which g_met m_mostMet, kx_a g_row cyI 160 u.2.2.2.2.2.2.2.2.2.2.2.2.2.2.2.1, kx_a g_many cyI 324 u.2.2.1, kx_a g_loss cyI 324 u.2.2.2.1, kx_a g_less cyI 324 u.2.2.2.2.1, kx_a g_voteValue cyI 1944 u.2.2.2.2.2.1, kx_a g_voteNumber cyI 1944 u.2.2.2.2.2.2.1, kx_a g_allValue cyI 12 u.2.2.2.2.2.2.2.1, kx_a g_allNumber cyI 12 u.2.2.2.2.2.2.2.2.1, kx_a g_nodeL cyI 320 u.2.2.2.2.2.2.2.2.2.1, kx_a g_nodeR cyI 320 u.2.2.2.2.2.2.2.2.2.2.1, kx_a g_wasMany cyI 320 u.2.2.2.2.2.2.2.2.2.2.2.1, kx_a g_wasLoss cyI 320 u.2.2.2.2.2.2.2.2.2.2.2.2.1, kx_a g_wasValue cyI 1920 u.2.2.2.2.2.2.2.2.2.2.2.2.2.1, kx_a g_wasNumber cyI 1920 u.2.2.2.2.2.2.2.2.2.2.2.2.2.2.1]) A) := by
  refine kx_stQ (ws := wsX5_swap) (cc := cX5_swap) (maxL := 3) (ret := (some .int)) (by decide) rfl (Nat.le_of_ble_eq_true rfl) ?_
  intro p e s m below meth c A ls hx hb hr hlocks hts hown hml hA hS hP hK hD hl
  have hown : s.vm.findClass RX5 = some m.cls := hown
  have hl : lv_has ls 3 [(0, .ref h0), (1, .int p0), (2, .int p1)] := hl
  have hf_77 := hts (.fieldLink RX5 77 "MajorityIndexModel" "thrown" "I") (List.mem_of_getElem? (i := 1) rfl)
  have hi_5 : ∀ w ∈ u_ws RX5 TX5 30, w ∈ wsX5_swap := fun w h => List.mem_cons_of_mem _ (List.mem_append_right _ h)
  refine lv_aload_n hx hb dX5_swap_0 rfl (lv_at hl 0 rfl) ?_
  refine lv_iconst (v := 0) hx hb dX5_swap_1 (by decide) ?_
  refine va_put (D := (dC, dI)) (ci := 5) (v := .int 0) (ty := .int) (C := RX5) (T := TX5) (N := 30) hx hb hts hi_5 tyX5 tyX5_ok nmX5 hown hK hP hD hS 0 rfl rfl 3 (by decide) hf_77 (fun _ h9 => h9) rfl (by decide +kernel) rfl rfl (Nat.le_of_ble_eq_true rfl) dX5_swap_2 (fun H locs hP hD hS => ?_)
  obtain ⟨hP, hD⟩ := kx_re (w2 := [kx_5 h0 g_row m_n m_slots 0 g_many g_loss g_less g_voteValue g_voteNumber g_allValue g_allNumber m_allMany g_nodeL g_nodeR m_nodes g_part m_partMany g_wasMany g_wasLoss g_wasValue g_wasNumber g_path m_pathMany g_heavyValue g_heavyTimes m_heavyMany g_fewest g_which g_met m_mostMet, kx_a g_row cyI 160 f, kx_a g_many cyI 324 fm, kx_a g_loss cyI 324 fl, kx_a g_less cyI 324 fe, kx_a g_voteValue cyI 1944 vv, kx_a g_voteNumber cyI 1944 vn, kx_a g_allValue cyI 12 av, kx_a g_allNumber cyI 12 an, kx_a g_nodeL cyI 320 nl, kx_a g_nodeR cyI 320 nr, kx_a g_wasMany cyI 320 wm, kx_a g_wasLoss cyI 320 wl, kx_a g_wasValue cyI 1920 wv, kx_a g_wasNumber cyI 1920 wn]) hP hD rfl
  refine lv_aload_n hx hb dX5_swap_5 rfl (lv_at hl 0 rfl) ?_
  refine lv_iload_n hx hb dX5_swap_6 rfl (lv_at hl 1 rfl) ?_
  have hPc := hP.sub (ws' := [kx_5 h0 g_row m_n m_slots 0 g_many g_loss g_less g_voteValue g_voteNumber g_allValue g_allNumber m_allMany g_nodeL g_nodeR m_nodes g_part m_partMany g_wasMany g_wasLoss g_wasValue g_wasNumber g_path m_pathMany g_heavyValue g_heavyTimes m_heavyMany g_fewest g_which g_met m_mostMet]) [0] rfl
  have hKc := hK.sub (tys' := []) [] rfl
  refine vp_callSi (W.runV (As := [.int p0]) (rest := []) ⟨hx, hb, hml, hown, hts⟩ (c_X5_isPlace l dC dI h0 g_row g_many g_loss g_less g_voteValue g_voteNumber g_allValue g_allNumber g_nodeL g_nodeR g_part g_wasMany g_wasLoss g_wasValue g_wasNumber g_path g_heavyValue g_heavyTimes g_fewest g_which g_met m_n m_slots 0 m_allMany m_nodes m_partMany m_pathMany m_heavyMany m_mostMet p0 a0 a1) (cwV 1 hts gX5_swap_X5_isPlace rfl rfl rfl (by decide +kernel) ⟨Nat.le_of_ble_eq_true rfl, Nat.le_of_ble_eq_true rfl⟩) ⟨fun a U g mk q => by obtain ⟨q0, qP, qK⟩ := q; exact ⟨q0, qP, va_K.moved (u := U) (U := U.calling g mk a) (Vm.Alike.refl U.vm) qK⟩, kx_rc5 hKc hPc (q0 := 0) rfl, fun U hU hW => ⟨rfl, by rw [hU]; exact hPc, va_K.moved hW.alike hKc⟩⟩ rfl rfl hl.1 rfl (lv_room (Nat.le_of_ble_eq_true rfl)) dX5_swap_7 ⟨Nat.le_of_ble_eq_true rfl, Nat.le_of_ble_eq_true rfl⟩) (fun r_1 w_1 => ?_)
  rcases w_1 with ⟨rfl, w_1⟩ | ⟨rfl, w_1⟩
  · have w_1 : (0 ≤ p0.toInt ∧ p0.toInt < m_n.toInt) := w_1
    refine lv_if_eq (tgt := 21) hx hb dX5_swap_10 (by decide) (fun c_2 => ?_) (fun c_2 => ?_)
    · exact absurd c_2 (by decide)
    · refine lv_aload_n hx hb dX5_swap_13 rfl (lv_at hl 0 rfl) ?_
      refine lv_iload_n hx hb dX5_swap_14 rfl (lv_at hl 2 rfl) ?_
      have hPc := hP.sub (ws' := [kx_5 h0 g_row m_n m_slots 0 g_many g_loss g_less g_voteValue g_voteNumber g_allValue g_allNumber m_allMany g_nodeL g_nodeR m_nodes g_part m_partMany g_wasMany g_wasLoss g_wasValue g_wasNumber g_path m_pathMany g_heavyValue g_heavyTimes m_heavyMany g_fewest g_which g_met m_mostMet]) [0] rfl
      have hKc := hK.sub (tys' := []) [] rfl
      refine vp_callSi (W.runV (As := [.int p1]) (rest := []) ⟨hx, hb, hml, hown, hts⟩ (c_X5_isPlace l dC dI h0 g_row g_many g_loss g_less g_voteValue g_voteNumber g_allValue g_allNumber g_nodeL g_nodeR g_part g_wasMany g_wasLoss g_wasValue g_wasNumber g_path g_heavyValue g_heavyTimes g_fewest g_which g_met m_n m_slots 0 m_allMany m_nodes m_partMany m_pathMany m_heavyMany m_mostMet p1 a0 a1) (cwV 1 hts gX5_swap_X5_isPlace rfl rfl rfl (by decide +kernel) ⟨Nat.le_of_ble_eq_true rfl, Nat.le_of_ble_eq_true rfl⟩) ⟨fun a U g mk q => by obtain ⟨q0, qP, qK⟩ := q; exact ⟨q0, qP, va_K.moved (u := U) (U := U.calling g mk a) (Vm.Alike.refl U.vm) qK⟩, kx_rc5 hKc hPc (q0 := 0) rfl, fun U hU hW => ⟨rfl, by rw [hU]; exact hPc, va_K.moved hW.alike hKc⟩⟩ rfl rfl hl.1 rfl (lv_room (Nat.le_of_ble_eq_true rfl)) dX5_swap_15 ⟨Nat.le_of_ble_eq_true rfl, Nat.le_of_ble_eq_true rfl⟩) (fun r_3 w_3 => ?_)
      rcases w_3 with ⟨rfl, w_3⟩ | ⟨rfl, w_3⟩
      · have w_3 : (0 ≤ p1.toInt ∧ p1.toInt < m_n.toInt) := w_3
        refine lv_if_ne (tgt := 23) hx hb dX5_swap_18 (by decide) (fun c_4 => ?_) (fun c_4 => ?_)
        · refine lv_aload_n hx hb dX5_swap_23 rfl (lv_at hl 0 rfl) ?_
          have hPc := hP
          have hKc := hK
          have hDc := hD
          have hFc := kx_free hD hS hA
          refine va_callv (va_runV (As := []) (rest := []) ⟨hx, hb, hml, hown, hts⟩ (kx_un (c_X5_keeps_x l dC dI h0 g_row g_many g_loss g_less g_voteValue g_voteNumber g_allValue g_allNumber g_nodeL g_nodeR g_part g_wasMany g_wasLoss g_wasValue g_wasNumber g_path g_heavyValue g_heavyTimes g_fewest g_which g_met m_n m_slots 0 m_allMany m_nodes m_partMany m_pathMany m_heavyMany m_mostMet cyI fm fl fe vv vn f av an nl nr wm wl wv wn H.size a0 a1 sl0 sl1 s4)) (cwV 0 hts gX5_swap_X5_keeps rfl rfl rfl (by decide +kernel) ⟨Nat.le_of_ble_eq_true rfl, Nat.le_of_ble_eq_true rfl⟩) ⟨fun a U g mk q => by obtain ⟨q0, q1, qP, qK, qD⟩ := q; exact ⟨q0, q1, qP, va_K.moved (u := U) (U := U.calling g mk a) (Vm.Alike.refl U.vm) qK, qD⟩, kx_rc5 hKc hPc (q0 := 0) rfl, fun U hU hW => ⟨rfl, by rw [hU], by rw [hU]; exact hPc, va_K.moved hW.alike hKc, hDc.weaken (fun _ _ _ _ => trivial)⟩⟩ rfl rfl hl.1 rfl (lv_room (Nat.le_of_ble_eq_true rfl)) dX5_swap_24 ⟨Nat.le_of_ble_eq_true rfl, Nat.le_of_ble_eq_true rfl⟩) hS (fun q _ h => hFc q h) hFc (fun u t H1 locs ht hvm w_5 hB hz1 hk1 hS => ?_)
          obtain ⟨o_6, o_7, o_8, o_9, o_10, o_11, o_12, o_13, o_14, o_15, o_16, o_17, o_18, o_19, o_20⟩ := u
          dsimp only at w_5 hB
          obtain ⟨hP1, hK1, hD1⟩ := hB
          rw [ht] at hP1
          have hK1 := va_K.moved hvm.symm hK1
          have hD := hD1.weaken (fun _ q _ h => hFc q.1 h)
          have hP := hP1
          clear hP1 hD1 hK1 hk1 hz1 hFc hDc hPc hKc
          generalize H1 = H at hP hS ⊢
          have w_5 : (mj_L m_slots.toNatClampNeg f o_15 o_16 o_8 o_9 o_10 o_11 o_12 m_n.toInt o_6.toInt ∧ 0 ≤ o_6.toInt ∧ o_6.toInt ≤ 319) ∧ six4 o_8 ∧ ∀ k : Nat, k < o_6.toNatClampNeg → mj_ks o_17 o_18 o_19 o_20 o_8 o_9 o_11 o_12 k := w_5
          refine lv_aload_n hx hb dX5_swap_27 rfl (lv_at hl 0 rfl) ?_
          refine lv_iload_n hx hb dX5_swap_28 rfl (lv_at hl 1 rfl) ?_
          refine lv_iload_n hx hb dX5_swap_29 rfl (lv_at hl 2 rfl) ?_
          obtain ⟨hPc, hDc, hFc, hCc⟩ := kx_preM (wc := [kx_5 h0 g_row m_n m_slots 0 g_many g_loss g_less g_voteValue g_voteNumber g_allValue g_allNumber o_7 g_nodeL g_nodeR o_6 g_part m_partMany g_wasMany g_wasLoss g_wasValue g_wasNumber g_path m_pathMany g_heavyValue g_heavyTimes m_heavyMany g_fewest g_which g_met m_mostMet, kx_a g_row cyI 160 f]) hP hD hS hA [true, true, false, false, false, false, false, false, false, false, false, false, false, false, false] rfl
          have hKc := hK
          refine va_callv (va_runV (As := [.int p0, .int p1]) (rest := []) ⟨hx, hb, hml, hown, hts⟩ (kx_un (c_X5_exchanges l dC dI h0 g_row g_many g_loss g_less g_voteValue g_voteNumber g_allValue g_allNumber g_nodeL g_nodeR g_part g_wasMany g_wasLoss g_wasValue g_wasNumber g_path g_heavyValue g_heavyTimes g_fewest g_which g_met m_n m_slots 0 o_7 o_6 m_partMany m_pathMany m_heavyMany m_mostMet cyI f p0 p1 H.size (om_10 w_1.1) (om_143 a1 w_1.2) (om_10 w_3.1) (om_143 a1 w_3.2))) (cwV 2 hts gX5_swap_X5_exchanges rfl rfl rfl (by decide +kernel) ⟨Nat.le_of_ble_eq_true rfl, Nat.le_of_ble_eq_true rfl⟩) ⟨fun a U g mk q => by obtain ⟨q0, q1, qP, qK, qD⟩ := q; exact ⟨q0, q1, qP, va_K.moved (u := U) (U := U.calling g mk a) (Vm.Alike.refl U.vm) qK, qD⟩, kx_rc5 hKc hPc (q0 := 0) rfl, fun U hU hW => ⟨rfl, by rw [hU], by rw [hU]; exact hPc, va_K.moved hW.alike hKc, hDc.weaken (fun _ _ _ _ => trivial)⟩⟩ rfl rfl hl.1 rfl (lv_room (Nat.le_of_ble_eq_true rfl)) dX5_swap_30 ⟨Nat.le_of_ble_eq_true rfl, Nat.le_of_ble_eq_true rfl⟩) hS (fun q _ h => hFc q h) hFc (fun u t H1 locs ht hvm w_21 hB hz1 hk1 hS => ?_)
          obtain ⟨o_22, rfl⟩ : ∃ z, z = u := ⟨_, rfl⟩
          obtain ⟨hP1, hK1, hD1⟩ := hB
          rw [ht] at hP1
          have hK1 := va_K.moved hvm.symm hK1
          obtain ⟨hP, hD⟩ := kx_joinM (w2 := [kx_5 h0 g_row m_n m_slots 0 g_many g_loss g_less g_voteValue g_voteNumber g_allValue g_allNumber o_7 g_nodeL g_nodeR o_6 g_part m_partMany g_wasMany g_wasLoss g_wasValue g_wasNumber g_path m_pathMany g_heavyValue g_heavyTimes m_heavyMany g_fewest g_which g_met m_mostMet, kx_a g_row cyI 160 o_22, kx_a g_many cyI 324 o_8, kx_a g_loss cyI 324 o_9, kx_a g_less cyI 324 o_10, kx_a g_voteValue cyI 1944 o_11, kx_a g_voteNumber cyI 1944 o_12, kx_a g_allValue cyI 12 o_13, kx_a g_allNumber cyI 12 o_14, kx_a g_nodeL cyI 320 o_15, kx_a g_nodeR cyI 320 o_16, kx_a g_wasMany cyI 320 o_17, kx_a g_wasLoss cyI 320 o_18, kx_a g_wasValue cyI 1920 o_19, kx_a g_wasNumber cyI 1920 o_20]) hP hD hP1 hD1 hk1 hFc [true, true, false, false, false, false, false, false, false, false, false, false, false, false, false] hCc rfl
          clear hP1 hD1 hK1 hk1 hz1 hFc hDc hPc hKc hCc
          generalize H1 = H at hP hS ⊢
          have w_21 : o_22 = mj_ex f p0.toNatClampNeg p1.toNatClampNeg := w_21
          refine lv_aload_n hx hb dX5_swap_33 rfl (lv_at hl 0 rfl) ?_
          have hPc := hP
          have hKc := hK
          have hDc := hD
          have hFc := kx_free hD hS hA
          refine va_calli (va_runV (As := []) (rest := []) ⟨hx, hb, hml, hown, hts⟩ (kx_un (c_X5_others_x l dC dI h0 g_row g_many g_loss g_less g_voteValue g_voteNumber g_allValue g_allNumber g_nodeL g_nodeR g_part g_wasMany g_wasLoss g_wasValue g_wasNumber g_path g_heavyValue g_heavyTimes g_fewest g_which g_met m_n m_slots 0 o_7 o_6 m_partMany m_pathMany m_heavyMany m_mostMet cyI o_8 o_9 o_10 o_11 o_12 o_22 o_13 o_14 o_15 o_16 o_17 o_18 o_19 o_20 H.size a0 a1 sl0 sl1 w_5.2.1)) (cwV 0 hts gX5_swap_X5_others rfl rfl rfl (by decide +kernel) ⟨Nat.le_of_ble_eq_true rfl, Nat.le_of_ble_eq_true rfl⟩) ⟨fun a U g mk q => by obtain ⟨q0, q1, qP, qK, qD⟩ := q; exact ⟨q0, q1, qP, va_K.moved (u := U) (U := U.calling g mk a) (Vm.Alike.refl U.vm) qK, qD⟩, kx_rc5 hKc hPc (q0 := 0) rfl, fun U hU hW => ⟨rfl, by rw [hU], by rw [hU]; exact hPc, va_K.moved hW.alike hKc, hDc.weaken (fun _ _ _ _ => trivial)⟩⟩ rfl rfl hl.1 rfl (lv_room (Nat.le_of_ble_eq_true rfl)) dX5_swap_34 ⟨Nat.le_of_ble_eq_true rfl, Nat.le_of_ble_eq_true rfl⟩) hS (fun q _ h => hFc q h) hFc (fun r_23 u t H1 locs ht hvm w_23 hB hz1 hk1 hS => ?_)
          obtain ⟨o_24, o_25, o_26, o_27, o_28, o_29, o_30, o_31, o_32, o_33, o_34⟩ := u
          dsimp only at w_23 hB
          obtain ⟨hP1, hK1, hD1⟩ := hB
          rw [ht] at hP1
          have hK1 := va_K.moved hvm.symm hK1
          have hD := hD1.weaken (fun _ q _ h => hFc q.1 h)
          have hP := hP1
          clear hP1 hD1 hK1 hk1 hz1 hFc hDc hPc hKc
          generalize H1 = H at hP hS ⊢
          have w_23 : (mj_L m_slots.toNatClampNeg o_22 o_33 o_34 o_26 o_27 o_28 o_29 o_30 m_n.toInt o_24.toInt ∧ 0 ≤ o_24.toInt ∧ o_24.toInt ≤ 319) ∧ six4 o_26 ∧ r_23.toInt = (mj_dn (mj_sm o_17 o_18 o_19 o_20 o_26 o_27 o_29 o_30) o_24.toNatClampNeg : Int) := w_23
          have hP9 := hP
          have hD9 := hD
          have hK9 := hK
          have n_p0 := ki_nat p0 rfl (om_10 w_1.1)
          have n_p1 := ki_nat p1 rfl (om_10 w_3.1)
          have e_f : o_22 = mj_ex f p0.toNatClampNeg p1.toNatClampNeg := w_21
          exact W.iret (v := r_23) hx hb hr (hlocks := hlocks) (fun t ht hW => ⟨⟨r_23, (o_24, o_25, o_26, o_27, o_28, o_29, o_30, o_31, o_32, o_33, o_34, o_17, o_18, o_19, o_20, o_22, o_6, o_15, o_16, o_8, o_9, o_10, o_11, o_12), rfl, ⟨Or.inl ⟨by omega, e_f, w_5.1, w_5.2.2, w_23.1, w_23.2.2⟩, (by (try dsimp only); rw [e_f]; exact shorts_mex s1 (by omega) (by omega)), w_23.2.1⟩, by rw [ht]; exact hP9, va_K.moved hW.alike hK9, hD9⟩, hS.F ht⟩) hS.2.2 dX5_swap_37
        · exact absurd c_4 (by decide)
      · have w_3 : (p1.toInt < 0 ∨ m_n.toInt ≤ p1.toInt) := w_3
        refine lv_if_ne (tgt := 23) hx hb dX5_swap_18 (by decide) (fun c_35 => ?_) (fun c_35 => ?_)
        · exact absurd c_35 (by decide)
        · refine lv_iconst (v := (-1)) hx hb dX5_swap_21 (by decide) ?_
          have hP9 := hP
          have hD9 := hD
          have hK9 := hK
          exact W.iret (v := (-1)) hx hb hr (hlocks := hlocks) (fun t ht hW => ⟨⟨(-1), (m_nodes, m_allMany, fm, fl, fe, vv, vn, av, an, nl, nr, wm, wl, wv, wn, f, m_nodes, nl, nr, fm, fl, fe, vv, vn), rfl, ⟨Or.inr ⟨by omega, rfl, rfl⟩, s1, s4⟩, by rw [ht]; exact hP9, va_K.moved hW.alike hK9, hD9⟩, hS.F ht⟩) hS.2.2 dX5_swap_22
  · have w_1 : (p0.toInt < 0 ∨ m_n.toInt ≤ p0.toInt) := w_1
    refine lv_if_eq (tgt := 21) hx hb dX5_swap_10 (by decide) (fun c_36 => ?_) (fun c_36 => ?_)
    · refine lv_iconst (v := (-1)) hx hb dX5_swap_21 (by decide) ?_
      have hP9 := hP
      have hD9 := hD
      have hK9 := hK
      exact W.iret (v := (-1)) hx hb hr (hlocks := hlocks) (fun t ht hW => ⟨⟨(-1), (m_nodes, m_allMany, fm, fl, fe, vv, vn, av, an, nl, nr, wm, wl, wv, wn, f, m_nodes, nl, nr, fm, fl, fe, vv, vn), rfl, ⟨Or.inr ⟨by omega, rfl, rfl⟩, s1, s4⟩, by rw [ht]; exact hP9, va_K.moved hW.alike hK9, hD9⟩, hS.F ht⟩) hS.2.2 dX5_swap_22
    · exact absurd c_36 (by decide)


