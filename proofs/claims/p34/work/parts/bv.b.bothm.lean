set_option maxHeartbeats 4000000 in
set_option maxRecDepth 100000 in
theorem c_X5_both_x (l : Launch) (dC : Nat → ClassId) (dI : Nat → Nat → Nat) (h0 : Nat) (g_row : Nat) (g_many : Nat) (g_loss : Nat) (g_less : Nat) (g_voteValue : Nat) (g_voteNumber : Nat) (g_allValue : Nat) (g_allNumber : Nat) (g_nodeL : Nat) (g_nodeR : Nat) (g_part : Nat) (g_wasMany : Nat) (g_wasLoss : Nat) (g_wasValue : Nat) (g_wasNumber : Nat) (g_path : Nat) (g_heavyValue : Nat) (g_heavyTimes : Nat) (g_fewest : Nat) (g_which : Nat) (g_met : Nat) (m_n : Int32) (m_slots : Int32) (m_thrown : Int32) (m_allMany : Int32) (m_nodes : Int32) (m_partMany : Int32) (m_pathMany : Int32) (m_heavyMany : Int32) (m_mostMet : Int32) (cyI : ClassId) (f : Nat → Int32) (zv : Nat → Int32) (zt : Nat → Int32) (p0 : Int32) (p1 : Int32) (p2 : Int32) (p3 : Int32) (p4 : Int32) (p5 : Int32) (sz : Nat) (a0 : 0 ≤ m_n.toInt) (a1 : m_n.toInt ≤ 160) (sl0 : 1 ≤ m_slots.toInt) (sl1 : m_slots.toInt ≤ 6) : kx_MQ l (dC, dI) yX5_both wsX5_both ({ frames := 2, cells := 0, slots := 0, locals := 90 }) [.ref h0, .int p0, .int p1, .int p2, .int p3, .int p4, .int p5] [kx_5 h0 g_row m_n m_slots m_thrown g_many g_loss g_less g_voteValue g_voteNumber g_allValue g_allNumber m_allMany g_nodeL g_nodeR m_nodes g_part m_partMany g_wasMany g_wasLoss g_wasValue g_wasNumber g_path m_pathMany g_heavyValue g_heavyTimes m_heavyMany g_fewest g_which g_met m_mostMet, kx_a g_row cyI 160 f, kx_a g_heavyValue cyI 160 zv, kx_a g_heavyTimes cyI 160 zt] [(cyI, .int)] sz (fun A => va_Qi (fun (r : Int32) (u : Int32 × (Nat → Int32) × (Nat → Int32)) => ((0 ≤ p0.toInt ∧ p0.toInt < p1.toInt ∧ p1.toInt ≤ m_n.toInt ∧ 0 ≤ p2.toInt ∧ p2.toInt < p3.toInt ∧ p3.toInt ≤ m_n.toInt ∧ 1 ≤ p4.toInt ∧ p4.toInt ≤ p5.toInt ∧ p5.toInt ≤ 999 ∧ p5.toInt ≤ p4.toInt * (m_slots.toInt + 1) ∧ (p3.toInt ≤ p0.toInt ∨ p1.toInt ≤ p2.toInt)) ∧ mj_vs u.2.1 u.2.2 0 u.1.toNatClampNeg (mj_hvm p4.toInt p5.toInt (p1.toInt - p0.toInt + p3.toInt - p2.toInt) (fun v => (cnt f v p0.toNatClampNeg (p1.toInt - p0.toInt).toNat : Int) + (cnt f v p2.toNatClampNeg ((p3.toInt : Int) - p2.toInt).toNat : Int))) ∧ mj_srt u.2.1 u.2.2 0 u.1.toNatClampNeg ∧ 0 ≤ u.1.toInt ∧ u.1.toInt ≤ 160 ∧ r = u.1) ∨ (((p0.toInt < 0 ∨ p1.toInt ≤ p0.toInt ∨ m_n.toInt < p1.toInt) ∨ (p2.toInt < 0 ∨ p3.toInt ≤ p2.toInt ∨ m_n.toInt < p3.toInt) ∨ p4.toInt < 1 ∨ p5.toInt < p4.toInt ∨ 999 < p5.toInt) ∧ r = -1) ∨ ((0 ≤ p0.toInt ∧ p0.toInt < p1.toInt ∧ p1.toInt ≤ m_n.toInt ∧ 0 ≤ p2.toInt ∧ p2.toInt < p3.toInt ∧ p3.toInt ≤ m_n.toInt ∧ 1 ≤ p4.toInt ∧ p4.toInt ≤ p5.toInt ∧ p5.toInt ≤ 999 ∧ p4.toInt * (m_slots.toInt + 1) < p5.toInt) ∧ r = -2) ∨ ((0 ≤ p0.toInt ∧ p0.toInt < p1.toInt ∧ p1.toInt ≤ m_n.toInt ∧ 0 ≤ p2.toInt ∧ p2.toInt < p3.toInt ∧ p3.toInt ≤ m_n.toInt ∧ 1 ≤ p4.toInt ∧ p4.toInt ≤ p5.toInt ∧ p5.toInt ≤ 999 ∧ p5.toInt ≤ p4.toInt * (m_slots.toInt + 1) ∧ p0.toInt < p3.toInt ∧ p2.toInt < p1.toInt) ∧ r = -3)) (fun (u : Int32 × (Nat → Int32) × (Nat → Int32)) (t : State) => va_P (dC, dI) vwCl [kx_5 h0 g_row m_n m_slots 0 g_many g_loss g_less g_voteValue g_voteNumber g_allValue g_allNumber m_allMany g_nodeL g_nodeR m_nodes g_part m_partMany g_wasMany g_wasLoss g_wasValue g_wasNumber g_path m_pathMany g_heavyValue g_heavyTimes u.1 g_fewest g_which g_met m_mostMet, kx_a g_row cyI 160 f, kx_a g_heavyValue cyI 160 u.2.1, kx_a g_heavyTimes cyI 160 u.2.2] t.heap ∧ va_K (dC, dI) vwCl [(cyI, .int)] t ∧ va_D A [kx_5 h0 g_row m_n m_slots 0 g_many g_loss g_less g_voteValue g_voteNumber g_allValue g_allNumber m_allMany g_nodeL g_nodeR m_nodes g_part m_partMany g_wasMany g_wasLoss g_wasValue g_wasNumber g_path m_pathMany g_heavyValue g_heavyTimes u.1 g_fewest g_which g_met m_mostMet, kx_a g_row cyI 160 f, kx_a g_heavyValue cyI 160 u.2.1, kx_a g_heavyTimes cyI 160 u.2.2]) A) := by
  refine kx_stQ (ws := wsX5_both) (cc := cX5_both) (maxL := 7) (ret := (some .int)) (by decide) rfl (Nat.le_of_ble_eq_true rfl) ?_
  intro p e s m below meth c A ls hx hb hr hlocks hts hown hml hA hS hP hK hD hl
  have hown : s.vm.findClass RX5 = some m.cls := hown
  have hl : lv_has ls 7 [(0, .ref h0), (1, .int p0), (2, .int p1), (3, .int p2), (4, .int p3), (5, .int p4), (6, .int p5)] := hl
  have hf_77 := hts (.fieldLink RX5 77 "MajorityIndexModel" "thrown" "I") (List.mem_of_getElem? (i := 1) rfl)
  have hi_5 : ∀ w ∈ u_ws RX5 TX5 30, w ∈ wsX5_both := fun w h => List.mem_cons_of_mem _ (List.mem_append_right _ h)
  have hf_178 := hts (.fieldLink RX5 178 "MajorityIndexModel" "heavyMany" "I") (List.mem_of_getElem? (i := 2) rfl)
  refine lv_aload_n hx hb dX5_both_0 rfl (lv_at hl 0 rfl) ?_
  refine lv_iconst (v := 0) hx hb dX5_both_1 (by decide) ?_
  refine va_put (D := (dC, dI)) (ci := 5) (v := .int 0) (ty := .int) (C := RX5) (T := TX5) (N := 30) hx hb hts hi_5 tyX5 tyX5_ok nmX5 hown hK hP hD hS 0 rfl rfl 3 (by decide) hf_77 (fun _ h9 => h9) rfl (by decide +kernel) rfl rfl (Nat.le_of_ble_eq_true rfl) dX5_both_2 (fun H locs hP hD hS => ?_)
  obtain ⟨hP, hD⟩ := kx_re (w2 := [kx_5 h0 g_row m_n m_slots 0 g_many g_loss g_less g_voteValue g_voteNumber g_allValue g_allNumber m_allMany g_nodeL g_nodeR m_nodes g_part m_partMany g_wasMany g_wasLoss g_wasValue g_wasNumber g_path m_pathMany g_heavyValue g_heavyTimes m_heavyMany g_fewest g_which g_met m_mostMet, kx_a g_row cyI 160 f, kx_a g_heavyValue cyI 160 zv, kx_a g_heavyTimes cyI 160 zt]) hP hD rfl
  refine lv_aload_n hx hb dX5_both_5 rfl (lv_at hl 0 rfl) ?_
  refine lv_iload_n hx hb dX5_both_6 rfl (lv_at hl 1 rfl) ?_
  refine lv_iload_n hx hb dX5_both_7 rfl (lv_at hl 2 rfl) ?_
  have hPc := hP.sub (ws' := [kx_5 h0 g_row m_n m_slots 0 g_many g_loss g_less g_voteValue g_voteNumber g_allValue g_allNumber m_allMany g_nodeL g_nodeR m_nodes g_part m_partMany g_wasMany g_wasLoss g_wasValue g_wasNumber g_path m_pathMany g_heavyValue g_heavyTimes m_heavyMany g_fewest g_which g_met m_mostMet]) [0] rfl
  have hKc := hK.sub (tys' := []) [] rfl
  refine vp_callSi (W.runV (As := [.int p0, .int p1]) (rest := []) ⟨hx, hb, hml, hown, hts⟩ (c_X5_isRange l dC dI h0 g_row g_many g_loss g_less g_voteValue g_voteNumber g_allValue g_allNumber g_nodeL g_nodeR g_part g_wasMany g_wasLoss g_wasValue g_wasNumber g_path g_heavyValue g_heavyTimes g_fewest g_which g_met m_n m_slots 0 m_allMany m_nodes m_partMany m_pathMany m_heavyMany m_mostMet p0 p1) (cwV 2 hts gX5_both_X5_isRange rfl rfl rfl (by decide +kernel) ⟨Nat.le_of_ble_eq_true rfl, Nat.le_of_ble_eq_true rfl⟩) ⟨fun a U g mk q => by obtain ⟨q0, qP, qK⟩ := q; exact ⟨q0, qP, va_K.moved (u := U) (U := U.calling g mk a) (Vm.Alike.refl U.vm) qK⟩, kx_rc5 hKc hPc (q0 := 0) rfl, fun U hU hW => ⟨rfl, by rw [hU]; exact hPc, va_K.moved hW.alike hKc⟩⟩ rfl rfl hl.1 rfl (lv_room (Nat.le_of_ble_eq_true rfl)) dX5_both_8 ⟨Nat.le_of_ble_eq_true rfl, Nat.le_of_ble_eq_true rfl⟩) (fun r_1 w_1 => ?_)
  rcases w_1 with ⟨rfl, w_1⟩ | ⟨rfl, w_1⟩
  · have w_1 : (0 ≤ p0.toInt ∧ p0.toInt < p1.toInt ∧ p1.toInt ≤ m_n.toInt) := w_1
    refine lv_if_eq (tgt := 34) hx hb dX5_both_11 (by decide) (fun c_2 => ?_) (fun c_2 => ?_)
    · exact absurd c_2 (by decide)
    · refine lv_aload_n hx hb dX5_both_14 rfl (lv_at hl 0 rfl) ?_
      refine lv_iload_n hx hb dX5_both_15 rfl (lv_at hl 3 rfl) ?_
      refine lv_iload hx hb dX5_both_16 (lv_at hl 4 rfl) ?_
      have hPc := hP.sub (ws' := [kx_5 h0 g_row m_n m_slots 0 g_many g_loss g_less g_voteValue g_voteNumber g_allValue g_allNumber m_allMany g_nodeL g_nodeR m_nodes g_part m_partMany g_wasMany g_wasLoss g_wasValue g_wasNumber g_path m_pathMany g_heavyValue g_heavyTimes m_heavyMany g_fewest g_which g_met m_mostMet]) [0] rfl
      have hKc := hK.sub (tys' := []) [] rfl
      refine vp_callSi (W.runV (As := [.int p2, .int p3]) (rest := []) ⟨hx, hb, hml, hown, hts⟩ (c_X5_isRange l dC dI h0 g_row g_many g_loss g_less g_voteValue g_voteNumber g_allValue g_allNumber g_nodeL g_nodeR g_part g_wasMany g_wasLoss g_wasValue g_wasNumber g_path g_heavyValue g_heavyTimes g_fewest g_which g_met m_n m_slots 0 m_allMany m_nodes m_partMany m_pathMany m_heavyMany m_mostMet p2 p3) (cwV 2 hts gX5_both_X5_isRange rfl rfl rfl (by decide +kernel) ⟨Nat.le_of_ble_eq_true rfl, Nat.le_of_ble_eq_true rfl⟩) ⟨fun a U g mk q => by obtain ⟨q0, qP, qK⟩ := q; exact ⟨q0, qP, va_K.moved (u := U) (U := U.calling g mk a) (Vm.Alike.refl U.vm) qK⟩, kx_rc5 hKc hPc (q0 := 0) rfl, fun U hU hW => ⟨rfl, by rw [hU]; exact hPc, va_K.moved hW.alike hKc⟩⟩ rfl rfl hl.1 rfl (lv_room (Nat.le_of_ble_eq_true rfl)) dX5_both_18 ⟨Nat.le_of_ble_eq_true rfl, Nat.le_of_ble_eq_true rfl⟩) (fun r_3 w_3 => ?_)
      rcases w_3 with ⟨rfl, w_3⟩ | ⟨rfl, w_3⟩
      · have w_3 : (0 ≤ p2.toInt ∧ p2.toInt < p3.toInt ∧ p3.toInt ≤ m_n.toInt) := w_3
        refine lv_if_eq (tgt := 34) hx hb dX5_both_21 (by decide) (fun c_4 => ?_) (fun c_4 => ?_)
        · exact absurd c_4 (by decide)
        · refine lv_iload hx hb dX5_both_24 (lv_at hl 5 rfl) ?_
          refine lv_iload hx hb dX5_both_26 (lv_at hl 6 rfl) ?_
          have hPc := hP.sub (ws' := []) [] rfl
          have hKc := hK.sub (tys' := []) [] rfl
          refine vp_callSi (W.runS (As := [.int p4, .int p5]) (rest := []) ⟨hx, hb, hml, hown, hts⟩ (c_X5_isShare l dC dI p4 p5) (va_cwS 2 hts gX5_both_X5_isShare rfl rfl rfl (by decide +kernel) ⟨Nat.le_of_ble_eq_true rfl, Nat.le_of_ble_eq_true rfl⟩) ⟨fun a U g mk q => by obtain ⟨q0, qP, qK⟩ := q; exact ⟨q0, qP, va_K.moved (u := U) (U := U.calling g mk a) (Vm.Alike.refl U.vm) qK⟩, fun U hU hW => ⟨rfl, by rw [hU]; exact hPc, va_K.moved hW.alike hKc⟩⟩ rfl rfl hl.1 rfl (lv_room (Nat.le_of_ble_eq_true rfl)) dX5_both_28 ⟨Nat.le_of_ble_eq_true rfl, Nat.le_of_ble_eq_true rfl⟩) (fun r_5 w_5 => ?_)
          rcases w_5 with ⟨rfl, w_5⟩ | ⟨rfl, w_5⟩
          · have w_5 : (1 ≤ p4.toInt ∧ p4.toInt ≤ p5.toInt ∧ p5.toInt ≤ 999) := w_5
            refine lv_if_ne (tgt := 36) hx hb dX5_both_31 (by decide) (fun c_6 => ?_) (fun c_6 => ?_)
            · refine lv_aload_n hx hb dX5_both_36 rfl (lv_at hl 0 rfl) ?_
              refine lv_iload hx hb dX5_both_37 (lv_at hl 5 rfl) ?_
              refine lv_iload hx hb dX5_both_39 (lv_at hl 6 rfl) ?_
              have hPc := hP.sub (ws' := [kx_5 h0 g_row m_n m_slots 0 g_many g_loss g_less g_voteValue g_voteNumber g_allValue g_allNumber m_allMany g_nodeL g_nodeR m_nodes g_part m_partMany g_wasMany g_wasLoss g_wasValue g_wasNumber g_path m_pathMany g_heavyValue g_heavyTimes m_heavyMany g_fewest g_which g_met m_mostMet]) [0] rfl
              have hKc := hK.sub (tys' := []) [] rfl
              refine vp_callSi (W.runV (As := [.int p4, .int p5]) (rest := []) ⟨hx, hb, hml, hown, hts⟩ (c_X5_isEnough_x l dC dI h0 g_row g_many g_loss g_less g_voteValue g_voteNumber g_allValue g_allNumber g_nodeL g_nodeR g_part g_wasMany g_wasLoss g_wasValue g_wasNumber g_path g_heavyValue g_heavyTimes g_fewest g_which g_met m_n m_slots 0 m_allMany m_nodes m_partMany m_pathMany m_heavyMany m_mostMet p4 p5 sl0 sl1 (om_151 w_5.1) (om_531 w_5.2.1 w_5.2.2)) (cwV 2 hts gX5_both_X5_isEnough rfl rfl rfl (by decide +kernel) ⟨Nat.le_of_ble_eq_true rfl, Nat.le_of_ble_eq_true rfl⟩) ⟨fun a U g mk q => by obtain ⟨q0, qP, qK⟩ := q; exact ⟨q0, qP, va_K.moved (u := U) (U := U.calling g mk a) (Vm.Alike.refl U.vm) qK⟩, kx_rc5 hKc hPc (q0 := 0) rfl, fun U hU hW => ⟨rfl, by rw [hU]; exact hPc, va_K.moved hW.alike hKc⟩⟩ rfl rfl hl.1 rfl (lv_room (Nat.le_of_ble_eq_true rfl)) dX5_both_41 ⟨Nat.le_of_ble_eq_true rfl, Nat.le_of_ble_eq_true rfl⟩) (fun r_7 w_7 => ?_)
              rcases w_7 with ⟨rfl, w_7⟩ | ⟨rfl, w_7⟩
              · have w_7 : p5.toInt ≤ p4.toInt * (m_slots.toInt + 1) := w_7
                refine lv_if_ne (tgt := 50) hx hb dX5_both_44 (by decide) (fun c_8 => ?_) (fun c_8 => ?_)
                · refine lv_iload_n hx hb dX5_both_50 rfl (lv_at hl 1 rfl) ?_
                  refine lv_iload hx hb dX5_both_51 (lv_at hl 4 rfl) ?_
                  refine lv_icmp_ge (tgt := 64) hx hb dX5_both_53 (by decide) (fun c_9 => ?_) (fun c_9 => ?_)
                  · have i_9 : p3.toInt ≤ p0.toInt := kc_le c_9
                    refine lv_aload_n hx hb dX5_both_64 rfl (lv_at hl 0 rfl) ?_
                    refine lv_iload_n hx hb dX5_both_65 rfl (lv_at hl 1 rfl) ?_
                    refine lv_iload_n hx hb dX5_both_66 rfl (lv_at hl 2 rfl) ?_
                    refine lv_iload_n hx hb dX5_both_67 rfl (lv_at hl 3 rfl) ?_
                    refine lv_iload hx hb dX5_both_68 (lv_at hl 4 rfl) ?_
                    refine lv_iload hx hb dX5_both_70 (lv_at hl 5 rfl) ?_
                    refine lv_iload hx hb dX5_both_72 (lv_at hl 6 rfl) ?_
                    have hPc := hP
                    have hKc := hK
                    have hDc := hD
                    have hFc := kx_free hD hS hA
                    refine va_callv (va_runV (As := [.int p0, .int p1, .int p2, .int p3, .int p4, .int p5]) (rest := []) ⟨hx, hb, hml, hown, hts⟩ (kx_un (c_X5_laysHeavy_x l dC dI h0 g_row g_many g_loss g_less g_voteValue g_voteNumber g_allValue g_allNumber g_nodeL g_nodeR g_part g_wasMany g_wasLoss g_wasValue g_wasNumber g_path g_heavyValue g_heavyTimes g_fewest g_which g_met m_n m_slots 0 m_allMany m_nodes m_partMany m_pathMany m_heavyMany m_mostMet cyI f zv zt p0 p1 p2 p3 p4 p5 H.size (om_10 w_1.1) (om_414 w_1.2.1) (om_167 a1 w_1.2.2) (om_10 w_3.1) (om_414 w_3.2.1) (om_167 a1 w_3.2.2) (om_417 a1 w_1.2.2 w_3.1 i_9) (om_151 w_5.1) (om_9 w_5.2.1) (om_152 w_5.2.2))) (cwV 6 hts gX5_both_X5_laysHeavy rfl rfl rfl (by decide +kernel) ⟨Nat.le_of_ble_eq_true rfl, Nat.le_of_ble_eq_true rfl⟩) ⟨fun a U g mk q => by obtain ⟨q0, q1, qP, qK, qD⟩ := q; exact ⟨q0, q1, qP, va_K.moved (u := U) (U := U.calling g mk a) (Vm.Alike.refl U.vm) qK, qD⟩, kx_rc5 hKc hPc (q0 := 0) rfl, fun U hU hW => ⟨rfl, by rw [hU], by rw [hU]; exact hPc, va_K.moved hW.alike hKc, hDc.weaken (fun _ _ _ _ => trivial)⟩⟩ rfl rfl hl.1 rfl (lv_room (Nat.le_of_ble_eq_true rfl)) dX5_both_74 ⟨Nat.le_of_ble_eq_true rfl, Nat.le_of_ble_eq_true rfl⟩) hS (fun q _ h => hFc q h) hFc (fun u t H1 locs ht hvm w_10 hB hz1 hk1 hS => ?_)
                    obtain ⟨o_11, o_12, o_13, o_14⟩ := u
                    dsimp only at w_10 hB
                    obtain ⟨hP1, hK1, hD1⟩ := hB
                    rw [ht] at hP1
                    have hK1 := va_K.moved hvm.symm hK1
                    have hD := hD1.weaken (fun _ q _ h => hFc q.1 h)
                    have hP := hP1
                    clear hP1 hD1 hK1 hk1 hz1 hFc hDc hPc hKc
                    generalize H1 = H at hP hS ⊢
                    have w_10 : o_14 = p1.toInt - p0.toInt + p3.toInt - p2.toInt ∧ mj_vs o_12 o_13 0 o_11.toNatClampNeg (mj_hvm p4.toInt p5.toInt o_14 (fun v => (cnt f v p0.toNatClampNeg (p1.toInt - p0.toInt).toNat : Int) + (cnt f v p2.toNatClampNeg ((p3.toInt : Int) - p2.toInt).toNat : Int))) ∧ mj_srt o_12 o_13 0 o_11.toNatClampNeg ∧ 0 ≤ o_11.toInt ∧ o_11.toInt ≤ 160 := w_10
                    refine lv_aload_n hx hb dX5_both_77 rfl (lv_at hl 0 rfl) ?_
                    refine va_get (D := (dC, dI)) (ci := 5) (v := .int o_11) (C := RX5) (T := TX5) (N := 30) hx hb hts hi_5 hown hK hP 0 rfl rfl 25 (by decide) hf_178 (fun _ h9 => h9) rfl dX5_both_78 ?_
                    have hP9 := hP
                    have hD9 := hD
                    have hK9 := hK
                    exact W.iret (v := o_11) hx hb hr (hlocks := hlocks) (fun t ht hW => ⟨⟨o_11, (o_11, o_12, o_13), rfl, (Or.inl ⟨(by (try dsimp only); omega), (by (try dsimp only); have h9 := w_10.2.1; rw [w_10.1] at h9; exact h9), w_10.2.2.1, (by (try dsimp only); omega), (by (try dsimp only); omega), rfl⟩), by rw [ht]; exact hP9, va_K.moved hW.alike hK9, hD9⟩, hS.F ht⟩) hS.2.2 dX5_both_81
                  · have i_9 : p0.toInt < p3.toInt := kc_nle c_9
                    refine lv_iload_n hx hb dX5_both_56 rfl (lv_at hl 3 rfl) ?_
                    refine lv_iload_n hx hb dX5_both_57 rfl (lv_at hl 2 rfl) ?_
                    refine lv_icmp_ge (tgt := 64) hx hb dX5_both_58 (by decide) (fun c_15 => ?_) (fun c_15 => ?_)
                    · have i_15 : p1.toInt ≤ p2.toInt := kc_le c_15
                      refine lv_aload_n hx hb dX5_both_64 rfl (lv_at hl 0 rfl) ?_
                      refine lv_iload_n hx hb dX5_both_65 rfl (lv_at hl 1 rfl) ?_
                      refine lv_iload_n hx hb dX5_both_66 rfl (lv_at hl 2 rfl) ?_
                      refine lv_iload_n hx hb dX5_both_67 rfl (lv_at hl 3 rfl) ?_
                      refine lv_iload hx hb dX5_both_68 (lv_at hl 4 rfl) ?_
                      refine lv_iload hx hb dX5_both_70 (lv_at hl 5 rfl) ?_
                      refine lv_iload hx hb dX5_both_72 (lv_at hl 6 rfl) ?_
                      have hPc := hP
                      have hKc := hK
                      have hDc := hD
                      have hFc := kx_free hD hS hA
                      refine va_callv (va_runV (As := [.int p0, .int p1, .int p2, .int p3, .int p4, .int p5]) (rest := []) ⟨hx, hb, hml, hown, hts⟩ (kx_un (c_X5_laysHeavy_x l dC dI h0 g_row g_many g_loss g_less g_voteValue g_voteNumber g_allValue g_allNumber g_nodeL g_nodeR g_part g_wasMany g_wasLoss g_wasValue g_wasNumber g_path g_heavyValue g_heavyTimes g_fewest g_which g_met m_n m_slots 0 m_allMany m_nodes m_partMany m_pathMany m_heavyMany m_mostMet cyI f zv zt p0 p1 p2 p3 p4 p5 H.size (om_10 w_1.1) (om_414 w_1.2.1) (om_167 a1 w_1.2.2) (om_10 w_3.1) (om_414 w_3.2.1) (om_167 a1 w_3.2.2) (om_418 a1 w_1.1 w_3.2.2 i_15) (om_151 w_5.1) (om_9 w_5.2.1) (om_152 w_5.2.2))) (cwV 6 hts gX5_both_X5_laysHeavy rfl rfl rfl (by decide +kernel) ⟨Nat.le_of_ble_eq_true rfl, Nat.le_of_ble_eq_true rfl⟩) ⟨fun a U g mk q => by obtain ⟨q0, q1, qP, qK, qD⟩ := q; exact ⟨q0, q1, qP, va_K.moved (u := U) (U := U.calling g mk a) (Vm.Alike.refl U.vm) qK, qD⟩, kx_rc5 hKc hPc (q0 := 0) rfl, fun U hU hW => ⟨rfl, by rw [hU], by rw [hU]; exact hPc, va_K.moved hW.alike hKc, hDc.weaken (fun _ _ _ _ => trivial)⟩⟩ rfl rfl hl.1 rfl (lv_room (Nat.le_of_ble_eq_true rfl)) dX5_both_74 ⟨Nat.le_of_ble_eq_true rfl, Nat.le_of_ble_eq_true rfl⟩) hS (fun q _ h => hFc q h) hFc (fun u t H1 locs ht hvm w_16 hB hz1 hk1 hS => ?_)
                      obtain ⟨o_17, o_18, o_19, o_20⟩ := u
                      dsimp only at w_16 hB
                      obtain ⟨hP1, hK1, hD1⟩ := hB
                      rw [ht] at hP1
                      have hK1 := va_K.moved hvm.symm hK1
                      have hD := hD1.weaken (fun _ q _ h => hFc q.1 h)
                      have hP := hP1
                      clear hP1 hD1 hK1 hk1 hz1 hFc hDc hPc hKc
                      generalize H1 = H at hP hS ⊢
                      have w_16 : o_20 = p1.toInt - p0.toInt + p3.toInt - p2.toInt ∧ mj_vs o_18 o_19 0 o_17.toNatClampNeg (mj_hvm p4.toInt p5.toInt o_20 (fun v => (cnt f v p0.toNatClampNeg (p1.toInt - p0.toInt).toNat : Int) + (cnt f v p2.toNatClampNeg ((p3.toInt : Int) - p2.toInt).toNat : Int))) ∧ mj_srt o_18 o_19 0 o_17.toNatClampNeg ∧ 0 ≤ o_17.toInt ∧ o_17.toInt ≤ 160 := w_16
                      refine lv_aload_n hx hb dX5_both_77 rfl (lv_at hl 0 rfl) ?_
                      refine va_get (D := (dC, dI)) (ci := 5) (v := .int o_17) (C := RX5) (T := TX5) (N := 30) hx hb hts hi_5 hown hK hP 0 rfl rfl 25 (by decide) hf_178 (fun _ h9 => h9) rfl dX5_both_78 ?_
                      have hP9 := hP
                      have hD9 := hD
                      have hK9 := hK
                      exact W.iret (v := o_17) hx hb hr (hlocks := hlocks) (fun t ht hW => ⟨⟨o_17, (o_17, o_18, o_19), rfl, (Or.inl ⟨(by (try dsimp only); omega), (by (try dsimp only); have h9 := w_16.2.1; rw [w_16.1] at h9; exact h9), w_16.2.2.1, (by (try dsimp only); omega), (by (try dsimp only); omega), rfl⟩), by rw [ht]; exact hP9, va_K.moved hW.alike hK9, hD9⟩, hS.F ht⟩) hS.2.2 dX5_both_81
                    · have i_15 : p2.toInt < p1.toInt := kc_nle c_15
                      refine lv_bipush (v := (-3)) hx hb dX5_both_61 (by decide) ?_
                      have hP9 := hP
                      have hD9 := hD
                      have hK9 := hK
                      exact W.iret (v := (-3)) hx hb hr (hlocks := hlocks) (fun t ht hW => ⟨⟨(-3), (m_heavyMany, zv, zt), rfl, (Or.inr (Or.inr (Or.inr ⟨(by (try dsimp only); omega), rfl⟩))), by rw [ht]; exact hP9, va_K.moved hW.alike hK9, hD9⟩, hS.F ht⟩) hS.2.2 dX5_both_63
                · exact absurd c_8 (by decide)
              · have w_7 : p4.toInt * (m_slots.toInt + 1) < p5.toInt := w_7
                refine lv_if_ne (tgt := 50) hx hb dX5_both_44 (by decide) (fun c_21 => ?_) (fun c_21 => ?_)
                · exact absurd c_21 (by decide)
                · refine lv_bipush (v := (-2)) hx hb dX5_both_47 (by decide) ?_
                  have hP9 := hP
                  have hD9 := hD
                  have hK9 := hK
                  exact W.iret (v := (-2)) hx hb hr (hlocks := hlocks) (fun t ht hW => ⟨⟨(-2), (m_heavyMany, zv, zt), rfl, (Or.inr (Or.inr (Or.inl ⟨(by (try dsimp only); omega), rfl⟩))), by rw [ht]; exact hP9, va_K.moved hW.alike hK9, hD9⟩, hS.F ht⟩) hS.2.2 dX5_both_49
            · exact absurd c_6 (by decide)
          · have w_5 : (p4.toInt < 1 ∨ p5.toInt < p4.toInt ∨ 999 < p5.toInt) := w_5
            refine lv_if_ne (tgt := 36) hx hb dX5_both_31 (by decide) (fun c_22 => ?_) (fun c_22 => ?_)
            · exact absurd c_22 (by decide)
            · refine lv_iconst (v := (-1)) hx hb dX5_both_34 (by decide) ?_
              have hP9 := hP
              have hD9 := hD
              have hK9 := hK
              exact W.iret (v := (-1)) hx hb hr (hlocks := hlocks) (fun t ht hW => ⟨⟨(-1), (m_heavyMany, zv, zt), rfl, (Or.inr (Or.inl ⟨(by (try dsimp only); omega), rfl⟩)), by rw [ht]; exact hP9, va_K.moved hW.alike hK9, hD9⟩, hS.F ht⟩) hS.2.2 dX5_both_35
      · have w_3 : (p2.toInt < 0 ∨ p3.toInt ≤ p2.toInt ∨ m_n.toInt < p3.toInt) := w_3
        refine lv_if_eq (tgt := 34) hx hb dX5_both_21 (by decide) (fun c_23 => ?_) (fun c_23 => ?_)
        · refine lv_iconst (v := (-1)) hx hb dX5_both_34 (by decide) ?_
          have hP9 := hP
          have hD9 := hD
          have hK9 := hK
          exact W.iret (v := (-1)) hx hb hr (hlocks := hlocks) (fun t ht hW => ⟨⟨(-1), (m_heavyMany, zv, zt), rfl, (Or.inr (Or.inl ⟨(by (try dsimp only); omega), rfl⟩)), by rw [ht]; exact hP9, va_K.moved hW.alike hK9, hD9⟩, hS.F ht⟩) hS.2.2 dX5_both_35
        · exact absurd c_23 (by decide)
  · have w_1 : (p0.toInt < 0 ∨ p1.toInt ≤ p0.toInt ∨ m_n.toInt < p1.toInt) := w_1
    refine lv_if_eq (tgt := 34) hx hb dX5_both_11 (by decide) (fun c_24 => ?_) (fun c_24 => ?_)
    · refine lv_iconst (v := (-1)) hx hb dX5_both_34 (by decide) ?_
      have hP9 := hP
      have hD9 := hD
      have hK9 := hK
      exact W.iret (v := (-1)) hx hb hr (hlocks := hlocks) (fun t ht hW => ⟨⟨(-1), (m_heavyMany, zv, zt), rfl, (Or.inr (Or.inl ⟨(by (try dsimp only); omega), rfl⟩)), by rw [ht]; exact hP9, va_K.moved hW.alike hK9, hD9⟩, hS.F ht⟩) hS.2.2 dX5_both_35
    · exact absurd c_24 (by decide)

set_option maxHeartbeats 4000000 in
set_option maxRecDepth 100000 in
theorem c_X5_bothAt_x (l : Launch) (dC : Nat → ClassId) (dI : Nat → Nat → Nat) (h0 : Nat) (g_row : Nat) (g_many : Nat) (g_loss : Nat) (g_less : Nat) (g_voteValue : Nat) (g_voteNumber : Nat) (g_allValue : Nat) (g_allNumber : Nat) (g_nodeL : Nat) (g_nodeR : Nat) (g_part : Nat) (g_wasMany : Nat) (g_wasLoss : Nat) (g_wasValue : Nat) (g_wasNumber : Nat) (g_path : Nat) (g_heavyValue : Nat) (g_heavyTimes : Nat) (g_fewest : Nat) (g_which : Nat) (g_met : Nat) (m_n : Int32) (m_slots : Int32) (m_thrown : Int32) (m_allMany : Int32) (m_nodes : Int32) (m_partMany : Int32) (m_pathMany : Int32) (m_heavyMany : Int32) (m_mostMet : Int32) (cyI : ClassId) (f : Nat → Int32) (zv : Nat → Int32) (zt : Nat → Int32) (p0 : Int32) (p1 : Int32) (p2 : Int32) (p3 : Int32) (p4 : Int32) (p5 : Int32) (p6 : Int32) (sz : Nat) (a0 : 0 ≤ m_n.toInt) (a1 : m_n.toInt ≤ 160) (sl0 : 1 ≤ m_slots.toInt) (sl1 : m_slots.toInt ≤ 6) : kx_MQ l (dC, dI) yX5_bothAt wsX5_bothAt ({ frames := 3, cells := 0, slots := 0, locals := 135 }) [.ref h0, .int p0, .int p1, .int p2, .int p3, .int p4, .int p5, .int p6] [kx_5 h0 g_row m_n m_slots m_thrown g_many g_loss g_less g_voteValue g_voteNumber g_allValue g_allNumber m_allMany g_nodeL g_nodeR m_nodes g_part m_partMany g_wasMany g_wasLoss g_wasValue g_wasNumber g_path m_pathMany g_heavyValue g_heavyTimes m_heavyMany g_fewest g_which g_met m_mostMet, kx_a g_row cyI 160 f, kx_a g_heavyValue cyI 160 zv, kx_a g_heavyTimes cyI 160 zt] [(cyI, .int)] sz (fun A => va_Qi (fun (r : Int32) (u : Int32 × (Nat → Int32) × (Nat → Int32)) => (((0 ≤ p0.toInt ∧ p0.toInt < p1.toInt ∧ p1.toInt ≤ m_n.toInt ∧ 0 ≤ p2.toInt ∧ p2.toInt < p3.toInt ∧ p3.toInt ≤ m_n.toInt ∧ 1 ≤ p4.toInt ∧ p4.toInt ≤ p5.toInt ∧ p5.toInt ≤ 999 ∧ p5.toInt ≤ p4.toInt * (m_slots.toInt + 1) ∧ (p3.toInt ≤ p0.toInt ∨ p1.toInt ≤ p2.toInt)) ∧ mj_vs u.2.1 u.2.2 0 u.1.toNatClampNeg (mj_hvm p4.toInt p5.toInt (p1.toInt - p0.toInt + p3.toInt - p2.toInt) (fun v => (cnt f v p0.toNatClampNeg (p1.toInt - p0.toInt).toNat : Int) + (cnt f v p2.toNatClampNeg ((p3.toInt : Int) - p2.toInt).toNat : Int))) ∧ mj_srt u.2.1 u.2.2 0 u.1.toNatClampNeg ∧ 0 ≤ u.1.toInt ∧ u.1.toInt ≤ 160 ∧ ((0 ≤ p6.toInt ∧ p6.toInt < u.1.toInt ∧ r = u.2.1 p6.toNatClampNeg) ∨ ((p6.toInt < 0 ∨ u.1.toInt ≤ p6.toInt) ∧ r = -40000))) ∨ ((((p0.toInt < 0 ∨ p1.toInt ≤ p0.toInt ∨ m_n.toInt < p1.toInt) ∨ (p2.toInt < 0 ∨ p3.toInt ≤ p2.toInt ∨ m_n.toInt < p3.toInt) ∨ p4.toInt < 1 ∨ p5.toInt < p4.toInt ∨ 999 < p5.toInt) ∨ (0 ≤ p0.toInt ∧ p0.toInt < p1.toInt ∧ p1.toInt ≤ m_n.toInt ∧ 0 ≤ p2.toInt ∧ p2.toInt < p3.toInt ∧ p3.toInt ≤ m_n.toInt ∧ 1 ≤ p4.toInt ∧ p4.toInt ≤ p5.toInt ∧ p5.toInt ≤ 999 ∧ p4.toInt * (m_slots.toInt + 1) < p5.toInt) ∨ (0 ≤ p0.toInt ∧ p0.toInt < p1.toInt ∧ p1.toInt ≤ m_n.toInt ∧ 0 ≤ p2.toInt ∧ p2.toInt < p3.toInt ∧ p3.toInt ≤ m_n.toInt ∧ 1 ≤ p4.toInt ∧ p4.toInt ≤ p5.toInt ∧ p5.toInt ≤ 999 ∧ p5.toInt ≤ p4.toInt * (m_slots.toInt + 1) ∧ p0.toInt < p3.toInt ∧ p2.toInt < p1.toInt)) ∧ r = -40000))) (fun (u : Int32 × (Nat → Int32) × (Nat → Int32)) (t : State) => va_P (dC, dI) vwCl [kx_5 h0 g_row m_n m_slots 0 g_many g_loss g_less g_voteValue g_voteNumber g_allValue g_allNumber m_allMany g_nodeL g_nodeR m_nodes g_part m_partMany g_wasMany g_wasLoss g_wasValue g_wasNumber g_path m_pathMany g_heavyValue g_heavyTimes u.1 g_fewest g_which g_met m_mostMet, kx_a g_row cyI 160 f, kx_a g_heavyValue cyI 160 u.2.1, kx_a g_heavyTimes cyI 160 u.2.2] t.heap ∧ va_K (dC, dI) vwCl [(cyI, .int)] t ∧ va_D A [kx_5 h0 g_row m_n m_slots 0 g_many g_loss g_less g_voteValue g_voteNumber g_allValue g_allNumber m_allMany g_nodeL g_nodeR m_nodes g_part m_partMany g_wasMany g_wasLoss g_wasValue g_wasNumber g_path m_pathMany g_heavyValue g_heavyTimes u.1 g_fewest g_which g_met m_mostMet, kx_a g_row cyI 160 f, kx_a g_heavyValue cyI 160 u.2.1, kx_a g_heavyTimes cyI 160 u.2.2]) A) := by
  refine kx_stQ (ws := wsX5_bothAt) (cc := cX5_bothAt) (maxL := 9) (ret := (some .int)) (by decide) rfl (Nat.le_of_ble_eq_true rfl) ?_
  intro p e s m below meth c A ls hx hb hr hlocks hts hown hml hA hS hP hK hD hl
  have hown : s.vm.findClass RX5 = some m.cls := hown
  have hl : lv_has ls 9 [(0, .ref h0), (1, .int p0), (2, .int p1), (3, .int p2), (4, .int p3), (5, .int p4), (6, .int p5), (7, .int p6)] := hl
  have hf_62 := hts (.fieldLink RX5 62 "MajorityIndexModel" "heavyValue" "[I") (List.mem_of_getElem? (i := 1) rfl)
  have hi_5 : ∀ w ∈ u_ws RX5 TX5 30, w ∈ wsX5_bothAt := fun w h => List.mem_cons_of_mem _ (List.mem_append_right _ h)
  have hk_148 := hts (.constant RX5 148 (-40000)) (List.mem_of_getElem? (i := 2) rfl)
  refine lv_aload_n hx hb dX5_bothAt_0 rfl (lv_at hl 0 rfl) ?_
  refine lv_iload_n hx hb dX5_bothAt_1 rfl (lv_at hl 1 rfl) ?_
  refine lv_iload_n hx hb dX5_bothAt_2 rfl (lv_at hl 2 rfl) ?_
  refine lv_iload_n hx hb dX5_bothAt_3 rfl (lv_at hl 3 rfl) ?_
  refine lv_iload hx hb dX5_bothAt_4 (lv_at hl 4 rfl) ?_
  refine lv_iload hx hb dX5_bothAt_6 (lv_at hl 5 rfl) ?_
  refine lv_iload hx hb dX5_bothAt_8 (lv_at hl 6 rfl) ?_
  have hPc := hP
  have hKc := hK
  have hDc := hD
  have hFc := kx_free hD hS hA
  refine va_calli (va_runV (As := [.int p0, .int p1, .int p2, .int p3, .int p4, .int p5]) (rest := []) ⟨hx, hb, hml, hown, hts⟩ (kx_un (c_X5_both_x l dC dI h0 g_row g_many g_loss g_less g_voteValue g_voteNumber g_allValue g_allNumber g_nodeL g_nodeR g_part g_wasMany g_wasLoss g_wasValue g_wasNumber g_path g_heavyValue g_heavyTimes g_fewest g_which g_met m_n m_slots m_thrown m_allMany m_nodes m_partMany m_pathMany m_heavyMany m_mostMet cyI f zv zt p0 p1 p2 p3 p4 p5 s.heap.size a0 a1 sl0 sl1)) (cwV 6 hts gX5_bothAt_X5_both rfl rfl rfl (by decide +kernel) ⟨Nat.le_of_ble_eq_true rfl, Nat.le_of_ble_eq_true rfl⟩) ⟨fun a U g mk q => by obtain ⟨q0, q1, qP, qK, qD⟩ := q; exact ⟨q0, q1, qP, va_K.moved (u := U) (U := U.calling g mk a) (Vm.Alike.refl U.vm) qK, qD⟩, kx_rc5 hKc hPc (q0 := 0) rfl, fun U hU hW => ⟨rfl, by rw [hU], by rw [hU]; exact hPc, va_K.moved hW.alike hKc, hDc.weaken (fun _ _ _ _ => trivial)⟩⟩ rfl rfl hl.1 rfl (lv_room (Nat.le_of_ble_eq_true rfl)) dX5_bothAt_10 ⟨Nat.le_of_ble_eq_true rfl, Nat.le_of_ble_eq_true rfl⟩) hS (fun q _ h => hFc q h) hFc (fun r_1 u t H1 locs ht hvm w_1 hB hz1 hk1 hS => ?_)
  obtain ⟨o_2, o_3, o_4⟩ := u
  dsimp only at w_1 hB
  obtain ⟨hP1, hK1, hD1⟩ := hB
  rw [ht] at hP1
  have hK1 := va_K.moved hvm.symm hK1
  have hD := hD1.weaken (fun _ q _ h => hFc q.1 h)
  have hP := hP1
  clear hP1 hD1 hK1 hk1 hz1 hFc hDc hPc hKc
  generalize H1 = H at hP hS ⊢
  have w_1 : ((0 ≤ p0.toInt ∧ p0.toInt < p1.toInt ∧ p1.toInt ≤ m_n.toInt ∧ 0 ≤ p2.toInt ∧ p2.toInt < p3.toInt ∧ p3.toInt ≤ m_n.toInt ∧ 1 ≤ p4.toInt ∧ p4.toInt ≤ p5.toInt ∧ p5.toInt ≤ 999 ∧ p5.toInt ≤ p4.toInt * (m_slots.toInt + 1) ∧ (p3.toInt ≤ p0.toInt ∨ p1.toInt ≤ p2.toInt)) ∧ mj_vs o_3 o_4 0 o_2.toNatClampNeg (mj_hvm p4.toInt p5.toInt (p1.toInt - p0.toInt + p3.toInt - p2.toInt) (fun v => (cnt f v p0.toNatClampNeg (p1.toInt - p0.toInt).toNat : Int) + (cnt f v p2.toNatClampNeg ((p3.toInt : Int) - p2.toInt).toNat : Int))) ∧ mj_srt o_3 o_4 0 o_2.toNatClampNeg ∧ 0 ≤ o_2.toInt ∧ o_2.toInt ≤ 160 ∧ r_1 = o_2) ∨ (((p0.toInt < 0 ∨ p1.toInt ≤ p0.toInt ∨ m_n.toInt < p1.toInt) ∨ (p2.toInt < 0 ∨ p3.toInt ≤ p2.toInt ∨ m_n.toInt < p3.toInt) ∨ p4.toInt < 1 ∨ p5.toInt < p4.toInt ∨ 999 < p5.toInt) ∧ r_1 = -1) ∨ ((0 ≤ p0.toInt ∧ p0.toInt < p1.toInt ∧ p1.toInt ≤ m_n.toInt ∧ 0 ≤ p2.toInt ∧ p2.toInt < p3.toInt ∧ p3.toInt ≤ m_n.toInt ∧ 1 ≤ p4.toInt ∧ p4.toInt ≤ p5.toInt ∧ p5.toInt ≤ 999 ∧ p4.toInt * (m_slots.toInt + 1) < p5.toInt) ∧ r_1 = -2) ∨ ((0 ≤ p0.toInt ∧ p0.toInt < p1.toInt ∧ p1.toInt ≤ m_n.toInt ∧ 0 ≤ p2.toInt ∧ p2.toInt < p3.toInt ∧ p3.toInt ≤ m_n.toInt ∧ 1 ≤ p4.toInt ∧ p4.toInt ≤ p5.toInt ∧ p5.toInt ≤ 999 ∧ p5.toInt ≤ p4.toInt * (m_slots.toInt + 1) ∧ p0.toInt < p3.toInt ∧ p2.toInt < p1.toInt) ∧ r_1 = -3) := w_1
  refine lv_istore (lv' := [(8, .int r_1), (0, .ref h0), (1, .int p0), (2, .int p1), (3, .int p2), (4, .int p3), (5, .int p4), (6, .int p5), (7, .int p6)]) hx hb dX5_bothAt_13 hl (by decide) rfl (fun ls hl => ?_)
  have r_b : -3 ≤ r_1.toInt ∧ r_1.toInt ≤ 160 := by have k_1 : (-1 : Int32).toInt = -1 := rfl; have k_2 : (-2 : Int32).toInt = -2 := rfl; have k_3 : (-3 : Int32).toInt = -3 := rfl; rcases w_1 with ⟨_, _, _, g1, g2, g3⟩ | ⟨_, g3⟩ | ⟨_, g3⟩ | ⟨_, g3⟩ <;> (rw [g3]; omega)
  refine lv_iload hx hb dX5_bothAt_15 (lv_at hl 8 rfl) ?_
  refine lv_iconst (v := 0) hx hb dX5_bothAt_17 (by decide) ?_
  refine lv_iload hx hb dX5_bothAt_18 (lv_at hl 0 rfl) ?_
  refine lv_iconst (v := 1) hx hb dX5_bothAt_20 (by decide) ?_
  refine lv_isub hx hb dX5_bothAt_21 ?_
  refine lv_topi (fun y_5 ey_5 => ?_)
  have i_5 : y_5.toInt = r_1.toInt - 1 := ki_sub ey_5 rfl rfl (by omega) (by omega)
  have hPc := hP.sub (ws' := []) [] rfl
  have hKc := hK.sub (tys' := []) [] rfl
  refine vp_callSi (W.runS (As := [.int p6, .int 0, .int y_5]) (rest := []) ⟨hx, hb, hml, hown, hts⟩ (c_X5_within l dC dI p6 0 y_5) (va_cwS 3 hts gX5_bothAt_X5_within rfl rfl rfl (by decide +kernel) ⟨Nat.le_of_ble_eq_true rfl, Nat.le_of_ble_eq_true rfl⟩) ⟨fun a U g mk q => by obtain ⟨q0, qP, qK⟩ := q; exact ⟨q0, qP, va_K.moved (u := U) (U := U.calling g mk a) (Vm.Alike.refl U.vm) qK⟩, fun U hU hW => ⟨rfl, by rw [hU]; exact hPc, va_K.moved hW.alike hKc⟩⟩ rfl rfl hl.1 rfl (lv_room (Nat.le_of_ble_eq_true rfl)) dX5_bothAt_22 ⟨Nat.le_of_ble_eq_true rfl, Nat.le_of_ble_eq_true rfl⟩) (fun r_6 w_6 => ?_)
  rcases w_6 with ⟨rfl, w_6⟩ | ⟨rfl, w_6⟩
  · have w_6 : (0 ≤ p6.toInt ∧ p6.toInt ≤ y_5.toInt) := w_6
    refine lv_if_eq (tgt := 38) hx hb dX5_bothAt_25 (by decide) (fun c_7 => ?_) (fun c_7 => ?_)
    · exact absurd c_7 (by decide)
    · refine lv_aload_n hx hb dX5_bothAt_28 rfl (lv_at hl 1 rfl) ?_
      refine va_get (D := (dC, dI)) (ci := 5) (v := .ref g_heavyValue) (C := RX5) (T := TX5) (N := 30) hx hb hts hi_5 hown hK hP 0 rfl rfl 23 (by decide) hf_62 (fun _ h9 => h9) rfl dX5_bothAt_29 ?_
      refine lv_iload hx hb dX5_bothAt_32 (lv_at hl 8 rfl) ?_
      refine va_iald hx hb hK hP 2 0 rfl rfl (ki_in (om_10 w_6.1) (by omega)) dX5_bothAt_34 ?_
      refine lv_topi (fun y_8 ey_8 => ?_)
      have j_8 : y_8.toInt = (o_3 p6.toNatClampNeg).toInt := congrArg Int32.toInt ey_8
      refine lv_goto (tgt := 40) hx hb dX5_bothAt_35 (by decide) ?_
      have hP9 := hP
      have hD9 := hD
      have hK9 := hK
      have k_1 : (-1 : Int32).toInt = -1 := rfl
      have k_2 : (-2 : Int32).toInt = -2 := rfl
      have k_3 : (-3 : Int32).toInt = -3 := rfl
      have r_r : ∀ x : Int32, r_1 = x → r_1.toInt = x.toInt := fun x e => congrArg Int32.toInt e
      exact W.iret (v := y_8) hx hb hr (hlocks := hlocks) (fun t ht hW => ⟨⟨y_8, (o_2, o_3, o_4), rfl, (by (try dsimp only); rcases w_1 with ⟨g1, g2, g3, g4, g5, g6⟩ | ⟨g1, g6⟩ | ⟨g1, g6⟩ | ⟨g1, g6⟩; exact Or.inl ⟨g1, g2, g3, g4, g5, Or.inl ⟨(by omega), (by have := r_r _ g6; omega), ey_8⟩⟩; (exfalso; have := r_r _ g6; omega); (exfalso; have := r_r _ g6; omega); (exfalso; have := r_r _ g6; omega)), by rw [ht]; exact hP9, va_K.moved hW.alike hK9, hD9⟩, hS.F ht⟩) hS.2.2 dX5_bothAt_40
  · have w_6 : (p6.toInt < 0 ∨ y_5.toInt < p6.toInt) := w_6
    refine lv_if_eq (tgt := 38) hx hb dX5_bothAt_25 (by decide) (fun c_9 => ?_) (fun c_9 => ?_)
    · refine lv_ldc (v := (-40000)) hx hb hown hk_148 dX5_bothAt_38 ?_
      have hP9 := hP
      have hD9 := hD
      have hK9 := hK
      have k_1 : (-1 : Int32).toInt = -1 := rfl
      have k_2 : (-2 : Int32).toInt = -2 := rfl
      have k_3 : (-3 : Int32).toInt = -3 := rfl
      have r_r : ∀ x : Int32, r_1 = x → r_1.toInt = x.toInt := fun x e => congrArg Int32.toInt e
      exact W.iret (v := (-40000)) hx hb hr (hlocks := hlocks) (fun t ht hW => ⟨⟨(-40000), (o_2, o_3, o_4), rfl, (by (try dsimp only); rcases w_1 with ⟨g1, g2, g3, g4, g5, g6⟩ | ⟨g1, g6⟩ | ⟨g1, g6⟩ | ⟨g1, g6⟩; exact Or.inl ⟨g1, g2, g3, g4, g5, Or.inr ⟨(by have := r_r _ g6; omega), rfl⟩⟩; exact Or.inr ⟨Or.inl g1, rfl⟩; exact Or.inr ⟨Or.inr (Or.inl g1), rfl⟩; exact Or.inr ⟨Or.inr (Or.inr g1), rfl⟩), by rw [ht]; exact hP9, va_K.moved hW.alike hK9, hD9⟩, hS.F ht⟩) hS.2.2 dX5_bothAt_40
    · exact absurd c_9 (by decide)


