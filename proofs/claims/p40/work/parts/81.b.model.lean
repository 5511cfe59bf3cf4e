set_option maxHeartbeats 4000000 in
set_option maxRecDepth 100000 in
theorem c_X5_within (l : Launch) (dC : Nat → ClassId) (dI : Nat → Nat → Nat) (p0 : Int32) (p1 : Int32) (p2 : Int32) : Met l yX5_within wsX5_within ({ frames := 0, cells := 0, slots := 0, locals := 0 }) (va_Pc [.int p0, .int p1, .int p2] (fun U => va_P (dC, dI) vwCl [] U.heap ∧ va_K (dC, dI) vwCl [] U)) (vp_Si (fun r : Int32 => (r = 1 ∧ (p1.toInt ≤ p0.toInt ∧ p0.toInt ≤ p2.toInt)) ∨ (r = 0 ∧ (p0.toInt < p1.toInt ∨ p2.toInt < p0.toInt)))) 0 0 (fun _ => False) := by
  refine kx_stS (ws := wsX5_within) (cc := cX5_within) (maxL := 3) (ret := (some .boolean)) (by decide) rfl (Nat.le_of_ble_eq_true rfl) ?_
  intro p e s m below meth c ls hx hb hr hlocks hts hown hml hP hK hl
  have hown : s.vm.findClass RX5 = some m.cls := hown
  have hl : lv_has ls 3 [(0, .int p0), (1, .int p1), (2, .int p2)] := hl
  refine lv_iload_n hx hb dX5_within_0 rfl (lv_at hl 0 rfl) ?_
  refine lv_iload_n hx hb dX5_within_1 rfl (lv_at hl 1 rfl) ?_
  refine lv_icmp_lt (tgt := 14) hx hb dX5_within_2 (by decide) (fun c_1 => ?_) (fun c_1 => ?_)
  · have i_1 : p0.toInt < p1.toInt := kc_lt c_1
    refine lv_iconst (v := 0) hx hb dX5_within_14 (by decide) ?_
    exact W.zret (v := 0) hx hb hr (by decide) (hlocks := hlocks) (fun t ht hW => ⟨0, rfl, Or.inr (⟨rfl, (Or.inl (om_11 i_1))⟩), ht⟩) (fun q hq => by cases hq) dX5_within_15
  · have i_1 : p1.toInt ≤ p0.toInt := kc_nlt c_1
    refine lv_iload_n hx hb dX5_within_5 rfl (lv_at hl 0 rfl) ?_
    refine lv_iload_n hx hb dX5_within_6 rfl (lv_at hl 2 rfl) ?_
    refine lv_icmp_gt (tgt := 14) hx hb dX5_within_7 (by decide) (fun c_2 => ?_) (fun c_2 => ?_)
    · have i_2 : p2.toInt < p0.toInt := kc_lt c_2
      refine lv_iconst (v := 0) hx hb dX5_within_14 (by decide) ?_
      exact W.zret (v := 0) hx hb hr (by decide) (hlocks := hlocks) (fun t ht hW => ⟨0, rfl, Or.inr (⟨rfl, (Or.inr (om_11 i_2))⟩), ht⟩) (fun q hq => by cases hq) dX5_within_15
    · have i_2 : p0.toInt ≤ p2.toInt := kc_nlt c_2
      refine lv_iconst (v := 1) hx hb dX5_within_10 (by decide) ?_
      refine lv_goto (tgt := 15) hx hb dX5_within_11 (by decide) ?_
      exact W.zret (v := 1) hx hb hr (by decide) (hlocks := hlocks) (fun t ht hW => ⟨1, rfl, Or.inl ⟨rfl, ⟨(om_9 i_1), (om_9 i_2)⟩⟩, ht⟩) (fun q hq => by cases hq) dX5_within_15

set_option maxHeartbeats 4000000 in
set_option maxRecDepth 100000 in
theorem c_X5_isValue (l : Launch) (dC : Nat → ClassId) (dI : Nat → Nat → Nat) (p0 : Int32) : Met l yX5_isValue wsX5_isValue ({ frames := 1, cells := 0, slots := 0, locals := 45 }) (va_Pc [.int p0] (fun U => va_P (dC, dI) vwCl [] U.heap ∧ va_K (dC, dI) vwCl [] U)) (vp_Si (fun r : Int32 => (r = 1 ∧ (-32768 ≤ p0.toInt ∧ p0.toInt ≤ 32767)) ∨ (r = 0 ∧ (p0.toInt < -32768 ∨ 32767 < p0.toInt)))) 0 0 (fun _ => False) := by
  refine kx_stS (ws := wsX5_isValue) (cc := cX5_isValue) (maxL := 1) (ret := (some .boolean)) (by decide) rfl (Nat.le_of_ble_eq_true rfl) ?_
  intro p e s m below meth c ls hx hb hr hlocks hts hown hml hP hK hl
  have hown : s.vm.findClass RX5 = some m.cls := hown
  have hl : lv_has ls 1 [(0, .int p0)] := hl
  refine lv_iload_n hx hb dX5_isValue_0 rfl (lv_at hl 0 rfl) ?_
  refine lv_sipush (v := (-32768)) hx hb dX5_isValue_1 (by decide) ?_
  refine lv_sipush (v := 32767) hx hb dX5_isValue_4 (by decide) ?_
  have hPc := hP
  have hKc := hK
  refine vp_callSi (W.runS (As := [.int p0, .int (-32768), .int 32767]) (rest := []) ⟨hx, hb, hml, hown, hts⟩ (c_X5_within l dC dI p0 (-32768) 32767) (va_cwS 3 hts gX5_isValue_X5_within rfl rfl rfl (by decide +kernel) ⟨Nat.le_of_ble_eq_true rfl, Nat.le_of_ble_eq_true rfl⟩) ⟨fun a U g mk q => by obtain ⟨q0, qP, qK⟩ := q; exact ⟨q0, qP, va_K.moved (u := U) (U := U.calling g mk a) (Vm.Alike.refl U.vm) qK⟩, fun U hU hW => ⟨rfl, by rw [hU]; exact hPc, va_K.moved hW.alike hKc⟩⟩ rfl rfl hl.1 rfl (lv_room (Nat.le_of_ble_eq_true rfl)) dX5_isValue_7 ⟨Nat.le_of_ble_eq_true rfl, Nat.le_of_ble_eq_true rfl⟩) (fun r_1 w_1 => ?_)
  rcases w_1 with ⟨rfl, w_1⟩ | ⟨rfl, w_1⟩
  · have w_1 : ((-32768) ≤ p0.toInt ∧ p0.toInt ≤ 32767) := w_1
    exact W.zret (v := 1) hx hb hr (by decide) (hlocks := hlocks) (fun t ht hW => ⟨1, rfl, Or.inl ⟨rfl, ⟨(om_147 w_1.1), (om_148 w_1.2)⟩⟩, ht⟩) (fun q hq => by cases hq) dX5_isValue_10
  · have w_1 : (p0.toInt < (-32768) ∨ 32767 < p0.toInt) := w_1
    exact W.zret (v := 0) hx hb hr (by decide) (hlocks := hlocks) (fun t ht hW => ⟨0, rfl, Or.inr (⟨rfl, by omega⟩), ht⟩) (fun q hq => by cases hq) dX5_isValue_10

set_option maxHeartbeats 4000000 in
set_option maxRecDepth 100000 in
theorem c_X5_isShare (l : Launch) (dC : Nat → ClassId) (dI : Nat → Nat → Nat) (p0 : Int32) (p1 : Int32) : Met l yX5_isShare wsX5_isShare ({ frames := 1, cells := 0, slots := 0, locals := 45 }) (va_Pc [.int p0, .int p1] (fun U => va_P (dC, dI) vwCl [] U.heap ∧ va_K (dC, dI) vwCl [] U)) (vp_Si (fun r : Int32 => (r = 1 ∧ (1 ≤ p0.toInt ∧ p0.toInt ≤ p1.toInt ∧ p1.toInt ≤ 999)) ∨ (r = 0 ∧ (p0.toInt < 1 ∨ p1.toInt < p0.toInt ∨ 999 < p1.toInt)))) 0 0 (fun _ => False) := by
  refine kx_stS (ws := wsX5_isShare) (cc := cX5_isShare) (maxL := 2) (ret := (some .boolean)) (by decide) rfl (Nat.le_of_ble_eq_true rfl) ?_
  intro p e s m below meth c ls hx hb hr hlocks hts hown hml hP hK hl
  have hown : s.vm.findClass RX5 = some m.cls := hown
  have hl : lv_has ls 2 [(0, .int p0), (1, .int p1)] := hl
  refine lv_iload_n hx hb dX5_isShare_0 rfl (lv_at hl 0 rfl) ?_
  refine lv_iconst (v := 1) hx hb dX5_isShare_1 (by decide) ?_
  refine lv_sipush (v := 999) hx hb dX5_isShare_2 (by decide) ?_
  have hPc := hP
  have hKc := hK
  refine vp_callSi (W.runS (As := [.int p0, .int 1, .int 999]) (rest := []) ⟨hx, hb, hml, hown, hts⟩ (c_X5_within l dC dI p0 1 999) (va_cwS 3 hts gX5_isShare_X5_within rfl rfl rfl (by decide +kernel) ⟨Nat.le_of_ble_eq_true rfl, Nat.le_of_ble_eq_true rfl⟩) ⟨fun a U g mk q => by obtain ⟨q0, qP, qK⟩ := q; exact ⟨q0, qP, va_K.moved (u := U) (U := U.calling g mk a) (Vm.Alike.refl U.vm) qK⟩, fun U hU hW => ⟨rfl, by rw [hU]; exact hPc, va_K.moved hW.alike hKc⟩⟩ rfl rfl hl.1 rfl (lv_room (Nat.le_of_ble_eq_true rfl)) dX5_isShare_5 ⟨Nat.le_of_ble_eq_true rfl, Nat.le_of_ble_eq_true rfl⟩) (fun r_1 w_1 => ?_)
  rcases w_1 with ⟨rfl, w_1⟩ | ⟨rfl, w_1⟩
  · have w_1 : (1 ≤ p0.toInt ∧ p0.toInt ≤ 999) := w_1
    refine lv_if_eq (tgt := 26) hx hb dX5_isShare_8 (by decide) (fun c_2 => ?_) (fun c_2 => ?_)
    · exact absurd c_2 (by decide)
    · refine lv_iload_n hx hb dX5_isShare_11 rfl (lv_at hl 1 rfl) ?_
      refine lv_iload_n hx hb dX5_isShare_12 rfl (lv_at hl 0 rfl) ?_
      refine lv_sipush (v := 999) hx hb dX5_isShare_13 (by decide) ?_
      have hPc := hP
      have hKc := hK
      refine vp_callSi (W.runS (As := [.int p1, .int p0, .int 999]) (rest := []) ⟨hx, hb, hml, hown, hts⟩ (c_X5_within l dC dI p1 p0 999) (va_cwS 3 hts gX5_isShare_X5_within rfl rfl rfl (by decide +kernel) ⟨Nat.le_of_ble_eq_true rfl, Nat.le_of_ble_eq_true rfl⟩) ⟨fun a U g mk q => by obtain ⟨q0, qP, qK⟩ := q; exact ⟨q0, qP, va_K.moved (u := U) (U := U.calling g mk a) (Vm.Alike.refl U.vm) qK⟩, fun U hU hW => ⟨rfl, by rw [hU]; exact hPc, va_K.moved hW.alike hKc⟩⟩ rfl rfl hl.1 rfl (lv_room (Nat.le_of_ble_eq_true rfl)) dX5_isShare_16 ⟨Nat.le_of_ble_eq_true rfl, Nat.le_of_ble_eq_true rfl⟩) (fun r_3 w_3 => ?_)
      rcases w_3 with ⟨rfl, w_3⟩ | ⟨rfl, w_3⟩
      · have w_3 : (p0.toInt ≤ p1.toInt ∧ p1.toInt ≤ 999) := w_3
        refine lv_if_eq (tgt := 26) hx hb dX5_isShare_19 (by decide) (fun c_4 => ?_) (fun c_4 => ?_)
        · exact absurd c_4 (by decide)
        · refine lv_iconst (v := 1) hx hb dX5_isShare_22 (by decide) ?_
          refine lv_goto (tgt := 27) hx hb dX5_isShare_23 (by decide) ?_
          exact W.zret (v := 1) hx hb hr (by decide) (hlocks := hlocks) (fun t ht hW => ⟨1, rfl, Or.inl ⟨rfl, ⟨(om_151 w_1.1), (om_9 w_3.1), (om_152 w_3.2)⟩⟩, ht⟩) (fun q hq => by cases hq) dX5_isShare_27
      · have w_3 : (p1.toInt < p0.toInt ∨ 999 < p1.toInt) := w_3
        refine lv_if_eq (tgt := 26) hx hb dX5_isShare_19 (by decide) (fun c_5 => ?_) (fun c_5 => ?_)
        · refine lv_iconst (v := 0) hx hb dX5_isShare_26 (by decide) ?_
          exact W.zret (v := 0) hx hb hr (by decide) (hlocks := hlocks) (fun t ht hW => ⟨0, rfl, Or.inr (⟨rfl, by omega⟩), ht⟩) (fun q hq => by cases hq) dX5_isShare_27
        · exact absurd c_5 (by decide)
  · have w_1 : (p0.toInt < 1 ∨ 999 < p0.toInt) := w_1
    refine lv_if_eq (tgt := 26) hx hb dX5_isShare_8 (by decide) (fun c_6 => ?_) (fun c_6 => ?_)
    · refine lv_iconst (v := 0) hx hb dX5_isShare_26 (by decide) ?_
      exact W.zret (v := 0) hx hb hr (by decide) (hlocks := hlocks) (fun t ht hW => ⟨0, rfl, Or.inr (⟨rfl, by omega⟩), ht⟩) (fun q hq => by cases hq) dX5_isShare_27
    · exact absurd c_6 (by decide)

set_option maxHeartbeats 4000000 in
set_option maxRecDepth 100000 in
theorem c_X5_isPlace (l : Launch) (dC : Nat → ClassId) (dI : Nat → Nat → Nat) (h0 : Nat) (g_row : Nat) (g_many : Nat) (g_loss : Nat) (g_less : Nat) (g_voteValue : Nat) (g_voteNumber : Nat) (g_allValue : Nat) (g_allNumber : Nat) (g_nodeL : Nat) (g_nodeR : Nat) (g_part : Nat) (g_wasMany : Nat) (g_wasLoss : Nat) (g_wasValue : Nat) (g_wasNumber : Nat) (g_path : Nat) (g_heavyValue : Nat) (g_heavyTimes : Nat) (g_fewest : Nat) (g_which : Nat) (g_met : Nat) (m_n : Int32) (m_slots : Int32) (m_thrown : Int32) (m_allMany : Int32) (m_nodes : Int32) (m_partMany : Int32) (m_pathMany : Int32) (m_heavyMany : Int32) (m_mostMet : Int32) (p0 : Int32) (a0 : 0 ≤ m_n.toInt) (a1 : m_n.toInt ≤ 160) : Met l yX5_isPlace wsX5_isPlace ({ frames := 1, cells := 0, slots := 0, locals := 45 }) (va_Pc [.ref h0, .int p0] (fun U => va_P (dC, dI) vwCl [kx_5 h0 g_row m_n m_slots m_thrown g_many g_loss g_less g_voteValue g_voteNumber g_allValue g_allNumber m_allMany g_nodeL g_nodeR m_nodes g_part m_partMany g_wasMany g_wasLoss g_wasValue g_wasNumber g_path m_pathMany g_heavyValue g_heavyTimes m_heavyMany g_fewest g_which g_met m_mostMet] U.heap ∧ va_K (dC, dI) vwCl [] U)) (vp_Si (fun r : Int32 => (r = 1 ∧ (0 ≤ p0.toInt ∧ p0.toInt < m_n.toInt)) ∨ (r = 0 ∧ (p0.toInt < 0 ∨ m_n.toInt ≤ p0.toInt)))) 0 0 (fun _ => False) := by
  refine kx_stS (ws := wsX5_isPlace) (cc := cX5_isPlace) (maxL := 2) (ret := (some .boolean)) (by decide) rfl (Nat.le_of_ble_eq_true rfl) ?_
  intro p e s m below meth c ls hx hb hr hlocks hts hown hml hP hK hl
  have hown : s.vm.findClass RX5 = some m.cls := hown
  have hl : lv_has ls 2 [(0, .ref h0), (1, .int p0)] := hl
  have hf_84 := hts (.fieldLink RX5 84 "MajorityIndexModel" "n" "I") (List.mem_of_getElem? (i := 1) rfl)
  have hi_5 : ∀ w ∈ u_ws RX5 TX5 30, w ∈ wsX5_isPlace := fun w h => List.mem_cons_of_mem _ (List.mem_append_right _ h)
  refine lv_iload_n hx hb dX5_isPlace_0 rfl (lv_at hl 1 rfl) ?_
  refine lv_iconst (v := 0) hx hb dX5_isPlace_1 (by decide) ?_
  refine lv_aload_n hx hb dX5_isPlace_2 rfl (lv_at hl 0 rfl) ?_
  refine va_get (D := (dC, dI)) (ci := 5) (v := .int m_n) (C := RX5) (T := TX5) (N := 30) hx hb hts hi_5 hown hK hP 0 rfl rfl 1 (by decide) hf_84 (fun _ h9 => h9) rfl dX5_isPlace_3 ?_
  refine lv_iconst (v := 1) hx hb dX5_isPlace_6 (by decide) ?_
  refine lv_isub hx hb dX5_isPlace_7 ?_
  refine lv_topi (fun y_1 ey_1 => ?_)
  have i_1 : y_1.toInt = m_n.toInt - 1 := ki_sub ey_1 rfl rfl (om_113 a0) (om_87 a1)
  have hPc := hP.sub (ws' := []) [] rfl
  have hKc := hK
  refine vp_callSi (W.runS (As := [.int p0, .int 0, .int y_1]) (rest := []) ⟨hx, hb, hml, hown, hts⟩ (c_X5_within l dC dI p0 0 y_1) (va_cwS 3 hts gX5_isPlace_X5_within rfl rfl rfl (by decide +kernel) ⟨Nat.le_of_ble_eq_true rfl, Nat.le_of_ble_eq_true rfl⟩) ⟨fun a U g mk q => by obtain ⟨q0, qP, qK⟩ := q; exact ⟨q0, qP, va_K.moved (u := U) (U := U.calling g mk a) (Vm.Alike.refl U.vm) qK⟩, fun U hU hW => ⟨rfl, by rw [hU]; exact hPc, va_K.moved hW.alike hKc⟩⟩ rfl rfl hl.1 rfl (lv_room (Nat.le_of_ble_eq_true rfl)) dX5_isPlace_8 ⟨Nat.le_of_ble_eq_true rfl, Nat.le_of_ble_eq_true rfl⟩) (fun r_2 w_2 => ?_)
  rcases w_2 with ⟨rfl, w_2⟩ | ⟨rfl, w_2⟩
  · have w_2 : (0 ≤ p0.toInt ∧ p0.toInt ≤ y_1.toInt) := w_2
    exact W.zret (v := 1) hx hb hr (by decide) (hlocks := hlocks) (fun t ht hW => ⟨1, rfl, Or.inl ⟨rfl, ⟨(om_10 w_2.1), (om_221 i_1 w_2.2)⟩⟩, ht⟩) (fun q hq => by cases hq) dX5_isPlace_11
  · have w_2 : (p0.toInt < 0 ∨ y_1.toInt < p0.toInt) := w_2
    exact W.zret (v := 0) hx hb hr (by decide) (hlocks := hlocks) (fun t ht hW => ⟨0, rfl, Or.inr (⟨rfl, by omega⟩), ht⟩) (fun q hq => by cases hq) dX5_isPlace_11

set_option maxHeartbeats 4000000 in
set_option maxRecDepth 100000 in
theorem c_X5_isRange (l : Launch) (dC : Nat → ClassId) (dI : Nat → Nat → Nat) (h0 : Nat) (g_row : Nat) (g_many : Nat) (g_loss : Nat) (g_less : Nat) (g_voteValue : Nat) (g_voteNumber : Nat) (g_allValue : Nat) (g_allNumber : Nat) (g_nodeL : Nat) (g_nodeR : Nat) (g_part : Nat) (g_wasMany : Nat) (g_wasLoss : Nat) (g_wasValue : Nat) (g_wasNumber : Nat) (g_path : Nat) (g_heavyValue : Nat) (g_heavyTimes : Nat) (g_fewest : Nat) (g_which : Nat) (g_met : Nat) (m_n : Int32) (m_slots : Int32) (m_thrown : Int32) (m_allMany : Int32) (m_nodes : Int32) (m_partMany : Int32) (m_pathMany : Int32) (m_heavyMany : Int32) (m_mostMet : Int32) (p0 : Int32) (p1 : Int32) : Met l yX5_isRange wsX5_isRange ({ frames := 0, cells := 0, slots := 0, locals := 0 }) (va_Pc [.ref h0, .int p0, .int p1] (fun U => va_P (dC, dI) vwCl [kx_5 h0 g_row m_n m_slots m_thrown g_many g_loss g_less g_voteValue g_voteNumber g_allValue g_allNumber m_allMany g_nodeL g_nodeR m_nodes g_part m_partMany g_wasMany g_wasLoss g_wasValue g_wasNumber g_path m_pathMany g_heavyValue g_heavyTimes m_heavyMany g_fewest g_which g_met m_mostMet] U.heap ∧ va_K (dC, dI) vwCl [] U)) (vp_Si (fun r : Int32 => (r = 1 ∧ (0 ≤ p0.toInt ∧ p0.toInt < p1.toInt ∧ p1.toInt ≤ m_n.toInt)) ∨ (r = 0 ∧ (p0.toInt < 0 ∨ p1.toInt ≤ p0.toInt ∨ m_n.toInt < p1.toInt)))) 0 0 (fun _ => False) := by
  refine kx_stS (ws := wsX5_isRange) (cc := cX5_isRange) (maxL := 3) (ret := (some .boolean)) (by decide) rfl (Nat.le_of_ble_eq_true rfl) ?_
  intro p e s m below meth c ls hx hb hr hlocks hts hown hml hP hK hl
  have hown : s.vm.findClass RX5 = some m.cls := hown
  have hl : lv_has ls 3 [(0, .ref h0), (1, .int p0), (2, .int p1)] := hl
  have hf_84 := hts (.fieldLink RX5 84 "MajorityIndexModel" "n" "I") (List.mem_of_getElem? (i := 1) rfl)
  have hi_5 : ∀ w ∈ u_ws RX5 TX5 30, w ∈ wsX5_isRange := fun w h => List.mem_cons_of_mem _ (List.mem_append_right _ h)
  refine lv_iload_n hx hb dX5_isRange_0 rfl (lv_at hl 1 rfl) ?_
  refine lv_if_lt (tgt := 21) hx hb dX5_isRange_1 (by decide) (fun c_1 => ?_) (fun c_1 => ?_)
  · have i_1 : p0.toInt < 0 := kc_lt c_1
    refine lv_iconst (v := 0) hx hb dX5_isRange_21 (by decide) ?_
    exact W.zret (v := 0) hx hb hr (by decide) (hlocks := hlocks) (fun t ht hW => ⟨0, rfl, Or.inr (⟨rfl, (Or.inl (om_8 i_1))⟩), ht⟩) (fun q hq => by cases hq) dX5_isRange_22
  · have i_1 : 0 ≤ p0.toInt := kc_nlt c_1
    refine lv_iload_n hx hb dX5_isRange_4 rfl (lv_at hl 1 rfl) ?_
    refine lv_iload_n hx hb dX5_isRange_5 rfl (lv_at hl 2 rfl) ?_
    refine lv_icmp_ge (tgt := 21) hx hb dX5_isRange_6 (by decide) (fun c_2 => ?_) (fun c_2 => ?_)
    · have i_2 : p1.toInt ≤ p0.toInt := kc_le c_2
      refine lv_iconst (v := 0) hx hb dX5_isRange_21 (by decide) ?_
      exact W.zret (v := 0) hx hb hr (by decide) (hlocks := hlocks) (fun t ht hW => ⟨0, rfl, Or.inr (⟨rfl, (Or.inr (Or.inl (om_9 i_2)))⟩), ht⟩) (fun q hq => by cases hq) dX5_isRange_22
    · have i_2 : p0.toInt < p1.toInt := kc_nle c_2
      refine lv_iload_n hx hb dX5_isRange_9 rfl (lv_at hl 2 rfl) ?_
      refine lv_aload_n hx hb dX5_isRange_10 rfl (lv_at hl 0 rfl) ?_
      refine va_get (D := (dC, dI)) (ci := 5) (v := .int m_n) (C := RX5) (T := TX5) (N := 30) hx hb hts hi_5 hown hK hP 0 rfl rfl 1 (by decide) hf_84 (fun _ h9 => h9) rfl dX5_isRange_11 ?_
      refine lv_icmp_gt (tgt := 21) hx hb dX5_isRange_14 (by decide) (fun c_3 => ?_) (fun c_3 => ?_)
      · have i_3 : m_n.toInt < p1.toInt := kc_lt c_3
        refine lv_iconst (v := 0) hx hb dX5_isRange_21 (by decide) ?_
        exact W.zret (v := 0) hx hb hr (by decide) (hlocks := hlocks) (fun t ht hW => ⟨0, rfl, Or.inr (⟨rfl, (Or.inr (Or.inr (om_11 i_3)))⟩), ht⟩) (fun q hq => by cases hq) dX5_isRange_22
      · have i_3 : p1.toInt ≤ m_n.toInt := kc_nlt c_3
        refine lv_iconst (v := 1) hx hb dX5_isRange_17 (by decide) ?_
        refine lv_goto (tgt := 22) hx hb dX5_isRange_18 (by decide) ?_
        exact W.zret (v := 1) hx hb hr (by decide) (hlocks := hlocks) (fun t ht hW => ⟨1, rfl, Or.inl ⟨rfl, ⟨(om_10 i_1), (om_11 i_2), (om_9 i_3)⟩⟩, ht⟩) (fun q hq => by cases hq) dX5_isRange_22

set_option maxHeartbeats 4000000 in
set_option maxRecDepth 100000 in
theorem c_X5_isEnough (l : Launch) (dC : Nat → ClassId) (dI : Nat → Nat → Nat) (h0 : Nat) (g_row : Nat) (g_many : Nat) (g_loss : Nat) (g_less : Nat) (g_voteValue : Nat) (g_voteNumber : Nat) (g_allValue : Nat) (g_allNumber : Nat) (g_nodeL : Nat) (g_nodeR : Nat) (g_part : Nat) (g_wasMany : Nat) (g_wasLoss : Nat) (g_wasValue : Nat) (g_wasNumber : Nat) (g_path : Nat) (g_heavyValue : Nat) (g_heavyTimes : Nat) (g_fewest : Nat) (g_which : Nat) (g_met : Nat) (m_n : Int32) (m_slots : Int32) (m_thrown : Int32) (m_allMany : Int32) (m_nodes : Int32) (m_partMany : Int32) (m_pathMany : Int32) (m_heavyMany : Int32) (m_mostMet : Int32) (p0 : Int32) (p1 : Int32) : Met l yX5_isEnough wsX5_isEnough ({ frames := 0, cells := 0, slots := 0, locals := 0 }) (va_Pc [.ref h0, .int p0, .int p1] (fun U => va_P (dC, dI) vwCl [kx_5 h0 g_row m_n m_slots m_thrown g_many g_loss g_less g_voteValue g_voteNumber g_allValue g_allNumber m_allMany g_nodeL g_nodeR m_nodes g_part m_partMany g_wasMany g_wasLoss g_wasValue g_wasNumber g_path m_pathMany g_heavyValue g_heavyTimes m_heavyMany g_fewest g_which g_met m_mostMet] U.heap ∧ va_K (dC, dI) vwCl [] U)) (vp_Si (fun r : Int32 => (r = 1 ∧ (0 : Int) ≤ 1) ∨ (r = 0 ∧ (0 : Int) ≤ 1))) 0 0 (fun _ => False) := by
  refine kx_stS (ws := wsX5_isEnough) (cc := cX5_isEnough) (maxL := 3) (ret := (some .boolean)) (by decide) rfl (Nat.le_of_ble_eq_true rfl) ?_
  intro p e s m below meth c ls hx hb hr hlocks hts hown hml hP hK hl
  have hown : s.vm.findClass RX5 = some m.cls := hown
  have hl : lv_has ls 3 [(0, .ref h0), (1, .int p0), (2, .int p1)] := hl
  have hf_13 := hts (.fieldLink RX5 13 "MajorityIndexModel" "slots" "I") (List.mem_of_getElem? (i := 1) rfl)
  have hi_5 : ∀ w ∈ u_ws RX5 TX5 30, w ∈ wsX5_isEnough := fun w h => List.mem_cons_of_mem _ (List.mem_append_right _ h)
  refine lv_iload_n hx hb dX5_isEnough_0 rfl (lv_at hl 1 rfl) ?_
  refine lv_aload_n hx hb dX5_isEnough_1 rfl (lv_at hl 0 rfl) ?_
  refine va_get (D := (dC, dI)) (ci := 5) (v := .int m_slots) (C := RX5) (T := TX5) (N := 30) hx hb hts hi_5 hown hK hP 0 rfl rfl 2 (by decide) hf_13 (fun _ h9 => h9) rfl dX5_isEnough_2 ?_
  refine lv_iconst (v := 1) hx hb dX5_isEnough_5 (by decide) ?_
  refine lv_iadd hx hb dX5_isEnough_6 ?_
  refine lv_topi (fun y_1 ey_1 => ?_)
  refine lv_imul hx hb dX5_isEnough_7 ?_
  refine lv_topi (fun y_2 ey_2 => ?_)
  refine lv_iload_n hx hb dX5_isEnough_8 rfl (lv_at hl 2 rfl) ?_
  refine lv_icmp_lt (tgt := 16) hx hb dX5_isEnough_9 (by decide) (fun c_3 => ?_) (fun c_3 => ?_)
  · have i_3 : y_2.toInt < p1.toInt := kc_lt c_3
    refine lv_iconst (v := 0) hx hb dX5_isEnough_16 (by decide) ?_
    exact W.zret (v := 0) hx hb hr (by decide) (hlocks := hlocks) (fun t ht hW => ⟨0, rfl, Or.inr (⟨rfl, om_29⟩), ht⟩) (fun q hq => by cases hq) dX5_isEnough_17
  · have i_3 : p1.toInt ≤ y_2.toInt := kc_nlt c_3
    refine lv_iconst (v := 1) hx hb dX5_isEnough_12 (by decide) ?_
    refine lv_goto (tgt := 17) hx hb dX5_isEnough_13 (by decide) ?_
    exact W.zret (v := 1) hx hb hr (by decide) (hlocks := hlocks) (fun t ht hW => ⟨1, rfl, Or.inl ⟨rfl, om_29⟩, ht⟩) (fun q hq => by cases hq) dX5_isEnough_17

set_option maxHeartbeats 4000000 in
set_option maxRecDepth 100000 in
theorem c_X5_end (l : Launch) (dC : Nat → ClassId) (dI : Nat → Nat → Nat) (h0 : Nat) (g_row : Nat) (g_many : Nat) (g_loss : Nat) (g_less : Nat) (g_voteValue : Nat) (g_voteNumber : Nat) (g_allValue : Nat) (g_allNumber : Nat) (g_nodeL : Nat) (g_nodeR : Nat) (g_part : Nat) (g_wasMany : Nat) (g_wasLoss : Nat) (g_wasValue : Nat) (g_wasNumber : Nat) (g_path : Nat) (g_heavyValue : Nat) (g_heavyTimes : Nat) (g_fewest : Nat) (g_which : Nat) (g_met : Nat) (m_n : Int32) (m_slots : Int32) (m_thrown : Int32) (m_allMany : Int32) (m_nodes : Int32) (m_partMany : Int32) (m_pathMany : Int32) (m_heavyMany : Int32) (m_mostMet : Int32) (p0 : Int32) (sz : Nat) : kx_MQ l (dC, dI) yX5_end wsX5_end ({ frames := 1, cells := 0, slots := 0, locals := 45 }) [.ref h0, .int p0] [kx_5 h0 g_row m_n m_slots m_thrown g_many g_loss g_less g_voteValue g_voteNumber g_allValue g_allNumber m_allMany g_nodeL g_nodeR m_nodes g_part m_partMany g_wasMany g_wasLoss g_wasValue g_wasNumber g_path m_pathMany g_heavyValue g_heavyTimes m_heavyMany g_fewest g_which g_met m_mostMet] [] sz (fun A => va_Qi (fun (r : Int32) (u : Int32) => ((0 ≤ p0.toInt ∧ p0.toInt ≤ m_n.toInt ∧ r = p0 ∧ u = p0) ∨ ((p0.toInt < 0 ∨ m_n.toInt < p0.toInt) ∧ r = -1 ∧ u = m_n))) (fun (u : Int32) (t : State) => va_P (dC, dI) vwCl [kx_5 h0 g_row u m_slots 0 g_many g_loss g_less g_voteValue g_voteNumber g_allValue g_allNumber m_allMany g_nodeL g_nodeR m_nodes g_part m_partMany g_wasMany g_wasLoss g_wasValue g_wasNumber g_path m_pathMany g_heavyValue g_heavyTimes m_heavyMany g_fewest g_which g_met m_mostMet] t.heap ∧ va_K (dC, dI) vwCl [] t ∧ va_D A [kx_5 h0 g_row u m_slots 0 g_many g_loss g_less g_voteValue g_voteNumber g_allValue g_allNumber m_allMany g_nodeL g_nodeR m_nodes g_part m_partMany g_wasMany g_wasLoss g_wasValue g_wasNumber g_path m_pathMany g_heavyValue g_heavyTimes m_heavyMany g_fewest g_which g_met m_mostMet]) A) := by
  refine kx_stQ (ws := wsX5_end) (cc := cX5_end) (maxL := 2) (ret := (some .int)) (by decide) rfl (Nat.le_of_ble_eq_true rfl) ?_
  intro p e s m below meth c A ls hx hb hr hlocks hts hown hml hA hS hP hK hD hl
  have hown : s.vm.findClass RX5 = some m.cls := hown
  have hl : lv_has ls 2 [(0, .ref h0), (1, .int p0)] := hl
  have hf_77 := hts (.fieldLink RX5 77 "MajorityIndexModel" "thrown" "I") (List.mem_of_getElem? (i := 1) rfl)
  have hi_5 : ∀ w ∈ u_ws RX5 TX5 30, w ∈ wsX5_end := fun w h => List.mem_cons_of_mem _ (List.mem_append_right _ h)
  have hf_84 := hts (.fieldLink RX5 84 "MajorityIndexModel" "n" "I") (List.mem_of_getElem? (i := 2) rfl)
  refine lv_aload_n hx hb dX5_end_0 rfl (lv_at hl 0 rfl) ?_
  refine lv_iconst (v := 0) hx hb dX5_end_1 (by decide) ?_
  refine va_put (D := (dC, dI)) (ci := 5) (v := .int 0) (ty := .int) (C := RX5) (T := TX5) (N := 30) hx hb hts hi_5 tyX5 tyX5_ok nmX5 hown hK hP hD hS 0 rfl rfl 3 (by decide) hf_77 (fun _ h9 => h9) rfl (by decide +kernel) rfl rfl (Nat.le_of_ble_eq_true rfl) dX5_end_2 (fun H locs hP hD hS => ?_)
  obtain ⟨hP, hD⟩ := kx_re (w2 := [kx_5 h0 g_row m_n m_slots 0 g_many g_loss g_less g_voteValue g_voteNumber g_allValue g_allNumber m_allMany g_nodeL g_nodeR m_nodes g_part m_partMany g_wasMany g_wasLoss g_wasValue g_wasNumber g_path m_pathMany g_heavyValue g_heavyTimes m_heavyMany g_fewest g_which g_met m_mostMet]) hP hD rfl
  refine lv_iload_n hx hb dX5_end_5 rfl (lv_at hl 1 rfl) ?_
  refine lv_iconst (v := 0) hx hb dX5_end_6 (by decide) ?_
  refine lv_aload_n hx hb dX5_end_7 rfl (lv_at hl 0 rfl) ?_
  refine va_get (D := (dC, dI)) (ci := 5) (v := .int m_n) (C := RX5) (T := TX5) (N := 30) hx hb hts hi_5 hown hK hP 0 rfl rfl 1 (by decide) hf_84 (fun _ h9 => h9) rfl dX5_end_8 ?_
  have hPc := hP.sub (ws' := []) [] rfl
  have hKc := hK
  refine vp_callSi (W.runS (As := [.int p0, .int 0, .int m_n]) (rest := []) ⟨hx, hb, hml, hown, hts⟩ (c_X5_within l dC dI p0 0 m_n) (va_cwS 3 hts gX5_end_X5_within rfl rfl rfl (by decide +kernel) ⟨Nat.le_of_ble_eq_true rfl, Nat.le_of_ble_eq_true rfl⟩) ⟨fun a U g mk q => by obtain ⟨q0, qP, qK⟩ := q; exact ⟨q0, qP, va_K.moved (u := U) (U := U.calling g mk a) (Vm.Alike.refl U.vm) qK⟩, fun U hU hW => ⟨rfl, by rw [hU]; exact hPc, va_K.moved hW.alike hKc⟩⟩ rfl rfl hl.1 rfl (lv_room (Nat.le_of_ble_eq_true rfl)) dX5_end_11 ⟨Nat.le_of_ble_eq_true rfl, Nat.le_of_ble_eq_true rfl⟩) (fun r_1 w_1 => ?_)
  rcases w_1 with ⟨rfl, w_1⟩ | ⟨rfl, w_1⟩
  · have w_1 : (0 ≤ p0.toInt ∧ p0.toInt ≤ m_n.toInt) := w_1
    refine lv_if_ne (tgt := 19) hx hb dX5_end_14 (by decide) (fun c_2 => ?_) (fun c_2 => ?_)
    · refine lv_aload_n hx hb dX5_end_19 rfl (lv_at hl 0 rfl) ?_
      refine lv_iload_n hx hb dX5_end_20 rfl (lv_at hl 1 rfl) ?_
      refine va_put (D := (dC, dI)) (ci := 5) (v := .int p0) (ty := .int) (C := RX5) (T := TX5) (N := 30) hx hb hts hi_5 tyX5 tyX5_ok nmX5 hown hK hP hD hS 0 rfl rfl 1 (by decide) hf_84 (fun _ h9 => h9) rfl (by decide +kernel) rfl rfl (Nat.le_of_ble_eq_true rfl) dX5_end_21 (fun H locs hP hD hS => ?_)
      obtain ⟨hP, hD⟩ := kx_re (w2 := [kx_5 h0 g_row p0 m_slots 0 g_many g_loss g_less g_voteValue g_voteNumber g_allValue g_allNumber m_allMany g_nodeL g_nodeR m_nodes g_part m_partMany g_wasMany g_wasLoss g_wasValue g_wasNumber g_path m_pathMany g_heavyValue g_heavyTimes m_heavyMany g_fewest g_which g_met m_mostMet]) hP hD rfl
      refine lv_aload_n hx hb dX5_end_24 rfl (lv_at hl 0 rfl) ?_
      refine va_get (D := (dC, dI)) (ci := 5) (v := .int p0) (C := RX5) (T := TX5) (N := 30) hx hb hts hi_5 hown hK hP 0 rfl rfl 1 (by decide) hf_84 (fun _ h9 => h9) rfl dX5_end_25 ?_
      have hP9 := hP
      have hD9 := hD
      have hK9 := hK
      exact W.iret (v := p0) hx hb hr (hlocks := hlocks) (fun t ht hW => ⟨⟨p0, (p0), rfl, Or.inl ⟨by omega, by omega, rfl, rfl⟩, by rw [ht]; exact hP9, va_K.moved hW.alike hK9, hD9⟩, hS.F ht⟩) hS.2.2 dX5_end_28
    · exact absurd c_2 (by decide)
  · have w_1 : (p0.toInt < 0 ∨ m_n.toInt < p0.toInt) := w_1
    refine lv_if_ne (tgt := 19) hx hb dX5_end_14 (by decide) (fun c_3 => ?_) (fun c_3 => ?_)
    · exact absurd c_3 (by decide)
    · refine lv_iconst (v := (-1)) hx hb dX5_end_17 (by decide) ?_
      have hP9 := hP
      have hD9 := hD
      have hK9 := hK
      exact W.iret (v := (-1)) hx hb hr (hlocks := hlocks) (fun t ht hW => ⟨⟨(-1), (m_n), rfl, Or.inr ⟨by omega, rfl, rfl⟩, by rw [ht]; exact hP9, va_K.moved hW.alike hK9, hD9⟩, hS.F ht⟩) hS.2.2 dX5_end_18

set_option maxHeartbeats 4000000 in
set_option maxRecDepth 100000 in
theorem c_X5_slots (l : Launch) (dC : Nat → ClassId) (dI : Nat → Nat → Nat) (h0 : Nat) (g_row : Nat) (g_many : Nat) (g_loss : Nat) (g_less : Nat) (g_voteValue : Nat) (g_voteNumber : Nat) (g_allValue : Nat) (g_allNumber : Nat) (g_nodeL : Nat) (g_nodeR : Nat) (g_part : Nat) (g_wasMany : Nat) (g_wasLoss : Nat) (g_wasValue : Nat) (g_wasNumber : Nat) (g_path : Nat) (g_heavyValue : Nat) (g_heavyTimes : Nat) (g_fewest : Nat) (g_which : Nat) (g_met : Nat) (m_n : Int32) (m_slots : Int32) (m_thrown : Int32) (m_allMany : Int32) (m_nodes : Int32) (m_partMany : Int32) (m_pathMany : Int32) (m_heavyMany : Int32) (m_mostMet : Int32) (p0 : Int32) (sz : Nat) : kx_MQ l (dC, dI) yX5_slots wsX5_slots ({ frames := 1, cells := 0, slots := 0, locals := 45 }) [.ref h0, .int p0] [kx_5 h0 g_row m_n m_slots m_thrown g_many g_loss g_less g_voteValue g_voteNumber g_allValue g_allNumber m_allMany g_nodeL g_nodeR m_nodes g_part m_partMany g_wasMany g_wasLoss g_wasValue g_wasNumber g_path m_pathMany g_heavyValue g_heavyTimes m_heavyMany g_fewest g_which g_met m_mostMet] [] sz (fun A => va_Qi (fun (r : Int32) (u : Int32) => ((1 ≤ p0.toInt ∧ p0.toInt ≤ 6 ∧ r = m_slots ∧ u = p0) ∨ ((p0.toInt < 1 ∨ 6 < p0.toInt) ∧ r = -1 ∧ u = m_slots))) (fun (u : Int32) (t : State) => va_P (dC, dI) vwCl [kx_5 h0 g_row m_n u 0 g_many g_loss g_less g_voteValue g_voteNumber g_allValue g_allNumber m_allMany g_nodeL g_nodeR m_nodes g_part m_partMany g_wasMany g_wasLoss g_wasValue g_wasNumber g_path m_pathMany g_heavyValue g_heavyTimes m_heavyMany g_fewest g_which g_met m_mostMet] t.heap ∧ va_K (dC, dI) vwCl [] t ∧ va_D A [kx_5 h0 g_row m_n u 0 g_many g_loss g_less g_voteValue g_voteNumber g_allValue g_allNumber m_allMany g_nodeL g_nodeR m_nodes g_part m_partMany g_wasMany g_wasLoss g_wasValue g_wasNumber g_path m_pathMany g_heavyValue g_heavyTimes m_heavyMany g_fewest g_which g_met m_mostMet]) A) := by
  refine kx_stQ (ws := wsX5_slots) (cc := cX5_slots) (maxL := 3) (ret := (some .int)) (by decide) rfl (Nat.le_of_ble_eq_true rfl) ?_
  intro p e s m below meth c A ls hx hb hr hlocks hts hown hml hA hS hP hK hD hl
  have hown : s.vm.findClass RX5 = some m.cls := hown
  have hl : lv_has ls 3 [(0, .ref h0), (1, .int p0)] := hl
  have hf_77 := hts (.fieldLink RX5 77 "MajorityIndexModel" "thrown" "I") (List.mem_of_getElem? (i := 1) rfl)
  have hi_5 : ∀ w ∈ u_ws RX5 TX5 30, w ∈ wsX5_slots := fun w h => List.mem_cons_of_mem _ (List.mem_append_right _ h)
  have hf_13 := hts (.fieldLink RX5 13 "MajorityIndexModel" "slots" "I") (List.mem_of_getElem? (i := 2) rfl)
  refine lv_aload_n hx hb dX5_slots_0 rfl (lv_at hl 0 rfl) ?_
  refine lv_iconst (v := 0) hx hb dX5_slots_1 (by decide) ?_
  refine va_put (D := (dC, dI)) (ci := 5) (v := .int 0) (ty := .int) (C := RX5) (T := TX5) (N := 30) hx hb hts hi_5 tyX5 tyX5_ok nmX5 hown hK hP hD hS 0 rfl rfl 3 (by decide) hf_77 (fun _ h9 => h9) rfl (by decide +kernel) rfl rfl (Nat.le_of_ble_eq_true rfl) dX5_slots_2 (fun H locs hP hD hS => ?_)
  obtain ⟨hP, hD⟩ := kx_re (w2 := [kx_5 h0 g_row m_n m_slots 0 g_many g_loss g_less g_voteValue g_voteNumber g_allValue g_allNumber m_allMany g_nodeL g_nodeR m_nodes g_part m_partMany g_wasMany g_wasLoss g_wasValue g_wasNumber g_path m_pathMany g_heavyValue g_heavyTimes m_heavyMany g_fewest g_which g_met m_mostMet]) hP hD rfl
  refine lv_iload_n hx hb dX5_slots_5 rfl (lv_at hl 1 rfl) ?_
  refine lv_iconst (v := 1) hx hb dX5_slots_6 (by decide) ?_
  refine lv_bipush (v := 6) hx hb dX5_slots_7 (by decide) ?_
  have hPc := hP.sub (ws' := []) [] rfl
  have hKc := hK
  refine vp_callSi (W.runS (As := [.int p0, .int 1, .int 6]) (rest := []) ⟨hx, hb, hml, hown, hts⟩ (c_X5_within l dC dI p0 1 6) (va_cwS 3 hts gX5_slots_X5_within rfl rfl rfl (by decide +kernel) ⟨Nat.le_of_ble_eq_true rfl, Nat.le_of_ble_eq_true rfl⟩) ⟨fun a U g mk q => by obtain ⟨q0, qP, qK⟩ := q; exact ⟨q0, qP, va_K.moved (u := U) (U := U.calling g mk a) (Vm.Alike.refl U.vm) qK⟩, fun U hU hW => ⟨rfl, by rw [hU]; exact hPc, va_K.moved hW.alike hKc⟩⟩ rfl rfl hl.1 rfl (lv_room (Nat.le_of_ble_eq_true rfl)) dX5_slots_9 ⟨Nat.le_of_ble_eq_true rfl, Nat.le_of_ble_eq_true rfl⟩) (fun r_1 w_1 => ?_)
  rcases w_1 with ⟨rfl, w_1⟩ | ⟨rfl, w_1⟩
  · have w_1 : (1 ≤ p0.toInt ∧ p0.toInt ≤ 6) := w_1
    refine lv_if_ne (tgt := 17) hx hb dX5_slots_12 (by decide) (fun c_2 => ?_) (fun c_2 => ?_)
    · refine lv_aload_n hx hb dX5_slots_17 rfl (lv_at hl 0 rfl) ?_
      refine va_get (D := (dC, dI)) (ci := 5) (v := .int m_slots) (C := RX5) (T := TX5) (N := 30) hx hb hts hi_5 hown hK hP 0 rfl rfl 2 (by decide) hf_13 (fun _ h9 => h9) rfl dX5_slots_18 ?_
      refine lv_istore_n (lv' := [(2, .int m_slots), (0, .ref h0), (1, .int p0)]) hx hb dX5_slots_21 rfl hl (by decide) rfl (fun ls hl => ?_)
      refine lv_aload_n hx hb dX5_slots_22 rfl (lv_at hl 1 rfl) ?_
      refine lv_iload_n hx hb dX5_slots_23 rfl (lv_at hl 2 rfl) ?_
      refine va_put (D := (dC, dI)) (ci := 5) (v := .int p0) (ty := .int) (C := RX5) (T := TX5) (N := 30) hx hb hts hi_5 tyX5 tyX5_ok nmX5 hown hK hP hD hS 0 rfl rfl 2 (by decide) hf_13 (fun _ h9 => h9) rfl (by decide +kernel) rfl rfl (Nat.le_of_ble_eq_true rfl) dX5_slots_24 (fun H locs hP hD hS => ?_)
      obtain ⟨hP, hD⟩ := kx_re (w2 := [kx_5 h0 g_row m_n p0 0 g_many g_loss g_less g_voteValue g_voteNumber g_allValue g_allNumber m_allMany g_nodeL g_nodeR m_nodes g_part m_partMany g_wasMany g_wasLoss g_wasValue g_wasNumber g_path m_pathMany g_heavyValue g_heavyTimes m_heavyMany g_fewest g_which g_met m_mostMet]) hP hD rfl
      refine lv_iload_n hx hb dX5_slots_27 rfl (lv_at hl 0 rfl) ?_
      have hP9 := hP
      have hD9 := hD
      have hK9 := hK
      exact W.iret (v := m_slots) hx hb hr (hlocks := hlocks) (fun t ht hW => ⟨⟨m_slots, (p0), rfl, Or.inl ⟨by omega, by omega, rfl, rfl⟩, by rw [ht]; exact hP9, va_K.moved hW.alike hK9, hD9⟩, hS.F ht⟩) hS.2.2 dX5_slots_28
    · exact absurd c_2 (by decide)
  · have w_1 : (p0.toInt < 1 ∨ 6 < p0.toInt) := w_1
    refine lv_if_ne (tgt := 17) hx hb dX5_slots_12 (by decide) (fun c_3 => ?_) (fun c_3 => ?_)
    · exact absurd c_3 (by decide)
    · refine lv_iconst (v := (-1)) hx hb dX5_slots_15 (by decide) ?_
      have hP9 := hP
      have hD9 := hD
      have hK9 := hK
      exact W.iret (v := (-1)) hx hb hr (hlocks := hlocks) (fun t ht hW => ⟨⟨(-1), (m_slots), rfl, Or.inr ⟨by omega, rfl, rfl⟩, by rw [ht]; exact hP9, va_K.moved hW.alike hK9, hD9⟩, hS.F ht⟩) hS.2.2 dX5_slots_16

set_option maxHeartbeats 4000000 in
set_option maxRecDepth 100000 in
theorem c_X5_insert (l : Launch) (dC : Nat → ClassId) (dI : Nat → Nat → Nat) (h0 : Nat) (g_row : Nat) (g_many : Nat) (g_loss : Nat) (g_less : Nat) (g_voteValue : Nat) (g_voteNumber : Nat) (g_allValue : Nat) (g_allNumber : Nat) (g_nodeL : Nat) (g_nodeR : Nat) (g_part : Nat) (g_wasMany : Nat) (g_wasLoss : Nat) (g_wasValue : Nat) (g_wasNumber : Nat) (g_path : Nat) (g_heavyValue : Nat) (g_heavyTimes : Nat) (g_fewest : Nat) (g_which : Nat) (g_met : Nat) (m_n : Int32) (m_slots : Int32) (m_thrown : Int32) (m_allMany : Int32) (m_nodes : Int32) (m_partMany : Int32) (m_pathMany : Int32) (m_heavyMany : Int32) (m_mostMet : Int32) (cyI : ClassId) (f : Nat → Int32) (p0 : Int32) (p1 : Int32) (sz : Nat) (a0 : 0 ≤ m_n.toInt) (a1 : m_n.toInt ≤ 160) (s1 : shorts f) : kx_MQ l (dC, dI) yX5_insert wsX5_insert ({ frames := 2, cells := 0, slots := 0, locals := 90 }) [.ref h0, .int p0, .int p1] [kx_5 h0 g_row m_n m_slots m_thrown g_many g_loss g_less g_voteValue g_voteNumber g_allValue g_allNumber m_allMany g_nodeL g_nodeR m_nodes g_part m_partMany g_wasMany g_wasLoss g_wasValue g_wasNumber g_path m_pathMany g_heavyValue g_heavyTimes m_heavyMany g_fewest g_which g_met m_mostMet, kx_a g_row cyI 160 f] [(cyI, .int)] sz (fun A => va_Qi (fun (r : Int32) (u : Int32 × (Nat → Int32)) => ((0 ≤ p0.toInt ∧ p0.toInt ≤ m_n.toInt ∧ -32768 ≤ p1.toInt ∧ p1.toInt ≤ 32767 ∧ m_n.toInt < 160 ∧ r = u.1 ∧ u.1.toInt = m_n.toInt + 1 ∧ u.2 = upd (shR f m_n.toNatClampNeg p0.toNatClampNeg) p0.toNatClampNeg p1) ∨ ((p0.toInt < 0 ∨ m_n.toInt < p0.toInt ∨ p1.toInt < -32768 ∨ 32767 < p1.toInt ∨ 160 ≤ m_n.toInt) ∧ r = -1 ∧ u.1 = m_n ∧ u.2 = f)) ∧ shorts u.2) (fun (u : Int32 × (Nat → Int32)) (t : State) => va_P (dC, dI) vwCl [kx_5 h0 g_row u.1 m_slots 0 g_many g_loss g_less g_voteValue g_voteNumber g_allValue g_allNumber m_allMany g_nodeL g_nodeR m_nodes g_part m_partMany g_wasMany g_wasLoss g_wasValue g_wasNumber g_path m_pathMany g_heavyValue g_heavyTimes m_heavyMany g_fewest g_which g_met m_mostMet, kx_a g_row cyI 160 u.2] t.heap ∧ va_K (dC, dI) vwCl [(cyI, .int)] t ∧ va_D A [kx_5 h0 g_row u.1 m_slots 0 g_many g_loss g_less g_voteValue g_voteNumber g_allValue g_allNumber m_allMany g_nodeL g_nodeR m_nodes g_part m_partMany g_wasMany g_wasLoss g_wasValue g_wasNumber g_path m_pathMany g_heavyValue g_heavyTimes m_heavyMany g_fewest g_which g_met m_mostMet, kx_a g_row cyI 160 u.2]) A) := by
  refine kx_stQ (ws := wsX5_insert) (cc := cX5_insert) (maxL := 4) (ret := (some .int)) (by decide) rfl (Nat.le_of_ble_eq_true rfl) ?_
  intro p e s m below meth c A ls hx hb hr hlocks hts hown hml hA hS hP hK hD hl
  have hown : s.vm.findClass RX5 = some m.cls := hown
  have hl : lv_has ls 4 [(0, .ref h0), (1, .int p0), (2, .int p1)] := hl
  have hf_77 := hts (.fieldLink RX5 77 "MajorityIndexModel" "thrown" "I") (List.mem_of_getElem? (i := 1) rfl)
  have hi_5 : ∀ w ∈ u_ws RX5 TX5 30, w ∈ wsX5_insert := fun w h => List.mem_cons_of_mem _ (List.mem_append_right _ h)
  have hf_84 := hts (.fieldLink RX5 84 "MajorityIndexModel" "n" "I") (List.mem_of_getElem? (i := 2) rfl)
  have hf_7 := hts (.fieldLink RX5 7 "MajorityIndexModel" "row" "[I") (List.mem_of_getElem? (i := 3) rfl)
  refine lv_aload_n hx hb dX5_insert_0 rfl (lv_at hl 0 rfl) ?_
  refine lv_iconst (v := 0) hx hb dX5_insert_1 (by decide) ?_
  refine va_put (D := (dC, dI)) (ci := 5) (v := .int 0) (ty := .int) (C := RX5) (T := TX5) (N := 30) hx hb hts hi_5 tyX5 tyX5_ok nmX5 hown hK hP hD hS 0 rfl rfl 3 (by decide) hf_77 (fun _ h9 => h9) rfl (by decide +kernel) rfl rfl (Nat.le_of_ble_eq_true rfl) dX5_insert_2 (fun H locs hP hD hS => ?_)
  obtain ⟨hP, hD⟩ := kx_re (w2 := [kx_5 h0 g_row m_n m_slots 0 g_many g_loss g_less g_voteValue g_voteNumber g_allValue g_allNumber m_allMany g_nodeL g_nodeR m_nodes g_part m_partMany g_wasMany g_wasLoss g_wasValue g_wasNumber g_path m_pathMany g_heavyValue g_heavyTimes m_heavyMany g_fewest g_which g_met m_mostMet, kx_a g_row cyI 160 f]) hP hD rfl
  refine lv_iload_n hx hb dX5_insert_5 rfl (lv_at hl 1 rfl) ?_
  refine lv_iconst (v := 0) hx hb dX5_insert_6 (by decide) ?_
  refine lv_aload_n hx hb dX5_insert_7 rfl (lv_at hl 0 rfl) ?_
  refine va_get (D := (dC, dI)) (ci := 5) (v := .int m_n) (C := RX5) (T := TX5) (N := 30) hx hb hts hi_5 hown hK hP 0 rfl rfl 1 (by decide) hf_84 (fun _ h9 => h9) rfl dX5_insert_8 ?_
  have hPc := hP.sub (ws' := []) [] rfl
  have hKc := hK.sub (tys' := []) [] rfl
  refine vp_callSi (W.runS (As := [.int p0, .int 0, .int m_n]) (rest := []) ⟨hx, hb, hml, hown, hts⟩ (c_X5_within l dC dI p0 0 m_n) (va_cwS 3 hts gX5_insert_X5_within rfl rfl rfl (by decide +kernel) ⟨Nat.le_of_ble_eq_true rfl, Nat.le_of_ble_eq_true rfl⟩) ⟨fun a U g mk q => by obtain ⟨q0, qP, qK⟩ := q; exact ⟨q0, qP, va_K.moved (u := U) (U := U.calling g mk a) (Vm.Alike.refl U.vm) qK⟩, fun U hU hW => ⟨rfl, by rw [hU]; exact hPc, va_K.moved hW.alike hKc⟩⟩ rfl rfl hl.1 rfl (lv_room (Nat.le_of_ble_eq_true rfl)) dX5_insert_11 ⟨Nat.le_of_ble_eq_true rfl, Nat.le_of_ble_eq_true rfl⟩) (fun r_1 w_1 => ?_)
  rcases w_1 with ⟨rfl, w_1⟩ | ⟨rfl, w_1⟩
  · have w_1 : (0 ≤ p0.toInt ∧ p0.toInt ≤ m_n.toInt) := w_1
    refine lv_if_eq (tgt := 34) hx hb dX5_insert_14 (by decide) (fun c_2 => ?_) (fun c_2 => ?_)
    · exact absurd c_2 (by decide)
    · refine lv_iload_n hx hb dX5_insert_17 rfl (lv_at hl 2 rfl) ?_
      have hPc := hP.sub (ws' := []) [] rfl
      have hKc := hK.sub (tys' := []) [] rfl
      refine vp_callSi (W.runS (As := [.int p1]) (rest := []) ⟨hx, hb, hml, hown, hts⟩ (c_X5_isValue l dC dI p1) (va_cwS 1 hts gX5_insert_X5_isValue rfl rfl rfl (by decide +kernel) ⟨Nat.le_of_ble_eq_true rfl, Nat.le_of_ble_eq_true rfl⟩) ⟨fun a U g mk q => by obtain ⟨q0, qP, qK⟩ := q; exact ⟨q0, qP, va_K.moved (u := U) (U := U.calling g mk a) (Vm.Alike.refl U.vm) qK⟩, fun U hU hW => ⟨rfl, by rw [hU]; exact hPc, va_K.moved hW.alike hKc⟩⟩ rfl rfl hl.1 rfl (lv_room (Nat.le_of_ble_eq_true rfl)) dX5_insert_18 ⟨Nat.le_of_ble_eq_true rfl, Nat.le_of_ble_eq_true rfl⟩) (fun r_3 w_3 => ?_)
      rcases w_3 with ⟨rfl, w_3⟩ | ⟨rfl, w_3⟩
      · have w_3 : (-32768 ≤ p1.toInt ∧ p1.toInt ≤ 32767) := w_3
        refine lv_if_eq (tgt := 34) hx hb dX5_insert_21 (by decide) (fun c_4 => ?_) (fun c_4 => ?_)
        · exact absurd c_4 (by decide)
        · refine lv_aload_n hx hb dX5_insert_24 rfl (lv_at hl 0 rfl) ?_
          refine va_get (D := (dC, dI)) (ci := 5) (v := .int m_n) (C := RX5) (T := TX5) (N := 30) hx hb hts hi_5 hown hK hP 0 rfl rfl 1 (by decide) hf_84 (fun _ h9 => h9) rfl dX5_insert_25 ?_
          refine lv_sipush (v := 160) hx hb dX5_insert_28 (by decide) ?_
          refine lv_icmp_ne (tgt := 36) hx hb dX5_insert_31 (by decide) (fun c_5 => ?_) (fun c_5 => ?_)
          · have i_5 : ¬ m_n.toInt = 160 := kc_ne c_5
            refine lv_aload_n hx hb dX5_insert_36 rfl (lv_at hl 0 rfl) ?_
            refine va_get (D := (dC, dI)) (ci := 5) (v := .int m_n) (C := RX5) (T := TX5) (N := 30) hx hb hts hi_5 hown hK hP 0 rfl rfl 1 (by decide) hf_84 (fun _ h9 => h9) rfl dX5_insert_37 ?_
            refine lv_istore_n (lv' := [(3, .int m_n), (0, .ref h0), (1, .int p0), (2, .int p1)]) hx hb dX5_insert_40 rfl hl (by decide) rfl (fun ls hl => ?_)
            have LP1 : ∀ (n : Nat) (i : Int32) (fc : Nat → Int32), (p0.toInt ≤ i.toInt) → (i.toInt ≤ m_n.toInt) → (fc = shR f m_n.toNatClampNeg i.toNatClampNeg) → (i.toInt).toNat < n → ∀ (H : Heap) (locs : List Loc), va_P (dC, dI) vwCl [kx_5 h0 g_row m_n m_slots 0 g_many g_loss g_less g_voteValue g_voteNumber g_allValue g_allNumber m_allMany g_nodeL g_nodeR m_nodes g_part m_partMany g_wasMany g_wasLoss g_wasValue g_wasNumber g_path m_pathMany g_heavyValue g_heavyTimes m_heavyMany g_fewest g_which g_met m_mostMet, kx_a g_row cyI 160 fc] H → va_D A [kx_5 h0 g_row m_n m_slots 0 g_many g_loss g_less g_voteValue g_voteNumber g_allValue g_allNumber m_allMany g_nodeL g_nodeR m_nodes g_part m_partMany g_wasMany g_wasLoss g_wasValue g_wasNumber g_path m_pathMany g_heavyValue g_heavyTimes m_heavyMany g_fewest g_which g_met m_mostMet, kx_a g_row cyI 160 fc] → va_S A s.heap H locs → ∀ (ls : Array Slot), lv_has ls 4 [(3, .int i), (0, .ref h0), (1, .int p0), (2, .int p1)] → W p l e (headSpec wsX5_insert ({ frames := 2, cells := 0, slots := 0, locals := 90 })).room s m ([.ref h0, .int p0, .int p1] : List Value).toArray below meth c H locs 0 0 (MQ below (va_Qi (fun (r : Int32) (u : Int32 × (Nat → Int32)) => ((0 ≤ p0.toInt ∧ p0.toInt ≤ m_n.toInt ∧ -32768 ≤ p1.toInt ∧ p1.toInt ≤ 32767 ∧ m_n.toInt < 160 ∧ r = u.1 ∧ u.1.toInt = m_n.toInt + 1 ∧ u.2 = upd (shR f m_n.toNatClampNeg p0.toNatClampNeg) p0.toNatClampNeg p1) ∨ ((p0.toInt < 0 ∨ m_n.toInt < p0.toInt ∨ p1.toInt < -32768 ∨ 32767 < p1.toInt ∨ 160 ≤ m_n.toInt) ∧ r = -1 ∧ u.1 = m_n ∧ u.2 = f)) ∧ shorts u.2) (fun (u : Int32 × (Nat → Int32)) (t : State) => va_P (dC, dI) vwCl [kx_5 h0 g_row u.1 m_slots 0 g_many g_loss g_less g_voteValue g_voteNumber g_allValue g_allNumber m_allMany g_nodeL g_nodeR m_nodes g_part m_partMany g_wasMany g_wasLoss g_wasValue g_wasNumber g_path m_pathMany g_heavyValue g_heavyTimes m_heavyMany g_fewest g_which g_met m_mostMet, kx_a g_row cyI 160 u.2] t.heap ∧ va_K (dC, dI) vwCl [(cyI, .int)] t ∧ va_D A [kx_5 h0 g_row u.1 m_slots 0 g_many g_loss g_less g_voteValue g_voteNumber g_allValue g_allNumber m_allMany g_nodeL g_nodeR m_nodes g_part m_partMany g_wasMany g_wasLoss g_wasValue g_wasNumber g_path m_pathMany g_heavyValue g_heavyTimes m_heavyMany g_fewest g_which g_met m_mostMet, kx_a g_row cyI 160 u.2]) A) ([.ref h0, .int p0, .int p1] : List Value).toArray s 0 0 A) (F0 m 41 ls []) := by
              intro n
              induction n with
              | zero => intro i fc LP1_h0 LP1_h1 LP1_h2 hn; exact absurd hn (Nat.not_lt_zero _)
              | succ n ih1 =>
                intro i fc LP1_h0 LP1_h1 LP1_h2 hn1 H locs hP hD hS ls hl
                have n_i := ki_nat i rfl (by omega)
                have n_l := ki_nat m_n rfl (by omega)
                refine lv_iload_n hx hb dX5_insert_41 rfl (lv_at hl 0 rfl) ?_
                refine lv_iload_n hx hb dX5_insert_42 rfl (lv_at hl 2 rfl) ?_
                refine lv_icmp_le (tgt := 66) hx hb dX5_insert_43 (by decide) (fun c_6 => ?_) (fun c_6 => ?_)
                · have i_6 : i.toInt ≤ p0.toInt := kc_le c_6
                  refine lv_aload_n hx hb dX5_insert_66 rfl (lv_at hl 1 rfl) ?_
                  refine va_get (D := (dC, dI)) (ci := 5) (v := .ref g_row) (C := RX5) (T := TX5) (N := 30) hx hb hts hi_5 hown hK hP 0 rfl rfl 0 (by decide) hf_7 (fun _ h9 => h9) rfl dX5_insert_67 ?_
                  refine lv_iload_n hx hb dX5_insert_70 rfl (lv_at hl 2 rfl) ?_
                  refine lv_iload_n hx hb dX5_insert_71 rfl (lv_at hl 3 rfl) ?_
                  refine va_iast hx hb hK hP hD hS 1 0 rfl rfl (ki_in (om_10 w_1.1) (by omega)) dX5_insert_72 (fun H locs hP hD hS => ?_)
                  obtain ⟨hP, hD⟩ := kx_re (w2 := [kx_5 h0 g_row m_n m_slots 0 g_many g_loss g_less g_voteValue g_voteNumber g_allValue g_allNumber m_allMany g_nodeL g_nodeR m_nodes g_part m_partMany g_wasMany g_wasLoss g_wasValue g_wasNumber g_path m_pathMany g_heavyValue g_heavyTimes m_heavyMany g_fewest g_which g_met m_mostMet, kx_a g_row cyI 160 (upd fc p0.toNatClampNeg p1)]) hP hD rfl
                  refine lv_aload_n hx hb dX5_insert_73 rfl (lv_at hl 1 rfl) ?_
                  refine lv_dup hx hb dX5_insert_74 rfl ?_
                  refine va_get (D := (dC, dI)) (ci := 5) (v := .int m_n) (C := RX5) (T := TX5) (N := 30) hx hb hts hi_5 hown hK hP 0 rfl rfl 1 (by decide) hf_84 (fun _ h9 => h9) rfl dX5_insert_75 ?_
                  refine lv_iconst (v := 1) hx hb dX5_insert_78 (by decide) ?_
                  refine lv_iadd hx hb dX5_insert_79 ?_
                  refine lv_topi (fun y_7 ey_7 => ?_)
                  have i_7 : y_7.toInt = m_n.toInt + 1 := ki_add ey_7 rfl rfl (om_13 a0) (om_192 a1)
                  refine va_put (D := (dC, dI)) (ci := 5) (v := .int y_7) (ty := .int) (C := RX5) (T := TX5) (N := 30) hx hb hts hi_5 tyX5 tyX5_ok nmX5 hown hK hP hD hS 0 rfl rfl 1 (by decide) hf_84 (fun _ h9 => h9) rfl (by decide +kernel) rfl rfl (Nat.le_of_ble_eq_true rfl) dX5_insert_80 (fun H locs hP hD hS => ?_)
                  obtain ⟨hP, hD⟩ := kx_re (w2 := [kx_5 h0 g_row y_7 m_slots 0 g_many g_loss g_less g_voteValue g_voteNumber g_allValue g_allNumber m_allMany g_nodeL g_nodeR m_nodes g_part m_partMany g_wasMany g_wasLoss g_wasValue g_wasNumber g_path m_pathMany g_heavyValue g_heavyTimes m_heavyMany g_fewest g_which g_met m_mostMet, kx_a g_row cyI 160 (upd fc p0.toNatClampNeg p1)]) hP hD rfl
                  refine lv_aload_n hx hb dX5_insert_83 rfl (lv_at hl 1 rfl) ?_
                  refine va_get (D := (dC, dI)) (ci := 5) (v := .int y_7) (C := RX5) (T := TX5) (N := 30) hx hb hts hi_5 hown hK hP 0 rfl rfl 1 (by decide) hf_84 (fun _ h9 => h9) rfl dX5_insert_84 ?_
                  have hP9 := hP
                  have hD9 := hD
                  have hK9 := hK
                  have q_f : upd fc p0.toNatClampNeg p1 = upd (shR f m_n.toNatClampNeg p0.toNatClampNeg) p0.toNatClampNeg p1 := by rw [LP1_h2, ki_nateq (show i.toInt = p0.toInt by omega)]
                  exact W.iret (v := y_7) hx hb hr (hlocks := hlocks) (fun t ht hW => ⟨⟨y_7, (y_7, (upd fc p0.toNatClampNeg p1)), rfl, ⟨Or.inl ⟨by omega, by omega, by omega, by omega, by omega, rfl, (by (try dsimp only); omega), q_f⟩, (by (try dsimp only); rw [q_f]; exact shorts_upd (shorts_shR s1) (by omega) (by omega))⟩, by rw [ht]; exact hP9, va_K.moved hW.alike hK9, hD9⟩, hS.F ht⟩) hS.2.2 dX5_insert_87
                · have i_6 : p0.toInt < i.toInt := kc_nle c_6
                  refine lv_aload_n hx hb dX5_insert_46 rfl (lv_at hl 1 rfl) ?_
                  refine va_get (D := (dC, dI)) (ci := 5) (v := .ref g_row) (C := RX5) (T := TX5) (N := 30) hx hb hts hi_5 hown hK hP 0 rfl rfl 0 (by decide) hf_7 (fun _ h9 => h9) rfl dX5_insert_47 ?_
                  refine lv_iload_n hx hb dX5_insert_50 rfl (lv_at hl 0 rfl) ?_
                  refine lv_aload_n hx hb dX5_insert_51 rfl (lv_at hl 1 rfl) ?_
                  refine va_get (D := (dC, dI)) (ci := 5) (v := .ref g_row) (C := RX5) (T := TX5) (N := 30) hx hb hts hi_5 hown hK hP 0 rfl rfl 0 (by decide) hf_7 (fun _ h9 => h9) rfl dX5_insert_52 ?_
                  refine lv_iload_n hx hb dX5_insert_55 rfl (lv_at hl 0 rfl) ?_
                  refine lv_iconst (v := 1) hx hb dX5_insert_56 (by decide) ?_
                  refine lv_isub hx hb dX5_insert_57 ?_
                  refine lv_topi (fun y_8 ey_8 => ?_)
                  have i_8 : y_8.toInt = i.toInt - 1 := ki_sub ey_8 rfl rfl (om_17 w_1.1 i_6) (om_183 a1 LP1_h1)
                  refine va_iald hx hb hK hP 1 0 rfl rfl (ki_in (om_19 w_1.1 i_6 i_8) (om_232 a1 LP1_h1 i_8)) dX5_insert_58 ?_
                  refine lv_topi (fun y_9 ey_9 => ?_)
                  have j_9 : y_9.toInt = (fc y_8.toNatClampNeg).toInt := congrArg Int32.toInt ey_9
                  refine va_iast hx hb hK hP hD hS 1 0 rfl rfl (ki_in (om_21 w_1.1 i_6) (by omega)) dX5_insert_59 (fun H locs hP hD hS => ?_)
                  obtain ⟨hP, hD⟩ := kx_re (w2 := [kx_5 h0 g_row m_n m_slots 0 g_many g_loss g_less g_voteValue g_voteNumber g_allValue g_allNumber m_allMany g_nodeL g_nodeR m_nodes g_part m_partMany g_wasMany g_wasLoss g_wasValue g_wasNumber g_path m_pathMany g_heavyValue g_heavyTimes m_heavyMany g_fewest g_which g_met m_mostMet, kx_a g_row cyI 160 (upd fc i.toNatClampNeg y_9)]) hP hD rfl
                  obtain ⟨x_10, ex_10⟩ : ∃ y : Int32, y = i + (-1) := ⟨_, rfl⟩
                  have i_10 : x_10.toInt = i.toInt + (-1) := ki_add ex_10 rfl rfl (om_23 w_1.1 i_6) (om_233 a1 LP1_h1)
                  refine lv_iinc (v := x_10) (lv' := [(3, .int x_10), (0, .ref h0), (1, .int p0), (2, .int p1)]) hx hb dX5_insert_60 hl (k := 0) rfl (by rw [ex_10]; rfl) (by decide) rfl (fun ls hl => ?_)
                  refine lv_goto (tgt := 41) hx hb dX5_insert_63 (by decide) ?_
                  have n_y := ki_nat y_8 rfl (by omega)
                  have n_x := ki_nat x_10 rfl (by omega)
                  exact ih1 x_10 (upd fc i.toNatClampNeg y_9) (om_25 i_6 i_10) (om_26 LP1_h1 i_10) (by rw [ey_9, LP1_h2]; exact shR_step (by omega) (by omega) (by omega)) (om_mu hn1 (om_27 i_10) (om_28 w_1.1 i_6)) _ _ hP hD hS ls (lv_sub hl [0, 1, 2, 3] rfl)
            exact LP1 ((m_n.toInt : Int).toNat + 1) m_n f (om_9 w_1.2) om_7 (shR_self _ _).symm (Nat.lt_succ_self _) _ _ hP hD hS ls (lv_sub hl [0, 1, 2, 3] rfl)
          · have i_5 : m_n.toInt = 160 := kc_eq c_5
            refine lv_iconst (v := (-1)) hx hb dX5_insert_34 (by decide) ?_
            have hP9 := hP
            have hD9 := hD
            have hK9 := hK
            exact W.iret (v := (-1)) hx hb hr (hlocks := hlocks) (fun t ht hW => ⟨⟨(-1), (m_n, f), rfl, ⟨Or.inr ⟨by omega, rfl, rfl, rfl⟩, s1⟩, by rw [ht]; exact hP9, va_K.moved hW.alike hK9, hD9⟩, hS.F ht⟩) hS.2.2 dX5_insert_35
      · have w_3 : (p1.toInt < -32768 ∨ 32767 < p1.toInt) := w_3
        refine lv_if_eq (tgt := 34) hx hb dX5_insert_21 (by decide) (fun c_11 => ?_) (fun c_11 => ?_)
        · refine lv_iconst (v := (-1)) hx hb dX5_insert_34 (by decide) ?_
          have hP9 := hP
          have hD9 := hD
          have hK9 := hK
          exact W.iret (v := (-1)) hx hb hr (hlocks := hlocks) (fun t ht hW => ⟨⟨(-1), (m_n, f), rfl, ⟨Or.inr ⟨by omega, rfl, rfl, rfl⟩, s1⟩, by rw [ht]; exact hP9, va_K.moved hW.alike hK9, hD9⟩, hS.F ht⟩) hS.2.2 dX5_insert_35
        · exact absurd c_11 (by decide)
  · have w_1 : (p0.toInt < 0 ∨ m_n.toInt < p0.toInt) := w_1
    refine lv_if_eq (tgt := 34) hx hb dX5_insert_14 (by decide) (fun c_12 => ?_) (fun c_12 => ?_)
    · refine lv_iconst (v := (-1)) hx hb dX5_insert_34 (by decide) ?_
      have hP9 := hP
      have hD9 := hD
      have hK9 := hK
      exact W.iret (v := (-1)) hx hb hr (hlocks := hlocks) (fun t ht hW => ⟨⟨(-1), (m_n, f), rfl, ⟨Or.inr ⟨by omega, rfl, rfl, rfl⟩, s1⟩, by rw [ht]; exact hP9, va_K.moved hW.alike hK9, hD9⟩, hS.F ht⟩) hS.2.2 dX5_insert_35
    · exact absurd c_12 (by decide)

set_option maxHeartbeats 4000000 in
set_option maxRecDepth 100000 in
theorem c_X5_remove (l : Launch) (dC : Nat → ClassId) (dI : Nat → Nat → Nat) (h0 : Nat) (g_row : Nat) (g_many : Nat) (g_loss : Nat) (g_less : Nat) (g_voteValue : Nat) (g_voteNumber : Nat) (g_allValue : Nat) (g_allNumber : Nat) (g_nodeL : Nat) (g_nodeR : Nat) (g_part : Nat) (g_wasMany : Nat) (g_wasLoss : Nat) (g_wasValue : Nat) (g_wasNumber : Nat) (g_path : Nat) (g_heavyValue : Nat) (g_heavyTimes : Nat) (g_fewest : Nat) (g_which : Nat) (g_met : Nat) (m_n : Int32) (m_slots : Int32) (m_thrown : Int32) (m_allMany : Int32) (m_nodes : Int32) (m_partMany : Int32) (m_pathMany : Int32) (m_heavyMany : Int32) (m_mostMet : Int32) (cyI : ClassId) (f : Nat → Int32) (p0 : Int32) (sz : Nat) (a0 : 0 ≤ m_n.toInt) (a1 : m_n.toInt ≤ 160) (s1 : shorts f) : kx_MQ l (dC, dI) yX5_remove wsX5_remove ({ frames := 2, cells := 0, slots := 0, locals := 90 }) [.ref h0, .int p0] [kx_5 h0 g_row m_n m_slots m_thrown g_many g_loss g_less g_voteValue g_voteNumber g_allValue g_allNumber m_allMany g_nodeL g_nodeR m_nodes g_part m_partMany g_wasMany g_wasLoss g_wasValue g_wasNumber g_path m_pathMany g_heavyValue g_heavyTimes m_heavyMany g_fewest g_which g_met m_mostMet, kx_a g_row cyI 160 f] [(cyI, .int)] sz (fun A => va_Qi (fun (r : Int32) (u : Int32 × (Nat → Int32)) => ((0 ≤ p0.toInt ∧ p0.toInt < m_n.toInt ∧ r = f p0.toNatClampNeg ∧ u.1.toInt = m_n.toInt - 1 ∧ u.2 = shL f p0.toNatClampNeg u.1.toNatClampNeg) ∨ ((p0.toInt < 0 ∨ m_n.toInt ≤ p0.toInt) ∧ r = -40000 ∧ u.1 = m_n ∧ u.2 = f)) ∧ shorts u.2) (fun (u : Int32 × (Nat → Int32)) (t : State) => va_P (dC, dI) vwCl [kx_5 h0 g_row u.1 m_slots 0 g_many g_loss g_less g_voteValue g_voteNumber g_allValue g_allNumber m_allMany g_nodeL g_nodeR m_nodes g_part m_partMany g_wasMany g_wasLoss g_wasValue g_wasNumber g_path m_pathMany g_heavyValue g_heavyTimes m_heavyMany g_fewest g_which g_met m_mostMet, kx_a g_row cyI 160 u.2] t.heap ∧ va_K (dC, dI) vwCl [(cyI, .int)] t ∧ va_D A [kx_5 h0 g_row u.1 m_slots 0 g_many g_loss g_less g_voteValue g_voteNumber g_allValue g_allNumber m_allMany g_nodeL g_nodeR m_nodes g_part m_partMany g_wasMany g_wasLoss g_wasValue g_wasNumber g_path m_pathMany g_heavyValue g_heavyTimes m_heavyMany g_fewest g_which g_met m_mostMet, kx_a g_row cyI 160 u.2]) A) := by
  refine kx_stQ (ws := wsX5_remove) (cc := cX5_remove) (maxL := 4) (ret := (some .int)) (by decide) rfl (Nat.le_of_ble_eq_true rfl) ?_
  intro p e s m below meth c A ls hx hb hr hlocks hts hown hml hA hS hP hK hD hl
  have hown : s.vm.findClass RX5 = some m.cls := hown
  have hl : lv_has ls 4 [(0, .ref h0), (1, .int p0)] := hl
  have hf_77 := hts (.fieldLink RX5 77 "MajorityIndexModel" "thrown" "I") (List.mem_of_getElem? (i := 1) rfl)
  have hi_5 : ∀ w ∈ u_ws RX5 TX5 30, w ∈ wsX5_remove := fun w h => List.mem_cons_of_mem _ (List.mem_append_right _ h)
  have hf_7 := hts (.fieldLink RX5 7 "MajorityIndexModel" "row" "[I") (List.mem_of_getElem? (i := 3) rfl)
  have hf_84 := hts (.fieldLink RX5 84 "MajorityIndexModel" "n" "I") (List.mem_of_getElem? (i := 4) rfl)
  have hk_148 := hts (.constant RX5 148 (-40000)) (List.mem_of_getElem? (i := 2) rfl)
  refine lv_aload_n hx hb dX5_remove_0 rfl (lv_at hl 0 rfl) ?_
  refine lv_iconst (v := 0) hx hb dX5_remove_1 (by decide) ?_
  refine va_put (D := (dC, dI)) (ci := 5) (v := .int 0) (ty := .int) (C := RX5) (T := TX5) (N := 30) hx hb hts hi_5 tyX5 tyX5_ok nmX5 hown hK hP hD hS 0 rfl rfl 3 (by decide) hf_77 (fun _ h9 => h9) rfl (by decide +kernel) rfl rfl (Nat.le_of_ble_eq_true rfl) dX5_remove_2 (fun H locs hP hD hS => ?_)
  obtain ⟨hP, hD⟩ := kx_re (w2 := [kx_5 h0 g_row m_n m_slots 0 g_many g_loss g_less g_voteValue g_voteNumber g_allValue g_allNumber m_allMany g_nodeL g_nodeR m_nodes g_part m_partMany g_wasMany g_wasLoss g_wasValue g_wasNumber g_path m_pathMany g_heavyValue g_heavyTimes m_heavyMany g_fewest g_which g_met m_mostMet, kx_a g_row cyI 160 f]) hP hD rfl
  refine lv_aload_n hx hb dX5_remove_5 rfl (lv_at hl 0 rfl) ?_
  refine lv_iload_n hx hb dX5_remove_6 rfl (lv_at hl 1 rfl) ?_
  have hPc := hP.sub (ws' := [kx_5 h0 g_row m_n m_slots 0 g_many g_loss g_less g_voteValue g_voteNumber g_allValue g_allNumber m_allMany g_nodeL g_nodeR m_nodes g_part m_partMany g_wasMany g_wasLoss g_wasValue g_wasNumber g_path m_pathMany g_heavyValue g_heavyTimes m_heavyMany g_fewest g_which g_met m_mostMet]) [0] rfl
  have hKc := hK.sub (tys' := []) [] rfl
  refine vp_callSi (W.runV (As := [.int p0]) (rest := []) ⟨hx, hb, hml, hown, hts⟩ (c_X5_isPlace l dC dI h0 g_row g_many g_loss g_less g_voteValue g_voteNumber g_allValue g_allNumber g_nodeL g_nodeR g_part g_wasMany g_wasLoss g_wasValue g_wasNumber g_path g_heavyValue g_heavyTimes g_fewest g_which g_met m_n m_slots 0 m_allMany m_nodes m_partMany m_pathMany m_heavyMany m_mostMet p0 a0 a1) (cwV 1 hts gX5_remove_X5_isPlace rfl rfl rfl (by decide +kernel) ⟨Nat.le_of_ble_eq_true rfl, Nat.le_of_ble_eq_true rfl⟩) ⟨fun a U g mk q => by obtain ⟨q0, qP, qK⟩ := q; exact ⟨q0, qP, va_K.moved (u := U) (U := U.calling g mk a) (Vm.Alike.refl U.vm) qK⟩, kx_rc5 hKc hPc (q0 := 0) rfl, fun U hU hW => ⟨rfl, by rw [hU]; exact hPc, va_K.moved hW.alike hKc⟩⟩ rfl rfl hl.1 rfl (lv_room (Nat.le_of_ble_eq_true rfl)) dX5_remove_7 ⟨Nat.le_of_ble_eq_true rfl, Nat.le_of_ble_eq_true rfl⟩) (fun r_1 w_1 => ?_)
  rcases w_1 with ⟨rfl, w_1⟩ | ⟨rfl, w_1⟩
  · have w_1 : (0 ≤ p0.toInt ∧ p0.toInt < m_n.toInt) := w_1
    refine lv_if_ne (tgt := 16) hx hb dX5_remove_10 (by decide) (fun c_2 => ?_) (fun c_2 => ?_)
    · refine lv_aload_n hx hb dX5_remove_16 rfl (lv_at hl 0 rfl) ?_
      refine va_get (D := (dC, dI)) (ci := 5) (v := .ref g_row) (C := RX5) (T := TX5) (N := 30) hx hb hts hi_5 hown hK hP 0 rfl rfl 0 (by decide) hf_7 (fun _ h9 => h9) rfl dX5_remove_17 ?_
      refine lv_iload_n hx hb dX5_remove_20 rfl (lv_at hl 1 rfl) ?_
      refine va_iald hx hb hK hP 1 0 rfl rfl (ki_in (om_10 w_1.1) (om_1 a1 w_1.2)) dX5_remove_21 ?_
      refine lv_topi (fun y_3 ey_3 => ?_)
      have j_3 : y_3.toInt = (f p0.toNatClampNeg).toInt := congrArg Int32.toInt ey_3
      refine lv_istore_n (lv' := [(2, .int y_3), (0, .ref h0), (1, .int p0)]) hx hb dX5_remove_22 rfl hl (by decide) rfl (fun ls hl => ?_)
      refine lv_aload_n hx hb dX5_remove_23 rfl (lv_at hl 1 rfl) ?_
      refine lv_dup hx hb dX5_remove_24 rfl ?_
      refine va_get (D := (dC, dI)) (ci := 5) (v := .int m_n) (C := RX5) (T := TX5) (N := 30) hx hb hts hi_5 hown hK hP 0 rfl rfl 1 (by decide) hf_84 (fun _ h9 => h9) rfl dX5_remove_25 ?_
      refine lv_iconst (v := 1) hx hb dX5_remove_28 (by decide) ?_
      refine lv_isub hx hb dX5_remove_29 ?_
      refine lv_topi (fun y_4 ey_4 => ?_)
      have i_4 : y_4.toInt = m_n.toInt - 1 := ki_sub ey_4 rfl rfl (om_113 a0) (om_87 a1)
      refine va_put (D := (dC, dI)) (ci := 5) (v := .int y_4) (ty := .int) (C := RX5) (T := TX5) (N := 30) hx hb hts hi_5 tyX5 tyX5_ok nmX5 hown hK hP hD hS 0 rfl rfl 1 (by decide) hf_84 (fun _ h9 => h9) rfl (by decide +kernel) rfl rfl (Nat.le_of_ble_eq_true rfl) dX5_remove_30 (fun H locs hP hD hS => ?_)
      obtain ⟨hP, hD⟩ := kx_re (w2 := [kx_5 h0 g_row y_4 m_slots 0 g_many g_loss g_less g_voteValue g_voteNumber g_allValue g_allNumber m_allMany g_nodeL g_nodeR m_nodes g_part m_partMany g_wasMany g_wasLoss g_wasValue g_wasNumber g_path m_pathMany g_heavyValue g_heavyTimes m_heavyMany g_fewest g_which g_met m_mostMet, kx_a g_row cyI 160 f]) hP hD rfl
      refine lv_iload_n hx hb dX5_remove_33 rfl (lv_at hl 2 rfl) ?_
      refine lv_istore_n (lv' := [(3, .int p0), (2, .int y_3), (0, .ref h0), (1, .int p0)]) hx hb dX5_remove_34 rfl hl (by decide) rfl (fun ls hl => ?_)
      have LP1 : ∀ (n : Nat) (i : Int32) (fc : Nat → Int32), (p0.toInt ≤ i.toInt) → (i.toInt ≤ y_4.toInt) → (fc = shL f p0.toNatClampNeg i.toNatClampNeg) → (y_4.toInt - i.toInt).toNat < n → ∀ (H : Heap) (locs : List Loc), va_P (dC, dI) vwCl [kx_5 h0 g_row y_4 m_slots 0 g_many g_loss g_less g_voteValue g_voteNumber g_allValue g_allNumber m_allMany g_nodeL g_nodeR m_nodes g_part m_partMany g_wasMany g_wasLoss g_wasValue g_wasNumber g_path m_pathMany g_heavyValue g_heavyTimes m_heavyMany g_fewest g_which g_met m_mostMet, kx_a g_row cyI 160 fc] H → va_D A [kx_5 h0 g_row y_4 m_slots 0 g_many g_loss g_less g_voteValue g_voteNumber g_allValue g_allNumber m_allMany g_nodeL g_nodeR m_nodes g_part m_partMany g_wasMany g_wasLoss g_wasValue g_wasNumber g_path m_pathMany g_heavyValue g_heavyTimes m_heavyMany g_fewest g_which g_met m_mostMet, kx_a g_row cyI 160 fc] → va_S A s.heap H locs → ∀ (ls : Array Slot), lv_has ls 4 [(3, .int i), (2, .int y_3), (0, .ref h0), (1, .int p0)] → W p l e (headSpec wsX5_remove ({ frames := 2, cells := 0, slots := 0, locals := 90 })).room s m ([.ref h0, .int p0] : List Value).toArray below meth c H locs 0 0 (MQ below (va_Qi (fun (r : Int32) (u : Int32 × (Nat → Int32)) => ((0 ≤ p0.toInt ∧ p0.toInt < m_n.toInt ∧ r = f p0.toNatClampNeg ∧ u.1.toInt = m_n.toInt - 1 ∧ u.2 = shL f p0.toNatClampNeg u.1.toNatClampNeg) ∨ ((p0.toInt < 0 ∨ m_n.toInt ≤ p0.toInt) ∧ r = -40000 ∧ u.1 = m_n ∧ u.2 = f)) ∧ shorts u.2) (fun (u : Int32 × (Nat → Int32)) (t : State) => va_P (dC, dI) vwCl [kx_5 h0 g_row u.1 m_slots 0 g_many g_loss g_less g_voteValue g_voteNumber g_allValue g_allNumber m_allMany g_nodeL g_nodeR m_nodes g_part m_partMany g_wasMany g_wasLoss g_wasValue g_wasNumber g_path m_pathMany g_heavyValue g_heavyTimes m_heavyMany g_fewest g_which g_met m_mostMet, kx_a g_row cyI 160 u.2] t.heap ∧ va_K (dC, dI) vwCl [(cyI, .int)] t ∧ va_D A [kx_5 h0 g_row u.1 m_slots 0 g_many g_loss g_less g_voteValue g_voteNumber g_allValue g_allNumber m_allMany g_nodeL g_nodeR m_nodes g_part m_partMany g_wasMany g_wasLoss g_wasValue g_wasNumber g_path m_pathMany g_heavyValue g_heavyTimes m_heavyMany g_fewest g_which g_met m_mostMet, kx_a g_row cyI 160 u.2]) A) ([.ref h0, .int p0] : List Value).toArray s 0 0 A) (F0 m 35 ls []) := by
        intro n
        induction n with
        | zero => intro i fc LP1_h0 LP1_h1 LP1_h2 hn; exact absurd hn (Nat.not_lt_zero _)
        | succ n ih1 =>
          intro i fc LP1_h0 LP1_h1 LP1_h2 hn1 H locs hP hD hS ls hl
          have n_i := ki_nat i rfl (by omega)
          have n_p := ki_nat p0 rfl (by omega)
          refine lv_iload_n hx hb dX5_remove_35 rfl (lv_at hl 0 rfl) ?_
          refine lv_aload_n hx hb dX5_remove_36 rfl (lv_at hl 2 rfl) ?_
          refine va_get (D := (dC, dI)) (ci := 5) (v := .int y_4) (C := RX5) (T := TX5) (N := 30) hx hb hts hi_5 hown hK hP 0 rfl rfl 1 (by decide) hf_84 (fun _ h9 => h9) rfl dX5_remove_37 ?_
          refine lv_icmp_ge (tgt := 63) hx hb dX5_remove_40 (by decide) (fun c_5 => ?_) (fun c_5 => ?_)
          · have i_5 : y_4.toInt ≤ i.toInt := kc_le c_5
            refine lv_iload_n hx hb dX5_remove_63 rfl (lv_at hl 1 rfl) ?_
            have hP9 := hP
            have hD9 := hD
            have hK9 := hK
            have n_l := ki_nat y_4 rfl (by omega)
            have q_f : fc = shL f p0.toNatClampNeg y_4.toNatClampNeg := by rw [LP1_h2, ki_nateq (show i.toInt = y_4.toInt by omega)]
            exact W.iret (v := y_3) hx hb hr (hlocks := hlocks) (fun t ht hW => ⟨⟨y_3, (y_4, fc), rfl, ⟨Or.inl ⟨by omega, by omega, ey_3, (by (try dsimp only); omega), q_f⟩, (by (try dsimp only); rw [q_f]; exact shorts_shL s1 (by omega))⟩, by rw [ht]; exact hP9, va_K.moved hW.alike hK9, hD9⟩, hS.F ht⟩) hS.2.2 dX5_remove_64
          · have i_5 : i.toInt < y_4.toInt := kc_nle c_5
            refine lv_aload_n hx hb dX5_remove_43 rfl (lv_at hl 2 rfl) ?_
            refine va_get (D := (dC, dI)) (ci := 5) (v := .ref g_row) (C := RX5) (T := TX5) (N := 30) hx hb hts hi_5 hown hK hP 0 rfl rfl 0 (by decide) hf_7 (fun _ h9 => h9) rfl dX5_remove_44 ?_
            refine lv_iload_n hx hb dX5_remove_47 rfl (lv_at hl 0 rfl) ?_
            refine lv_aload_n hx hb dX5_remove_48 rfl (lv_at hl 2 rfl) ?_
            refine va_get (D := (dC, dI)) (ci := 5) (v := .ref g_row) (C := RX5) (T := TX5) (N := 30) hx hb hts hi_5 hown hK hP 0 rfl rfl 0 (by decide) hf_7 (fun _ h9 => h9) rfl dX5_remove_49 ?_
            refine lv_iload_n hx hb dX5_remove_52 rfl (lv_at hl 0 rfl) ?_
            refine lv_iconst (v := 1) hx hb dX5_remove_53 (by decide) ?_
            refine lv_iadd hx hb dX5_remove_54 ?_
            refine lv_topi (fun y_6 ey_6 => ?_)
            have i_6 : y_6.toInt = i.toInt + 1 := ki_add ey_6 rfl rfl (om_2 w_1.1 LP1_h0) (om_234 a1 i_4 LP1_h1)
            refine va_iald hx hb hK hP 1 0 rfl rfl (ki_in (om_89 w_1.1 LP1_h0 i_6) (om_90 a1 i_4 i_5 i_6)) dX5_remove_55 ?_
            refine lv_topi (fun y_7 ey_7 => ?_)
            have j_7 : y_7.toInt = (fc y_6.toNatClampNeg).toInt := congrArg Int32.toInt ey_7
            refine va_iast hx hb hK hP hD hS 1 0 rfl rfl (ki_in (om_0 w_1.1 LP1_h0) (om_235 a1 i_4 LP1_h1)) dX5_remove_56 (fun H locs hP hD hS => ?_)
            obtain ⟨hP, hD⟩ := kx_re (w2 := [kx_5 h0 g_row y_4 m_slots 0 g_many g_loss g_less g_voteValue g_voteNumber g_allValue g_allNumber m_allMany g_nodeL g_nodeR m_nodes g_part m_partMany g_wasMany g_wasLoss g_wasValue g_wasNumber g_path m_pathMany g_heavyValue g_heavyTimes m_heavyMany g_fewest g_which g_met m_mostMet, kx_a g_row cyI 160 (upd fc i.toNatClampNeg y_7)]) hP hD rfl
            obtain ⟨x_8, ex_8⟩ : ∃ y : Int32, y = i + 1 := ⟨_, rfl⟩
            have i_8 : x_8.toInt = i.toInt + 1 := ki_add ex_8 rfl rfl (om_2 w_1.1 LP1_h0) (om_234 a1 i_4 LP1_h1)
            refine lv_iinc (v := x_8) (lv' := [(3, .int x_8), (2, .int y_3), (0, .ref h0), (1, .int p0)]) hx hb dX5_remove_57 hl (k := 0) rfl (by rw [ex_8]; rfl) (by decide) rfl (fun ls hl => ?_)
            refine lv_goto (tgt := 35) hx hb dX5_remove_60 (by decide) ?_
            have n_y := ki_nat y_6 rfl (by omega)
            have n_x := ki_nat x_8 rfl (by omega)
            exact ih1 x_8 (upd fc i.toNatClampNeg y_7) (om_4 LP1_h0 i_8) (om_54 i_5 i_8) (by rw [ey_7, LP1_h2]; rw [show y_6.toNatClampNeg = x_8.toNatClampNeg by omega]; exact shL_step (by omega) (by omega)) (om_mu hn1 (om_5 i_8) (om_6 i_5)) _ _ hP hD hS ls (lv_sub hl [0, 1, 2, 3] rfl)
      exact LP1 ((y_4.toInt - p0.toInt : Int).toNat + 1) p0 f om_7 (om_236 w_1.2 i_4) (shL_self _ _).symm (Nat.lt_succ_self _) _ _ hP hD hS ls (lv_sub hl [0, 1, 2, 3] rfl)
    · exact absurd c_2 (by decide)
  · have w_1 : (p0.toInt < 0 ∨ m_n.toInt ≤ p0.toInt) := w_1
    refine lv_if_ne (tgt := 16) hx hb dX5_remove_10 (by decide) (fun c_9 => ?_) (fun c_9 => ?_)
    · exact absurd c_9 (by decide)
    · refine lv_ldc (v := (-40000)) hx hb hown hk_148 dX5_remove_13 ?_
      have hP9 := hP
      have hD9 := hD
      have hK9 := hK
      exact W.iret (v := (-40000)) hx hb hr (hlocks := hlocks) (fun t ht hW => ⟨⟨(-40000), (m_n, f), rfl, ⟨Or.inr ⟨by omega, rfl, rfl, rfl⟩, s1⟩, by rw [ht]; exact hP9, va_K.moved hW.alike hK9, hD9⟩, hS.F ht⟩) hS.2.2 dX5_remove_15

set_option maxHeartbeats 4000000 in
set_option maxRecDepth 100000 in
theorem c_X5_at (l : Launch) (dC : Nat → ClassId) (dI : Nat → Nat → Nat) (h0 : Nat) (g_row : Nat) (g_many : Nat) (g_loss : Nat) (g_less : Nat) (g_voteValue : Nat) (g_voteNumber : Nat) (g_allValue : Nat) (g_allNumber : Nat) (g_nodeL : Nat) (g_nodeR : Nat) (g_part : Nat) (g_wasMany : Nat) (g_wasLoss : Nat) (g_wasValue : Nat) (g_wasNumber : Nat) (g_path : Nat) (g_heavyValue : Nat) (g_heavyTimes : Nat) (g_fewest : Nat) (g_which : Nat) (g_met : Nat) (m_n : Int32) (m_slots : Int32) (m_thrown : Int32) (m_allMany : Int32) (m_nodes : Int32) (m_partMany : Int32) (m_pathMany : Int32) (m_heavyMany : Int32) (m_mostMet : Int32) (cyI : ClassId) (f : Nat → Int32) (p0 : Int32) (sz : Nat) (a0 : 0 ≤ m_n.toInt) (a1 : m_n.toInt ≤ 160) : kx_MQ l (dC, dI) yX5_at wsX5_at ({ frames := 2, cells := 0, slots := 0, locals := 90 }) [.ref h0, .int p0] [kx_5 h0 g_row m_n m_slots m_thrown g_many g_loss g_less g_voteValue g_voteNumber g_allValue g_allNumber m_allMany g_nodeL g_nodeR m_nodes g_part m_partMany g_wasMany g_wasLoss g_wasValue g_wasNumber g_path m_pathMany g_heavyValue g_heavyTimes m_heavyMany g_fewest g_which g_met m_mostMet, kx_a g_row cyI 160 f] [(cyI, .int)] sz (fun A => va_Qi (fun (r : Int32) (u : Int32) => (0 ≤ p0.toInt ∧ p0.toInt < m_n.toInt ∧ r = f p0.toNatClampNeg ∧ u = 0) ∨ ((p0.toInt < 0 ∨ m_n.toInt ≤ p0.toInt) ∧ r = 0 ∧ u = 1)) (fun (u : Int32) (t : State) => va_P (dC, dI) vwCl [kx_5 h0 g_row m_n m_slots u g_many g_loss g_less g_voteValue g_voteNumber g_allValue g_allNumber m_allMany g_nodeL g_nodeR m_nodes g_part m_partMany g_wasMany g_wasLoss g_wasValue g_wasNumber g_path m_pathMany g_heavyValue g_heavyTimes m_heavyMany g_fewest g_which g_met m_mostMet, kx_a g_row cyI 160 f] t.heap ∧ va_K (dC, dI) vwCl [(cyI, .int)] t ∧ va_D A [kx_5 h0 g_row m_n m_slots u g_many g_loss g_less g_voteValue g_voteNumber g_allValue g_allNumber m_allMany g_nodeL g_nodeR m_nodes g_part m_partMany g_wasMany g_wasLoss g_wasValue g_wasNumber g_path m_pathMany g_heavyValue g_heavyTimes m_heavyMany g_fewest g_which g_met m_mostMet, kx_a g_row cyI 160 f]) A) := by
  refine kx_stQ (ws := wsX5_at) (cc := cX5_at) (maxL := 2) (ret := (some .int)) (by decide) rfl (Nat.le_of_ble_eq_true rfl) ?_
  intro p e s m below meth c A ls hx hb hr hlocks hts hown hml hA hS hP hK hD hl
  have hown : s.vm.findClass RX5 = some m.cls := hown
  have hl : lv_has ls 2 [(0, .ref h0), (1, .int p0)] := hl
  have hf_77 := hts (.fieldLink RX5 77 "MajorityIndexModel" "thrown" "I") (List.mem_of_getElem? (i := 1) rfl)
  have hi_5 : ∀ w ∈ u_ws RX5 TX5 30, w ∈ wsX5_at := fun w h => List.mem_cons_of_mem _ (List.mem_append_right _ h)
  have hf_7 := hts (.fieldLink RX5 7 "MajorityIndexModel" "row" "[I") (List.mem_of_getElem? (i := 2) rfl)
  refine lv_aload_n hx hb dX5_at_0 rfl (lv_at hl 0 rfl) ?_
  refine lv_aload_n hx hb dX5_at_1 rfl (lv_at hl 0 rfl) ?_
  refine lv_iload_n hx hb dX5_at_2 rfl (lv_at hl 1 rfl) ?_
  have hPc := hP.sub (ws' := [kx_5 h0 g_row m_n m_slots m_thrown g_many g_loss g_less g_voteValue g_voteNumber g_allValue g_allNumber m_allMany g_nodeL g_nodeR m_nodes g_part m_partMany g_wasMany g_wasLoss g_wasValue g_wasNumber g_path m_pathMany g_heavyValue g_heavyTimes m_heavyMany g_fewest g_which g_met m_mostMet]) [0] rfl
  have hKc := hK.sub (tys' := []) [] rfl
  refine vp_callSi (W.runV (As := [.int p0]) (rest := [.ref h0]) ⟨hx, hb, hml, hown, hts⟩ (c_X5_isPlace l dC dI h0 g_row g_many g_loss g_less g_voteValue g_voteNumber g_allValue g_allNumber g_nodeL g_nodeR g_part g_wasMany g_wasLoss g_wasValue g_wasNumber g_path g_heavyValue g_heavyTimes g_fewest g_which g_met m_n m_slots m_thrown m_allMany m_nodes m_partMany m_pathMany m_heavyMany m_mostMet p0 a0 a1) (cwV 1 hts gX5_at_X5_isPlace rfl rfl rfl (by decide +kernel) ⟨Nat.le_of_ble_eq_true rfl, Nat.le_of_ble_eq_true rfl⟩) ⟨fun a U g mk q => by obtain ⟨q0, qP, qK⟩ := q; exact ⟨q0, qP, va_K.moved (u := U) (U := U.calling g mk a) (Vm.Alike.refl U.vm) qK⟩, kx_rc5 hKc hPc (q0 := 0) rfl, fun U hU hW => ⟨rfl, by rw [hU]; exact hPc, va_K.moved hW.alike hKc⟩⟩ rfl rfl hl.1 rfl (lv_room (Nat.le_of_ble_eq_true rfl)) dX5_at_3 ⟨Nat.le_of_ble_eq_true rfl, Nat.le_of_ble_eq_true rfl⟩) (fun r_1 w_1 => ?_)
  rcases w_1 with ⟨rfl, w_1⟩ | ⟨rfl, w_1⟩
  · have w_1 : (0 ≤ p0.toInt ∧ p0.toInt < m_n.toInt) := w_1
    refine lv_if_eq (tgt := 13) hx hb dX5_at_6 (by decide) (fun c_2 => ?_) (fun c_2 => ?_)
    · exact absurd c_2 (by decide)
    · refine lv_iconst (v := 0) hx hb dX5_at_9 (by decide) ?_
      refine lv_goto (tgt := 14) hx hb dX5_at_10 (by decide) ?_
      refine va_put (D := (dC, dI)) (ci := 5) (v := .int 0) (ty := .int) (C := RX5) (T := TX5) (N := 30) hx hb hts hi_5 tyX5 tyX5_ok nmX5 hown hK hP hD hS 0 rfl rfl 3 (by decide) hf_77 (fun _ h9 => h9) rfl (by decide +kernel) rfl rfl (Nat.le_of_ble_eq_true rfl) dX5_at_14 (fun H locs hP hD hS => ?_)
      obtain ⟨hP, hD⟩ := kx_re (w2 := [kx_5 h0 g_row m_n m_slots 0 g_many g_loss g_less g_voteValue g_voteNumber g_allValue g_allNumber m_allMany g_nodeL g_nodeR m_nodes g_part m_partMany g_wasMany g_wasLoss g_wasValue g_wasNumber g_path m_pathMany g_heavyValue g_heavyTimes m_heavyMany g_fewest g_which g_met m_mostMet, kx_a g_row cyI 160 f]) hP hD rfl
      refine lv_aload_n hx hb dX5_at_17 rfl (lv_at hl 0 rfl) ?_
      refine va_get (D := (dC, dI)) (ci := 5) (v := .int 0) (C := RX5) (T := TX5) (N := 30) hx hb hts hi_5 hown hK hP 0 rfl rfl 3 (by decide) hf_77 (fun _ h9 => h9) rfl dX5_at_18 ?_
      refine lv_if_ne (tgt := 33) hx hb dX5_at_21 (by decide) (fun c_3 => ?_) (fun c_3 => ?_)
      · exact absurd c_3 (by decide)
      · refine lv_aload_n hx hb dX5_at_24 rfl (lv_at hl 0 rfl) ?_
        refine va_get (D := (dC, dI)) (ci := 5) (v := .ref g_row) (C := RX5) (T := TX5) (N := 30) hx hb hts hi_5 hown hK hP 0 rfl rfl 0 (by decide) hf_7 (fun _ h9 => h9) rfl dX5_at_25 ?_
        refine lv_iload_n hx hb dX5_at_28 rfl (lv_at hl 1 rfl) ?_
        refine va_iald hx hb hK hP 1 0 rfl rfl (ki_in (om_10 w_1.1) (om_1 a1 w_1.2)) dX5_at_29 ?_
        refine lv_topi (fun y_4 ey_4 => ?_)
        have j_4 : y_4.toInt = (f p0.toNatClampNeg).toInt := congrArg Int32.toInt ey_4
        refine lv_goto (tgt := 34) hx hb dX5_at_30 (by decide) ?_
        have hP9 := hP
        have hD9 := hD
        have hK9 := hK
        exact W.iret (v := y_4) hx hb hr (hlocks := hlocks) (fun t ht hW => ⟨⟨y_4, (0), rfl, Or.inl ⟨by omega, by omega, ey_4, rfl⟩, by rw [ht]; exact hP9, va_K.moved hW.alike hK9, hD9⟩, hS.F ht⟩) hS.2.2 dX5_at_34
  · have w_1 : (p0.toInt < 0 ∨ m_n.toInt ≤ p0.toInt) := w_1
    refine lv_if_eq (tgt := 13) hx hb dX5_at_6 (by decide) (fun c_5 => ?_) (fun c_5 => ?_)
    · refine lv_iconst (v := 1) hx hb dX5_at_13 (by decide) ?_
      refine va_put (D := (dC, dI)) (ci := 5) (v := .int 1) (ty := .int) (C := RX5) (T := TX5) (N := 30) hx hb hts hi_5 tyX5 tyX5_ok nmX5 hown hK hP hD hS 0 rfl rfl 3 (by decide) hf_77 (fun _ h9 => h9) rfl (by decide +kernel) rfl rfl (Nat.le_of_ble_eq_true rfl) dX5_at_14 (fun H locs hP hD hS => ?_)
      obtain ⟨hP, hD⟩ := kx_re (w2 := [kx_5 h0 g_row m_n m_slots 1 g_many g_loss g_less g_voteValue g_voteNumber g_allValue g_allNumber m_allMany g_nodeL g_nodeR m_nodes g_part m_partMany g_wasMany g_wasLoss g_wasValue g_wasNumber g_path m_pathMany g_heavyValue g_heavyTimes m_heavyMany g_fewest g_which g_met m_mostMet, kx_a g_row cyI 160 f]) hP hD rfl
      refine lv_aload_n hx hb dX5_at_17 rfl (lv_at hl 0 rfl) ?_
      refine va_get (D := (dC, dI)) (ci := 5) (v := .int 1) (C := RX5) (T := TX5) (N := 30) hx hb hts hi_5 hown hK hP 0 rfl rfl 3 (by decide) hf_77 (fun _ h9 => h9) rfl dX5_at_18 ?_
      refine lv_if_ne (tgt := 33) hx hb dX5_at_21 (by decide) (fun c_6 => ?_) (fun c_6 => ?_)
      · refine lv_iconst (v := 0) hx hb dX5_at_33 (by decide) ?_
        have hP9 := hP
        have hD9 := hD
        have hK9 := hK
        exact W.iret (v := 0) hx hb hr (hlocks := hlocks) (fun t ht hW => ⟨⟨0, (1), rfl, Or.inr ⟨by omega, rfl, rfl⟩, by rw [ht]; exact hP9, va_K.moved hW.alike hK9, hD9⟩, hS.F ht⟩) hS.2.2 dX5_at_34
      · exact absurd c_6 (by decide)
    · exact absurd c_5 (by decide)

set_option maxHeartbeats 4000000 in
set_option maxRecDepth 100000 in
theorem c_X5_count (l : Launch) (dC : Nat → ClassId) (dI : Nat → Nat → Nat) (h0 : Nat) (g_row : Nat) (g_many : Nat) (g_loss : Nat) (g_less : Nat) (g_voteValue : Nat) (g_voteNumber : Nat) (g_allValue : Nat) (g_allNumber : Nat) (g_nodeL : Nat) (g_nodeR : Nat) (g_part : Nat) (g_wasMany : Nat) (g_wasLoss : Nat) (g_wasValue : Nat) (g_wasNumber : Nat) (g_path : Nat) (g_heavyValue : Nat) (g_heavyTimes : Nat) (g_fewest : Nat) (g_which : Nat) (g_met : Nat) (m_n : Int32) (m_slots : Int32) (m_thrown : Int32) (m_allMany : Int32) (m_nodes : Int32) (m_partMany : Int32) (m_pathMany : Int32) (m_heavyMany : Int32) (m_mostMet : Int32) (cyI : ClassId) (f : Nat → Int32) (p0 : Int32) (p1 : Int32) (p2 : Int32) (sz : Nat) (a0 : 0 ≤ m_n.toInt) (a1 : m_n.toInt ≤ 160) : kx_MQ l (dC, dI) yX5_count wsX5_count ({ frames := 2, cells := 0, slots := 0, locals := 90 }) [.ref h0, .int p0, .int p1, .int p2] [kx_5 h0 g_row m_n m_slots m_thrown g_many g_loss g_less g_voteValue g_voteNumber g_allValue g_allNumber m_allMany g_nodeL g_nodeR m_nodes g_part m_partMany g_wasMany g_wasLoss g_wasValue g_wasNumber g_path m_pathMany g_heavyValue g_heavyTimes m_heavyMany g_fewest g_which g_met m_mostMet, kx_a g_row cyI 160 f] [(cyI, .int)] sz (fun A => va_Qi (fun (r : Int32) (_ : Unit) => True) (fun (_ : Unit) (t : State) => va_P (dC, dI) vwCl [kx_5 h0 g_row m_n m_slots 0 g_many g_loss g_less g_voteValue g_voteNumber g_allValue g_allNumber m_allMany g_nodeL g_nodeR m_nodes g_part m_partMany g_wasMany g_wasLoss g_wasValue g_wasNumber g_path m_pathMany g_heavyValue g_heavyTimes m_heavyMany g_fewest g_which g_met m_mostMet, kx_a g_row cyI 160 f] t.heap ∧ va_K (dC, dI) vwCl [(cyI, .int)] t ∧ va_D A [kx_5 h0 g_row m_n m_slots 0 g_many g_loss g_less g_voteValue g_voteNumber g_allValue g_allNumber m_allMany g_nodeL g_nodeR m_nodes g_part m_partMany g_wasMany g_wasLoss g_wasValue g_wasNumber g_path m_pathMany g_heavyValue g_heavyTimes m_heavyMany g_fewest g_which g_met m_mostMet, kx_a g_row cyI 160 f]) A) := by
  refine kx_stQ (ws := wsX5_count) (cc := cX5_count) (maxL := 4) (ret := (some .int)) (by decide) rfl (Nat.le_of_ble_eq_true rfl) ?_
  intro p e s m below meth c A ls hx hb hr hlocks hts hown hml hA hS hP hK hD hl
  have hown : s.vm.findClass RX5 = some m.cls := hown
  have hl : lv_has ls 4 [(0, .ref h0), (1, .int p0), (2, .int p1), (3, .int p2)] := hl
  have hf_77 := hts (.fieldLink RX5 77 "MajorityIndexModel" "thrown" "I") (List.mem_of_getElem? (i := 1) rfl)
  have hi_5 : ∀ w ∈ u_ws RX5 TX5 30, w ∈ wsX5_count := fun w h => List.mem_cons_of_mem _ (List.mem_append_right _ h)
  refine lv_aload_n hx hb dX5_count_0 rfl (lv_at hl 0 rfl) ?_
  refine lv_iconst (v := 0) hx hb dX5_count_1 (by decide) ?_
  refine va_put (D := (dC, dI)) (ci := 5) (v := .int 0) (ty := .int) (C := RX5) (T := TX5) (N := 30) hx hb hts hi_5 tyX5 tyX5_ok nmX5 hown hK hP hD hS 0 rfl rfl 3 (by decide) hf_77 (fun _ h9 => h9) rfl (by decide +kernel) rfl rfl (Nat.le_of_ble_eq_true rfl) dX5_count_2 (fun H locs hP hD hS => ?_)
  obtain ⟨hP, hD⟩ := kx_re (w2 := [kx_5 h0 g_row m_n m_slots 0 g_many g_loss g_less g_voteValue g_voteNumber g_allValue g_allNumber m_allMany g_nodeL g_nodeR m_nodes g_part m_partMany g_wasMany g_wasLoss g_wasValue g_wasNumber g_path m_pathMany g_heavyValue g_heavyTimes m_heavyMany g_fewest g_which g_met m_mostMet, kx_a g_row cyI 160 f]) hP hD rfl
  refine lv_iload_n hx hb dX5_count_5 rfl (lv_at hl 1 rfl) ?_
  have hPc := hP.sub (ws' := []) [] rfl
  have hKc := hK.sub (tys' := []) [] rfl
  refine vp_callSi (W.runS (As := [.int p0]) (rest := []) ⟨hx, hb, hml, hown, hts⟩ (c_X5_isValue l dC dI p0) (va_cwS 1 hts gX5_count_X5_isValue rfl rfl rfl (by decide +kernel) ⟨Nat.le_of_ble_eq_true rfl, Nat.le_of_ble_eq_true rfl⟩) ⟨fun a U g mk q => by obtain ⟨q0, qP, qK⟩ := q; exact ⟨q0, qP, va_K.moved (u := U) (U := U.calling g mk a) (Vm.Alike.refl U.vm) qK⟩, fun U hU hW => ⟨rfl, by rw [hU]; exact hPc, va_K.moved hW.alike hKc⟩⟩ rfl rfl hl.1 rfl (lv_room (Nat.le_of_ble_eq_true rfl)) dX5_count_6 ⟨Nat.le_of_ble_eq_true rfl, Nat.le_of_ble_eq_true rfl⟩) (fun r_1 w_1 => ?_)
  rcases w_1 with ⟨rfl, w_1⟩ | ⟨rfl, w_1⟩
  · have w_1 : (-32768 ≤ p0.toInt ∧ p0.toInt ≤ 32767) := w_1
    refine lv_if_eq (tgt := 31) hx hb dX5_count_9 (by decide) (fun c_2 => ?_) (fun c_2 => ?_)
    · exact absurd c_2 (by decide)
    · refine lv_aload_n hx hb dX5_count_12 rfl (lv_at hl 0 rfl) ?_
      refine lv_iload_n hx hb dX5_count_13 rfl (lv_at hl 2 rfl) ?_
      refine lv_iload_n hx hb dX5_count_14 rfl (lv_at hl 3 rfl) ?_
      have hPc := hP.sub (ws' := [kx_5 h0 g_row m_n m_slots 0 g_many g_loss g_less g_voteValue g_voteNumber g_allValue g_allNumber m_allMany g_nodeL g_nodeR m_nodes g_part m_partMany g_wasMany g_wasLoss g_wasValue g_wasNumber g_path m_pathMany g_heavyValue g_heavyTimes m_heavyMany g_fewest g_which g_met m_mostMet]) [0] rfl
      have hKc := hK.sub (tys' := []) [] rfl
      refine vp_callSi (W.runV (As := [.int p1, .int p2]) (rest := []) ⟨hx, hb, hml, hown, hts⟩ (c_X5_isRange l dC dI h0 g_row g_many g_loss g_less g_voteValue g_voteNumber g_allValue g_allNumber g_nodeL g_nodeR g_part g_wasMany g_wasLoss g_wasValue g_wasNumber g_path g_heavyValue g_heavyTimes g_fewest g_which g_met m_n m_slots 0 m_allMany m_nodes m_partMany m_pathMany m_heavyMany m_mostMet p1 p2) (cwV 2 hts gX5_count_X5_isRange rfl rfl rfl (by decide +kernel) ⟨Nat.le_of_ble_eq_true rfl, Nat.le_of_ble_eq_true rfl⟩) ⟨fun a U g mk q => by obtain ⟨q0, qP, qK⟩ := q; exact ⟨q0, qP, va_K.moved (u := U) (U := U.calling g mk a) (Vm.Alike.refl U.vm) qK⟩, kx_rc5 hKc hPc (q0 := 0) rfl, fun U hU hW => ⟨rfl, by rw [hU]; exact hPc, va_K.moved hW.alike hKc⟩⟩ rfl rfl hl.1 rfl (lv_room (Nat.le_of_ble_eq_true rfl)) dX5_count_15 ⟨Nat.le_of_ble_eq_true rfl, Nat.le_of_ble_eq_true rfl⟩) (fun r_3 w_3 => ?_)
      rcases w_3 with ⟨rfl, w_3⟩ | ⟨rfl, w_3⟩
      · have w_3 : (0 ≤ p1.toInt ∧ p1.toInt < p2.toInt ∧ p2.toInt ≤ m_n.toInt) := w_3
        refine lv_if_eq (tgt := 31) hx hb dX5_count_18 (by decide) (fun c_4 => ?_) (fun c_4 => ?_)
        · exact absurd c_4 (by decide)
        · refine lv_aload_n hx hb dX5_count_21 rfl (lv_at hl 0 rfl) ?_
          refine lv_iload_n hx hb dX5_count_22 rfl (lv_at hl 1 rfl) ?_
          refine lv_iload_n hx hb dX5_count_23 rfl (lv_at hl 2 rfl) ?_
          refine lv_iload_n hx hb dX5_count_24 rfl (lv_at hl 3 rfl) ?_
          have hPc := hP
          have hKc := hK
          refine vp_callSi (W.runV (As := [.int p0, .int p1, .int p2]) (rest := []) ⟨hx, hb, hml, hown, hts⟩ (c_X5_times l dC dI h0 g_row g_many g_loss g_less g_voteValue g_voteNumber g_allValue g_allNumber g_nodeL g_nodeR g_part g_wasMany g_wasLoss g_wasValue g_wasNumber g_path g_heavyValue g_heavyTimes g_fewest g_which g_met m_n m_slots 0 m_allMany m_nodes m_partMany m_pathMany m_heavyMany m_mostMet cyI f p0 p1 p2 (om_10 w_3.1) (om_167 a1 w_3.2.2)) (cwV 3 hts gX5_count_X5_times rfl rfl rfl (by decide +kernel) ⟨Nat.le_of_ble_eq_true rfl, Nat.le_of_ble_eq_true rfl⟩) ⟨fun a U g mk q => by obtain ⟨q0, qP, qK⟩ := q; exact ⟨q0, qP, va_K.moved (u := U) (U := U.calling g mk a) (Vm.Alike.refl U.vm) qK⟩, kx_rc5 hKc hPc (q0 := 0) rfl, fun U hU hW => ⟨rfl, by rw [hU]; exact hPc, va_K.moved hW.alike hKc⟩⟩ rfl rfl hl.1 rfl (lv_room (Nat.le_of_ble_eq_true rfl)) dX5_count_25 ⟨Nat.le_of_ble_eq_true rfl, Nat.le_of_ble_eq_true rfl⟩) (fun r_5 w_5 => ?_)
          have w_5 : r_5.toInt = (cnt f p0 p1.toNatClampNeg (p2.toInt - p1.toInt).toNat : Int) := w_5
          refine lv_goto (tgt := 32) hx hb dX5_count_28 (by decide) ?_
          have hP9 := hP
          have hD9 := hD
          have hK9 := hK
          exact W.iret (v := r_5) hx hb hr (hlocks := hlocks) (fun t ht hW => ⟨⟨r_5, (), rfl, trivial, by rw [ht]; exact hP9, va_K.moved hW.alike hK9, hD9⟩, hS.F ht⟩) hS.2.2 dX5_count_32
      · have w_3 : (p1.toInt < 0 ∨ p2.toInt ≤ p1.toInt ∨ m_n.toInt < p2.toInt) := w_3
        refine lv_if_eq (tgt := 31) hx hb dX5_count_18 (by decide) (fun c_6 => ?_) (fun c_6 => ?_)
        · refine lv_iconst (v := (-1)) hx hb dX5_count_31 (by decide) ?_
          have hP9 := hP
          have hD9 := hD
          have hK9 := hK
          exact W.iret (v := (-1)) hx hb hr (hlocks := hlocks) (fun t ht hW => ⟨⟨(-1), (), rfl, trivial, by rw [ht]; exact hP9, va_K.moved hW.alike hK9, hD9⟩, hS.F ht⟩) hS.2.2 dX5_count_32
        · exact absurd c_6 (by decide)
  · have w_1 : (p0.toInt < -32768 ∨ 32767 < p0.toInt) := w_1
    refine lv_if_eq (tgt := 31) hx hb dX5_count_9 (by decide) (fun c_7 => ?_) (fun c_7 => ?_)
    · refine lv_iconst (v := (-1)) hx hb dX5_count_31 (by decide) ?_
      have hP9 := hP
      have hD9 := hD
      have hK9 := hK
      exact W.iret (v := (-1)) hx hb hr (hlocks := hlocks) (fun t ht hW => ⟨⟨(-1), (), rfl, trivial, by rw [ht]; exact hP9, va_K.moved hW.alike hK9, hD9⟩, hS.F ht⟩) hS.2.2 dX5_count_32
    · exact absurd c_7 (by decide)

set_option maxHeartbeats 4000000 in
set_option maxRecDepth 100000 in
theorem c_X5_place (l : Launch) (dC : Nat → ClassId) (dI : Nat → Nat → Nat) (h0 : Nat) (g_row : Nat) (g_many : Nat) (g_loss : Nat) (g_less : Nat) (g_voteValue : Nat) (g_voteNumber : Nat) (g_allValue : Nat) (g_allNumber : Nat) (g_nodeL : Nat) (g_nodeR : Nat) (g_part : Nat) (g_wasMany : Nat) (g_wasLoss : Nat) (g_wasValue : Nat) (g_wasNumber : Nat) (g_path : Nat) (g_heavyValue : Nat) (g_heavyTimes : Nat) (g_fewest : Nat) (g_which : Nat) (g_met : Nat) (m_n : Int32) (m_slots : Int32) (m_thrown : Int32) (m_allMany : Int32) (m_nodes : Int32) (m_partMany : Int32) (m_pathMany : Int32) (m_heavyMany : Int32) (m_mostMet : Int32) (cyI : ClassId) (f : Nat → Int32) (p0 : Int32) (p1 : Int32) (sz : Nat) (a0 : 0 ≤ m_n.toInt) (a1 : m_n.toInt ≤ 160) : kx_MQ l (dC, dI) yX5_place wsX5_place ({ frames := 0, cells := 0, slots := 0, locals := 0 }) [.ref h0, .int p0, .int p1] [kx_5 h0 g_row m_n m_slots m_thrown g_many g_loss g_less g_voteValue g_voteNumber g_allValue g_allNumber m_allMany g_nodeL g_nodeR m_nodes g_part m_partMany g_wasMany g_wasLoss g_wasValue g_wasNumber g_path m_pathMany g_heavyValue g_heavyTimes m_heavyMany g_fewest g_which g_met m_mostMet, kx_a g_row cyI 160 f] [(cyI, .int)] sz (fun A => va_Qi (fun (r : Int32) (_ : Unit) => True) (fun (_ : Unit) (t : State) => va_P (dC, dI) vwCl [kx_5 h0 g_row m_n m_slots 0 g_many g_loss g_less g_voteValue g_voteNumber g_allValue g_allNumber m_allMany g_nodeL g_nodeR m_nodes g_part m_partMany g_wasMany g_wasLoss g_wasValue g_wasNumber g_path m_pathMany g_heavyValue g_heavyTimes m_heavyMany g_fewest g_which g_met m_mostMet, kx_a g_row cyI 160 f] t.heap ∧ va_K (dC, dI) vwCl [(cyI, .int)] t ∧ va_D A [kx_5 h0 g_row m_n m_slots 0 g_many g_loss g_less g_voteValue g_voteNumber g_allValue g_allNumber m_allMany g_nodeL g_nodeR m_nodes g_part m_partMany g_wasMany g_wasLoss g_wasValue g_wasNumber g_path m_pathMany g_heavyValue g_heavyTimes m_heavyMany g_fewest g_which g_met m_mostMet, kx_a g_row cyI 160 f]) A) := by
  refine kx_stQ (ws := wsX5_place) (cc := cX5_place) (maxL := 5) (ret := (some .int)) (by decide) rfl (Nat.le_of_ble_eq_true rfl) ?_
  intro p e s m below meth c A ls hx hb hr hlocks hts hown hml hA hS hP hK hD hl
  have hown : s.vm.findClass RX5 = some m.cls := hown
  have hl : lv_has ls 5 [(0, .ref h0), (1, .int p0), (2, .int p1)] := hl
  have hf_77 := hts (.fieldLink RX5 77 "MajorityIndexModel" "thrown" "I") (List.mem_of_getElem? (i := 1) rfl)
  have hi_5 : ∀ w ∈ u_ws RX5 TX5 30, w ∈ wsX5_place := fun w h => List.mem_cons_of_mem _ (List.mem_append_right _ h)
  have hf_84 := hts (.fieldLink RX5 84 "MajorityIndexModel" "n" "I") (List.mem_of_getElem? (i := 2) rfl)
  have hf_7 := hts (.fieldLink RX5 7 "MajorityIndexModel" "row" "[I") (List.mem_of_getElem? (i := 3) rfl)
  refine lv_aload_n hx hb dX5_place_0 rfl (lv_at hl 0 rfl) ?_
  refine lv_iconst (v := 0) hx hb dX5_place_1 (by decide) ?_
  refine va_put (D := (dC, dI)) (ci := 5) (v := .int 0) (ty := .int) (C := RX5) (T := TX5) (N := 30) hx hb hts hi_5 tyX5 tyX5_ok nmX5 hown hK hP hD hS 0 rfl rfl 3 (by decide) hf_77 (fun _ h9 => h9) rfl (by decide +kernel) rfl rfl (Nat.le_of_ble_eq_true rfl) dX5_place_2 (fun H locs hP hD hS => ?_)
  obtain ⟨hP, hD⟩ := kx_re (w2 := [kx_5 h0 g_row m_n m_slots 0 g_many g_loss g_less g_voteValue g_voteNumber g_allValue g_allNumber m_allMany g_nodeL g_nodeR m_nodes g_part m_partMany g_wasMany g_wasLoss g_wasValue g_wasNumber g_path m_pathMany g_heavyValue g_heavyTimes m_heavyMany g_fewest g_which g_met m_mostMet, kx_a g_row cyI 160 f]) hP hD rfl
  refine lv_iload_n hx hb dX5_place_5 rfl (lv_at hl 2 rfl) ?_
  refine lv_istore_n (lv' := [(3, .int p1), (0, .ref h0), (1, .int p0), (2, .int p1)]) hx hb dX5_place_6 rfl hl (by decide) rfl (fun ls hl => ?_)
  refine lv_iconst (v := 0) hx hb dX5_place_7 (by decide) ?_
  refine lv_istore (lv' := [(4, .int 0), (3, .int p1), (0, .ref h0), (1, .int p0), (2, .int p1)]) hx hb dX5_place_8 hl (by decide) rfl (fun ls hl => ?_)
  have LP1 : ∀ (n : Nat) (i : Int32) (lf : Int32), (0 ≤ i.toInt) → (m_n.toInt - i.toInt).toNat < n → ∀ (H : Heap) (locs : List Loc), va_P (dC, dI) vwCl [kx_5 h0 g_row m_n m_slots 0 g_many g_loss g_less g_voteValue g_voteNumber g_allValue g_allNumber m_allMany g_nodeL g_nodeR m_nodes g_part m_partMany g_wasMany g_wasLoss g_wasValue g_wasNumber g_path m_pathMany g_heavyValue g_heavyTimes m_heavyMany g_fewest g_which g_met m_mostMet, kx_a g_row cyI 160 f] H → va_D A [kx_5 h0 g_row m_n m_slots 0 g_many g_loss g_less g_voteValue g_voteNumber g_allValue g_allNumber m_allMany g_nodeL g_nodeR m_nodes g_part m_partMany g_wasMany g_wasLoss g_wasValue g_wasNumber g_path m_pathMany g_heavyValue g_heavyTimes m_heavyMany g_fewest g_which g_met m_mostMet, kx_a g_row cyI 160 f] → va_S A s.heap H locs → ∀ (ls : Array Slot), lv_has ls 5 [(4, .int i), (3, .int lf), (0, .ref h0), (1, .int p0), (2, .int p1)] → W p l e (headSpec wsX5_place ({ frames := 0, cells := 0, slots := 0, locals := 0 })).room s m ([.ref h0, .int p0, .int p1] : List Value).toArray below meth c H locs 0 0 (MQ below (va_Qi (fun (r : Int32) (_ : Unit) => True) (fun (_ : Unit) (t : State) => va_P (dC, dI) vwCl [kx_5 h0 g_row m_n m_slots 0 g_many g_loss g_less g_voteValue g_voteNumber g_allValue g_allNumber m_allMany g_nodeL g_nodeR m_nodes g_part m_partMany g_wasMany g_wasLoss g_wasValue g_wasNumber g_path m_pathMany g_heavyValue g_heavyTimes m_heavyMany g_fewest g_which g_met m_mostMet, kx_a g_row cyI 160 f] t.heap ∧ va_K (dC, dI) vwCl [(cyI, .int)] t ∧ va_D A [kx_5 h0 g_row m_n m_slots 0 g_many g_loss g_less g_voteValue g_voteNumber g_allValue g_allNumber m_allMany g_nodeL g_nodeR m_nodes g_part m_partMany g_wasMany g_wasLoss g_wasValue g_wasNumber g_path m_pathMany g_heavyValue g_heavyTimes m_heavyMany g_fewest g_which g_met m_mostMet, kx_a g_row cyI 160 f]) A) ([.ref h0, .int p0, .int p1] : List Value).toArray s 0 0 A) (F0 m 10 ls []) := by
    intro n
    induction n with
    | zero => intro i lf LP1_h0 hn; exact absurd hn (Nat.not_lt_zero _)
    | succ n ih1 =>
      intro i lf LP1_h0 hn1 H locs hP hD hS ls hl
      refine lv_iload hx hb dX5_place_10 (lv_at hl 0 rfl) ?_
      refine lv_aload_n hx hb dX5_place_12 rfl (lv_at hl 2 rfl) ?_
      refine va_get (D := (dC, dI)) (ci := 5) (v := .int m_n) (C := RX5) (T := TX5) (N := 30) hx hb hts hi_5 hown hK hP 0 rfl rfl 1 (by decide) hf_84 (fun _ h9 => h9) rfl dX5_place_13 ?_
      refine lv_icmp_ge (tgt := 53) hx hb dX5_place_16 (by decide) (fun c_1 => ?_) (fun c_1 => ?_)
      · have i_1 : m_n.toInt ≤ i.toInt := kc_le c_1
        refine lv_iconst (v := (-1)) hx hb dX5_place_53 (by decide) ?_
        have hP9 := hP
        have hD9 := hD
        have hK9 := hK
        exact W.iret (v := (-1)) hx hb hr (hlocks := hlocks) (fun t ht hW => ⟨⟨(-1), (), rfl, trivial, by rw [ht]; exact hP9, va_K.moved hW.alike hK9, hD9⟩, hS.F ht⟩) hS.2.2 dX5_place_54
      · have i_1 : i.toInt < m_n.toInt := kc_nle c_1
        refine lv_iload_n hx hb dX5_place_19 rfl (lv_at hl 4 rfl) ?_
        refine lv_if_lt (tgt := 53) hx hb dX5_place_20 (by decide) (fun c_2 => ?_) (fun c_2 => ?_)
        · have i_2 : p1.toInt < 0 := kc_lt c_2
          refine lv_iconst (v := (-1)) hx hb dX5_place_53 (by decide) ?_
          have hP9 := hP
          have hD9 := hD
          have hK9 := hK
          exact W.iret (v := (-1)) hx hb hr (hlocks := hlocks) (fun t ht hW => ⟨⟨(-1), (), rfl, trivial, by rw [ht]; exact hP9, va_K.moved hW.alike hK9, hD9⟩, hS.F ht⟩) hS.2.2 dX5_place_54
        · have i_2 : 0 ≤ p1.toInt := kc_nlt c_2
          refine lv_aload_n hx hb dX5_place_23 rfl (lv_at hl 2 rfl) ?_
          refine va_get (D := (dC, dI)) (ci := 5) (v := .ref g_row) (C := RX5) (T := TX5) (N := 30) hx hb hts hi_5 hown hK hP 0 rfl rfl 0 (by decide) hf_7 (fun _ h9 => h9) rfl dX5_place_24 ?_
          refine lv_iload hx hb dX5_place_27 (lv_at hl 0 rfl) ?_
          refine va_iald hx hb hK hP 1 0 rfl rfl (ki_in (om_10 LP1_h0) (om_1 a1 i_1)) dX5_place_29 ?_
          refine lv_topi (fun y_3 ey_3 => ?_)
          have j_3 : y_3.toInt = (f i.toNatClampNeg).toInt := congrArg Int32.toInt ey_3
          refine lv_iload_n hx hb dX5_place_30 rfl (lv_at hl 3 rfl) ?_
          refine lv_icmp_eq (tgt := 37) hx hb dX5_place_31 (by decide) (fun c_4 => ?_) (fun c_4 => ?_)
          · have i_4 : y_3.toInt = p0.toInt := kc_eq c_4
            refine lv_iload_n hx hb dX5_place_37 rfl (lv_at hl 1 rfl) ?_
            refine lv_if_ne (tgt := 44) hx hb dX5_place_38 (by decide) (fun c_5 => ?_) (fun c_5 => ?_)
            · have i_5 : ¬ lf.toInt = 0 := kc_ne c_5
              obtain ⟨x_6, ex_6⟩ : ∃ y : Int32, y = lf + (-1) := ⟨_, rfl⟩
              refine lv_iinc (v := x_6) (lv' := [(3, .int x_6), (4, .int i), (0, .ref h0), (1, .int p0), (2, .int p1)]) hx hb dX5_place_44 hl (k := 1) rfl (by rw [ex_6]; rfl) (by decide) rfl (fun ls hl => ?_)
              obtain ⟨x_7, ex_7⟩ : ∃ y : Int32, y = i + 1 := ⟨_, rfl⟩
              have i_7 : x_7.toInt = i.toInt + 1 := ki_add ex_7 rfl rfl (om_13 LP1_h0) (om_3 a1 i_1)
              refine lv_iinc (v := x_7) (lv' := [(4, .int x_7), (3, .int x_6), (0, .ref h0), (1, .int p0), (2, .int p1)]) hx hb dX5_place_47 hl (k := 1) rfl (by rw [ex_7]; rfl) (by decide) rfl (fun ls hl => ?_)
              refine lv_goto (tgt := 10) hx hb dX5_place_50 (by decide) ?_
              exact ih1 x_7 x_6 (om_34 LP1_h0 i_7) (om_mu hn1 (om_5 i_7) (om_6 i_1)) _ _ hP hD hS ls (lv_sub hl [0, 1, 2, 3, 4] rfl)
            · have i_5 : lf.toInt = 0 := kc_eq c_5
              refine lv_iload hx hb dX5_place_41 (lv_at hl 0 rfl) ?_
              have hP9 := hP
              have hD9 := hD
              have hK9 := hK
              exact W.iret (v := i) hx hb hr (hlocks := hlocks) (fun t ht hW => ⟨⟨i, (), rfl, trivial, by rw [ht]; exact hP9, va_K.moved hW.alike hK9, hD9⟩, hS.F ht⟩) hS.2.2 dX5_place_43
          · have i_4 : ¬ y_3.toInt = p0.toInt := kc_ne c_4
            refine lv_goto (tgt := 47) hx hb dX5_place_34 (by decide) ?_
            obtain ⟨x_8, ex_8⟩ : ∃ y : Int32, y = i + 1 := ⟨_, rfl⟩
            have i_8 : x_8.toInt = i.toInt + 1 := ki_add ex_8 rfl rfl (om_13 LP1_h0) (om_3 a1 i_1)
            refine lv_iinc (v := x_8) (lv' := [(4, .int x_8), (3, .int lf), (0, .ref h0), (1, .int p0), (2, .int p1)]) hx hb dX5_place_47 hl (k := 0) rfl (by rw [ex_8]; rfl) (by decide) rfl (fun ls hl => ?_)
            refine lv_goto (tgt := 10) hx hb dX5_place_50 (by decide) ?_
            exact ih1 x_8 lf (om_34 LP1_h0 i_8) (om_mu hn1 (om_5 i_8) (om_6 i_1)) _ _ hP hD hS ls (lv_sub hl [0, 1, 2, 3, 4] rfl)
  have k_9 : (0 : Int32).toInt = 0 := rfl
  exact LP1 ((m_n.toInt - 0 : Int).toNat + 1) 0 p1 om_35 (Nat.lt_succ_self _) _ _ hP hD hS ls (lv_sub hl [0, 1, 2, 3, 4] rfl)

set_option maxHeartbeats 4000000 in
set_option maxRecDepth 100000 in
theorem c_X5_values (l : Launch) (dC : Nat → ClassId) (dI : Nat → Nat → Nat) (h0 : Nat) (g_row : Nat) (g_many : Nat) (g_loss : Nat) (g_less : Nat) (g_voteValue : Nat) (g_voteNumber : Nat) (g_allValue : Nat) (g_allNumber : Nat) (g_nodeL : Nat) (g_nodeR : Nat) (g_part : Nat) (g_wasMany : Nat) (g_wasLoss : Nat) (g_wasValue : Nat) (g_wasNumber : Nat) (g_path : Nat) (g_heavyValue : Nat) (g_heavyTimes : Nat) (g_fewest : Nat) (g_which : Nat) (g_met : Nat) (m_n : Int32) (m_slots : Int32) (m_thrown : Int32) (m_allMany : Int32) (m_nodes : Int32) (m_partMany : Int32) (m_pathMany : Int32) (m_heavyMany : Int32) (m_mostMet : Int32) (cyI : ClassId) (f : Nat → Int32) (sz : Nat) (a0 : 0 ≤ m_n.toInt) (a1 : m_n.toInt ≤ 160) : kx_MQ l (dC, dI) yX5_values wsX5_values ({ frames := 1, cells := 0, slots := 0, locals := 45 }) [.ref h0] [kx_5 h0 g_row m_n m_slots m_thrown g_many g_loss g_less g_voteValue g_voteNumber g_allValue g_allNumber m_allMany g_nodeL g_nodeR m_nodes g_part m_partMany g_wasMany g_wasLoss g_wasValue g_wasNumber g_path m_pathMany g_heavyValue g_heavyTimes m_heavyMany g_fewest g_which g_met m_mostMet, kx_a g_row cyI 160 f] [(cyI, .int)] sz (fun A => va_Qi (fun (r : Int32) (_ : Unit) => True) (fun (_ : Unit) (t : State) => va_P (dC, dI) vwCl [kx_5 h0 g_row m_n m_slots 0 g_many g_loss g_less g_voteValue g_voteNumber g_allValue g_allNumber m_allMany g_nodeL g_nodeR m_nodes g_part m_partMany g_wasMany g_wasLoss g_wasValue g_wasNumber g_path m_pathMany g_heavyValue g_heavyTimes m_heavyMany g_fewest g_which g_met m_mostMet, kx_a g_row cyI 160 f] t.heap ∧ va_K (dC, dI) vwCl [(cyI, .int)] t ∧ va_D A [kx_5 h0 g_row m_n m_slots 0 g_many g_loss g_less g_voteValue g_voteNumber g_allValue g_allNumber m_allMany g_nodeL g_nodeR m_nodes g_part m_partMany g_wasMany g_wasLoss g_wasValue g_wasNumber g_path m_pathMany g_heavyValue g_heavyTimes m_heavyMany g_fewest g_which g_met m_mostMet, kx_a g_row cyI 160 f]) A) := by
  refine kx_stQ (ws := wsX5_values) (cc := cX5_values) (maxL := 3) (ret := (some .int)) (by decide) rfl (Nat.le_of_ble_eq_true rfl) ?_
  intro p e s m below meth c A ls hx hb hr hlocks hts hown hml hA hS hP hK hD hl
  have hown : s.vm.findClass RX5 = some m.cls := hown
  have hl : lv_has ls 3 [(0, .ref h0)] := hl
  have hf_77 := hts (.fieldLink RX5 77 "MajorityIndexModel" "thrown" "I") (List.mem_of_getElem? (i := 1) rfl)
  have hi_5 : ∀ w ∈ u_ws RX5 TX5 30, w ∈ wsX5_values := fun w h => List.mem_cons_of_mem _ (List.mem_append_right _ h)
  have hf_84 := hts (.fieldLink RX5 84 "MajorityIndexModel" "n" "I") (List.mem_of_getElem? (i := 2) rfl)
  have hf_7 := hts (.fieldLink RX5 7 "MajorityIndexModel" "row" "[I") (List.mem_of_getElem? (i := 3) rfl)
  refine lv_aload_n hx hb dX5_values_0 rfl (lv_at hl 0 rfl) ?_
  refine lv_iconst (v := 0) hx hb dX5_values_1 (by decide) ?_
  refine va_put (D := (dC, dI)) (ci := 5) (v := .int 0) (ty := .int) (C := RX5) (T := TX5) (N := 30) hx hb hts hi_5 tyX5 tyX5_ok nmX5 hown hK hP hD hS 0 rfl rfl 3 (by decide) hf_77 (fun _ h9 => h9) rfl (by decide +kernel) rfl rfl (Nat.le_of_ble_eq_true rfl) dX5_values_2 (fun H locs hP hD hS => ?_)
  obtain ⟨hP, hD⟩ := kx_re (w2 := [kx_5 h0 g_row m_n m_slots 0 g_many g_loss g_less g_voteValue g_voteNumber g_allValue g_allNumber m_allMany g_nodeL g_nodeR m_nodes g_part m_partMany g_wasMany g_wasLoss g_wasValue g_wasNumber g_path m_pathMany g_heavyValue g_heavyTimes m_heavyMany g_fewest g_which g_met m_mostMet, kx_a g_row cyI 160 f]) hP hD rfl
  refine lv_iconst (v := 0) hx hb dX5_values_5 (by decide) ?_
  refine lv_istore_n (lv' := [(1, .int 0), (0, .ref h0)]) hx hb dX5_values_6 rfl hl (by decide) rfl (fun ls hl => ?_)
  refine lv_iconst (v := 0) hx hb dX5_values_7 (by decide) ?_
  refine lv_istore_n (lv' := [(2, .int 0), (1, .int 0), (0, .ref h0)]) hx hb dX5_values_8 rfl hl (by decide) rfl (fun ls hl => ?_)
  have LP1 : ∀ (n : Nat) (i : Int32) (sm : Int32), (0 ≤ i.toInt) → (m_n.toInt - i.toInt).toNat < n → ∀ (H : Heap) (locs : List Loc), va_P (dC, dI) vwCl [kx_5 h0 g_row m_n m_slots 0 g_many g_loss g_less g_voteValue g_voteNumber g_allValue g_allNumber m_allMany g_nodeL g_nodeR m_nodes g_part m_partMany g_wasMany g_wasLoss g_wasValue g_wasNumber g_path m_pathMany g_heavyValue g_heavyTimes m_heavyMany g_fewest g_which g_met m_mostMet, kx_a g_row cyI 160 f] H → va_D A [kx_5 h0 g_row m_n m_slots 0 g_many g_loss g_less g_voteValue g_voteNumber g_allValue g_allNumber m_allMany g_nodeL g_nodeR m_nodes g_part m_partMany g_wasMany g_wasLoss g_wasValue g_wasNumber g_path m_pathMany g_heavyValue g_heavyTimes m_heavyMany g_fewest g_which g_met m_mostMet, kx_a g_row cyI 160 f] → va_S A s.heap H locs → ∀ (ls : Array Slot), lv_has ls 3 [(2, .int i), (1, .int sm), (0, .ref h0)] → W p l e (headSpec wsX5_values ({ frames := 1, cells := 0, slots := 0, locals := 45 })).room s m ([.ref h0] : List Value).toArray below meth c H locs 0 0 (MQ below (va_Qi (fun (r : Int32) (_ : Unit) => True) (fun (_ : Unit) (t : State) => va_P (dC, dI) vwCl [kx_5 h0 g_row m_n m_slots 0 g_many g_loss g_less g_voteValue g_voteNumber g_allValue g_allNumber m_allMany g_nodeL g_nodeR m_nodes g_part m_partMany g_wasMany g_wasLoss g_wasValue g_wasNumber g_path m_pathMany g_heavyValue g_heavyTimes m_heavyMany g_fewest g_which g_met m_mostMet, kx_a g_row cyI 160 f] t.heap ∧ va_K (dC, dI) vwCl [(cyI, .int)] t ∧ va_D A [kx_5 h0 g_row m_n m_slots 0 g_many g_loss g_less g_voteValue g_voteNumber g_allValue g_allNumber m_allMany g_nodeL g_nodeR m_nodes g_part m_partMany g_wasMany g_wasLoss g_wasValue g_wasNumber g_path m_pathMany g_heavyValue g_heavyTimes m_heavyMany g_fewest g_which g_met m_mostMet, kx_a g_row cyI 160 f]) A) ([.ref h0] : List Value).toArray s 0 0 A) (F0 m 9 ls []) := by
    intro n
    induction n with
    | zero => intro i sm LP1_h0 hn; exact absurd hn (Nat.not_lt_zero _)
    | succ n ih1 =>
      intro i sm LP1_h0 hn1 H locs hP hD hS ls hl
      refine lv_iload_n hx hb dX5_values_9 rfl (lv_at hl 0 rfl) ?_
      refine lv_aload_n hx hb dX5_values_10 rfl (lv_at hl 2 rfl) ?_
      refine va_get (D := (dC, dI)) (ci := 5) (v := .int m_n) (C := RX5) (T := TX5) (N := 30) hx hb hts hi_5 hown hK hP 0 rfl rfl 1 (by decide) hf_84 (fun _ h9 => h9) rfl dX5_values_11 ?_
      refine lv_icmp_ge (tgt := 41) hx hb dX5_values_14 (by decide) (fun c_1 => ?_) (fun c_1 => ?_)
      · have i_1 : m_n.toInt ≤ i.toInt := kc_le c_1
        refine lv_iload_n hx hb dX5_values_41 rfl (lv_at hl 1 rfl) ?_
        have hP9 := hP
        have hD9 := hD
        have hK9 := hK
        exact W.iret (v := sm) hx hb hr (hlocks := hlocks) (fun t ht hW => ⟨⟨sm, (), rfl, trivial, by rw [ht]; exact hP9, va_K.moved hW.alike hK9, hD9⟩, hS.F ht⟩) hS.2.2 dX5_values_42
      · have i_1 : i.toInt < m_n.toInt := kc_nle c_1
        refine lv_aload_n hx hb dX5_values_17 rfl (lv_at hl 2 rfl) ?_
        refine lv_aload_n hx hb dX5_values_18 rfl (lv_at hl 2 rfl) ?_
        refine va_get (D := (dC, dI)) (ci := 5) (v := .ref g_row) (C := RX5) (T := TX5) (N := 30) hx hb hts hi_5 hown hK hP 0 rfl rfl 0 (by decide) hf_7 (fun _ h9 => h9) rfl dX5_values_19 ?_
        refine lv_iload_n hx hb dX5_values_22 rfl (lv_at hl 0 rfl) ?_
        refine va_iald hx hb hK hP 1 0 rfl rfl (ki_in (om_10 LP1_h0) (om_1 a1 i_1)) dX5_values_23 ?_
        refine lv_topi (fun y_2 ey_2 => ?_)
        have j_2 : y_2.toInt = (f i.toNatClampNeg).toInt := congrArg Int32.toInt ey_2
        refine lv_iconst (v := 0) hx hb dX5_values_24 (by decide) ?_
        refine lv_iload_n hx hb dX5_values_25 rfl (lv_at hl 0 rfl) ?_
        have hPc := hP
        have hKc := hK
        have k_3 : (0 : Int32).toInt = 0 := rfl
        refine vp_callSi (W.runV (As := [.int y_2, .int 0, .int i]) (rest := []) ⟨hx, hb, hml, hown, hts⟩ (c_X5_times l dC dI h0 g_row g_many g_loss g_less g_voteValue g_voteNumber g_allValue g_allNumber g_nodeL g_nodeR g_part g_wasMany g_wasLoss g_wasValue g_wasNumber g_path g_heavyValue g_heavyTimes g_fewest g_which g_met m_n m_slots 0 m_allMany m_nodes m_partMany m_pathMany m_heavyMany m_mostMet cyI f y_2 0 i om_35 (om_202 a1 i_1)) (cwV 3 hts gX5_values_X5_times rfl rfl rfl (by decide +kernel) ⟨Nat.le_of_ble_eq_true rfl, Nat.le_of_ble_eq_true rfl⟩) ⟨fun a U g mk q => by obtain ⟨q0, qP, qK⟩ := q; exact ⟨q0, qP, va_K.moved (u := U) (U := U.calling g mk a) (Vm.Alike.refl U.vm) qK⟩, kx_rc5 hKc hPc (q0 := 0) rfl, fun U hU hW => ⟨rfl, by rw [hU]; exact hPc, va_K.moved hW.alike hKc⟩⟩ rfl rfl hl.1 rfl (lv_room (Nat.le_of_ble_eq_true rfl)) dX5_values_26 ⟨Nat.le_of_ble_eq_true rfl, Nat.le_of_ble_eq_true rfl⟩) (fun r_4 w_4 => ?_)
        have w_4 : r_4.toInt = (cnt f y_2 (0 : Int32).toNatClampNeg (i.toInt - 0).toNat : Int) := w_4
        refine lv_if_ne (tgt := 35) hx hb dX5_values_29 (by decide) (fun c_5 => ?_) (fun c_5 => ?_)
        · have i_5 : ¬ r_4.toInt = 0 := kc_ne c_5
          obtain ⟨x_6, ex_6⟩ : ∃ y : Int32, y = i + 1 := ⟨_, rfl⟩
          have i_6 : x_6.toInt = i.toInt + 1 := ki_add ex_6 rfl rfl (om_13 LP1_h0) (om_3 a1 i_1)
          refine lv_iinc (v := x_6) (lv' := [(2, .int x_6), (1, .int sm), (0, .ref h0)]) hx hb dX5_values_35 hl (k := 0) rfl (by rw [ex_6]; rfl) (by decide) rfl (fun ls hl => ?_)
          refine lv_goto (tgt := 9) hx hb dX5_values_38 (by decide) ?_
          exact ih1 x_6 sm (om_34 LP1_h0 i_6) (om_mu hn1 (om_5 i_6) (om_6 i_1)) _ _ hP hD hS ls (lv_sub hl [0, 1, 2] rfl)
        · have i_5 : r_4.toInt = 0 := kc_eq c_5
          obtain ⟨x_7, ex_7⟩ : ∃ y : Int32, y = sm + 1 := ⟨_, rfl⟩
          refine lv_iinc (v := x_7) (lv' := [(1, .int x_7), (2, .int i), (0, .ref h0)]) hx hb dX5_values_32 hl (k := 1) rfl (by rw [ex_7]; rfl) (by decide) rfl (fun ls hl => ?_)
          obtain ⟨x_8, ex_8⟩ : ∃ y : Int32, y = i + 1 := ⟨_, rfl⟩
          have i_8 : x_8.toInt = i.toInt + 1 := ki_add ex_8 rfl rfl (om_13 LP1_h0) (om_3 a1 i_1)
          refine lv_iinc (v := x_8) (lv' := [(2, .int x_8), (1, .int x_7), (0, .ref h0)]) hx hb dX5_values_35 hl (k := 1) rfl (by rw [ex_8]; rfl) (by decide) rfl (fun ls hl => ?_)
          refine lv_goto (tgt := 9) hx hb dX5_values_38 (by decide) ?_
          exact ih1 x_8 x_7 (om_34 LP1_h0 i_8) (om_mu hn1 (om_5 i_8) (om_6 i_1)) _ _ hP hD hS ls (lv_sub hl [0, 1, 2] rfl)
  have k_9 : (0 : Int32).toInt = 0 := rfl
  have k_10 : (0 : Int32).toInt = 0 := rfl
  exact LP1 ((m_n.toInt - 0 : Int).toNat + 1) 0 0 om_35 (Nat.lt_succ_self _) _ _ hP hD hS ls (lv_sub hl [0, 1, 2] rfl)

set_option maxHeartbeats 4000000 in
set_option maxRecDepth 100000 in
theorem c_X5_margin (l : Launch) (dC : Nat → ClassId) (dI : Nat → Nat → Nat) (h0 : Nat) (g_row : Nat) (g_many : Nat) (g_loss : Nat) (g_less : Nat) (g_voteValue : Nat) (g_voteNumber : Nat) (g_allValue : Nat) (g_allNumber : Nat) (g_nodeL : Nat) (g_nodeR : Nat) (g_part : Nat) (g_wasMany : Nat) (g_wasLoss : Nat) (g_wasValue : Nat) (g_wasNumber : Nat) (g_path : Nat) (g_heavyValue : Nat) (g_heavyTimes : Nat) (g_fewest : Nat) (g_which : Nat) (g_met : Nat) (m_n : Int32) (m_slots : Int32) (m_thrown : Int32) (m_allMany : Int32) (m_nodes : Int32) (m_partMany : Int32) (m_pathMany : Int32) (m_heavyMany : Int32) (m_mostMet : Int32) (cyI : ClassId) (f : Nat → Int32) (p0 : Int32) (p1 : Int32) (p2 : Int32) (sz : Nat) (a0 : 0 ≤ m_n.toInt) (a1 : m_n.toInt ≤ 160) : kx_MQ l (dC, dI) yX5_margin wsX5_margin ({ frames := 2, cells := 0, slots := 0, locals := 90 }) [.ref h0, .int p0, .int p1, .int p2] [kx_5 h0 g_row m_n m_slots m_thrown g_many g_loss g_less g_voteValue g_voteNumber g_allValue g_allNumber m_allMany g_nodeL g_nodeR m_nodes g_part m_partMany g_wasMany g_wasLoss g_wasValue g_wasNumber g_path m_pathMany g_heavyValue g_heavyTimes m_heavyMany g_fewest g_which g_met m_mostMet, kx_a g_row cyI 160 f] [(cyI, .int)] sz (fun A => va_Qi (fun (r : Int32) (_ : Unit) => True) (fun (_ : Unit) (t : State) => va_P (dC, dI) vwCl [kx_5 h0 g_row m_n m_slots 0 g_many g_loss g_less g_voteValue g_voteNumber g_allValue g_allNumber m_allMany g_nodeL g_nodeR m_nodes g_part m_partMany g_wasMany g_wasLoss g_wasValue g_wasNumber g_path m_pathMany g_heavyValue g_heavyTimes m_heavyMany g_fewest g_which g_met m_mostMet, kx_a g_row cyI 160 f] t.heap ∧ va_K (dC, dI) vwCl [(cyI, .int)] t ∧ va_D A [kx_5 h0 g_row m_n m_slots 0 g_many g_loss g_less g_voteValue g_voteNumber g_allValue g_allNumber m_allMany g_nodeL g_nodeR m_nodes g_part m_partMany g_wasMany g_wasLoss g_wasValue g_wasNumber g_path m_pathMany g_heavyValue g_heavyTimes m_heavyMany g_fewest g_which g_met m_mostMet, kx_a g_row cyI 160 f]) A) := by
  refine kx_stQ (ws := wsX5_margin) (cc := cX5_margin) (maxL := 4) (ret := (some .int)) (by decide) rfl (Nat.le_of_ble_eq_true rfl) ?_
  intro p e s m below meth c A ls hx hb hr hlocks hts hown hml hA hS hP hK hD hl
  have hown : s.vm.findClass RX5 = some m.cls := hown
  have hl : lv_has ls 4 [(0, .ref h0), (1, .int p0), (2, .int p1), (3, .int p2)] := hl
  have hf_77 := hts (.fieldLink RX5 77 "MajorityIndexModel" "thrown" "I") (List.mem_of_getElem? (i := 1) rfl)
  have hi_5 : ∀ w ∈ u_ws RX5 TX5 30, w ∈ wsX5_margin := fun w h => List.mem_cons_of_mem _ (List.mem_append_right _ h)
  have hk_148 := hts (.constant RX5 148 (-40000)) (List.mem_of_getElem? (i := 2) rfl)
  refine lv_aload_n hx hb dX5_margin_0 rfl (lv_at hl 0 rfl) ?_
  refine lv_iconst (v := 0) hx hb dX5_margin_1 (by decide) ?_
  refine va_put (D := (dC, dI)) (ci := 5) (v := .int 0) (ty := .int) (C := RX5) (T := TX5) (N := 30) hx hb hts hi_5 tyX5 tyX5_ok nmX5 hown hK hP hD hS 0 rfl rfl 3 (by decide) hf_77 (fun _ h9 => h9) rfl (by decide +kernel) rfl rfl (Nat.le_of_ble_eq_true rfl) dX5_margin_2 (fun H locs hP hD hS => ?_)
  obtain ⟨hP, hD⟩ := kx_re (w2 := [kx_5 h0 g_row m_n m_slots 0 g_many g_loss g_less g_voteValue g_voteNumber g_allValue g_allNumber m_allMany g_nodeL g_nodeR m_nodes g_part m_partMany g_wasMany g_wasLoss g_wasValue g_wasNumber g_path m_pathMany g_heavyValue g_heavyTimes m_heavyMany g_fewest g_which g_met m_mostMet, kx_a g_row cyI 160 f]) hP hD rfl
  refine lv_iload_n hx hb dX5_margin_5 rfl (lv_at hl 1 rfl) ?_
  have hPc := hP.sub (ws' := []) [] rfl
  have hKc := hK.sub (tys' := []) [] rfl
  refine vp_callSi (W.runS (As := [.int p0]) (rest := []) ⟨hx, hb, hml, hown, hts⟩ (c_X5_isValue l dC dI p0) (va_cwS 1 hts gX5_margin_X5_isValue rfl rfl rfl (by decide +kernel) ⟨Nat.le_of_ble_eq_true rfl, Nat.le_of_ble_eq_true rfl⟩) ⟨fun a U g mk q => by obtain ⟨q0, qP, qK⟩ := q; exact ⟨q0, qP, va_K.moved (u := U) (U := U.calling g mk a) (Vm.Alike.refl U.vm) qK⟩, fun U hU hW => ⟨rfl, by rw [hU]; exact hPc, va_K.moved hW.alike hKc⟩⟩ rfl rfl hl.1 rfl (lv_room (Nat.le_of_ble_eq_true rfl)) dX5_margin_6 ⟨Nat.le_of_ble_eq_true rfl, Nat.le_of_ble_eq_true rfl⟩) (fun r_1 w_1 => ?_)
  rcases w_1 with ⟨rfl, w_1⟩ | ⟨rfl, w_1⟩
  · have w_1 : (-32768 ≤ p0.toInt ∧ p0.toInt ≤ 32767) := w_1
    refine lv_if_eq (tgt := 37) hx hb dX5_margin_9 (by decide) (fun c_2 => ?_) (fun c_2 => ?_)
    · exact absurd c_2 (by decide)
    · refine lv_aload_n hx hb dX5_margin_12 rfl (lv_at hl 0 rfl) ?_
      refine lv_iload_n hx hb dX5_margin_13 rfl (lv_at hl 2 rfl) ?_
      refine lv_iload_n hx hb dX5_margin_14 rfl (lv_at hl 3 rfl) ?_
      have hPc := hP.sub (ws' := [kx_5 h0 g_row m_n m_slots 0 g_many g_loss g_less g_voteValue g_voteNumber g_allValue g_allNumber m_allMany g_nodeL g_nodeR m_nodes g_part m_partMany g_wasMany g_wasLoss g_wasValue g_wasNumber g_path m_pathMany g_heavyValue g_heavyTimes m_heavyMany g_fewest g_which g_met m_mostMet]) [0] rfl
      have hKc := hK.sub (tys' := []) [] rfl
      refine vp_callSi (W.runV (As := [.int p1, .int p2]) (rest := []) ⟨hx, hb, hml, hown, hts⟩ (c_X5_isRange l dC dI h0 g_row g_many g_loss g_less g_voteValue g_voteNumber g_allValue g_allNumber g_nodeL g_nodeR g_part g_wasMany g_wasLoss g_wasValue g_wasNumber g_path g_heavyValue g_heavyTimes g_fewest g_which g_met m_n m_slots 0 m_allMany m_nodes m_partMany m_pathMany m_heavyMany m_mostMet p1 p2) (cwV 2 hts gX5_margin_X5_isRange rfl rfl rfl (by decide +kernel) ⟨Nat.le_of_ble_eq_true rfl, Nat.le_of_ble_eq_true rfl⟩) ⟨fun a U g mk q => by obtain ⟨q0, qP, qK⟩ := q; exact ⟨q0, qP, va_K.moved (u := U) (U := U.calling g mk a) (Vm.Alike.refl U.vm) qK⟩, kx_rc5 hKc hPc (q0 := 0) rfl, fun U hU hW => ⟨rfl, by rw [hU]; exact hPc, va_K.moved hW.alike hKc⟩⟩ rfl rfl hl.1 rfl (lv_room (Nat.le_of_ble_eq_true rfl)) dX5_margin_15 ⟨Nat.le_of_ble_eq_true rfl, Nat.le_of_ble_eq_true rfl⟩) (fun r_3 w_3 => ?_)
      rcases w_3 with ⟨rfl, w_3⟩ | ⟨rfl, w_3⟩
      · have w_3 : (0 ≤ p1.toInt ∧ p1.toInt < p2.toInt ∧ p2.toInt ≤ m_n.toInt) := w_3
        refine lv_if_eq (tgt := 37) hx hb dX5_margin_18 (by decide) (fun c_4 => ?_) (fun c_4 => ?_)
        · exact absurd c_4 (by decide)
        · refine lv_iconst (v := 2) hx hb dX5_margin_21 (by decide) ?_
          refine lv_aload_n hx hb dX5_margin_22 rfl (lv_at hl 0 rfl) ?_
          refine lv_iload_n hx hb dX5_margin_23 rfl (lv_at hl 1 rfl) ?_
          refine lv_iload_n hx hb dX5_margin_24 rfl (lv_at hl 2 rfl) ?_
          refine lv_iload_n hx hb dX5_margin_25 rfl (lv_at hl 3 rfl) ?_
          have hPc := hP
          have hKc := hK
          refine vp_callSi (W.runV (As := [.int p0, .int p1, .int p2]) (rest := [.int 2]) ⟨hx, hb, hml, hown, hts⟩ (c_X5_times l dC dI h0 g_row g_many g_loss g_less g_voteValue g_voteNumber g_allValue g_allNumber g_nodeL g_nodeR g_part g_wasMany g_wasLoss g_wasValue g_wasNumber g_path g_heavyValue g_heavyTimes g_fewest g_which g_met m_n m_slots 0 m_allMany m_nodes m_partMany m_pathMany m_heavyMany m_mostMet cyI f p0 p1 p2 (om_10 w_3.1) (om_167 a1 w_3.2.2)) (cwV 3 hts gX5_margin_X5_times rfl rfl rfl (by decide +kernel) ⟨Nat.le_of_ble_eq_true rfl, Nat.le_of_ble_eq_true rfl⟩) ⟨fun a U g mk q => by obtain ⟨q0, qP, qK⟩ := q; exact ⟨q0, qP, va_K.moved (u := U) (U := U.calling g mk a) (Vm.Alike.refl U.vm) qK⟩, kx_rc5 hKc hPc (q0 := 0) rfl, fun U hU hW => ⟨rfl, by rw [hU]; exact hPc, va_K.moved hW.alike hKc⟩⟩ rfl rfl hl.1 rfl (lv_room (Nat.le_of_ble_eq_true rfl)) dX5_margin_26 ⟨Nat.le_of_ble_eq_true rfl, Nat.le_of_ble_eq_true rfl⟩) (fun r_5 w_5 => ?_)
          have w_5 : r_5.toInt = (cnt f p0 p1.toNatClampNeg (p2.toInt - p1.toInt).toNat : Int) := w_5
          refine lv_imul hx hb dX5_margin_29 ?_
          refine lv_topi (fun y_6 ey_6 => ?_)
          refine lv_iload_n hx hb dX5_margin_30 rfl (lv_at hl 3 rfl) ?_
          refine lv_iload_n hx hb dX5_margin_31 rfl (lv_at hl 2 rfl) ?_
          refine lv_isub hx hb dX5_margin_32 ?_
          refine lv_topi (fun y_7 ey_7 => ?_)
          have i_7 : y_7.toInt = p2.toInt - p1.toInt := ki_sub ey_7 rfl rfl (om_168 w_3.2.1) (om_169 a1 w_3.1 w_3.2.2)
          refine lv_isub hx hb dX5_margin_33 ?_
          refine lv_topi (fun y_8 ey_8 => ?_)
          refine lv_goto (tgt := 39) hx hb dX5_margin_34 (by decide) ?_
          have hP9 := hP
          have hD9 := hD
          have hK9 := hK
          exact W.iret (v := y_8) hx hb hr (hlocks := hlocks) (fun t ht hW => ⟨⟨y_8, (), rfl, trivial, by rw [ht]; exact hP9, va_K.moved hW.alike hK9, hD9⟩, hS.F ht⟩) hS.2.2 dX5_margin_39
      · have w_3 : (p1.toInt < 0 ∨ p2.toInt ≤ p1.toInt ∨ m_n.toInt < p2.toInt) := w_3
        refine lv_if_eq (tgt := 37) hx hb dX5_margin_18 (by decide) (fun c_9 => ?_) (fun c_9 => ?_)
        · refine lv_ldc (v := (-40000)) hx hb hown hk_148 dX5_margin_37 ?_
          have hP9 := hP
          have hD9 := hD
          have hK9 := hK
          exact W.iret (v := (-40000)) hx hb hr (hlocks := hlocks) (fun t ht hW => ⟨⟨(-40000), (), rfl, trivial, by rw [ht]; exact hP9, va_K.moved hW.alike hK9, hD9⟩, hS.F ht⟩) hS.2.2 dX5_margin_39
        · exact absurd c_9 (by decide)
  · have w_1 : (p0.toInt < -32768 ∨ 32767 < p0.toInt) := w_1
    refine lv_if_eq (tgt := 37) hx hb dX5_margin_9 (by decide) (fun c_10 => ?_) (fun c_10 => ?_)
    · refine lv_ldc (v := (-40000)) hx hb hown hk_148 dX5_margin_37 ?_
      have hP9 := hP
      have hD9 := hD
      have hK9 := hK
      exact W.iret (v := (-40000)) hx hb hr (hlocks := hlocks) (fun t ht hW => ⟨⟨(-40000), (), rfl, trivial, by rw [ht]; exact hP9, va_K.moved hW.alike hK9, hD9⟩, hS.F ht⟩) hS.2.2 dX5_margin_39
    · exact absurd c_10 (by decide)

set_option maxHeartbeats 4000000 in
set_option maxRecDepth 100000 in
theorem c_X5_longest (l : Launch) (dC : Nat → ClassId) (dI : Nat → Nat → Nat) (h0 : Nat) (g_row : Nat) (g_many : Nat) (g_loss : Nat) (g_less : Nat) (g_voteValue : Nat) (g_voteNumber : Nat) (g_allValue : Nat) (g_allNumber : Nat) (g_nodeL : Nat) (g_nodeR : Nat) (g_part : Nat) (g_wasMany : Nat) (g_wasLoss : Nat) (g_wasValue : Nat) (g_wasNumber : Nat) (g_path : Nat) (g_heavyValue : Nat) (g_heavyTimes : Nat) (g_fewest : Nat) (g_which : Nat) (g_met : Nat) (m_n : Int32) (m_slots : Int32) (m_thrown : Int32) (m_allMany : Int32) (m_nodes : Int32) (m_partMany : Int32) (m_pathMany : Int32) (m_heavyMany : Int32) (m_mostMet : Int32) (cyI : ClassId) (f : Nat → Int32) (p0 : Int32) (p1 : Int32) (p2 : Int32) (p3 : Int32) (sz : Nat) (a0 : 0 ≤ m_n.toInt) (a1 : m_n.toInt ≤ 160) : kx_MQ l (dC, dI) yX5_longest wsX5_longest ({ frames := 2, cells := 0, slots := 0, locals := 90 }) [.ref h0, .int p0, .int p1, .int p2, .int p3] [kx_5 h0 g_row m_n m_slots m_thrown g_many g_loss g_less g_voteValue g_voteNumber g_allValue g_allNumber m_allMany g_nodeL g_nodeR m_nodes g_part m_partMany g_wasMany g_wasLoss g_wasValue g_wasNumber g_path m_pathMany g_heavyValue g_heavyTimes m_heavyMany g_fewest g_which g_met m_mostMet, kx_a g_row cyI 160 f] [(cyI, .int)] sz (fun A => va_Qi (fun (r : Int32) (_ : Unit) => True) (fun (_ : Unit) (t : State) => va_P (dC, dI) vwCl [kx_5 h0 g_row m_n m_slots 0 g_many g_loss g_less g_voteValue g_voteNumber g_allValue g_allNumber m_allMany g_nodeL g_nodeR m_nodes g_part m_partMany g_wasMany g_wasLoss g_wasValue g_wasNumber g_path m_pathMany g_heavyValue g_heavyTimes m_heavyMany g_fewest g_which g_met m_mostMet, kx_a g_row cyI 160 f] t.heap ∧ va_K (dC, dI) vwCl [(cyI, .int)] t ∧ va_D A [kx_5 h0 g_row m_n m_slots 0 g_many g_loss g_less g_voteValue g_voteNumber g_allValue g_allNumber m_allMany g_nodeL g_nodeR m_nodes g_part m_partMany g_wasMany g_wasLoss g_wasValue g_wasNumber g_path m_pathMany g_heavyValue g_heavyTimes m_heavyMany g_fewest g_which g_met m_mostMet, kx_a g_row cyI 160 f]) A) := by
  refine kx_stQ (ws := wsX5_longest) (cc := cX5_longest) (maxL := 10) (ret := (some .int)) (by decide) rfl (Nat.le_of_ble_eq_true rfl) ?_
  intro p e s m below meth c A ls hx hb hr hlocks hts hown hml hA hS hP hK hD hl
  have hown : s.vm.findClass RX5 = some m.cls := hown
  have hl : lv_has ls 10 [(0, .ref h0), (1, .int p0), (2, .int p1), (3, .int p2), (4, .int p3)] := hl
  have hf_77 := hts (.fieldLink RX5 77 "MajorityIndexModel" "thrown" "I") (List.mem_of_getElem? (i := 1) rfl)
  have hi_5 : ∀ w ∈ u_ws RX5 TX5 30, w ∈ wsX5_longest := fun w h => List.mem_cons_of_mem _ (List.mem_append_right _ h)
  have hf_84 := hts (.fieldLink RX5 84 "MajorityIndexModel" "n" "I") (List.mem_of_getElem? (i := 2) rfl)
  have hf_7 := hts (.fieldLink RX5 7 "MajorityIndexModel" "row" "[I") (List.mem_of_getElem? (i := 3) rfl)
  refine lv_aload_n hx hb dX5_longest_0 rfl (lv_at hl 0 rfl) ?_
  refine lv_iconst (v := 0) hx hb dX5_longest_1 (by decide) ?_
  refine va_put (D := (dC, dI)) (ci := 5) (v := .int 0) (ty := .int) (C := RX5) (T := TX5) (N := 30) hx hb hts hi_5 tyX5 tyX5_ok nmX5 hown hK hP hD hS 0 rfl rfl 3 (by decide) hf_77 (fun _ h9 => h9) rfl (by decide +kernel) rfl rfl (Nat.le_of_ble_eq_true rfl) dX5_longest_2 (fun H locs hP hD hS => ?_)
  obtain ⟨hP, hD⟩ := kx_re (w2 := [kx_5 h0 g_row m_n m_slots 0 g_many g_loss g_less g_voteValue g_voteNumber g_allValue g_allNumber m_allMany g_nodeL g_nodeR m_nodes g_part m_partMany g_wasMany g_wasLoss g_wasValue g_wasNumber g_path m_pathMany g_heavyValue g_heavyTimes m_heavyMany g_fewest g_which g_met m_mostMet, kx_a g_row cyI 160 f]) hP hD rfl
  refine lv_iload_n hx hb dX5_longest_5 rfl (lv_at hl 1 rfl) ?_
  have hPc := hP.sub (ws' := []) [] rfl
  have hKc := hK.sub (tys' := []) [] rfl
  refine vp_callSi (W.runS (As := [.int p0]) (rest := []) ⟨hx, hb, hml, hown, hts⟩ (c_X5_isValue l dC dI p0) (va_cwS 1 hts gX5_longest_X5_isValue rfl rfl rfl (by decide +kernel) ⟨Nat.le_of_ble_eq_true rfl, Nat.le_of_ble_eq_true rfl⟩) ⟨fun a U g mk q => by obtain ⟨q0, qP, qK⟩ := q; exact ⟨q0, qP, va_K.moved (u := U) (U := U.calling g mk a) (Vm.Alike.refl U.vm) qK⟩, fun U hU hW => ⟨rfl, by rw [hU]; exact hPc, va_K.moved hW.alike hKc⟩⟩ rfl rfl hl.1 rfl (lv_room (Nat.le_of_ble_eq_true rfl)) dX5_longest_6 ⟨Nat.le_of_ble_eq_true rfl, Nat.le_of_ble_eq_true rfl⟩) (fun r_1 w_1 => ?_)
  rcases w_1 with ⟨rfl, w_1⟩ | ⟨rfl, w_1⟩
  · have w_1 : (-32768 ≤ p0.toInt ∧ p0.toInt ≤ 32767) := w_1
    refine lv_if_eq (tgt := 30) hx hb dX5_longest_9 (by decide) (fun c_2 => ?_) (fun c_2 => ?_)
    · exact absurd c_2 (by decide)
    · refine lv_iload_n hx hb dX5_longest_12 rfl (lv_at hl 2 rfl) ?_
      refine lv_iload_n hx hb dX5_longest_13 rfl (lv_at hl 3 rfl) ?_
      have hPc := hP.sub (ws' := []) [] rfl
      have hKc := hK.sub (tys' := []) [] rfl
      refine vp_callSi (W.runS (As := [.int p1, .int p2]) (rest := []) ⟨hx, hb, hml, hown, hts⟩ (c_X5_isShare l dC dI p1 p2) (va_cwS 2 hts gX5_longest_X5_isShare rfl rfl rfl (by decide +kernel) ⟨Nat.le_of_ble_eq_true rfl, Nat.le_of_ble_eq_true rfl⟩) ⟨fun a U g mk q => by obtain ⟨q0, qP, qK⟩ := q; exact ⟨q0, qP, va_K.moved (u := U) (U := U.calling g mk a) (Vm.Alike.refl U.vm) qK⟩, fun U hU hW => ⟨rfl, by rw [hU]; exact hPc, va_K.moved hW.alike hKc⟩⟩ rfl rfl hl.1 rfl (lv_room (Nat.le_of_ble_eq_true rfl)) dX5_longest_14 ⟨Nat.le_of_ble_eq_true rfl, Nat.le_of_ble_eq_true rfl⟩) (fun r_3 w_3 => ?_)
      rcases w_3 with ⟨rfl, w_3⟩ | ⟨rfl, w_3⟩
      · have w_3 : (1 ≤ p1.toInt ∧ p1.toInt ≤ p2.toInt ∧ p2.toInt ≤ 999) := w_3
        refine lv_if_eq (tgt := 30) hx hb dX5_longest_17 (by decide) (fun c_4 => ?_) (fun c_4 => ?_)
        · exact absurd c_4 (by decide)
        · refine lv_iload hx hb dX5_longest_20 (lv_at hl 4 rfl) ?_
          refine lv_iconst (v := 0) hx hb dX5_longest_22 (by decide) ?_
          refine lv_iconst (v := 1) hx hb dX5_longest_23 (by decide) ?_
          have hPc := hP.sub (ws' := []) [] rfl
          have hKc := hK.sub (tys' := []) [] rfl
          refine vp_callSi (W.runS (As := [.int p3, .int 0, .int 1]) (rest := []) ⟨hx, hb, hml, hown, hts⟩ (c_X5_within l dC dI p3 0 1) (va_cwS 3 hts gX5_longest_X5_within rfl rfl rfl (by decide +kernel) ⟨Nat.le_of_ble_eq_true rfl, Nat.le_of_ble_eq_true rfl⟩) ⟨fun a U g mk q => by obtain ⟨q0, qP, qK⟩ := q; exact ⟨q0, qP, va_K.moved (u := U) (U := U.calling g mk a) (Vm.Alike.refl U.vm) qK⟩, fun U hU hW => ⟨rfl, by rw [hU]; exact hPc, va_K.moved hW.alike hKc⟩⟩ rfl rfl hl.1 rfl (lv_room (Nat.le_of_ble_eq_true rfl)) dX5_longest_24 ⟨Nat.le_of_ble_eq_true rfl, Nat.le_of_ble_eq_true rfl⟩) (fun r_5 w_5 => ?_)
          rcases w_5 with ⟨rfl, w_5⟩ | ⟨rfl, w_5⟩
          · have w_5 : (0 ≤ p3.toInt ∧ p3.toInt ≤ 1) := w_5
            refine lv_if_ne (tgt := 32) hx hb dX5_longest_27 (by decide) (fun c_6 => ?_) (fun c_6 => ?_)
            · refine lv_iconst (v := (-1)) hx hb dX5_longest_32 (by decide) ?_
              refine lv_istore (lv' := [(5, .int (-1)), (0, .ref h0), (1, .int p0), (2, .int p1), (3, .int p2), (4, .int p3)]) hx hb dX5_longest_33 hl (by decide) rfl (fun ls hl => ?_)
              refine lv_iconst (v := (-1)) hx hb dX5_longest_35 (by decide) ?_
              refine lv_istore (lv' := [(6, .int (-1)), (5, .int (-1)), (0, .ref h0), (1, .int p0), (2, .int p1), (3, .int p2), (4, .int p3)]) hx hb dX5_longest_36 hl (by decide) rfl (fun ls hl => ?_)
              refine lv_iconst (v := 0) hx hb dX5_longest_38 (by decide) ?_
              refine lv_istore (lv' := [(7, .int 0), (6, .int (-1)), (5, .int (-1)), (0, .ref h0), (1, .int p0), (2, .int p1), (3, .int p2), (4, .int p3)]) hx hb dX5_longest_39 hl (by decide) rfl (fun ls hl => ?_)
              have LP1 : ∀ (n : Nat) (i : Int32) (bl : Int32) (br : Int32), (0 ≤ i.toInt) → (m_n.toInt - i.toInt).toNat < n → ∀ (H : Heap) (locs : List Loc), va_P (dC, dI) vwCl [kx_5 h0 g_row m_n m_slots 0 g_many g_loss g_less g_voteValue g_voteNumber g_allValue g_allNumber m_allMany g_nodeL g_nodeR m_nodes g_part m_partMany g_wasMany g_wasLoss g_wasValue g_wasNumber g_path m_pathMany g_heavyValue g_heavyTimes m_heavyMany g_fewest g_which g_met m_mostMet, kx_a g_row cyI 160 f] H → va_D A [kx_5 h0 g_row m_n m_slots 0 g_many g_loss g_less g_voteValue g_voteNumber g_allValue g_allNumber m_allMany g_nodeL g_nodeR m_nodes g_part m_partMany g_wasMany g_wasLoss g_wasValue g_wasNumber g_path m_pathMany g_heavyValue g_heavyTimes m_heavyMany g_fewest g_which g_met m_mostMet, kx_a g_row cyI 160 f] → va_S A s.heap H locs → ∀ (ls : Array Slot), lv_has ls 10 [(7, .int i), (6, .int br), (5, .int bl), (0, .ref h0), (1, .int p0), (2, .int p1), (3, .int p2), (4, .int p3)] → W p l e (headSpec wsX5_longest ({ frames := 2, cells := 0, slots := 0, locals := 90 })).room s m ([.ref h0, .int p0, .int p1, .int p2, .int p3] : List Value).toArray below meth c H locs 0 0 (MQ below (va_Qi (fun (r : Int32) (_ : Unit) => True) (fun (_ : Unit) (t : State) => va_P (dC, dI) vwCl [kx_5 h0 g_row m_n m_slots 0 g_many g_loss g_less g_voteValue g_voteNumber g_allValue g_allNumber m_allMany g_nodeL g_nodeR m_nodes g_part m_partMany g_wasMany g_wasLoss g_wasValue g_wasNumber g_path m_pathMany g_heavyValue g_heavyTimes m_heavyMany g_fewest g_which g_met m_mostMet, kx_a g_row cyI 160 f] t.heap ∧ va_K (dC, dI) vwCl [(cyI, .int)] t ∧ va_D A [kx_5 h0 g_row m_n m_slots 0 g_many g_loss g_less g_voteValue g_voteNumber g_allValue g_allNumber m_allMany g_nodeL g_nodeR m_nodes g_part m_partMany g_wasMany g_wasLoss g_wasValue g_wasNumber g_path m_pathMany g_heavyValue g_heavyTimes m_heavyMany g_fewest g_which g_met m_mostMet, kx_a g_row cyI 160 f]) A) ([.ref h0, .int p0, .int p1, .int p2, .int p3] : List Value).toArray s 0 0 A) (F0 m 41 ls []) := by
                intro n
                induction n with
                | zero => intro i bl br LP1_h0 hn; exact absurd hn (Nat.not_lt_zero _)
                | succ n ih1 =>
                  intro i bl br LP1_h0 hn1 H locs hP hD hS ls hl
                  refine lv_iload hx hb dX5_longest_41 (lv_at hl 0 rfl) ?_
                  refine lv_aload_n hx hb dX5_longest_43 rfl (lv_at hl 3 rfl) ?_
                  refine va_get (D := (dC, dI)) (ci := 5) (v := .int m_n) (C := RX5) (T := TX5) (N := 30) hx hb hts hi_5 hown hK hP 0 rfl rfl 1 (by decide) hf_84 (fun _ h9 => h9) rfl dX5_longest_44 ?_
                  refine lv_icmp_ge (tgt := 139) hx hb dX5_longest_47 (by decide) (fun c_7 => ?_) (fun c_7 => ?_)
                  · have i_7 : m_n.toInt ≤ i.toInt := kc_le c_7
                    refine lv_iload hx hb dX5_longest_139 (lv_at hl 7 rfl) ?_
                    refine lv_if_ne (tgt := 149) hx hb dX5_longest_141 (by decide) (fun c_8 => ?_) (fun c_8 => ?_)
                    · have i_8 : ¬ p3.toInt = 0 := kc_ne c_8
                      refine lv_iload hx hb dX5_longest_149 (lv_at hl 1 rfl) ?_
                      have hP9 := hP
                      have hD9 := hD
                      have hK9 := hK
                      exact W.iret (v := br) hx hb hr (hlocks := hlocks) (fun t ht hW => ⟨⟨br, (), rfl, trivial, by rw [ht]; exact hP9, va_K.moved hW.alike hK9, hD9⟩, hS.F ht⟩) hS.2.2 dX5_longest_151
                    · have i_8 : p3.toInt = 0 := kc_eq c_8
                      refine lv_iload hx hb dX5_longest_144 (lv_at hl 2 rfl) ?_
                      refine lv_goto (tgt := 151) hx hb dX5_longest_146 (by decide) ?_
                      have hP9 := hP
                      have hD9 := hD
                      have hK9 := hK
                      exact W.iret (v := bl) hx hb hr (hlocks := hlocks) (fun t ht hW => ⟨⟨bl, (), rfl, trivial, by rw [ht]; exact hP9, va_K.moved hW.alike hK9, hD9⟩, hS.F ht⟩) hS.2.2 dX5_longest_151
                  · have i_7 : i.toInt < m_n.toInt := kc_nle c_7
                    refine lv_iconst (v := 0) hx hb dX5_longest_50 (by decide) ?_
                    refine lv_istore (lv' := [(8, .int 0), (7, .int i), (6, .int br), (5, .int bl), (0, .ref h0), (1, .int p0), (2, .int p1), (3, .int p2), (4, .int p3)]) hx hb dX5_longest_51 hl (by decide) rfl (fun ls hl => ?_)
                    refine lv_iload hx hb dX5_longest_53 (lv_at hl 1 rfl) ?_
                    refine lv_iconst (v := 1) hx hb dX5_longest_55 (by decide) ?_
                    refine lv_iadd hx hb dX5_longest_56 ?_
                    refine lv_topi (fun y_9 ey_9 => ?_)
                    have i_9 : y_9.toInt = i.toInt + 1 := ki_add ey_9 rfl rfl (om_13 LP1_h0) (om_3 a1 i_7)
                    refine lv_istore (lv' := [(9, .int y_9), (8, .int 0), (7, .int i), (6, .int br), (5, .int bl), (0, .ref h0), (1, .int p0), (2, .int p1), (3, .int p2), (4, .int p3)]) hx hb dX5_longest_57 hl (by decide) rfl (fun ls hl => ?_)
                    have LP2 : ∀ (n : Nat) (j : Int32) (of : Int32) (bl2 : Int32) (br2 : Int32), (1 ≤ j.toInt) → (m_n.toInt + 1 - j.toInt).toNat < n → ∀ (H : Heap) (locs : List Loc), va_P (dC, dI) vwCl [kx_5 h0 g_row m_n m_slots 0 g_many g_loss g_less g_voteValue g_voteNumber g_allValue g_allNumber m_allMany g_nodeL g_nodeR m_nodes g_part m_partMany g_wasMany g_wasLoss g_wasValue g_wasNumber g_path m_pathMany g_heavyValue g_heavyTimes m_heavyMany g_fewest g_which g_met m_mostMet, kx_a g_row cyI 160 f] H → va_D A [kx_5 h0 g_row m_n m_slots 0 g_many g_loss g_less g_voteValue g_voteNumber g_allValue g_allNumber m_allMany g_nodeL g_nodeR m_nodes g_part m_partMany g_wasMany g_wasLoss g_wasValue g_wasNumber g_path m_pathMany g_heavyValue g_heavyTimes m_heavyMany g_fewest g_which g_met m_mostMet, kx_a g_row cyI 160 f] → va_S A s.heap H locs → ∀ (ls : Array Slot), lv_has ls 10 [(9, .int j), (8, .int of), (7, .int i), (6, .int br2), (5, .int bl2), (0, .ref h0), (1, .int p0), (2, .int p1), (3, .int p2), (4, .int p3)] → W p l e (headSpec wsX5_longest ({ frames := 2, cells := 0, slots := 0, locals := 90 })).room s m ([.ref h0, .int p0, .int p1, .int p2, .int p3] : List Value).toArray below meth c H locs 0 0 (MQ below (va_Qi (fun (r : Int32) (_ : Unit) => True) (fun (_ : Unit) (t : State) => va_P (dC, dI) vwCl [kx_5 h0 g_row m_n m_slots 0 g_many g_loss g_less g_voteValue g_voteNumber g_allValue g_allNumber m_allMany g_nodeL g_nodeR m_nodes g_part m_partMany g_wasMany g_wasLoss g_wasValue g_wasNumber g_path m_pathMany g_heavyValue g_heavyTimes m_heavyMany g_fewest g_which g_met m_mostMet, kx_a g_row cyI 160 f] t.heap ∧ va_K (dC, dI) vwCl [(cyI, .int)] t ∧ va_D A [kx_5 h0 g_row m_n m_slots 0 g_many g_loss g_less g_voteValue g_voteNumber g_allValue g_allNumber m_allMany g_nodeL g_nodeR m_nodes g_part m_partMany g_wasMany g_wasLoss g_wasValue g_wasNumber g_path m_pathMany g_heavyValue g_heavyTimes m_heavyMany g_fewest g_which g_met m_mostMet, kx_a g_row cyI 160 f]) A) ([.ref h0, .int p0, .int p1, .int p2, .int p3] : List Value).toArray s 0 0 A) (F0 m 59 ls []) := by
                      intro n
                      induction n with
                      | zero => intro j of bl2 br2 LP2_h0 hn; exact absurd hn (Nat.not_lt_zero _)
                      | succ n ih2 =>
                        intro j of bl2 br2 LP2_h0 hn2 H locs hP hD hS ls hl
                        refine lv_iload hx hb dX5_longest_59 (lv_at hl 0 rfl) ?_
                        refine lv_aload_n hx hb dX5_longest_61 rfl (lv_at hl 5 rfl) ?_
                        refine va_get (D := (dC, dI)) (ci := 5) (v := .int m_n) (C := RX5) (T := TX5) (N := 30) hx hb hts hi_5 hown hK hP 0 rfl rfl 1 (by decide) hf_84 (fun _ h9 => h9) rfl dX5_longest_62 ?_
                        refine lv_icmp_gt (tgt := 133) hx hb dX5_longest_65 (by decide) (fun c_10 => ?_) (fun c_10 => ?_)
                        · have i_10 : m_n.toInt < j.toInt := kc_lt c_10
                          obtain ⟨x_11, ex_11⟩ : ∃ y : Int32, y = i + 1 := ⟨_, rfl⟩
                          have i_11 : x_11.toInt = i.toInt + 1 := ki_add ex_11 rfl rfl (om_13 LP1_h0) (om_3 a1 i_7)
                          refine lv_iinc (v := x_11) (lv' := [(7, .int x_11), (9, .int j), (8, .int of), (6, .int br2), (5, .int bl2), (0, .ref h0), (1, .int p0), (2, .int p1), (3, .int p2), (4, .int p3)]) hx hb dX5_longest_133 hl (k := 2) rfl (by rw [ex_11]; rfl) (by decide) rfl (fun ls hl => ?_)
                          refine lv_goto (tgt := 41) hx hb dX5_longest_136 (by decide) ?_
                          exact ih1 x_11 bl2 br2 (om_34 LP1_h0 i_11) (om_mu hn1 (om_5 i_11) (om_6 i_7)) _ _ hP hD hS ls (lv_sub hl [0, 3, 4, 5, 6, 7, 8, 9] rfl)
                        · have i_10 : j.toInt ≤ m_n.toInt := kc_nlt c_10
                          refine lv_aload_n hx hb dX5_longest_68 rfl (lv_at hl 5 rfl) ?_
                          refine va_get (D := (dC, dI)) (ci := 5) (v := .ref g_row) (C := RX5) (T := TX5) (N := 30) hx hb hts hi_5 hown hK hP 0 rfl rfl 0 (by decide) hf_7 (fun _ h9 => h9) rfl dX5_longest_69 ?_
                          refine lv_iload hx hb dX5_longest_72 (lv_at hl 0 rfl) ?_
                          refine lv_iconst (v := 1) hx hb dX5_longest_74 (by decide) ?_
                          refine lv_isub hx hb dX5_longest_75 ?_
                          refine lv_topi (fun y_12 ey_12 => ?_)
                          have i_12 : y_12.toInt = j.toInt - 1 := ki_sub ey_12 rfl rfl (om_182 LP2_h0) (om_183 a1 i_10)
                          refine va_iald hx hb hK hP 1 0 rfl rfl (ki_in (om_237 LP2_h0 i_12) (om_232 a1 i_10 i_12)) dX5_longest_76 ?_
                          refine lv_topi (fun y_13 ey_13 => ?_)
                          have j_13 : y_13.toInt = (f y_12.toNatClampNeg).toInt := congrArg Int32.toInt ey_13
                          refine lv_iload_n hx hb dX5_longest_77 rfl (lv_at hl 6 rfl) ?_
                          refine lv_icmp_ne (tgt := 84) hx hb dX5_longest_78 (by decide) (fun c_14 => ?_) (fun c_14 => ?_)
                          · have i_14 : ¬ y_13.toInt = p0.toInt := kc_ne c_14
                            refine lv_iload hx hb dX5_longest_84 (lv_at hl 1 rfl) ?_
                            refine lv_iload_n hx hb dX5_longest_86 rfl (lv_at hl 8 rfl) ?_
                            refine lv_imul hx hb dX5_longest_87 ?_
                            refine lv_topi (fun y_15 ey_15 => ?_)
                            refine lv_iload_n hx hb dX5_longest_88 rfl (lv_at hl 7 rfl) ?_
                            refine lv_iload hx hb dX5_longest_89 (lv_at hl 0 rfl) ?_
                            refine lv_iload hx hb dX5_longest_91 (lv_at hl 2 rfl) ?_
                            refine lv_isub hx hb dX5_longest_93 ?_
                            refine lv_topi (fun y_16 ey_16 => ?_)
                            refine lv_imul hx hb dX5_longest_94 ?_
                            refine lv_topi (fun y_17 ey_17 => ?_)
                            refine lv_icmp_le (tgt := 127) hx hb dX5_longest_95 (by decide) (fun c_18 => ?_) (fun c_18 => ?_)
                            · have i_18 : y_15.toInt ≤ y_17.toInt := kc_le c_18
                              obtain ⟨x_19, ex_19⟩ : ∃ y : Int32, y = j + 1 := ⟨_, rfl⟩
                              have i_19 : x_19.toInt = j.toInt + 1 := ki_add ex_19 rfl rfl (om_40 LP2_h0) (om_238 a1 i_10)
                              refine lv_iinc (v := x_19) (lv' := [(9, .int x_19), (8, .int of), (7, .int i), (6, .int br2), (5, .int bl2), (0, .ref h0), (1, .int p0), (2, .int p1), (3, .int p2), (4, .int p3)]) hx hb dX5_longest_127 hl (k := 0) rfl (by rw [ex_19]; rfl) (by decide) rfl (fun ls hl => ?_)
                              refine lv_goto (tgt := 59) hx hb dX5_longest_130 (by decide) ?_
                              exact ih2 x_19 of bl2 br2 (om_41 LP2_h0 i_19) (om_mu hn2 (om_239 i_19) (om_240 i_10)) _ _ hP hD hS ls (lv_sub hl [0, 1, 2, 3, 4, 5, 6, 7, 8, 9] rfl)
                            · have i_18 : y_17.toInt < y_15.toInt := kc_nle c_18
                              refine lv_iload hx hb dX5_longest_98 (lv_at hl 4 rfl) ?_
                              refine lv_if_lt (tgt := 119) hx hb dX5_longest_100 (by decide) (fun c_20 => ?_) (fun c_20 => ?_)
                              · have i_20 : bl2.toInt < 0 := kc_lt c_20
                                refine lv_iload hx hb dX5_longest_119 (lv_at hl 2 rfl) ?_
                                refine lv_istore (lv' := [(5, .int i), (9, .int j), (8, .int of), (7, .int i), (6, .int br2), (0, .ref h0), (1, .int p0), (2, .int p1), (3, .int p2), (4, .int p3)]) hx hb dX5_longest_121 hl (by decide) rfl (fun ls hl => ?_)
                                refine lv_iload hx hb dX5_longest_123 (lv_at hl 1 rfl) ?_
                                refine lv_istore (lv' := [(6, .int j), (5, .int i), (9, .int j), (8, .int of), (7, .int i), (0, .ref h0), (1, .int p0), (2, .int p1), (3, .int p2), (4, .int p3)]) hx hb dX5_longest_125 hl (by decide) rfl (fun ls hl => ?_)
                                obtain ⟨x_21, ex_21⟩ : ∃ y : Int32, y = j + 1 := ⟨_, rfl⟩
                                have i_21 : x_21.toInt = j.toInt + 1 := ki_add ex_21 rfl rfl (om_40 LP2_h0) (om_238 a1 i_10)
                                refine lv_iinc (v := x_21) (lv' := [(9, .int x_21), (6, .int j), (5, .int i), (8, .int of), (7, .int i), (0, .ref h0), (1, .int p0), (2, .int p1), (3, .int p2), (4, .int p3)]) hx hb dX5_longest_127 hl (k := 2) rfl (by rw [ex_21]; rfl) (by decide) rfl (fun ls hl => ?_)
                                refine lv_goto (tgt := 59) hx hb dX5_longest_130 (by decide) ?_
                                exact ih2 x_21 of i j (om_41 LP2_h0 i_21) (om_mu hn2 (om_239 i_21) (om_240 i_10)) _ _ hP hD hS ls (lv_sub hl [0, 3, 4, 1, 2, 5, 6, 7, 8, 9] rfl)
                              · have i_20 : 0 ≤ bl2.toInt := kc_nlt c_20
                                refine lv_iload hx hb dX5_longest_103 (lv_at hl 0 rfl) ?_
                                refine lv_iload hx hb dX5_longest_105 (lv_at hl 2 rfl) ?_
                                refine lv_isub hx hb dX5_longest_107 ?_
                                refine lv_topi (fun y_22 ey_22 => ?_)
                                refine lv_iload hx hb dX5_longest_108 (lv_at hl 3 rfl) ?_
                                refine lv_iload hx hb dX5_longest_110 (lv_at hl 4 rfl) ?_
                                refine lv_isub hx hb dX5_longest_112 ?_
                                refine lv_topi (fun y_23 ey_23 => ?_)
                                refine lv_icmp_gt (tgt := 119) hx hb dX5_longest_113 (by decide) (fun c_24 => ?_) (fun c_24 => ?_)
                                · have i_24 : y_23.toInt < y_22.toInt := kc_lt c_24
                                  refine lv_iload hx hb dX5_longest_119 (lv_at hl 2 rfl) ?_
                                  refine lv_istore (lv' := [(5, .int i), (9, .int j), (8, .int of), (7, .int i), (6, .int br2), (0, .ref h0), (1, .int p0), (2, .int p1), (3, .int p2), (4, .int p3)]) hx hb dX5_longest_121 hl (by decide) rfl (fun ls hl => ?_)
                                  refine lv_iload hx hb dX5_longest_123 (lv_at hl 1 rfl) ?_
                                  refine lv_istore (lv' := [(6, .int j), (5, .int i), (9, .int j), (8, .int of), (7, .int i), (0, .ref h0), (1, .int p0), (2, .int p1), (3, .int p2), (4, .int p3)]) hx hb dX5_longest_125 hl (by decide) rfl (fun ls hl => ?_)
                                  obtain ⟨x_25, ex_25⟩ : ∃ y : Int32, y = j + 1 := ⟨_, rfl⟩
                                  have i_25 : x_25.toInt = j.toInt + 1 := ki_add ex_25 rfl rfl (om_40 LP2_h0) (om_238 a1 i_10)
                                  refine lv_iinc (v := x_25) (lv' := [(9, .int x_25), (6, .int j), (5, .int i), (8, .int of), (7, .int i), (0, .ref h0), (1, .int p0), (2, .int p1), (3, .int p2), (4, .int p3)]) hx hb dX5_longest_127 hl (k := 2) rfl (by rw [ex_25]; rfl) (by decide) rfl (fun ls hl => ?_)
                                  refine lv_goto (tgt := 59) hx hb dX5_longest_130 (by decide) ?_
                                  exact ih2 x_25 of i j (om_41 LP2_h0 i_25) (om_mu hn2 (om_239 i_25) (om_240 i_10)) _ _ hP hD hS ls (lv_sub hl [0, 3, 4, 1, 2, 5, 6, 7, 8, 9] rfl)
                                · have i_24 : y_22.toInt ≤ y_23.toInt := kc_nlt c_24
                                  refine lv_goto (tgt := 127) hx hb dX5_longest_116 (by decide) ?_
                                  obtain ⟨x_26, ex_26⟩ : ∃ y : Int32, y = j + 1 := ⟨_, rfl⟩
                                  have i_26 : x_26.toInt = j.toInt + 1 := ki_add ex_26 rfl rfl (om_40 LP2_h0) (om_238 a1 i_10)
                                  refine lv_iinc (v := x_26) (lv' := [(9, .int x_26), (8, .int of), (7, .int i), (6, .int br2), (5, .int bl2), (0, .ref h0), (1, .int p0), (2, .int p1), (3, .int p2), (4, .int p3)]) hx hb dX5_longest_127 hl (k := 0) rfl (by rw [ex_26]; rfl) (by decide) rfl (fun ls hl => ?_)
                                  refine lv_goto (tgt := 59) hx hb dX5_longest_130 (by decide) ?_
                                  exact ih2 x_26 of bl2 br2 (om_41 LP2_h0 i_26) (om_mu hn2 (om_239 i_26) (om_240 i_10)) _ _ hP hD hS ls (lv_sub hl [0, 1, 2, 3, 4, 5, 6, 7, 8, 9] rfl)
                          · have i_14 : y_13.toInt = p0.toInt := kc_eq c_14
                            obtain ⟨x_27, ex_27⟩ : ∃ y : Int32, y = of + 1 := ⟨_, rfl⟩
                            refine lv_iinc (v := x_27) (lv' := [(8, .int x_27), (9, .int j), (7, .int i), (6, .int br2), (5, .int bl2), (0, .ref h0), (1, .int p0), (2, .int p1), (3, .int p2), (4, .int p3)]) hx hb dX5_longest_81 hl (k := 1) rfl (by rw [ex_27]; rfl) (by decide) rfl (fun ls hl => ?_)
                            refine lv_iload hx hb dX5_longest_84 (lv_at hl 0 rfl) ?_
                            refine lv_iload_n hx hb dX5_longest_86 rfl (lv_at hl 8 rfl) ?_
                            refine lv_imul hx hb dX5_longest_87 ?_
                            refine lv_topi (fun y_28 ey_28 => ?_)
                            refine lv_iload_n hx hb dX5_longest_88 rfl (lv_at hl 7 rfl) ?_
                            refine lv_iload hx hb dX5_longest_89 (lv_at hl 1 rfl) ?_
                            refine lv_iload hx hb dX5_longest_91 (lv_at hl 2 rfl) ?_
                            refine lv_isub hx hb dX5_longest_93 ?_
                            refine lv_topi (fun y_29 ey_29 => ?_)
                            refine lv_imul hx hb dX5_longest_94 ?_
                            refine lv_topi (fun y_30 ey_30 => ?_)
                            refine lv_icmp_le (tgt := 127) hx hb dX5_longest_95 (by decide) (fun c_31 => ?_) (fun c_31 => ?_)
                            · have i_31 : y_28.toInt ≤ y_30.toInt := kc_le c_31
                              obtain ⟨x_32, ex_32⟩ : ∃ y : Int32, y = j + 1 := ⟨_, rfl⟩
                              have i_32 : x_32.toInt = j.toInt + 1 := ki_add ex_32 rfl rfl (om_40 LP2_h0) (om_238 a1 i_10)
                              refine lv_iinc (v := x_32) (lv' := [(9, .int x_32), (8, .int x_27), (7, .int i), (6, .int br2), (5, .int bl2), (0, .ref h0), (1, .int p0), (2, .int p1), (3, .int p2), (4, .int p3)]) hx hb dX5_longest_127 hl (k := 1) rfl (by rw [ex_32]; rfl) (by decide) rfl (fun ls hl => ?_)
                              refine lv_goto (tgt := 59) hx hb dX5_longest_130 (by decide) ?_
                              exact ih2 x_32 x_27 bl2 br2 (om_41 LP2_h0 i_32) (om_mu hn2 (om_239 i_32) (om_240 i_10)) _ _ hP hD hS ls (lv_sub hl [0, 1, 2, 3, 4, 5, 6, 7, 8, 9] rfl)
                            · have i_31 : y_30.toInt < y_28.toInt := kc_nle c_31
                              refine lv_iload hx hb dX5_longest_98 (lv_at hl 4 rfl) ?_
                              refine lv_if_lt (tgt := 119) hx hb dX5_longest_100 (by decide) (fun c_33 => ?_) (fun c_33 => ?_)
                              · have i_33 : bl2.toInt < 0 := kc_lt c_33
                                refine lv_iload hx hb dX5_longest_119 (lv_at hl 2 rfl) ?_
                                refine lv_istore (lv' := [(5, .int i), (8, .int x_27), (9, .int j), (7, .int i), (6, .int br2), (0, .ref h0), (1, .int p0), (2, .int p1), (3, .int p2), (4, .int p3)]) hx hb dX5_longest_121 hl (by decide) rfl (fun ls hl => ?_)
                                refine lv_iload hx hb dX5_longest_123 (lv_at hl 2 rfl) ?_
                                refine lv_istore (lv' := [(6, .int j), (5, .int i), (8, .int x_27), (9, .int j), (7, .int i), (0, .ref h0), (1, .int p0), (2, .int p1), (3, .int p2), (4, .int p3)]) hx hb dX5_longest_125 hl (by decide) rfl (fun ls hl => ?_)
                                obtain ⟨x_34, ex_34⟩ : ∃ y : Int32, y = j + 1 := ⟨_, rfl⟩
                                have i_34 : x_34.toInt = j.toInt + 1 := ki_add ex_34 rfl rfl (om_40 LP2_h0) (om_238 a1 i_10)
                                refine lv_iinc (v := x_34) (lv' := [(9, .int x_34), (6, .int j), (5, .int i), (8, .int x_27), (7, .int i), (0, .ref h0), (1, .int p0), (2, .int p1), (3, .int p2), (4, .int p3)]) hx hb dX5_longest_127 hl (k := 3) rfl (by rw [ex_34]; rfl) (by decide) rfl (fun ls hl => ?_)
                                refine lv_goto (tgt := 59) hx hb dX5_longest_130 (by decide) ?_
                                exact ih2 x_34 x_27 i j (om_41 LP2_h0 i_34) (om_mu hn2 (om_239 i_34) (om_240 i_10)) _ _ hP hD hS ls (lv_sub hl [0, 3, 4, 1, 2, 5, 6, 7, 8, 9] rfl)
                              · have i_33 : 0 ≤ bl2.toInt := kc_nlt c_33
                                refine lv_iload hx hb dX5_longest_103 (lv_at hl 1 rfl) ?_
                                refine lv_iload hx hb dX5_longest_105 (lv_at hl 2 rfl) ?_
                                refine lv_isub hx hb dX5_longest_107 ?_
                                refine lv_topi (fun y_35 ey_35 => ?_)
                                refine lv_iload hx hb dX5_longest_108 (lv_at hl 3 rfl) ?_
                                refine lv_iload hx hb dX5_longest_110 (lv_at hl 4 rfl) ?_
                                refine lv_isub hx hb dX5_longest_112 ?_
                                refine lv_topi (fun y_36 ey_36 => ?_)
                                refine lv_icmp_gt (tgt := 119) hx hb dX5_longest_113 (by decide) (fun c_37 => ?_) (fun c_37 => ?_)
                                · have i_37 : y_36.toInt < y_35.toInt := kc_lt c_37
                                  refine lv_iload hx hb dX5_longest_119 (lv_at hl 2 rfl) ?_
                                  refine lv_istore (lv' := [(5, .int i), (8, .int x_27), (9, .int j), (7, .int i), (6, .int br2), (0, .ref h0), (1, .int p0), (2, .int p1), (3, .int p2), (4, .int p3)]) hx hb dX5_longest_121 hl (by decide) rfl (fun ls hl => ?_)
                                  refine lv_iload hx hb dX5_longest_123 (lv_at hl 2 rfl) ?_
                                  refine lv_istore (lv' := [(6, .int j), (5, .int i), (8, .int x_27), (9, .int j), (7, .int i), (0, .ref h0), (1, .int p0), (2, .int p1), (3, .int p2), (4, .int p3)]) hx hb dX5_longest_125 hl (by decide) rfl (fun ls hl => ?_)
                                  obtain ⟨x_38, ex_38⟩ : ∃ y : Int32, y = j + 1 := ⟨_, rfl⟩
                                  have i_38 : x_38.toInt = j.toInt + 1 := ki_add ex_38 rfl rfl (om_40 LP2_h0) (om_238 a1 i_10)
                                  refine lv_iinc (v := x_38) (lv' := [(9, .int x_38), (6, .int j), (5, .int i), (8, .int x_27), (7, .int i), (0, .ref h0), (1, .int p0), (2, .int p1), (3, .int p2), (4, .int p3)]) hx hb dX5_longest_127 hl (k := 3) rfl (by rw [ex_38]; rfl) (by decide) rfl (fun ls hl => ?_)
                                  refine lv_goto (tgt := 59) hx hb dX5_longest_130 (by decide) ?_
                                  exact ih2 x_38 x_27 i j (om_41 LP2_h0 i_38) (om_mu hn2 (om_239 i_38) (om_240 i_10)) _ _ hP hD hS ls (lv_sub hl [0, 3, 4, 1, 2, 5, 6, 7, 8, 9] rfl)
                                · have i_37 : y_35.toInt ≤ y_36.toInt := kc_nlt c_37
                                  refine lv_goto (tgt := 127) hx hb dX5_longest_116 (by decide) ?_
                                  obtain ⟨x_39, ex_39⟩ : ∃ y : Int32, y = j + 1 := ⟨_, rfl⟩
                                  have i_39 : x_39.toInt = j.toInt + 1 := ki_add ex_39 rfl rfl (om_40 LP2_h0) (om_238 a1 i_10)
                                  refine lv_iinc (v := x_39) (lv' := [(9, .int x_39), (8, .int x_27), (7, .int i), (6, .int br2), (5, .int bl2), (0, .ref h0), (1, .int p0), (2, .int p1), (3, .int p2), (4, .int p3)]) hx hb dX5_longest_127 hl (k := 1) rfl (by rw [ex_39]; rfl) (by decide) rfl (fun ls hl => ?_)
                                  refine lv_goto (tgt := 59) hx hb dX5_longest_130 (by decide) ?_
                                  exact ih2 x_39 x_27 bl2 br2 (om_41 LP2_h0 i_39) (om_mu hn2 (om_239 i_39) (om_240 i_10)) _ _ hP hD hS ls (lv_sub hl [0, 1, 2, 3, 4, 5, 6, 7, 8, 9] rfl)
                    have k_40 : (0 : Int32).toInt = 0 := rfl
                    exact LP2 ((m_n.toInt + 1 - y_9.toInt : Int).toNat + 1) y_9 0 bl br (om_241 LP1_h0 i_9) (Nat.lt_succ_self _) _ _ hP hD hS ls (lv_sub hl [0, 1, 2, 3, 4, 5, 6, 7, 8, 9] rfl)
              have k_41 : (0 : Int32).toInt = 0 := rfl
              have k_42 : ((-1) : Int32).toInt = -1 := rfl
              have k_43 : ((-1) : Int32).toInt = -1 := rfl
              exact LP1 ((m_n.toInt - 0 : Int).toNat + 1) 0 (-1) (-1) om_35 (Nat.lt_succ_self _) _ _ hP hD hS ls (lv_sub hl [0, 1, 2, 3, 4, 5, 6, 7] rfl)
            · exact absurd c_6 (by decide)
          · have w_5 : (p3.toInt < 0 ∨ 1 < p3.toInt) := w_5
            refine lv_if_ne (tgt := 32) hx hb dX5_longest_27 (by decide) (fun c_44 => ?_) (fun c_44 => ?_)
            · exact absurd c_44 (by decide)
            · refine lv_iconst (v := (-1)) hx hb dX5_longest_30 (by decide) ?_
              have hP9 := hP
              have hD9 := hD
              have hK9 := hK
              exact W.iret (v := (-1)) hx hb hr (hlocks := hlocks) (fun t ht hW => ⟨⟨(-1), (), rfl, trivial, by rw [ht]; exact hP9, va_K.moved hW.alike hK9, hD9⟩, hS.F ht⟩) hS.2.2 dX5_longest_31
      · have w_3 : (p1.toInt < 1 ∨ p2.toInt < p1.toInt ∨ 999 < p2.toInt) := w_3
        refine lv_if_eq (tgt := 30) hx hb dX5_longest_17 (by decide) (fun c_45 => ?_) (fun c_45 => ?_)
        · refine lv_iconst (v := (-1)) hx hb dX5_longest_30 (by decide) ?_
          have hP9 := hP
          have hD9 := hD
          have hK9 := hK
          exact W.iret (v := (-1)) hx hb hr (hlocks := hlocks) (fun t ht hW => ⟨⟨(-1), (), rfl, trivial, by rw [ht]; exact hP9, va_K.moved hW.alike hK9, hD9⟩, hS.F ht⟩) hS.2.2 dX5_longest_31
        · exact absurd c_45 (by decide)
  · have w_1 : (p0.toInt < -32768 ∨ 32767 < p0.toInt) := w_1
    refine lv_if_eq (tgt := 30) hx hb dX5_longest_9 (by decide) (fun c_46 => ?_) (fun c_46 => ?_)
    · refine lv_iconst (v := (-1)) hx hb dX5_longest_30 (by decide) ?_
      have hP9 := hP
      have hD9 := hD
      have hK9 := hK
      exact W.iret (v := (-1)) hx hb hr (hlocks := hlocks) (fun t ht hW => ⟨⟨(-1), (), rfl, trivial, by rw [ht]; exact hP9, va_K.moved hW.alike hK9, hD9⟩, hS.F ht⟩) hS.2.2 dX5_longest_31
    · exact absurd c_46 (by decide)



abbrev cX5_one : ByteArray := prog_7_method_8_code
def yX5_one : MethodName := ⟨RX5, "one", "(II)V"⟩
abbrev cX5_adds : ByteArray := prog_7_method_9_code
def yX5_adds : MethodName := ⟨RX5, "adds", "(II)V"⟩
abbrev cX5_isAhead : ByteArray := prog_7_method_10_code
def yX5_isAhead : MethodName := ⟨RX5, "isAhead", "(II)Z"⟩
abbrev cX5_nodeOf : ByteArray := prog_7_method_15_code
def yX5_nodeOf : MethodName := ⟨RX5, "nodeOf", "(II)I"⟩
abbrev cX5_copies : ByteArray := prog_7_method_18_code
def yX5_copies : MethodName := ⟨RX5, "copies", "(II)V"⟩
abbrev cX5_numberOf : ByteArray := prog_7_method_19_code
def yX5_numberOf : MethodName := ⟨RX5, "numberOf", "(II)I"⟩
abbrev cX5_numbersOf : ByteArray := prog_7_method_48_code
def yX5_numbersOf : MethodName := ⟨RX5, "numbersOf", "(I)I"⟩
def wsX5_one : List Cond := .code yX5_one cX5_one 3 none :: ([.fieldLink RX5 17 "MajorityIndexModel" "many" "[I", .fieldLink RX5 20 "MajorityIndexModel" "loss" "[I", .fieldLink RX5 23 "MajorityIndexModel" "less" "[I", .fieldLink RX5 26 "MajorityIndexModel" "voteValue" "[I", .fieldLink RX5 29 "MajorityIndexModel" "voteNumber" "[I"] ++ wsX50)
def wsX5_adds : List Cond := .code yX5_adds cX5_adds 4 none :: ([.fieldLink RX5 87 "MajorityIndexModel" "allMany" "I", .fieldLink RX5 32 "MajorityIndexModel" "allValue" "[I", .fieldLink RX5 35 "MajorityIndexModel" "allNumber" "[I"] ++ wsX50)
def wsX5_isAhead : List Cond := .code yX5_isAhead cX5_isAhead 3 (some .boolean) :: ([.fieldLink RX5 35 "MajorityIndexModel" "allNumber" "[I", .fieldLink RX5 32 "MajorityIndexModel" "allValue" "[I"] ++ wsX50)
def wsX5_nodeOf : List Cond := .code yX5_nodeOf cX5_nodeOf 4 (some .int) :: ([.fieldLink RX5 101 "MajorityIndexModel" "nodes" "I", .fieldLink RX5 38 "MajorityIndexModel" "nodeL" "[I", .fieldLink RX5 41 "MajorityIndexModel" "nodeR" "[I"] ++ wsX50)
def wsX5_copies : List Cond := .code yX5_copies cX5_copies 4 none :: ([.fieldLink RX5 17 "MajorityIndexModel" "many" "[I", .fieldLink RX5 20 "MajorityIndexModel" "loss" "[I", .fieldLink RX5 23 "MajorityIndexModel" "less" "[I", .fieldLink RX5 26 "MajorityIndexModel" "voteValue" "[I", .fieldLink RX5 29 "MajorityIndexModel" "voteNumber" "[I"] ++ wsX50)
def wsX5_numberOf : List Cond := .code yX5_numberOf cX5_numberOf 4 (some .int) :: ([.fieldLink RX5 17 "MajorityIndexModel" "many" "[I", .fieldLink RX5 26 "MajorityIndexModel" "voteValue" "[I", .fieldLink RX5 29 "MajorityIndexModel" "voteNumber" "[I"] ++ wsX50)
def wsX5_numbersOf : List Cond := .code yX5_numbersOf cX5_numbersOf 4 (some .int) :: ([.fieldLink RX5 17 "MajorityIndexModel" "many" "[I", .fieldLink RX5 29 "MajorityIndexModel" "voteNumber" "[I"] ++ wsX50)
def dt_cX5_one_0 : List (Nat × Nat × Nat × Nat) := [(0, 42, 0, 0), (1, 180, 2, 17), (4, 27, 0, 0), (5, 4, 0, 0), (6, 79, 0, 0), (7, 42, 0, 0), (8, 180, 2, 20), (11, 27, 0, 0), (12, 3, 0, 0), (13, 79, 0, 0), (14, 42, 0, 0), (15, 180, 2, 23), (18, 27, 0, 0), (19, 3, 0, 0), (20, 79, 0, 0), (21, 42, 0, 0), (22, 180, 2, 26), (25, 16, 1, 6), (27, 27, 0, 0), (28, 104, 0, 0)]
theorem da_cX5_one_0 : fw dt_cX5_one_0 0 cX5_one.data.toList = true := by decide +kernel
theorem dX5_one_0 : decode cX5_one 0 = .ok (.aload_n 0, 1) := fo_42 (fw_get da_cX5_one_0 0 rfl)
theorem dX5_one_1 : decode cX5_one 1 = .ok (.getfield 17, 3) := fo_180 (fw_get da_cX5_one_0 1 rfl)
theorem dX5_one_4 : decode cX5_one 4 = .ok (.iload_n 1, 1) := fo_27 (fw_get da_cX5_one_0 2 rfl)
theorem dX5_one_5 : decode cX5_one 5 = .ok (.iconst 1, 1) := fo_4 (fw_get da_cX5_one_0 3 rfl)
theorem dX5_one_6 : decode cX5_one 6 = .ok (.iastore, 1) := fo_79 (fw_get da_cX5_one_0 4 rfl)
theorem dX5_one_7 : decode cX5_one 7 = .ok (.aload_n 0, 1) := fo_42 (fw_get da_cX5_one_0 5 rfl)
theorem dX5_one_8 : decode cX5_one 8 = .ok (.getfield 20, 3) := fo_180 (fw_get da_cX5_one_0 6 rfl)
theorem dX5_one_11 : decode cX5_one 11 = .ok (.iload_n 1, 1) := fo_27 (fw_get da_cX5_one_0 7 rfl)
theorem dX5_one_12 : decode cX5_one 12 = .ok (.iconst 0, 1) := fo_3 (fw_get da_cX5_one_0 8 rfl)
theorem dX5_one_13 : decode cX5_one 13 = .ok (.iastore, 1) := fo_79 (fw_get da_cX5_one_0 9 rfl)
theorem dX5_one_14 : decode cX5_one 14 = .ok (.aload_n 0, 1) := fo_42 (fw_get da_cX5_one_0 10 rfl)
theorem dX5_one_15 : decode cX5_one 15 = .ok (.getfield 23, 3) := fo_180 (fw_get da_cX5_one_0 11 rfl)
theorem dX5_one_18 : decode cX5_one 18 = .ok (.iload_n 1, 1) := fo_27 (fw_get da_cX5_one_0 12 rfl)
theorem dX5_one_19 : decode cX5_one 19 = .ok (.iconst 0, 1) := fo_3 (fw_get da_cX5_one_0 13 rfl)
theorem dX5_one_20 : decode cX5_one 20 = .ok (.iastore, 1) := fo_79 (fw_get da_cX5_one_0 14 rfl)
theorem dX5_one_21 : decode cX5_one 21 = .ok (.aload_n 0, 1) := fo_42 (fw_get da_cX5_one_0 15 rfl)
theorem dX5_one_22 : decode cX5_one 22 = .ok (.getfield 26, 3) := fo_180 (fw_get da_cX5_one_0 16 rfl)
theorem dX5_one_25 : decode cX5_one 25 = .ok (.bipush 6, 2) := fo_16 (fw_get da_cX5_one_0 17 rfl) (by decide +kernel)
theorem dX5_one_27 : decode cX5_one 27 = .ok (.iload_n 1, 1) := fo_27 (fw_get da_cX5_one_0 18 rfl)
theorem dX5_one_28 : decode cX5_one 28 = .ok (.imul, 1) := fo_104 (fw_get da_cX5_one_0 19 rfl)
def dt_cX5_one_1 : List (Nat × Nat × Nat × Nat) := [(29, 28, 0, 0), (30, 79, 0, 0), (31, 42, 0, 0), (32, 180, 2, 29), (35, 16, 1, 6), (37, 27, 0, 0), (38, 104, 0, 0), (39, 4, 0, 0), (40, 79, 0, 0), (41, 177, 0, 0)]
theorem da_cX5_one_1 : fw dt_cX5_one_1 0 cX5_one.data.toList = true := by decide +kernel
theorem dX5_one_29 : decode cX5_one 29 = .ok (.iload_n 2, 1) := fo_28 (fw_get da_cX5_one_1 0 rfl)
theorem dX5_one_30 : decode cX5_one 30 = .ok (.iastore, 1) := fo_79 (fw_get da_cX5_one_1 1 rfl)
theorem dX5_one_31 : decode cX5_one 31 = .ok (.aload_n 0, 1) := fo_42 (fw_get da_cX5_one_1 2 rfl)
theorem dX5_one_32 : decode cX5_one 32 = .ok (.getfield 29, 3) := fo_180 (fw_get da_cX5_one_1 3 rfl)
theorem dX5_one_35 : decode cX5_one 35 = .ok (.bipush 6, 2) := fo_16 (fw_get da_cX5_one_1 4 rfl) (by decide +kernel)
theorem dX5_one_37 : decode cX5_one 37 = .ok (.iload_n 1, 1) := fo_27 (fw_get da_cX5_one_1 5 rfl)
theorem dX5_one_38 : decode cX5_one 38 = .ok (.imul, 1) := fo_104 (fw_get da_cX5_one_1 6 rfl)
theorem dX5_one_39 : decode cX5_one 39 = .ok (.iconst 1, 1) := fo_4 (fw_get da_cX5_one_1 7 rfl)
theorem dX5_one_40 : decode cX5_one 40 = .ok (.iastore, 1) := fo_79 (fw_get da_cX5_one_1 8 rfl)
theorem dX5_one_41 : decode cX5_one 41 = .ok (.return_, 1) := fo_177 (fw_get da_cX5_one_1 9 rfl)
def dt_cX5_adds_0 : List (Nat × Nat × Nat × Nat) := [(0, 3, 0, 0), (1, 62, 0, 0), (2, 29, 0, 0), (3, 42, 0, 0), (4, 180, 2, 87), (7, 162, 2, 33), (10, 42, 0, 0), (11, 180, 2, 32), (14, 29, 0, 0), (15, 46, 0, 0), (16, 27, 0, 0), (17, 159, 2, 6), (20, 167, 2, 14), (23, 42, 0, 0), (24, 180, 2, 35), (27, 29, 0, 0), (28, 92, 0, 0), (29, 46, 0, 0), (30, 28, 0, 0), (31, 96, 0, 0)]
theorem da_cX5_adds_0 : fw dt_cX5_adds_0 0 cX5_adds.data.toList = true := by decide +kernel
theorem dX5_adds_0 : decode cX5_adds 0 = .ok (.iconst 0, 1) := fo_3 (fw_get da_cX5_adds_0 0 rfl)
theorem dX5_adds_1 : decode cX5_adds 1 = .ok (.istore_n 3, 1) := fo_62 (fw_get da_cX5_adds_0 1 rfl)
theorem dX5_adds_2 : decode cX5_adds 2 = .ok (.iload_n 3, 1) := fo_29 (fw_get da_cX5_adds_0 2 rfl)
theorem dX5_adds_3 : decode cX5_adds 3 = .ok (.aload_n 0, 1) := fo_42 (fw_get da_cX5_adds_0 3 rfl)
theorem dX5_adds_4 : decode cX5_adds 4 = .ok (.getfield 87, 3) := fo_180 (fw_get da_cX5_adds_0 4 rfl)
theorem dX5_adds_7 : decode cX5_adds 7 = .ok (.if_icmp .ge 33, 3) := fo_162 (fw_get da_cX5_adds_0 5 rfl) (by decide +kernel)
theorem dX5_adds_10 : decode cX5_adds 10 = .ok (.aload_n 0, 1) := fo_42 (fw_get da_cX5_adds_0 6 rfl)
theorem dX5_adds_11 : decode cX5_adds 11 = .ok (.getfield 32, 3) := fo_180 (fw_get da_cX5_adds_0 7 rfl)
theorem dX5_adds_14 : decode cX5_adds 14 = .ok (.iload_n 3, 1) := fo_29 (fw_get da_cX5_adds_0 8 rfl)
theorem dX5_adds_15 : decode cX5_adds 15 = .ok (.iaload, 1) := fo_46 (fw_get da_cX5_adds_0 9 rfl)
theorem dX5_adds_16 : decode cX5_adds 16 = .ok (.iload_n 1, 1) := fo_27 (fw_get da_cX5_adds_0 10 rfl)
theorem dX5_adds_17 : decode cX5_adds 17 = .ok (.if_icmp .eq 6, 3) := fo_159 (fw_get da_cX5_adds_0 11 rfl) (by decide +kernel)
theorem dX5_adds_20 : decode cX5_adds 20 = .ok (.goto 14, 3) := fo_167 (fw_get da_cX5_adds_0 12 rfl) (by decide +kernel)
theorem dX5_adds_23 : decode cX5_adds 23 = .ok (.aload_n 0, 1) := fo_42 (fw_get da_cX5_adds_0 13 rfl)
theorem dX5_adds_24 : decode cX5_adds 24 = .ok (.getfield 35, 3) := fo_180 (fw_get da_cX5_adds_0 14 rfl)
theorem dX5_adds_27 : decode cX5_adds 27 = .ok (.iload_n 3, 1) := fo_29 (fw_get da_cX5_adds_0 15 rfl)
theorem dX5_adds_28 : decode cX5_adds 28 = .ok (.dup2, 1) := fo_92 (fw_get da_cX5_adds_0 16 rfl)
theorem dX5_adds_29 : decode cX5_adds 29 = .ok (.iaload, 1) := fo_46 (fw_get da_cX5_adds_0 17 rfl)
theorem dX5_adds_30 : decode cX5_adds 30 = .ok (.iload_n 2, 1) := fo_28 (fw_get da_cX5_adds_0 18 rfl)
theorem dX5_adds_31 : decode cX5_adds 31 = .ok (.iadd, 1) := fo_96 (fw_get da_cX5_adds_0 19 rfl)
def dt_cX5_adds_1 : List (Nat × Nat × Nat × Nat) := [(32, 79, 0, 0), (33, 177, 0, 0), (34, 132, 2, 769), (37, 167, 2, 65501), (40, 42, 0, 0), (41, 180, 2, 32), (44, 42, 0, 0), (45, 180, 2, 87), (48, 27, 0, 0), (49, 79, 0, 0), (50, 42, 0, 0), (51, 180, 2, 35), (54, 42, 0, 0), (55, 180, 2, 87), (58, 28, 0, 0), (59, 79, 0, 0), (60, 42, 0, 0), (61, 89, 0, 0), (62, 180, 2, 87), (65, 4, 0, 0)]
theorem da_cX5_adds_1 : fw dt_cX5_adds_1 0 cX5_adds.data.toList = true := by decide +kernel
theorem dX5_adds_32 : decode cX5_adds 32 = .ok (.iastore, 1) := fo_79 (fw_get da_cX5_adds_1 0 rfl)
theorem dX5_adds_33 : decode cX5_adds 33 = .ok (.return_, 1) := fo_177 (fw_get da_cX5_adds_1 1 rfl)
theorem dX5_adds_34 : decode cX5_adds 34 = .ok (.iinc 3 1, 3) := fo_132 (fw_get da_cX5_adds_1 2 rfl) rfl (by decide +kernel)
theorem dX5_adds_37 : decode cX5_adds 37 = .ok (.goto (-35), 3) := fo_167 (fw_get da_cX5_adds_1 3 rfl) (by decide +kernel)
theorem dX5_adds_40 : decode cX5_adds 40 = .ok (.aload_n 0, 1) := fo_42 (fw_get da_cX5_adds_1 4 rfl)
theorem dX5_adds_41 : decode cX5_adds 41 = .ok (.getfield 32, 3) := fo_180 (fw_get da_cX5_adds_1 5 rfl)
theorem dX5_adds_44 : decode cX5_adds 44 = .ok (.aload_n 0, 1) := fo_42 (fw_get da_cX5_adds_1 6 rfl)
theorem dX5_adds_45 : decode cX5_adds 45 = .ok (.getfield 87, 3) := fo_180 (fw_get da_cX5_adds_1 7 rfl)
theorem dX5_adds_48 : decode cX5_adds 48 = .ok (.iload_n 1, 1) := fo_27 (fw_get da_cX5_adds_1 8 rfl)
theorem dX5_adds_49 : decode cX5_adds 49 = .ok (.iastore, 1) := fo_79 (fw_get da_cX5_adds_1 9 rfl)
theorem dX5_adds_50 : decode cX5_adds 50 = .ok (.aload_n 0, 1) := fo_42 (fw_get da_cX5_adds_1 10 rfl)
theorem dX5_adds_51 : decode cX5_adds 51 = .ok (.getfield 35, 3) := fo_180 (fw_get da_cX5_adds_1 11 rfl)
theorem dX5_adds_54 : decode cX5_adds 54 = .ok (.aload_n 0, 1) := fo_42 (fw_get da_cX5_adds_1 12 rfl)
theorem dX5_adds_55 : decode cX5_adds 55 = .ok (.getfield 87, 3) := fo_180 (fw_get da_cX5_adds_1 13 rfl)
theorem dX5_adds_58 : decode cX5_adds 58 = .ok (.iload_n 2, 1) := fo_28 (fw_get da_cX5_adds_1 14 rfl)
theorem dX5_adds_59 : decode cX5_adds 59 = .ok (.iastore, 1) := fo_79 (fw_get da_cX5_adds_1 15 rfl)
theorem dX5_adds_60 : decode cX5_adds 60 = .ok (.aload_n 0, 1) := fo_42 (fw_get da_cX5_adds_1 16 rfl)
theorem dX5_adds_61 : decode cX5_adds 61 = .ok (.dup, 1) := fo_89 (fw_get da_cX5_adds_1 17 rfl)
theorem dX5_adds_62 : decode cX5_adds 62 = .ok (.getfield 87, 3) := fo_180 (fw_get da_cX5_adds_1 18 rfl)
theorem dX5_adds_65 : decode cX5_adds 65 = .ok (.iconst 1, 1) := fo_4 (fw_get da_cX5_adds_1 19 rfl)
def dt_cX5_adds_2 : List (Nat × Nat × Nat × Nat) := [(66, 96, 0, 0), (67, 181, 2, 87), (70, 177, 0, 0)]
theorem da_cX5_adds_2 : fw dt_cX5_adds_2 0 cX5_adds.data.toList = true := by decide +kernel
theorem dX5_adds_66 : decode cX5_adds 66 = .ok (.iadd, 1) := fo_96 (fw_get da_cX5_adds_2 0 rfl)
theorem dX5_adds_67 : decode cX5_adds 67 = .ok (.putfield 87, 3) := fo_181 (fw_get da_cX5_adds_2 1 rfl)
theorem dX5_adds_70 : decode cX5_adds 70 = .ok (.return_, 1) := fo_177 (fw_get da_cX5_adds_2 2 rfl)
def dt_cX5_isAhead_0 : List (Nat × Nat × Nat × Nat) := [(0, 42, 0, 0), (1, 180, 2, 35), (4, 27, 0, 0), (5, 46, 0, 0), (6, 42, 0, 0), (7, 180, 2, 35), (10, 28, 0, 0), (11, 46, 0, 0), (12, 159, 2, 26), (15, 42, 0, 0), (16, 180, 2, 35), (19, 27, 0, 0), (20, 46, 0, 0), (21, 42, 0, 0), (22, 180, 2, 35), (25, 28, 0, 0), (26, 46, 0, 0), (27, 164, 2, 7), (30, 4, 0, 0), (31, 167, 2, 27)]
theorem da_cX5_isAhead_0 : fw dt_cX5_isAhead_0 0 cX5_isAhead.data.toList = true := by decide +kernel
theorem dX5_isAhead_0 : decode cX5_isAhead 0 = .ok (.aload_n 0, 1) := fo_42 (fw_get da_cX5_isAhead_0 0 rfl)
theorem dX5_isAhead_1 : decode cX5_isAhead 1 = .ok (.getfield 35, 3) := fo_180 (fw_get da_cX5_isAhead_0 1 rfl)
theorem dX5_isAhead_4 : decode cX5_isAhead 4 = .ok (.iload_n 1, 1) := fo_27 (fw_get da_cX5_isAhead_0 2 rfl)
theorem dX5_isAhead_5 : decode cX5_isAhead 5 = .ok (.iaload, 1) := fo_46 (fw_get da_cX5_isAhead_0 3 rfl)
theorem dX5_isAhead_6 : decode cX5_isAhead 6 = .ok (.aload_n 0, 1) := fo_42 (fw_get da_cX5_isAhead_0 4 rfl)
theorem dX5_isAhead_7 : decode cX5_isAhead 7 = .ok (.getfield 35, 3) := fo_180 (fw_get da_cX5_isAhead_0 5 rfl)
theorem dX5_isAhead_10 : decode cX5_isAhead 10 = .ok (.iload_n 2, 1) := fo_28 (fw_get da_cX5_isAhead_0 6 rfl)
theorem dX5_isAhead_11 : decode cX5_isAhead 11 = .ok (.iaload, 1) := fo_46 (fw_get da_cX5_isAhead_0 7 rfl)
theorem dX5_isAhead_12 : decode cX5_isAhead 12 = .ok (.if_icmp .eq 26, 3) := fo_159 (fw_get da_cX5_isAhead_0 8 rfl) (by decide +kernel)
theorem dX5_isAhead_15 : decode cX5_isAhead 15 = .ok (.aload_n 0, 1) := fo_42 (fw_get da_cX5_isAhead_0 9 rfl)
theorem dX5_isAhead_16 : decode cX5_isAhead 16 = .ok (.getfield 35, 3) := fo_180 (fw_get da_cX5_isAhead_0 10 rfl)
theorem dX5_isAhead_19 : decode cX5_isAhead 19 = .ok (.iload_n 1, 1) := fo_27 (fw_get da_cX5_isAhead_0 11 rfl)
theorem dX5_isAhead_20 : decode cX5_isAhead 20 = .ok (.iaload, 1) := fo_46 (fw_get da_cX5_isAhead_0 12 rfl)
theorem dX5_isAhead_21 : decode cX5_isAhead 21 = .ok (.aload_n 0, 1) := fo_42 (fw_get da_cX5_isAhead_0 13 rfl)
theorem dX5_isAhead_22 : decode cX5_isAhead 22 = .ok (.getfield 35, 3) := fo_180 (fw_get da_cX5_isAhead_0 14 rfl)
theorem dX5_isAhead_25 : decode cX5_isAhead 25 = .ok (.iload_n 2, 1) := fo_28 (fw_get da_cX5_isAhead_0 15 rfl)
theorem dX5_isAhead_26 : decode cX5_isAhead 26 = .ok (.iaload, 1) := fo_46 (fw_get da_cX5_isAhead_0 16 rfl)
theorem dX5_isAhead_27 : decode cX5_isAhead 27 = .ok (.if_icmp .le 7, 3) := fo_164 (fw_get da_cX5_isAhead_0 17 rfl) (by decide +kernel)
theorem dX5_isAhead_30 : decode cX5_isAhead 30 = .ok (.iconst 1, 1) := fo_4 (fw_get da_cX5_isAhead_0 18 rfl)
theorem dX5_isAhead_31 : decode cX5_isAhead 31 = .ok (.goto 27, 3) := fo_167 (fw_get da_cX5_isAhead_0 19 rfl) (by decide +kernel)
def dt_cX5_isAhead_1 : List (Nat × Nat × Nat × Nat) := [(34, 3, 0, 0), (35, 167, 2, 23), (38, 42, 0, 0), (39, 180, 2, 32), (42, 27, 0, 0), (43, 46, 0, 0), (44, 42, 0, 0), (45, 180, 2, 32), (48, 28, 0, 0), (49, 46, 0, 0), (50, 162, 2, 7), (53, 4, 0, 0), (54, 167, 2, 4), (57, 3, 0, 0), (58, 172, 0, 0)]
theorem da_cX5_isAhead_1 : fw dt_cX5_isAhead_1 0 cX5_isAhead.data.toList = true := by decide +kernel
theorem dX5_isAhead_34 : decode cX5_isAhead 34 = .ok (.iconst 0, 1) := fo_3 (fw_get da_cX5_isAhead_1 0 rfl)
theorem dX5_isAhead_35 : decode cX5_isAhead 35 = .ok (.goto 23, 3) := fo_167 (fw_get da_cX5_isAhead_1 1 rfl) (by decide +kernel)
theorem dX5_isAhead_38 : decode cX5_isAhead 38 = .ok (.aload_n 0, 1) := fo_42 (fw_get da_cX5_isAhead_1 2 rfl)
theorem dX5_isAhead_39 : decode cX5_isAhead 39 = .ok (.getfield 32, 3) := fo_180 (fw_get da_cX5_isAhead_1 3 rfl)
theorem dX5_isAhead_42 : decode cX5_isAhead 42 = .ok (.iload_n 1, 1) := fo_27 (fw_get da_cX5_isAhead_1 4 rfl)
theorem dX5_isAhead_43 : decode cX5_isAhead 43 = .ok (.iaload, 1) := fo_46 (fw_get da_cX5_isAhead_1 5 rfl)
theorem dX5_isAhead_44 : decode cX5_isAhead 44 = .ok (.aload_n 0, 1) := fo_42 (fw_get da_cX5_isAhead_1 6 rfl)
theorem dX5_isAhead_45 : decode cX5_isAhead 45 = .ok (.getfield 32, 3) := fo_180 (fw_get da_cX5_isAhead_1 7 rfl)
theorem dX5_isAhead_48 : decode cX5_isAhead 48 = .ok (.iload_n 2, 1) := fo_28 (fw_get da_cX5_isAhead_1 8 rfl)
theorem dX5_isAhead_49 : decode cX5_isAhead 49 = .ok (.iaload, 1) := fo_46 (fw_get da_cX5_isAhead_1 9 rfl)
theorem dX5_isAhead_50 : decode cX5_isAhead 50 = .ok (.if_icmp .ge 7, 3) := fo_162 (fw_get da_cX5_isAhead_1 10 rfl) (by decide +kernel)
theorem dX5_isAhead_53 : decode cX5_isAhead 53 = .ok (.iconst 1, 1) := fo_4 (fw_get da_cX5_isAhead_1 11 rfl)
theorem dX5_isAhead_54 : decode cX5_isAhead 54 = .ok (.goto 4, 3) := fo_167 (fw_get da_cX5_isAhead_1 12 rfl) (by decide +kernel)
theorem dX5_isAhead_57 : decode cX5_isAhead 57 = .ok (.iconst 0, 1) := fo_3 (fw_get da_cX5_isAhead_1 13 rfl)
theorem dX5_isAhead_58 : decode cX5_isAhead 58 = .ok (.ireturn, 1) := fo_172 (fw_get da_cX5_isAhead_1 14 rfl)
def dt_cX5_nodeOf_0 : List (Nat × Nat × Nat × Nat) := [(0, 3, 0, 0), (1, 62, 0, 0), (2, 29, 0, 0), (3, 42, 0, 0), (4, 180, 2, 101), (7, 162, 2, 31), (10, 42, 0, 0), (11, 180, 2, 38), (14, 29, 0, 0), (15, 46, 0, 0), (16, 27, 0, 0), (17, 160, 2, 15), (20, 42, 0, 0), (21, 180, 2, 41), (24, 29, 0, 0), (25, 46, 0, 0), (26, 28, 0, 0), (27, 160, 2, 5), (30, 29, 0, 0), (31, 172, 0, 0)]
theorem da_cX5_nodeOf_0 : fw dt_cX5_nodeOf_0 0 cX5_nodeOf.data.toList = true := by decide +kernel
theorem dX5_nodeOf_0 : decode cX5_nodeOf 0 = .ok (.iconst 0, 1) := fo_3 (fw_get da_cX5_nodeOf_0 0 rfl)
theorem dX5_nodeOf_1 : decode cX5_nodeOf 1 = .ok (.istore_n 3, 1) := fo_62 (fw_get da_cX5_nodeOf_0 1 rfl)
theorem dX5_nodeOf_2 : decode cX5_nodeOf 2 = .ok (.iload_n 3, 1) := fo_29 (fw_get da_cX5_nodeOf_0 2 rfl)
theorem dX5_nodeOf_3 : decode cX5_nodeOf 3 = .ok (.aload_n 0, 1) := fo_42 (fw_get da_cX5_nodeOf_0 3 rfl)
theorem dX5_nodeOf_4 : decode cX5_nodeOf 4 = .ok (.getfield 101, 3) := fo_180 (fw_get da_cX5_nodeOf_0 4 rfl)
theorem dX5_nodeOf_7 : decode cX5_nodeOf 7 = .ok (.if_icmp .ge 31, 3) := fo_162 (fw_get da_cX5_nodeOf_0 5 rfl) (by decide +kernel)
theorem dX5_nodeOf_10 : decode cX5_nodeOf 10 = .ok (.aload_n 0, 1) := fo_42 (fw_get da_cX5_nodeOf_0 6 rfl)
theorem dX5_nodeOf_11 : decode cX5_nodeOf 11 = .ok (.getfield 38, 3) := fo_180 (fw_get da_cX5_nodeOf_0 7 rfl)
theorem dX5_nodeOf_14 : decode cX5_nodeOf 14 = .ok (.iload_n 3, 1) := fo_29 (fw_get da_cX5_nodeOf_0 8 rfl)
theorem dX5_nodeOf_15 : decode cX5_nodeOf 15 = .ok (.iaload, 1) := fo_46 (fw_get da_cX5_nodeOf_0 9 rfl)
theorem dX5_nodeOf_16 : decode cX5_nodeOf 16 = .ok (.iload_n 1, 1) := fo_27 (fw_get da_cX5_nodeOf_0 10 rfl)
theorem dX5_nodeOf_17 : decode cX5_nodeOf 17 = .ok (.if_icmp .ne 15, 3) := fo_160 (fw_get da_cX5_nodeOf_0 11 rfl) (by decide +kernel)
theorem dX5_nodeOf_20 : decode cX5_nodeOf 20 = .ok (.aload_n 0, 1) := fo_42 (fw_get da_cX5_nodeOf_0 12 rfl)
theorem dX5_nodeOf_21 : decode cX5_nodeOf 21 = .ok (.getfield 41, 3) := fo_180 (fw_get da_cX5_nodeOf_0 13 rfl)
theorem dX5_nodeOf_24 : decode cX5_nodeOf 24 = .ok (.iload_n 3, 1) := fo_29 (fw_get da_cX5_nodeOf_0 14 rfl)
theorem dX5_nodeOf_25 : decode cX5_nodeOf 25 = .ok (.iaload, 1) := fo_46 (fw_get da_cX5_nodeOf_0 15 rfl)
theorem dX5_nodeOf_26 : decode cX5_nodeOf 26 = .ok (.iload_n 2, 1) := fo_28 (fw_get da_cX5_nodeOf_0 16 rfl)
theorem dX5_nodeOf_27 : decode cX5_nodeOf 27 = .ok (.if_icmp .ne 5, 3) := fo_160 (fw_get da_cX5_nodeOf_0 17 rfl) (by decide +kernel)
theorem dX5_nodeOf_30 : decode cX5_nodeOf 30 = .ok (.iload_n 3, 1) := fo_29 (fw_get da_cX5_nodeOf_0 18 rfl)
theorem dX5_nodeOf_31 : decode cX5_nodeOf 31 = .ok (.ireturn, 1) := fo_172 (fw_get da_cX5_nodeOf_0 19 rfl)
def dt_cX5_nodeOf_1 : List (Nat × Nat × Nat × Nat) := [(32, 132, 2, 769), (35, 167, 2, 65503), (38, 16, 1, 254), (40, 172, 0, 0)]
theorem da_cX5_nodeOf_1 : fw dt_cX5_nodeOf_1 0 cX5_nodeOf.data.toList = true := by decide +kernel
theorem dX5_nodeOf_32 : decode cX5_nodeOf 32 = .ok (.iinc 3 1, 3) := fo_132 (fw_get da_cX5_nodeOf_1 0 rfl) rfl (by decide +kernel)
theorem dX5_nodeOf_35 : decode cX5_nodeOf 35 = .ok (.goto (-33), 3) := fo_167 (fw_get da_cX5_nodeOf_1 1 rfl) (by decide +kernel)
theorem dX5_nodeOf_38 : decode cX5_nodeOf 38 = .ok (.bipush (-2), 2) := fo_16 (fw_get da_cX5_nodeOf_1 2 rfl) (by decide +kernel)
theorem dX5_nodeOf_40 : decode cX5_nodeOf 40 = .ok (.ireturn, 1) := fo_172 (fw_get da_cX5_nodeOf_1 3 rfl)
def dt_cX5_copies_0 : List (Nat × Nat × Nat × Nat) := [(0, 42, 0, 0), (1, 180, 2, 17), (4, 28, 0, 0), (5, 42, 0, 0), (6, 180, 2, 17), (9, 27, 0, 0), (10, 46, 0, 0), (11, 79, 0, 0), (12, 42, 0, 0), (13, 180, 2, 20), (16, 28, 0, 0), (17, 42, 0, 0), (18, 180, 2, 20), (21, 27, 0, 0), (22, 46, 0, 0), (23, 79, 0, 0), (24, 42, 0, 0), (25, 180, 2, 23), (28, 28, 0, 0), (29, 42, 0, 0)]
theorem da_cX5_copies_0 : fw dt_cX5_copies_0 0 cX5_copies.data.toList = true := by decide +kernel
theorem dX5_copies_0 : decode cX5_copies 0 = .ok (.aload_n 0, 1) := fo_42 (fw_get da_cX5_copies_0 0 rfl)
theorem dX5_copies_1 : decode cX5_copies 1 = .ok (.getfield 17, 3) := fo_180 (fw_get da_cX5_copies_0 1 rfl)
theorem dX5_copies_4 : decode cX5_copies 4 = .ok (.iload_n 2, 1) := fo_28 (fw_get da_cX5_copies_0 2 rfl)
theorem dX5_copies_5 : decode cX5_copies 5 = .ok (.aload_n 0, 1) := fo_42 (fw_get da_cX5_copies_0 3 rfl)
theorem dX5_copies_6 : decode cX5_copies 6 = .ok (.getfield 17, 3) := fo_180 (fw_get da_cX5_copies_0 4 rfl)
theorem dX5_copies_9 : decode cX5_copies 9 = .ok (.iload_n 1, 1) := fo_27 (fw_get da_cX5_copies_0 5 rfl)
theorem dX5_copies_10 : decode cX5_copies 10 = .ok (.iaload, 1) := fo_46 (fw_get da_cX5_copies_0 6 rfl)
theorem dX5_copies_11 : decode cX5_copies 11 = .ok (.iastore, 1) := fo_79 (fw_get da_cX5_copies_0 7 rfl)
theorem dX5_copies_12 : decode cX5_copies 12 = .ok (.aload_n 0, 1) := fo_42 (fw_get da_cX5_copies_0 8 rfl)
theorem dX5_copies_13 : decode cX5_copies 13 = .ok (.getfield 20, 3) := fo_180 (fw_get da_cX5_copies_0 9 rfl)
theorem dX5_copies_16 : decode cX5_copies 16 = .ok (.iload_n 2, 1) := fo_28 (fw_get da_cX5_copies_0 10 rfl)
theorem dX5_copies_17 : decode cX5_copies 17 = .ok (.aload_n 0, 1) := fo_42 (fw_get da_cX5_copies_0 11 rfl)
theorem dX5_copies_18 : decode cX5_copies 18 = .ok (.getfield 20, 3) := fo_180 (fw_get da_cX5_copies_0 12 rfl)
theorem dX5_copies_21 : decode cX5_copies 21 = .ok (.iload_n 1, 1) := fo_27 (fw_get da_cX5_copies_0 13 rfl)
theorem dX5_copies_22 : decode cX5_copies 22 = .ok (.iaload, 1) := fo_46 (fw_get da_cX5_copies_0 14 rfl)
theorem dX5_copies_23 : decode cX5_copies 23 = .ok (.iastore, 1) := fo_79 (fw_get da_cX5_copies_0 15 rfl)
theorem dX5_copies_24 : decode cX5_copies 24 = .ok (.aload_n 0, 1) := fo_42 (fw_get da_cX5_copies_0 16 rfl)
theorem dX5_copies_25 : decode cX5_copies 25 = .ok (.getfield 23, 3) := fo_180 (fw_get da_cX5_copies_0 17 rfl)
theorem dX5_copies_28 : decode cX5_copies 28 = .ok (.iload_n 2, 1) := fo_28 (fw_get da_cX5_copies_0 18 rfl)
theorem dX5_copies_29 : decode cX5_copies 29 = .ok (.aload_n 0, 1) := fo_42 (fw_get da_cX5_copies_0 19 rfl)
def dt_cX5_copies_1 : List (Nat × Nat × Nat × Nat) := [(30, 180, 2, 23), (33, 27, 0, 0), (34, 46, 0, 0), (35, 79, 0, 0), (36, 3, 0, 0), (37, 62, 0, 0), (38, 29, 0, 0), (39, 16, 1, 6), (41, 162, 2, 53), (44, 42, 0, 0), (45, 180, 2, 26), (48, 16, 1, 6), (50, 28, 0, 0), (51, 104, 0, 0), (52, 29, 0, 0), (53, 96, 0, 0), (54, 42, 0, 0), (55, 180, 2, 26), (58, 16, 1, 6), (60, 27, 0, 0)]
theorem da_cX5_copies_1 : fw dt_cX5_copies_1 0 cX5_copies.data.toList = true := by decide +kernel
theorem dX5_copies_30 : decode cX5_copies 30 = .ok (.getfield 23, 3) := fo_180 (fw_get da_cX5_copies_1 0 rfl)
theorem dX5_copies_33 : decode cX5_copies 33 = .ok (.iload_n 1, 1) := fo_27 (fw_get da_cX5_copies_1 1 rfl)
theorem dX5_copies_34 : decode cX5_copies 34 = .ok (.iaload, 1) := fo_46 (fw_get da_cX5_copies_1 2 rfl)
theorem dX5_copies_35 : decode cX5_copies 35 = .ok (.iastore, 1) := fo_79 (fw_get da_cX5_copies_1 3 rfl)
theorem dX5_copies_36 : decode cX5_copies 36 = .ok (.iconst 0, 1) := fo_3 (fw_get da_cX5_copies_1 4 rfl)
theorem dX5_copies_37 : decode cX5_copies 37 = .ok (.istore_n 3, 1) := fo_62 (fw_get da_cX5_copies_1 5 rfl)
theorem dX5_copies_38 : decode cX5_copies 38 = .ok (.iload_n 3, 1) := fo_29 (fw_get da_cX5_copies_1 6 rfl)
theorem dX5_copies_39 : decode cX5_copies 39 = .ok (.bipush 6, 2) := fo_16 (fw_get da_cX5_copies_1 7 rfl) (by decide +kernel)
theorem dX5_copies_41 : decode cX5_copies 41 = .ok (.if_icmp .ge 53, 3) := fo_162 (fw_get da_cX5_copies_1 8 rfl) (by decide +kernel)
theorem dX5_copies_44 : decode cX5_copies 44 = .ok (.aload_n 0, 1) := fo_42 (fw_get da_cX5_copies_1 9 rfl)
theorem dX5_copies_45 : decode cX5_copies 45 = .ok (.getfield 26, 3) := fo_180 (fw_get da_cX5_copies_1 10 rfl)
theorem dX5_copies_48 : decode cX5_copies 48 = .ok (.bipush 6, 2) := fo_16 (fw_get da_cX5_copies_1 11 rfl) (by decide +kernel)
theorem dX5_copies_50 : decode cX5_copies 50 = .ok (.iload_n 2, 1) := fo_28 (fw_get da_cX5_copies_1 12 rfl)
theorem dX5_copies_51 : decode cX5_copies 51 = .ok (.imul, 1) := fo_104 (fw_get da_cX5_copies_1 13 rfl)
theorem dX5_copies_52 : decode cX5_copies 52 = .ok (.iload_n 3, 1) := fo_29 (fw_get da_cX5_copies_1 14 rfl)
theorem dX5_copies_53 : decode cX5_copies 53 = .ok (.iadd, 1) := fo_96 (fw_get da_cX5_copies_1 15 rfl)
theorem dX5_copies_54 : decode cX5_copies 54 = .ok (.aload_n 0, 1) := fo_42 (fw_get da_cX5_copies_1 16 rfl)
theorem dX5_copies_55 : decode cX5_copies 55 = .ok (.getfield 26, 3) := fo_180 (fw_get da_cX5_copies_1 17 rfl)
theorem dX5_copies_58 : decode cX5_copies 58 = .ok (.bipush 6, 2) := fo_16 (fw_get da_cX5_copies_1 18 rfl) (by decide +kernel)
theorem dX5_copies_60 : decode cX5_copies 60 = .ok (.iload_n 1, 1) := fo_27 (fw_get da_cX5_copies_1 19 rfl)
def dt_cX5_copies_2 : List (Nat × Nat × Nat × Nat) := [(61, 104, 0, 0), (62, 29, 0, 0), (63, 96, 0, 0), (64, 46, 0, 0), (65, 79, 0, 0), (66, 42, 0, 0), (67, 180, 2, 29), (70, 16, 1, 6), (72, 28, 0, 0), (73, 104, 0, 0), (74, 29, 0, 0), (75, 96, 0, 0), (76, 42, 0, 0), (77, 180, 2, 29), (80, 16, 1, 6), (82, 27, 0, 0), (83, 104, 0, 0), (84, 29, 0, 0), (85, 96, 0, 0), (86, 46, 0, 0)]
theorem da_cX5_copies_2 : fw dt_cX5_copies_2 0 cX5_copies.data.toList = true := by decide +kernel
theorem dX5_copies_61 : decode cX5_copies 61 = .ok (.imul, 1) := fo_104 (fw_get da_cX5_copies_2 0 rfl)
theorem dX5_copies_62 : decode cX5_copies 62 = .ok (.iload_n 3, 1) := fo_29 (fw_get da_cX5_copies_2 1 rfl)
theorem dX5_copies_63 : decode cX5_copies 63 = .ok (.iadd, 1) := fo_96 (fw_get da_cX5_copies_2 2 rfl)
theorem dX5_copies_64 : decode cX5_copies 64 = .ok (.iaload, 1) := fo_46 (fw_get da_cX5_copies_2 3 rfl)
theorem dX5_copies_65 : decode cX5_copies 65 = .ok (.iastore, 1) := fo_79 (fw_get da_cX5_copies_2 4 rfl)
theorem dX5_copies_66 : decode cX5_copies 66 = .ok (.aload_n 0, 1) := fo_42 (fw_get da_cX5_copies_2 5 rfl)
theorem dX5_copies_67 : decode cX5_copies 67 = .ok (.getfield 29, 3) := fo_180 (fw_get da_cX5_copies_2 6 rfl)
theorem dX5_copies_70 : decode cX5_copies 70 = .ok (.bipush 6, 2) := fo_16 (fw_get da_cX5_copies_2 7 rfl) (by decide +kernel)
theorem dX5_copies_72 : decode cX5_copies 72 = .ok (.iload_n 2, 1) := fo_28 (fw_get da_cX5_copies_2 8 rfl)
theorem dX5_copies_73 : decode cX5_copies 73 = .ok (.imul, 1) := fo_104 (fw_get da_cX5_copies_2 9 rfl)
theorem dX5_copies_74 : decode cX5_copies 74 = .ok (.iload_n 3, 1) := fo_29 (fw_get da_cX5_copies_2 10 rfl)
theorem dX5_copies_75 : decode cX5_copies 75 = .ok (.iadd, 1) := fo_96 (fw_get da_cX5_copies_2 11 rfl)
theorem dX5_copies_76 : decode cX5_copies 76 = .ok (.aload_n 0, 1) := fo_42 (fw_get da_cX5_copies_2 12 rfl)
theorem dX5_copies_77 : decode cX5_copies 77 = .ok (.getfield 29, 3) := fo_180 (fw_get da_cX5_copies_2 13 rfl)
theorem dX5_copies_80 : decode cX5_copies 80 = .ok (.bipush 6, 2) := fo_16 (fw_get da_cX5_copies_2 14 rfl) (by decide +kernel)
theorem dX5_copies_82 : decode cX5_copies 82 = .ok (.iload_n 1, 1) := fo_27 (fw_get da_cX5_copies_2 15 rfl)
theorem dX5_copies_83 : decode cX5_copies 83 = .ok (.imul, 1) := fo_104 (fw_get da_cX5_copies_2 16 rfl)
theorem dX5_copies_84 : decode cX5_copies 84 = .ok (.iload_n 3, 1) := fo_29 (fw_get da_cX5_copies_2 17 rfl)
theorem dX5_copies_85 : decode cX5_copies 85 = .ok (.iadd, 1) := fo_96 (fw_get da_cX5_copies_2 18 rfl)
theorem dX5_copies_86 : decode cX5_copies 86 = .ok (.iaload, 1) := fo_46 (fw_get da_cX5_copies_2 19 rfl)
def dt_cX5_copies_3 : List (Nat × Nat × Nat × Nat) := [(87, 79, 0, 0), (88, 132, 2, 769), (91, 167, 2, 65483), (94, 177, 0, 0)]
theorem da_cX5_copies_3 : fw dt_cX5_copies_3 0 cX5_copies.data.toList = true := by decide +kernel
theorem dX5_copies_87 : decode cX5_copies 87 = .ok (.iastore, 1) := fo_79 (fw_get da_cX5_copies_3 0 rfl)
theorem dX5_copies_88 : decode cX5_copies 88 = .ok (.iinc 3 1, 3) := fo_132 (fw_get da_cX5_copies_3 1 rfl) rfl (by decide +kernel)
theorem dX5_copies_91 : decode cX5_copies 91 = .ok (.goto (-53), 3) := fo_167 (fw_get da_cX5_copies_3 2 rfl) (by decide +kernel)
theorem dX5_copies_94 : decode cX5_copies 94 = .ok (.return_, 1) := fo_177 (fw_get da_cX5_copies_3 3 rfl)
def dt_cX5_numberOf_0 : List (Nat × Nat × Nat × Nat) := [(0, 3, 0, 0), (1, 62, 0, 0), (2, 29, 0, 0), (3, 42, 0, 0), (4, 180, 2, 17), (7, 27, 0, 0), (8, 46, 0, 0), (9, 162, 2, 36), (12, 42, 0, 0), (13, 180, 2, 26), (16, 16, 1, 6), (18, 27, 0, 0), (19, 104, 0, 0), (20, 29, 0, 0), (21, 96, 0, 0), (22, 46, 0, 0), (23, 28, 0, 0), (24, 160, 2, 15), (27, 42, 0, 0), (28, 180, 2, 29)]
theorem da_cX5_numberOf_0 : fw dt_cX5_numberOf_0 0 cX5_numberOf.data.toList = true := by decide +kernel
theorem dX5_numberOf_0 : decode cX5_numberOf 0 = .ok (.iconst 0, 1) := fo_3 (fw_get da_cX5_numberOf_0 0 rfl)
theorem dX5_numberOf_1 : decode cX5_numberOf 1 = .ok (.istore_n 3, 1) := fo_62 (fw_get da_cX5_numberOf_0 1 rfl)
theorem dX5_numberOf_2 : decode cX5_numberOf 2 = .ok (.iload_n 3, 1) := fo_29 (fw_get da_cX5_numberOf_0 2 rfl)
theorem dX5_numberOf_3 : decode cX5_numberOf 3 = .ok (.aload_n 0, 1) := fo_42 (fw_get da_cX5_numberOf_0 3 rfl)
theorem dX5_numberOf_4 : decode cX5_numberOf 4 = .ok (.getfield 17, 3) := fo_180 (fw_get da_cX5_numberOf_0 4 rfl)
theorem dX5_numberOf_7 : decode cX5_numberOf 7 = .ok (.iload_n 1, 1) := fo_27 (fw_get da_cX5_numberOf_0 5 rfl)
theorem dX5_numberOf_8 : decode cX5_numberOf 8 = .ok (.iaload, 1) := fo_46 (fw_get da_cX5_numberOf_0 6 rfl)
theorem dX5_numberOf_9 : decode cX5_numberOf 9 = .ok (.if_icmp .ge 36, 3) := fo_162 (fw_get da_cX5_numberOf_0 7 rfl) (by decide +kernel)
theorem dX5_numberOf_12 : decode cX5_numberOf 12 = .ok (.aload_n 0, 1) := fo_42 (fw_get da_cX5_numberOf_0 8 rfl)
theorem dX5_numberOf_13 : decode cX5_numberOf 13 = .ok (.getfield 26, 3) := fo_180 (fw_get da_cX5_numberOf_0 9 rfl)
theorem dX5_numberOf_16 : decode cX5_numberOf 16 = .ok (.bipush 6, 2) := fo_16 (fw_get da_cX5_numberOf_0 10 rfl) (by decide +kernel)
theorem dX5_numberOf_18 : decode cX5_numberOf 18 = .ok (.iload_n 1, 1) := fo_27 (fw_get da_cX5_numberOf_0 11 rfl)
theorem dX5_numberOf_19 : decode cX5_numberOf 19 = .ok (.imul, 1) := fo_104 (fw_get da_cX5_numberOf_0 12 rfl)
theorem dX5_numberOf_20 : decode cX5_numberOf 20 = .ok (.iload_n 3, 1) := fo_29 (fw_get da_cX5_numberOf_0 13 rfl)
theorem dX5_numberOf_21 : decode cX5_numberOf 21 = .ok (.iadd, 1) := fo_96 (fw_get da_cX5_numberOf_0 14 rfl)
theorem dX5_numberOf_22 : decode cX5_numberOf 22 = .ok (.iaload, 1) := fo_46 (fw_get da_cX5_numberOf_0 15 rfl)
theorem dX5_numberOf_23 : decode cX5_numberOf 23 = .ok (.iload_n 2, 1) := fo_28 (fw_get da_cX5_numberOf_0 16 rfl)
theorem dX5_numberOf_24 : decode cX5_numberOf 24 = .ok (.if_icmp .ne 15, 3) := fo_160 (fw_get da_cX5_numberOf_0 17 rfl) (by decide +kernel)
theorem dX5_numberOf_27 : decode cX5_numberOf 27 = .ok (.aload_n 0, 1) := fo_42 (fw_get da_cX5_numberOf_0 18 rfl)
theorem dX5_numberOf_28 : decode cX5_numberOf 28 = .ok (.getfield 29, 3) := fo_180 (fw_get da_cX5_numberOf_0 19 rfl)
def dt_cX5_numberOf_1 : List (Nat × Nat × Nat × Nat) := [(31, 16, 1, 6), (33, 27, 0, 0), (34, 104, 0, 0), (35, 29, 0, 0), (36, 96, 0, 0), (37, 46, 0, 0), (38, 172, 0, 0), (39, 132, 2, 769), (42, 167, 2, 65496), (45, 3, 0, 0), (46, 172, 0, 0)]
theorem da_cX5_numberOf_1 : fw dt_cX5_numberOf_1 0 cX5_numberOf.data.toList = true := by decide +kernel
theorem dX5_numberOf_31 : decode cX5_numberOf 31 = .ok (.bipush 6, 2) := fo_16 (fw_get da_cX5_numberOf_1 0 rfl) (by decide +kernel)
theorem dX5_numberOf_33 : decode cX5_numberOf 33 = .ok (.iload_n 1, 1) := fo_27 (fw_get da_cX5_numberOf_1 1 rfl)
theorem dX5_numberOf_34 : decode cX5_numberOf 34 = .ok (.imul, 1) := fo_104 (fw_get da_cX5_numberOf_1 2 rfl)
theorem dX5_numberOf_35 : decode cX5_numberOf 35 = .ok (.iload_n 3, 1) := fo_29 (fw_get da_cX5_numberOf_1 3 rfl)
theorem dX5_numberOf_36 : decode cX5_numberOf 36 = .ok (.iadd, 1) := fo_96 (fw_get da_cX5_numberOf_1 4 rfl)
theorem dX5_numberOf_37 : decode cX5_numberOf 37 = .ok (.iaload, 1) := fo_46 (fw_get da_cX5_numberOf_1 5 rfl)
theorem dX5_numberOf_38 : decode cX5_numberOf 38 = .ok (.ireturn, 1) := fo_172 (fw_get da_cX5_numberOf_1 6 rfl)
theorem dX5_numberOf_39 : decode cX5_numberOf 39 = .ok (.iinc 3 1, 3) := fo_132 (fw_get da_cX5_numberOf_1 7 rfl) rfl (by decide +kernel)
theorem dX5_numberOf_42 : decode cX5_numberOf 42 = .ok (.goto (-40), 3) := fo_167 (fw_get da_cX5_numberOf_1 8 rfl) (by decide +kernel)
theorem dX5_numberOf_45 : decode cX5_numberOf 45 = .ok (.iconst 0, 1) := fo_3 (fw_get da_cX5_numberOf_1 9 rfl)
theorem dX5_numberOf_46 : decode cX5_numberOf 46 = .ok (.ireturn, 1) := fo_172 (fw_get da_cX5_numberOf_1 10 rfl)
def dt_cX5_numbersOf_0 : List (Nat × Nat × Nat × Nat) := [(0, 3, 0, 0), (1, 61, 0, 0), (2, 3, 0, 0), (3, 62, 0, 0), (4, 29, 0, 0), (5, 42, 0, 0), (6, 180, 2, 17), (9, 27, 0, 0), (10, 46, 0, 0), (11, 162, 2, 23), (14, 28, 0, 0), (15, 42, 0, 0), (16, 180, 2, 29), (19, 16, 1, 6), (21, 27, 0, 0), (22, 104, 0, 0), (23, 29, 0, 0), (24, 96, 0, 0), (25, 46, 0, 0), (26, 96, 0, 0)]
theorem da_cX5_numbersOf_0 : fw dt_cX5_numbersOf_0 0 cX5_numbersOf.data.toList = true := by decide +kernel
theorem dX5_numbersOf_0 : decode cX5_numbersOf 0 = .ok (.iconst 0, 1) := fo_3 (fw_get da_cX5_numbersOf_0 0 rfl)
theorem dX5_numbersOf_1 : decode cX5_numbersOf 1 = .ok (.istore_n 2, 1) := fo_61 (fw_get da_cX5_numbersOf_0 1 rfl)
theorem dX5_numbersOf_2 : decode cX5_numbersOf 2 = .ok (.iconst 0, 1) := fo_3 (fw_get da_cX5_numbersOf_0 2 rfl)
theorem dX5_numbersOf_3 : decode cX5_numbersOf 3 = .ok (.istore_n 3, 1) := fo_62 (fw_get da_cX5_numbersOf_0 3 rfl)
theorem dX5_numbersOf_4 : decode cX5_numbersOf 4 = .ok (.iload_n 3, 1) := fo_29 (fw_get da_cX5_numbersOf_0 4 rfl)
theorem dX5_numbersOf_5 : decode cX5_numbersOf 5 = .ok (.aload_n 0, 1) := fo_42 (fw_get da_cX5_numbersOf_0 5 rfl)
theorem dX5_numbersOf_6 : decode cX5_numbersOf 6 = .ok (.getfield 17, 3) := fo_180 (fw_get da_cX5_numbersOf_0 6 rfl)
theorem dX5_numbersOf_9 : decode cX5_numbersOf 9 = .ok (.iload_n 1, 1) := fo_27 (fw_get da_cX5_numbersOf_0 7 rfl)
theorem dX5_numbersOf_10 : decode cX5_numbersOf 10 = .ok (.iaload, 1) := fo_46 (fw_get da_cX5_numbersOf_0 8 rfl)
theorem dX5_numbersOf_11 : decode cX5_numbersOf 11 = .ok (.if_icmp .ge 23, 3) := fo_162 (fw_get da_cX5_numbersOf_0 9 rfl) (by decide +kernel)
theorem dX5_numbersOf_14 : decode cX5_numbersOf 14 = .ok (.iload_n 2, 1) := fo_28 (fw_get da_cX5_numbersOf_0 10 rfl)
theorem dX5_numbersOf_15 : decode cX5_numbersOf 15 = .ok (.aload_n 0, 1) := fo_42 (fw_get da_cX5_numbersOf_0 11 rfl)
theorem dX5_numbersOf_16 : decode cX5_numbersOf 16 = .ok (.getfield 29, 3) := fo_180 (fw_get da_cX5_numbersOf_0 12 rfl)
theorem dX5_numbersOf_19 : decode cX5_numbersOf 19 = .ok (.bipush 6, 2) := fo_16 (fw_get da_cX5_numbersOf_0 13 rfl) (by decide +kernel)
theorem dX5_numbersOf_21 : decode cX5_numbersOf 21 = .ok (.iload_n 1, 1) := fo_27 (fw_get da_cX5_numbersOf_0 14 rfl)
theorem dX5_numbersOf_22 : decode cX5_numbersOf 22 = .ok (.imul, 1) := fo_104 (fw_get da_cX5_numbersOf_0 15 rfl)
theorem dX5_numbersOf_23 : decode cX5_numbersOf 23 = .ok (.iload_n 3, 1) := fo_29 (fw_get da_cX5_numbersOf_0 16 rfl)
theorem dX5_numbersOf_24 : decode cX5_numbersOf 24 = .ok (.iadd, 1) := fo_96 (fw_get da_cX5_numbersOf_0 17 rfl)
theorem dX5_numbersOf_25 : decode cX5_numbersOf 25 = .ok (.iaload, 1) := fo_46 (fw_get da_cX5_numbersOf_0 18 rfl)
theorem dX5_numbersOf_26 : decode cX5_numbersOf 26 = .ok (.iadd, 1) := fo_96 (fw_get da_cX5_numbersOf_0 19 rfl)
def dt_cX5_numbersOf_1 : List (Nat × Nat × Nat × Nat) := [(27, 61, 0, 0), (28, 132, 2, 769), (31, 167, 2, 65509), (34, 28, 0, 0), (35, 172, 0, 0)]
theorem da_cX5_numbersOf_1 : fw dt_cX5_numbersOf_1 0 cX5_numbersOf.data.toList = true := by decide +kernel
theorem dX5_numbersOf_27 : decode cX5_numbersOf 27 = .ok (.istore_n 2, 1) := fo_61 (fw_get da_cX5_numbersOf_1 0 rfl)
theorem dX5_numbersOf_28 : decode cX5_numbersOf 28 = .ok (.iinc 3 1, 3) := fo_132 (fw_get da_cX5_numbersOf_1 1 rfl) rfl (by decide +kernel)
theorem dX5_numbersOf_31 : decode cX5_numbersOf 31 = .ok (.goto (-27), 3) := fo_167 (fw_get da_cX5_numbersOf_1 2 rfl) (by decide +kernel)
theorem dX5_numbersOf_34 : decode cX5_numbersOf 34 = .ok (.iload_n 2, 1) := fo_28 (fw_get da_cX5_numbersOf_1 3 rfl)
theorem dX5_numbersOf_35 : decode cX5_numbersOf 35 = .ok (.ireturn, 1) := fo_172 (fw_get da_cX5_numbersOf_1 4 rfl)


def six4 (f : Nat → Int32) : Prop := ∀ k : Nat, k < 324 → 0 ≤ (f k).toInt ∧ (f k).toInt ≤ 6
theorem six4_upd {f : Nat → Int32} {k : Nat} {x : Int32} (h : six4 f) (h1 : 0 ≤ x.toInt) (h2 : x.toInt ≤ 6) : six4 (upd f k x) := by
  intro j hj
  unfold upd
  split
  · exact ⟨h1, h2⟩
  · exact h j hj

set_option maxHeartbeats 4000000 in
set_option maxRecDepth 100000 in
theorem c_X5_isAhead (l : Launch) (dC : Nat → ClassId) (dI : Nat → Nat → Nat) (h0 : Nat) (g_row : Nat) (g_many : Nat) (g_loss : Nat) (g_less : Nat) (g_voteValue : Nat) (g_voteNumber : Nat) (g_allValue : Nat) (g_allNumber : Nat) (g_nodeL : Nat) (g_nodeR : Nat) (g_part : Nat) (g_wasMany : Nat) (g_wasLoss : Nat) (g_wasValue : Nat) (g_wasNumber : Nat) (g_path : Nat) (g_heavyValue : Nat) (g_heavyTimes : Nat) (g_fewest : Nat) (g_which : Nat) (g_met : Nat) (m_n : Int32) (m_slots : Int32) (m_thrown : Int32) (m_allMany : Int32) (m_nodes : Int32) (m_partMany : Int32) (m_pathMany : Int32) (m_heavyMany : Int32) (m_mostMet : Int32) (cyI : ClassId) (av : Nat → Int32) (an : Nat → Int32) (p0 : Int32) (p1 : Int32) (b0 : 0 ≤ p0.toInt) (b1 : p0.toInt < 12) (b2 : 0 ≤ p1.toInt) (b3 : p1.toInt < 12) : Met l yX5_isAhead wsX5_isAhead ({ frames := 0, cells := 0, slots := 0, locals := 0 }) (va_Pc [.ref h0, .int p0, .int p1] (fun U => va_P (dC, dI) vwCl [kx_5 h0 g_row m_n m_slots m_thrown g_many g_loss g_less g_voteValue g_voteNumber g_allValue g_allNumber m_allMany g_nodeL g_nodeR m_nodes g_part m_partMany g_wasMany g_wasLoss g_wasValue g_wasNumber g_path m_pathMany g_heavyValue g_heavyTimes m_heavyMany g_fewest g_which g_met m_mostMet, kx_a g_allValue cyI 12 av, kx_a g_allNumber cyI 12 an] U.heap ∧ va_K (dC, dI) vwCl [(cyI, .int)] U)) (vp_Si (fun r : Int32 => (r = 1 ∧ ((an p1.toNatClampNeg).toInt < (an p0.toNatClampNeg).toInt ∨ ((an p0.toNatClampNeg).toInt = (an p1.toNatClampNeg).toInt ∧ (av p0.toNatClampNeg).toInt < (av p1.toNatClampNeg).toInt))) ∨ (r = 0 ∧ ((an p0.toNatClampNeg).toInt < (an p1.toNatClampNeg).toInt ∨ ((an p0.toNatClampNeg).toInt = (an p1.toNatClampNeg).toInt ∧ (av p1.toNatClampNeg).toInt ≤ (av p0.toNatClampNeg).toInt))))) 0 0 (fun _ => False) := by
  refine kx_stS (ws := wsX5_isAhead) (cc := cX5_isAhead) (maxL := 3) (ret := (some .boolean)) (by decide) rfl (Nat.le_of_ble_eq_true rfl) ?_
  intro p e s m below meth c ls hx hb hr hlocks hts hown hml hP hK hl
  have hown : s.vm.findClass RX5 = some m.cls := hown
  have hl : lv_has ls 3 [(0, .ref h0), (1, .int p0), (2, .int p1)] := hl
  have hf_35 := hts (.fieldLink RX5 35 "MajorityIndexModel" "allNumber" "[I") (List.mem_of_getElem? (i := 1) rfl)
  have hi_5 : ∀ w ∈ u_ws RX5 TX5 30, w ∈ wsX5_isAhead := fun w h => List.mem_cons_of_mem _ (List.mem_append_right _ h)
  have hf_32 := hts (.fieldLink RX5 32 "MajorityIndexModel" "allValue" "[I") (List.mem_of_getElem? (i := 2) rfl)
  refine lv_aload_n hx hb dX5_isAhead_0 rfl (lv_at hl 0 rfl) ?_
  refine va_get (D := (dC, dI)) (ci := 5) (v := .ref g_allNumber) (C := RX5) (T := TX5) (N := 30) hx hb hts hi_5 hown hK hP 0 rfl rfl 10 (by decide) hf_35 (fun _ h9 => h9) rfl dX5_isAhead_1 ?_
  refine lv_iload_n hx hb dX5_isAhead_4 rfl (lv_at hl 1 rfl) ?_
  refine va_iald hx hb hK hP 2 0 rfl rfl (ki_in (om_10 b0) (om_30 b1)) dX5_isAhead_5 ?_
  refine lv_topi (fun y_1 ey_1 => ?_)
  have j_1 : y_1.toInt = (an p0.toNatClampNeg).toInt := congrArg Int32.toInt ey_1
  refine lv_aload_n hx hb dX5_isAhead_6 rfl (lv_at hl 0 rfl) ?_
  refine va_get (D := (dC, dI)) (ci := 5) (v := .ref g_allNumber) (C := RX5) (T := TX5) (N := 30) hx hb hts hi_5 hown hK hP 0 rfl rfl 10 (by decide) hf_35 (fun _ h9 => h9) rfl dX5_isAhead_7 ?_
  refine lv_iload_n hx hb dX5_isAhead_10 rfl (lv_at hl 2 rfl) ?_
  refine va_iald hx hb hK hP 2 0 rfl rfl (ki_in (om_10 b2) (om_30 b3)) dX5_isAhead_11 ?_
  refine lv_topi (fun y_2 ey_2 => ?_)
  have j_2 : y_2.toInt = (an p1.toNatClampNeg).toInt := congrArg Int32.toInt ey_2
  refine lv_icmp_eq (tgt := 38) hx hb dX5_isAhead_12 (by decide) (fun c_3 => ?_) (fun c_3 => ?_)
  · have i_3 : y_1.toInt = y_2.toInt := kc_eq c_3
    refine lv_aload_n hx hb dX5_isAhead_38 rfl (lv_at hl 0 rfl) ?_
    refine va_get (D := (dC, dI)) (ci := 5) (v := .ref g_allValue) (C := RX5) (T := TX5) (N := 30) hx hb hts hi_5 hown hK hP 0 rfl rfl 9 (by decide) hf_32 (fun _ h9 => h9) rfl dX5_isAhead_39 ?_
    refine lv_iload_n hx hb dX5_isAhead_42 rfl (lv_at hl 1 rfl) ?_
    refine va_iald hx hb hK hP 1 0 rfl rfl (ki_in (om_10 b0) (om_30 b1)) dX5_isAhead_43 ?_
    refine lv_topi (fun y_4 ey_4 => ?_)
    have j_4 : y_4.toInt = (av p0.toNatClampNeg).toInt := congrArg Int32.toInt ey_4
    refine lv_aload_n hx hb dX5_isAhead_44 rfl (lv_at hl 0 rfl) ?_
    refine va_get (D := (dC, dI)) (ci := 5) (v := .ref g_allValue) (C := RX5) (T := TX5) (N := 30) hx hb hts hi_5 hown hK hP 0 rfl rfl 9 (by decide) hf_32 (fun _ h9 => h9) rfl dX5_isAhead_45 ?_
    refine lv_iload_n hx hb dX5_isAhead_48 rfl (lv_at hl 2 rfl) ?_
    refine va_iald hx hb hK hP 1 0 rfl rfl (ki_in (om_10 b2) (om_30 b3)) dX5_isAhead_49 ?_
    refine lv_topi (fun y_5 ey_5 => ?_)
    have j_5 : y_5.toInt = (av p1.toNatClampNeg).toInt := congrArg Int32.toInt ey_5
    refine lv_icmp_ge (tgt := 57) hx hb dX5_isAhead_50 (by decide) (fun c_6 => ?_) (fun c_6 => ?_)
    · have i_6 : y_5.toInt ≤ y_4.toInt := kc_le c_6
      refine lv_iconst (v := 0) hx hb dX5_isAhead_57 (by decide) ?_
      exact W.zret (v := 0) hx hb hr (by decide) (hlocks := hlocks) (fun t ht hW => ⟨0, rfl, Or.inr (⟨rfl, (Or.inr ⟨(om_245 j_1 j_2 i_3), (om_38 j_4 j_5 i_6)⟩)⟩), ht⟩) (fun q hq => by cases hq) dX5_isAhead_58
    · have i_6 : y_4.toInt < y_5.toInt := kc_nle c_6
      refine lv_iconst (v := 1) hx hb dX5_isAhead_53 (by decide) ?_
      refine lv_goto (tgt := 58) hx hb dX5_isAhead_54 (by decide) ?_
      exact W.zret (v := 1) hx hb hr (by decide) (hlocks := hlocks) (fun t ht hW => ⟨1, rfl, Or.inl ⟨rfl, (Or.inr ⟨(om_245 j_1 j_2 i_3), (om_39 j_4 j_5 i_6)⟩)⟩, ht⟩) (fun q hq => by cases hq) dX5_isAhead_58
  · have i_3 : ¬ y_1.toInt = y_2.toInt := kc_ne c_3
    refine lv_aload_n hx hb dX5_isAhead_15 rfl (lv_at hl 0 rfl) ?_
    refine va_get (D := (dC, dI)) (ci := 5) (v := .ref g_allNumber) (C := RX5) (T := TX5) (N := 30) hx hb hts hi_5 hown hK hP 0 rfl rfl 10 (by decide) hf_35 (fun _ h9 => h9) rfl dX5_isAhead_16 ?_
    refine lv_iload_n hx hb dX5_isAhead_19 rfl (lv_at hl 1 rfl) ?_
    refine va_iald hx hb hK hP 2 0 rfl rfl (ki_in (om_10 b0) (om_30 b1)) dX5_isAhead_20 ?_
    refine lv_topi (fun y_7 ey_7 => ?_)
    have j_7 : y_7.toInt = (an p0.toNatClampNeg).toInt := congrArg Int32.toInt ey_7
    refine lv_aload_n hx hb dX5_isAhead_21 rfl (lv_at hl 0 rfl) ?_
    refine va_get (D := (dC, dI)) (ci := 5) (v := .ref g_allNumber) (C := RX5) (T := TX5) (N := 30) hx hb hts hi_5 hown hK hP 0 rfl rfl 10 (by decide) hf_35 (fun _ h9 => h9) rfl dX5_isAhead_22 ?_
    refine lv_iload_n hx hb dX5_isAhead_25 rfl (lv_at hl 2 rfl) ?_
    refine va_iald hx hb hK hP 2 0 rfl rfl (ki_in (om_10 b2) (om_30 b3)) dX5_isAhead_26 ?_
    refine lv_topi (fun y_8 ey_8 => ?_)
    have j_8 : y_8.toInt = (an p1.toNatClampNeg).toInt := congrArg Int32.toInt ey_8
    refine lv_icmp_le (tgt := 34) hx hb dX5_isAhead_27 (by decide) (fun c_9 => ?_) (fun c_9 => ?_)
    · have i_9 : y_7.toInt ≤ y_8.toInt := kc_le c_9
      refine lv_iconst (v := 0) hx hb dX5_isAhead_34 (by decide) ?_
      refine lv_goto (tgt := 58) hx hb dX5_isAhead_35 (by decide) ?_
      exact W.zret (v := 0) hx hb hr (by decide) (hlocks := hlocks) (fun t ht hW => ⟨0, rfl, Or.inr (⟨rfl, by omega⟩), ht⟩) (fun q hq => by cases hq) dX5_isAhead_58
    · have i_9 : y_8.toInt < y_7.toInt := kc_nle c_9
      refine lv_iconst (v := 1) hx hb dX5_isAhead_30 (by decide) ?_
      refine lv_goto (tgt := 58) hx hb dX5_isAhead_31 (by decide) ?_
      exact W.zret (v := 1) hx hb hr (by decide) (hlocks := hlocks) (fun t ht hW => ⟨1, rfl, Or.inl ⟨rfl, (Or.inl (om_36 j_7 j_8 i_9))⟩, ht⟩) (fun q hq => by cases hq) dX5_isAhead_58

set_option maxHeartbeats 4000000 in
set_option maxRecDepth 100000 in
theorem c_X5_numberOf (l : Launch) (dC : Nat → ClassId) (dI : Nat → Nat → Nat) (h0 : Nat) (g_row : Nat) (g_many : Nat) (g_loss : Nat) (g_less : Nat) (g_voteValue : Nat) (g_voteNumber : Nat) (g_allValue : Nat) (g_allNumber : Nat) (g_nodeL : Nat) (g_nodeR : Nat) (g_part : Nat) (g_wasMany : Nat) (g_wasLoss : Nat) (g_wasValue : Nat) (g_wasNumber : Nat) (g_path : Nat) (g_heavyValue : Nat) (g_heavyTimes : Nat) (g_fewest : Nat) (g_which : Nat) (g_met : Nat) (m_n : Int32) (m_slots : Int32) (m_thrown : Int32) (m_allMany : Int32) (m_nodes : Int32) (m_partMany : Int32) (m_pathMany : Int32) (m_heavyMany : Int32) (m_mostMet : Int32) (cyI : ClassId) (fm : Nat → Int32) (vv : Nat → Int32) (vn : Nat → Int32) (p0 : Int32) (p1 : Int32) (b0 : 0 ≤ p0.toInt) (b1 : p0.toInt < 324) (s4 : six4 fm) : Met l yX5_numberOf wsX5_numberOf ({ frames := 0, cells := 0, slots := 0, locals := 0 }) (va_Pc [.ref h0, .int p0, .int p1] (fun U => va_P (dC, dI) vwCl [kx_5 h0 g_row m_n m_slots m_thrown g_many g_loss g_less g_voteValue g_voteNumber g_allValue g_allNumber m_allMany g_nodeL g_nodeR m_nodes g_part m_partMany g_wasMany g_wasLoss g_wasValue g_wasNumber g_path m_pathMany g_heavyValue g_heavyTimes m_heavyMany g_fewest g_which g_met m_mostMet, kx_a g_many cyI 324 fm, kx_a g_voteValue cyI 1944 vv, kx_a g_voteNumber cyI 1944 vn] U.heap ∧ va_K (dC, dI) vwCl [(cyI, .int)] U)) (vp_Si (fun r : Int32 => True)) 0 0 (fun _ => False) := by
  refine kx_stS (ws := wsX5_numberOf) (cc := cX5_numberOf) (maxL := 4) (ret := (some .int)) (by decide) rfl (Nat.le_of_ble_eq_true rfl) ?_
  intro p e s m below meth c ls hx hb hr hlocks hts hown hml hP hK hl
  have hown : s.vm.findClass RX5 = some m.cls := hown
  have hl : lv_has ls 4 [(0, .ref h0), (1, .int p0), (2, .int p1)] := hl
  have hf_17 := hts (.fieldLink RX5 17 "MajorityIndexModel" "many" "[I") (List.mem_of_getElem? (i := 1) rfl)
  have hi_5 : ∀ w ∈ u_ws RX5 TX5 30, w ∈ wsX5_numberOf := fun w h => List.mem_cons_of_mem _ (List.mem_append_right _ h)
  have hf_26 := hts (.fieldLink RX5 26 "MajorityIndexModel" "voteValue" "[I") (List.mem_of_getElem? (i := 2) rfl)
  have hf_29 := hts (.fieldLink RX5 29 "MajorityIndexModel" "voteNumber" "[I") (List.mem_of_getElem? (i := 3) rfl)
  refine lv_iconst (v := 0) hx hb dX5_numberOf_0 (by decide) ?_
  refine lv_istore_n (lv' := [(3, .int 0), (0, .ref h0), (1, .int p0), (2, .int p1)]) hx hb dX5_numberOf_1 rfl hl (by decide) rfl (fun ls hl => ?_)
  have LP1 : ∀ (n : Nat) (i : Int32), (0 ≤ i.toInt) → (6 - i.toInt).toNat < n → ∀ (ls : Array Slot), lv_has ls 4 [(3, .int i), (0, .ref h0), (1, .int p0), (2, .int p1)] → W p l e (headSpec wsX5_numberOf ({ frames := 0, cells := 0, slots := 0, locals := 0 })).room s m ([.ref h0, .int p0, .int p1] : List Value).toArray below meth c s.heap [] 0 0 (MQ below (vp_Si (fun r : Int32 => True)) ([.ref h0, .int p0, .int p1] : List Value).toArray s 0 0 (fun _ => False)) (F0 m 2 ls []) := by
    intro n
    induction n with
    | zero => intro i LP1_h0 hn; exact absurd hn (Nat.not_lt_zero _)
    | succ n ih1 =>
      intro i LP1_h0 hn1 ls hl
      refine lv_iload_n hx hb dX5_numberOf_2 rfl (lv_at hl 0 rfl) ?_
      refine lv_aload_n hx hb dX5_numberOf_3 rfl (lv_at hl 1 rfl) ?_
      refine va_get (D := (dC, dI)) (ci := 5) (v := .ref g_many) (C := RX5) (T := TX5) (N := 30) hx hb hts hi_5 hown hK hP 0 rfl rfl 4 (by decide) hf_17 (fun _ h9 => h9) rfl dX5_numberOf_4 ?_
      refine lv_iload_n hx hb dX5_numberOf_7 rfl (lv_at hl 2 rfl) ?_
      refine va_iald hx hb hK hP 1 0 rfl rfl (ki_in (om_10 b0) (om_246 b1)) dX5_numberOf_8 ?_
      refine lv_topi (fun y_1 ey_1 => ?_)
      have j_1 : y_1.toInt = (fm p0.toNatClampNeg).toInt := congrArg Int32.toInt ey_1
      have n_2 : (p0.toNatClampNeg : Int) = p0.toInt := ki_nat _ rfl (om_10 b0)
      have i_3 := s4 p0.toNatClampNeg (om_ln n_2 (om_246 b1))
      refine lv_icmp_ge (tgt := 45) hx hb dX5_numberOf_9 (by decide) (fun c_4 => ?_) (fun c_4 => ?_)
      · have i_4 : y_1.toInt ≤ i.toInt := kc_le c_4
        refine lv_iconst (v := 0) hx hb dX5_numberOf_45 (by decide) ?_
        exact W.iret (v := 0) hx hb hr (hlocks := hlocks) (fun t ht hW => ⟨0, rfl, trivial, ht⟩) (fun q hq => by cases hq) dX5_numberOf_46
      · have i_4 : i.toInt < y_1.toInt := kc_nle c_4
        refine lv_aload_n hx hb dX5_numberOf_12 rfl (lv_at hl 1 rfl) ?_
        refine va_get (D := (dC, dI)) (ci := 5) (v := .ref g_voteValue) (C := RX5) (T := TX5) (N := 30) hx hb hts hi_5 hown hK hP 0 rfl rfl 7 (by decide) hf_26 (fun _ h9 => h9) rfl dX5_numberOf_13 ?_
        refine lv_bipush (v := 6) hx hb dX5_numberOf_16 (by decide) ?_
        refine lv_iload_n hx hb dX5_numberOf_18 rfl (lv_at hl 2 rfl) ?_
        refine lv_imul hx hb dX5_numberOf_19 ?_
        refine lv_topi (fun y_5 ey_5 => ?_)
        have i_5 : y_5.toInt = 6 * p0.toInt := ki_mul ey_5 rfl rfl (om_247 b0) (om_248 b1)
        refine lv_iload_n hx hb dX5_numberOf_20 rfl (lv_at hl 0 rfl) ?_
        refine lv_iadd hx hb dX5_numberOf_21 ?_
        refine lv_topi (fun y_6 ey_6 => ?_)
        have i_6 : y_6.toInt = y_5.toInt + i.toInt := ki_add ey_6 rfl rfl (om_251 b0 LP1_h0 i_5) (om_252 b1 j_1 i_3.2 i_4 i_5)
        refine va_iald hx hb hK hP 2 0 rfl rfl (ki_in (om_253 b0 LP1_h0 i_5 i_6) (om_254 b1 j_1 i_3.2 i_4 i_5 i_6)) dX5_numberOf_22 ?_
        refine lv_topi (fun y_7 ey_7 => ?_)
        have j_7 : y_7.toInt = (vv y_6.toNatClampNeg).toInt := congrArg Int32.toInt ey_7
        refine lv_iload_n hx hb dX5_numberOf_23 rfl (lv_at hl 3 rfl) ?_
        refine lv_icmp_ne (tgt := 39) hx hb dX5_numberOf_24 (by decide) (fun c_8 => ?_) (fun c_8 => ?_)
        · have i_8 : ¬ y_7.toInt = p1.toInt := kc_ne c_8
          obtain ⟨x_9, ex_9⟩ : ∃ y : Int32, y = i + 1 := ⟨_, rfl⟩
          have i_9 : x_9.toInt = i.toInt + 1 := ki_add ex_9 rfl rfl (om_13 LP1_h0) (om_101 j_1 i_3.2 i_4)
          refine lv_iinc (v := x_9) (lv' := [(3, .int x_9), (0, .ref h0), (1, .int p0), (2, .int p1)]) hx hb dX5_numberOf_39 hl (k := 0) rfl (by rw [ex_9]; rfl) (by decide) rfl (fun ls hl => ?_)
          refine lv_goto (tgt := 2) hx hb dX5_numberOf_42 (by decide) ?_
          exact ih1 x_9 (om_34 LP1_h0 i_9) (om_mu hn1 (om_102 i_9) (om_103 j_1 i_3.2 i_4)) ls (lv_sub hl [0, 1, 2, 3] rfl)
        · have i_8 : y_7.toInt = p1.toInt := kc_eq c_8
          refine lv_aload_n hx hb dX5_numberOf_27 rfl (lv_at hl 1 rfl) ?_
          refine va_get (D := (dC, dI)) (ci := 5) (v := .ref g_voteNumber) (C := RX5) (T := TX5) (N := 30) hx hb hts hi_5 hown hK hP 0 rfl rfl 8 (by decide) hf_29 (fun _ h9 => h9) rfl dX5_numberOf_28 ?_
          refine lv_bipush (v := 6) hx hb dX5_numberOf_31 (by decide) ?_
          refine lv_iload_n hx hb dX5_numberOf_33 rfl (lv_at hl 2 rfl) ?_
          refine lv_imul hx hb dX5_numberOf_34 ?_
          refine lv_topi (fun y_10 ey_10 => ?_)
          have i_10 : y_10.toInt = 6 * p0.toInt := ki_mul ey_10 rfl rfl (om_247 b0) (om_248 b1)
          refine lv_iload_n hx hb dX5_numberOf_35 rfl (lv_at hl 0 rfl) ?_
          refine lv_iadd hx hb dX5_numberOf_36 ?_
          refine lv_topi (fun y_11 ey_11 => ?_)
          have i_11 : y_11.toInt = y_10.toInt + i.toInt := ki_add ey_11 rfl rfl (om_251 b0 LP1_h0 i_10) (om_252 b1 j_1 i_3.2 i_4 i_10)
          refine va_iald hx hb hK hP 3 0 rfl rfl (ki_in (om_253 b0 LP1_h0 i_10 i_11) (om_254 b1 j_1 i_3.2 i_4 i_10 i_11)) dX5_numberOf_37 ?_
          refine lv_topi (fun y_12 ey_12 => ?_)
          have j_12 : y_12.toInt = (vn y_11.toNatClampNeg).toInt := congrArg Int32.toInt ey_12
          exact W.iret (v := y_12) hx hb hr (hlocks := hlocks) (fun t ht hW => ⟨y_12, rfl, trivial, ht⟩) (fun q hq => by cases hq) dX5_numberOf_38
  have k_13 : (0 : Int32).toInt = 0 := rfl
  exact LP1 ((6 - 0 : Int).toNat + 1) 0 om_35 (Nat.lt_succ_self _) ls (lv_sub hl [0, 1, 2, 3] rfl)

set_option maxHeartbeats 4000000 in
set_option maxRecDepth 100000 in
theorem c_X5_numbersOf (l : Launch) (dC : Nat → ClassId) (dI : Nat → Nat → Nat) (h0 : Nat) (g_row : Nat) (g_many : Nat) (g_loss : Nat) (g_less : Nat) (g_voteValue : Nat) (g_voteNumber : Nat) (g_allValue : Nat) (g_allNumber : Nat) (g_nodeL : Nat) (g_nodeR : Nat) (g_part : Nat) (g_wasMany : Nat) (g_wasLoss : Nat) (g_wasValue : Nat) (g_wasNumber : Nat) (g_path : Nat) (g_heavyValue : Nat) (g_heavyTimes : Nat) (g_fewest : Nat) (g_which : Nat) (g_met : Nat) (m_n : Int32) (m_slots : Int32) (m_thrown : Int32) (m_allMany : Int32) (m_nodes : Int32) (m_partMany : Int32) (m_pathMany : Int32) (m_heavyMany : Int32) (m_mostMet : Int32) (cyI : ClassId) (fm : Nat → Int32) (vn : Nat → Int32) (p0 : Int32) (b0 : 0 ≤ p0.toInt) (b1 : p0.toInt < 324) (s4 : six4 fm) : Met l yX5_numbersOf wsX5_numbersOf ({ frames := 0, cells := 0, slots := 0, locals := 0 }) (va_Pc [.ref h0, .int p0] (fun U => va_P (dC, dI) vwCl [kx_5 h0 g_row m_n m_slots m_thrown g_many g_loss g_less g_voteValue g_voteNumber g_allValue g_allNumber m_allMany g_nodeL g_nodeR m_nodes g_part m_partMany g_wasMany g_wasLoss g_wasValue g_wasNumber g_path m_pathMany g_heavyValue g_heavyTimes m_heavyMany g_fewest g_which g_met m_mostMet, kx_a g_many cyI 324 fm, kx_a g_voteNumber cyI 1944 vn] U.heap ∧ va_K (dC, dI) vwCl [(cyI, .int)] U)) (vp_Si (fun r : Int32 => True)) 0 0 (fun _ => False) := by
  refine kx_stS (ws := wsX5_numbersOf) (cc := cX5_numbersOf) (maxL := 4) (ret := (some .int)) (by decide) rfl (Nat.le_of_ble_eq_true rfl) ?_
  intro p e s m below meth c ls hx hb hr hlocks hts hown hml hP hK hl
  have hown : s.vm.findClass RX5 = some m.cls := hown
  have hl : lv_has ls 4 [(0, .ref h0), (1, .int p0)] := hl
  have hf_17 := hts (.fieldLink RX5 17 "MajorityIndexModel" "many" "[I") (List.mem_of_getElem? (i := 1) rfl)
  have hi_5 : ∀ w ∈ u_ws RX5 TX5 30, w ∈ wsX5_numbersOf := fun w h => List.mem_cons_of_mem _ (List.mem_append_right _ h)
  have hf_29 := hts (.fieldLink RX5 29 "MajorityIndexModel" "voteNumber" "[I") (List.mem_of_getElem? (i := 2) rfl)
  refine lv_iconst (v := 0) hx hb dX5_numbersOf_0 (by decide) ?_
  refine lv_istore_n (lv' := [(2, .int 0), (0, .ref h0), (1, .int p0)]) hx hb dX5_numbersOf_1 rfl hl (by decide) rfl (fun ls hl => ?_)
  refine lv_iconst (v := 0) hx hb dX5_numbersOf_2 (by decide) ?_
  refine lv_istore_n (lv' := [(3, .int 0), (2, .int 0), (0, .ref h0), (1, .int p0)]) hx hb dX5_numbersOf_3 rfl hl (by decide) rfl (fun ls hl => ?_)
  have LP1 : ∀ (n : Nat) (i : Int32) (sm : Int32), (0 ≤ i.toInt) → (6 - i.toInt).toNat < n → ∀ (ls : Array Slot), lv_has ls 4 [(3, .int i), (2, .int sm), (0, .ref h0), (1, .int p0)] → W p l e (headSpec wsX5_numbersOf ({ frames := 0, cells := 0, slots := 0, locals := 0 })).room s m ([.ref h0, .int p0] : List Value).toArray below meth c s.heap [] 0 0 (MQ below (vp_Si (fun r : Int32 => True)) ([.ref h0, .int p0] : List Value).toArray s 0 0 (fun _ => False)) (F0 m 4 ls []) := by
    intro n
    induction n with
    | zero => intro i sm LP1_h0 hn; exact absurd hn (Nat.not_lt_zero _)
    | succ n ih1 =>
      intro i sm LP1_h0 hn1 ls hl
      refine lv_iload_n hx hb dX5_numbersOf_4 rfl (lv_at hl 0 rfl) ?_
      refine lv_aload_n hx hb dX5_numbersOf_5 rfl (lv_at hl 2 rfl) ?_
      refine va_get (D := (dC, dI)) (ci := 5) (v := .ref g_many) (C := RX5) (T := TX5) (N := 30) hx hb hts hi_5 hown hK hP 0 rfl rfl 4 (by decide) hf_17 (fun _ h9 => h9) rfl dX5_numbersOf_6 ?_
      refine lv_iload_n hx hb dX5_numbersOf_9 rfl (lv_at hl 3 rfl) ?_
      refine va_iald hx hb hK hP 1 0 rfl rfl (ki_in (om_10 b0) (om_246 b1)) dX5_numbersOf_10 ?_
      refine lv_topi (fun y_1 ey_1 => ?_)
      have j_1 : y_1.toInt = (fm p0.toNatClampNeg).toInt := congrArg Int32.toInt ey_1
      have n_2 : (p0.toNatClampNeg : Int) = p0.toInt := ki_nat _ rfl (om_10 b0)
      have i_3 := s4 p0.toNatClampNeg (om_ln n_2 (om_246 b1))
      refine lv_icmp_ge (tgt := 34) hx hb dX5_numbersOf_11 (by decide) (fun c_4 => ?_) (fun c_4 => ?_)
      · have i_4 : y_1.toInt ≤ i.toInt := kc_le c_4
        refine lv_iload_n hx hb dX5_numbersOf_34 rfl (lv_at hl 1 rfl) ?_
        exact W.iret (v := sm) hx hb hr (hlocks := hlocks) (fun t ht hW => ⟨sm, rfl, trivial, ht⟩) (fun q hq => by cases hq) dX5_numbersOf_35
      · have i_4 : i.toInt < y_1.toInt := kc_nle c_4
        refine lv_iload_n hx hb dX5_numbersOf_14 rfl (lv_at hl 1 rfl) ?_
        refine lv_aload_n hx hb dX5_numbersOf_15 rfl (lv_at hl 2 rfl) ?_
        refine va_get (D := (dC, dI)) (ci := 5) (v := .ref g_voteNumber) (C := RX5) (T := TX5) (N := 30) hx hb hts hi_5 hown hK hP 0 rfl rfl 8 (by decide) hf_29 (fun _ h9 => h9) rfl dX5_numbersOf_16 ?_
        refine lv_bipush (v := 6) hx hb dX5_numbersOf_19 (by decide) ?_
        refine lv_iload_n hx hb dX5_numbersOf_21 rfl (lv_at hl 3 rfl) ?_
        refine lv_imul hx hb dX5_numbersOf_22 ?_
        refine lv_topi (fun y_5 ey_5 => ?_)
        have i_5 : y_5.toInt = 6 * p0.toInt := ki_mul ey_5 rfl rfl (om_247 b0) (om_248 b1)
        refine lv_iload_n hx hb dX5_numbersOf_23 rfl (lv_at hl 0 rfl) ?_
        refine lv_iadd hx hb dX5_numbersOf_24 ?_
        refine lv_topi (fun y_6 ey_6 => ?_)
        have i_6 : y_6.toInt = y_5.toInt + i.toInt := ki_add ey_6 rfl rfl (om_251 b0 LP1_h0 i_5) (om_252 b1 j_1 i_3.2 i_4 i_5)
        refine va_iald hx hb hK hP 2 0 rfl rfl (ki_in (om_253 b0 LP1_h0 i_5 i_6) (om_254 b1 j_1 i_3.2 i_4 i_5 i_6)) dX5_numbersOf_25 ?_
        refine lv_topi (fun y_7 ey_7 => ?_)
        have j_7 : y_7.toInt = (vn y_6.toNatClampNeg).toInt := congrArg Int32.toInt ey_7
        refine lv_iadd hx hb dX5_numbersOf_26 ?_
        refine lv_topi (fun y_8 ey_8 => ?_)
        refine lv_istore_n (lv' := [(2, .int y_8), (3, .int i), (0, .ref h0), (1, .int p0)]) hx hb dX5_numbersOf_27 rfl hl (by decide) rfl (fun ls hl => ?_)
        obtain ⟨x_9, ex_9⟩ : ∃ y : Int32, y = i + 1 := ⟨_, rfl⟩
        have i_9 : x_9.toInt = i.toInt + 1 := ki_add ex_9 rfl rfl (om_13 LP1_h0) (om_101 j_1 i_3.2 i_4)
        refine lv_iinc (v := x_9) (lv' := [(3, .int x_9), (2, .int y_8), (0, .ref h0), (1, .int p0)]) hx hb dX5_numbersOf_28 hl (k := 1) rfl (by rw [ex_9]; rfl) (by decide) rfl (fun ls hl => ?_)
        refine lv_goto (tgt := 4) hx hb dX5_numbersOf_31 (by decide) ?_
        exact ih1 x_9 y_8 (om_34 LP1_h0 i_9) (om_mu hn1 (om_102 i_9) (om_103 j_1 i_3.2 i_4)) ls (lv_sub hl [0, 1, 2, 3] rfl)
  have k_10 : (0 : Int32).toInt = 0 := rfl
  have k_11 : (0 : Int32).toInt = 0 := rfl
  exact LP1 ((6 - 0 : Int).toNat + 1) 0 0 om_35 (Nat.lt_succ_self _) ls (lv_sub hl [0, 1, 2, 3] rfl)

set_option maxHeartbeats 4000000 in
set_option maxRecDepth 100000 in
theorem c_X5_nodeOf (l : Launch) (dC : Nat → ClassId) (dI : Nat → Nat → Nat) (h0 : Nat) (g_row : Nat) (g_many : Nat) (g_loss : Nat) (g_less : Nat) (g_voteValue : Nat) (g_voteNumber : Nat) (g_allValue : Nat) (g_allNumber : Nat) (g_nodeL : Nat) (g_nodeR : Nat) (g_part : Nat) (g_wasMany : Nat) (g_wasLoss : Nat) (g_wasValue : Nat) (g_wasNumber : Nat) (g_path : Nat) (g_heavyValue : Nat) (g_heavyTimes : Nat) (g_fewest : Nat) (g_which : Nat) (g_met : Nat) (m_n : Int32) (m_slots : Int32) (m_thrown : Int32) (m_allMany : Int32) (m_nodes : Int32) (m_partMany : Int32) (m_pathMany : Int32) (m_heavyMany : Int32) (m_mostMet : Int32) (cyI : ClassId) (nl : Nat → Int32) (nr : Nat → Int32) (p0 : Int32) (p1 : Int32) (b0 : 0 ≤ m_nodes.toInt) (b1 : m_nodes.toInt ≤ 320) : Met l yX5_nodeOf wsX5_nodeOf ({ frames := 0, cells := 0, slots := 0, locals := 0 }) (va_Pc [.ref h0, .int p0, .int p1] (fun U => va_P (dC, dI) vwCl [kx_5 h0 g_row m_n m_slots m_thrown g_many g_loss g_less g_voteValue g_voteNumber g_allValue g_allNumber m_allMany g_nodeL g_nodeR m_nodes g_part m_partMany g_wasMany g_wasLoss g_wasValue g_wasNumber g_path m_pathMany g_heavyValue g_heavyTimes m_heavyMany g_fewest g_which g_met m_mostMet, kx_a g_nodeL cyI 320 nl, kx_a g_nodeR cyI 320 nr] U.heap ∧ va_K (dC, dI) vwCl [(cyI, .int)] U)) (vp_Si (fun r : Int32 => (r.toInt = -2 ∨ (0 ≤ r.toInt ∧ r.toInt < m_nodes.toInt)))) 0 0 (fun _ => False) := by
  refine kx_stS (ws := wsX5_nodeOf) (cc := cX5_nodeOf) (maxL := 4) (ret := (some .int)) (by decide) rfl (Nat.le_of_ble_eq_true rfl) ?_
  intro p e s m below meth c ls hx hb hr hlocks hts hown hml hP hK hl
  have hown : s.vm.findClass RX5 = some m.cls := hown
  have hl : lv_has ls 4 [(0, .ref h0), (1, .int p0), (2, .int p1)] := hl
  have hf_101 := hts (.fieldLink RX5 101 "MajorityIndexModel" "nodes" "I") (List.mem_of_getElem? (i := 1) rfl)
  have hi_5 : ∀ w ∈ u_ws RX5 TX5 30, w ∈ wsX5_nodeOf := fun w h => List.mem_cons_of_mem _ (List.mem_append_right _ h)
  have hf_38 := hts (.fieldLink RX5 38 "MajorityIndexModel" "nodeL" "[I") (List.mem_of_getElem? (i := 2) rfl)
  have hf_41 := hts (.fieldLink RX5 41 "MajorityIndexModel" "nodeR" "[I") (List.mem_of_getElem? (i := 3) rfl)
  refine lv_iconst (v := 0) hx hb dX5_nodeOf_0 (by decide) ?_
  refine lv_istore_n (lv' := [(3, .int 0), (0, .ref h0), (1, .int p0), (2, .int p1)]) hx hb dX5_nodeOf_1 rfl hl (by decide) rfl (fun ls hl => ?_)
  have LP1 : ∀ (n : Nat) (i : Int32), (0 ≤ i.toInt) → (m_nodes.toInt - i.toInt).toNat < n → ∀ (ls : Array Slot), lv_has ls 4 [(3, .int i), (0, .ref h0), (1, .int p0), (2, .int p1)] → W p l e (headSpec wsX5_nodeOf ({ frames := 0, cells := 0, slots := 0, locals := 0 })).room s m ([.ref h0, .int p0, .int p1] : List Value).toArray below meth c s.heap [] 0 0 (MQ below (vp_Si (fun r : Int32 => (r.toInt = -2 ∨ (0 ≤ r.toInt ∧ r.toInt < m_nodes.toInt)))) ([.ref h0, .int p0, .int p1] : List Value).toArray s 0 0 (fun _ => False)) (F0 m 2 ls []) := by
    intro n
    induction n with
    | zero => intro i LP1_h0 hn; exact absurd hn (Nat.not_lt_zero _)
    | succ n ih1 =>
      intro i LP1_h0 hn1 ls hl
      refine lv_iload_n hx hb dX5_nodeOf_2 rfl (lv_at hl 0 rfl) ?_
      refine lv_aload_n hx hb dX5_nodeOf_3 rfl (lv_at hl 1 rfl) ?_
      refine va_get (D := (dC, dI)) (ci := 5) (v := .int m_nodes) (C := RX5) (T := TX5) (N := 30) hx hb hts hi_5 hown hK hP 0 rfl rfl 14 (by decide) hf_101 (fun _ h9 => h9) rfl dX5_nodeOf_4 ?_
      refine lv_icmp_ge (tgt := 38) hx hb dX5_nodeOf_7 (by decide) (fun c_1 => ?_) (fun c_1 => ?_)
      · have i_1 : m_nodes.toInt ≤ i.toInt := kc_le c_1
        refine lv_bipush (v := (-2)) hx hb dX5_nodeOf_38 (by decide) ?_
        exact W.iret (v := (-2)) hx hb hr (hlocks := hlocks) (fun t ht hW => ⟨(-2), rfl, (Or.inl rfl), ht⟩) (fun q hq => by cases hq) dX5_nodeOf_40
      · have i_1 : i.toInt < m_nodes.toInt := kc_nle c_1
        refine lv_aload_n hx hb dX5_nodeOf_10 rfl (lv_at hl 1 rfl) ?_
        refine va_get (D := (dC, dI)) (ci := 5) (v := .ref g_nodeL) (C := RX5) (T := TX5) (N := 30) hx hb hts hi_5 hown hK hP 0 rfl rfl 12 (by decide) hf_38 (fun _ h9 => h9) rfl dX5_nodeOf_11 ?_
        refine lv_iload_n hx hb dX5_nodeOf_14 rfl (lv_at hl 0 rfl) ?_
        refine va_iald hx hb hK hP 1 0 rfl rfl (ki_in (om_10 LP1_h0) (om_255 b1 i_1)) dX5_nodeOf_15 ?_
        refine lv_topi (fun y_2 ey_2 => ?_)
        have j_2 : y_2.toInt = (nl i.toNatClampNeg).toInt := congrArg Int32.toInt ey_2
        refine lv_iload_n hx hb dX5_nodeOf_16 rfl (lv_at hl 2 rfl) ?_
        refine lv_icmp_ne (tgt := 32) hx hb dX5_nodeOf_17 (by decide) (fun c_3 => ?_) (fun c_3 => ?_)
        · have i_3 : ¬ y_2.toInt = p0.toInt := kc_ne c_3
          obtain ⟨x_4, ex_4⟩ : ∃ y : Int32, y = i + 1 := ⟨_, rfl⟩
          have i_4 : x_4.toInt = i.toInt + 1 := ki_add ex_4 rfl rfl (om_13 LP1_h0) (om_256 b1 i_1)
          refine lv_iinc (v := x_4) (lv' := [(3, .int x_4), (0, .ref h0), (1, .int p0), (2, .int p1)]) hx hb dX5_nodeOf_32 hl (k := 0) rfl (by rw [ex_4]; rfl) (by decide) rfl (fun ls hl => ?_)
          refine lv_goto (tgt := 2) hx hb dX5_nodeOf_35 (by decide) ?_
          exact ih1 x_4 (om_34 LP1_h0 i_4) (om_mu hn1 (om_5 i_4) (om_6 i_1)) ls (lv_sub hl [0, 1, 2, 3] rfl)
        · have i_3 : y_2.toInt = p0.toInt := kc_eq c_3
          refine lv_aload_n hx hb dX5_nodeOf_20 rfl (lv_at hl 1 rfl) ?_
          refine va_get (D := (dC, dI)) (ci := 5) (v := .ref g_nodeR) (C := RX5) (T := TX5) (N := 30) hx hb hts hi_5 hown hK hP 0 rfl rfl 13 (by decide) hf_41 (fun _ h9 => h9) rfl dX5_nodeOf_21 ?_
          refine lv_iload_n hx hb dX5_nodeOf_24 rfl (lv_at hl 0 rfl) ?_
          refine va_iald hx hb hK hP 2 0 rfl rfl (ki_in (om_10 LP1_h0) (om_255 b1 i_1)) dX5_nodeOf_25 ?_
          refine lv_topi (fun y_5 ey_5 => ?_)
          have j_5 : y_5.toInt = (nr i.toNatClampNeg).toInt := congrArg Int32.toInt ey_5
          refine lv_iload_n hx hb dX5_nodeOf_26 rfl (lv_at hl 3 rfl) ?_
          refine lv_icmp_ne (tgt := 32) hx hb dX5_nodeOf_27 (by decide) (fun c_6 => ?_) (fun c_6 => ?_)
          · have i_6 : ¬ y_5.toInt = p1.toInt := kc_ne c_6
            obtain ⟨x_7, ex_7⟩ : ∃ y : Int32, y = i + 1 := ⟨_, rfl⟩
            have i_7 : x_7.toInt = i.toInt + 1 := ki_add ex_7 rfl rfl (om_13 LP1_h0) (om_256 b1 i_1)
            refine lv_iinc (v := x_7) (lv' := [(3, .int x_7), (0, .ref h0), (1, .int p0), (2, .int p1)]) hx hb dX5_nodeOf_32 hl (k := 0) rfl (by rw [ex_7]; rfl) (by decide) rfl (fun ls hl => ?_)
            refine lv_goto (tgt := 2) hx hb dX5_nodeOf_35 (by decide) ?_
            exact ih1 x_7 (om_34 LP1_h0 i_7) (om_mu hn1 (om_5 i_7) (om_6 i_1)) ls (lv_sub hl [0, 1, 2, 3] rfl)
          · have i_6 : y_5.toInt = p1.toInt := kc_eq c_6
            refine lv_iload_n hx hb dX5_nodeOf_30 rfl (lv_at hl 0 rfl) ?_
            exact W.iret (v := i) hx hb hr (hlocks := hlocks) (fun t ht hW => ⟨i, rfl, (by (try dsimp only); omega), ht⟩) (fun q hq => by cases hq) dX5_nodeOf_31
  have k_8 : (0 : Int32).toInt = 0 := rfl
  exact LP1 ((m_nodes.toInt - 0 : Int).toNat + 1) 0 om_35 (Nat.lt_succ_self _) ls (lv_sub hl [0, 1, 2, 3] rfl)



abbrev cX5_parted : ByteArray := prog_7_method_67_code
def yX5_parted : MethodName := ⟨RX5, "parted", "(II)I"⟩
abbrev cX5_laysNumbers : ByteArray := prog_7_method_69_code
def yX5_laysNumbers : MethodName := ⟨RX5, "laysNumbers", "()V"⟩
abbrev cX5_begins : ByteArray := prog_7_method_70_code
def yX5_begins : MethodName := ⟨RX5, "begins", "()V"⟩
abbrev cX5_goesOn : ByteArray := prog_7_method_71_code
def yX5_goesOn : MethodName := ⟨RX5, "goesOn", "(II)Z"⟩
abbrev cX5_majorities : ByteArray := prog_7_method_72_code
def yX5_majorities : MethodName := ⟨RX5, "majorities", "()I"⟩
def wsX5_laysNumbers : List Cond := .code yX5_laysNumbers cX5_laysNumbers 5 none :: ([.fieldLink RX5 84 "MajorityIndexModel" "n" "I", .fieldLink RX5 7 "MajorityIndexModel" "row" "[I", .fieldLink RX5 71 "MajorityIndexModel" "which" "[I"] ++ wsX50)
def wsX5_begins : List Cond := .code yX5_begins cX5_begins 2 none :: ([.fieldLink RX5 84 "MajorityIndexModel" "n" "I", .fieldLink RX5 74 "MajorityIndexModel" "met" "[I", .fieldLink RX5 210 "MajorityIndexModel" "mostMet" "I"] ++ wsX50)
def wsX5_goesOn : List Cond := .code yX5_goesOn cX5_goesOn 4 (some .boolean) :: ([.fieldLink RX5 71 "MajorityIndexModel" "which" "[I", .fieldLink RX5 74 "MajorityIndexModel" "met" "[I", .fieldLink RX5 210 "MajorityIndexModel" "mostMet" "I"] ++ wsX50)
def wsX5_parted : List Cond := .code yX5_parted cX5_parted 5 (some .int) :: ([.fieldLink RX5 77 "MajorityIndexModel" "thrown" "I", .fieldLink RX5 68 "MajorityIndexModel" "fewest" "[I", .methodLink RX5 142 yX5_isRange, .instanceMethod yX5_isRange, .selects RX5 yX5_isRange yX5_isRange, .initialized RX5, .code yX5_isRange cX5_isRange 3 (some .boolean), .fieldLink RX5 84 "MajorityIndexModel" "n" "I", .methodLink RX5 201 yX5_laysNumbers, .instanceMethod yX5_laysNumbers, .selects RX5 yX5_laysNumbers yX5_laysNumbers, .code yX5_laysNumbers cX5_laysNumbers 5 none, .fieldLink RX5 7 "MajorityIndexModel" "row" "[I", .fieldLink RX5 71 "MajorityIndexModel" "which" "[I", .methodLink RX5 204 yX5_begins, .instanceMethod yX5_begins, .selects RX5 yX5_begins yX5_begins, .code yX5_begins cX5_begins 2 none, .fieldLink RX5 74 "MajorityIndexModel" "met" "[I", .fieldLink RX5 210 "MajorityIndexModel" "mostMet" "I", .methodLink RX5 207 yX5_goesOn, .instanceMethod yX5_goesOn, .selects RX5 yX5_goesOn yX5_goesOn, .code yX5_goesOn cX5_goesOn 4 (some .boolean)] ++ wsX50)
def wsX5_majorities : List Cond := .code yX5_majorities cX5_majorities 4 (some .int) :: ([.fieldLink RX5 77 "MajorityIndexModel" "thrown" "I", .fieldLink RX5 84 "MajorityIndexModel" "n" "I", .methodLink RX5 201 yX5_laysNumbers, .instanceMethod yX5_laysNumbers, .selects RX5 yX5_laysNumbers yX5_laysNumbers, .initialized RX5, .code yX5_laysNumbers cX5_laysNumbers 5 none, .fieldLink RX5 7 "MajorityIndexModel" "row" "[I", .fieldLink RX5 71 "MajorityIndexModel" "which" "[I", .methodLink RX5 204 yX5_begins, .instanceMethod yX5_begins, .selects RX5 yX5_begins yX5_begins, .code yX5_begins cX5_begins 2 none, .fieldLink RX5 74 "MajorityIndexModel" "met" "[I", .fieldLink RX5 210 "MajorityIndexModel" "mostMet" "I", .methodLink RX5 207 yX5_goesOn, .instanceMethod yX5_goesOn, .selects RX5 yX5_goesOn yX5_goesOn, .code yX5_goesOn cX5_goesOn 4 (some .boolean)] ++ wsX50)
set_option maxRecDepth 20000 in
theorem ggX5_parted_X5_isRange : GoodIn wsX5_parted wsX5_isRange := goodIn_r _ [7, 8, 25, 26, 27, 28, 29, 30, 31, 32, 33, 34, 35, 36, 37, 38, 39, 40, 41, 42, 43, 44, 45, 46, 47, 48, 49, 50, 51, 52, 53, 54] rfl (by decide +kernel)
set_option maxRecDepth 20000 in
theorem gX5_parted_X5_isRange : GoodIn wsX5_parted (wsV RX5 142 RX5 yX5_isRange wsX5_isRange) := goodIn_app (goodIn_r _ [3, 4, 5, 6] rfl (by decide +kernel)) ggX5_parted_X5_isRange
set_option maxRecDepth 20000 in
theorem ggX5_parted_X5_laysNumbers : GoodIn wsX5_parted wsX5_laysNumbers := goodIn_r _ [12, 8, 13, 14, 25, 26, 27, 28, 29, 30, 31, 32, 33, 34, 35, 36, 37, 38, 39, 40, 41, 42, 43, 44, 45, 46, 47, 48, 49, 50, 51, 52, 53, 54] rfl (by decide +kernel)
set_option maxRecDepth 20000 in
theorem gX5_parted_X5_laysNumbers : GoodIn wsX5_parted (wsV RX5 201 RX5 yX5_laysNumbers wsX5_laysNumbers) := goodIn_app (goodIn_r _ [9, 10, 11, 6] rfl (by decide +kernel)) ggX5_parted_X5_laysNumbers
set_option maxRecDepth 20000 in
theorem ggX5_parted_X5_begins : GoodIn wsX5_parted wsX5_begins := goodIn_r _ [18, 8, 19, 20, 25, 26, 27, 28, 29, 30, 31, 32, 33, 34, 35, 36, 37, 38, 39, 40, 41, 42, 43, 44, 45, 46, 47, 48, 49, 50, 51, 52, 53, 54] rfl (by decide +kernel)
set_option maxRecDepth 20000 in
theorem gX5_parted_X5_begins : GoodIn wsX5_parted (wsV RX5 204 RX5 yX5_begins wsX5_begins) := goodIn_app (goodIn_r _ [15, 16, 17, 6] rfl (by decide +kernel)) ggX5_parted_X5_begins
set_option maxRecDepth 20000 in
theorem ggX5_parted_X5_goesOn : GoodIn wsX5_parted wsX5_goesOn := goodIn_r _ [24, 14, 19, 20, 25, 26, 27, 28, 29, 30, 31, 32, 33, 34, 35, 36, 37, 38, 39, 40, 41, 42, 43, 44, 45, 46, 47, 48, 49, 50, 51, 52, 53, 54] rfl (by decide +kernel)
set_option maxRecDepth 20000 in
theorem gX5_parted_X5_goesOn : GoodIn wsX5_parted (wsV RX5 207 RX5 yX5_goesOn wsX5_goesOn) := goodIn_app (goodIn_r _ [21, 22, 23, 6] rfl (by decide +kernel)) ggX5_parted_X5_goesOn
def dt_cX5_parted_0 : List (Nat × Nat × Nat × Nat) := [(0, 42, 0, 0), (1, 3, 0, 0), (2, 181, 2, 77), (5, 42, 0, 0), (6, 27, 0, 0), (7, 28, 0, 0), (8, 182, 2, 142), (11, 154, 2, 5), (14, 2, 0, 0), (15, 172, 0, 0), (16, 42, 0, 0), (17, 182, 2, 201), (20, 42, 0, 0), (21, 180, 2, 68), (24, 28, 0, 0), (25, 3, 0, 0), (26, 79, 0, 0), (27, 28, 0, 0), (28, 4, 0, 0), (29, 100, 0, 0)]
theorem da_cX5_parted_0 : fw dt_cX5_parted_0 0 cX5_parted.data.toList = true := by decide +kernel
theorem dX5_parted_0 : decode cX5_parted 0 = .ok (.aload_n 0, 1) := fo_42 (fw_get da_cX5_parted_0 0 rfl)
theorem dX5_parted_1 : decode cX5_parted 1 = .ok (.iconst 0, 1) := fo_3 (fw_get da_cX5_parted_0 1 rfl)
theorem dX5_parted_2 : decode cX5_parted 2 = .ok (.putfield 77, 3) := fo_181 (fw_get da_cX5_parted_0 2 rfl)
theorem dX5_parted_5 : decode cX5_parted 5 = .ok (.aload_n 0, 1) := fo_42 (fw_get da_cX5_parted_0 3 rfl)
theorem dX5_parted_6 : decode cX5_parted 6 = .ok (.iload_n 1, 1) := fo_27 (fw_get da_cX5_parted_0 4 rfl)
theorem dX5_parted_7 : decode cX5_parted 7 = .ok (.iload_n 2, 1) := fo_28 (fw_get da_cX5_parted_0 5 rfl)
theorem dX5_parted_8 : decode cX5_parted 8 = .ok (.invokevirtual 142, 3) := fo_182 (fw_get da_cX5_parted_0 6 rfl)
theorem dX5_parted_11 : decode cX5_parted 11 = .ok (.ifCond .ne 5, 3) := fo_154 (fw_get da_cX5_parted_0 7 rfl) (by decide +kernel)
theorem dX5_parted_14 : decode cX5_parted 14 = .ok (.iconst (-1), 1) := fo_2 (fw_get da_cX5_parted_0 8 rfl)
theorem dX5_parted_15 : decode cX5_parted 15 = .ok (.ireturn, 1) := fo_172 (fw_get da_cX5_parted_0 9 rfl)
theorem dX5_parted_16 : decode cX5_parted 16 = .ok (.aload_n 0, 1) := fo_42 (fw_get da_cX5_parted_0 10 rfl)
theorem dX5_parted_17 : decode cX5_parted 17 = .ok (.invokevirtual 201, 3) := fo_182 (fw_get da_cX5_parted_0 11 rfl)
theorem dX5_parted_20 : decode cX5_parted 20 = .ok (.aload_n 0, 1) := fo_42 (fw_get da_cX5_parted_0 12 rfl)
theorem dX5_parted_21 : decode cX5_parted 21 = .ok (.getfield 68, 3) := fo_180 (fw_get da_cX5_parted_0 13 rfl)
theorem dX5_parted_24 : decode cX5_parted 24 = .ok (.iload_n 2, 1) := fo_28 (fw_get da_cX5_parted_0 14 rfl)
theorem dX5_parted_25 : decode cX5_parted 25 = .ok (.iconst 0, 1) := fo_3 (fw_get da_cX5_parted_0 15 rfl)
theorem dX5_parted_26 : decode cX5_parted 26 = .ok (.iastore, 1) := fo_79 (fw_get da_cX5_parted_0 16 rfl)
theorem dX5_parted_27 : decode cX5_parted 27 = .ok (.iload_n 2, 1) := fo_28 (fw_get da_cX5_parted_0 17 rfl)
theorem dX5_parted_28 : decode cX5_parted 28 = .ok (.iconst 1, 1) := fo_4 (fw_get da_cX5_parted_0 18 rfl)
theorem dX5_parted_29 : decode cX5_parted 29 = .ok (.isub, 1) := fo_100 (fw_get da_cX5_parted_0 19 rfl)
def dt_cX5_parted_1 : List (Nat × Nat × Nat × Nat) := [(30, 62, 0, 0), (31, 29, 0, 0), (32, 27, 0, 0), (33, 161, 2, 82), (36, 42, 0, 0), (37, 180, 2, 68), (40, 29, 0, 0), (41, 17, 2, 161), (44, 79, 0, 0), (45, 42, 0, 0), (46, 182, 2, 204), (49, 29, 0, 0), (50, 4, 0, 0), (51, 96, 0, 0), (52, 54, 1, 4), (54, 21, 1, 4), (56, 28, 0, 0), (57, 163, 2, 52), (60, 42, 0, 0), (61, 21, 1, 4)]
theorem da_cX5_parted_1 : fw dt_cX5_parted_1 0 cX5_parted.data.toList = true := by decide +kernel
theorem dX5_parted_30 : decode cX5_parted 30 = .ok (.istore_n 3, 1) := fo_62 (fw_get da_cX5_parted_1 0 rfl)
theorem dX5_parted_31 : decode cX5_parted 31 = .ok (.iload_n 3, 1) := fo_29 (fw_get da_cX5_parted_1 1 rfl)
theorem dX5_parted_32 : decode cX5_parted 32 = .ok (.iload_n 1, 1) := fo_27 (fw_get da_cX5_parted_1 2 rfl)
theorem dX5_parted_33 : decode cX5_parted 33 = .ok (.if_icmp .lt 82, 3) := fo_161 (fw_get da_cX5_parted_1 3 rfl) (by decide +kernel)
theorem dX5_parted_36 : decode cX5_parted 36 = .ok (.aload_n 0, 1) := fo_42 (fw_get da_cX5_parted_1 4 rfl)
theorem dX5_parted_37 : decode cX5_parted 37 = .ok (.getfield 68, 3) := fo_180 (fw_get da_cX5_parted_1 5 rfl)
theorem dX5_parted_40 : decode cX5_parted 40 = .ok (.iload_n 3, 1) := fo_29 (fw_get da_cX5_parted_1 6 rfl)
theorem dX5_parted_41 : decode cX5_parted 41 = .ok (.sipush 161, 3) := fo_17 (fw_get da_cX5_parted_1 7 rfl) (by decide +kernel)
theorem dX5_parted_44 : decode cX5_parted 44 = .ok (.iastore, 1) := fo_79 (fw_get da_cX5_parted_1 8 rfl)
theorem dX5_parted_45 : decode cX5_parted 45 = .ok (.aload_n 0, 1) := fo_42 (fw_get da_cX5_parted_1 9 rfl)
theorem dX5_parted_46 : decode cX5_parted 46 = .ok (.invokevirtual 204, 3) := fo_182 (fw_get da_cX5_parted_1 10 rfl)
theorem dX5_parted_49 : decode cX5_parted 49 = .ok (.iload_n 3, 1) := fo_29 (fw_get da_cX5_parted_1 11 rfl)
theorem dX5_parted_50 : decode cX5_parted 50 = .ok (.iconst 1, 1) := fo_4 (fw_get da_cX5_parted_1 12 rfl)
theorem dX5_parted_51 : decode cX5_parted 51 = .ok (.iadd, 1) := fo_96 (fw_get da_cX5_parted_1 13 rfl)
theorem dX5_parted_52 : decode cX5_parted 52 = .ok (.istore 4, 2) := fo_54 (fw_get da_cX5_parted_1 14 rfl)
theorem dX5_parted_54 : decode cX5_parted 54 = .ok (.iload 4, 2) := fo_21 (fw_get da_cX5_parted_1 15 rfl)
theorem dX5_parted_56 : decode cX5_parted 56 = .ok (.iload_n 2, 1) := fo_28 (fw_get da_cX5_parted_1 16 rfl)
theorem dX5_parted_57 : decode cX5_parted 57 = .ok (.if_icmp .gt 52, 3) := fo_163 (fw_get da_cX5_parted_1 17 rfl) (by decide +kernel)
theorem dX5_parted_60 : decode cX5_parted 60 = .ok (.aload_n 0, 1) := fo_42 (fw_get da_cX5_parted_1 18 rfl)
theorem dX5_parted_61 : decode cX5_parted 61 = .ok (.iload 4, 2) := fo_21 (fw_get da_cX5_parted_1 19 rfl)
def dt_cX5_parted_2 : List (Nat × Nat × Nat × Nat) := [(63, 29, 0, 0), (64, 182, 2, 207), (67, 153, 2, 36), (70, 42, 0, 0), (71, 180, 2, 68), (74, 21, 1, 4), (76, 46, 0, 0), (77, 4, 0, 0), (78, 96, 0, 0), (79, 42, 0, 0), (80, 180, 2, 68), (83, 29, 0, 0), (84, 46, 0, 0), (85, 162, 2, 18), (88, 42, 0, 0), (89, 180, 2, 68), (92, 29, 0, 0), (93, 42, 0, 0), (94, 180, 2, 68), (97, 21, 1, 4)]
theorem da_cX5_parted_2 : fw dt_cX5_parted_2 0 cX5_parted.data.toList = true := by decide +kernel
theorem dX5_parted_63 : decode cX5_parted 63 = .ok (.iload_n 3, 1) := fo_29 (fw_get da_cX5_parted_2 0 rfl)
theorem dX5_parted_64 : decode cX5_parted 64 = .ok (.invokevirtual 207, 3) := fo_182 (fw_get da_cX5_parted_2 1 rfl)
theorem dX5_parted_67 : decode cX5_parted 67 = .ok (.ifCond .eq 36, 3) := fo_153 (fw_get da_cX5_parted_2 2 rfl) (by decide +kernel)
theorem dX5_parted_70 : decode cX5_parted 70 = .ok (.aload_n 0, 1) := fo_42 (fw_get da_cX5_parted_2 3 rfl)
theorem dX5_parted_71 : decode cX5_parted 71 = .ok (.getfield 68, 3) := fo_180 (fw_get da_cX5_parted_2 4 rfl)
theorem dX5_parted_74 : decode cX5_parted 74 = .ok (.iload 4, 2) := fo_21 (fw_get da_cX5_parted_2 5 rfl)
theorem dX5_parted_76 : decode cX5_parted 76 = .ok (.iaload, 1) := fo_46 (fw_get da_cX5_parted_2 6 rfl)
theorem dX5_parted_77 : decode cX5_parted 77 = .ok (.iconst 1, 1) := fo_4 (fw_get da_cX5_parted_2 7 rfl)
theorem dX5_parted_78 : decode cX5_parted 78 = .ok (.iadd, 1) := fo_96 (fw_get da_cX5_parted_2 8 rfl)
theorem dX5_parted_79 : decode cX5_parted 79 = .ok (.aload_n 0, 1) := fo_42 (fw_get da_cX5_parted_2 9 rfl)
theorem dX5_parted_80 : decode cX5_parted 80 = .ok (.getfield 68, 3) := fo_180 (fw_get da_cX5_parted_2 10 rfl)
theorem dX5_parted_83 : decode cX5_parted 83 = .ok (.iload_n 3, 1) := fo_29 (fw_get da_cX5_parted_2 11 rfl)
theorem dX5_parted_84 : decode cX5_parted 84 = .ok (.iaload, 1) := fo_46 (fw_get da_cX5_parted_2 12 rfl)
theorem dX5_parted_85 : decode cX5_parted 85 = .ok (.if_icmp .ge 18, 3) := fo_162 (fw_get da_cX5_parted_2 13 rfl) (by decide +kernel)
theorem dX5_parted_88 : decode cX5_parted 88 = .ok (.aload_n 0, 1) := fo_42 (fw_get da_cX5_parted_2 14 rfl)
theorem dX5_parted_89 : decode cX5_parted 89 = .ok (.getfield 68, 3) := fo_180 (fw_get da_cX5_parted_2 15 rfl)
theorem dX5_parted_92 : decode cX5_parted 92 = .ok (.iload_n 3, 1) := fo_29 (fw_get da_cX5_parted_2 16 rfl)
theorem dX5_parted_93 : decode cX5_parted 93 = .ok (.aload_n 0, 1) := fo_42 (fw_get da_cX5_parted_2 17 rfl)
theorem dX5_parted_94 : decode cX5_parted 94 = .ok (.getfield 68, 3) := fo_180 (fw_get da_cX5_parted_2 18 rfl)
theorem dX5_parted_97 : decode cX5_parted 97 = .ok (.iload 4, 2) := fo_21 (fw_get da_cX5_parted_2 19 rfl)
def dt_cX5_parted_3 : List (Nat × Nat × Nat × Nat) := [(99, 46, 0, 0), (100, 4, 0, 0), (101, 96, 0, 0), (102, 79, 0, 0), (103, 132, 2, 1025), (106, 167, 2, 65484), (109, 132, 2, 1023), (112, 167, 2, 65455), (115, 42, 0, 0), (116, 180, 2, 68), (119, 27, 0, 0), (120, 46, 0, 0), (121, 172, 0, 0)]
theorem da_cX5_parted_3 : fw dt_cX5_parted_3 0 cX5_parted.data.toList = true := by decide +kernel
theorem dX5_parted_99 : decode cX5_parted 99 = .ok (.iaload, 1) := fo_46 (fw_get da_cX5_parted_3 0 rfl)
theorem dX5_parted_100 : decode cX5_parted 100 = .ok (.iconst 1, 1) := fo_4 (fw_get da_cX5_parted_3 1 rfl)
theorem dX5_parted_101 : decode cX5_parted 101 = .ok (.iadd, 1) := fo_96 (fw_get da_cX5_parted_3 2 rfl)
theorem dX5_parted_102 : decode cX5_parted 102 = .ok (.iastore, 1) := fo_79 (fw_get da_cX5_parted_3 3 rfl)
theorem dX5_parted_103 : decode cX5_parted 103 = .ok (.iinc 4 1, 3) := fo_132 (fw_get da_cX5_parted_3 4 rfl) rfl (by decide +kernel)
theorem dX5_parted_106 : decode cX5_parted 106 = .ok (.goto (-52), 3) := fo_167 (fw_get da_cX5_parted_3 5 rfl) (by decide +kernel)
theorem dX5_parted_109 : decode cX5_parted 109 = .ok (.iinc 3 (-1), 3) := fo_132 (fw_get da_cX5_parted_3 6 rfl) rfl (by decide +kernel)
theorem dX5_parted_112 : decode cX5_parted 112 = .ok (.goto (-81), 3) := fo_167 (fw_get da_cX5_parted_3 7 rfl) (by decide +kernel)
theorem dX5_parted_115 : decode cX5_parted 115 = .ok (.aload_n 0, 1) := fo_42 (fw_get da_cX5_parted_3 8 rfl)
theorem dX5_parted_116 : decode cX5_parted 116 = .ok (.getfield 68, 3) := fo_180 (fw_get da_cX5_parted_3 9 rfl)
theorem dX5_parted_119 : decode cX5_parted 119 = .ok (.iload_n 1, 1) := fo_27 (fw_get da_cX5_parted_3 10 rfl)
theorem dX5_parted_120 : decode cX5_parted 120 = .ok (.iaload, 1) := fo_46 (fw_get da_cX5_parted_3 11 rfl)
theorem dX5_parted_121 : decode cX5_parted 121 = .ok (.ireturn, 1) := fo_172 (fw_get da_cX5_parted_3 12 rfl)
def dt_cX5_laysNumbers_0 : List (Nat × Nat × Nat × Nat) := [(0, 3, 0, 0), (1, 60, 0, 0), (2, 3, 0, 0), (3, 61, 0, 0), (4, 28, 0, 0), (5, 42, 0, 0), (6, 180, 2, 84), (9, 162, 2, 76), (12, 2, 0, 0), (13, 62, 0, 0), (14, 3, 0, 0), (15, 54, 1, 4), (17, 21, 1, 4), (19, 28, 0, 0), (20, 162, 2, 37), (23, 29, 0, 0), (24, 156, 2, 33), (27, 42, 0, 0), (28, 180, 2, 7), (31, 21, 1, 4)]
theorem da_cX5_laysNumbers_0 : fw dt_cX5_laysNumbers_0 0 cX5_laysNumbers.data.toList = true := by decide +kernel
theorem dX5_laysNumbers_0 : decode cX5_laysNumbers 0 = .ok (.iconst 0, 1) := fo_3 (fw_get da_cX5_laysNumbers_0 0 rfl)
theorem dX5_laysNumbers_1 : decode cX5_laysNumbers 1 = .ok (.istore_n 1, 1) := fo_60 (fw_get da_cX5_laysNumbers_0 1 rfl)
theorem dX5_laysNumbers_2 : decode cX5_laysNumbers 2 = .ok (.iconst 0, 1) := fo_3 (fw_get da_cX5_laysNumbers_0 2 rfl)
theorem dX5_laysNumbers_3 : decode cX5_laysNumbers 3 = .ok (.istore_n 2, 1) := fo_61 (fw_get da_cX5_laysNumbers_0 3 rfl)
theorem dX5_laysNumbers_4 : decode cX5_laysNumbers 4 = .ok (.iload_n 2, 1) := fo_28 (fw_get da_cX5_laysNumbers_0 4 rfl)
theorem dX5_laysNumbers_5 : decode cX5_laysNumbers 5 = .ok (.aload_n 0, 1) := fo_42 (fw_get da_cX5_laysNumbers_0 5 rfl)
theorem dX5_laysNumbers_6 : decode cX5_laysNumbers 6 = .ok (.getfield 84, 3) := fo_180 (fw_get da_cX5_laysNumbers_0 6 rfl)
theorem dX5_laysNumbers_9 : decode cX5_laysNumbers 9 = .ok (.if_icmp .ge 76, 3) := fo_162 (fw_get da_cX5_laysNumbers_0 7 rfl) (by decide +kernel)
theorem dX5_laysNumbers_12 : decode cX5_laysNumbers 12 = .ok (.iconst (-1), 1) := fo_2 (fw_get da_cX5_laysNumbers_0 8 rfl)
theorem dX5_laysNumbers_13 : decode cX5_laysNumbers 13 = .ok (.istore_n 3, 1) := fo_62 (fw_get da_cX5_laysNumbers_0 9 rfl)
theorem dX5_laysNumbers_14 : decode cX5_laysNumbers 14 = .ok (.iconst 0, 1) := fo_3 (fw_get da_cX5_laysNumbers_0 10 rfl)
theorem dX5_laysNumbers_15 : decode cX5_laysNumbers 15 = .ok (.istore 4, 2) := fo_54 (fw_get da_cX5_laysNumbers_0 11 rfl)
theorem dX5_laysNumbers_17 : decode cX5_laysNumbers 17 = .ok (.iload 4, 2) := fo_21 (fw_get da_cX5_laysNumbers_0 12 rfl)
theorem dX5_laysNumbers_19 : decode cX5_laysNumbers 19 = .ok (.iload_n 2, 1) := fo_28 (fw_get da_cX5_laysNumbers_0 13 rfl)
theorem dX5_laysNumbers_20 : decode cX5_laysNumbers 20 = .ok (.if_icmp .ge 37, 3) := fo_162 (fw_get da_cX5_laysNumbers_0 14 rfl) (by decide +kernel)
theorem dX5_laysNumbers_23 : decode cX5_laysNumbers 23 = .ok (.iload_n 3, 1) := fo_29 (fw_get da_cX5_laysNumbers_0 15 rfl)
theorem dX5_laysNumbers_24 : decode cX5_laysNumbers 24 = .ok (.ifCond .ge 33, 3) := fo_156 (fw_get da_cX5_laysNumbers_0 16 rfl) (by decide +kernel)
theorem dX5_laysNumbers_27 : decode cX5_laysNumbers 27 = .ok (.aload_n 0, 1) := fo_42 (fw_get da_cX5_laysNumbers_0 17 rfl)
theorem dX5_laysNumbers_28 : decode cX5_laysNumbers 28 = .ok (.getfield 7, 3) := fo_180 (fw_get da_cX5_laysNumbers_0 18 rfl)
theorem dX5_laysNumbers_31 : decode cX5_laysNumbers 31 = .ok (.iload 4, 2) := fo_21 (fw_get da_cX5_laysNumbers_0 19 rfl)
def dt_cX5_laysNumbers_1 : List (Nat × Nat × Nat × Nat) := [(33, 46, 0, 0), (34, 42, 0, 0), (35, 180, 2, 7), (38, 28, 0, 0), (39, 46, 0, 0), (40, 160, 2, 11), (43, 42, 0, 0), (44, 180, 2, 71), (47, 21, 1, 4), (49, 46, 0, 0), (50, 62, 0, 0), (51, 132, 2, 1025), (54, 167, 2, 65499), (57, 42, 0, 0), (58, 180, 2, 71), (61, 28, 0, 0), (62, 29, 0, 0), (63, 156, 2, 7), (66, 27, 0, 0), (67, 167, 2, 4)]
theorem da_cX5_laysNumbers_1 : fw dt_cX5_laysNumbers_1 0 cX5_laysNumbers.data.toList = true := by decide +kernel
theorem dX5_laysNumbers_33 : decode cX5_laysNumbers 33 = .ok (.iaload, 1) := fo_46 (fw_get da_cX5_laysNumbers_1 0 rfl)
theorem dX5_laysNumbers_34 : decode cX5_laysNumbers 34 = .ok (.aload_n 0, 1) := fo_42 (fw_get da_cX5_laysNumbers_1 1 rfl)
theorem dX5_laysNumbers_35 : decode cX5_laysNumbers 35 = .ok (.getfield 7, 3) := fo_180 (fw_get da_cX5_laysNumbers_1 2 rfl)
theorem dX5_laysNumbers_38 : decode cX5_laysNumbers 38 = .ok (.iload_n 2, 1) := fo_28 (fw_get da_cX5_laysNumbers_1 3 rfl)
theorem dX5_laysNumbers_39 : decode cX5_laysNumbers 39 = .ok (.iaload, 1) := fo_46 (fw_get da_cX5_laysNumbers_1 4 rfl)
theorem dX5_laysNumbers_40 : decode cX5_laysNumbers 40 = .ok (.if_icmp .ne 11, 3) := fo_160 (fw_get da_cX5_laysNumbers_1 5 rfl) (by decide +kernel)
theorem dX5_laysNumbers_43 : decode cX5_laysNumbers 43 = .ok (.aload_n 0, 1) := fo_42 (fw_get da_cX5_laysNumbers_1 6 rfl)
theorem dX5_laysNumbers_44 : decode cX5_laysNumbers 44 = .ok (.getfield 71, 3) := fo_180 (fw_get da_cX5_laysNumbers_1 7 rfl)
theorem dX5_laysNumbers_47 : decode cX5_laysNumbers 47 = .ok (.iload 4, 2) := fo_21 (fw_get da_cX5_laysNumbers_1 8 rfl)
theorem dX5_laysNumbers_49 : decode cX5_laysNumbers 49 = .ok (.iaload, 1) := fo_46 (fw_get da_cX5_laysNumbers_1 9 rfl)
theorem dX5_laysNumbers_50 : decode cX5_laysNumbers 50 = .ok (.istore_n 3, 1) := fo_62 (fw_get da_cX5_laysNumbers_1 10 rfl)
theorem dX5_laysNumbers_51 : decode cX5_laysNumbers 51 = .ok (.iinc 4 1, 3) := fo_132 (fw_get da_cX5_laysNumbers_1 11 rfl) rfl (by decide +kernel)
theorem dX5_laysNumbers_54 : decode cX5_laysNumbers 54 = .ok (.goto (-37), 3) := fo_167 (fw_get da_cX5_laysNumbers_1 12 rfl) (by decide +kernel)
theorem dX5_laysNumbers_57 : decode cX5_laysNumbers 57 = .ok (.aload_n 0, 1) := fo_42 (fw_get da_cX5_laysNumbers_1 13 rfl)
theorem dX5_laysNumbers_58 : decode cX5_laysNumbers 58 = .ok (.getfield 71, 3) := fo_180 (fw_get da_cX5_laysNumbers_1 14 rfl)
theorem dX5_laysNumbers_61 : decode cX5_laysNumbers 61 = .ok (.iload_n 2, 1) := fo_28 (fw_get da_cX5_laysNumbers_1 15 rfl)
theorem dX5_laysNumbers_62 : decode cX5_laysNumbers 62 = .ok (.iload_n 3, 1) := fo_29 (fw_get da_cX5_laysNumbers_1 16 rfl)
theorem dX5_laysNumbers_63 : decode cX5_laysNumbers 63 = .ok (.ifCond .ge 7, 3) := fo_156 (fw_get da_cX5_laysNumbers_1 17 rfl) (by decide +kernel)
theorem dX5_laysNumbers_66 : decode cX5_laysNumbers 66 = .ok (.iload_n 1, 1) := fo_27 (fw_get da_cX5_laysNumbers_1 18 rfl)
theorem dX5_laysNumbers_67 : decode cX5_laysNumbers 67 = .ok (.goto 4, 3) := fo_167 (fw_get da_cX5_laysNumbers_1 19 rfl) (by decide +kernel)
def dt_cX5_laysNumbers_2 : List (Nat × Nat × Nat × Nat) := [(70, 29, 0, 0), (71, 79, 0, 0), (72, 29, 0, 0), (73, 156, 2, 6), (76, 132, 2, 257), (79, 132, 2, 513), (82, 167, 2, 65458), (85, 177, 0, 0)]
theorem da_cX5_laysNumbers_2 : fw dt_cX5_laysNumbers_2 0 cX5_laysNumbers.data.toList = true := by decide +kernel
theorem dX5_laysNumbers_70 : decode cX5_laysNumbers 70 = .ok (.iload_n 3, 1) := fo_29 (fw_get da_cX5_laysNumbers_2 0 rfl)
theorem dX5_laysNumbers_71 : decode cX5_laysNumbers 71 = .ok (.iastore, 1) := fo_79 (fw_get da_cX5_laysNumbers_2 1 rfl)
theorem dX5_laysNumbers_72 : decode cX5_laysNumbers 72 = .ok (.iload_n 3, 1) := fo_29 (fw_get da_cX5_laysNumbers_2 2 rfl)
theorem dX5_laysNumbers_73 : decode cX5_laysNumbers 73 = .ok (.ifCond .ge 6, 3) := fo_156 (fw_get da_cX5_laysNumbers_2 3 rfl) (by decide +kernel)
theorem dX5_laysNumbers_76 : decode cX5_laysNumbers 76 = .ok (.iinc 1 1, 3) := fo_132 (fw_get da_cX5_laysNumbers_2 4 rfl) rfl (by decide +kernel)
theorem dX5_laysNumbers_79 : decode cX5_laysNumbers 79 = .ok (.iinc 2 1, 3) := fo_132 (fw_get da_cX5_laysNumbers_2 5 rfl) rfl (by decide +kernel)
theorem dX5_laysNumbers_82 : decode cX5_laysNumbers 82 = .ok (.goto (-78), 3) := fo_167 (fw_get da_cX5_laysNumbers_2 6 rfl) (by decide +kernel)
theorem dX5_laysNumbers_85 : decode cX5_laysNumbers 85 = .ok (.return_, 1) := fo_177 (fw_get da_cX5_laysNumbers_2 7 rfl)
def dt_cX5_begins_0 : List (Nat × Nat × Nat × Nat) := [(0, 3, 0, 0), (1, 60, 0, 0), (2, 27, 0, 0), (3, 42, 0, 0), (4, 180, 2, 84), (7, 162, 2, 16), (10, 42, 0, 0), (11, 180, 2, 74), (14, 27, 0, 0), (15, 3, 0, 0), (16, 79, 0, 0), (17, 132, 2, 257), (20, 167, 2, 65518), (23, 42, 0, 0), (24, 3, 0, 0), (25, 181, 2, 210), (28, 177, 0, 0)]
theorem da_cX5_begins_0 : fw dt_cX5_begins_0 0 cX5_begins.data.toList = true := by decide +kernel
theorem dX5_begins_0 : decode cX5_begins 0 = .ok (.iconst 0, 1) := fo_3 (fw_get da_cX5_begins_0 0 rfl)
theorem dX5_begins_1 : decode cX5_begins 1 = .ok (.istore_n 1, 1) := fo_60 (fw_get da_cX5_begins_0 1 rfl)
theorem dX5_begins_2 : decode cX5_begins 2 = .ok (.iload_n 1, 1) := fo_27 (fw_get da_cX5_begins_0 2 rfl)
theorem dX5_begins_3 : decode cX5_begins 3 = .ok (.aload_n 0, 1) := fo_42 (fw_get da_cX5_begins_0 3 rfl)
theorem dX5_begins_4 : decode cX5_begins 4 = .ok (.getfield 84, 3) := fo_180 (fw_get da_cX5_begins_0 4 rfl)
theorem dX5_begins_7 : decode cX5_begins 7 = .ok (.if_icmp .ge 16, 3) := fo_162 (fw_get da_cX5_begins_0 5 rfl) (by decide +kernel)
theorem dX5_begins_10 : decode cX5_begins 10 = .ok (.aload_n 0, 1) := fo_42 (fw_get da_cX5_begins_0 6 rfl)
theorem dX5_begins_11 : decode cX5_begins 11 = .ok (.getfield 74, 3) := fo_180 (fw_get da_cX5_begins_0 7 rfl)
theorem dX5_begins_14 : decode cX5_begins 14 = .ok (.iload_n 1, 1) := fo_27 (fw_get da_cX5_begins_0 8 rfl)
theorem dX5_begins_15 : decode cX5_begins 15 = .ok (.iconst 0, 1) := fo_3 (fw_get da_cX5_begins_0 9 rfl)
theorem dX5_begins_16 : decode cX5_begins 16 = .ok (.iastore, 1) := fo_79 (fw_get da_cX5_begins_0 10 rfl)
theorem dX5_begins_17 : decode cX5_begins 17 = .ok (.iinc 1 1, 3) := fo_132 (fw_get da_cX5_begins_0 11 rfl) rfl (by decide +kernel)
theorem dX5_begins_20 : decode cX5_begins 20 = .ok (.goto (-18), 3) := fo_167 (fw_get da_cX5_begins_0 12 rfl) (by decide +kernel)
theorem dX5_begins_23 : decode cX5_begins 23 = .ok (.aload_n 0, 1) := fo_42 (fw_get da_cX5_begins_0 13 rfl)
theorem dX5_begins_24 : decode cX5_begins 24 = .ok (.iconst 0, 1) := fo_3 (fw_get da_cX5_begins_0 14 rfl)
theorem dX5_begins_25 : decode cX5_begins 25 = .ok (.putfield 210, 3) := fo_181 (fw_get da_cX5_begins_0 15 rfl)
theorem dX5_begins_28 : decode cX5_begins 28 = .ok (.return_, 1) := fo_177 (fw_get da_cX5_begins_0 16 rfl)
def dt_cX5_goesOn_0 : List (Nat × Nat × Nat × Nat) := [(0, 42, 0, 0), (1, 180, 2, 71), (4, 27, 0, 0), (5, 4, 0, 0), (6, 100, 0, 0), (7, 46, 0, 0), (8, 62, 0, 0), (9, 42, 0, 0), (10, 180, 2, 74), (13, 29, 0, 0), (14, 92, 0, 0), (15, 46, 0, 0), (16, 4, 0, 0), (17, 96, 0, 0), (18, 79, 0, 0), (19, 42, 0, 0), (20, 180, 2, 74), (23, 29, 0, 0), (24, 46, 0, 0), (25, 42, 0, 0)]
theorem da_cX5_goesOn_0 : fw dt_cX5_goesOn_0 0 cX5_goesOn.data.toList = true := by decide +kernel
theorem dX5_goesOn_0 : decode cX5_goesOn 0 = .ok (.aload_n 0, 1) := fo_42 (fw_get da_cX5_goesOn_0 0 rfl)
theorem dX5_goesOn_1 : decode cX5_goesOn 1 = .ok (.getfield 71, 3) := fo_180 (fw_get da_cX5_goesOn_0 1 rfl)
theorem dX5_goesOn_4 : decode cX5_goesOn 4 = .ok (.iload_n 1, 1) := fo_27 (fw_get da_cX5_goesOn_0 2 rfl)
theorem dX5_goesOn_5 : decode cX5_goesOn 5 = .ok (.iconst 1, 1) := fo_4 (fw_get da_cX5_goesOn_0 3 rfl)
theorem dX5_goesOn_6 : decode cX5_goesOn 6 = .ok (.isub, 1) := fo_100 (fw_get da_cX5_goesOn_0 4 rfl)
theorem dX5_goesOn_7 : decode cX5_goesOn 7 = .ok (.iaload, 1) := fo_46 (fw_get da_cX5_goesOn_0 5 rfl)
theorem dX5_goesOn_8 : decode cX5_goesOn 8 = .ok (.istore_n 3, 1) := fo_62 (fw_get da_cX5_goesOn_0 6 rfl)
theorem dX5_goesOn_9 : decode cX5_goesOn 9 = .ok (.aload_n 0, 1) := fo_42 (fw_get da_cX5_goesOn_0 7 rfl)
theorem dX5_goesOn_10 : decode cX5_goesOn 10 = .ok (.getfield 74, 3) := fo_180 (fw_get da_cX5_goesOn_0 8 rfl)
theorem dX5_goesOn_13 : decode cX5_goesOn 13 = .ok (.iload_n 3, 1) := fo_29 (fw_get da_cX5_goesOn_0 9 rfl)
theorem dX5_goesOn_14 : decode cX5_goesOn 14 = .ok (.dup2, 1) := fo_92 (fw_get da_cX5_goesOn_0 10 rfl)
theorem dX5_goesOn_15 : decode cX5_goesOn 15 = .ok (.iaload, 1) := fo_46 (fw_get da_cX5_goesOn_0 11 rfl)
theorem dX5_goesOn_16 : decode cX5_goesOn 16 = .ok (.iconst 1, 1) := fo_4 (fw_get da_cX5_goesOn_0 12 rfl)
theorem dX5_goesOn_17 : decode cX5_goesOn 17 = .ok (.iadd, 1) := fo_96 (fw_get da_cX5_goesOn_0 13 rfl)
theorem dX5_goesOn_18 : decode cX5_goesOn 18 = .ok (.iastore, 1) := fo_79 (fw_get da_cX5_goesOn_0 14 rfl)
theorem dX5_goesOn_19 : decode cX5_goesOn 19 = .ok (.aload_n 0, 1) := fo_42 (fw_get da_cX5_goesOn_0 15 rfl)
theorem dX5_goesOn_20 : decode cX5_goesOn 20 = .ok (.getfield 74, 3) := fo_180 (fw_get da_cX5_goesOn_0 16 rfl)
theorem dX5_goesOn_23 : decode cX5_goesOn 23 = .ok (.iload_n 3, 1) := fo_29 (fw_get da_cX5_goesOn_0 17 rfl)
theorem dX5_goesOn_24 : decode cX5_goesOn 24 = .ok (.iaload, 1) := fo_46 (fw_get da_cX5_goesOn_0 18 rfl)
theorem dX5_goesOn_25 : decode cX5_goesOn 25 = .ok (.aload_n 0, 1) := fo_42 (fw_get da_cX5_goesOn_0 19 rfl)
def dt_cX5_goesOn_1 : List (Nat × Nat × Nat × Nat) := [(26, 180, 2, 210), (29, 164, 2, 13), (32, 42, 0, 0), (33, 42, 0, 0), (34, 180, 2, 74), (37, 29, 0, 0), (38, 46, 0, 0), (39, 181, 2, 210), (42, 5, 0, 0), (43, 42, 0, 0), (44, 180, 2, 210), (47, 104, 0, 0), (48, 27, 0, 0), (49, 28, 0, 0), (50, 100, 0, 0), (51, 164, 2, 7), (54, 4, 0, 0), (55, 167, 2, 4), (58, 3, 0, 0), (59, 172, 0, 0)]
theorem da_cX5_goesOn_1 : fw dt_cX5_goesOn_1 0 cX5_goesOn.data.toList = true := by decide +kernel
theorem dX5_goesOn_26 : decode cX5_goesOn 26 = .ok (.getfield 210, 3) := fo_180 (fw_get da_cX5_goesOn_1 0 rfl)
theorem dX5_goesOn_29 : decode cX5_goesOn 29 = .ok (.if_icmp .le 13, 3) := fo_164 (fw_get da_cX5_goesOn_1 1 rfl) (by decide +kernel)
theorem dX5_goesOn_32 : decode cX5_goesOn 32 = .ok (.aload_n 0, 1) := fo_42 (fw_get da_cX5_goesOn_1 2 rfl)
theorem dX5_goesOn_33 : decode cX5_goesOn 33 = .ok (.aload_n 0, 1) := fo_42 (fw_get da_cX5_goesOn_1 3 rfl)
theorem dX5_goesOn_34 : decode cX5_goesOn 34 = .ok (.getfield 74, 3) := fo_180 (fw_get da_cX5_goesOn_1 4 rfl)
theorem dX5_goesOn_37 : decode cX5_goesOn 37 = .ok (.iload_n 3, 1) := fo_29 (fw_get da_cX5_goesOn_1 5 rfl)
theorem dX5_goesOn_38 : decode cX5_goesOn 38 = .ok (.iaload, 1) := fo_46 (fw_get da_cX5_goesOn_1 6 rfl)
theorem dX5_goesOn_39 : decode cX5_goesOn 39 = .ok (.putfield 210, 3) := fo_181 (fw_get da_cX5_goesOn_1 7 rfl)
theorem dX5_goesOn_42 : decode cX5_goesOn 42 = .ok (.iconst 2, 1) := fo_5 (fw_get da_cX5_goesOn_1 8 rfl)
theorem dX5_goesOn_43 : decode cX5_goesOn 43 = .ok (.aload_n 0, 1) := fo_42 (fw_get da_cX5_goesOn_1 9 rfl)
theorem dX5_goesOn_44 : decode cX5_goesOn 44 = .ok (.getfield 210, 3) := fo_180 (fw_get da_cX5_goesOn_1 10 rfl)
theorem dX5_goesOn_47 : decode cX5_goesOn 47 = .ok (.imul, 1) := fo_104 (fw_get da_cX5_goesOn_1 11 rfl)
theorem dX5_goesOn_48 : decode cX5_goesOn 48 = .ok (.iload_n 1, 1) := fo_27 (fw_get da_cX5_goesOn_1 12 rfl)
theorem dX5_goesOn_49 : decode cX5_goesOn 49 = .ok (.iload_n 2, 1) := fo_28 (fw_get da_cX5_goesOn_1 13 rfl)
theorem dX5_goesOn_50 : decode cX5_goesOn 50 = .ok (.isub, 1) := fo_100 (fw_get da_cX5_goesOn_1 14 rfl)
theorem dX5_goesOn_51 : decode cX5_goesOn 51 = .ok (.if_icmp .le 7, 3) := fo_164 (fw_get da_cX5_goesOn_1 15 rfl) (by decide +kernel)
theorem dX5_goesOn_54 : decode cX5_goesOn 54 = .ok (.iconst 1, 1) := fo_4 (fw_get da_cX5_goesOn_1 16 rfl)
theorem dX5_goesOn_55 : decode cX5_goesOn 55 = .ok (.goto 4, 3) := fo_167 (fw_get da_cX5_goesOn_1 17 rfl) (by decide +kernel)
theorem dX5_goesOn_58 : decode cX5_goesOn 58 = .ok (.iconst 0, 1) := fo_3 (fw_get da_cX5_goesOn_1 18 rfl)
theorem dX5_goesOn_59 : decode cX5_goesOn 59 = .ok (.ireturn, 1) := fo_172 (fw_get da_cX5_goesOn_1 19 rfl)
set_option maxRecDepth 20000 in
theorem ggX5_majorities_X5_laysNumbers : GoodIn wsX5_majorities wsX5_laysNumbers := goodIn_r _ [7, 2, 8, 9, 20, 21, 22, 23, 24, 25, 26, 27, 28, 29, 30, 31, 32, 33, 34, 35, 36, 37, 38, 39, 40, 41, 42, 43, 44, 45, 46, 47, 48, 49] rfl (by decide +kernel)
set_option maxRecDepth 20000 in
theorem gX5_majorities_X5_laysNumbers : GoodIn wsX5_majorities (wsV RX5 201 RX5 yX5_laysNumbers wsX5_laysNumbers) := goodIn_app (goodIn_r _ [3, 4, 5, 6] rfl (by decide +kernel)) ggX5_majorities_X5_laysNumbers
set_option maxRecDepth 20000 in
theorem ggX5_majorities_X5_begins : GoodIn wsX5_majorities wsX5_begins := goodIn_r _ [13, 2, 14, 15, 20, 21, 22, 23, 24, 25, 26, 27, 28, 29, 30, 31, 32, 33, 34, 35, 36, 37, 38, 39, 40, 41, 42, 43, 44, 45, 46, 47, 48, 49] rfl (by decide +kernel)
set_option maxRecDepth 20000 in
theorem gX5_majorities_X5_begins : GoodIn wsX5_majorities (wsV RX5 204 RX5 yX5_begins wsX5_begins) := goodIn_app (goodIn_r _ [10, 11, 12, 6] rfl (by decide +kernel)) ggX5_majorities_X5_begins
set_option maxRecDepth 20000 in
theorem ggX5_majorities_X5_goesOn : GoodIn wsX5_majorities wsX5_goesOn := goodIn_r _ [19, 9, 14, 15, 20, 21, 22, 23, 24, 25, 26, 27, 28, 29, 30, 31, 32, 33, 34, 35, 36, 37, 38, 39, 40, 41, 42, 43, 44, 45, 46, 47, 48, 49] rfl (by decide +kernel)
set_option maxRecDepth 20000 in
theorem gX5_majorities_X5_goesOn : GoodIn wsX5_majorities (wsV RX5 207 RX5 yX5_goesOn wsX5_goesOn) := goodIn_app (goodIn_r _ [16, 17, 18, 6] rfl (by decide +kernel)) ggX5_majorities_X5_goesOn
def dt_cX5_majorities_0 : List (Nat × Nat × Nat × Nat) := [(0, 42, 0, 0), (1, 3, 0, 0), (2, 181, 2, 77), (5, 42, 0, 0), (6, 182, 2, 201), (9, 3, 0, 0), (10, 60, 0, 0), (11, 3, 0, 0), (12, 61, 0, 0), (13, 28, 0, 0), (14, 42, 0, 0), (15, 180, 2, 84), (18, 162, 2, 43), (21, 42, 0, 0), (22, 182, 2, 204), (25, 28, 0, 0), (26, 4, 0, 0), (27, 96, 0, 0), (28, 62, 0, 0), (29, 29, 0, 0)]
theorem da_cX5_majorities_0 : fw dt_cX5_majorities_0 0 cX5_majorities.data.toList = true := by decide +kernel
theorem dX5_majorities_0 : decode cX5_majorities 0 = .ok (.aload_n 0, 1) := fo_42 (fw_get da_cX5_majorities_0 0 rfl)
theorem dX5_majorities_1 : decode cX5_majorities 1 = .ok (.iconst 0, 1) := fo_3 (fw_get da_cX5_majorities_0 1 rfl)
theorem dX5_majorities_2 : decode cX5_majorities 2 = .ok (.putfield 77, 3) := fo_181 (fw_get da_cX5_majorities_0 2 rfl)
theorem dX5_majorities_5 : decode cX5_majorities 5 = .ok (.aload_n 0, 1) := fo_42 (fw_get da_cX5_majorities_0 3 rfl)
theorem dX5_majorities_6 : decode cX5_majorities 6 = .ok (.invokevirtual 201, 3) := fo_182 (fw_get da_cX5_majorities_0 4 rfl)
theorem dX5_majorities_9 : decode cX5_majorities 9 = .ok (.iconst 0, 1) := fo_3 (fw_get da_cX5_majorities_0 5 rfl)
theorem dX5_majorities_10 : decode cX5_majorities 10 = .ok (.istore_n 1, 1) := fo_60 (fw_get da_cX5_majorities_0 6 rfl)
theorem dX5_majorities_11 : decode cX5_majorities 11 = .ok (.iconst 0, 1) := fo_3 (fw_get da_cX5_majorities_0 7 rfl)
theorem dX5_majorities_12 : decode cX5_majorities 12 = .ok (.istore_n 2, 1) := fo_61 (fw_get da_cX5_majorities_0 8 rfl)
theorem dX5_majorities_13 : decode cX5_majorities 13 = .ok (.iload_n 2, 1) := fo_28 (fw_get da_cX5_majorities_0 9 rfl)
theorem dX5_majorities_14 : decode cX5_majorities 14 = .ok (.aload_n 0, 1) := fo_42 (fw_get da_cX5_majorities_0 10 rfl)
theorem dX5_majorities_15 : decode cX5_majorities 15 = .ok (.getfield 84, 3) := fo_180 (fw_get da_cX5_majorities_0 11 rfl)
theorem dX5_majorities_18 : decode cX5_majorities 18 = .ok (.if_icmp .ge 43, 3) := fo_162 (fw_get da_cX5_majorities_0 12 rfl) (by decide +kernel)
theorem dX5_majorities_21 : decode cX5_majorities 21 = .ok (.aload_n 0, 1) := fo_42 (fw_get da_cX5_majorities_0 13 rfl)
theorem dX5_majorities_22 : decode cX5_majorities 22 = .ok (.invokevirtual 204, 3) := fo_182 (fw_get da_cX5_majorities_0 14 rfl)
theorem dX5_majorities_25 : decode cX5_majorities 25 = .ok (.iload_n 2, 1) := fo_28 (fw_get da_cX5_majorities_0 15 rfl)
theorem dX5_majorities_26 : decode cX5_majorities 26 = .ok (.iconst 1, 1) := fo_4 (fw_get da_cX5_majorities_0 16 rfl)
theorem dX5_majorities_27 : decode cX5_majorities 27 = .ok (.iadd, 1) := fo_96 (fw_get da_cX5_majorities_0 17 rfl)
theorem dX5_majorities_28 : decode cX5_majorities 28 = .ok (.istore_n 3, 1) := fo_62 (fw_get da_cX5_majorities_0 18 rfl)
theorem dX5_majorities_29 : decode cX5_majorities 29 = .ok (.iload_n 3, 1) := fo_29 (fw_get da_cX5_majorities_0 19 rfl)
def dt_cX5_majorities_1 : List (Nat × Nat × Nat × Nat) := [(30, 42, 0, 0), (31, 180, 2, 84), (34, 163, 2, 21), (37, 42, 0, 0), (38, 29, 0, 0), (39, 28, 0, 0), (40, 182, 2, 207), (43, 153, 2, 6), (46, 132, 2, 257), (49, 132, 2, 769), (52, 167, 2, 65513), (55, 132, 2, 513), (58, 167, 2, 65491), (61, 27, 0, 0), (62, 172, 0, 0)]
theorem da_cX5_majorities_1 : fw dt_cX5_majorities_1 0 cX5_majorities.data.toList = true := by decide +kernel
theorem dX5_majorities_30 : decode cX5_majorities 30 = .ok (.aload_n 0, 1) := fo_42 (fw_get da_cX5_majorities_1 0 rfl)
theorem dX5_majorities_31 : decode cX5_majorities 31 = .ok (.getfield 84, 3) := fo_180 (fw_get da_cX5_majorities_1 1 rfl)
theorem dX5_majorities_34 : decode cX5_majorities 34 = .ok (.if_icmp .gt 21, 3) := fo_163 (fw_get da_cX5_majorities_1 2 rfl) (by decide +kernel)
theorem dX5_majorities_37 : decode cX5_majorities 37 = .ok (.aload_n 0, 1) := fo_42 (fw_get da_cX5_majorities_1 3 rfl)
theorem dX5_majorities_38 : decode cX5_majorities 38 = .ok (.iload_n 3, 1) := fo_29 (fw_get da_cX5_majorities_1 4 rfl)
theorem dX5_majorities_39 : decode cX5_majorities 39 = .ok (.iload_n 2, 1) := fo_28 (fw_get da_cX5_majorities_1 5 rfl)
theorem dX5_majorities_40 : decode cX5_majorities 40 = .ok (.invokevirtual 207, 3) := fo_182 (fw_get da_cX5_majorities_1 6 rfl)
theorem dX5_majorities_43 : decode cX5_majorities 43 = .ok (.ifCond .eq 6, 3) := fo_153 (fw_get da_cX5_majorities_1 7 rfl) (by decide +kernel)
theorem dX5_majorities_46 : decode cX5_majorities 46 = .ok (.iinc 1 1, 3) := fo_132 (fw_get da_cX5_majorities_1 8 rfl) rfl (by decide +kernel)
theorem dX5_majorities_49 : decode cX5_majorities 49 = .ok (.iinc 3 1, 3) := fo_132 (fw_get da_cX5_majorities_1 9 rfl) rfl (by decide +kernel)
theorem dX5_majorities_52 : decode cX5_majorities 52 = .ok (.goto (-23), 3) := fo_167 (fw_get da_cX5_majorities_1 10 rfl) (by decide +kernel)
theorem dX5_majorities_55 : decode cX5_majorities 55 = .ok (.iinc 2 1, 3) := fo_132 (fw_get da_cX5_majorities_1 11 rfl) rfl (by decide +kernel)
theorem dX5_majorities_58 : decode cX5_majorities 58 = .ok (.goto (-45), 3) := fo_167 (fw_get da_cX5_majorities_1 12 rfl) (by decide +kernel)
theorem dX5_majorities_61 : decode cX5_majorities 61 = .ok (.iload_n 1, 1) := fo_27 (fw_get da_cX5_majorities_1 13 rfl)
theorem dX5_majorities_62 : decode cX5_majorities 62 = .ok (.ireturn, 1) := fo_172 (fw_get da_cX5_majorities_1 14 rfl)


set_option maxHeartbeats 4000000 in
set_option maxRecDepth 100000 in
theorem c_X5_laysNumbers (l : Launch) (dC : Nat → ClassId) (dI : Nat → Nat → Nat) (h0 : Nat) (g_row : Nat) (g_many : Nat) (g_loss : Nat) (g_less : Nat) (g_voteValue : Nat) (g_voteNumber : Nat) (g_allValue : Nat) (g_allNumber : Nat) (g_nodeL : Nat) (g_nodeR : Nat) (g_part : Nat) (g_wasMany : Nat) (g_wasLoss : Nat) (g_wasValue : Nat) (g_wasNumber : Nat) (g_path : Nat) (g_heavyValue : Nat) (g_heavyTimes : Nat) (g_fewest : Nat) (g_which : Nat) (g_met : Nat) (m_n : Int32) (m_slots : Int32) (m_thrown : Int32) (m_allMany : Int32) (m_nodes : Int32) (m_partMany : Int32) (m_pathMany : Int32) (m_heavyMany : Int32) (m_mostMet : Int32) (cyI : ClassId) (f : Nat → Int32) (fw : Nat → Int32) (sz : Nat) (a0 : 0 ≤ m_n.toInt) (a1 : m_n.toInt ≤ 160) : kx_MQ l (dC, dI) yX5_laysNumbers wsX5_laysNumbers ({ frames := 0, cells := 0, slots := 0, locals := 0 }) [.ref h0] [kx_5 h0 g_row m_n m_slots m_thrown g_many g_loss g_less g_voteValue g_voteNumber g_allValue g_allNumber m_allMany g_nodeL g_nodeR m_nodes g_part m_partMany g_wasMany g_wasLoss g_wasValue g_wasNumber g_path m_pathMany g_heavyValue g_heavyTimes m_heavyMany g_fewest g_which g_met m_mostMet, kx_a g_row cyI 160 f, kx_a g_which cyI 160 fw] [(cyI, .int)] sz (fun A => va_Qv (fun u : (Nat → Int32) => kindOk u m_n.toInt) (fun (u : (Nat → Int32)) (t : State) => va_P (dC, dI) vwCl [kx_5 h0 g_row m_n m_slots m_thrown g_many g_loss g_less g_voteValue g_voteNumber g_allValue g_allNumber m_allMany g_nodeL g_nodeR m_nodes g_part m_partMany g_wasMany g_wasLoss g_wasValue g_wasNumber g_path m_pathMany g_heavyValue g_heavyTimes m_heavyMany g_fewest g_which g_met m_mostMet, kx_a g_row cyI 160 f, kx_a g_which cyI 160 u] t.heap ∧ va_K (dC, dI) vwCl [(cyI, .int)] t ∧ va_D A [kx_5 h0 g_row m_n m_slots m_thrown g_many g_loss g_less g_voteValue g_voteNumber g_allValue g_allNumber m_allMany g_nodeL g_nodeR m_nodes g_part m_partMany g_wasMany g_wasLoss g_wasValue g_wasNumber g_path m_pathMany g_heavyValue g_heavyTimes m_heavyMany g_fewest g_which g_met m_mostMet, kx_a g_row cyI 160 f, kx_a g_which cyI 160 u]) A) := by
  refine kx_stQ (ws := wsX5_laysNumbers) (cc := cX5_laysNumbers) (maxL := 5) (ret := none) (by decide) rfl (Nat.le_of_ble_eq_true rfl) ?_
  intro p e s m below meth c A ls hx hb hr hlocks hts hown hml hA hS hP hK hD hl
  have hown : s.vm.findClass RX5 = some m.cls := hown
  have hl : lv_has ls 5 [(0, .ref h0)] := hl
  have hf_84 := hts (.fieldLink RX5 84 "MajorityIndexModel" "n" "I") (List.mem_of_getElem? (i := 1) rfl)
  have hi_5 : ∀ w ∈ u_ws RX5 TX5 30, w ∈ wsX5_laysNumbers := fun w h => List.mem_cons_of_mem _ (List.mem_append_right _ h)
  have hf_71 := hts (.fieldLink RX5 71 "MajorityIndexModel" "which" "[I") (List.mem_of_getElem? (i := 3) rfl)
  have hf_7 := hts (.fieldLink RX5 7 "MajorityIndexModel" "row" "[I") (List.mem_of_getElem? (i := 2) rfl)
  refine lv_iconst (v := 0) hx hb dX5_laysNumbers_0 (by decide) ?_
  refine lv_istore_n (lv' := [(1, .int 0), (0, .ref h0)]) hx hb dX5_laysNumbers_1 rfl hl (by decide) rfl (fun ls hl => ?_)
  refine lv_iconst (v := 0) hx hb dX5_laysNumbers_2 (by decide) ?_
  refine lv_istore_n (lv' := [(2, .int 0), (1, .int 0), (0, .ref h0)]) hx hb dX5_laysNumbers_3 rfl hl (by decide) rfl (fun ls hl => ?_)
  have LP1 : ∀ (n : Nat) (i : Int32) (nx : Int32) (gw : Nat → Int32), (0 ≤ i.toInt) → (0 ≤ nx.toInt) → (nx.toInt ≤ i.toInt) → (kindOk gw i.toInt) → (m_n.toInt - i.toInt).toNat < n → ∀ (H : Heap) (locs : List Loc), va_P (dC, dI) vwCl [kx_5 h0 g_row m_n m_slots m_thrown g_many g_loss g_less g_voteValue g_voteNumber g_allValue g_allNumber m_allMany g_nodeL g_nodeR m_nodes g_part m_partMany g_wasMany g_wasLoss g_wasValue g_wasNumber g_path m_pathMany g_heavyValue g_heavyTimes m_heavyMany g_fewest g_which g_met m_mostMet, kx_a g_row cyI 160 f, kx_a g_which cyI 160 gw] H → va_D A [kx_5 h0 g_row m_n m_slots m_thrown g_many g_loss g_less g_voteValue g_voteNumber g_allValue g_allNumber m_allMany g_nodeL g_nodeR m_nodes g_part m_partMany g_wasMany g_wasLoss g_wasValue g_wasNumber g_path m_pathMany g_heavyValue g_heavyTimes m_heavyMany g_fewest g_which g_met m_mostMet, kx_a g_row cyI 160 f, kx_a g_which cyI 160 gw] → va_S A s.heap H locs → ∀ (ls : Array Slot), lv_has ls 5 [(2, .int i), (1, .int nx), (0, .ref h0)] → W p l e (headSpec wsX5_laysNumbers ({ frames := 0, cells := 0, slots := 0, locals := 0 })).room s m ([.ref h0] : List Value).toArray below meth c H locs 0 0 (MQ below (va_Qv (fun u : (Nat → Int32) => kindOk u m_n.toInt) (fun (u : (Nat → Int32)) (t : State) => va_P (dC, dI) vwCl [kx_5 h0 g_row m_n m_slots m_thrown g_many g_loss g_less g_voteValue g_voteNumber g_allValue g_allNumber m_allMany g_nodeL g_nodeR m_nodes g_part m_partMany g_wasMany g_wasLoss g_wasValue g_wasNumber g_path m_pathMany g_heavyValue g_heavyTimes m_heavyMany g_fewest g_which g_met m_mostMet, kx_a g_row cyI 160 f, kx_a g_which cyI 160 u] t.heap ∧ va_K (dC, dI) vwCl [(cyI, .int)] t ∧ va_D A [kx_5 h0 g_row m_n m_slots m_thrown g_many g_loss g_less g_voteValue g_voteNumber g_allValue g_allNumber m_allMany g_nodeL g_nodeR m_nodes g_part m_partMany g_wasMany g_wasLoss g_wasValue g_wasNumber g_path m_pathMany g_heavyValue g_heavyTimes m_heavyMany g_fewest g_which g_met m_mostMet, kx_a g_row cyI 160 f, kx_a g_which cyI 160 u]) A) ([.ref h0] : List Value).toArray s 0 0 A) (F0 m 4 ls []) := by
    intro n
    induction n with
    | zero => intro i nx gw LP1_h0 LP1_h1 LP1_h2 LP1_h3 hn; exact absurd hn (Nat.not_lt_zero _)
    | succ n ih1 =>
      intro i nx gw LP1_h0 LP1_h1 LP1_h2 LP1_h3 hn1 H locs hP hD hS ls hl
      refine lv_iload_n hx hb dX5_laysNumbers_4 rfl (lv_at hl 0 rfl) ?_
      refine lv_aload_n hx hb dX5_laysNumbers_5 rfl (lv_at hl 2 rfl) ?_
      refine va_get (D := (dC, dI)) (ci := 5) (v := .int m_n) (C := RX5) (T := TX5) (N := 30) hx hb hts hi_5 hown hK hP 0 rfl rfl 1 (by decide) hf_84 (fun _ h9 => h9) rfl dX5_laysNumbers_6 ?_
      refine lv_icmp_ge (tgt := 85) hx hb dX5_laysNumbers_9 (by decide) (fun c_1 => ?_) (fun c_1 => ?_)
      · have i_1 : m_n.toInt ≤ i.toInt := kc_le c_1
        have hP9 := hP
        have hD9 := hD
        have hK9 := hK
        exact W.vret hx hb hr (hlocks := hlocks) (fun t ht hW => ⟨⟨(gw), rfl, (fun k hk => LP1_h3 k (by (try dsimp only); omega)), by rw [ht]; exact hP9, va_K.moved hW.alike hK9, hD9⟩, hS.F ht⟩) hS.2.2 dX5_laysNumbers_85
      · have i_1 : i.toInt < m_n.toInt := kc_nle c_1
        refine lv_iconst (v := (-1)) hx hb dX5_laysNumbers_12 (by decide) ?_
        refine lv_istore_n (lv' := [(3, .int (-1)), (2, .int i), (1, .int nx), (0, .ref h0)]) hx hb dX5_laysNumbers_13 rfl hl (by decide) rfl (fun ls hl => ?_)
        refine lv_iconst (v := 0) hx hb dX5_laysNumbers_14 (by decide) ?_
        refine lv_istore (lv' := [(4, .int 0), (3, .int (-1)), (2, .int i), (1, .int nx), (0, .ref h0)]) hx hb dX5_laysNumbers_15 hl (by decide) rfl (fun ls hl => ?_)
        have LP2 : ∀ (n : Nat) (j : Int32) (lk : Int32), (0 ≤ j.toInt) → (lk.toInt = -1 ∨ (0 ≤ lk.toInt ∧ lk.toInt ≤ i.toInt)) → (i.toInt - j.toInt).toNat < n → ∀ (H : Heap) (locs : List Loc), va_P (dC, dI) vwCl [kx_5 h0 g_row m_n m_slots m_thrown g_many g_loss g_less g_voteValue g_voteNumber g_allValue g_allNumber m_allMany g_nodeL g_nodeR m_nodes g_part m_partMany g_wasMany g_wasLoss g_wasValue g_wasNumber g_path m_pathMany g_heavyValue g_heavyTimes m_heavyMany g_fewest g_which g_met m_mostMet, kx_a g_row cyI 160 f, kx_a g_which cyI 160 gw] H → va_D A [kx_5 h0 g_row m_n m_slots m_thrown g_many g_loss g_less g_voteValue g_voteNumber g_allValue g_allNumber m_allMany g_nodeL g_nodeR m_nodes g_part m_partMany g_wasMany g_wasLoss g_wasValue g_wasNumber g_path m_pathMany g_heavyValue g_heavyTimes m_heavyMany g_fewest g_which g_met m_mostMet, kx_a g_row cyI 160 f, kx_a g_which cyI 160 gw] → va_S A s.heap H locs → ∀ (ls : Array Slot), lv_has ls 5 [(4, .int j), (3, .int lk), (2, .int i), (1, .int nx), (0, .ref h0)] → W p l e (headSpec wsX5_laysNumbers ({ frames := 0, cells := 0, slots := 0, locals := 0 })).room s m ([.ref h0] : List Value).toArray below meth c H locs 0 0 (MQ below (va_Qv (fun u : (Nat → Int32) => kindOk u m_n.toInt) (fun (u : (Nat → Int32)) (t : State) => va_P (dC, dI) vwCl [kx_5 h0 g_row m_n m_slots m_thrown g_many g_loss g_less g_voteValue g_voteNumber g_allValue g_allNumber m_allMany g_nodeL g_nodeR m_nodes g_part m_partMany g_wasMany g_wasLoss g_wasValue g_wasNumber g_path m_pathMany g_heavyValue g_heavyTimes m_heavyMany g_fewest g_which g_met m_mostMet, kx_a g_row cyI 160 f, kx_a g_which cyI 160 u] t.heap ∧ va_K (dC, dI) vwCl [(cyI, .int)] t ∧ va_D A [kx_5 h0 g_row m_n m_slots m_thrown g_many g_loss g_less g_voteValue g_voteNumber g_allValue g_allNumber m_allMany g_nodeL g_nodeR m_nodes g_part m_partMany g_wasMany g_wasLoss g_wasValue g_wasNumber g_path m_pathMany g_heavyValue g_heavyTimes m_heavyMany g_fewest g_which g_met m_mostMet, kx_a g_row cyI 160 f, kx_a g_which cyI 160 u]) A) ([.ref h0] : List Value).toArray s 0 0 A) (F0 m 17 ls []) := by
          intro n
          induction n with
          | zero => intro j lk LP2_h0 LP2_h1 hn; exact absurd hn (Nat.not_lt_zero _)
          | succ n ih2 =>
            intro j lk LP2_h0 LP2_h1 hn2 H locs hP hD hS ls hl
            refine lv_iload hx hb dX5_laysNumbers_17 (lv_at hl 0 rfl) ?_
            refine lv_iload_n hx hb dX5_laysNumbers_19 rfl (lv_at hl 2 rfl) ?_
            refine lv_icmp_ge (tgt := 57) hx hb dX5_laysNumbers_20 (by decide) (fun c_2 => ?_) (fun c_2 => ?_)
            · have i_2 : i.toInt ≤ j.toInt := kc_le c_2
              refine lv_aload_n hx hb dX5_laysNumbers_57 rfl (lv_at hl 4 rfl) ?_
              refine va_get (D := (dC, dI)) (ci := 5) (v := .ref g_which) (C := RX5) (T := TX5) (N := 30) hx hb hts hi_5 hown hK hP 0 rfl rfl 27 (by decide) hf_71 (fun _ h9 => h9) rfl dX5_laysNumbers_58 ?_
              refine lv_iload_n hx hb dX5_laysNumbers_61 rfl (lv_at hl 2 rfl) ?_
              refine lv_iload_n hx hb dX5_laysNumbers_62 rfl (lv_at hl 1 rfl) ?_
              refine lv_if_ge (tgt := 70) hx hb dX5_laysNumbers_63 (by decide) (fun c_3 => ?_) (fun c_3 => ?_)
              · have i_3 : 0 ≤ lk.toInt := kc_le c_3
                refine lv_iload_n hx hb dX5_laysNumbers_70 rfl (lv_at hl 1 rfl) ?_
                refine va_iast hx hb hK hP hD hS 2 0 rfl rfl (ki_in (om_10 LP1_h0) (om_1 a1 i_1)) dX5_laysNumbers_71 (fun H locs hP hD hS => ?_)
                obtain ⟨hP, hD⟩ := kx_re (w2 := [kx_5 h0 g_row m_n m_slots m_thrown g_many g_loss g_less g_voteValue g_voteNumber g_allValue g_allNumber m_allMany g_nodeL g_nodeR m_nodes g_part m_partMany g_wasMany g_wasLoss g_wasValue g_wasNumber g_path m_pathMany g_heavyValue g_heavyTimes m_heavyMany g_fewest g_which g_met m_mostMet, kx_a g_row cyI 160 f, kx_a g_which cyI 160 (upd gw i.toNatClampNeg lk)]) hP hD rfl
                refine lv_iload_n hx hb dX5_laysNumbers_72 rfl (lv_at hl 1 rfl) ?_
                refine lv_if_ge (tgt := 79) hx hb dX5_laysNumbers_73 (by decide) (fun c_4 => ?_) (fun c_4 => ?_)
                · have i_4 : 0 ≤ lk.toInt := kc_le c_4
                  obtain ⟨x_5, ex_5⟩ : ∃ y : Int32, y = i + 1 := ⟨_, rfl⟩
                  have i_5 : x_5.toInt = i.toInt + 1 := ki_add ex_5 rfl rfl (om_13 LP1_h0) (om_3 a1 i_1)
                  refine lv_iinc (v := x_5) (lv' := [(2, .int x_5), (4, .int j), (3, .int lk), (1, .int nx), (0, .ref h0)]) hx hb dX5_laysNumbers_79 hl (k := 2) rfl (by rw [ex_5]; rfl) (by decide) rfl (fun ls hl => ?_)
                  refine lv_goto (tgt := 4) hx hb dX5_laysNumbers_82 (by decide) ?_
                  have n_i := ki_nat i rfl (by omega)
                  exact ih1 x_5 nx (upd gw i.toNatClampNeg lk) (om_34 LP1_h0 i_5) (om_10 LP1_h1) (om_4 LP1_h2 i_5) (kindOk_upd LP1_h3 (by omega) (by omega) (by omega) (by omega)) (om_mu hn1 (om_5 i_5) (om_6 i_1)) _ _ hP hD hS ls (lv_sub hl [0, 3, 4] rfl)
                · have i_4 : lk.toInt < 0 := kc_nle c_4
                  exfalso; omega
              · have i_3 : lk.toInt < 0 := kc_nle c_3
                refine lv_iload_n hx hb dX5_laysNumbers_66 rfl (lv_at hl 3 rfl) ?_
                refine lv_goto (tgt := 71) hx hb dX5_laysNumbers_67 (by decide) ?_
                refine va_iast hx hb hK hP hD hS 2 0 rfl rfl (ki_in (om_10 LP1_h0) (om_1 a1 i_1)) dX5_laysNumbers_71 (fun H locs hP hD hS => ?_)
                obtain ⟨hP, hD⟩ := kx_re (w2 := [kx_5 h0 g_row m_n m_slots m_thrown g_many g_loss g_less g_voteValue g_voteNumber g_allValue g_allNumber m_allMany g_nodeL g_nodeR m_nodes g_part m_partMany g_wasMany g_wasLoss g_wasValue g_wasNumber g_path m_pathMany g_heavyValue g_heavyTimes m_heavyMany g_fewest g_which g_met m_mostMet, kx_a g_row cyI 160 f, kx_a g_which cyI 160 (upd gw i.toNatClampNeg nx)]) hP hD rfl
                refine lv_iload_n hx hb dX5_laysNumbers_72 rfl (lv_at hl 1 rfl) ?_
                refine lv_if_ge (tgt := 79) hx hb dX5_laysNumbers_73 (by decide) (fun c_6 => ?_) (fun c_6 => ?_)
                · have i_6 : 0 ≤ lk.toInt := kc_le c_6
                  exfalso; omega
                · have i_6 : lk.toInt < 0 := kc_nle c_6
                  obtain ⟨x_7, ex_7⟩ : ∃ y : Int32, y = nx + 1 := ⟨_, rfl⟩
                  have i_7 : x_7.toInt = nx.toInt + 1 := ki_add ex_7 rfl rfl (om_13 LP1_h1) (om_259 a1 LP1_h2 i_1)
                  refine lv_iinc (v := x_7) (lv' := [(1, .int x_7), (4, .int j), (3, .int lk), (2, .int i), (0, .ref h0)]) hx hb dX5_laysNumbers_76 hl (k := 3) rfl (by rw [ex_7]; rfl) (by decide) rfl (fun ls hl => ?_)
                  obtain ⟨x_8, ex_8⟩ : ∃ y : Int32, y = i + 1 := ⟨_, rfl⟩
                  have i_8 : x_8.toInt = i.toInt + 1 := ki_add ex_8 rfl rfl (om_13 LP1_h0) (om_3 a1 i_1)
                  refine lv_iinc (v := x_8) (lv' := [(2, .int x_8), (1, .int x_7), (4, .int j), (3, .int lk), (0, .ref h0)]) hx hb dX5_laysNumbers_79 hl (k := 3) rfl (by rw [ex_8]; rfl) (by decide) rfl (fun ls hl => ?_)
                  refine lv_goto (tgt := 4) hx hb dX5_laysNumbers_82 (by decide) ?_
                  have n_i := ki_nat i rfl (by omega)
                  exact ih1 x_8 x_7 (upd gw i.toNatClampNeg nx) (om_34 LP1_h0 i_8) (om_34 LP1_h1 i_7) (om_56 LP1_h2 i_7 i_8) (kindOk_upd LP1_h3 (by omega) (by omega) (by omega) (by omega)) (om_mu hn1 (om_5 i_8) (om_6 i_1)) _ _ hP hD hS ls (lv_sub hl [0, 1, 4] rfl)
            · have i_2 : j.toInt < i.toInt := kc_nle c_2
              refine lv_iload_n hx hb dX5_laysNumbers_23 rfl (lv_at hl 1 rfl) ?_
              refine lv_if_ge (tgt := 57) hx hb dX5_laysNumbers_24 (by decide) (fun c_9 => ?_) (fun c_9 => ?_)
              · have i_9 : 0 ≤ lk.toInt := kc_le c_9
                refine lv_aload_n hx hb dX5_laysNumbers_57 rfl (lv_at hl 4 rfl) ?_
                refine va_get (D := (dC, dI)) (ci := 5) (v := .ref g_which) (C := RX5) (T := TX5) (N := 30) hx hb hts hi_5 hown hK hP 0 rfl rfl 27 (by decide) hf_71 (fun _ h9 => h9) rfl dX5_laysNumbers_58 ?_
                refine lv_iload_n hx hb dX5_laysNumbers_61 rfl (lv_at hl 2 rfl) ?_
                refine lv_iload_n hx hb dX5_laysNumbers_62 rfl (lv_at hl 1 rfl) ?_
                refine lv_if_ge (tgt := 70) hx hb dX5_laysNumbers_63 (by decide) (fun c_10 => ?_) (fun c_10 => ?_)
                · have i_10 : 0 ≤ lk.toInt := kc_le c_10
                  refine lv_iload_n hx hb dX5_laysNumbers_70 rfl (lv_at hl 1 rfl) ?_
                  refine va_iast hx hb hK hP hD hS 2 0 rfl rfl (ki_in (om_10 LP1_h0) (om_1 a1 i_1)) dX5_laysNumbers_71 (fun H locs hP hD hS => ?_)
                  obtain ⟨hP, hD⟩ := kx_re (w2 := [kx_5 h0 g_row m_n m_slots m_thrown g_many g_loss g_less g_voteValue g_voteNumber g_allValue g_allNumber m_allMany g_nodeL g_nodeR m_nodes g_part m_partMany g_wasMany g_wasLoss g_wasValue g_wasNumber g_path m_pathMany g_heavyValue g_heavyTimes m_heavyMany g_fewest g_which g_met m_mostMet, kx_a g_row cyI 160 f, kx_a g_which cyI 160 (upd gw i.toNatClampNeg lk)]) hP hD rfl
                  refine lv_iload_n hx hb dX5_laysNumbers_72 rfl (lv_at hl 1 rfl) ?_
                  refine lv_if_ge (tgt := 79) hx hb dX5_laysNumbers_73 (by decide) (fun c_11 => ?_) (fun c_11 => ?_)
                  · have i_11 : 0 ≤ lk.toInt := kc_le c_11
                    obtain ⟨x_12, ex_12⟩ : ∃ y : Int32, y = i + 1 := ⟨_, rfl⟩
                    have i_12 : x_12.toInt = i.toInt + 1 := ki_add ex_12 rfl rfl (om_13 LP1_h0) (om_3 a1 i_1)
                    refine lv_iinc (v := x_12) (lv' := [(2, .int x_12), (4, .int j), (3, .int lk), (1, .int nx), (0, .ref h0)]) hx hb dX5_laysNumbers_79 hl (k := 2) rfl (by rw [ex_12]; rfl) (by decide) rfl (fun ls hl => ?_)
                    refine lv_goto (tgt := 4) hx hb dX5_laysNumbers_82 (by decide) ?_
                    have n_i := ki_nat i rfl (by omega)
                    exact ih1 x_12 nx (upd gw i.toNatClampNeg lk) (om_34 LP1_h0 i_12) (om_10 LP1_h1) (om_4 LP1_h2 i_12) (kindOk_upd LP1_h3 (by omega) (by omega) (by omega) (by omega)) (om_mu hn1 (om_5 i_12) (om_6 i_1)) _ _ hP hD hS ls (lv_sub hl [0, 3, 4] rfl)
                  · have i_11 : lk.toInt < 0 := kc_nle c_11
                    exfalso; omega
                · have i_10 : lk.toInt < 0 := kc_nle c_10
                  exfalso; omega
              · have i_9 : lk.toInt < 0 := kc_nle c_9
                refine lv_aload_n hx hb dX5_laysNumbers_27 rfl (lv_at hl 4 rfl) ?_
                refine va_get (D := (dC, dI)) (ci := 5) (v := .ref g_row) (C := RX5) (T := TX5) (N := 30) hx hb hts hi_5 hown hK hP 0 rfl rfl 0 (by decide) hf_7 (fun _ h9 => h9) rfl dX5_laysNumbers_28 ?_
                refine lv_iload hx hb dX5_laysNumbers_31 (lv_at hl 0 rfl) ?_
                refine va_iald hx hb hK hP 1 0 rfl rfl (ki_in (om_10 LP2_h0) (om_260 a1 i_1 i_2)) dX5_laysNumbers_33 ?_
                refine lv_topi (fun y_13 ey_13 => ?_)
                have j_13 : y_13.toInt = (f j.toNatClampNeg).toInt := congrArg Int32.toInt ey_13
                refine lv_aload_n hx hb dX5_laysNumbers_34 rfl (lv_at hl 4 rfl) ?_
                refine va_get (D := (dC, dI)) (ci := 5) (v := .ref g_row) (C := RX5) (T := TX5) (N := 30) hx hb hts hi_5 hown hK hP 0 rfl rfl 0 (by decide) hf_7 (fun _ h9 => h9) rfl dX5_laysNumbers_35 ?_
                refine lv_iload_n hx hb dX5_laysNumbers_38 rfl (lv_at hl 2 rfl) ?_
                refine va_iald hx hb hK hP 1 0 rfl rfl (ki_in (om_10 LP1_h0) (om_1 a1 i_1)) dX5_laysNumbers_39 ?_
                refine lv_topi (fun y_14 ey_14 => ?_)
                have j_14 : y_14.toInt = (f i.toNatClampNeg).toInt := congrArg Int32.toInt ey_14
                refine lv_icmp_ne (tgt := 51) hx hb dX5_laysNumbers_40 (by decide) (fun c_15 => ?_) (fun c_15 => ?_)
                · have i_15 : ¬ y_13.toInt = y_14.toInt := kc_ne c_15
                  obtain ⟨x_16, ex_16⟩ : ∃ y : Int32, y = j + 1 := ⟨_, rfl⟩
                  have i_16 : x_16.toInt = j.toInt + 1 := ki_add ex_16 rfl rfl (om_13 LP2_h0) (om_261 a1 i_1 i_2)
                  refine lv_iinc (v := x_16) (lv' := [(4, .int x_16), (3, .int lk), (2, .int i), (1, .int nx), (0, .ref h0)]) hx hb dX5_laysNumbers_51 hl (k := 0) rfl (by rw [ex_16]; rfl) (by decide) rfl (fun ls hl => ?_)
                  refine lv_goto (tgt := 17) hx hb dX5_laysNumbers_54 (by decide) ?_
                  exact ih2 x_16 lk (om_34 LP2_h0 i_16) (by omega) (om_mu hn2 (om_5 i_16) (om_6 i_2)) _ _ hP hD hS ls (lv_sub hl [0, 1, 2, 3, 4] rfl)
                · have i_15 : y_13.toInt = y_14.toInt := kc_eq c_15
                  refine lv_aload_n hx hb dX5_laysNumbers_43 rfl (lv_at hl 4 rfl) ?_
                  refine va_get (D := (dC, dI)) (ci := 5) (v := .ref g_which) (C := RX5) (T := TX5) (N := 30) hx hb hts hi_5 hown hK hP 0 rfl rfl 27 (by decide) hf_71 (fun _ h9 => h9) rfl dX5_laysNumbers_44 ?_
                  refine lv_iload hx hb dX5_laysNumbers_47 (lv_at hl 0 rfl) ?_
                  refine va_iald hx hb hK hP 2 0 rfl rfl (ki_in (om_10 LP2_h0) (om_260 a1 i_1 i_2)) dX5_laysNumbers_49 ?_
                  refine lv_topi (fun y_17 ey_17 => ?_)
                  have j_17 : y_17.toInt = (gw j.toNatClampNeg).toInt := congrArg Int32.toInt ey_17
                  have n_18 : (j.toNatClampNeg : Int) = j.toInt := ki_nat _ rfl (om_10 LP2_h0)
                  have i_19 := LP1_h3 j.toNatClampNeg (by omega)
                  refine lv_istore_n (lv' := [(3, .int y_17), (4, .int j), (2, .int i), (1, .int nx), (0, .ref h0)]) hx hb dX5_laysNumbers_50 rfl hl (by decide) rfl (fun ls hl => ?_)
                  obtain ⟨x_20, ex_20⟩ : ∃ y : Int32, y = j + 1 := ⟨_, rfl⟩
                  have i_20 : x_20.toInt = j.toInt + 1 := ki_add ex_20 rfl rfl (om_13 LP2_h0) (om_261 a1 i_1 i_2)
                  refine lv_iinc (v := x_20) (lv' := [(4, .int x_20), (3, .int y_17), (2, .int i), (1, .int nx), (0, .ref h0)]) hx hb dX5_laysNumbers_51 hl (k := 1) rfl (by rw [ex_20]; rfl) (by decide) rfl (fun ls hl => ?_)
                  refine lv_goto (tgt := 17) hx hb dX5_laysNumbers_54 (by decide) ?_
                  exact ih2 x_20 y_17 (om_34 LP2_h0 i_20) (by omega) (om_mu hn2 (om_5 i_20) (om_6 i_2)) _ _ hP hD hS ls (lv_sub hl [0, 1, 2, 3, 4] rfl)
        have k_21 : (0 : Int32).toInt = 0 := rfl
        have k_22 : ((-1) : Int32).toInt = -1 := rfl
        exact LP2 ((i.toInt - 0 : Int).toNat + 1) 0 (-1) om_35 (by omega) (Nat.lt_succ_self _) _ _ hP hD hS ls (lv_sub hl [0, 1, 2, 3, 4] rfl)
  have k_23 : (0 : Int32).toInt = 0 := rfl
  have k_24 : (0 : Int32).toInt = 0 := rfl
  exact LP1 ((m_n.toInt - 0 : Int).toNat + 1) 0 0 fw om_35 om_35 om_35 (kindOk_0 _ (by omega)) (Nat.lt_succ_self _) _ _ hP hD hS ls (lv_sub hl [0, 1, 2] rfl)

set_option maxHeartbeats 4000000 in
set_option maxRecDepth 100000 in
theorem c_X5_begins (l : Launch) (dC : Nat → ClassId) (dI : Nat → Nat → Nat) (h0 : Nat) (g_row : Nat) (g_many : Nat) (g_loss : Nat) (g_less : Nat) (g_voteValue : Nat) (g_voteNumber : Nat) (g_allValue : Nat) (g_allNumber : Nat) (g_nodeL : Nat) (g_nodeR : Nat) (g_part : Nat) (g_wasMany : Nat) (g_wasLoss : Nat) (g_wasValue : Nat) (g_wasNumber : Nat) (g_path : Nat) (g_heavyValue : Nat) (g_heavyTimes : Nat) (g_fewest : Nat) (g_which : Nat) (g_met : Nat) (m_n : Int32) (m_slots : Int32) (m_thrown : Int32) (m_allMany : Int32) (m_nodes : Int32) (m_partMany : Int32) (m_pathMany : Int32) (m_heavyMany : Int32) (m_mostMet : Int32) (cyI : ClassId) (fq : Nat → Int32) (sz : Nat) (a0 : 0 ≤ m_n.toInt) (a1 : m_n.toInt ≤ 160) : kx_MQ l (dC, dI) yX5_begins wsX5_begins ({ frames := 0, cells := 0, slots := 0, locals := 0 }) [.ref h0] [kx_5 h0 g_row m_n m_slots m_thrown g_many g_loss g_less g_voteValue g_voteNumber g_allValue g_allNumber m_allMany g_nodeL g_nodeR m_nodes g_part m_partMany g_wasMany g_wasLoss g_wasValue g_wasNumber g_path m_pathMany g_heavyValue g_heavyTimes m_heavyMany g_fewest g_which g_met m_mostMet, kx_a g_met cyI 160 fq] [(cyI, .int)] sz (fun A => va_Qv (fun u : (Nat → Int32) => True) (fun (u : (Nat → Int32)) (t : State) => va_P (dC, dI) vwCl [kx_5 h0 g_row m_n m_slots m_thrown g_many g_loss g_less g_voteValue g_voteNumber g_allValue g_allNumber m_allMany g_nodeL g_nodeR m_nodes g_part m_partMany g_wasMany g_wasLoss g_wasValue g_wasNumber g_path m_pathMany g_heavyValue g_heavyTimes m_heavyMany g_fewest g_which g_met 0, kx_a g_met cyI 160 u] t.heap ∧ va_K (dC, dI) vwCl [(cyI, .int)] t ∧ va_D A [kx_5 h0 g_row m_n m_slots m_thrown g_many g_loss g_less g_voteValue g_voteNumber g_allValue g_allNumber m_allMany g_nodeL g_nodeR m_nodes g_part m_partMany g_wasMany g_wasLoss g_wasValue g_wasNumber g_path m_pathMany g_heavyValue g_heavyTimes m_heavyMany g_fewest g_which g_met 0, kx_a g_met cyI 160 u]) A) := by
  refine kx_stQ (ws := wsX5_begins) (cc := cX5_begins) (maxL := 2) (ret := none) (by decide) rfl (Nat.le_of_ble_eq_true rfl) ?_
  intro p e s m below meth c A ls hx hb hr hlocks hts hown hml hA hS hP hK hD hl
  have hown : s.vm.findClass RX5 = some m.cls := hown
  have hl : lv_has ls 2 [(0, .ref h0)] := hl
  have hf_84 := hts (.fieldLink RX5 84 "MajorityIndexModel" "n" "I") (List.mem_of_getElem? (i := 1) rfl)
  have hi_5 : ∀ w ∈ u_ws RX5 TX5 30, w ∈ wsX5_begins := fun w h => List.mem_cons_of_mem _ (List.mem_append_right _ h)
  have hf_210 := hts (.fieldLink RX5 210 "MajorityIndexModel" "mostMet" "I") (List.mem_of_getElem? (i := 3) rfl)
  have hf_74 := hts (.fieldLink RX5 74 "MajorityIndexModel" "met" "[I") (List.mem_of_getElem? (i := 2) rfl)
  refine lv_iconst (v := 0) hx hb dX5_begins_0 (by decide) ?_
  refine lv_istore_n (lv' := [(1, .int 0), (0, .ref h0)]) hx hb dX5_begins_1 rfl hl (by decide) rfl (fun ls hl => ?_)
  have LP1 : ∀ (n : Nat) (i : Int32) (gq : Nat → Int32), (0 ≤ i.toInt) → (m_n.toInt - i.toInt).toNat < n → ∀ (H : Heap) (locs : List Loc), va_P (dC, dI) vwCl [kx_5 h0 g_row m_n m_slots m_thrown g_many g_loss g_less g_voteValue g_voteNumber g_allValue g_allNumber m_allMany g_nodeL g_nodeR m_nodes g_part m_partMany g_wasMany g_wasLoss g_wasValue g_wasNumber g_path m_pathMany g_heavyValue g_heavyTimes m_heavyMany g_fewest g_which g_met m_mostMet, kx_a g_met cyI 160 gq] H → va_D A [kx_5 h0 g_row m_n m_slots m_thrown g_many g_loss g_less g_voteValue g_voteNumber g_allValue g_allNumber m_allMany g_nodeL g_nodeR m_nodes g_part m_partMany g_wasMany g_wasLoss g_wasValue g_wasNumber g_path m_pathMany g_heavyValue g_heavyTimes m_heavyMany g_fewest g_which g_met m_mostMet, kx_a g_met cyI 160 gq] → va_S A s.heap H locs → ∀ (ls : Array Slot), lv_has ls 2 [(1, .int i), (0, .ref h0)] → W p l e (headSpec wsX5_begins ({ frames := 0, cells := 0, slots := 0, locals := 0 })).room s m ([.ref h0] : List Value).toArray below meth c H locs 0 0 (MQ below (va_Qv (fun u : (Nat → Int32) => True) (fun (u : (Nat → Int32)) (t : State) => va_P (dC, dI) vwCl [kx_5 h0 g_row m_n m_slots m_thrown g_many g_loss g_less g_voteValue g_voteNumber g_allValue g_allNumber m_allMany g_nodeL g_nodeR m_nodes g_part m_partMany g_wasMany g_wasLoss g_wasValue g_wasNumber g_path m_pathMany g_heavyValue g_heavyTimes m_heavyMany g_fewest g_which g_met 0, kx_a g_met cyI 160 u] t.heap ∧ va_K (dC, dI) vwCl [(cyI, .int)] t ∧ va_D A [kx_5 h0 g_row m_n m_slots m_thrown g_many g_loss g_less g_voteValue g_voteNumber g_allValue g_allNumber m_allMany g_nodeL g_nodeR m_nodes g_part m_partMany g_wasMany g_wasLoss g_wasValue g_wasNumber g_path m_pathMany g_heavyValue g_heavyTimes m_heavyMany g_fewest g_which g_met 0, kx_a g_met cyI 160 u]) A) ([.ref h0] : List Value).toArray s 0 0 A) (F0 m 2 ls []) := by
    intro n
    induction n with
    | zero => intro i gq LP1_h0 hn; exact absurd hn (Nat.not_lt_zero _)
    | succ n ih1 =>
      intro i gq LP1_h0 hn1 H locs hP hD hS ls hl
      refine lv_iload_n hx hb dX5_begins_2 rfl (lv_at hl 0 rfl) ?_
      refine lv_aload_n hx hb dX5_begins_3 rfl (lv_at hl 1 rfl) ?_
      refine va_get (D := (dC, dI)) (ci := 5) (v := .int m_n) (C := RX5) (T := TX5) (N := 30) hx hb hts hi_5 hown hK hP 0 rfl rfl 1 (by decide) hf_84 (fun _ h9 => h9) rfl dX5_begins_4 ?_
      refine lv_icmp_ge (tgt := 23) hx hb dX5_begins_7 (by decide) (fun c_1 => ?_) (fun c_1 => ?_)
      · have i_1 : m_n.toInt ≤ i.toInt := kc_le c_1
        refine lv_aload_n hx hb dX5_begins_23 rfl (lv_at hl 1 rfl) ?_
        refine lv_iconst (v := 0) hx hb dX5_begins_24 (by decide) ?_
        refine va_put (D := (dC, dI)) (ci := 5) (v := .int 0) (ty := .int) (C := RX5) (T := TX5) (N := 30) hx hb hts hi_5 tyX5 tyX5_ok nmX5 hown hK hP hD hS 0 rfl rfl 29 (by decide) hf_210 (fun _ h9 => h9) rfl (by decide +kernel) rfl rfl (Nat.le_of_ble_eq_true rfl) dX5_begins_25 (fun H locs hP hD hS => ?_)
        obtain ⟨hP, hD⟩ := kx_re (w2 := [kx_5 h0 g_row m_n m_slots m_thrown g_many g_loss g_less g_voteValue g_voteNumber g_allValue g_allNumber m_allMany g_nodeL g_nodeR m_nodes g_part m_partMany g_wasMany g_wasLoss g_wasValue g_wasNumber g_path m_pathMany g_heavyValue g_heavyTimes m_heavyMany g_fewest g_which g_met 0, kx_a g_met cyI 160 gq]) hP hD rfl
        have hP9 := hP
        have hD9 := hD
        have hK9 := hK
        exact W.vret hx hb hr (hlocks := hlocks) (fun t ht hW => ⟨⟨(gq), rfl, trivial, by rw [ht]; exact hP9, va_K.moved hW.alike hK9, hD9⟩, hS.F ht⟩) hS.2.2 dX5_begins_28
      · have i_1 : i.toInt < m_n.toInt := kc_nle c_1
        refine lv_aload_n hx hb dX5_begins_10 rfl (lv_at hl 1 rfl) ?_
        refine va_get (D := (dC, dI)) (ci := 5) (v := .ref g_met) (C := RX5) (T := TX5) (N := 30) hx hb hts hi_5 hown hK hP 0 rfl rfl 28 (by decide) hf_74 (fun _ h9 => h9) rfl dX5_begins_11 ?_
        refine lv_iload_n hx hb dX5_begins_14 rfl (lv_at hl 0 rfl) ?_
        refine lv_iconst (v := 0) hx hb dX5_begins_15 (by decide) ?_
        refine va_iast hx hb hK hP hD hS 1 0 rfl rfl (ki_in (om_10 LP1_h0) (om_1 a1 i_1)) dX5_begins_16 (fun H locs hP hD hS => ?_)
        obtain ⟨hP, hD⟩ := kx_re (w2 := [kx_5 h0 g_row m_n m_slots m_thrown g_many g_loss g_less g_voteValue g_voteNumber g_allValue g_allNumber m_allMany g_nodeL g_nodeR m_nodes g_part m_partMany g_wasMany g_wasLoss g_wasValue g_wasNumber g_path m_pathMany g_heavyValue g_heavyTimes m_heavyMany g_fewest g_which g_met m_mostMet, kx_a g_met cyI 160 (upd gq i.toNatClampNeg 0)]) hP hD rfl
        obtain ⟨x_2, ex_2⟩ : ∃ y : Int32, y = i + 1 := ⟨_, rfl⟩
        have i_2 : x_2.toInt = i.toInt + 1 := ki_add ex_2 rfl rfl (om_13 LP1_h0) (om_3 a1 i_1)
        refine lv_iinc (v := x_2) (lv' := [(1, .int x_2), (0, .ref h0)]) hx hb dX5_begins_17 hl (k := 0) rfl (by rw [ex_2]; rfl) (by decide) rfl (fun ls hl => ?_)
        refine lv_goto (tgt := 2) hx hb dX5_begins_20 (by decide) ?_
        exact ih1 x_2 (upd gq i.toNatClampNeg 0) (om_34 LP1_h0 i_2) (om_mu hn1 (om_5 i_2) (om_6 i_1)) _ _ hP hD hS ls (lv_sub hl [0, 1] rfl)
  have k_3 : (0 : Int32).toInt = 0 := rfl
  exact LP1 ((m_n.toInt - 0 : Int).toNat + 1) 0 fq om_35 (Nat.lt_succ_self _) _ _ hP hD hS ls (lv_sub hl [0, 1] rfl)

set_option maxHeartbeats 4000000 in
set_option maxRecDepth 100000 in
theorem c_X5_goesOn (l : Launch) (dC : Nat → ClassId) (dI : Nat → Nat → Nat) (h0 : Nat) (g_row : Nat) (g_many : Nat) (g_loss : Nat) (g_less : Nat) (g_voteValue : Nat) (g_voteNumber : Nat) (g_allValue : Nat) (g_allNumber : Nat) (g_nodeL : Nat) (g_nodeR : Nat) (g_part : Nat) (g_wasMany : Nat) (g_wasLoss : Nat) (g_wasValue : Nat) (g_wasNumber : Nat) (g_path : Nat) (g_heavyValue : Nat) (g_heavyTimes : Nat) (g_fewest : Nat) (g_which : Nat) (g_met : Nat) (m_n : Int32) (m_slots : Int32) (m_thrown : Int32) (m_allMany : Int32) (m_nodes : Int32) (m_partMany : Int32) (m_pathMany : Int32) (m_heavyMany : Int32) (m_mostMet : Int32) (cyI : ClassId) (fw : Nat → Int32) (fq : Nat → Int32) (nn : Int) (p0 : Int32) (p1 : Int32) (sz : Nat) (k0 : kindOk fw nn) (b0 : 1 ≤ p0.toInt) (b1 : p0.toInt ≤ nn) (b2 : nn ≤ 160) : kx_MQ l (dC, dI) yX5_goesOn wsX5_goesOn ({ frames := 0, cells := 0, slots := 0, locals := 0 }) [.ref h0, .int p0, .int p1] [kx_5 h0 g_row m_n m_slots m_thrown g_many g_loss g_less g_voteValue g_voteNumber g_allValue g_allNumber m_allMany g_nodeL g_nodeR m_nodes g_part m_partMany g_wasMany g_wasLoss g_wasValue g_wasNumber g_path m_pathMany g_heavyValue g_heavyTimes m_heavyMany g_fewest g_which g_met m_mostMet, kx_a g_which cyI 160 fw, kx_a g_met cyI 160 fq] [(cyI, .int)] sz (fun A => va_Qi (fun (r : Int32) (u : Int32 × (Nat → Int32)) => r = 1 ∨ r = 0) (fun (u : Int32 × (Nat → Int32)) (t : State) => va_P (dC, dI) vwCl [kx_5 h0 g_row m_n m_slots m_thrown g_many g_loss g_less g_voteValue g_voteNumber g_allValue g_allNumber m_allMany g_nodeL g_nodeR m_nodes g_part m_partMany g_wasMany g_wasLoss g_wasValue g_wasNumber g_path m_pathMany g_heavyValue g_heavyTimes m_heavyMany g_fewest g_which g_met u.1, kx_a g_which cyI 160 fw, kx_a g_met cyI 160 u.2] t.heap ∧ va_K (dC, dI) vwCl [(cyI, .int)] t ∧ va_D A [kx_5 h0 g_row m_n m_slots m_thrown g_many g_loss g_less g_voteValue g_voteNumber g_allValue g_allNumber m_allMany g_nodeL g_nodeR m_nodes g_part m_partMany g_wasMany g_wasLoss g_wasValue g_wasNumber g_path m_pathMany g_heavyValue g_heavyTimes m_heavyMany g_fewest g_which g_met u.1, kx_a g_which cyI 160 fw, kx_a g_met cyI 160 u.2]) A) := by
  refine kx_stQ (ws := wsX5_goesOn) (cc := cX5_goesOn) (maxL := 4) (ret := (some .boolean)) (by decide) rfl (Nat.le_of_ble_eq_true rfl) ?_
  intro p e s m below meth c A ls hx hb hr hlocks hts hown hml hA hS hP hK hD hl
  have hown : s.vm.findClass RX5 = some m.cls := hown
  have hl : lv_has ls 4 [(0, .ref h0), (1, .int p0), (2, .int p1)] := hl
  have hf_71 := hts (.fieldLink RX5 71 "MajorityIndexModel" "which" "[I") (List.mem_of_getElem? (i := 1) rfl)
  have hi_5 : ∀ w ∈ u_ws RX5 TX5 30, w ∈ wsX5_goesOn := fun w h => List.mem_cons_of_mem _ (List.mem_append_right _ h)
  have hf_74 := hts (.fieldLink RX5 74 "MajorityIndexModel" "met" "[I") (List.mem_of_getElem? (i := 2) rfl)
  have hf_210 := hts (.fieldLink RX5 210 "MajorityIndexModel" "mostMet" "I") (List.mem_of_getElem? (i := 3) rfl)
  refine lv_aload_n hx hb dX5_goesOn_0 rfl (lv_at hl 0 rfl) ?_
  refine va_get (D := (dC, dI)) (ci := 5) (v := .ref g_which) (C := RX5) (T := TX5) (N := 30) hx hb hts hi_5 hown hK hP 0 rfl rfl 27 (by decide) hf_71 (fun _ h9 => h9) rfl dX5_goesOn_1 ?_
  refine lv_iload_n hx hb dX5_goesOn_4 rfl (lv_at hl 1 rfl) ?_
  refine lv_iconst (v := 1) hx hb dX5_goesOn_5 (by decide) ?_
  refine lv_isub hx hb dX5_goesOn_6 ?_
  refine lv_topi (fun y_1 ey_1 => ?_)
  have i_1 : y_1.toInt = p0.toInt - 1 := ki_sub ey_1 rfl rfl (om_182 b0) (by omega)
  refine va_iald hx hb hK hP 1 0 rfl rfl (ki_in (om_237 b0 i_1) (by omega)) dX5_goesOn_7 ?_
  refine lv_topi (fun y_2 ey_2 => ?_)
  have j_2 : y_2.toInt = (fw y_1.toNatClampNeg).toInt := congrArg Int32.toInt ey_2
  have n_3 : (y_1.toNatClampNeg : Int) = y_1.toInt := ki_nat _ rfl (om_237 b0 i_1)
  have i_4 := k0 y_1.toNatClampNeg (by omega)
  refine lv_istore_n (lv' := [(3, .int y_2), (0, .ref h0), (1, .int p0), (2, .int p1)]) hx hb dX5_goesOn_8 rfl hl (by decide) rfl (fun ls hl => ?_)
  refine lv_aload_n hx hb dX5_goesOn_9 rfl (lv_at hl 1 rfl) ?_
  refine va_get (D := (dC, dI)) (ci := 5) (v := .ref g_met) (C := RX5) (T := TX5) (N := 30) hx hb hts hi_5 hown hK hP 0 rfl rfl 28 (by decide) hf_74 (fun _ h9 => h9) rfl dX5_goesOn_10 ?_
  refine lv_iload_n hx hb dX5_goesOn_13 rfl (lv_at hl 0 rfl) ?_
  refine lv_dup2_11 hx hb dX5_goesOn_14 rfl rfl ?_
  refine va_iald hx hb hK hP 2 0 rfl rfl (ki_in (om_144 j_2 i_4.1) (by omega)) dX5_goesOn_15 ?_
  refine lv_topi (fun y_5 ey_5 => ?_)
  have j_5 : y_5.toInt = (fq y_2.toNatClampNeg).toInt := congrArg Int32.toInt ey_5
  refine lv_iconst (v := 1) hx hb dX5_goesOn_16 (by decide) ?_
  refine lv_iadd hx hb dX5_goesOn_17 ?_
  refine lv_topi (fun y_6 ey_6 => ?_)
  refine va_iast hx hb hK hP hD hS 2 0 rfl rfl (ki_in (om_144 j_2 i_4.1) (by omega)) dX5_goesOn_18 (fun H locs hP hD hS => ?_)
  obtain ⟨hP, hD⟩ := kx_re (w2 := [kx_5 h0 g_row m_n m_slots m_thrown g_many g_loss g_less g_voteValue g_voteNumber g_allValue g_allNumber m_allMany g_nodeL g_nodeR m_nodes g_part m_partMany g_wasMany g_wasLoss g_wasValue g_wasNumber g_path m_pathMany g_heavyValue g_heavyTimes m_heavyMany g_fewest g_which g_met m_mostMet, kx_a g_which cyI 160 fw, kx_a g_met cyI 160 (upd fq y_2.toNatClampNeg y_6)]) hP hD rfl
  refine lv_aload_n hx hb dX5_goesOn_19 rfl (lv_at hl 1 rfl) ?_
  refine va_get (D := (dC, dI)) (ci := 5) (v := .ref g_met) (C := RX5) (T := TX5) (N := 30) hx hb hts hi_5 hown hK hP 0 rfl rfl 28 (by decide) hf_74 (fun _ h9 => h9) rfl dX5_goesOn_20 ?_
  refine lv_iload_n hx hb dX5_goesOn_23 rfl (lv_at hl 0 rfl) ?_
  refine va_iald hx hb hK hP 2 0 rfl rfl (ki_in (om_144 j_2 i_4.1) (by omega)) dX5_goesOn_24 ?_
  refine lv_topi (fun y_7 ey_7 => ?_)
  have j_7 : y_7.toInt = ((upd fq y_2.toNatClampNeg y_6) y_2.toNatClampNeg).toInt := congrArg Int32.toInt ey_7
  refine lv_aload_n hx hb dX5_goesOn_25 rfl (lv_at hl 1 rfl) ?_
  refine va_get (D := (dC, dI)) (ci := 5) (v := .int m_mostMet) (C := RX5) (T := TX5) (N := 30) hx hb hts hi_5 hown hK hP 0 rfl rfl 29 (by decide) hf_210 (fun _ h9 => h9) rfl dX5_goesOn_26 ?_
  refine lv_icmp_le (tgt := 42) hx hb dX5_goesOn_29 (by decide) (fun c_8 => ?_) (fun c_8 => ?_)
  · have i_8 : y_7.toInt ≤ m_mostMet.toInt := kc_le c_8
    refine lv_iconst (v := 2) hx hb dX5_goesOn_42 (by decide) ?_
    refine lv_aload_n hx hb dX5_goesOn_43 rfl (lv_at hl 1 rfl) ?_
    refine va_get (D := (dC, dI)) (ci := 5) (v := .int m_mostMet) (C := RX5) (T := TX5) (N := 30) hx hb hts hi_5 hown hK hP 0 rfl rfl 29 (by decide) hf_210 (fun _ h9 => h9) rfl dX5_goesOn_44 ?_
    refine lv_imul hx hb dX5_goesOn_47 ?_
    refine lv_topi (fun y_9 ey_9 => ?_)
    refine lv_iload_n hx hb dX5_goesOn_48 rfl (lv_at hl 2 rfl) ?_
    refine lv_iload_n hx hb dX5_goesOn_49 rfl (lv_at hl 3 rfl) ?_
    refine lv_isub hx hb dX5_goesOn_50 ?_
    refine lv_topi (fun y_10 ey_10 => ?_)
    refine lv_icmp_le (tgt := 58) hx hb dX5_goesOn_51 (by decide) (fun c_11 => ?_) (fun c_11 => ?_)
    · have i_11 : y_9.toInt ≤ y_10.toInt := kc_le c_11
      refine lv_iconst (v := 0) hx hb dX5_goesOn_58 (by decide) ?_
      have hP9 := hP
      have hD9 := hD
      have hK9 := hK
      exact W.zret (v := 0) hx hb hr (by decide) (hlocks := hlocks) (fun t ht hW => ⟨⟨0, (m_mostMet, (upd fq y_2.toNatClampNeg y_6)), rfl, (Or.inr rfl), by rw [ht]; exact hP9, va_K.moved hW.alike hK9, hD9⟩, hS.F ht⟩) hS.2.2 dX5_goesOn_59
    · have i_11 : y_10.toInt < y_9.toInt := kc_nle c_11
      refine lv_iconst (v := 1) hx hb dX5_goesOn_54 (by decide) ?_
      refine lv_goto (tgt := 59) hx hb dX5_goesOn_55 (by decide) ?_
      have hP9 := hP
      have hD9 := hD
      have hK9 := hK
      exact W.zret (v := 1) hx hb hr (by decide) (hlocks := hlocks) (fun t ht hW => ⟨⟨1, (m_mostMet, (upd fq y_2.toNatClampNeg y_6)), rfl, (Or.inl rfl), by rw [ht]; exact hP9, va_K.moved hW.alike hK9, hD9⟩, hS.F ht⟩) hS.2.2 dX5_goesOn_59
  · have i_8 : m_mostMet.toInt < y_7.toInt := kc_nle c_8
    refine lv_aload_n hx hb dX5_goesOn_32 rfl (lv_at hl 1 rfl) ?_
    refine lv_aload_n hx hb dX5_goesOn_33 rfl (lv_at hl 1 rfl) ?_
    refine va_get (D := (dC, dI)) (ci := 5) (v := .ref g_met) (C := RX5) (T := TX5) (N := 30) hx hb hts hi_5 hown hK hP 0 rfl rfl 28 (by decide) hf_74 (fun _ h9 => h9) rfl dX5_goesOn_34 ?_
    refine lv_iload_n hx hb dX5_goesOn_37 rfl (lv_at hl 0 rfl) ?_
    refine va_iald hx hb hK hP 2 0 rfl rfl (ki_in (om_144 j_2 i_4.1) (by omega)) dX5_goesOn_38 ?_
    refine lv_topi (fun y_12 ey_12 => ?_)
    have j_12 : y_12.toInt = ((upd fq y_2.toNatClampNeg y_6) y_2.toNatClampNeg).toInt := congrArg Int32.toInt ey_12
    refine va_put (D := (dC, dI)) (ci := 5) (v := .int y_12) (ty := .int) (C := RX5) (T := TX5) (N := 30) hx hb hts hi_5 tyX5 tyX5_ok nmX5 hown hK hP hD hS 0 rfl rfl 29 (by decide) hf_210 (fun _ h9 => h9) rfl (by decide +kernel) rfl rfl (Nat.le_of_ble_eq_true rfl) dX5_goesOn_39 (fun H locs hP hD hS => ?_)
    obtain ⟨hP, hD⟩ := kx_re (w2 := [kx_5 h0 g_row m_n m_slots m_thrown g_many g_loss g_less g_voteValue g_voteNumber g_allValue g_allNumber m_allMany g_nodeL g_nodeR m_nodes g_part m_partMany g_wasMany g_wasLoss g_wasValue g_wasNumber g_path m_pathMany g_heavyValue g_heavyTimes m_heavyMany g_fewest g_which g_met y_12, kx_a g_which cyI 160 fw, kx_a g_met cyI 160 (upd fq y_2.toNatClampNeg y_6)]) hP hD rfl
    refine lv_iconst (v := 2) hx hb dX5_goesOn_42 (by decide) ?_
    refine lv_aload_n hx hb dX5_goesOn_43 rfl (lv_at hl 1 rfl) ?_
    refine va_get (D := (dC, dI)) (ci := 5) (v := .int y_12) (C := RX5) (T := TX5) (N := 30) hx hb hts hi_5 hown hK hP 0 rfl rfl 29 (by decide) hf_210 (fun _ h9 => h9) rfl dX5_goesOn_44 ?_
    refine lv_imul hx hb dX5_goesOn_47 ?_
    refine lv_topi (fun y_13 ey_13 => ?_)
    refine lv_iload_n hx hb dX5_goesOn_48 rfl (lv_at hl 2 rfl) ?_
    refine lv_iload_n hx hb dX5_goesOn_49 rfl (lv_at hl 3 rfl) ?_
    refine lv_isub hx hb dX5_goesOn_50 ?_
    refine lv_topi (fun y_14 ey_14 => ?_)
    refine lv_icmp_le (tgt := 58) hx hb dX5_goesOn_51 (by decide) (fun c_15 => ?_) (fun c_15 => ?_)
    · have i_15 : y_13.toInt ≤ y_14.toInt := kc_le c_15
      refine lv_iconst (v := 0) hx hb dX5_goesOn_58 (by decide) ?_
      have hP9 := hP
      have hD9 := hD
      have hK9 := hK
      exact W.zret (v := 0) hx hb hr (by decide) (hlocks := hlocks) (fun t ht hW => ⟨⟨0, (y_12, (upd fq y_2.toNatClampNeg y_6)), rfl, (Or.inr rfl), by rw [ht]; exact hP9, va_K.moved hW.alike hK9, hD9⟩, hS.F ht⟩) hS.2.2 dX5_goesOn_59
    · have i_15 : y_14.toInt < y_13.toInt := kc_nle c_15
      refine lv_iconst (v := 1) hx hb dX5_goesOn_54 (by decide) ?_
      refine lv_goto (tgt := 59) hx hb dX5_goesOn_55 (by decide) ?_
      have hP9 := hP
      have hD9 := hD
      have hK9 := hK
      exact W.zret (v := 1) hx hb hr (by decide) (hlocks := hlocks) (fun t ht hW => ⟨⟨1, (y_12, (upd fq y_2.toNatClampNeg y_6)), rfl, (Or.inl rfl), by rw [ht]; exact hP9, va_K.moved hW.alike hK9, hD9⟩, hS.F ht⟩) hS.2.2 dX5_goesOn_59

set_option maxHeartbeats 4000000 in
set_option maxRecDepth 100000 in
theorem c_X5_majorities (l : Launch) (dC : Nat → ClassId) (dI : Nat → Nat → Nat) (h0 : Nat) (g_row : Nat) (g_many : Nat) (g_loss : Nat) (g_less : Nat) (g_voteValue : Nat) (g_voteNumber : Nat) (g_allValue : Nat) (g_allNumber : Nat) (g_nodeL : Nat) (g_nodeR : Nat) (g_part : Nat) (g_wasMany : Nat) (g_wasLoss : Nat) (g_wasValue : Nat) (g_wasNumber : Nat) (g_path : Nat) (g_heavyValue : Nat) (g_heavyTimes : Nat) (g_fewest : Nat) (g_which : Nat) (g_met : Nat) (m_n : Int32) (m_slots : Int32) (m_thrown : Int32) (m_allMany : Int32) (m_nodes : Int32) (m_partMany : Int32) (m_pathMany : Int32) (m_heavyMany : Int32) (m_mostMet : Int32) (cyI : ClassId) (f : Nat → Int32) (fw : Nat → Int32) (fq : Nat → Int32) (sz : Nat) (a0 : 0 ≤ m_n.toInt) (a1 : m_n.toInt ≤ 160) : kx_MQ l (dC, dI) yX5_majorities wsX5_majorities ({ frames := 1, cells := 0, slots := 0, locals := 45 }) [.ref h0] [kx_5 h0 g_row m_n m_slots m_thrown g_many g_loss g_less g_voteValue g_voteNumber g_allValue g_allNumber m_allMany g_nodeL g_nodeR m_nodes g_part m_partMany g_wasMany g_wasLoss g_wasValue g_wasNumber g_path m_pathMany g_heavyValue g_heavyTimes m_heavyMany g_fewest g_which g_met m_mostMet, kx_a g_row cyI 160 f, kx_a g_which cyI 160 fw, kx_a g_met cyI 160 fq] [(cyI, .int)] sz (fun A => va_Qi (fun (r : Int32) (u : Int32 × (Nat → Int32) × (Nat → Int32)) => True) (fun (u : Int32 × (Nat → Int32) × (Nat → Int32)) (t : State) => va_P (dC, dI) vwCl [kx_5 h0 g_row m_n m_slots 0 g_many g_loss g_less g_voteValue g_voteNumber g_allValue g_allNumber m_allMany g_nodeL g_nodeR m_nodes g_part m_partMany g_wasMany g_wasLoss g_wasValue g_wasNumber g_path m_pathMany g_heavyValue g_heavyTimes m_heavyMany g_fewest g_which g_met u.1, kx_a g_row cyI 160 f, kx_a g_which cyI 160 u.2.1, kx_a g_met cyI 160 u.2.2] t.heap ∧ va_K (dC, dI) vwCl [(cyI, .int)] t ∧ va_D A [kx_5 h0 g_row m_n m_slots 0 g_many g_loss g_less g_voteValue g_voteNumber g_allValue g_allNumber m_allMany g_nodeL g_nodeR m_nodes g_part m_partMany g_wasMany g_wasLoss g_wasValue g_wasNumber g_path m_pathMany g_heavyValue g_heavyTimes m_heavyMany g_fewest g_which g_met u.1, kx_a g_row cyI 160 f, kx_a g_which cyI 160 u.2.1, kx_a g_met cyI 160 u.2.2]) A) := by
  refine kx_stQ (ws := wsX5_majorities) (cc := cX5_majorities) (maxL := 4) (ret := (some .int)) (by decide) rfl (Nat.le_of_ble_eq_true rfl) ?_
  intro p e s m below meth c A ls hx hb hr hlocks hts hown hml hA hS hP hK hD hl
  have hown : s.vm.findClass RX5 = some m.cls := hown
  have hl : lv_has ls 4 [(0, .ref h0)] := hl
  have hf_77 := hts (.fieldLink RX5 77 "MajorityIndexModel" "thrown" "I") (List.mem_of_getElem? (i := 1) rfl)
  have hi_5 : ∀ w ∈ u_ws RX5 TX5 30, w ∈ wsX5_majorities := fun w h => List.mem_cons_of_mem _ (List.mem_append_right _ h)
  have hf_84 := hts (.fieldLink RX5 84 "MajorityIndexModel" "n" "I") (List.mem_of_getElem? (i := 2) rfl)
  refine lv_aload_n hx hb dX5_majorities_0 rfl (lv_at hl 0 rfl) ?_
  refine lv_iconst (v := 0) hx hb dX5_majorities_1 (by decide) ?_
  refine va_put (D := (dC, dI)) (ci := 5) (v := .int 0) (ty := .int) (C := RX5) (T := TX5) (N := 30) hx hb hts hi_5 tyX5 tyX5_ok nmX5 hown hK hP hD hS 0 rfl rfl 3 (by decide) hf_77 (fun _ h9 => h9) rfl (by decide +kernel) rfl rfl (Nat.le_of_ble_eq_true rfl) dX5_majorities_2 (fun H locs hP hD hS => ?_)
  obtain ⟨hP, hD⟩ := kx_re (w2 := [kx_5 h0 g_row m_n m_slots 0 g_many g_loss g_less g_voteValue g_voteNumber g_allValue g_allNumber m_allMany g_nodeL g_nodeR m_nodes g_part m_partMany g_wasMany g_wasLoss g_wasValue g_wasNumber g_path m_pathMany g_heavyValue g_heavyTimes m_heavyMany g_fewest g_which g_met m_mostMet, kx_a g_row cyI 160 f, kx_a g_which cyI 160 fw, kx_a g_met cyI 160 fq]) hP hD rfl
  refine lv_aload_n hx hb dX5_majorities_5 rfl (lv_at hl 0 rfl) ?_
  obtain ⟨hPc, hDc, hFc, hCc⟩ := kx_preM (wc := [kx_5 h0 g_row m_n m_slots 0 g_many g_loss g_less g_voteValue g_voteNumber g_allValue g_allNumber m_allMany g_nodeL g_nodeR m_nodes g_part m_partMany g_wasMany g_wasLoss g_wasValue g_wasNumber g_path m_pathMany g_heavyValue g_heavyTimes m_heavyMany g_fewest g_which g_met m_mostMet, kx_a g_row cyI 160 f, kx_a g_which cyI 160 fw]) hP hD hS hA [true, true, true, false] rfl
  have hKc := hK
  refine va_callv (va_runV (As := []) (rest := []) ⟨hx, hb, hml, hown, hts⟩ (kx_un (c_X5_laysNumbers l dC dI h0 g_row g_many g_loss g_less g_voteValue g_voteNumber g_allValue g_allNumber g_nodeL g_nodeR g_part g_wasMany g_wasLoss g_wasValue g_wasNumber g_path g_heavyValue g_heavyTimes g_fewest g_which g_met m_n m_slots 0 m_allMany m_nodes m_partMany m_pathMany m_heavyMany m_mostMet cyI f fw H.size a0 a1)) (cwV 0 hts gX5_majorities_X5_laysNumbers rfl rfl rfl (by decide +kernel) ⟨Nat.le_of_ble_eq_true rfl, Nat.le_of_ble_eq_true rfl⟩) ⟨fun a U g mk q => by obtain ⟨q0, q1, qP, qK, qD⟩ := q; exact ⟨q0, q1, qP, va_K.moved (u := U) (U := U.calling g mk a) (Vm.Alike.refl U.vm) qK, qD⟩, kx_rc5 hKc hPc (q0 := 0) rfl, fun U hU hW => ⟨rfl, by rw [hU], by rw [hU]; exact hPc, va_K.moved hW.alike hKc, hDc.weaken (fun _ _ _ _ => trivial)⟩⟩ rfl rfl hl.1 rfl (lv_room (Nat.le_of_ble_eq_true rfl)) dX5_majorities_6 ⟨Nat.le_of_ble_eq_true rfl, Nat.le_of_ble_eq_true rfl⟩) hS (fun q _ h => hFc q h) hFc (fun u t H1 locs ht hvm w_1 hB hz1 hk1 hS => ?_)
  obtain ⟨o_2, rfl⟩ : ∃ z, z = u := ⟨_, rfl⟩
  obtain ⟨hP1, hK1, hD1⟩ := hB
  rw [ht] at hP1
  have hK1 := va_K.moved hvm.symm hK1
  obtain ⟨hP, hD⟩ := kx_joinM (w2 := [kx_5 h0 g_row m_n m_slots 0 g_many g_loss g_less g_voteValue g_voteNumber g_allValue g_allNumber m_allMany g_nodeL g_nodeR m_nodes g_part m_partMany g_wasMany g_wasLoss g_wasValue g_wasNumber g_path m_pathMany g_heavyValue g_heavyTimes m_heavyMany g_fewest g_which g_met m_mostMet, kx_a g_row cyI 160 f, kx_a g_which cyI 160 o_2, kx_a g_met cyI 160 fq]) hP hD hP1 hD1 hk1 hFc [true, true, true, false] hCc rfl
  clear hP1 hD1 hK1 hk1 hz1 hFc hDc hPc hKc hCc
  generalize H1 = H at hP hS ⊢
  have w_1 : kindOk o_2 m_n.toInt := w_1
  refine lv_iconst (v := 0) hx hb dX5_majorities_9 (by decide) ?_
  refine lv_istore_n (lv' := [(1, .int 0), (0, .ref h0)]) hx hb dX5_majorities_10 rfl hl (by decide) rfl (fun ls hl => ?_)
  refine lv_iconst (v := 0) hx hb dX5_majorities_11 (by decide) ?_
  refine lv_istore_n (lv' := [(2, .int 0), (1, .int 0), (0, .ref h0)]) hx hb dX5_majorities_12 rfl hl (by decide) rfl (fun ls hl => ?_)
  have LP1 : ∀ (n : Nat) (i : Int32) (sm : Int32) (y_mm : Int32) (y_q : Nat → Int32), (0 ≤ i.toInt) → (m_n.toInt - i.toInt).toNat < n → ∀ (H : Heap) (locs : List Loc), va_P (dC, dI) vwCl [kx_5 h0 g_row m_n m_slots 0 g_many g_loss g_less g_voteValue g_voteNumber g_allValue g_allNumber m_allMany g_nodeL g_nodeR m_nodes g_part m_partMany g_wasMany g_wasLoss g_wasValue g_wasNumber g_path m_pathMany g_heavyValue g_heavyTimes m_heavyMany g_fewest g_which g_met y_mm, kx_a g_row cyI 160 f, kx_a g_which cyI 160 o_2, kx_a g_met cyI 160 y_q] H → va_D A [kx_5 h0 g_row m_n m_slots 0 g_many g_loss g_less g_voteValue g_voteNumber g_allValue g_allNumber m_allMany g_nodeL g_nodeR m_nodes g_part m_partMany g_wasMany g_wasLoss g_wasValue g_wasNumber g_path m_pathMany g_heavyValue g_heavyTimes m_heavyMany g_fewest g_which g_met y_mm, kx_a g_row cyI 160 f, kx_a g_which cyI 160 o_2, kx_a g_met cyI 160 y_q] → va_S A s.heap H locs → ∀ (ls : Array Slot), lv_has ls 4 [(2, .int i), (1, .int sm), (0, .ref h0)] → W p l e (headSpec wsX5_majorities ({ frames := 1, cells := 0, slots := 0, locals := 45 })).room s m ([.ref h0] : List Value).toArray below meth c H locs 0 0 (MQ below (va_Qi (fun (r : Int32) (u : Int32 × (Nat → Int32) × (Nat → Int32)) => True) (fun (u : Int32 × (Nat → Int32) × (Nat → Int32)) (t : State) => va_P (dC, dI) vwCl [kx_5 h0 g_row m_n m_slots 0 g_many g_loss g_less g_voteValue g_voteNumber g_allValue g_allNumber m_allMany g_nodeL g_nodeR m_nodes g_part m_partMany g_wasMany g_wasLoss g_wasValue g_wasNumber g_path m_pathMany g_heavyValue g_heavyTimes m_heavyMany g_fewest g_which g_met u.1, kx_a g_row cyI 160 f, kx_a g_which cyI 160 u.2.1, kx_a g_met cyI 160 u.2.2] t.heap ∧ va_K (dC, dI) vwCl [(cyI, .int)] t ∧ va_D A [kx_5 h0 g_row m_n m_slots 0 g_many g_loss g_less g_voteValue g_voteNumber g_allValue g_allNumber m_allMany g_nodeL g_nodeR m_nodes g_part m_partMany g_wasMany g_wasLoss g_wasValue g_wasNumber g_path m_pathMany g_heavyValue g_heavyTimes m_heavyMany g_fewest g_which g_met u.1, kx_a g_row cyI 160 f, kx_a g_which cyI 160 u.2.1, kx_a g_met cyI 160 u.2.2]) A) ([.ref h0] : List Value).toArray s 0 0 A) (F0 m 13 ls []) := by
    intro n
    induction n with
    | zero => intro i sm y_mm y_q LP1_h0 hn; exact absurd hn (Nat.not_lt_zero _)
    | succ n ih1 =>
      intro i sm y_mm y_q LP1_h0 hn1 H locs hP hD hS ls hl
      refine lv_iload_n hx hb dX5_majorities_13 rfl (lv_at hl 0 rfl) ?_
      refine lv_aload_n hx hb dX5_majorities_14 rfl (lv_at hl 2 rfl) ?_
      refine va_get (D := (dC, dI)) (ci := 5) (v := .int m_n) (C := RX5) (T := TX5) (N := 30) hx hb hts hi_5 hown hK hP 0 rfl rfl 1 (by decide) hf_84 (fun _ h9 => h9) rfl dX5_majorities_15 ?_
      refine lv_icmp_ge (tgt := 61) hx hb dX5_majorities_18 (by decide) (fun c_3 => ?_) (fun c_3 => ?_)
      · have i_3 : m_n.toInt ≤ i.toInt := kc_le c_3
        refine lv_iload_n hx hb dX5_majorities_61 rfl (lv_at hl 1 rfl) ?_
        have hP9 := hP
        have hD9 := hD
        have hK9 := hK
        exact W.iret (v := sm) hx hb hr (hlocks := hlocks) (fun t ht hW => ⟨⟨sm, (y_mm, o_2, y_q), rfl, trivial, by rw [ht]; exact hP9, va_K.moved hW.alike hK9, hD9⟩, hS.F ht⟩) hS.2.2 dX5_majorities_62
      · have i_3 : i.toInt < m_n.toInt := kc_nle c_3
        refine lv_aload_n hx hb dX5_majorities_21 rfl (lv_at hl 2 rfl) ?_
        obtain ⟨hPc, hDc, hFc, hCc⟩ := kx_preM (wc := [kx_5 h0 g_row m_n m_slots 0 g_many g_loss g_less g_voteValue g_voteNumber g_allValue g_allNumber m_allMany g_nodeL g_nodeR m_nodes g_part m_partMany g_wasMany g_wasLoss g_wasValue g_wasNumber g_path m_pathMany g_heavyValue g_heavyTimes m_heavyMany g_fewest g_which g_met y_mm, kx_a g_met cyI 160 y_q]) hP hD hS hA [true, false, false, true] rfl
        have hKc := hK
        refine va_callv (va_runV (As := []) (rest := []) ⟨hx, hb, hml, hown, hts⟩ (kx_un (c_X5_begins l dC dI h0 g_row g_many g_loss g_less g_voteValue g_voteNumber g_allValue g_allNumber g_nodeL g_nodeR g_part g_wasMany g_wasLoss g_wasValue g_wasNumber g_path g_heavyValue g_heavyTimes g_fewest g_which g_met m_n m_slots 0 m_allMany m_nodes m_partMany m_pathMany m_heavyMany y_mm cyI y_q H.size a0 a1)) (cwV 0 hts gX5_majorities_X5_begins rfl rfl rfl (by decide +kernel) ⟨Nat.le_of_ble_eq_true rfl, Nat.le_of_ble_eq_true rfl⟩) ⟨fun a U g mk q => by obtain ⟨q0, q1, qP, qK, qD⟩ := q; exact ⟨q0, q1, qP, va_K.moved (u := U) (U := U.calling g mk a) (Vm.Alike.refl U.vm) qK, qD⟩, kx_rc5 hKc hPc (q0 := 0) rfl, fun U hU hW => ⟨rfl, by rw [hU], by rw [hU]; exact hPc, va_K.moved hW.alike hKc, hDc.weaken (fun _ _ _ _ => trivial)⟩⟩ rfl rfl hl.1 rfl (lv_room (Nat.le_of_ble_eq_true rfl)) dX5_majorities_22 ⟨Nat.le_of_ble_eq_true rfl, Nat.le_of_ble_eq_true rfl⟩) hS (fun q _ h => hFc q h) hFc (fun u t H1 locs ht hvm w_4 hB hz1 hk1 hS => ?_)
        obtain ⟨o_5, rfl⟩ : ∃ z, z = u := ⟨_, rfl⟩
        obtain ⟨hP1, hK1, hD1⟩ := hB
        rw [ht] at hP1
        have hK1 := va_K.moved hvm.symm hK1
        obtain ⟨hP, hD⟩ := kx_joinM (w2 := [kx_5 h0 g_row m_n m_slots 0 g_many g_loss g_less g_voteValue g_voteNumber g_allValue g_allNumber m_allMany g_nodeL g_nodeR m_nodes g_part m_partMany g_wasMany g_wasLoss g_wasValue g_wasNumber g_path m_pathMany g_heavyValue g_heavyTimes m_heavyMany g_fewest g_which g_met 0, kx_a g_row cyI 160 f, kx_a g_which cyI 160 o_2, kx_a g_met cyI 160 o_5]) hP hD hP1 hD1 hk1 hFc [true, false, false, true] hCc rfl
        clear hP1 hD1 hK1 hk1 hz1 hFc hDc hPc hKc hCc
        generalize H1 = H at hP hS ⊢
        have w_4 : True := w_4
        refine lv_iload_n hx hb dX5_majorities_25 rfl (lv_at hl 0 rfl) ?_
        refine lv_iconst (v := 1) hx hb dX5_majorities_26 (by decide) ?_
        refine lv_iadd hx hb dX5_majorities_27 ?_
        refine lv_topi (fun y_6 ey_6 => ?_)
        have i_6 : y_6.toInt = i.toInt + 1 := ki_add ey_6 rfl rfl (om_13 LP1_h0) (om_3 a1 i_3)
        refine lv_istore_n (lv' := [(3, .int y_6), (2, .int i), (1, .int sm), (0, .ref h0)]) hx hb dX5_majorities_28 rfl hl (by decide) rfl (fun ls hl => ?_)
        have LP2 : ∀ (n : Nat) (j : Int32) (sm2 : Int32) (z_mm : Int32) (z_q : Nat → Int32), (1 ≤ j.toInt) → (m_n.toInt + 1 - j.toInt).toNat < n → ∀ (H : Heap) (locs : List Loc), va_P (dC, dI) vwCl [kx_5 h0 g_row m_n m_slots 0 g_many g_loss g_less g_voteValue g_voteNumber g_allValue g_allNumber m_allMany g_nodeL g_nodeR m_nodes g_part m_partMany g_wasMany g_wasLoss g_wasValue g_wasNumber g_path m_pathMany g_heavyValue g_heavyTimes m_heavyMany g_fewest g_which g_met z_mm, kx_a g_row cyI 160 f, kx_a g_which cyI 160 o_2, kx_a g_met cyI 160 z_q] H → va_D A [kx_5 h0 g_row m_n m_slots 0 g_many g_loss g_less g_voteValue g_voteNumber g_allValue g_allNumber m_allMany g_nodeL g_nodeR m_nodes g_part m_partMany g_wasMany g_wasLoss g_wasValue g_wasNumber g_path m_pathMany g_heavyValue g_heavyTimes m_heavyMany g_fewest g_which g_met z_mm, kx_a g_row cyI 160 f, kx_a g_which cyI 160 o_2, kx_a g_met cyI 160 z_q] → va_S A s.heap H locs → ∀ (ls : Array Slot), lv_has ls 4 [(3, .int j), (2, .int i), (1, .int sm2), (0, .ref h0)] → W p l e (headSpec wsX5_majorities ({ frames := 1, cells := 0, slots := 0, locals := 45 })).room s m ([.ref h0] : List Value).toArray below meth c H locs 0 0 (MQ below (va_Qi (fun (r : Int32) (u : Int32 × (Nat → Int32) × (Nat → Int32)) => True) (fun (u : Int32 × (Nat → Int32) × (Nat → Int32)) (t : State) => va_P (dC, dI) vwCl [kx_5 h0 g_row m_n m_slots 0 g_many g_loss g_less g_voteValue g_voteNumber g_allValue g_allNumber m_allMany g_nodeL g_nodeR m_nodes g_part m_partMany g_wasMany g_wasLoss g_wasValue g_wasNumber g_path m_pathMany g_heavyValue g_heavyTimes m_heavyMany g_fewest g_which g_met u.1, kx_a g_row cyI 160 f, kx_a g_which cyI 160 u.2.1, kx_a g_met cyI 160 u.2.2] t.heap ∧ va_K (dC, dI) vwCl [(cyI, .int)] t ∧ va_D A [kx_5 h0 g_row m_n m_slots 0 g_many g_loss g_less g_voteValue g_voteNumber g_allValue g_allNumber m_allMany g_nodeL g_nodeR m_nodes g_part m_partMany g_wasMany g_wasLoss g_wasValue g_wasNumber g_path m_pathMany g_heavyValue g_heavyTimes m_heavyMany g_fewest g_which g_met u.1, kx_a g_row cyI 160 f, kx_a g_which cyI 160 u.2.1, kx_a g_met cyI 160 u.2.2]) A) ([.ref h0] : List Value).toArray s 0 0 A) (F0 m 29 ls []) := by
          intro n
          induction n with
          | zero => intro j sm2 z_mm z_q LP2_h0 hn; exact absurd hn (Nat.not_lt_zero _)
          | succ n ih2 =>
            intro j sm2 z_mm z_q LP2_h0 hn2 H locs hP hD hS ls hl
            refine lv_iload_n hx hb dX5_majorities_29 rfl (lv_at hl 0 rfl) ?_
            refine lv_aload_n hx hb dX5_majorities_30 rfl (lv_at hl 3 rfl) ?_
            refine va_get (D := (dC, dI)) (ci := 5) (v := .int m_n) (C := RX5) (T := TX5) (N := 30) hx hb hts hi_5 hown hK hP 0 rfl rfl 1 (by decide) hf_84 (fun _ h9 => h9) rfl dX5_majorities_31 ?_
            refine lv_icmp_gt (tgt := 55) hx hb dX5_majorities_34 (by decide) (fun c_7 => ?_) (fun c_7 => ?_)
            · have i_7 : m_n.toInt < j.toInt := kc_lt c_7
              obtain ⟨x_8, ex_8⟩ : ∃ y : Int32, y = i + 1 := ⟨_, rfl⟩
              have i_8 : x_8.toInt = i.toInt + 1 := ki_add ex_8 rfl rfl (om_13 LP1_h0) (om_3 a1 i_3)
              refine lv_iinc (v := x_8) (lv' := [(2, .int x_8), (3, .int j), (1, .int sm2), (0, .ref h0)]) hx hb dX5_majorities_55 hl (k := 1) rfl (by rw [ex_8]; rfl) (by decide) rfl (fun ls hl => ?_)
              refine lv_goto (tgt := 13) hx hb dX5_majorities_58 (by decide) ?_
              exact ih1 x_8 sm2 z_mm z_q (om_34 LP1_h0 i_8) (om_mu hn1 (om_5 i_8) (om_6 i_3)) _ _ hP hD hS ls (lv_sub hl [0, 2, 3] rfl)
            · have i_7 : j.toInt ≤ m_n.toInt := kc_nlt c_7
              refine lv_aload_n hx hb dX5_majorities_37 rfl (lv_at hl 3 rfl) ?_
              refine lv_iload_n hx hb dX5_majorities_38 rfl (lv_at hl 0 rfl) ?_
              refine lv_iload_n hx hb dX5_majorities_39 rfl (lv_at hl 1 rfl) ?_
              obtain ⟨hPc, hDc, hFc, hCc⟩ := kx_preM (wc := [kx_5 h0 g_row m_n m_slots 0 g_many g_loss g_less g_voteValue g_voteNumber g_allValue g_allNumber m_allMany g_nodeL g_nodeR m_nodes g_part m_partMany g_wasMany g_wasLoss g_wasValue g_wasNumber g_path m_pathMany g_heavyValue g_heavyTimes m_heavyMany g_fewest g_which g_met z_mm, kx_a g_which cyI 160 o_2, kx_a g_met cyI 160 z_q]) hP hD hS hA [true, false, true, true] rfl
              have hKc := hK
              refine va_calli (va_runV (As := [.int j, .int i]) (rest := []) ⟨hx, hb, hml, hown, hts⟩ (kx_un (c_X5_goesOn l dC dI h0 g_row g_many g_loss g_less g_voteValue g_voteNumber g_allValue g_allNumber g_nodeL g_nodeR g_part g_wasMany g_wasLoss g_wasValue g_wasNumber g_path g_heavyValue g_heavyTimes g_fewest g_which g_met m_n m_slots 0 m_allMany m_nodes m_partMany m_pathMany m_heavyMany z_mm cyI o_2 z_q m_n.toInt j i H.size w_1 LP2_h0 i_7 a1)) (cwV 2 hts gX5_majorities_X5_goesOn rfl rfl rfl (by decide +kernel) ⟨Nat.le_of_ble_eq_true rfl, Nat.le_of_ble_eq_true rfl⟩) ⟨fun a U g mk q => by obtain ⟨q0, q1, qP, qK, qD⟩ := q; exact ⟨q0, q1, qP, va_K.moved (u := U) (U := U.calling g mk a) (Vm.Alike.refl U.vm) qK, qD⟩, kx_rc5 hKc hPc (q0 := 0) rfl, fun U hU hW => ⟨rfl, by rw [hU], by rw [hU]; exact hPc, va_K.moved hW.alike hKc, hDc.weaken (fun _ _ _ _ => trivial)⟩⟩ rfl rfl hl.1 rfl (lv_room (Nat.le_of_ble_eq_true rfl)) dX5_majorities_40 ⟨Nat.le_of_ble_eq_true rfl, Nat.le_of_ble_eq_true rfl⟩) hS (fun q _ h => hFc q h) hFc (fun r_9 u t H1 locs ht hvm w_9 hB hz1 hk1 hS => ?_)
              obtain ⟨o_10, o_11⟩ := u
              dsimp only at w_9 hB
              obtain ⟨hP1, hK1, hD1⟩ := hB
              rw [ht] at hP1
              have hK1 := va_K.moved hvm.symm hK1
              obtain ⟨hP, hD⟩ := kx_joinM (w2 := [kx_5 h0 g_row m_n m_slots 0 g_many g_loss g_less g_voteValue g_voteNumber g_allValue g_allNumber m_allMany g_nodeL g_nodeR m_nodes g_part m_partMany g_wasMany g_wasLoss g_wasValue g_wasNumber g_path m_pathMany g_heavyValue g_heavyTimes m_heavyMany g_fewest g_which g_met o_10, kx_a g_row cyI 160 f, kx_a g_which cyI 160 o_2, kx_a g_met cyI 160 o_11]) hP hD hP1 hD1 hk1 hFc [true, false, true, true] hCc rfl
              clear hP1 hD1 hK1 hk1 hz1 hFc hDc hPc hKc hCc
              generalize H1 = H at hP hS ⊢
              have w_9 : r_9 = 1 ∨ r_9 = 0 := w_9
              refine lv_if_eq (tgt := 49) hx hb dX5_majorities_43 (by decide) (fun c_12 => ?_) (fun c_12 => ?_)
              · have i_12 : r_9.toInt = 0 := kc_eq c_12
                obtain ⟨x_13, ex_13⟩ : ∃ y : Int32, y = j + 1 := ⟨_, rfl⟩
                have i_13 : x_13.toInt = j.toInt + 1 := ki_add ex_13 rfl rfl (om_40 LP2_h0) (om_238 a1 i_7)
                refine lv_iinc (v := x_13) (lv' := [(3, .int x_13), (2, .int i), (1, .int sm2), (0, .ref h0)]) hx hb dX5_majorities_49 hl (k := 0) rfl (by rw [ex_13]; rfl) (by decide) rfl (fun ls hl => ?_)
                refine lv_goto (tgt := 29) hx hb dX5_majorities_52 (by decide) ?_
                exact ih2 x_13 sm2 o_10 o_11 (om_41 LP2_h0 i_13) (om_mu hn2 (om_239 i_13) (om_240 i_7)) _ _ hP hD hS ls (lv_sub hl [0, 1, 2, 3] rfl)
              · have i_12 : ¬ r_9.toInt = 0 := kc_ne c_12
                obtain ⟨x_14, ex_14⟩ : ∃ y : Int32, y = sm2 + 1 := ⟨_, rfl⟩
                refine lv_iinc (v := x_14) (lv' := [(1, .int x_14), (3, .int j), (2, .int i), (0, .ref h0)]) hx hb dX5_majorities_46 hl (k := 2) rfl (by rw [ex_14]; rfl) (by decide) rfl (fun ls hl => ?_)
                obtain ⟨x_15, ex_15⟩ : ∃ y : Int32, y = j + 1 := ⟨_, rfl⟩
                have i_15 : x_15.toInt = j.toInt + 1 := ki_add ex_15 rfl rfl (om_40 LP2_h0) (om_238 a1 i_7)
                refine lv_iinc (v := x_15) (lv' := [(3, .int x_15), (1, .int x_14), (2, .int i), (0, .ref h0)]) hx hb dX5_majorities_49 hl (k := 1) rfl (by rw [ex_15]; rfl) (by decide) rfl (fun ls hl => ?_)
                refine lv_goto (tgt := 29) hx hb dX5_majorities_52 (by decide) ?_
                exact ih2 x_15 x_14 o_10 o_11 (om_41 LP2_h0 i_15) (om_mu hn2 (om_239 i_15) (om_240 i_7)) _ _ hP hD hS ls (lv_sub hl [0, 2, 1, 3] rfl)
        have k_16 : (0 : Int32).toInt = 0 := rfl
        exact LP2 ((m_n.toInt + 1 - y_6.toInt : Int).toNat + 1) y_6 sm 0 o_5 (om_241 LP1_h0 i_6) (Nat.lt_succ_self _) _ _ hP hD hS ls (lv_sub hl [0, 1, 2, 3] rfl)
  have k_17 : (0 : Int32).toInt = 0 := rfl
  have k_18 : (0 : Int32).toInt = 0 := rfl
  exact LP1 ((m_n.toInt - 0 : Int).toNat + 1) 0 0 m_mostMet fq om_35 (Nat.lt_succ_self _) _ _ hP hD hS ls (lv_sub hl [0, 1, 2] rfl)

set_option maxHeartbeats 4000000 in
set_option maxRecDepth 100000 in
theorem c_X5_parted (l : Launch) (dC : Nat → ClassId) (dI : Nat → Nat → Nat) (h0 : Nat) (g_row : Nat) (g_many : Nat) (g_loss : Nat) (g_less : Nat) (g_voteValue : Nat) (g_voteNumber : Nat) (g_allValue : Nat) (g_allNumber : Nat) (g_nodeL : Nat) (g_nodeR : Nat) (g_part : Nat) (g_wasMany : Nat) (g_wasLoss : Nat) (g_wasValue : Nat) (g_wasNumber : Nat) (g_path : Nat) (g_heavyValue : Nat) (g_heavyTimes : Nat) (g_fewest : Nat) (g_which : Nat) (g_met : Nat) (m_n : Int32) (m_slots : Int32) (m_thrown : Int32) (m_allMany : Int32) (m_nodes : Int32) (m_partMany : Int32) (m_pathMany : Int32) (m_heavyMany : Int32) (m_mostMet : Int32) (cyI : ClassId) (f : Nat → Int32) (fw : Nat → Int32) (fq : Nat → Int32) (fz : Nat → Int32) (p0 : Int32) (p1 : Int32) (sz : Nat) (a0 : 0 ≤ m_n.toInt) (a1 : m_n.toInt ≤ 160) : kx_MQ l (dC, dI) yX5_parted wsX5_parted ({ frames := 1, cells := 0, slots := 0, locals := 45 }) [.ref h0, .int p0, .int p1] [kx_5 h0 g_row m_n m_slots m_thrown g_many g_loss g_less g_voteValue g_voteNumber g_allValue g_allNumber m_allMany g_nodeL g_nodeR m_nodes g_part m_partMany g_wasMany g_wasLoss g_wasValue g_wasNumber g_path m_pathMany g_heavyValue g_heavyTimes m_heavyMany g_fewest g_which g_met m_mostMet, kx_a g_row cyI 160 f, kx_a g_which cyI 160 fw, kx_a g_met cyI 160 fq, kx_a g_fewest cyI 161 fz] [(cyI, .int)] sz (fun A => va_Qi (fun (r : Int32) (u : Int32 × (Nat → Int32) × (Nat → Int32) × (Nat → Int32)) => True) (fun (u : Int32 × (Nat → Int32) × (Nat → Int32) × (Nat → Int32)) (t : State) => va_P (dC, dI) vwCl [kx_5 h0 g_row m_n m_slots 0 g_many g_loss g_less g_voteValue g_voteNumber g_allValue g_allNumber m_allMany g_nodeL g_nodeR m_nodes g_part m_partMany g_wasMany g_wasLoss g_wasValue g_wasNumber g_path m_pathMany g_heavyValue g_heavyTimes m_heavyMany g_fewest g_which g_met u.1, kx_a g_row cyI 160 f, kx_a g_which cyI 160 u.2.1, kx_a g_met cyI 160 u.2.2.1, kx_a g_fewest cyI 161 u.2.2.2] t.heap ∧ va_K (dC, dI) vwCl [(cyI, .int)] t ∧ va_D A [kx_5 h0 g_row m_n m_slots 0 g_many g_loss g_less g_voteValue g_voteNumber g_allValue g_allNumber m_allMany g_nodeL g_nodeR m_nodes g_part m_partMany g_wasMany g_wasLoss g_wasValue g_wasNumber g_path m_pathMany g_heavyValue g_heavyTimes m_heavyMany g_fewest g_which g_met u.1, kx_a g_row cyI 160 f, kx_a g_which cyI 160 u.2.1, kx_a g_met cyI 160 u.2.2.1, kx_a g_fewest cyI 161 u.2.2.2]) A) := by
  refine kx_stQ (ws := wsX5_parted) (cc := cX5_parted) (maxL := 5) (ret := (some .int)) (by decide) rfl (Nat.le_of_ble_eq_true rfl) ?_
  intro p e s m below meth c A ls hx hb hr hlocks hts hown hml hA hS hP hK hD hl
  have hown : s.vm.findClass RX5 = some m.cls := hown
  have hl : lv_has ls 5 [(0, .ref h0), (1, .int p0), (2, .int p1)] := hl
  have hf_77 := hts (.fieldLink RX5 77 "MajorityIndexModel" "thrown" "I") (List.mem_of_getElem? (i := 1) rfl)
  have hi_5 : ∀ w ∈ u_ws RX5 TX5 30, w ∈ wsX5_parted := fun w h => List.mem_cons_of_mem _ (List.mem_append_right _ h)
  have hf_68 := hts (.fieldLink RX5 68 "MajorityIndexModel" "fewest" "[I") (List.mem_of_getElem? (i := 2) rfl)
  refine lv_aload_n hx hb dX5_parted_0 rfl (lv_at hl 0 rfl) ?_
  refine lv_iconst (v := 0) hx hb dX5_parted_1 (by decide) ?_
  refine va_put (D := (dC, dI)) (ci := 5) (v := .int 0) (ty := .int) (C := RX5) (T := TX5) (N := 30) hx hb hts hi_5 tyX5 tyX5_ok nmX5 hown hK hP hD hS 0 rfl rfl 3 (by decide) hf_77 (fun _ h9 => h9) rfl (by decide +kernel) rfl rfl (Nat.le_of_ble_eq_true rfl) dX5_parted_2 (fun H locs hP hD hS => ?_)
  obtain ⟨hP, hD⟩ := kx_re (w2 := [kx_5 h0 g_row m_n m_slots 0 g_many g_loss g_less g_voteValue g_voteNumber g_allValue g_allNumber m_allMany g_nodeL g_nodeR m_nodes g_part m_partMany g_wasMany g_wasLoss g_wasValue g_wasNumber g_path m_pathMany g_heavyValue g_heavyTimes m_heavyMany g_fewest g_which g_met m_mostMet, kx_a g_row cyI 160 f, kx_a g_which cyI 160 fw, kx_a g_met cyI 160 fq, kx_a g_fewest cyI 161 fz]) hP hD rfl
  refine lv_aload_n hx hb dX5_parted_5 rfl (lv_at hl 0 rfl) ?_
  refine lv_iload_n hx hb dX5_parted_6 rfl (lv_at hl 1 rfl) ?_
  refine lv_iload_n hx hb dX5_parted_7 rfl (lv_at hl 2 rfl) ?_
  have hPc := hP.sub (ws' := [kx_5 h0 g_row m_n m_slots 0 g_many g_loss g_less g_voteValue g_voteNumber g_allValue g_allNumber m_allMany g_nodeL g_nodeR m_nodes g_part m_partMany g_wasMany g_wasLoss g_wasValue g_wasNumber g_path m_pathMany g_heavyValue g_heavyTimes m_heavyMany g_fewest g_which g_met m_mostMet]) [0] rfl
  have hKc := hK.sub (tys' := []) [] rfl
  refine vp_callSi (W.runV (As := [.int p0, .int p1]) (rest := []) ⟨hx, hb, hml, hown, hts⟩ (c_X5_isRange l dC dI h0 g_row g_many g_loss g_less g_voteValue g_voteNumber g_allValue g_allNumber g_nodeL g_nodeR g_part g_wasMany g_wasLoss g_wasValue g_wasNumber g_path g_heavyValue g_heavyTimes g_fewest g_which g_met m_n m_slots 0 m_allMany m_nodes m_partMany m_pathMany m_heavyMany m_mostMet p0 p1) (cwV 2 hts gX5_parted_X5_isRange rfl rfl rfl (by decide +kernel) ⟨Nat.le_of_ble_eq_true rfl, Nat.le_of_ble_eq_true rfl⟩) ⟨fun a U g mk q => by obtain ⟨q0, qP, qK⟩ := q; exact ⟨q0, qP, va_K.moved (u := U) (U := U.calling g mk a) (Vm.Alike.refl U.vm) qK⟩, kx_rc5 hKc hPc (q0 := 0) rfl, fun U hU hW => ⟨rfl, by rw [hU]; exact hPc, va_K.moved hW.alike hKc⟩⟩ rfl rfl hl.1 rfl (lv_room (Nat.le_of_ble_eq_true rfl)) dX5_parted_8 ⟨Nat.le_of_ble_eq_true rfl, Nat.le_of_ble_eq_true rfl⟩) (fun r_1 w_1 => ?_)
  rcases w_1 with ⟨rfl, w_1⟩ | ⟨rfl, w_1⟩
  · have w_1 : (0 ≤ p0.toInt ∧ p0.toInt < p1.toInt ∧ p1.toInt ≤ m_n.toInt) := w_1
    refine lv_if_ne (tgt := 16) hx hb dX5_parted_11 (by decide) (fun c_2 => ?_) (fun c_2 => ?_)
    · refine lv_aload_n hx hb dX5_parted_16 rfl (lv_at hl 0 rfl) ?_
      obtain ⟨hPc, hDc, hFc, hCc⟩ := kx_preM (wc := [kx_5 h0 g_row m_n m_slots 0 g_many g_loss g_less g_voteValue g_voteNumber g_allValue g_allNumber m_allMany g_nodeL g_nodeR m_nodes g_part m_partMany g_wasMany g_wasLoss g_wasValue g_wasNumber g_path m_pathMany g_heavyValue g_heavyTimes m_heavyMany g_fewest g_which g_met m_mostMet, kx_a g_row cyI 160 f, kx_a g_which cyI 160 fw]) hP hD hS hA [true, true, true, false, false] rfl
      have hKc := hK
      refine va_callv (va_runV (As := []) (rest := []) ⟨hx, hb, hml, hown, hts⟩ (kx_un (c_X5_laysNumbers l dC dI h0 g_row g_many g_loss g_less g_voteValue g_voteNumber g_allValue g_allNumber g_nodeL g_nodeR g_part g_wasMany g_wasLoss g_wasValue g_wasNumber g_path g_heavyValue g_heavyTimes g_fewest g_which g_met m_n m_slots 0 m_allMany m_nodes m_partMany m_pathMany m_heavyMany m_mostMet cyI f fw H.size a0 a1)) (cwV 0 hts gX5_parted_X5_laysNumbers rfl rfl rfl (by decide +kernel) ⟨Nat.le_of_ble_eq_true rfl, Nat.le_of_ble_eq_true rfl⟩) ⟨fun a U g mk q => by obtain ⟨q0, q1, qP, qK, qD⟩ := q; exact ⟨q0, q1, qP, va_K.moved (u := U) (U := U.calling g mk a) (Vm.Alike.refl U.vm) qK, qD⟩, kx_rc5 hKc hPc (q0 := 0) rfl, fun U hU hW => ⟨rfl, by rw [hU], by rw [hU]; exact hPc, va_K.moved hW.alike hKc, hDc.weaken (fun _ _ _ _ => trivial)⟩⟩ rfl rfl hl.1 rfl (lv_room (Nat.le_of_ble_eq_true rfl)) dX5_parted_17 ⟨Nat.le_of_ble_eq_true rfl, Nat.le_of_ble_eq_true rfl⟩) hS (fun q _ h => hFc q h) hFc (fun u t H1 locs ht hvm w_3 hB hz1 hk1 hS => ?_)
      obtain ⟨o_4, rfl⟩ : ∃ z, z = u := ⟨_, rfl⟩
      obtain ⟨hP1, hK1, hD1⟩ := hB
      rw [ht] at hP1
      have hK1 := va_K.moved hvm.symm hK1
      obtain ⟨hP, hD⟩ := kx_joinM (w2 := [kx_5 h0 g_row m_n m_slots 0 g_many g_loss g_less g_voteValue g_voteNumber g_allValue g_allNumber m_allMany g_nodeL g_nodeR m_nodes g_part m_partMany g_wasMany g_wasLoss g_wasValue g_wasNumber g_path m_pathMany g_heavyValue g_heavyTimes m_heavyMany g_fewest g_which g_met m_mostMet, kx_a g_row cyI 160 f, kx_a g_which cyI 160 o_4, kx_a g_met cyI 160 fq, kx_a g_fewest cyI 161 fz]) hP hD hP1 hD1 hk1 hFc [true, true, true, false, false] hCc rfl
      clear hP1 hD1 hK1 hk1 hz1 hFc hDc hPc hKc hCc
      generalize H1 = H at hP hS ⊢
      have w_3 : kindOk o_4 m_n.toInt := w_3
      refine lv_aload_n hx hb dX5_parted_20 rfl (lv_at hl 0 rfl) ?_
      refine va_get (D := (dC, dI)) (ci := 5) (v := .ref g_fewest) (C := RX5) (T := TX5) (N := 30) hx hb hts hi_5 hown hK hP 0 rfl rfl 26 (by decide) hf_68 (fun _ h9 => h9) rfl dX5_parted_21 ?_
      refine lv_iload_n hx hb dX5_parted_24 rfl (lv_at hl 2 rfl) ?_
      refine lv_iconst (v := 0) hx hb dX5_parted_25 (by decide) ?_
      refine va_iast hx hb hK hP hD hS 4 0 rfl rfl (ki_in (om_21 w_1.1 w_1.2.1) (om_175 a1 w_1.2.2)) dX5_parted_26 (fun H locs hP hD hS => ?_)
      obtain ⟨hP, hD⟩ := kx_re (w2 := [kx_5 h0 g_row m_n m_slots 0 g_many g_loss g_less g_voteValue g_voteNumber g_allValue g_allNumber m_allMany g_nodeL g_nodeR m_nodes g_part m_partMany g_wasMany g_wasLoss g_wasValue g_wasNumber g_path m_pathMany g_heavyValue g_heavyTimes m_heavyMany g_fewest g_which g_met m_mostMet, kx_a g_row cyI 160 f, kx_a g_which cyI 160 o_4, kx_a g_met cyI 160 fq, kx_a g_fewest cyI 161 (upd fz p1.toNatClampNeg 0)]) hP hD rfl
      refine lv_iload_n hx hb dX5_parted_27 rfl (lv_at hl 2 rfl) ?_
      refine lv_iconst (v := 1) hx hb dX5_parted_28 (by decide) ?_
      refine lv_isub hx hb dX5_parted_29 ?_
      refine lv_topi (fun y_5 ey_5 => ?_)
      have i_5 : y_5.toInt = p1.toInt - 1 := ki_sub ey_5 rfl rfl (om_17 w_1.1 w_1.2.1) (om_183 a1 w_1.2.2)
      refine lv_istore_n (lv' := [(3, .int y_5), (0, .ref h0), (1, .int p0), (2, .int p1)]) hx hb dX5_parted_30 rfl hl (by decide) rfl (fun ls hl => ?_)
      have LP1 : ∀ (n : Nat) (i : Int32) (y_mm : Int32) (y_q : Nat → Int32) (yz : Nat → Int32), (p0.toInt - 1 ≤ i.toInt) → (i.toInt < p1.toInt) → (i.toInt + 1).toNat < n → ∀ (H : Heap) (locs : List Loc), va_P (dC, dI) vwCl [kx_5 h0 g_row m_n m_slots 0 g_many g_loss g_less g_voteValue g_voteNumber g_allValue g_allNumber m_allMany g_nodeL g_nodeR m_nodes g_part m_partMany g_wasMany g_wasLoss g_wasValue g_wasNumber g_path m_pathMany g_heavyValue g_heavyTimes m_heavyMany g_fewest g_which g_met y_mm, kx_a g_row cyI 160 f, kx_a g_which cyI 160 o_4, kx_a g_met cyI 160 y_q, kx_a g_fewest cyI 161 yz] H → va_D A [kx_5 h0 g_row m_n m_slots 0 g_many g_loss g_less g_voteValue g_voteNumber g_allValue g_allNumber m_allMany g_nodeL g_nodeR m_nodes g_part m_partMany g_wasMany g_wasLoss g_wasValue g_wasNumber g_path m_pathMany g_heavyValue g_heavyTimes m_heavyMany g_fewest g_which g_met y_mm, kx_a g_row cyI 160 f, kx_a g_which cyI 160 o_4, kx_a g_met cyI 160 y_q, kx_a g_fewest cyI 161 yz] → va_S A s.heap H locs → ∀ (ls : Array Slot), lv_has ls 5 [(3, .int i), (0, .ref h0), (1, .int p0), (2, .int p1)] → W p l e (headSpec wsX5_parted ({ frames := 1, cells := 0, slots := 0, locals := 45 })).room s m ([.ref h0, .int p0, .int p1] : List Value).toArray below meth c H locs 0 0 (MQ below (va_Qi (fun (r : Int32) (u : Int32 × (Nat → Int32) × (Nat → Int32) × (Nat → Int32)) => True) (fun (u : Int32 × (Nat → Int32) × (Nat → Int32) × (Nat → Int32)) (t : State) => va_P (dC, dI) vwCl [kx_5 h0 g_row m_n m_slots 0 g_many g_loss g_less g_voteValue g_voteNumber g_allValue g_allNumber m_allMany g_nodeL g_nodeR m_nodes g_part m_partMany g_wasMany g_wasLoss g_wasValue g_wasNumber g_path m_pathMany g_heavyValue g_heavyTimes m_heavyMany g_fewest g_which g_met u.1, kx_a g_row cyI 160 f, kx_a g_which cyI 160 u.2.1, kx_a g_met cyI 160 u.2.2.1, kx_a g_fewest cyI 161 u.2.2.2] t.heap ∧ va_K (dC, dI) vwCl [(cyI, .int)] t ∧ va_D A [kx_5 h0 g_row m_n m_slots 0 g_many g_loss g_less g_voteValue g_voteNumber g_allValue g_allNumber m_allMany g_nodeL g_nodeR m_nodes g_part m_partMany g_wasMany g_wasLoss g_wasValue g_wasNumber g_path m_pathMany g_heavyValue g_heavyTimes m_heavyMany g_fewest g_which g_met u.1, kx_a g_row cyI 160 f, kx_a g_which cyI 160 u.2.1, kx_a g_met cyI 160 u.2.2.1, kx_a g_fewest cyI 161 u.2.2.2]) A) ([.ref h0, .int p0, .int p1] : List Value).toArray s 0 0 A) (F0 m 31 ls []) := by
        intro n
        induction n with
        | zero => intro i y_mm y_q yz LP1_h0 LP1_h1 hn; exact absurd hn (Nat.not_lt_zero _)
        | succ n ih1 =>
          intro i y_mm y_q yz LP1_h0 LP1_h1 hn1 H locs hP hD hS ls hl
          refine lv_iload_n hx hb dX5_parted_31 rfl (lv_at hl 0 rfl) ?_
          refine lv_iload_n hx hb dX5_parted_32 rfl (lv_at hl 2 rfl) ?_
          refine lv_icmp_lt (tgt := 115) hx hb dX5_parted_33 (by decide) (fun c_6 => ?_) (fun c_6 => ?_)
          · have i_6 : i.toInt < p0.toInt := kc_lt c_6
            refine lv_aload_n hx hb dX5_parted_115 rfl (lv_at hl 1 rfl) ?_
            refine va_get (D := (dC, dI)) (ci := 5) (v := .ref g_fewest) (C := RX5) (T := TX5) (N := 30) hx hb hts hi_5 hown hK hP 0 rfl rfl 26 (by decide) hf_68 (fun _ h9 => h9) rfl dX5_parted_116 ?_
            refine lv_iload_n hx hb dX5_parted_119 rfl (lv_at hl 2 rfl) ?_
            refine va_iald hx hb hK hP 4 0 rfl rfl (ki_in (om_10 w_1.1) (om_174 a1 w_1.2.1 w_1.2.2)) dX5_parted_120 ?_
            refine lv_topi (fun y_7 ey_7 => ?_)
            have j_7 : y_7.toInt = (yz p0.toNatClampNeg).toInt := congrArg Int32.toInt ey_7
            have hP9 := hP
            have hD9 := hD
            have hK9 := hK
            exact W.iret (v := y_7) hx hb hr (hlocks := hlocks) (fun t ht hW => ⟨⟨y_7, (y_mm, o_4, y_q, yz), rfl, trivial, by rw [ht]; exact hP9, va_K.moved hW.alike hK9, hD9⟩, hS.F ht⟩) hS.2.2 dX5_parted_121
          · have i_6 : p0.toInt ≤ i.toInt := kc_nlt c_6
            refine lv_aload_n hx hb dX5_parted_36 rfl (lv_at hl 1 rfl) ?_
            refine va_get (D := (dC, dI)) (ci := 5) (v := .ref g_fewest) (C := RX5) (T := TX5) (N := 30) hx hb hts hi_5 hown hK hP 0 rfl rfl 26 (by decide) hf_68 (fun _ h9 => h9) rfl dX5_parted_37 ?_
            refine lv_iload_n hx hb dX5_parted_40 rfl (lv_at hl 0 rfl) ?_
            refine lv_sipush (v := 161) hx hb dX5_parted_41 (by decide) ?_
            refine va_iast hx hb hK hP hD hS 4 0 rfl rfl (ki_in (om_0 w_1.1 i_6) (om_181 a1 w_1.2.2 LP1_h1)) dX5_parted_44 (fun H locs hP hD hS => ?_)
            obtain ⟨hP, hD⟩ := kx_re (w2 := [kx_5 h0 g_row m_n m_slots 0 g_many g_loss g_less g_voteValue g_voteNumber g_allValue g_allNumber m_allMany g_nodeL g_nodeR m_nodes g_part m_partMany g_wasMany g_wasLoss g_wasValue g_wasNumber g_path m_pathMany g_heavyValue g_heavyTimes m_heavyMany g_fewest g_which g_met y_mm, kx_a g_row cyI 160 f, kx_a g_which cyI 160 o_4, kx_a g_met cyI 160 y_q, kx_a g_fewest cyI 161 (upd yz i.toNatClampNeg 161)]) hP hD rfl
            refine lv_aload_n hx hb dX5_parted_45 rfl (lv_at hl 1 rfl) ?_
            obtain ⟨hPc, hDc, hFc, hCc⟩ := kx_preM (wc := [kx_5 h0 g_row m_n m_slots 0 g_many g_loss g_less g_voteValue g_voteNumber g_allValue g_allNumber m_allMany g_nodeL g_nodeR m_nodes g_part m_partMany g_wasMany g_wasLoss g_wasValue g_wasNumber g_path m_pathMany g_heavyValue g_heavyTimes m_heavyMany g_fewest g_which g_met y_mm, kx_a g_met cyI 160 y_q]) hP hD hS hA [true, false, false, true, false] rfl
            have hKc := hK
            refine va_callv (va_runV (As := []) (rest := []) ⟨hx, hb, hml, hown, hts⟩ (kx_un (c_X5_begins l dC dI h0 g_row g_many g_loss g_less g_voteValue g_voteNumber g_allValue g_allNumber g_nodeL g_nodeR g_part g_wasMany g_wasLoss g_wasValue g_wasNumber g_path g_heavyValue g_heavyTimes g_fewest g_which g_met m_n m_slots 0 m_allMany m_nodes m_partMany m_pathMany m_heavyMany y_mm cyI y_q H.size a0 a1)) (cwV 0 hts gX5_parted_X5_begins rfl rfl rfl (by decide +kernel) ⟨Nat.le_of_ble_eq_true rfl, Nat.le_of_ble_eq_true rfl⟩) ⟨fun a U g mk q => by obtain ⟨q0, q1, qP, qK, qD⟩ := q; exact ⟨q0, q1, qP, va_K.moved (u := U) (U := U.calling g mk a) (Vm.Alike.refl U.vm) qK, qD⟩, kx_rc5 hKc hPc (q0 := 0) rfl, fun U hU hW => ⟨rfl, by rw [hU], by rw [hU]; exact hPc, va_K.moved hW.alike hKc, hDc.weaken (fun _ _ _ _ => trivial)⟩⟩ rfl rfl hl.1 rfl (lv_room (Nat.le_of_ble_eq_true rfl)) dX5_parted_46 ⟨Nat.le_of_ble_eq_true rfl, Nat.le_of_ble_eq_true rfl⟩) hS (fun q _ h => hFc q h) hFc (fun u t H1 locs ht hvm w_8 hB hz1 hk1 hS => ?_)
            obtain ⟨o_9, rfl⟩ : ∃ z, z = u := ⟨_, rfl⟩
            obtain ⟨hP1, hK1, hD1⟩ := hB
            rw [ht] at hP1
            have hK1 := va_K.moved hvm.symm hK1
            obtain ⟨hP, hD⟩ := kx_joinM (w2 := [kx_5 h0 g_row m_n m_slots 0 g_many g_loss g_less g_voteValue g_voteNumber g_allValue g_allNumber m_allMany g_nodeL g_nodeR m_nodes g_part m_partMany g_wasMany g_wasLoss g_wasValue g_wasNumber g_path m_pathMany g_heavyValue g_heavyTimes m_heavyMany g_fewest g_which g_met 0, kx_a g_row cyI 160 f, kx_a g_which cyI 160 o_4, kx_a g_met cyI 160 o_9, kx_a g_fewest cyI 161 (upd yz i.toNatClampNeg 161)]) hP hD hP1 hD1 hk1 hFc [true, false, false, true, false] hCc rfl
            clear hP1 hD1 hK1 hk1 hz1 hFc hDc hPc hKc hCc
            generalize H1 = H at hP hS ⊢
            have w_8 : True := w_8
            refine lv_iload_n hx hb dX5_parted_49 rfl (lv_at hl 0 rfl) ?_
            refine lv_iconst (v := 1) hx hb dX5_parted_50 (by decide) ?_
            refine lv_iadd hx hb dX5_parted_51 ?_
            refine lv_topi (fun y_10 ey_10 => ?_)
            have i_10 : y_10.toInt = i.toInt + 1 := ki_add ey_10 rfl rfl (om_2 w_1.1 i_6) (om_172 a1 w_1.2.2 LP1_h1)
            refine lv_istore (lv' := [(4, .int y_10), (3, .int i), (0, .ref h0), (1, .int p0), (2, .int p1)]) hx hb dX5_parted_52 hl (by decide) rfl (fun ls hl => ?_)
            have LP2 : ∀ (n : Nat) (j : Int32) (z_mm : Int32) (z_q : Nat → Int32) (zz : Nat → Int32), (1 ≤ j.toInt) → (p1.toInt + 1 - j.toInt).toNat < n → ∀ (H : Heap) (locs : List Loc), va_P (dC, dI) vwCl [kx_5 h0 g_row m_n m_slots 0 g_many g_loss g_less g_voteValue g_voteNumber g_allValue g_allNumber m_allMany g_nodeL g_nodeR m_nodes g_part m_partMany g_wasMany g_wasLoss g_wasValue g_wasNumber g_path m_pathMany g_heavyValue g_heavyTimes m_heavyMany g_fewest g_which g_met z_mm, kx_a g_row cyI 160 f, kx_a g_which cyI 160 o_4, kx_a g_met cyI 160 z_q, kx_a g_fewest cyI 161 zz] H → va_D A [kx_5 h0 g_row m_n m_slots 0 g_many g_loss g_less g_voteValue g_voteNumber g_allValue g_allNumber m_allMany g_nodeL g_nodeR m_nodes g_part m_partMany g_wasMany g_wasLoss g_wasValue g_wasNumber g_path m_pathMany g_heavyValue g_heavyTimes m_heavyMany g_fewest g_which g_met z_mm, kx_a g_row cyI 160 f, kx_a g_which cyI 160 o_4, kx_a g_met cyI 160 z_q, kx_a g_fewest cyI 161 zz] → va_S A s.heap H locs → ∀ (ls : Array Slot), lv_has ls 5 [(4, .int j), (3, .int i), (0, .ref h0), (1, .int p0), (2, .int p1)] → W p l e (headSpec wsX5_parted ({ frames := 1, cells := 0, slots := 0, locals := 45 })).room s m ([.ref h0, .int p0, .int p1] : List Value).toArray below meth c H locs 0 0 (MQ below (va_Qi (fun (r : Int32) (u : Int32 × (Nat → Int32) × (Nat → Int32) × (Nat → Int32)) => True) (fun (u : Int32 × (Nat → Int32) × (Nat → Int32) × (Nat → Int32)) (t : State) => va_P (dC, dI) vwCl [kx_5 h0 g_row m_n m_slots 0 g_many g_loss g_less g_voteValue g_voteNumber g_allValue g_allNumber m_allMany g_nodeL g_nodeR m_nodes g_part m_partMany g_wasMany g_wasLoss g_wasValue g_wasNumber g_path m_pathMany g_heavyValue g_heavyTimes m_heavyMany g_fewest g_which g_met u.1, kx_a g_row cyI 160 f, kx_a g_which cyI 160 u.2.1, kx_a g_met cyI 160 u.2.2.1, kx_a g_fewest cyI 161 u.2.2.2] t.heap ∧ va_K (dC, dI) vwCl [(cyI, .int)] t ∧ va_D A [kx_5 h0 g_row m_n m_slots 0 g_many g_loss g_less g_voteValue g_voteNumber g_allValue g_allNumber m_allMany g_nodeL g_nodeR m_nodes g_part m_partMany g_wasMany g_wasLoss g_wasValue g_wasNumber g_path m_pathMany g_heavyValue g_heavyTimes m_heavyMany g_fewest g_which g_met u.1, kx_a g_row cyI 160 f, kx_a g_which cyI 160 u.2.1, kx_a g_met cyI 160 u.2.2.1, kx_a g_fewest cyI 161 u.2.2.2]) A) ([.ref h0, .int p0, .int p1] : List Value).toArray s 0 0 A) (F0 m 54 ls []) := by
              intro n
              induction n with
              | zero => intro j z_mm z_q zz LP2_h0 hn; exact absurd hn (Nat.not_lt_zero _)
              | succ n ih2 =>
                intro j z_mm z_q zz LP2_h0 hn2 H locs hP hD hS ls hl
                refine lv_iload hx hb dX5_parted_54 (lv_at hl 0 rfl) ?_
                refine lv_iload_n hx hb dX5_parted_56 rfl (lv_at hl 4 rfl) ?_
                refine lv_icmp_gt (tgt := 109) hx hb dX5_parted_57 (by decide) (fun c_11 => ?_) (fun c_11 => ?_)
                · have i_11 : p1.toInt < j.toInt := kc_lt c_11
                  obtain ⟨x_12, ex_12⟩ : ∃ y : Int32, y = i + (-1) := ⟨_, rfl⟩
                  have i_12 : x_12.toInt = i.toInt + (-1) := ki_add ex_12 rfl rfl (om_262 w_1.1 i_6) (om_263 a1 w_1.2.2 LP1_h1)
                  refine lv_iinc (v := x_12) (lv' := [(3, .int x_12), (4, .int j), (0, .ref h0), (1, .int p0), (2, .int p1)]) hx hb dX5_parted_109 hl (k := 1) rfl (by rw [ex_12]; rfl) (by decide) rfl (fun ls hl => ?_)
                  refine lv_goto (tgt := 31) hx hb dX5_parted_112 (by decide) ?_
                  exact ih1 x_12 z_mm z_q zz (om_264 i_6 i_12) (om_118 LP1_h1 i_12) (om_mu hn1 (om_120 i_12) (om_265 w_1.1 i_6)) _ _ hP hD hS ls (lv_sub hl [0, 2, 3, 4] rfl)
                · have i_11 : j.toInt ≤ p1.toInt := kc_nlt c_11
                  refine lv_aload_n hx hb dX5_parted_60 rfl (lv_at hl 2 rfl) ?_
                  refine lv_iload hx hb dX5_parted_61 (lv_at hl 0 rfl) ?_
                  refine lv_iload_n hx hb dX5_parted_63 rfl (lv_at hl 1 rfl) ?_
                  obtain ⟨hPc, hDc, hFc, hCc⟩ := kx_preM (wc := [kx_5 h0 g_row m_n m_slots 0 g_many g_loss g_less g_voteValue g_voteNumber g_allValue g_allNumber m_allMany g_nodeL g_nodeR m_nodes g_part m_partMany g_wasMany g_wasLoss g_wasValue g_wasNumber g_path m_pathMany g_heavyValue g_heavyTimes m_heavyMany g_fewest g_which g_met z_mm, kx_a g_which cyI 160 o_4, kx_a g_met cyI 160 z_q]) hP hD hS hA [true, false, true, true, false] rfl
                  have hKc := hK
                  refine va_calli (va_runV (As := [.int j, .int i]) (rest := []) ⟨hx, hb, hml, hown, hts⟩ (kx_un (c_X5_goesOn l dC dI h0 g_row g_many g_loss g_less g_voteValue g_voteNumber g_allValue g_allNumber g_nodeL g_nodeR g_part g_wasMany g_wasLoss g_wasValue g_wasNumber g_path g_heavyValue g_heavyTimes g_fewest g_which g_met m_n m_slots 0 m_allMany m_nodes m_partMany m_pathMany m_heavyMany z_mm cyI o_4 z_q m_n.toInt j i H.size w_3 LP2_h0 (om_266 w_1.2.2 i_11) a1)) (cwV 2 hts gX5_parted_X5_goesOn rfl rfl rfl (by decide +kernel) ⟨Nat.le_of_ble_eq_true rfl, Nat.le_of_ble_eq_true rfl⟩) ⟨fun a U g mk q => by obtain ⟨q0, q1, qP, qK, qD⟩ := q; exact ⟨q0, q1, qP, va_K.moved (u := U) (U := U.calling g mk a) (Vm.Alike.refl U.vm) qK, qD⟩, kx_rc5 hKc hPc (q0 := 0) rfl, fun U hU hW => ⟨rfl, by rw [hU], by rw [hU]; exact hPc, va_K.moved hW.alike hKc, hDc.weaken (fun _ _ _ _ => trivial)⟩⟩ rfl rfl hl.1 rfl (lv_room (Nat.le_of_ble_eq_true rfl)) dX5_parted_64 ⟨Nat.le_of_ble_eq_true rfl, Nat.le_of_ble_eq_true rfl⟩) hS (fun q _ h => hFc q h) hFc (fun r_13 u t H1 locs ht hvm w_13 hB hz1 hk1 hS => ?_)
                  obtain ⟨o_14, o_15⟩ := u
                  dsimp only at w_13 hB
                  obtain ⟨hP1, hK1, hD1⟩ := hB
                  rw [ht] at hP1
                  have hK1 := va_K.moved hvm.symm hK1
                  obtain ⟨hP, hD⟩ := kx_joinM (w2 := [kx_5 h0 g_row m_n m_slots 0 g_many g_loss g_less g_voteValue g_voteNumber g_allValue g_allNumber m_allMany g_nodeL g_nodeR m_nodes g_part m_partMany g_wasMany g_wasLoss g_wasValue g_wasNumber g_path m_pathMany g_heavyValue g_heavyTimes m_heavyMany g_fewest g_which g_met o_14, kx_a g_row cyI 160 f, kx_a g_which cyI 160 o_4, kx_a g_met cyI 160 o_15, kx_a g_fewest cyI 161 zz]) hP hD hP1 hD1 hk1 hFc [true, false, true, true, false] hCc rfl
                  clear hP1 hD1 hK1 hk1 hz1 hFc hDc hPc hKc hCc
                  generalize H1 = H at hP hS ⊢
                  have w_13 : r_13 = 1 ∨ r_13 = 0 := w_13
                  refine lv_if_eq (tgt := 103) hx hb dX5_parted_67 (by decide) (fun c_16 => ?_) (fun c_16 => ?_)
                  · have i_16 : r_13.toInt = 0 := kc_eq c_16
                    obtain ⟨x_17, ex_17⟩ : ∃ y : Int32, y = j + 1 := ⟨_, rfl⟩
                    have i_17 : x_17.toInt = j.toInt + 1 := ki_add ex_17 rfl rfl (om_40 LP2_h0) (om_267 a1 w_1.2.2 i_11)
                    refine lv_iinc (v := x_17) (lv' := [(4, .int x_17), (3, .int i), (0, .ref h0), (1, .int p0), (2, .int p1)]) hx hb dX5_parted_103 hl (k := 0) rfl (by rw [ex_17]; rfl) (by decide) rfl (fun ls hl => ?_)
                    refine lv_goto (tgt := 54) hx hb dX5_parted_106 (by decide) ?_
                    exact ih2 x_17 o_14 o_15 zz (om_41 LP2_h0 i_17) (om_mu hn2 (om_239 i_17) (om_240 i_11)) _ _ hP hD hS ls (lv_sub hl [0, 1, 2, 3, 4] rfl)
                  · have i_16 : ¬ r_13.toInt = 0 := kc_ne c_16
                    refine lv_aload_n hx hb dX5_parted_70 rfl (lv_at hl 2 rfl) ?_
                    refine va_get (D := (dC, dI)) (ci := 5) (v := .ref g_fewest) (C := RX5) (T := TX5) (N := 30) hx hb hts hi_5 hown hK hP 0 rfl rfl 26 (by decide) hf_68 (fun _ h9 => h9) rfl dX5_parted_71 ?_
                    refine lv_iload hx hb dX5_parted_74 (lv_at hl 0 rfl) ?_
                    refine va_iald hx hb hK hP 4 0 rfl rfl (ki_in (om_51 LP2_h0) (om_268 a1 w_1.2.2 i_11)) dX5_parted_76 ?_
                    refine lv_topi (fun y_18 ey_18 => ?_)
                    have j_18 : y_18.toInt = (zz j.toNatClampNeg).toInt := congrArg Int32.toInt ey_18
                    refine lv_iconst (v := 1) hx hb dX5_parted_77 (by decide) ?_
                    refine lv_iadd hx hb dX5_parted_78 ?_
                    refine lv_topi (fun y_19 ey_19 => ?_)
                    refine lv_aload_n hx hb dX5_parted_79 rfl (lv_at hl 2 rfl) ?_
                    refine va_get (D := (dC, dI)) (ci := 5) (v := .ref g_fewest) (C := RX5) (T := TX5) (N := 30) hx hb hts hi_5 hown hK hP 0 rfl rfl 26 (by decide) hf_68 (fun _ h9 => h9) rfl dX5_parted_80 ?_
                    refine lv_iload_n hx hb dX5_parted_83 rfl (lv_at hl 1 rfl) ?_
                    refine va_iald hx hb hK hP 4 0 rfl rfl (ki_in (om_0 w_1.1 i_6) (om_181 a1 w_1.2.2 LP1_h1)) dX5_parted_84 ?_
                    refine lv_topi (fun y_20 ey_20 => ?_)
                    have j_20 : y_20.toInt = (zz i.toNatClampNeg).toInt := congrArg Int32.toInt ey_20
                    refine lv_icmp_ge (tgt := 103) hx hb dX5_parted_85 (by decide) (fun c_21 => ?_) (fun c_21 => ?_)
                    · have i_21 : y_20.toInt ≤ y_19.toInt := kc_le c_21
                      obtain ⟨x_22, ex_22⟩ : ∃ y : Int32, y = j + 1 := ⟨_, rfl⟩
                      have i_22 : x_22.toInt = j.toInt + 1 := ki_add ex_22 rfl rfl (om_40 LP2_h0) (om_267 a1 w_1.2.2 i_11)
                      refine lv_iinc (v := x_22) (lv' := [(4, .int x_22), (3, .int i), (0, .ref h0), (1, .int p0), (2, .int p1)]) hx hb dX5_parted_103 hl (k := 0) rfl (by rw [ex_22]; rfl) (by decide) rfl (fun ls hl => ?_)
                      refine lv_goto (tgt := 54) hx hb dX5_parted_106 (by decide) ?_
                      exact ih2 x_22 o_14 o_15 zz (om_41 LP2_h0 i_22) (om_mu hn2 (om_239 i_22) (om_240 i_11)) _ _ hP hD hS ls (lv_sub hl [0, 1, 2, 3, 4] rfl)
                    · have i_21 : y_19.toInt < y_20.toInt := kc_nle c_21
                      refine lv_aload_n hx hb dX5_parted_88 rfl (lv_at hl 2 rfl) ?_
                      refine va_get (D := (dC, dI)) (ci := 5) (v := .ref g_fewest) (C := RX5) (T := TX5) (N := 30) hx hb hts hi_5 hown hK hP 0 rfl rfl 26 (by decide) hf_68 (fun _ h9 => h9) rfl dX5_parted_89 ?_
                      refine lv_iload_n hx hb dX5_parted_92 rfl (lv_at hl 1 rfl) ?_
                      refine lv_aload_n hx hb dX5_parted_93 rfl (lv_at hl 2 rfl) ?_
                      refine va_get (D := (dC, dI)) (ci := 5) (v := .ref g_fewest) (C := RX5) (T := TX5) (N := 30) hx hb hts hi_5 hown hK hP 0 rfl rfl 26 (by decide) hf_68 (fun _ h9 => h9) rfl dX5_parted_94 ?_
                      refine lv_iload hx hb dX5_parted_97 (lv_at hl 0 rfl) ?_
                      refine va_iald hx hb hK hP 4 0 rfl rfl (ki_in (om_51 LP2_h0) (om_268 a1 w_1.2.2 i_11)) dX5_parted_99 ?_
                      refine lv_topi (fun y_23 ey_23 => ?_)
                      have j_23 : y_23.toInt = (zz j.toNatClampNeg).toInt := congrArg Int32.toInt ey_23
                      refine lv_iconst (v := 1) hx hb dX5_parted_100 (by decide) ?_
                      refine lv_iadd hx hb dX5_parted_101 ?_
                      refine lv_topi (fun y_24 ey_24 => ?_)
                      refine va_iast hx hb hK hP hD hS 4 0 rfl rfl (ki_in (om_0 w_1.1 i_6) (om_181 a1 w_1.2.2 LP1_h1)) dX5_parted_102 (fun H locs hP hD hS => ?_)
                      obtain ⟨hP, hD⟩ := kx_re (w2 := [kx_5 h0 g_row m_n m_slots 0 g_many g_loss g_less g_voteValue g_voteNumber g_allValue g_allNumber m_allMany g_nodeL g_nodeR m_nodes g_part m_partMany g_wasMany g_wasLoss g_wasValue g_wasNumber g_path m_pathMany g_heavyValue g_heavyTimes m_heavyMany g_fewest g_which g_met o_14, kx_a g_row cyI 160 f, kx_a g_which cyI 160 o_4, kx_a g_met cyI 160 o_15, kx_a g_fewest cyI 161 (upd zz i.toNatClampNeg y_24)]) hP hD rfl
                      obtain ⟨x_25, ex_25⟩ : ∃ y : Int32, y = j + 1 := ⟨_, rfl⟩
                      have i_25 : x_25.toInt = j.toInt + 1 := ki_add ex_25 rfl rfl (om_40 LP2_h0) (om_267 a1 w_1.2.2 i_11)
                      refine lv_iinc (v := x_25) (lv' := [(4, .int x_25), (3, .int i), (0, .ref h0), (1, .int p0), (2, .int p1)]) hx hb dX5_parted_103 hl (k := 0) rfl (by rw [ex_25]; rfl) (by decide) rfl (fun ls hl => ?_)
                      refine lv_goto (tgt := 54) hx hb dX5_parted_106 (by decide) ?_
                      exact ih2 x_25 o_14 o_15 (upd zz i.toNatClampNeg y_24) (om_41 LP2_h0 i_25) (om_mu hn2 (om_239 i_25) (om_240 i_11)) _ _ hP hD hS ls (lv_sub hl [0, 1, 2, 3, 4] rfl)
            have k_26 : (0 : Int32).toInt = 0 := rfl
            exact LP2 ((p1.toInt + 1 - y_10.toInt : Int).toNat + 1) y_10 0 o_9 (upd yz i.toNatClampNeg 161) (om_269 w_1.1 i_6 i_10) (Nat.lt_succ_self _) _ _ hP hD hS ls (lv_sub hl [0, 1, 2, 3, 4] rfl)
      exact LP1 ((y_5.toInt + 1 : Int).toNat + 1) y_5 m_mostMet fq (upd fz p1.toNatClampNeg 0) (om_270 w_1.2.1 i_5) (om_123 i_5) (Nat.lt_succ_self _) _ _ hP hD hS ls (lv_sub hl [0, 1, 2, 3] rfl)
    · exact absurd c_2 (by decide)
  · have w_1 : (p0.toInt < 0 ∨ p1.toInt ≤ p0.toInt ∨ m_n.toInt < p1.toInt) := w_1
    refine lv_if_ne (tgt := 16) hx hb dX5_parted_11 (by decide) (fun c_27 => ?_) (fun c_27 => ?_)
    · exact absurd c_27 (by decide)
    · refine lv_iconst (v := (-1)) hx hb dX5_parted_14 (by decide) ?_
      have hP9 := hP
      have hD9 := hD
      have hK9 := hK
      exact W.iret (v := (-1)) hx hb hr (hlocks := hlocks) (fun t ht hW => ⟨⟨(-1), (m_mostMet, fw, fq, fz), rfl, trivial, by rw [ht]; exact hP9, va_K.moved hW.alike hK9, hD9⟩, hS.F ht⟩) hS.2.2 dX5_parted_15



abbrev cX5_windowsOf : ByteArray := prog_7_method_73_code
def yX5_windowsOf : MethodName := ⟨RX5, "windowsOf", "(IIII)I"⟩
abbrev cX5_anyWindows : ByteArray := prog_7_method_74_code
def yX5_anyWindows : MethodName := ⟨RX5, "anyWindows", "(III)I"⟩
abbrev cX5_windows : ByteArray := prog_7_method_75_code
def yX5_windows : MethodName := ⟨RX5, "windows", "(IIII)I"⟩
abbrev cX5_needs : ByteArray := prog_7_method_76_code
def yX5_needs : MethodName := ⟨RX5, "needs", "(IIIII)I"⟩
def wsX5_windowsOf : List Cond := .code yX5_windowsOf cX5_windowsOf 8 (some .int) :: ([.fieldLink RX5 84 "MajorityIndexModel" "n" "I", .fieldLink RX5 7 "MajorityIndexModel" "row" "[I", .methodLink RX5 149 yX5_times, .instanceMethod yX5_times, .selects RX5 yX5_times yX5_times, .initialized RX5, .code yX5_times cX5_times 6 (some .int)] ++ wsX50)
def wsX5_anyWindows : List Cond := .code yX5_anyWindows cX5_anyWindows 8 (some .int) :: ([.fieldLink RX5 84 "MajorityIndexModel" "n" "I", .fieldLink RX5 7 "MajorityIndexModel" "row" "[I", .methodLink RX5 149 yX5_times, .instanceMethod yX5_times, .selects RX5 yX5_times yX5_times, .initialized RX5, .code yX5_times cX5_times 6 (some .int)] ++ wsX50)
def wsX5_windows : List Cond := .code yX5_windows cX5_windows 9 (some .int) :: ([.fieldLink RX5 77 "MajorityIndexModel" "thrown" "I", .fieldLink RX5 84 "MajorityIndexModel" "n" "I", .constant RX5 148 (-40000), .fieldLink RX5 7 "MajorityIndexModel" "row" "[I", .methodLink RX5 80 yX5_within, .static yX5_within, .initialized RX5, .code yX5_within cX5_within 3 (some .boolean), .methodLink RX5 184 yX5_isShare, .static yX5_isShare, .code yX5_isShare cX5_isShare 2 (some .boolean), .methodLink RX5 213 yX5_anyWindows, .instanceMethod yX5_anyWindows, .selects RX5 yX5_anyWindows yX5_anyWindows, .code yX5_anyWindows cX5_anyWindows 8 (some .int), .methodLink RX5 149 yX5_times, .instanceMethod yX5_times, .selects RX5 yX5_times yX5_times, .code yX5_times cX5_times 6 (some .int), .methodLink RX5 216 yX5_windowsOf, .instanceMethod yX5_windowsOf, .selects RX5 yX5_windowsOf yX5_windowsOf, .code yX5_windowsOf cX5_windowsOf 8 (some .int)] ++ wsX50)
def wsX5_needs : List Cond := .code yX5_needs cX5_needs 8 (some .int) :: ([.fieldLink RX5 77 "MajorityIndexModel" "thrown" "I", .methodLink RX5 132 yX5_isValue, .static yX5_isValue, .initialized RX5, .code yX5_isValue cX5_isValue 1 (some .boolean), .methodLink RX5 80 yX5_within, .static yX5_within, .code yX5_within cX5_within 3 (some .boolean), .methodLink RX5 142 yX5_isRange, .instanceMethod yX5_isRange, .selects RX5 yX5_isRange yX5_isRange, .code yX5_isRange cX5_isRange 3 (some .boolean), .fieldLink RX5 84 "MajorityIndexModel" "n" "I", .methodLink RX5 184 yX5_isShare, .static yX5_isShare, .code yX5_isShare cX5_isShare 2 (some .boolean), .methodLink RX5 149 yX5_times, .instanceMethod yX5_times, .selects RX5 yX5_times yX5_times, .code yX5_times cX5_times 6 (some .int), .fieldLink RX5 7 "MajorityIndexModel" "row" "[I"] ++ wsX50)
set_option maxRecDepth 20000 in
theorem ggX5_windowsOf_X5_times : GoodIn wsX5_windowsOf wsX5_times := goodIn_r _ [7, 2, 8, 9, 10, 11, 12, 13, 14, 15, 16, 17, 18, 19, 20, 21, 22, 23, 24, 25, 26, 27, 28, 29, 30, 31, 32, 33, 34, 35, 36, 37] rfl (by decide +kernel)
set_option maxRecDepth 20000 in
theorem gX5_windowsOf_X5_times : GoodIn wsX5_windowsOf (wsV RX5 149 RX5 yX5_times wsX5_times) := goodIn_app (goodIn_r _ [3, 4, 5, 6] rfl (by decide +kernel)) ggX5_windowsOf_X5_times
def dt_cX5_windowsOf_0 : List (Nat × Nat × Nat × Nat) := [(0, 3, 0, 0), (1, 54, 1, 5), (3, 42, 0, 0), (4, 27, 0, 0), (5, 3, 0, 0), (6, 28, 0, 0), (7, 4, 0, 0), (8, 100, 0, 0), (9, 182, 2, 149), (12, 54, 1, 6), (14, 3, 0, 0), (15, 54, 1, 7), (17, 21, 1, 7), (19, 28, 0, 0), (20, 96, 0, 0), (21, 42, 0, 0), (22, 180, 2, 84), (25, 163, 2, 55), (28, 42, 0, 0), (29, 180, 2, 7)]
theorem da_cX5_windowsOf_0 : fw dt_cX5_windowsOf_0 0 cX5_windowsOf.data.toList = true := by decide +kernel
theorem dX5_windowsOf_0 : decode cX5_windowsOf 0 = .ok (.iconst 0, 1) := fo_3 (fw_get da_cX5_windowsOf_0 0 rfl)
theorem dX5_windowsOf_1 : decode cX5_windowsOf 1 = .ok (.istore 5, 2) := fo_54 (fw_get da_cX5_windowsOf_0 1 rfl)
theorem dX5_windowsOf_3 : decode cX5_windowsOf 3 = .ok (.aload_n 0, 1) := fo_42 (fw_get da_cX5_windowsOf_0 2 rfl)
theorem dX5_windowsOf_4 : decode cX5_windowsOf 4 = .ok (.iload_n 1, 1) := fo_27 (fw_get da_cX5_windowsOf_0 3 rfl)
theorem dX5_windowsOf_5 : decode cX5_windowsOf 5 = .ok (.iconst 0, 1) := fo_3 (fw_get da_cX5_windowsOf_0 4 rfl)
theorem dX5_windowsOf_6 : decode cX5_windowsOf 6 = .ok (.iload_n 2, 1) := fo_28 (fw_get da_cX5_windowsOf_0 5 rfl)
theorem dX5_windowsOf_7 : decode cX5_windowsOf 7 = .ok (.iconst 1, 1) := fo_4 (fw_get da_cX5_windowsOf_0 6 rfl)
theorem dX5_windowsOf_8 : decode cX5_windowsOf 8 = .ok (.isub, 1) := fo_100 (fw_get da_cX5_windowsOf_0 7 rfl)
theorem dX5_windowsOf_9 : decode cX5_windowsOf 9 = .ok (.invokevirtual 149, 3) := fo_182 (fw_get da_cX5_windowsOf_0 8 rfl)
theorem dX5_windowsOf_12 : decode cX5_windowsOf 12 = .ok (.istore 6, 2) := fo_54 (fw_get da_cX5_windowsOf_0 9 rfl)
theorem dX5_windowsOf_14 : decode cX5_windowsOf 14 = .ok (.iconst 0, 1) := fo_3 (fw_get da_cX5_windowsOf_0 10 rfl)
theorem dX5_windowsOf_15 : decode cX5_windowsOf 15 = .ok (.istore 7, 2) := fo_54 (fw_get da_cX5_windowsOf_0 11 rfl)
theorem dX5_windowsOf_17 : decode cX5_windowsOf 17 = .ok (.iload 7, 2) := fo_21 (fw_get da_cX5_windowsOf_0 12 rfl)
theorem dX5_windowsOf_19 : decode cX5_windowsOf 19 = .ok (.iload_n 2, 1) := fo_28 (fw_get da_cX5_windowsOf_0 13 rfl)
theorem dX5_windowsOf_20 : decode cX5_windowsOf 20 = .ok (.iadd, 1) := fo_96 (fw_get da_cX5_windowsOf_0 14 rfl)
theorem dX5_windowsOf_21 : decode cX5_windowsOf 21 = .ok (.aload_n 0, 1) := fo_42 (fw_get da_cX5_windowsOf_0 15 rfl)
theorem dX5_windowsOf_22 : decode cX5_windowsOf 22 = .ok (.getfield 84, 3) := fo_180 (fw_get da_cX5_windowsOf_0 16 rfl)
theorem dX5_windowsOf_25 : decode cX5_windowsOf 25 = .ok (.if_icmp .gt 55, 3) := fo_163 (fw_get da_cX5_windowsOf_0 17 rfl) (by decide +kernel)
theorem dX5_windowsOf_28 : decode cX5_windowsOf 28 = .ok (.aload_n 0, 1) := fo_42 (fw_get da_cX5_windowsOf_0 18 rfl)
theorem dX5_windowsOf_29 : decode cX5_windowsOf 29 = .ok (.getfield 7, 3) := fo_180 (fw_get da_cX5_windowsOf_0 19 rfl)
def dt_cX5_windowsOf_1 : List (Nat × Nat × Nat × Nat) := [(32, 21, 1, 7), (34, 28, 0, 0), (35, 96, 0, 0), (36, 4, 0, 0), (37, 100, 0, 0), (38, 46, 0, 0), (39, 27, 0, 0), (40, 160, 2, 6), (43, 132, 2, 1537), (46, 21, 1, 6), (48, 21, 1, 4), (50, 104, 0, 0), (51, 29, 0, 0), (52, 28, 0, 0), (53, 104, 0, 0), (54, 164, 2, 6), (57, 132, 2, 1281), (60, 42, 0, 0), (61, 180, 2, 7), (64, 21, 1, 7)]
theorem da_cX5_windowsOf_1 : fw dt_cX5_windowsOf_1 0 cX5_windowsOf.data.toList = true := by decide +kernel
theorem dX5_windowsOf_32 : decode cX5_windowsOf 32 = .ok (.iload 7, 2) := fo_21 (fw_get da_cX5_windowsOf_1 0 rfl)
theorem dX5_windowsOf_34 : decode cX5_windowsOf 34 = .ok (.iload_n 2, 1) := fo_28 (fw_get da_cX5_windowsOf_1 1 rfl)
theorem dX5_windowsOf_35 : decode cX5_windowsOf 35 = .ok (.iadd, 1) := fo_96 (fw_get da_cX5_windowsOf_1 2 rfl)
theorem dX5_windowsOf_36 : decode cX5_windowsOf 36 = .ok (.iconst 1, 1) := fo_4 (fw_get da_cX5_windowsOf_1 3 rfl)
theorem dX5_windowsOf_37 : decode cX5_windowsOf 37 = .ok (.isub, 1) := fo_100 (fw_get da_cX5_windowsOf_1 4 rfl)
theorem dX5_windowsOf_38 : decode cX5_windowsOf 38 = .ok (.iaload, 1) := fo_46 (fw_get da_cX5_windowsOf_1 5 rfl)
theorem dX5_windowsOf_39 : decode cX5_windowsOf 39 = .ok (.iload_n 1, 1) := fo_27 (fw_get da_cX5_windowsOf_1 6 rfl)
theorem dX5_windowsOf_40 : decode cX5_windowsOf 40 = .ok (.if_icmp .ne 6, 3) := fo_160 (fw_get da_cX5_windowsOf_1 7 rfl) (by decide +kernel)
theorem dX5_windowsOf_43 : decode cX5_windowsOf 43 = .ok (.iinc 6 1, 3) := fo_132 (fw_get da_cX5_windowsOf_1 8 rfl) rfl (by decide +kernel)
theorem dX5_windowsOf_46 : decode cX5_windowsOf 46 = .ok (.iload 6, 2) := fo_21 (fw_get da_cX5_windowsOf_1 9 rfl)
theorem dX5_windowsOf_48 : decode cX5_windowsOf 48 = .ok (.iload 4, 2) := fo_21 (fw_get da_cX5_windowsOf_1 10 rfl)
theorem dX5_windowsOf_50 : decode cX5_windowsOf 50 = .ok (.imul, 1) := fo_104 (fw_get da_cX5_windowsOf_1 11 rfl)
theorem dX5_windowsOf_51 : decode cX5_windowsOf 51 = .ok (.iload_n 3, 1) := fo_29 (fw_get da_cX5_windowsOf_1 12 rfl)
theorem dX5_windowsOf_52 : decode cX5_windowsOf 52 = .ok (.iload_n 2, 1) := fo_28 (fw_get da_cX5_windowsOf_1 13 rfl)
theorem dX5_windowsOf_53 : decode cX5_windowsOf 53 = .ok (.imul, 1) := fo_104 (fw_get da_cX5_windowsOf_1 14 rfl)
theorem dX5_windowsOf_54 : decode cX5_windowsOf 54 = .ok (.if_icmp .le 6, 3) := fo_164 (fw_get da_cX5_windowsOf_1 15 rfl) (by decide +kernel)
theorem dX5_windowsOf_57 : decode cX5_windowsOf 57 = .ok (.iinc 5 1, 3) := fo_132 (fw_get da_cX5_windowsOf_1 16 rfl) rfl (by decide +kernel)
theorem dX5_windowsOf_60 : decode cX5_windowsOf 60 = .ok (.aload_n 0, 1) := fo_42 (fw_get da_cX5_windowsOf_1 17 rfl)
theorem dX5_windowsOf_61 : decode cX5_windowsOf 61 = .ok (.getfield 7, 3) := fo_180 (fw_get da_cX5_windowsOf_1 18 rfl)
theorem dX5_windowsOf_64 : decode cX5_windowsOf 64 = .ok (.iload 7, 2) := fo_21 (fw_get da_cX5_windowsOf_1 19 rfl)
def dt_cX5_windowsOf_2 : List (Nat × Nat × Nat × Nat) := [(66, 46, 0, 0), (67, 27, 0, 0), (68, 160, 2, 6), (71, 132, 2, 1791), (74, 132, 2, 1793), (77, 167, 2, 65476), (80, 21, 1, 5), (82, 172, 0, 0)]
theorem da_cX5_windowsOf_2 : fw dt_cX5_windowsOf_2 0 cX5_windowsOf.data.toList = true := by decide +kernel
theorem dX5_windowsOf_66 : decode cX5_windowsOf 66 = .ok (.iaload, 1) := fo_46 (fw_get da_cX5_windowsOf_2 0 rfl)
theorem dX5_windowsOf_67 : decode cX5_windowsOf 67 = .ok (.iload_n 1, 1) := fo_27 (fw_get da_cX5_windowsOf_2 1 rfl)
theorem dX5_windowsOf_68 : decode cX5_windowsOf 68 = .ok (.if_icmp .ne 6, 3) := fo_160 (fw_get da_cX5_windowsOf_2 2 rfl) (by decide +kernel)
theorem dX5_windowsOf_71 : decode cX5_windowsOf 71 = .ok (.iinc 6 (-1), 3) := fo_132 (fw_get da_cX5_windowsOf_2 3 rfl) rfl (by decide +kernel)
theorem dX5_windowsOf_74 : decode cX5_windowsOf 74 = .ok (.iinc 7 1, 3) := fo_132 (fw_get da_cX5_windowsOf_2 4 rfl) rfl (by decide +kernel)
theorem dX5_windowsOf_77 : decode cX5_windowsOf 77 = .ok (.goto (-60), 3) := fo_167 (fw_get da_cX5_windowsOf_2 5 rfl) (by decide +kernel)
theorem dX5_windowsOf_80 : decode cX5_windowsOf 80 = .ok (.iload 5, 2) := fo_21 (fw_get da_cX5_windowsOf_2 6 rfl)
theorem dX5_windowsOf_82 : decode cX5_windowsOf 82 = .ok (.ireturn, 1) := fo_172 (fw_get da_cX5_windowsOf_2 7 rfl)
set_option maxRecDepth 20000 in
theorem ggX5_anyWindows_X5_times : GoodIn wsX5_anyWindows wsX5_times := goodIn_r _ [7, 2, 8, 9, 10, 11, 12, 13, 14, 15, 16, 17, 18, 19, 20, 21, 22, 23, 24, 25, 26, 27, 28, 29, 30, 31, 32, 33, 34, 35, 36, 37] rfl (by decide +kernel)
set_option maxRecDepth 20000 in
theorem gX5_anyWindows_X5_times : GoodIn wsX5_anyWindows (wsV RX5 149 RX5 yX5_times wsX5_times) := goodIn_app (goodIn_r _ [3, 4, 5, 6] rfl (by decide +kernel)) ggX5_anyWindows_X5_times
def dt_cX5_anyWindows_0 : List (Nat × Nat × Nat × Nat) := [(0, 3, 0, 0), (1, 54, 1, 4), (3, 3, 0, 0), (4, 54, 1, 5), (6, 21, 1, 5), (8, 27, 0, 0), (9, 96, 0, 0), (10, 42, 0, 0), (11, 180, 2, 84), (14, 163, 2, 76), (17, 3, 0, 0), (18, 54, 1, 6), (20, 21, 1, 5), (22, 54, 1, 7), (24, 21, 1, 7), (26, 21, 1, 5), (28, 27, 0, 0), (29, 96, 0, 0), (30, 162, 2, 46), (33, 21, 1, 6)]
theorem da_cX5_anyWindows_0 : fw dt_cX5_anyWindows_0 0 cX5_anyWindows.data.toList = true := by decide +kernel
theorem dX5_anyWindows_0 : decode cX5_anyWindows 0 = .ok (.iconst 0, 1) := fo_3 (fw_get da_cX5_anyWindows_0 0 rfl)
theorem dX5_anyWindows_1 : decode cX5_anyWindows 1 = .ok (.istore 4, 2) := fo_54 (fw_get da_cX5_anyWindows_0 1 rfl)
theorem dX5_anyWindows_3 : decode cX5_anyWindows 3 = .ok (.iconst 0, 1) := fo_3 (fw_get da_cX5_anyWindows_0 2 rfl)
theorem dX5_anyWindows_4 : decode cX5_anyWindows 4 = .ok (.istore 5, 2) := fo_54 (fw_get da_cX5_anyWindows_0 3 rfl)
theorem dX5_anyWindows_6 : decode cX5_anyWindows 6 = .ok (.iload 5, 2) := fo_21 (fw_get da_cX5_anyWindows_0 4 rfl)
theorem dX5_anyWindows_8 : decode cX5_anyWindows 8 = .ok (.iload_n 1, 1) := fo_27 (fw_get da_cX5_anyWindows_0 5 rfl)
theorem dX5_anyWindows_9 : decode cX5_anyWindows 9 = .ok (.iadd, 1) := fo_96 (fw_get da_cX5_anyWindows_0 6 rfl)
theorem dX5_anyWindows_10 : decode cX5_anyWindows 10 = .ok (.aload_n 0, 1) := fo_42 (fw_get da_cX5_anyWindows_0 7 rfl)
theorem dX5_anyWindows_11 : decode cX5_anyWindows 11 = .ok (.getfield 84, 3) := fo_180 (fw_get da_cX5_anyWindows_0 8 rfl)
theorem dX5_anyWindows_14 : decode cX5_anyWindows 14 = .ok (.if_icmp .gt 76, 3) := fo_163 (fw_get da_cX5_anyWindows_0 9 rfl) (by decide +kernel)
theorem dX5_anyWindows_17 : decode cX5_anyWindows 17 = .ok (.iconst 0, 1) := fo_3 (fw_get da_cX5_anyWindows_0 10 rfl)
theorem dX5_anyWindows_18 : decode cX5_anyWindows 18 = .ok (.istore 6, 2) := fo_54 (fw_get da_cX5_anyWindows_0 11 rfl)
theorem dX5_anyWindows_20 : decode cX5_anyWindows 20 = .ok (.iload 5, 2) := fo_21 (fw_get da_cX5_anyWindows_0 12 rfl)
theorem dX5_anyWindows_22 : decode cX5_anyWindows 22 = .ok (.istore 7, 2) := fo_54 (fw_get da_cX5_anyWindows_0 13 rfl)
theorem dX5_anyWindows_24 : decode cX5_anyWindows 24 = .ok (.iload 7, 2) := fo_21 (fw_get da_cX5_anyWindows_0 14 rfl)
theorem dX5_anyWindows_26 : decode cX5_anyWindows 26 = .ok (.iload 5, 2) := fo_21 (fw_get da_cX5_anyWindows_0 15 rfl)
theorem dX5_anyWindows_28 : decode cX5_anyWindows 28 = .ok (.iload_n 1, 1) := fo_27 (fw_get da_cX5_anyWindows_0 16 rfl)
theorem dX5_anyWindows_29 : decode cX5_anyWindows 29 = .ok (.iadd, 1) := fo_96 (fw_get da_cX5_anyWindows_0 17 rfl)
theorem dX5_anyWindows_30 : decode cX5_anyWindows 30 = .ok (.if_icmp .ge 46, 3) := fo_162 (fw_get da_cX5_anyWindows_0 18 rfl) (by decide +kernel)
theorem dX5_anyWindows_33 : decode cX5_anyWindows 33 = .ok (.iload 6, 2) := fo_21 (fw_get da_cX5_anyWindows_0 19 rfl)
def dt_cX5_anyWindows_1 : List (Nat × Nat × Nat × Nat) := [(35, 154, 2, 41), (38, 42, 0, 0), (39, 42, 0, 0), (40, 180, 2, 7), (43, 21, 1, 7), (45, 46, 0, 0), (46, 21, 1, 5), (48, 21, 1, 5), (50, 27, 0, 0), (51, 96, 0, 0), (52, 182, 2, 149), (55, 29, 0, 0), (56, 104, 0, 0), (57, 28, 0, 0), (58, 27, 0, 0), (59, 104, 0, 0), (60, 164, 2, 7), (63, 4, 0, 0), (64, 167, 2, 4), (67, 3, 0, 0)]
theorem da_cX5_anyWindows_1 : fw dt_cX5_anyWindows_1 0 cX5_anyWindows.data.toList = true := by decide +kernel
theorem dX5_anyWindows_35 : decode cX5_anyWindows 35 = .ok (.ifCond .ne 41, 3) := fo_154 (fw_get da_cX5_anyWindows_1 0 rfl) (by decide +kernel)
theorem dX5_anyWindows_38 : decode cX5_anyWindows 38 = .ok (.aload_n 0, 1) := fo_42 (fw_get da_cX5_anyWindows_1 1 rfl)
theorem dX5_anyWindows_39 : decode cX5_anyWindows 39 = .ok (.aload_n 0, 1) := fo_42 (fw_get da_cX5_anyWindows_1 2 rfl)
theorem dX5_anyWindows_40 : decode cX5_anyWindows 40 = .ok (.getfield 7, 3) := fo_180 (fw_get da_cX5_anyWindows_1 3 rfl)
theorem dX5_anyWindows_43 : decode cX5_anyWindows 43 = .ok (.iload 7, 2) := fo_21 (fw_get da_cX5_anyWindows_1 4 rfl)
theorem dX5_anyWindows_45 : decode cX5_anyWindows 45 = .ok (.iaload, 1) := fo_46 (fw_get da_cX5_anyWindows_1 5 rfl)
theorem dX5_anyWindows_46 : decode cX5_anyWindows 46 = .ok (.iload 5, 2) := fo_21 (fw_get da_cX5_anyWindows_1 6 rfl)
theorem dX5_anyWindows_48 : decode cX5_anyWindows 48 = .ok (.iload 5, 2) := fo_21 (fw_get da_cX5_anyWindows_1 7 rfl)
theorem dX5_anyWindows_50 : decode cX5_anyWindows 50 = .ok (.iload_n 1, 1) := fo_27 (fw_get da_cX5_anyWindows_1 8 rfl)
theorem dX5_anyWindows_51 : decode cX5_anyWindows 51 = .ok (.iadd, 1) := fo_96 (fw_get da_cX5_anyWindows_1 9 rfl)
theorem dX5_anyWindows_52 : decode cX5_anyWindows 52 = .ok (.invokevirtual 149, 3) := fo_182 (fw_get da_cX5_anyWindows_1 10 rfl)
theorem dX5_anyWindows_55 : decode cX5_anyWindows 55 = .ok (.iload_n 3, 1) := fo_29 (fw_get da_cX5_anyWindows_1 11 rfl)
theorem dX5_anyWindows_56 : decode cX5_anyWindows 56 = .ok (.imul, 1) := fo_104 (fw_get da_cX5_anyWindows_1 12 rfl)
theorem dX5_anyWindows_57 : decode cX5_anyWindows 57 = .ok (.iload_n 2, 1) := fo_28 (fw_get da_cX5_anyWindows_1 13 rfl)
theorem dX5_anyWindows_58 : decode cX5_anyWindows 58 = .ok (.iload_n 1, 1) := fo_27 (fw_get da_cX5_anyWindows_1 14 rfl)
theorem dX5_anyWindows_59 : decode cX5_anyWindows 59 = .ok (.imul, 1) := fo_104 (fw_get da_cX5_anyWindows_1 15 rfl)
theorem dX5_anyWindows_60 : decode cX5_anyWindows 60 = .ok (.if_icmp .le 7, 3) := fo_164 (fw_get da_cX5_anyWindows_1 16 rfl) (by decide +kernel)
theorem dX5_anyWindows_63 : decode cX5_anyWindows 63 = .ok (.iconst 1, 1) := fo_4 (fw_get da_cX5_anyWindows_1 17 rfl)
theorem dX5_anyWindows_64 : decode cX5_anyWindows 64 = .ok (.goto 4, 3) := fo_167 (fw_get da_cX5_anyWindows_1 18 rfl) (by decide +kernel)
theorem dX5_anyWindows_67 : decode cX5_anyWindows 67 = .ok (.iconst 0, 1) := fo_3 (fw_get da_cX5_anyWindows_1 19 rfl)
def dt_cX5_anyWindows_2 : List (Nat × Nat × Nat × Nat) := [(68, 54, 1, 6), (70, 132, 2, 1793), (73, 167, 2, 65487), (76, 21, 1, 6), (78, 153, 2, 6), (81, 132, 2, 1025), (84, 132, 2, 1281), (87, 167, 2, 65455), (90, 21, 1, 4), (92, 172, 0, 0)]
theorem da_cX5_anyWindows_2 : fw dt_cX5_anyWindows_2 0 cX5_anyWindows.data.toList = true := by decide +kernel
theorem dX5_anyWindows_68 : decode cX5_anyWindows 68 = .ok (.istore 6, 2) := fo_54 (fw_get da_cX5_anyWindows_2 0 rfl)
theorem dX5_anyWindows_70 : decode cX5_anyWindows 70 = .ok (.iinc 7 1, 3) := fo_132 (fw_get da_cX5_anyWindows_2 1 rfl) rfl (by decide +kernel)
theorem dX5_anyWindows_73 : decode cX5_anyWindows 73 = .ok (.goto (-49), 3) := fo_167 (fw_get da_cX5_anyWindows_2 2 rfl) (by decide +kernel)
theorem dX5_anyWindows_76 : decode cX5_anyWindows 76 = .ok (.iload 6, 2) := fo_21 (fw_get da_cX5_anyWindows_2 3 rfl)
theorem dX5_anyWindows_78 : decode cX5_anyWindows 78 = .ok (.ifCond .eq 6, 3) := fo_153 (fw_get da_cX5_anyWindows_2 4 rfl) (by decide +kernel)
theorem dX5_anyWindows_81 : decode cX5_anyWindows 81 = .ok (.iinc 4 1, 3) := fo_132 (fw_get da_cX5_anyWindows_2 5 rfl) rfl (by decide +kernel)
theorem dX5_anyWindows_84 : decode cX5_anyWindows 84 = .ok (.iinc 5 1, 3) := fo_132 (fw_get da_cX5_anyWindows_2 6 rfl) rfl (by decide +kernel)
theorem dX5_anyWindows_87 : decode cX5_anyWindows 87 = .ok (.goto (-81), 3) := fo_167 (fw_get da_cX5_anyWindows_2 7 rfl) (by decide +kernel)
theorem dX5_anyWindows_90 : decode cX5_anyWindows 90 = .ok (.iload 4, 2) := fo_21 (fw_get da_cX5_anyWindows_2 8 rfl)
theorem dX5_anyWindows_92 : decode cX5_anyWindows 92 = .ok (.ireturn, 1) := fo_172 (fw_get da_cX5_anyWindows_2 9 rfl)
set_option maxRecDepth 20000 in
theorem ggX5_windows_X5_within : GoodIn wsX5_windows wsX5_within := goodIn_r _ [8] rfl (by decide +kernel)
set_option maxRecDepth 20000 in
theorem gX5_windows_X5_within : GoodIn wsX5_windows (va_wsS RX5 80 yX5_within wsX5_within) := goodIn_app (goodIn_r _ [5, 6, 7] rfl (by decide +kernel)) ggX5_windows_X5_within
set_option maxRecDepth 20000 in
theorem ggX5_windows_X5_isShare : GoodIn wsX5_windows wsX5_isShare := goodIn_r _ [11, 5, 6, 7, 8] rfl (by decide +kernel)
set_option maxRecDepth 20000 in
theorem gX5_windows_X5_isShare : GoodIn wsX5_windows (va_wsS RX5 184 yX5_isShare wsX5_isShare) := goodIn_app (goodIn_r _ [9, 10, 7] rfl (by decide +kernel)) ggX5_windows_X5_isShare
set_option maxRecDepth 20000 in
theorem ggX5_windows_X5_anyWindows : GoodIn wsX5_windows wsX5_anyWindows := goodIn_r _ [15, 2, 4, 16, 17, 18, 7, 19, 24, 25, 26, 27, 28, 29, 30, 31, 32, 33, 34, 35, 36, 37, 38, 39, 40, 41, 42, 43, 44, 45, 46, 47, 48, 49, 50, 51, 52, 53] rfl (by decide +kernel)
set_option maxRecDepth 20000 in
theorem gX5_windows_X5_anyWindows : GoodIn wsX5_windows (wsV RX5 213 RX5 yX5_anyWindows wsX5_anyWindows) := goodIn_app (goodIn_r _ [12, 13, 14, 7] rfl (by decide +kernel)) ggX5_windows_X5_anyWindows
set_option maxRecDepth 20000 in
theorem ggX5_windows_X5_times : GoodIn wsX5_windows wsX5_times := goodIn_r _ [19, 4, 24, 25, 26, 27, 28, 29, 30, 31, 32, 33, 34, 35, 36, 37, 38, 39, 40, 41, 42, 43, 44, 45, 46, 47, 48, 49, 50, 51, 52, 53] rfl (by decide +kernel)
set_option maxRecDepth 20000 in
theorem gX5_windows_X5_times : GoodIn wsX5_windows (wsV RX5 149 RX5 yX5_times wsX5_times) := goodIn_app (goodIn_r _ [16, 17, 18, 7] rfl (by decide +kernel)) ggX5_windows_X5_times
set_option maxRecDepth 20000 in
theorem ggX5_windows_X5_windowsOf : GoodIn wsX5_windows wsX5_windowsOf := goodIn_r _ [23, 2, 4, 16, 17, 18, 7, 19, 24, 25, 26, 27, 28, 29, 30, 31, 32, 33, 34, 35, 36, 37, 38, 39, 40, 41, 42, 43, 44, 45, 46, 47, 48, 49, 50, 51, 52, 53] rfl (by decide +kernel)
set_option maxRecDepth 20000 in
theorem gX5_windows_X5_windowsOf : GoodIn wsX5_windows (wsV RX5 216 RX5 yX5_windowsOf wsX5_windowsOf) := goodIn_app (goodIn_r _ [20, 21, 22, 7] rfl (by decide +kernel)) ggX5_windows_X5_windowsOf
def dt_cX5_windows_0 : List (Nat × Nat × Nat × Nat) := [(0, 42, 0, 0), (1, 3, 0, 0), (2, 181, 2, 77), (5, 27, 0, 0), (6, 4, 0, 0), (7, 42, 0, 0), (8, 180, 2, 84), (11, 184, 2, 80), (14, 153, 2, 21), (17, 28, 0, 0), (18, 29, 0, 0), (19, 184, 2, 184), (22, 153, 2, 13), (25, 21, 1, 4), (27, 3, 0, 0), (28, 5, 0, 0), (29, 184, 2, 80), (32, 154, 2, 16), (35, 21, 1, 4), (37, 4, 0, 0)]
theorem da_cX5_windows_0 : fw dt_cX5_windows_0 0 cX5_windows.data.toList = true := by decide +kernel
theorem dX5_windows_0 : decode cX5_windows 0 = .ok (.aload_n 0, 1) := fo_42 (fw_get da_cX5_windows_0 0 rfl)
theorem dX5_windows_1 : decode cX5_windows 1 = .ok (.iconst 0, 1) := fo_3 (fw_get da_cX5_windows_0 1 rfl)
theorem dX5_windows_2 : decode cX5_windows 2 = .ok (.putfield 77, 3) := fo_181 (fw_get da_cX5_windows_0 2 rfl)
theorem dX5_windows_5 : decode cX5_windows 5 = .ok (.iload_n 1, 1) := fo_27 (fw_get da_cX5_windows_0 3 rfl)
theorem dX5_windows_6 : decode cX5_windows 6 = .ok (.iconst 1, 1) := fo_4 (fw_get da_cX5_windows_0 4 rfl)
theorem dX5_windows_7 : decode cX5_windows 7 = .ok (.aload_n 0, 1) := fo_42 (fw_get da_cX5_windows_0 5 rfl)
theorem dX5_windows_8 : decode cX5_windows 8 = .ok (.getfield 84, 3) := fo_180 (fw_get da_cX5_windows_0 6 rfl)
theorem dX5_windows_11 : decode cX5_windows 11 = .ok (.invokestatic 80, 3) := fo_184 (fw_get da_cX5_windows_0 7 rfl)
theorem dX5_windows_14 : decode cX5_windows 14 = .ok (.ifCond .eq 21, 3) := fo_153 (fw_get da_cX5_windows_0 8 rfl) (by decide +kernel)
theorem dX5_windows_17 : decode cX5_windows 17 = .ok (.iload_n 2, 1) := fo_28 (fw_get da_cX5_windows_0 9 rfl)
theorem dX5_windows_18 : decode cX5_windows 18 = .ok (.iload_n 3, 1) := fo_29 (fw_get da_cX5_windows_0 10 rfl)
theorem dX5_windows_19 : decode cX5_windows 19 = .ok (.invokestatic 184, 3) := fo_184 (fw_get da_cX5_windows_0 11 rfl)
theorem dX5_windows_22 : decode cX5_windows 22 = .ok (.ifCond .eq 13, 3) := fo_153 (fw_get da_cX5_windows_0 12 rfl) (by decide +kernel)
theorem dX5_windows_25 : decode cX5_windows 25 = .ok (.iload 4, 2) := fo_21 (fw_get da_cX5_windows_0 13 rfl)
theorem dX5_windows_27 : decode cX5_windows 27 = .ok (.iconst 0, 1) := fo_3 (fw_get da_cX5_windows_0 14 rfl)
theorem dX5_windows_28 : decode cX5_windows 28 = .ok (.iconst 2, 1) := fo_5 (fw_get da_cX5_windows_0 15 rfl)
theorem dX5_windows_29 : decode cX5_windows 29 = .ok (.invokestatic 80, 3) := fo_184 (fw_get da_cX5_windows_0 16 rfl)
theorem dX5_windows_32 : decode cX5_windows 32 = .ok (.ifCond .ne 16, 3) := fo_154 (fw_get da_cX5_windows_0 17 rfl) (by decide +kernel)
theorem dX5_windows_35 : decode cX5_windows 35 = .ok (.iload 4, 2) := fo_21 (fw_get da_cX5_windows_0 18 rfl)
theorem dX5_windows_37 : decode cX5_windows 37 = .ok (.iconst 1, 1) := fo_4 (fw_get da_cX5_windows_0 19 rfl)
def dt_cX5_windows_1 : List (Nat × Nat × Nat × Nat) := [(38, 160, 2, 8), (41, 18, 1, 148), (43, 167, 2, 4), (46, 2, 0, 0), (47, 172, 0, 0), (48, 21, 1, 4), (50, 154, 2, 11), (53, 42, 0, 0), (54, 27, 0, 0), (55, 28, 0, 0), (56, 29, 0, 0), (57, 182, 2, 213), (60, 172, 0, 0), (61, 18, 1, 148), (63, 54, 1, 5), (65, 3, 0, 0), (66, 54, 1, 6), (68, 3, 0, 0), (69, 54, 1, 7), (71, 21, 1, 7)]
theorem da_cX5_windows_1 : fw dt_cX5_windows_1 0 cX5_windows.data.toList = true := by decide +kernel
theorem dX5_windows_38 : decode cX5_windows 38 = .ok (.if_icmp .ne 8, 3) := fo_160 (fw_get da_cX5_windows_1 0 rfl) (by decide +kernel)
theorem dX5_windows_41 : decode cX5_windows 41 = .ok (.ldc 148, 2) := fo_18 (fw_get da_cX5_windows_1 1 rfl)
theorem dX5_windows_43 : decode cX5_windows 43 = .ok (.goto 4, 3) := fo_167 (fw_get da_cX5_windows_1 2 rfl) (by decide +kernel)
theorem dX5_windows_46 : decode cX5_windows 46 = .ok (.iconst (-1), 1) := fo_2 (fw_get da_cX5_windows_1 3 rfl)
theorem dX5_windows_47 : decode cX5_windows 47 = .ok (.ireturn, 1) := fo_172 (fw_get da_cX5_windows_1 4 rfl)
theorem dX5_windows_48 : decode cX5_windows 48 = .ok (.iload 4, 2) := fo_21 (fw_get da_cX5_windows_1 5 rfl)
theorem dX5_windows_50 : decode cX5_windows 50 = .ok (.ifCond .ne 11, 3) := fo_154 (fw_get da_cX5_windows_1 6 rfl) (by decide +kernel)
theorem dX5_windows_53 : decode cX5_windows 53 = .ok (.aload_n 0, 1) := fo_42 (fw_get da_cX5_windows_1 7 rfl)
theorem dX5_windows_54 : decode cX5_windows 54 = .ok (.iload_n 1, 1) := fo_27 (fw_get da_cX5_windows_1 8 rfl)
theorem dX5_windows_55 : decode cX5_windows 55 = .ok (.iload_n 2, 1) := fo_28 (fw_get da_cX5_windows_1 9 rfl)
theorem dX5_windows_56 : decode cX5_windows 56 = .ok (.iload_n 3, 1) := fo_29 (fw_get da_cX5_windows_1 10 rfl)
theorem dX5_windows_57 : decode cX5_windows 57 = .ok (.invokevirtual 213, 3) := fo_182 (fw_get da_cX5_windows_1 11 rfl)
theorem dX5_windows_60 : decode cX5_windows 60 = .ok (.ireturn, 1) := fo_172 (fw_get da_cX5_windows_1 12 rfl)
theorem dX5_windows_61 : decode cX5_windows 61 = .ok (.ldc 148, 2) := fo_18 (fw_get da_cX5_windows_1 13 rfl)
theorem dX5_windows_63 : decode cX5_windows 63 = .ok (.istore 5, 2) := fo_54 (fw_get da_cX5_windows_1 14 rfl)
theorem dX5_windows_65 : decode cX5_windows 65 = .ok (.iconst 0, 1) := fo_3 (fw_get da_cX5_windows_1 15 rfl)
theorem dX5_windows_66 : decode cX5_windows 66 = .ok (.istore 6, 2) := fo_54 (fw_get da_cX5_windows_1 16 rfl)
theorem dX5_windows_68 : decode cX5_windows 68 = .ok (.iconst 0, 1) := fo_3 (fw_get da_cX5_windows_1 17 rfl)
theorem dX5_windows_69 : decode cX5_windows 69 = .ok (.istore 7, 2) := fo_54 (fw_get da_cX5_windows_1 18 rfl)
theorem dX5_windows_71 : decode cX5_windows 71 = .ok (.iload 7, 2) := fo_21 (fw_get da_cX5_windows_1 19 rfl)
def dt_cX5_windows_2 : List (Nat × Nat × Nat × Nat) := [(73, 42, 0, 0), (74, 180, 2, 84), (77, 162, 2, 92), (80, 42, 0, 0), (81, 42, 0, 0), (82, 180, 2, 7), (85, 21, 1, 7), (87, 46, 0, 0), (88, 3, 0, 0), (89, 21, 1, 7), (91, 182, 2, 149), (94, 158, 2, 6), (97, 167, 2, 66), (100, 42, 0, 0), (101, 42, 0, 0), (102, 180, 2, 7), (105, 21, 1, 7), (107, 46, 0, 0), (108, 27, 0, 0), (109, 28, 0, 0)]
theorem da_cX5_windows_2 : fw dt_cX5_windows_2 0 cX5_windows.data.toList = true := by decide +kernel
theorem dX5_windows_73 : decode cX5_windows 73 = .ok (.aload_n 0, 1) := fo_42 (fw_get da_cX5_windows_2 0 rfl)
theorem dX5_windows_74 : decode cX5_windows 74 = .ok (.getfield 84, 3) := fo_180 (fw_get da_cX5_windows_2 1 rfl)
theorem dX5_windows_77 : decode cX5_windows 77 = .ok (.if_icmp .ge 92, 3) := fo_162 (fw_get da_cX5_windows_2 2 rfl) (by decide +kernel)
theorem dX5_windows_80 : decode cX5_windows 80 = .ok (.aload_n 0, 1) := fo_42 (fw_get da_cX5_windows_2 3 rfl)
theorem dX5_windows_81 : decode cX5_windows 81 = .ok (.aload_n 0, 1) := fo_42 (fw_get da_cX5_windows_2 4 rfl)
theorem dX5_windows_82 : decode cX5_windows 82 = .ok (.getfield 7, 3) := fo_180 (fw_get da_cX5_windows_2 5 rfl)
theorem dX5_windows_85 : decode cX5_windows 85 = .ok (.iload 7, 2) := fo_21 (fw_get da_cX5_windows_2 6 rfl)
theorem dX5_windows_87 : decode cX5_windows 87 = .ok (.iaload, 1) := fo_46 (fw_get da_cX5_windows_2 7 rfl)
theorem dX5_windows_88 : decode cX5_windows 88 = .ok (.iconst 0, 1) := fo_3 (fw_get da_cX5_windows_2 8 rfl)
theorem dX5_windows_89 : decode cX5_windows 89 = .ok (.iload 7, 2) := fo_21 (fw_get da_cX5_windows_2 9 rfl)
theorem dX5_windows_91 : decode cX5_windows 91 = .ok (.invokevirtual 149, 3) := fo_182 (fw_get da_cX5_windows_2 10 rfl)
theorem dX5_windows_94 : decode cX5_windows 94 = .ok (.ifCond .le 6, 3) := fo_158 (fw_get da_cX5_windows_2 11 rfl) (by decide +kernel)
theorem dX5_windows_97 : decode cX5_windows 97 = .ok (.goto 66, 3) := fo_167 (fw_get da_cX5_windows_2 12 rfl) (by decide +kernel)
theorem dX5_windows_100 : decode cX5_windows 100 = .ok (.aload_n 0, 1) := fo_42 (fw_get da_cX5_windows_2 13 rfl)
theorem dX5_windows_101 : decode cX5_windows 101 = .ok (.aload_n 0, 1) := fo_42 (fw_get da_cX5_windows_2 14 rfl)
theorem dX5_windows_102 : decode cX5_windows 102 = .ok (.getfield 7, 3) := fo_180 (fw_get da_cX5_windows_2 15 rfl)
theorem dX5_windows_105 : decode cX5_windows 105 = .ok (.iload 7, 2) := fo_21 (fw_get da_cX5_windows_2 16 rfl)
theorem dX5_windows_107 : decode cX5_windows 107 = .ok (.iaload, 1) := fo_46 (fw_get da_cX5_windows_2 17 rfl)
theorem dX5_windows_108 : decode cX5_windows 108 = .ok (.iload_n 1, 1) := fo_27 (fw_get da_cX5_windows_2 18 rfl)
theorem dX5_windows_109 : decode cX5_windows 109 = .ok (.iload_n 2, 1) := fo_28 (fw_get da_cX5_windows_2 19 rfl)
def dt_cX5_windows_3 : List (Nat × Nat × Nat × Nat) := [(110, 29, 0, 0), (111, 182, 2, 216), (114, 54, 1, 8), (116, 21, 1, 8), (118, 21, 1, 6), (120, 161, 2, 43), (123, 21, 1, 8), (125, 153, 2, 38), (128, 21, 1, 8), (130, 21, 1, 6), (132, 160, 2, 18), (135, 42, 0, 0), (136, 180, 2, 7), (139, 21, 1, 7), (141, 46, 0, 0), (142, 21, 1, 5), (144, 164, 2, 6), (147, 167, 2, 16), (150, 42, 0, 0), (151, 180, 2, 7)]
theorem da_cX5_windows_3 : fw dt_cX5_windows_3 0 cX5_windows.data.toList = true := by decide +kernel
theorem dX5_windows_110 : decode cX5_windows 110 = .ok (.iload_n 3, 1) := fo_29 (fw_get da_cX5_windows_3 0 rfl)
theorem dX5_windows_111 : decode cX5_windows 111 = .ok (.invokevirtual 216, 3) := fo_182 (fw_get da_cX5_windows_3 1 rfl)
theorem dX5_windows_114 : decode cX5_windows 114 = .ok (.istore 8, 2) := fo_54 (fw_get da_cX5_windows_3 2 rfl)
theorem dX5_windows_116 : decode cX5_windows 116 = .ok (.iload 8, 2) := fo_21 (fw_get da_cX5_windows_3 3 rfl)
theorem dX5_windows_118 : decode cX5_windows 118 = .ok (.iload 6, 2) := fo_21 (fw_get da_cX5_windows_3 4 rfl)
theorem dX5_windows_120 : decode cX5_windows 120 = .ok (.if_icmp .lt 43, 3) := fo_161 (fw_get da_cX5_windows_3 5 rfl) (by decide +kernel)
theorem dX5_windows_123 : decode cX5_windows 123 = .ok (.iload 8, 2) := fo_21 (fw_get da_cX5_windows_3 6 rfl)
theorem dX5_windows_125 : decode cX5_windows 125 = .ok (.ifCond .eq 38, 3) := fo_153 (fw_get da_cX5_windows_3 7 rfl) (by decide +kernel)
theorem dX5_windows_128 : decode cX5_windows 128 = .ok (.iload 8, 2) := fo_21 (fw_get da_cX5_windows_3 8 rfl)
theorem dX5_windows_130 : decode cX5_windows 130 = .ok (.iload 6, 2) := fo_21 (fw_get da_cX5_windows_3 9 rfl)
theorem dX5_windows_132 : decode cX5_windows 132 = .ok (.if_icmp .ne 18, 3) := fo_160 (fw_get da_cX5_windows_3 10 rfl) (by decide +kernel)
theorem dX5_windows_135 : decode cX5_windows 135 = .ok (.aload_n 0, 1) := fo_42 (fw_get da_cX5_windows_3 11 rfl)
theorem dX5_windows_136 : decode cX5_windows 136 = .ok (.getfield 7, 3) := fo_180 (fw_get da_cX5_windows_3 12 rfl)
theorem dX5_windows_139 : decode cX5_windows 139 = .ok (.iload 7, 2) := fo_21 (fw_get da_cX5_windows_3 13 rfl)
theorem dX5_windows_141 : decode cX5_windows 141 = .ok (.iaload, 1) := fo_46 (fw_get da_cX5_windows_3 14 rfl)
theorem dX5_windows_142 : decode cX5_windows 142 = .ok (.iload 5, 2) := fo_21 (fw_get da_cX5_windows_3 15 rfl)
theorem dX5_windows_144 : decode cX5_windows 144 = .ok (.if_icmp .le 6, 3) := fo_164 (fw_get da_cX5_windows_3 16 rfl) (by decide +kernel)
theorem dX5_windows_147 : decode cX5_windows 147 = .ok (.goto 16, 3) := fo_167 (fw_get da_cX5_windows_3 17 rfl) (by decide +kernel)
theorem dX5_windows_150 : decode cX5_windows 150 = .ok (.aload_n 0, 1) := fo_42 (fw_get da_cX5_windows_3 18 rfl)
theorem dX5_windows_151 : decode cX5_windows 151 = .ok (.getfield 7, 3) := fo_180 (fw_get da_cX5_windows_3 19 rfl)
def dt_cX5_windows_4 : List (Nat × Nat × Nat × Nat) := [(154, 21, 1, 7), (156, 46, 0, 0), (157, 54, 1, 5), (159, 21, 1, 8), (161, 54, 1, 6), (163, 132, 2, 1793), (166, 167, 2, 65441), (169, 21, 1, 4), (171, 4, 0, 0), (172, 160, 2, 8), (175, 21, 1, 5), (177, 167, 2, 5), (180, 21, 1, 6), (182, 172, 0, 0)]
theorem da_cX5_windows_4 : fw dt_cX5_windows_4 0 cX5_windows.data.toList = true := by decide +kernel
theorem dX5_windows_154 : decode cX5_windows 154 = .ok (.iload 7, 2) := fo_21 (fw_get da_cX5_windows_4 0 rfl)
theorem dX5_windows_156 : decode cX5_windows 156 = .ok (.iaload, 1) := fo_46 (fw_get da_cX5_windows_4 1 rfl)
theorem dX5_windows_157 : decode cX5_windows 157 = .ok (.istore 5, 2) := fo_54 (fw_get da_cX5_windows_4 2 rfl)
theorem dX5_windows_159 : decode cX5_windows 159 = .ok (.iload 8, 2) := fo_21 (fw_get da_cX5_windows_4 3 rfl)
theorem dX5_windows_161 : decode cX5_windows 161 = .ok (.istore 6, 2) := fo_54 (fw_get da_cX5_windows_4 4 rfl)
theorem dX5_windows_163 : decode cX5_windows 163 = .ok (.iinc 7 1, 3) := fo_132 (fw_get da_cX5_windows_4 5 rfl) rfl (by decide +kernel)
theorem dX5_windows_166 : decode cX5_windows 166 = .ok (.goto (-95), 3) := fo_167 (fw_get da_cX5_windows_4 6 rfl) (by decide +kernel)
theorem dX5_windows_169 : decode cX5_windows 169 = .ok (.iload 4, 2) := fo_21 (fw_get da_cX5_windows_4 7 rfl)
theorem dX5_windows_171 : decode cX5_windows 171 = .ok (.iconst 1, 1) := fo_4 (fw_get da_cX5_windows_4 8 rfl)
theorem dX5_windows_172 : decode cX5_windows 172 = .ok (.if_icmp .ne 8, 3) := fo_160 (fw_get da_cX5_windows_4 9 rfl) (by decide +kernel)
theorem dX5_windows_175 : decode cX5_windows 175 = .ok (.iload 5, 2) := fo_21 (fw_get da_cX5_windows_4 10 rfl)
theorem dX5_windows_177 : decode cX5_windows 177 = .ok (.goto 5, 3) := fo_167 (fw_get da_cX5_windows_4 11 rfl) (by decide +kernel)
theorem dX5_windows_180 : decode cX5_windows 180 = .ok (.iload 6, 2) := fo_21 (fw_get da_cX5_windows_4 12 rfl)
theorem dX5_windows_182 : decode cX5_windows 182 = .ok (.ireturn, 1) := fo_172 (fw_get da_cX5_windows_4 13 rfl)
set_option maxRecDepth 20000 in
theorem ggX5_needs_X5_isValue : GoodIn wsX5_needs wsX5_isValue := goodIn_r _ [5, 6, 7, 4, 8] rfl (by decide +kernel)
set_option maxRecDepth 20000 in
theorem gX5_needs_X5_isValue : GoodIn wsX5_needs (va_wsS RX5 132 yX5_isValue wsX5_isValue) := goodIn_app (goodIn_r _ [2, 3, 4] rfl (by decide +kernel)) ggX5_needs_X5_isValue
set_option maxRecDepth 20000 in
theorem ggX5_needs_X5_isRange : GoodIn wsX5_needs wsX5_isRange := goodIn_r _ [12, 13, 22, 23, 24, 25, 26, 27, 28, 29, 30, 31, 32, 33, 34, 35, 36, 37, 38, 39, 40, 41, 42, 43, 44, 45, 46, 47, 48, 49, 50, 51] rfl (by decide +kernel)
set_option maxRecDepth 20000 in
theorem gX5_needs_X5_isRange : GoodIn wsX5_needs (wsV RX5 142 RX5 yX5_isRange wsX5_isRange) := goodIn_app (goodIn_r _ [9, 10, 11, 4] rfl (by decide +kernel)) ggX5_needs_X5_isRange
set_option maxRecDepth 20000 in
theorem ggX5_needs_X5_isShare : GoodIn wsX5_needs wsX5_isShare := goodIn_r _ [16, 6, 7, 4, 8] rfl (by decide +kernel)
set_option maxRecDepth 20000 in
theorem gX5_needs_X5_isShare : GoodIn wsX5_needs (va_wsS RX5 184 yX5_isShare wsX5_isShare) := goodIn_app (goodIn_r _ [14, 15, 4] rfl (by decide +kernel)) ggX5_needs_X5_isShare
set_option maxRecDepth 20000 in
theorem ggX5_needs_X5_times : GoodIn wsX5_needs wsX5_times := goodIn_r _ [20, 21, 22, 23, 24, 25, 26, 27, 28, 29, 30, 31, 32, 33, 34, 35, 36, 37, 38, 39, 40, 41, 42, 43, 44, 45, 46, 47, 48, 49, 50, 51] rfl (by decide +kernel)
set_option maxRecDepth 20000 in
theorem gX5_needs_X5_times : GoodIn wsX5_needs (wsV RX5 149 RX5 yX5_times wsX5_times) := goodIn_app (goodIn_r _ [17, 18, 19, 4] rfl (by decide +kernel)) ggX5_needs_X5_times
def dt_cX5_needs_0 : List (Nat × Nat × Nat × Nat) := [(0, 42, 0, 0), (1, 3, 0, 0), (2, 181, 2, 77), (5, 27, 0, 0), (6, 184, 2, 132), (9, 153, 2, 22), (12, 42, 0, 0), (13, 28, 0, 0), (14, 29, 0, 0), (15, 182, 2, 142), (18, 153, 2, 13), (21, 21, 1, 4), (23, 21, 1, 5), (25, 184, 2, 184), (28, 154, 2, 5), (31, 2, 0, 0), (32, 172, 0, 0), (33, 42, 0, 0), (34, 27, 0, 0), (35, 28, 0, 0)]
theorem da_cX5_needs_0 : fw dt_cX5_needs_0 0 cX5_needs.data.toList = true := by decide +kernel
theorem dX5_needs_0 : decode cX5_needs 0 = .ok (.aload_n 0, 1) := fo_42 (fw_get da_cX5_needs_0 0 rfl)
theorem dX5_needs_1 : decode cX5_needs 1 = .ok (.iconst 0, 1) := fo_3 (fw_get da_cX5_needs_0 1 rfl)
theorem dX5_needs_2 : decode cX5_needs 2 = .ok (.putfield 77, 3) := fo_181 (fw_get da_cX5_needs_0 2 rfl)
theorem dX5_needs_5 : decode cX5_needs 5 = .ok (.iload_n 1, 1) := fo_27 (fw_get da_cX5_needs_0 3 rfl)
theorem dX5_needs_6 : decode cX5_needs 6 = .ok (.invokestatic 132, 3) := fo_184 (fw_get da_cX5_needs_0 4 rfl)
theorem dX5_needs_9 : decode cX5_needs 9 = .ok (.ifCond .eq 22, 3) := fo_153 (fw_get da_cX5_needs_0 5 rfl) (by decide +kernel)
theorem dX5_needs_12 : decode cX5_needs 12 = .ok (.aload_n 0, 1) := fo_42 (fw_get da_cX5_needs_0 6 rfl)
theorem dX5_needs_13 : decode cX5_needs 13 = .ok (.iload_n 2, 1) := fo_28 (fw_get da_cX5_needs_0 7 rfl)
theorem dX5_needs_14 : decode cX5_needs 14 = .ok (.iload_n 3, 1) := fo_29 (fw_get da_cX5_needs_0 8 rfl)
theorem dX5_needs_15 : decode cX5_needs 15 = .ok (.invokevirtual 142, 3) := fo_182 (fw_get da_cX5_needs_0 9 rfl)
theorem dX5_needs_18 : decode cX5_needs 18 = .ok (.ifCond .eq 13, 3) := fo_153 (fw_get da_cX5_needs_0 10 rfl) (by decide +kernel)
theorem dX5_needs_21 : decode cX5_needs 21 = .ok (.iload 4, 2) := fo_21 (fw_get da_cX5_needs_0 11 rfl)
theorem dX5_needs_23 : decode cX5_needs 23 = .ok (.iload 5, 2) := fo_21 (fw_get da_cX5_needs_0 12 rfl)
theorem dX5_needs_25 : decode cX5_needs 25 = .ok (.invokestatic 184, 3) := fo_184 (fw_get da_cX5_needs_0 13 rfl)
theorem dX5_needs_28 : decode cX5_needs 28 = .ok (.ifCond .ne 5, 3) := fo_154 (fw_get da_cX5_needs_0 14 rfl) (by decide +kernel)
theorem dX5_needs_31 : decode cX5_needs 31 = .ok (.iconst (-1), 1) := fo_2 (fw_get da_cX5_needs_0 15 rfl)
theorem dX5_needs_32 : decode cX5_needs 32 = .ok (.ireturn, 1) := fo_172 (fw_get da_cX5_needs_0 16 rfl)
theorem dX5_needs_33 : decode cX5_needs 33 = .ok (.aload_n 0, 1) := fo_42 (fw_get da_cX5_needs_0 17 rfl)
theorem dX5_needs_34 : decode cX5_needs 34 = .ok (.iload_n 1, 1) := fo_27 (fw_get da_cX5_needs_0 18 rfl)
theorem dX5_needs_35 : decode cX5_needs 35 = .ok (.iload_n 2, 1) := fo_28 (fw_get da_cX5_needs_0 19 rfl)
def dt_cX5_needs_1 : List (Nat × Nat × Nat × Nat) := [(36, 29, 0, 0), (37, 182, 2, 149), (40, 54, 1, 6), (42, 3, 0, 0), (43, 54, 1, 7), (45, 21, 1, 6), (47, 21, 1, 7), (49, 96, 0, 0), (50, 29, 0, 0), (51, 28, 0, 0), (52, 100, 0, 0), (53, 163, 2, 29), (56, 21, 1, 6), (58, 21, 1, 7), (60, 96, 0, 0), (61, 21, 1, 5), (63, 104, 0, 0), (64, 21, 1, 4), (66, 29, 0, 0), (67, 28, 0, 0)]
theorem da_cX5_needs_1 : fw dt_cX5_needs_1 0 cX5_needs.data.toList = true := by decide +kernel
theorem dX5_needs_36 : decode cX5_needs 36 = .ok (.iload_n 3, 1) := fo_29 (fw_get da_cX5_needs_1 0 rfl)
theorem dX5_needs_37 : decode cX5_needs 37 = .ok (.invokevirtual 149, 3) := fo_182 (fw_get da_cX5_needs_1 1 rfl)
theorem dX5_needs_40 : decode cX5_needs 40 = .ok (.istore 6, 2) := fo_54 (fw_get da_cX5_needs_1 2 rfl)
theorem dX5_needs_42 : decode cX5_needs 42 = .ok (.iconst 0, 1) := fo_3 (fw_get da_cX5_needs_1 3 rfl)
theorem dX5_needs_43 : decode cX5_needs 43 = .ok (.istore 7, 2) := fo_54 (fw_get da_cX5_needs_1 4 rfl)
theorem dX5_needs_45 : decode cX5_needs 45 = .ok (.iload 6, 2) := fo_21 (fw_get da_cX5_needs_1 5 rfl)
theorem dX5_needs_47 : decode cX5_needs 47 = .ok (.iload 7, 2) := fo_21 (fw_get da_cX5_needs_1 6 rfl)
theorem dX5_needs_49 : decode cX5_needs 49 = .ok (.iadd, 1) := fo_96 (fw_get da_cX5_needs_1 7 rfl)
theorem dX5_needs_50 : decode cX5_needs 50 = .ok (.iload_n 3, 1) := fo_29 (fw_get da_cX5_needs_1 8 rfl)
theorem dX5_needs_51 : decode cX5_needs 51 = .ok (.iload_n 2, 1) := fo_28 (fw_get da_cX5_needs_1 9 rfl)
theorem dX5_needs_52 : decode cX5_needs 52 = .ok (.isub, 1) := fo_100 (fw_get da_cX5_needs_1 10 rfl)
theorem dX5_needs_53 : decode cX5_needs 53 = .ok (.if_icmp .gt 29, 3) := fo_163 (fw_get da_cX5_needs_1 11 rfl) (by decide +kernel)
theorem dX5_needs_56 : decode cX5_needs 56 = .ok (.iload 6, 2) := fo_21 (fw_get da_cX5_needs_1 12 rfl)
theorem dX5_needs_58 : decode cX5_needs 58 = .ok (.iload 7, 2) := fo_21 (fw_get da_cX5_needs_1 13 rfl)
theorem dX5_needs_60 : decode cX5_needs 60 = .ok (.iadd, 1) := fo_96 (fw_get da_cX5_needs_1 14 rfl)
theorem dX5_needs_61 : decode cX5_needs 61 = .ok (.iload 5, 2) := fo_21 (fw_get da_cX5_needs_1 15 rfl)
theorem dX5_needs_63 : decode cX5_needs 63 = .ok (.imul, 1) := fo_104 (fw_get da_cX5_needs_1 16 rfl)
theorem dX5_needs_64 : decode cX5_needs 64 = .ok (.iload 4, 2) := fo_21 (fw_get da_cX5_needs_1 17 rfl)
theorem dX5_needs_66 : decode cX5_needs 66 = .ok (.iload_n 3, 1) := fo_29 (fw_get da_cX5_needs_1 18 rfl)
theorem dX5_needs_67 : decode cX5_needs 67 = .ok (.iload_n 2, 1) := fo_28 (fw_get da_cX5_needs_1 19 rfl)
def dt_cX5_needs_2 : List (Nat × Nat × Nat × Nat) := [(68, 100, 0, 0), (69, 104, 0, 0), (70, 164, 2, 6), (73, 21, 1, 7), (75, 172, 0, 0), (76, 132, 2, 1793), (79, 167, 2, 65502), (82, 16, 1, 254), (84, 172, 0, 0)]
theorem da_cX5_needs_2 : fw dt_cX5_needs_2 0 cX5_needs.data.toList = true := by decide +kernel
theorem dX5_needs_68 : decode cX5_needs 68 = .ok (.isub, 1) := fo_100 (fw_get da_cX5_needs_2 0 rfl)
theorem dX5_needs_69 : decode cX5_needs 69 = .ok (.imul, 1) := fo_104 (fw_get da_cX5_needs_2 1 rfl)
theorem dX5_needs_70 : decode cX5_needs 70 = .ok (.if_icmp .le 6, 3) := fo_164 (fw_get da_cX5_needs_2 2 rfl) (by decide +kernel)
theorem dX5_needs_73 : decode cX5_needs 73 = .ok (.iload 7, 2) := fo_21 (fw_get da_cX5_needs_2 3 rfl)
theorem dX5_needs_75 : decode cX5_needs 75 = .ok (.ireturn, 1) := fo_172 (fw_get da_cX5_needs_2 4 rfl)
theorem dX5_needs_76 : decode cX5_needs 76 = .ok (.iinc 7 1, 3) := fo_132 (fw_get da_cX5_needs_2 5 rfl) rfl (by decide +kernel)
theorem dX5_needs_79 : decode cX5_needs 79 = .ok (.goto (-34), 3) := fo_167 (fw_get da_cX5_needs_2 6 rfl) (by decide +kernel)
theorem dX5_needs_82 : decode cX5_needs 82 = .ok (.bipush (-2), 2) := fo_16 (fw_get da_cX5_needs_2 7 rfl) (by decide +kernel)
theorem dX5_needs_84 : decode cX5_needs 84 = .ok (.ireturn, 1) := fo_172 (fw_get da_cX5_needs_2 8 rfl)


set_option maxHeartbeats 4000000 in
set_option maxRecDepth 100000 in
theorem c_X5_needs (l : Launch) (dC : Nat → ClassId) (dI : Nat → Nat → Nat) (h0 : Nat) (g_row : Nat) (g_many : Nat) (g_loss : Nat) (g_less : Nat) (g_voteValue : Nat) (g_voteNumber : Nat) (g_allValue : Nat) (g_allNumber : Nat) (g_nodeL : Nat) (g_nodeR : Nat) (g_part : Nat) (g_wasMany : Nat) (g_wasLoss : Nat) (g_wasValue : Nat) (g_wasNumber : Nat) (g_path : Nat) (g_heavyValue : Nat) (g_heavyTimes : Nat) (g_fewest : Nat) (g_which : Nat) (g_met : Nat) (m_n : Int32) (m_slots : Int32) (m_thrown : Int32) (m_allMany : Int32) (m_nodes : Int32) (m_partMany : Int32) (m_pathMany : Int32) (m_heavyMany : Int32) (m_mostMet : Int32) (cyI : ClassId) (f : Nat → Int32) (p0 : Int32) (p1 : Int32) (p2 : Int32) (p3 : Int32) (p4 : Int32) (sz : Nat) (a0 : 0 ≤ m_n.toInt) (a1 : m_n.toInt ≤ 160) : kx_MQ l (dC, dI) yX5_needs wsX5_needs ({ frames := 2, cells := 0, slots := 0, locals := 90 }) [.ref h0, .int p0, .int p1, .int p2, .int p3, .int p4] [kx_5 h0 g_row m_n m_slots m_thrown g_many g_loss g_less g_voteValue g_voteNumber g_allValue g_allNumber m_allMany g_nodeL g_nodeR m_nodes g_part m_partMany g_wasMany g_wasLoss g_wasValue g_wasNumber g_path m_pathMany g_heavyValue g_heavyTimes m_heavyMany g_fewest g_which g_met m_mostMet, kx_a g_row cyI 160 f] [(cyI, .int)] sz (fun A => va_Qi (fun (r : Int32) (_ : Unit) => True) (fun (_ : Unit) (t : State) => va_P (dC, dI) vwCl [kx_5 h0 g_row m_n m_slots 0 g_many g_loss g_less g_voteValue g_voteNumber g_allValue g_allNumber m_allMany g_nodeL g_nodeR m_nodes g_part m_partMany g_wasMany g_wasLoss g_wasValue g_wasNumber g_path m_pathMany g_heavyValue g_heavyTimes m_heavyMany g_fewest g_which g_met m_mostMet, kx_a g_row cyI 160 f] t.heap ∧ va_K (dC, dI) vwCl [(cyI, .int)] t ∧ va_D A [kx_5 h0 g_row m_n m_slots 0 g_many g_loss g_less g_voteValue g_voteNumber g_allValue g_allNumber m_allMany g_nodeL g_nodeR m_nodes g_part m_partMany g_wasMany g_wasLoss g_wasValue g_wasNumber g_path m_pathMany g_heavyValue g_heavyTimes m_heavyMany g_fewest g_which g_met m_mostMet, kx_a g_row cyI 160 f]) A) := by
  refine kx_stQ (ws := wsX5_needs) (cc := cX5_needs) (maxL := 8) (ret := (some .int)) (by decide) rfl (Nat.le_of_ble_eq_true rfl) ?_
  intro p e s m below meth c A ls hx hb hr hlocks hts hown hml hA hS hP hK hD hl
  have hown : s.vm.findClass RX5 = some m.cls := hown
  have hl : lv_has ls 8 [(0, .ref h0), (1, .int p0), (2, .int p1), (3, .int p2), (4, .int p3), (5, .int p4)] := hl
  have hf_77 := hts (.fieldLink RX5 77 "MajorityIndexModel" "thrown" "I") (List.mem_of_getElem? (i := 1) rfl)
  have hi_5 : ∀ w ∈ u_ws RX5 TX5 30, w ∈ wsX5_needs := fun w h => List.mem_cons_of_mem _ (List.mem_append_right _ h)
  refine lv_aload_n hx hb dX5_needs_0 rfl (lv_at hl 0 rfl) ?_
  refine lv_iconst (v := 0) hx hb dX5_needs_1 (by decide) ?_
  refine va_put (D := (dC, dI)) (ci := 5) (v := .int 0) (ty := .int) (C := RX5) (T := TX5) (N := 30) hx hb hts hi_5 tyX5 tyX5_ok nmX5 hown hK hP hD hS 0 rfl rfl 3 (by decide) hf_77 (fun _ h9 => h9) rfl (by decide +kernel) rfl rfl (Nat.le_of_ble_eq_true rfl) dX5_needs_2 (fun H locs hP hD hS => ?_)
  obtain ⟨hP, hD⟩ := kx_re (w2 := [kx_5 h0 g_row m_n m_slots 0 g_many g_loss g_less g_voteValue g_voteNumber g_allValue g_allNumber m_allMany g_nodeL g_nodeR m_nodes g_part m_partMany g_wasMany g_wasLoss g_wasValue g_wasNumber g_path m_pathMany g_heavyValue g_heavyTimes m_heavyMany g_fewest g_which g_met m_mostMet, kx_a g_row cyI 160 f]) hP hD rfl
  refine lv_iload_n hx hb dX5_needs_5 rfl (lv_at hl 1 rfl) ?_
  have hPc := hP.sub (ws' := []) [] rfl
  have hKc := hK.sub (tys' := []) [] rfl
  refine vp_callSi (W.runS (As := [.int p0]) (rest := []) ⟨hx, hb, hml, hown, hts⟩ (c_X5_isValue l dC dI p0) (va_cwS 1 hts gX5_needs_X5_isValue rfl rfl rfl (by decide +kernel) ⟨Nat.le_of_ble_eq_true rfl, Nat.le_of_ble_eq_true rfl⟩) ⟨fun a U g mk q => by obtain ⟨q0, qP, qK⟩ := q; exact ⟨q0, qP, va_K.moved (u := U) (U := U.calling g mk a) (Vm.Alike.refl U.vm) qK⟩, fun U hU hW => ⟨rfl, by rw [hU]; exact hPc, va_K.moved hW.alike hKc⟩⟩ rfl rfl hl.1 rfl (lv_room (Nat.le_of_ble_eq_true rfl)) dX5_needs_6 ⟨Nat.le_of_ble_eq_true rfl, Nat.le_of_ble_eq_true rfl⟩) (fun r_1 w_1 => ?_)
  rcases w_1 with ⟨rfl, w_1⟩ | ⟨rfl, w_1⟩
  · have w_1 : (-32768 ≤ p0.toInt ∧ p0.toInt ≤ 32767) := w_1
    refine lv_if_eq (tgt := 31) hx hb dX5_needs_9 (by decide) (fun c_2 => ?_) (fun c_2 => ?_)
    · exact absurd c_2 (by decide)
    · refine lv_aload_n hx hb dX5_needs_12 rfl (lv_at hl 0 rfl) ?_
      refine lv_iload_n hx hb dX5_needs_13 rfl (lv_at hl 2 rfl) ?_
      refine lv_iload_n hx hb dX5_needs_14 rfl (lv_at hl 3 rfl) ?_
      have hPc := hP.sub (ws' := [kx_5 h0 g_row m_n m_slots 0 g_many g_loss g_less g_voteValue g_voteNumber g_allValue g_allNumber m_allMany g_nodeL g_nodeR m_nodes g_part m_partMany g_wasMany g_wasLoss g_wasValue g_wasNumber g_path m_pathMany g_heavyValue g_heavyTimes m_heavyMany g_fewest g_which g_met m_mostMet]) [0] rfl
      have hKc := hK.sub (tys' := []) [] rfl
      refine vp_callSi (W.runV (As := [.int p1, .int p2]) (rest := []) ⟨hx, hb, hml, hown, hts⟩ (c_X5_isRange l dC dI h0 g_row g_many g_loss g_less g_voteValue g_voteNumber g_allValue g_allNumber g_nodeL g_nodeR g_part g_wasMany g_wasLoss g_wasValue g_wasNumber g_path g_heavyValue g_heavyTimes g_fewest g_which g_met m_n m_slots 0 m_allMany m_nodes m_partMany m_pathMany m_heavyMany m_mostMet p1 p2) (cwV 2 hts gX5_needs_X5_isRange rfl rfl rfl (by decide +kernel) ⟨Nat.le_of_ble_eq_true rfl, Nat.le_of_ble_eq_true rfl⟩) ⟨fun a U g mk q => by obtain ⟨q0, qP, qK⟩ := q; exact ⟨q0, qP, va_K.moved (u := U) (U := U.calling g mk a) (Vm.Alike.refl U.vm) qK⟩, kx_rc5 hKc hPc (q0 := 0) rfl, fun U hU hW => ⟨rfl, by rw [hU]; exact hPc, va_K.moved hW.alike hKc⟩⟩ rfl rfl hl.1 rfl (lv_room (Nat.le_of_ble_eq_true rfl)) dX5_needs_15 ⟨Nat.le_of_ble_eq_true rfl, Nat.le_of_ble_eq_true rfl⟩) (fun r_3 w_3 => ?_)
      rcases w_3 with ⟨rfl, w_3⟩ | ⟨rfl, w_3⟩
      · have w_3 : (0 ≤ p1.toInt ∧ p1.toInt < p2.toInt ∧ p2.toInt ≤ m_n.toInt) := w_3
        refine lv_if_eq (tgt := 31) hx hb dX5_needs_18 (by decide) (fun c_4 => ?_) (fun c_4 => ?_)
        · exact absurd c_4 (by decide)
        · refine lv_iload hx hb dX5_needs_21 (lv_at hl 4 rfl) ?_
          refine lv_iload hx hb dX5_needs_23 (lv_at hl 5 rfl) ?_
          have hPc := hP.sub (ws' := []) [] rfl
          have hKc := hK.sub (tys' := []) [] rfl
          refine vp_callSi (W.runS (As := [.int p3, .int p4]) (rest := []) ⟨hx, hb, hml, hown, hts⟩ (c_X5_isShare l dC dI p3 p4) (va_cwS 2 hts gX5_needs_X5_isShare rfl rfl rfl (by decide +kernel) ⟨Nat.le_of_ble_eq_true rfl, Nat.le_of_ble_eq_true rfl⟩) ⟨fun a U g mk q => by obtain ⟨q0, qP, qK⟩ := q; exact ⟨q0, qP, va_K.moved (u := U) (U := U.calling g mk a) (Vm.Alike.refl U.vm) qK⟩, fun U hU hW => ⟨rfl, by rw [hU]; exact hPc, va_K.moved hW.alike hKc⟩⟩ rfl rfl hl.1 rfl (lv_room (Nat.le_of_ble_eq_true rfl)) dX5_needs_25 ⟨Nat.le_of_ble_eq_true rfl, Nat.le_of_ble_eq_true rfl⟩) (fun r_5 w_5 => ?_)
          rcases w_5 with ⟨rfl, w_5⟩ | ⟨rfl, w_5⟩
          · have w_5 : (1 ≤ p3.toInt ∧ p3.toInt ≤ p4.toInt ∧ p4.toInt ≤ 999) := w_5
            refine lv_if_ne (tgt := 33) hx hb dX5_needs_28 (by decide) (fun c_6 => ?_) (fun c_6 => ?_)
            · refine lv_aload_n hx hb dX5_needs_33 rfl (lv_at hl 0 rfl) ?_
              refine lv_iload_n hx hb dX5_needs_34 rfl (lv_at hl 1 rfl) ?_
              refine lv_iload_n hx hb dX5_needs_35 rfl (lv_at hl 2 rfl) ?_
              refine lv_iload_n hx hb dX5_needs_36 rfl (lv_at hl 3 rfl) ?_
              have hPc := hP
              have hKc := hK
              refine vp_callSi (W.runV (As := [.int p0, .int p1, .int p2]) (rest := []) ⟨hx, hb, hml, hown, hts⟩ (c_X5_times l dC dI h0 g_row g_many g_loss g_less g_voteValue g_voteNumber g_allValue g_allNumber g_nodeL g_nodeR g_part g_wasMany g_wasLoss g_wasValue g_wasNumber g_path g_heavyValue g_heavyTimes g_fewest g_which g_met m_n m_slots 0 m_allMany m_nodes m_partMany m_pathMany m_heavyMany m_mostMet cyI f p0 p1 p2 (om_10 w_3.1) (om_167 a1 w_3.2.2)) (cwV 3 hts gX5_needs_X5_times rfl rfl rfl (by decide +kernel) ⟨Nat.le_of_ble_eq_true rfl, Nat.le_of_ble_eq_true rfl⟩) ⟨fun a U g mk q => by obtain ⟨q0, qP, qK⟩ := q; exact ⟨q0, qP, va_K.moved (u := U) (U := U.calling g mk a) (Vm.Alike.refl U.vm) qK⟩, kx_rc5 hKc hPc (q0 := 0) rfl, fun U hU hW => ⟨rfl, by rw [hU]; exact hPc, va_K.moved hW.alike hKc⟩⟩ rfl rfl hl.1 rfl (lv_room (Nat.le_of_ble_eq_true rfl)) dX5_needs_37 ⟨Nat.le_of_ble_eq_true rfl, Nat.le_of_ble_eq_true rfl⟩) (fun r_7 w_7 => ?_)
              have w_7 : r_7.toInt = (cnt f p0 p1.toNatClampNeg (p2.toInt - p1.toInt).toNat : Int) := w_7
              have hle := cnt_le f p0 p1.toNatClampNeg (p2.toInt - p1.toInt).toNat
              refine lv_istore (lv' := [(6, .int r_7), (0, .ref h0), (1, .int p0), (2, .int p1), (3, .int p2), (4, .int p3), (5, .int p4)]) hx hb dX5_needs_40 hl (by decide) rfl (fun ls hl => ?_)
              refine lv_iconst (v := 0) hx hb dX5_needs_42 (by decide) ?_
              refine lv_istore (lv' := [(7, .int 0), (6, .int r_7), (0, .ref h0), (1, .int p0), (2, .int p1), (3, .int p2), (4, .int p3), (5, .int p4)]) hx hb dX5_needs_43 hl (by decide) rfl (fun ls hl => ?_)
              have LP1 : ∀ (n : Nat) (i : Int32), (0 ≤ i.toInt) → (i.toInt ≤ p2.toInt - p1.toInt + 1) → (p2.toInt - p1.toInt + 1 - i.toInt).toNat < n → ∀ (H : Heap) (locs : List Loc), va_P (dC, dI) vwCl [kx_5 h0 g_row m_n m_slots 0 g_many g_loss g_less g_voteValue g_voteNumber g_allValue g_allNumber m_allMany g_nodeL g_nodeR m_nodes g_part m_partMany g_wasMany g_wasLoss g_wasValue g_wasNumber g_path m_pathMany g_heavyValue g_heavyTimes m_heavyMany g_fewest g_which g_met m_mostMet, kx_a g_row cyI 160 f] H → va_D A [kx_5 h0 g_row m_n m_slots 0 g_many g_loss g_less g_voteValue g_voteNumber g_allValue g_allNumber m_allMany g_nodeL g_nodeR m_nodes g_part m_partMany g_wasMany g_wasLoss g_wasValue g_wasNumber g_path m_pathMany g_heavyValue g_heavyTimes m_heavyMany g_fewest g_which g_met m_mostMet, kx_a g_row cyI 160 f] → va_S A s.heap H locs → ∀ (ls : Array Slot), lv_has ls 8 [(7, .int i), (6, .int r_7), (0, .ref h0), (1, .int p0), (2, .int p1), (3, .int p2), (4, .int p3), (5, .int p4)] → W p l e (headSpec wsX5_needs ({ frames := 2, cells := 0, slots := 0, locals := 90 })).room s m ([.ref h0, .int p0, .int p1, .int p2, .int p3, .int p4] : List Value).toArray below meth c H locs 0 0 (MQ below (va_Qi (fun (r : Int32) (_ : Unit) => True) (fun (_ : Unit) (t : State) => va_P (dC, dI) vwCl [kx_5 h0 g_row m_n m_slots 0 g_many g_loss g_less g_voteValue g_voteNumber g_allValue g_allNumber m_allMany g_nodeL g_nodeR m_nodes g_part m_partMany g_wasMany g_wasLoss g_wasValue g_wasNumber g_path m_pathMany g_heavyValue g_heavyTimes m_heavyMany g_fewest g_which g_met m_mostMet, kx_a g_row cyI 160 f] t.heap ∧ va_K (dC, dI) vwCl [(cyI, .int)] t ∧ va_D A [kx_5 h0 g_row m_n m_slots 0 g_many g_loss g_less g_voteValue g_voteNumber g_allValue g_allNumber m_allMany g_nodeL g_nodeR m_nodes g_part m_partMany g_wasMany g_wasLoss g_wasValue g_wasNumber g_path m_pathMany g_heavyValue g_heavyTimes m_heavyMany g_fewest g_which g_met m_mostMet, kx_a g_row cyI 160 f]) A) ([.ref h0, .int p0, .int p1, .int p2, .int p3, .int p4] : List Value).toArray s 0 0 A) (F0 m 45 ls []) := by
                intro n
                induction n with
                | zero => intro i LP1_h0 LP1_h1 hn; exact absurd hn (Nat.not_lt_zero _)
                | succ n ih1 =>
                  intro i LP1_h0 LP1_h1 hn1 H locs hP hD hS ls hl
                  refine lv_iload hx hb dX5_needs_45 (lv_at hl 1 rfl) ?_
                  refine lv_iload hx hb dX5_needs_47 (lv_at hl 0 rfl) ?_
                  refine lv_iadd hx hb dX5_needs_49 ?_
                  refine lv_topi (fun y_8 ey_8 => ?_)
                  have i_8 : y_8.toInt = r_7.toInt + i.toInt := ki_add ey_8 rfl rfl (by omega) (by omega)
                  refine lv_iload_n hx hb dX5_needs_50 rfl (lv_at hl 5 rfl) ?_
                  refine lv_iload_n hx hb dX5_needs_51 rfl (lv_at hl 4 rfl) ?_
                  refine lv_isub hx hb dX5_needs_52 ?_
                  refine lv_topi (fun y_9 ey_9 => ?_)
                  have i_9 : y_9.toInt = p2.toInt - p1.toInt := ki_sub ey_9 rfl rfl (om_168 w_3.2.1) (om_169 a1 w_3.1 w_3.2.2)
                  refine lv_icmp_gt (tgt := 82) hx hb dX5_needs_53 (by decide) (fun c_10 => ?_) (fun c_10 => ?_)
                  · have i_10 : y_9.toInt < y_8.toInt := kc_lt c_10
                    refine lv_bipush (v := (-2)) hx hb dX5_needs_82 (by decide) ?_
                    have hP9 := hP
                    have hD9 := hD
                    have hK9 := hK
                    exact W.iret (v := (-2)) hx hb hr (hlocks := hlocks) (fun t ht hW => ⟨⟨(-2), (), rfl, trivial, by rw [ht]; exact hP9, va_K.moved hW.alike hK9, hD9⟩, hS.F ht⟩) hS.2.2 dX5_needs_84
                  · have i_10 : y_8.toInt ≤ y_9.toInt := kc_nlt c_10
                    refine lv_iload hx hb dX5_needs_56 (lv_at hl 1 rfl) ?_
                    refine lv_iload hx hb dX5_needs_58 (lv_at hl 0 rfl) ?_
                    refine lv_iadd hx hb dX5_needs_60 ?_
                    refine lv_topi (fun y_11 ey_11 => ?_)
                    have i_11 : y_11.toInt = r_7.toInt + i.toInt := ki_add ey_11 rfl rfl (by omega) (om_289 a1 w_3.1 w_3.2.2 i_8 i_9 i_10)
                    refine lv_iload hx hb dX5_needs_61 (lv_at hl 7 rfl) ?_
                    refine lv_imul hx hb dX5_needs_63 ?_
                    refine lv_topi (fun y_12 ey_12 => ?_)
                    refine lv_iload hx hb dX5_needs_64 (lv_at hl 6 rfl) ?_
                    refine lv_iload_n hx hb dX5_needs_66 rfl (lv_at hl 5 rfl) ?_
                    refine lv_iload_n hx hb dX5_needs_67 rfl (lv_at hl 4 rfl) ?_
                    refine lv_isub hx hb dX5_needs_68 ?_
                    refine lv_topi (fun y_13 ey_13 => ?_)
                    have i_13 : y_13.toInt = p2.toInt - p1.toInt := ki_sub ey_13 rfl rfl (om_168 w_3.2.1) (om_169 a1 w_3.1 w_3.2.2)
                    refine lv_imul hx hb dX5_needs_69 ?_
                    refine lv_topi (fun y_14 ey_14 => ?_)
                    refine lv_icmp_le (tgt := 76) hx hb dX5_needs_70 (by decide) (fun c_15 => ?_) (fun c_15 => ?_)
                    · have i_15 : y_12.toInt ≤ y_14.toInt := kc_le c_15
                      obtain ⟨x_16, ex_16⟩ : ∃ y : Int32, y = i + 1 := ⟨_, rfl⟩
                      have i_16 : x_16.toInt = i.toInt + 1 := ki_add ex_16 rfl rfl (om_13 LP1_h0) (om_290 a1 w_3.1 w_3.2.2 LP1_h1)
                      refine lv_iinc (v := x_16) (lv' := [(7, .int x_16), (6, .int r_7), (0, .ref h0), (1, .int p0), (2, .int p1), (3, .int p2), (4, .int p3), (5, .int p4)]) hx hb dX5_needs_76 hl (k := 0) rfl (by rw [ex_16]; rfl) (by decide) rfl (fun ls hl => ?_)
                      refine lv_goto (tgt := 45) hx hb dX5_needs_79 (by decide) ?_
                      exact ih1 x_16 (om_34 LP1_h0 i_16) (by omega) (by omega) _ _ hP hD hS ls (lv_sub hl [0, 1, 2, 3, 4, 5, 6, 7] rfl)
                    · have i_15 : y_14.toInt < y_12.toInt := kc_nle c_15
                      refine lv_iload hx hb dX5_needs_73 (lv_at hl 0 rfl) ?_
                      have hP9 := hP
                      have hD9 := hD
                      have hK9 := hK
                      exact W.iret (v := i) hx hb hr (hlocks := hlocks) (fun t ht hW => ⟨⟨i, (), rfl, trivial, by rw [ht]; exact hP9, va_K.moved hW.alike hK9, hD9⟩, hS.F ht⟩) hS.2.2 dX5_needs_75
              have k_17 : (0 : Int32).toInt = 0 := rfl
              exact LP1 ((p2.toInt - p1.toInt + 1 - 0 : Int).toNat + 1) 0 om_35 (om_292 w_3.2.1) (Nat.lt_succ_self _) _ _ hP hD hS ls (lv_sub hl [0, 1, 2, 3, 4, 5, 6, 7] rfl)
            · exact absurd c_6 (by decide)
          · have w_5 : (p3.toInt < 1 ∨ p4.toInt < p3.toInt ∨ 999 < p4.toInt) := w_5
            refine lv_if_ne (tgt := 33) hx hb dX5_needs_28 (by decide) (fun c_18 => ?_) (fun c_18 => ?_)
            · exact absurd c_18 (by decide)
            · refine lv_iconst (v := (-1)) hx hb dX5_needs_31 (by decide) ?_
              have hP9 := hP
              have hD9 := hD
              have hK9 := hK
              exact W.iret (v := (-1)) hx hb hr (hlocks := hlocks) (fun t ht hW => ⟨⟨(-1), (), rfl, trivial, by rw [ht]; exact hP9, va_K.moved hW.alike hK9, hD9⟩, hS.F ht⟩) hS.2.2 dX5_needs_32
      · have w_3 : (p1.toInt < 0 ∨ p2.toInt ≤ p1.toInt ∨ m_n.toInt < p2.toInt) := w_3
        refine lv_if_eq (tgt := 31) hx hb dX5_needs_18 (by decide) (fun c_19 => ?_) (fun c_19 => ?_)
        · refine lv_iconst (v := (-1)) hx hb dX5_needs_31 (by decide) ?_
          have hP9 := hP
          have hD9 := hD
          have hK9 := hK
          exact W.iret (v := (-1)) hx hb hr (hlocks := hlocks) (fun t ht hW => ⟨⟨(-1), (), rfl, trivial, by rw [ht]; exact hP9, va_K.moved hW.alike hK9, hD9⟩, hS.F ht⟩) hS.2.2 dX5_needs_32
        · exact absurd c_19 (by decide)
  · have w_1 : (p0.toInt < -32768 ∨ 32767 < p0.toInt) := w_1
    refine lv_if_eq (tgt := 31) hx hb dX5_needs_9 (by decide) (fun c_20 => ?_) (fun c_20 => ?_)
    · refine lv_iconst (v := (-1)) hx hb dX5_needs_31 (by decide) ?_
      have hP9 := hP
      have hD9 := hD
      have hK9 := hK
      exact W.iret (v := (-1)) hx hb hr (hlocks := hlocks) (fun t ht hW => ⟨⟨(-1), (), rfl, trivial, by rw [ht]; exact hP9, va_K.moved hW.alike hK9, hD9⟩, hS.F ht⟩) hS.2.2 dX5_needs_32
    · exact absurd c_20 (by decide)



theorem upd_at (f : Nat → Int32) (k : Nat) (x : Int32) : upd f k x k = x := by
  unfold upd; rw [if_pos rfl]
theorem upd_ne {f : Nat → Int32} {k j : Nat} {x : Int32} (h : ¬ j = k) : upd f k x j = f j := by
  unfold upd; rw [if_neg h]
def mj_lea (V N : Nat → Int32) (i j : Nat) : Prop := (N j).toInt < (N i).toInt ∨ ((N i).toInt = (N j).toInt ∧ (V i).toInt ≤ (V j).toInt)
def mj_vs (V N : Nat → Int32) (o m : Nat) (μ : Int32 → Int) : Prop :=
  (∀ j : Nat, j < m → (N (o + j)).toInt = μ (V (o + j)) ∧ 0 < μ (V (o + j))) ∧
  (∀ i j : Nat, i < m → j < m → V (o + i) = V (o + j) → i = j) ∧
  (∀ v : Int32, ¬ μ v = 0 → ∃ j : Nat, j < m ∧ V (o + j) = v)
def mj_srt (V N : Nat → Int32) (o m : Nat) : Prop := ∀ i j : Nat, i < j → j < m → mj_lea V N (o + i) (o + j)
def mj_addR (V N : Nat → Int32) (m : Nat) (v n : Int32) (V2 N2 : Nat → Int32) (m2 : Nat) : Prop :=
  (∃ k : Nat, k < m ∧ V k = v ∧ V2 = V ∧ N2 = upd N k (N k + n) ∧ m2 = m) ∨
  ((∀ k : Nat, k < m → ¬ V k = v) ∧ V2 = upd V m v ∧ N2 = upd N m n ∧ m2 = m + 1)
theorem mj_vs_congr {V N : Nat → Int32} {o m : Nat} {μ μ2 : Int32 → Int} (h : mj_vs V N o m μ) (e : ∀ v, μ v = μ2 v) : mj_vs V N o m μ2 := by
  have : μ = μ2 := funext e
  subst this
  exact h
theorem mj_vs_zero (V N : Nat → Int32) (o : Nat) : mj_vs V N o 0 (fun _ => 0) :=
  ⟨fun j h => absurd h (Nat.not_lt_zero j), fun i j h => absurd h (Nat.not_lt_zero i), fun v h => absurd rfl h⟩
theorem mj_vs_nn {V N : Nat → Int32} {o m : Nat} {μ : Int32 → Int} (h : mj_vs V N o m μ) (v : Int32) : 0 ≤ μ v := by
  by_cases h0 : μ v = 0
  · omega
  · obtain ⟨j, hj, rfl⟩ := h.2.2 v h0
    have := (h.1 j hj).2
    omega
theorem mj_vs_add {V N V2 N2 : Nat → Int32} {m m2 : Nat} {μ : Int32 → Int} {v n : Int32} (h : mj_vs V N 0 m μ) (hn : 0 < n.toInt) (hb : μ v + n.toInt ≤ 2147483647) (ha : mj_addR V N m v n V2 N2 m2) : mj_vs V2 N2 0 m2 (fun w => μ w + (if w = v then n.toInt else 0)) := by
  obtain ⟨h1, h2, h3⟩ := h
  simp only [Nat.zero_add] at h1 h2 h3
  rcases ha with ⟨k, hk, hv, e1, e2, e3⟩ | ⟨hno, e1, e2, e3⟩
  · subst e1; subst e2; subst e3
    have hk1 := h1 k hk
    rw [hv] at hk1
    have hs : (N k + n).toInt = (N k).toInt + n.toInt := ki_add rfl rfl rfl (by omega) (by omega)
    refine ⟨?_, ?_, ?_⟩
    · intro j hj
      simp only [Nat.zero_add]
      by_cases hjk : j = k
      · subst hjk
        rw [upd_at, hs, if_pos hv, hv]
        omega
      · have hne : ¬ V2 j = v := fun e => hjk (h2 j k hj hk (e.trans hv.symm))
        rw [upd_ne hjk, if_neg hne]
        have := h1 j hj
        omega
    · intro i j hi hj e
      simp only [Nat.zero_add] at e
      exact h2 i j hi hj e
    · intro w hw
      simp only [Nat.zero_add]
      by_cases hwv : w = v
      · exact ⟨k, hk, hv.trans hwv.symm⟩
      · exact h3 w (fun e => hw (by simp only [if_neg hwv]; omega))
  · subst e1; subst e2; subst e3
    have hz : μ v = 0 := by
      by_cases h0 : μ v = 0
      · exact h0
      · obtain ⟨j, hj, e⟩ := h3 v h0
        exact absurd e (hno j hj)
    refine ⟨?_, ?_, ?_⟩
    · intro j hj
      simp only [Nat.zero_add]
      by_cases hjm : j = m
      · subst hjm
        rw [upd_at, upd_at, if_pos rfl]
        omega
      · have hj2 : j < m := by omega
        rw [upd_ne hjm, upd_ne hjm, if_neg (hno j hj2)]
        have := h1 j hj2
        omega
    · intro i j hi hj e
      simp only [Nat.zero_add] at e
      by_cases him : i = m
      · by_cases hjm : j = m
        · omega
        · subst him
          rw [upd_at, upd_ne hjm] at e
          exact absurd e.symm (hno j (by omega))
      · by_cases hjm : j = m
        · subst hjm
          rw [upd_at, upd_ne him] at e
          exact absurd e (hno i (by omega))
        · rw [upd_ne him, upd_ne hjm] at e
          exact h2 i j (by omega) (by omega) e
    · intro w hw
      simp only [Nat.zero_add]
      by_cases hwv : w = v
      · exact ⟨m, by omega, by rw [upd_at]; exact hwv.symm⟩
      · obtain ⟨j, hj, e⟩ := h3 w (fun e => hw (by simp only [if_neg hwv]; omega))
        exact ⟨j, by omega, by rw [upd_ne (by omega)]; exact e⟩
def mj_pm (V N : Nat → Int32) (o : Nat) : Nat → Int32 → Int
  | 0, _ => 0
  | i + 1, v => mj_pm V N o i v + (if v = V (o + i) then (N (o + i)).toInt else 0)
theorem mj_pm_eq {V N : Nat → Int32} {o m : Nat} {μ : Int32 → Int} (h : mj_vs V N o m μ) (v : Int32) : ∀ i : Nat, i ≤ m → ((∃ j : Nat, j < i ∧ V (o + j) = v) → mj_pm V N o i v = μ v) ∧ ((¬ ∃ j : Nat, j < i ∧ V (o + j) = v) → mj_pm V N o i v = 0)
  | 0, _ => ⟨fun ⟨j, hj, _⟩ => absurd hj (Nat.not_lt_zero j), fun _ => rfl⟩
  | i + 1, hi => by
    have ih := mj_pm_eq h v i (by omega)
    by_cases hv : v = V (o + i)
    · have hno : ¬ ∃ j : Nat, j < i ∧ V (o + j) = v := fun ⟨j, hj, e⟩ => by
        have := h.2.1 j i (by omega) (by omega) (e.trans hv)
        omega
      have h0 := ih.2 hno
      refine ⟨fun _ => ?_, fun hn => absurd ⟨i, Nat.lt_succ_self i, hv.symm⟩ hn⟩
      simp only [mj_pm]
      rw [h0, if_pos hv, (h.1 i (by omega)).1, hv]
      omega
    · refine ⟨fun ⟨j, hj, e⟩ => ?_, fun hn => ?_⟩
      · have hji : j < i := by
          rcases Nat.lt_or_eq_of_le (Nat.le_of_lt_succ hj) with h9 | h9
          · exact h9
          · subst h9
            exact absurd e.symm hv
        simp only [mj_pm]
        rw [ih.1 ⟨j, hji, e⟩, if_neg hv]
        omega
      · simp only [mj_pm]
        rw [ih.2 (fun ⟨j, hj, e⟩ => hn ⟨j, by omega, e⟩), if_neg hv]
        omega
theorem mj_pm_new {V N : Nat → Int32} {o m i : Nat} {μ : Int32 → Int} (h : mj_vs V N o m μ) (hi : i < m) : mj_pm V N o i (V (o + i)) = 0 :=
  (mj_pm_eq h _ i (by omega)).2 (fun ⟨j, hj, e⟩ => by have := h.2.1 j i (by omega) hi e; omega)
theorem mj_pm_full {V N : Nat → Int32} {o m : Nat} {μ : Int32 → Int} (h : mj_vs V N o m μ) (v : Int32) : mj_pm V N o m v = μ v := by
  have hq := mj_pm_eq h v m (Nat.le_refl m)
  by_cases h0 : ∃ j : Nat, j < m ∧ V (o + j) = v
  · exact hq.1 h0
  · rw [hq.2 h0]
    by_cases h1 : μ v = 0
    · exact h1.symm
    · exact absurd (h.2.2 v h1) h0
theorem mj_step {V N gv gn gv2 gn2 : Nat → Int32} {o m i q q2 am am2 : Nat} {μ ν : Int32 → Int} {v n : Int32} (h : mj_vs V N o m μ) (hi : i < m) (hq : q = o + i) (hq2 : q2 = o + i) (ev : v = V q) (en : n = N q2) (hb : ν (V (o + i)) + μ (V (o + i)) ≤ 2147483647) (hg : mj_vs gv gn 0 am (fun w => ν w + mj_pm V N o i w)) (ha : mj_addR gv gn am v n gv2 gn2 am2) : mj_vs gv2 gn2 0 am2 (fun w => ν w + mj_pm V N o (i + 1) w) := by
  subst hq; subst hq2; subst ev; subst en
  have h1 := h.1 i hi
  have h0 := mj_pm_new h hi
  refine mj_vs_congr (mj_vs_add hg (by omega) (by simp only [h0]; omega) ha) (fun w => ?_)
  simp only [mj_pm]
  omega
theorem mj_lea_trans {V N : Nat → Int32} {i j k : Nat} (h : mj_lea V N i j) (h2 : mj_lea V N j k) : mj_lea V N i k := by
  unfold mj_lea at *
  omega
def mj_ex (f : Nat → Int32) (i k : Nat) : Nat → Int32 := upd (upd f i (f k)) k (f i)
theorem mj_ex_i {f : Nat → Int32} {i k : Nat} : mj_ex f i k i = f k := by
  unfold mj_ex
  by_cases h : i = k
  · subst h; rw [upd_at]
  · rw [upd_ne h, upd_at]
theorem mj_ex_k {f : Nat → Int32} {i k : Nat} : mj_ex f i k k = f i := by
  unfold mj_ex
  rw [upd_at]
theorem mj_ex_o {f : Nat → Int32} {i k j : Nat} (h1 : ¬ j = i) (h2 : ¬ j = k) : mj_ex f i k j = f j := by
  unfold mj_ex
  rw [upd_ne h2, upd_ne h1]
/-- where an exchange takes a place from -/
def mj_sw (i k j : Nat) : Nat := if j = i then k else if j = k then i else j
theorem mj_ex_sw (f : Nat → Int32) (i k j : Nat) : mj_ex f i k j = f (mj_sw i k j) := by
  unfold mj_sw
  by_cases h1 : j = i
  · subst h1; rw [if_pos rfl, mj_ex_i]
  · by_cases h2 : j = k
    · subst h2; rw [if_neg h1, if_pos rfl, mj_ex_k]
    · rw [if_neg h1, if_neg h2, mj_ex_o h1 h2]
theorem mj_sw_lt {i k j m : Nat} (hi : i < m) (hk : k < m) (hj : j < m) : mj_sw i k j < m := by
  unfold mj_sw
  split
  · exact hk
  · split
    · exact hi
    · exact hj
theorem mj_sw_sw (i k j : Nat) : mj_sw i k (mj_sw i k j) = j := by
  unfold mj_sw
  by_cases h1 : j = i
  · subst h1
    rw [if_pos rfl]
    by_cases h : k = j
    · rw [if_pos h, h]
    · rw [if_neg h, if_pos rfl]
  · by_cases h2 : j = k
    · subst h2
      rw [if_neg h1, if_pos rfl, if_pos rfl]
    · rw [if_neg h1, if_neg h2, if_neg h1, if_neg h2]
theorem mj_vs_ex {V N : Nat → Int32} {m i k : Nat} {μ : Int32 → Int} (hi : i < m) (hk : k < m) (h : mj_vs V N 0 m μ) : mj_vs (mj_ex V i k) (mj_ex N i k) 0 m μ := by
  obtain ⟨h1, h2, h3⟩ := h
  simp only [Nat.zero_add] at h1 h2 h3
  refine ⟨?_, ?_, ?_⟩
  · intro j hj
    simp only [Nat.zero_add, mj_ex_sw]
    exact h1 _ (mj_sw_lt hi hk hj)
  · intro a b ha hb e
    simp only [Nat.zero_add, mj_ex_sw] at e
    have := h2 _ _ (mj_sw_lt hi hk ha) (mj_sw_lt hi hk hb) e
    rw [← mj_sw_sw i k a, this, mj_sw_sw]
  · intro v hv
    obtain ⟨j, hj, e⟩ := h3 v hv
    refine ⟨mj_sw i k j, mj_sw_lt hi hk hj, ?_⟩
    simp only [Nat.zero_add, mj_ex_sw, mj_sw_sw]
    exact e
/-- the sort by exchanges: all before i are ahead of all behind them, i is ahead of all up to k -/
def mj_so (V N : Nat → Int32) (m i k : Nat) : Prop := (∀ x y : Nat, x < i → x < y → y < m → mj_lea V N x y) ∧ (∀ y : Nat, i < y → y < k → mj_lea V N i y)
theorem mj_so_next {V N : Nat → Int32} {m i k : Nat} (h : mj_so V N m i k) (hk : m ≤ k) : mj_so V N m (i + 1) (i + 2) := by
  refine ⟨fun x y hx hxy hy => ?_, fun y h1 h2 => by omega⟩
  rcases Nat.lt_or_eq_of_le (Nat.le_of_lt_succ hx) with h9 | h9
  · exact h.1 x y h9 hxy hy
  · subst h9
    exact h.2 y hxy (by omega)
theorem mj_so_keep {V N : Nat → Int32} {m i k : Nat} (h : mj_so V N m i k) (hl : mj_lea V N i k) : mj_so V N m i (k + 1) := by
  refine ⟨h.1, fun y h1 h2 => ?_⟩
  rcases Nat.lt_or_eq_of_le (Nat.le_of_lt_succ h2) with h9 | h9
  · exact h.2 y h1 h9
  · subst h9; exact hl
theorem mj_so_swap {V N : Nat → Int32} {m i k : Nat} (hik : i < k) (hk : k < m) (h : mj_so V N m i k) (hl : mj_lea V N k i) : mj_so (mj_ex V i k) (mj_ex N i k) m i (k + 1) := by
  have e : ∀ x y : Nat, mj_lea (mj_ex V i k) (mj_ex N i k) x y ↔ mj_lea V N (mj_sw i k x) (mj_sw i k y) := fun x y => by
    unfold mj_lea
    simp only [mj_ex_sw]
  have si : mj_sw i k i = k := by unfold mj_sw; rw [if_pos rfl]
  have sk : mj_sw i k k = i := by unfold mj_sw; rw [if_neg (by omega), if_pos rfl]
  have so : ∀ y : Nat, ¬ y = i → ¬ y = k → mj_sw i k y = y := fun y h1 h2 => by unfold mj_sw; rw [if_neg h1, if_neg h2]
  refine ⟨fun x y hx hxy hy => (e x y).mpr ?_, fun y h1 h2 => (e i y).mpr ?_⟩
  · rw [so x (by omega) (by omega)]
    by_cases hyi : y = i
    · subst hyi; rw [si]; exact h.1 x k hx (by omega) hk
    · by_cases hyk : y = k
      · subst hyk; rw [sk]; exact h.1 x i hx hx (by omega)
      · rw [so y hyi hyk]; exact h.1 x y hx hxy hy
  · rw [si]
    by_cases hyk : y = k
    · subst hyk; rw [sk]; exact hl
    · rw [so y (by omega) hyk]; exact mj_lea_trans hl (h.2 y h1 (by omega))
theorem mj_so_end {V N : Nat → Int32} {m i k : Nat} (h : mj_so V N m i k) (hi : m ≤ i) : mj_srt V N 0 m := by
  intro x y hxy hy
  rw [Nat.zero_add, Nat.zero_add]
  exact h.1 x y (by omega) hxy hy
/-- two summaries together, by slots K -/
def mj_tog (K : Nat) (μa μb μ : Int32 → Int) (c : Int32) : Prop := ∃ (V N : Nat → Int32) (m : Nat), mj_vs V N 0 m (fun v => μa v + μb v) ∧ mj_srt V N 0 m ∧ ((m ≤ K ∧ c.toInt = 0) ∨ (K < m ∧ c = N K)) ∧ ∀ v, μ v = if c.toInt < μa v + μb v then μa v + μb v - c.toInt else 0
def mj_wr (K : Nat) (V N : Nat → Int32) (c : Int) (o lf k : Nat) (vv vn wv wn : Nat → Int32) : Prop :=
  lf ≤ k ∧ lf ≤ K ∧ (∀ j : Nat, j < lf → wv (o + j) = V j ∧ (wn (o + j)).toInt = (N j).toInt - c ∧ c < (N j).toInt) ∧ (∀ j : Nat, lf ≤ j → j < k → (N j).toInt ≤ c) ∧ (∀ q : Nat, (q < o ∨ o + 6 ≤ q) → wv q = vv q ∧ wn q = vn q)
theorem mj_wr_0 (K : Nat) (V N : Nat → Int32) (c : Int) (o : Nat) (vv vn : Nat → Int32) : mj_wr K V N c o 0 0 vv vn vv vn :=
  ⟨Nat.le_refl 0, Nat.zero_le K, fun j h => absurd h (Nat.not_lt_zero j), fun j _ h => absurd h (Nat.not_lt_zero j), fun q _ => ⟨rfl, rfl⟩⟩
theorem mj_wr_skip {K : Nat} {V N vv vn wv wn : Nat → Int32} {c : Int} {o lf k k2 : Nat} (h : mj_wr K V N c o lf k vv vn wv wn) (hk : (N k).toInt ≤ c) (e : k2 = k + 1) : mj_wr K V N c o lf k2 vv vn wv wn := by
  subst e
  obtain ⟨h1, h2, h3, h4, h5⟩ := h
  refine ⟨by omega, h2, h3, fun j ha hb => ?_, h5⟩
  rcases Nat.lt_or_eq_of_le (Nat.le_of_lt_succ hb) with h9 | h9
  · exact h4 j ha h9
  · subst h9; exact hk
theorem mj_wr_put {V N vv vn wv wn : Nat → Int32} {c : Int} {o lf k k2 lf2 q q2 m K : Nat} {x y : Int32} (h : mj_wr K V N c o lf k vv vn wv wn) (hs : mj_srt V N 0 m) (hkm : k < m) (hk : c < (N k).toInt) (hK : K < m → c = (N K).toInt) (hK6 : K ≤ 6) (ex : x = V k) (ey : y.toInt = (N k).toInt - c) (e2 : k2 = k + 1) (el : lf2 = lf + 1) (eq : q = o + lf) (eq2 : q2 = o + lf) : mj_wr K V N c o lf2 k2 vv vn (upd wv q x) (upd wn q2 y) := by
  obtain ⟨h1, h2, h3, h4, h5⟩ := h
  have hlk : lf = k := by
    rcases Nat.lt_or_eq_of_le h1 with h9 | h9
    · have a := h4 lf (Nat.le_refl lf) h9
      have b := hs lf k h9 hkm
      unfold mj_lea at b
      simp only [Nat.zero_add] at b
      omega
    · exact h9
  have hk6 : k < K := by
    rcases Nat.lt_or_ge k K with h9 | h9
    · omega
    · rcases Nat.lt_or_ge K m with h8 | h8
      · have a := hK h8
        rcases Nat.lt_or_eq_of_le h9 with h7 | h7
        · have b := hs K k h7 hkm
          unfold mj_lea at b
          simp only [Nat.zero_add] at b
          omega
        · subst h7; omega
      · omega
  subst hlk; subst e2; subst el; subst eq; subst eq2; subst ex
  refine ⟨Nat.le_refl _, by omega, fun j hj => ?_, fun j ha hb => by omega, fun q hq => ?_⟩
  · by_cases hjl : j = lf
    · subst hjl
      rw [upd_at, upd_at]
      exact ⟨rfl, ey, hk⟩
    · rw [upd_ne (by omega), upd_ne (by omega)]
      exact h3 j (by omega)
  · rw [upd_ne (by omega), upd_ne (by omega)]
    exact h5 q hq
theorem mj_wr_end {K : Nat} {V N vv vn wv wn : Nat → Int32} {c : Int} {o lf k m : Nat} {μ : Int32 → Int} (h : mj_wr K V N c o lf k vv vn wv wn) (hk : k = m) (hv : mj_vs V N 0 m μ) (hs : mj_srt V N 0 m) (hc : 0 ≤ c) : mj_vs wv wn o lf (fun v => if c < μ v then μ v - c else 0) ∧ mj_srt wv wn o lf := by
  subst hk
  obtain ⟨h1, h2, h3, h4, h5⟩ := h
  obtain ⟨a1, a2, a3⟩ := hv
  simp only [Nat.zero_add] at a1 a2 a3
  refine ⟨⟨?_, ?_, ?_⟩, ?_⟩
  · intro j hj
    have x := h3 j hj
    have y := a1 j (by omega)
    dsimp only
    rw [x.1, if_pos (by omega)]
    omega
  · intro i j hi hj e
    rw [(h3 i hi).1, (h3 j hj).1] at e
    exact a2 i j (by omega) (by omega) e
  · intro v hv
    dsimp only at hv
    by_cases hcv : c < μ v
    · obtain ⟨j, hj, e⟩ := a3 v (by omega)
      have y := a1 j hj
      rw [e] at y
      have hjl : j < lf := by
        rcases Nat.lt_or_ge j lf with h9 | h9
        · exact h9
        · have := h4 j h9 hj
          omega
      exact ⟨j, hjl, by rw [(h3 j hjl).1]; exact e⟩
    · exact absurd (if_neg hcv) hv
  · intro i j hij hj
    have x := h3 i (by omega)
    have y := h3 j hj
    have z := hs i j hij (by omega)
    unfold mj_lea at z ⊢
    simp only [Nat.zero_add] at z
    rw [x.1, y.1]
    omega

def mj_z : Int32 → Int := fun _ => 0
theorem mj_vs_start {V N V2 N2 : Nat → Int32} {o m i : Nat} (hm : m = 0) (hi : i = 0) : mj_vs V N 0 m (fun w => mj_z w + mj_pm V2 N2 o i w) := by
  subst hm; subst hi
  exact mj_vs_congr (mj_vs_zero V N 0) (fun w => rfl)
theorem mj_next {V N V2 N2 gv gn : Nat → Int32} {o m o2 i j am : Nat} {μ : Int32 → Int} (h : mj_vs gv gn 0 am (fun w => mj_z w + mj_pm V N o i w)) (va : mj_vs V N o m μ) (e : i = m) (e2 : j = 0) : mj_vs gv gn 0 am (fun w => μ w + mj_pm V2 N2 o2 j w) := by
  subst e; subst e2
  refine mj_vs_congr h (fun w => ?_)
  rw [mj_pm_full va]
  show (0 : Int) + μ w = μ w + 0
  omega
theorem mj_done {V N gv gn : Nat → Int32} {o m i am : Nat} {μ ν : Int32 → Int} (h : mj_vs gv gn 0 am (fun w => ν w + mj_pm V N o i w)) (vb : mj_vs V N o m μ) (e : i = m) : mj_vs gv gn 0 am (fun w => ν w + μ w) := by
  subst e
  exact mj_vs_congr h (fun w => by rw [mj_pm_full vb])
theorem mj_hb1 {μa μb : Int32 → Int} (bd : ∀ v : Int32, μa v + μb v ≤ 1000000) (hn : ∀ v : Int32, 0 ≤ μb v) (v : Int32) : mj_z v + μa v ≤ 2147483647 := by
  have h1 := bd v
  have h2 := hn v
  show (0 : Int) + μa v ≤ 2147483647
  omega
theorem mj_hb2 {μa μb : Int32 → Int} (bd : ∀ v : Int32, μa v + μb v ≤ 1000000) (v : Int32) : μa v + μb v ≤ 2147483647 := by
  have h1 := bd v
  omega
theorem mj_bd {V N : Nat → Int32} {m : Nat} {μ : Int32 → Int} {B : Int} (h : mj_vs V N 0 m μ) (hb : ∀ v : Int32, μ v ≤ B) (j : Nat) (hj : j < m) : 0 < (N j).toInt ∧ (N j).toInt ≤ B := by
  have h1 := h.1 j hj
  simp only [Nat.zero_add] at h1
  have := hb (V j)
  omega
theorem mj_so_0 (V N : Nat → Int32) {m i k : Nat} (hi : i = 0) (hk : k ≤ 1) : mj_so V N m i k :=
  ⟨fun x y hx => absurd hx (by omega), fun y h1 h2 => absurd h1 (by omega)⟩
theorem mj_tog_nn {K : Nat} {μa μb μ : Int32 → Int} {c : Int32} (h : mj_tog K μa μb μ c) : 0 ≤ c.toInt := by
  obtain ⟨V, N, m, hv, hs, hc, -⟩ := h
  rcases hc with ⟨-, e⟩ | ⟨hk, e⟩
  · omega
  · have := hv.1 K hk
    simp only [Nat.zero_add] at this
    rw [e]
    omega
theorem mj_tog_le {K : Nat} {μa μb μ : Int32 → Int} {c : Int32} (h : mj_tog K μa μb μ c) (ha : ∀ v, 0 ≤ μa v) (hb : ∀ v, 0 ≤ μb v) (v : Int32) : 0 ≤ μ v ∧ μ v ≤ μa v + μb v := by
  have hc := mj_tog_nn h
  obtain ⟨V, N, m, -, -, -, e⟩ := h
  have h1 := ha v
  have h2 := hb v
  rw [e v]
  split <;> omega
theorem mj_vs_seg {V N V2 N2 : Nat → Int32} {o m : Nat} {μ : Int32 → Int} (h : mj_vs V N o m μ) (e : ∀ j : Nat, j < m → V2 (o + j) = V (o + j) ∧ N2 (o + j) = N (o + j)) : mj_vs V2 N2 o m μ := by
  obtain ⟨h1, h2, h3⟩ := h
  refine ⟨fun j hj => ?_, fun i j hi hj q => ?_, fun v hv => ?_⟩
  · rw [(e j hj).1, (e j hj).2]; exact h1 j hj
  · rw [(e i hi).1, (e j hj).1] at q; exact h2 i j hi hj q
  · obtain ⟨j, hj, q⟩ := h3 v hv
    exact ⟨j, hj, by rw [(e j hj).1]; exact q⟩
theorem mj_srt_seg {V N V2 N2 : Nat → Int32} {o m : Nat} (h : mj_srt V N o m) (e : ∀ j : Nat, j < m → V2 (o + j) = V (o + j) ∧ N2 (o + j) = N (o + j)) : mj_srt V2 N2 o m := by
  intro i j hij hj
  have := h i j hij hj
  unfold mj_lea at this ⊢
  rw [(e i (by omega)).1, (e i (by omega)).2, (e j hj).1, (e j hj).2]
  exact this

def mj_cp (vv vn wv wn : Nat → Int32) (a b k : Nat) : Prop := (∀ j : Nat, j < k → wv (6 * b + j) = vv (6 * a + j) ∧ wn (6 * b + j) = vn (6 * a + j)) ∧ (∀ q : Nat, (q < 6 * b ∨ 6 * b + k ≤ q) → wv q = vv q ∧ wn q = vn q)
theorem mj_cp_0 (vv vn : Nat → Int32) (a b : Nat) {k : Nat} (hk : k = 0) : mj_cp vv vn vv vn a b k := ⟨fun j h => absurd h (by omega), fun q _ => ⟨rfl, rfl⟩⟩
theorem mj_cp_step {vv vn wv wn : Nat → Int32} {a b k k2 q1 q2 q3 q4 : Nat} {x y : Int32} (h : mj_cp vv vn wv wn a b k) (hk : k < 6) (e1 : q1 = 6 * b + k) (e2 : q2 = 6 * a + k) (e3 : q3 = 6 * b + k) (e4 : q4 = 6 * a + k) (ex : x = wv q2) (ey : y = wn q4) (ek : k2 = k + 1) : mj_cp vv vn (upd wv q1 x) (upd wn q3 y) a b k2 := by
  subst e1; subst e2; subst e3; subst e4; subst ex; subst ey; subst ek
  have r := h.2 (6 * a + k) (by omega)
  refine ⟨fun j hj => ?_, fun q hq => ?_⟩
  · by_cases e : j = k
    · subst e
      rw [upd_at, upd_at]
      exact r
    · rw [upd_ne (by omega), upd_ne (by omega)]
      exact h.1 j (by omega)
  · rw [upd_ne (by omega), upd_ne (by omega)]
    exact h.2 q (by omega)
/-! the parts of a range: how many of the nodes before k are, where the next one begins -/
def mj_pb (nl nr : Nat → Int32) (l r : Int) : Nat → Int
  | 0 => l
  | k + 1 => if (nl k).toInt = mj_pb nl nr l r k ∧ (nr k).toInt ≤ r then (nr k).toInt else mj_pb nl nr l r k
def mj_isp (nl nr : Nat → Int32) (l r : Int) (k : Nat) : Prop := (nl k).toInt = mj_pb nl nr l r k ∧ (nr k).toInt ≤ r
def mj_pq (nl nr : Nat → Int32) (l r : Int) : Nat → Nat
  | 0 => 0
  | k + 1 => mj_pq nl nr l r k + (if (nl k).toInt = mj_pb nl nr l r k ∧ (nr k).toInt ≤ r then 1 else 0)
/-- the first of these lie in gp -/
def mj_pa (nl nr : Nat → Int32) (l r : Int) (gp : Nat → Int32) (k : Nat) : Prop := ∀ j : Nat, j < k → mj_isp nl nr l r j → (gp (mj_pq nl nr l r j)).toInt = (j : Int)
theorem mj_pq_mono (nl nr : Nat → Int32) (l r : Int) (a : Nat) : ∀ b : Nat, a ≤ b → mj_pq nl nr l r a ≤ mj_pq nl nr l r b
  | 0, h => by
    obtain rfl : a = 0 := by omega
    exact Nat.le_refl _
  | b + 1, h => by
    rcases Nat.lt_or_eq_of_le h with h9 | h9
    · have := mj_pq_mono nl nr l r a b (by omega)
      simp only [mj_pq]
      omega
    · subst h9; exact Nat.le_refl _
theorem mj_pa_0 (nl nr : Nat → Int32) (l r : Int) (gp : Nat → Int32) {k : Nat} (hk : k = 0) : mj_pa nl nr l r gp k := fun j h => absurd h (by omega)
theorem mj_pa_skip {nl nr gp : Nat → Int32} {l r : Int} {k k2 : Nat} (h : mj_pa nl nr l r gp k) (hn : ¬ mj_isp nl nr l r k) (e : k2 = k + 1) : mj_pa nl nr l r gp k2 ∧ mj_pb nl nr l r k2 = mj_pb nl nr l r k ∧ mj_pq nl nr l r k2 = mj_pq nl nr l r k := by
  subst e
  refine ⟨fun j hj hp => ?_, ?_, ?_⟩
  · rcases Nat.lt_or_eq_of_le (Nat.le_of_lt_succ hj) with h9 | h9
    · exact h j h9 hp
    · subst h9; exact absurd hp hn
  · simp only [mj_pb]; exact if_neg hn
  · simp only [mj_pq]; rw [if_neg (show ¬ ((nl k).toInt = mj_pb nl nr l r k ∧ (nr k).toInt ≤ r) from hn)]; omega
theorem mj_pa_put {nl nr gp : Nat → Int32} {l r : Int} {k k2 q : Nat} {x : Int32} (h : mj_pa nl nr l r gp k) (hp : mj_isp nl nr l r k) (e : k2 = k + 1) (eq : q = mj_pq nl nr l r k) (ex : x.toInt = (k : Int)) : mj_pa nl nr l r (upd gp q x) k2 ∧ mj_pb nl nr l r k2 = (nr k).toInt ∧ mj_pq nl nr l r k2 = mj_pq nl nr l r k + 1 := by
  subst e; subst eq
  refine ⟨fun j hj hpj => ?_, ?_, ?_⟩
  · rcases Nat.lt_or_eq_of_le (Nat.le_of_lt_succ hj) with h9 | h9
    · have hlt : mj_pq nl nr l r j < mj_pq nl nr l r k := by
        have := mj_pq_mono nl nr l r (j + 1) k (by omega)
        have h2 : mj_pq nl nr l r (j + 1) = mj_pq nl nr l r j + 1 := by
          simp only [mj_pq]; rw [if_pos (show (nl j).toInt = mj_pb nl nr l r j ∧ (nr j).toInt ≤ r from hpj)]
        omega
      rw [upd_ne (by omega)]
      exact h j h9 hpj
    · subst h9
      rw [upd_at]; exact ex
  · simp only [mj_pb]; exact if_pos hp
  · simp only [mj_pq]; rw [if_pos (show (nl k).toInt = mj_pb nl nr l r k ∧ (nr k).toInt ≤ r from hp)]



/-! the tree in its seven arrays -/
def mj_one (v : Int32) : Int32 → Int := fun w => if w = v then 1 else 0
def mj_nd (K : Nat) (nl nr fm fl fe vv vn : Nat → Int32) (a : Nat) (l r : Nat) (μ : Int32 → Int) (L c : Int32) : Prop :=
  (nl a).toInt = (l : Int) ∧ (nr a).toInt = (r : Int) ∧ 0 ≤ (fm a).toInt ∧ (fm a).toInt ≤ 6 ∧ (fm a).toInt ≤ (K : Int) ∧ fl a = L ∧ fe a = c ∧ mj_vs vv vn (6 * a) (fm a).toNatClampNeg μ ∧ mj_srt vv vn (6 * a) (fm a).toNatClampNeg
def mj_T (K : Nat) (f nl nr fm fl fe vv vn : Nat → Int32) : Nat → Nat → Nat → Nat → (Int32 → Int) → Int32 → Int32 → Prop
  | 0, a, l, r, μ, L, c => r = l + 1 ∧ μ = mj_one (f l) ∧ L = 0 ∧ c = 0 ∧ mj_nd K nl nr fm fl fe vv vn a l r μ L c
  | d + 1, a, l, r, μ, L, c => (r = l + 1 ∧ μ = mj_one (f l) ∧ L = 0 ∧ c = 0 ∧ mj_nd K nl nr fm fl fe vv vn a l r μ L c) ∨
    (l + 2 ≤ r ∧ mj_nd K nl nr fm fl fe vv vn a l r μ L c ∧ ∃ (μa : Int32 → Int) (La ca : Int32) (μb : Int32 → Int) (Lb cb : Int32), mj_T K f nl nr fm fl fe vv vn d (a + 1) l ((l + r) / 2) μa La ca ∧ mj_T K f nl nr fm fl fe vv vn d (a + 2 * ((l + r) / 2 - l)) ((l + r) / 2) r μb Lb cb ∧ mj_tog K μa μb μ c ∧ L = La + Lb + c)
def mj_S (K : Nat) (f nl nr fm fl fe vv vn : Nat → Int32) (d a l r : Nat) : Prop := ∃ (μ : Int32 → Int) (L c : Int32), mj_T K f nl nr fm fl fe vv vn d a l r μ L c
def mj_ag (a b : Nat) (nl nr fm fl fe vv vn nl2 nr2 fm2 fl2 fe2 vv2 vn2 : Nat → Int32) : Prop :=
  (∀ k : Nat, a ≤ k → k < b → nl2 k = nl k ∧ nr2 k = nr k ∧ fm2 k = fm k ∧ fl2 k = fl k ∧ fe2 k = fe k) ∧ (∀ q : Nat, 6 * a ≤ q → q < 6 * b → vv2 q = vv q ∧ vn2 q = vn q)
theorem mj_ag_sub {a b a2 b2 : Nat} {nl nr fm fl fe vv vn nl2 nr2 fm2 fl2 fe2 vv2 vn2 : Nat → Int32} (h : mj_ag a b nl nr fm fl fe vv vn nl2 nr2 fm2 fl2 fe2 vv2 vn2) (h1 : a ≤ a2) (h2 : b2 ≤ b) : mj_ag a2 b2 nl nr fm fl fe vv vn nl2 nr2 fm2 fl2 fe2 vv2 vn2 :=
  ⟨fun k x y => h.1 k (by omega) (by omega), fun q x y => h.2 q (by omega) (by omega)⟩
theorem mj_ag_trans {a b : Nat} {nl nr fm fl fe vv vn nl1 nr1 fm1 fl1 fe1 vv1 vn1 nl2 nr2 fm2 fl2 fe2 vv2 vn2 : Nat → Int32} (h : mj_ag a b nl nr fm fl fe vv vn nl1 nr1 fm1 fl1 fe1 vv1 vn1) (h2 : mj_ag a b nl1 nr1 fm1 fl1 fe1 vv1 vn1 nl2 nr2 fm2 fl2 fe2 vv2 vn2) : mj_ag a b nl nr fm fl fe vv vn nl2 nr2 fm2 fl2 fe2 vv2 vn2 := by
  refine ⟨fun k x y => ?_, fun q x y => ?_⟩
  · obtain ⟨a1, a2, a3, a4, a5⟩ := h.1 k x y
    obtain ⟨b1, b2, b3, b4, b5⟩ := h2.1 k x y
    exact ⟨b1.trans a1, b2.trans a2, b3.trans a3, b4.trans a4, b5.trans a5⟩
  · obtain ⟨a1, a2⟩ := h.2 q x y
    obtain ⟨b1, b2⟩ := h2.2 q x y
    exact ⟨b1.trans a1, b2.trans a2⟩
theorem mj_nd_ag {K : Nat} {nl nr fm fl fe vv vn nl2 nr2 fm2 fl2 fe2 vv2 vn2 : Nat → Int32} {a b l r : Nat} {μ : Int32 → Int} {L c : Int32} (h : mj_nd K nl nr fm fl fe vv vn a l r μ L c) (hab : a < b) (g : mj_ag a b nl nr fm fl fe vv vn nl2 nr2 fm2 fl2 fe2 vv2 vn2) : mj_nd K nl2 nr2 fm2 fl2 fe2 vv2 vn2 a l r μ L c := by
  obtain ⟨h1, h2, h3, h4, h4', h5, h6, h7, h8⟩ := h
  obtain ⟨e1, e2, e3, e4, e5⟩ := g.1 a (Nat.le_refl a) hab
  unfold mj_nd
  rw [e1, e2, e3, e4, e5]
  have hn := ki_nat (fm a) rfl h3
  have hq : ∀ j : Nat, j < (fm a).toNatClampNeg → vv2 (6 * a + j) = vv (6 * a + j) ∧ vn2 (6 * a + j) = vn (6 * a + j) := fun j hj => g.2 _ (by omega) (by omega)
  exact ⟨h1, h2, h3, h4, h4', h5, h6, mj_vs_seg h7 hq, mj_srt_seg h8 hq⟩
theorem mj_T_lt {K : Nat} {f nl nr fm fl fe vv vn : Nat → Int32} {d a l r : Nat} {μ : Int32 → Int} {L c : Int32} (h : mj_T K f nl nr fm fl fe vv vn d a l r μ L c) : l < r := by
  cases d with
  | zero => have := h.1; omega
  | succ d =>
    rcases h with h | h
    · have := h.1; omega
    · have := h.1; omega
theorem mj_T_nd {K : Nat} {f nl nr fm fl fe vv vn : Nat → Int32} {d a l r : Nat} {μ : Int32 → Int} {L c : Int32} (h : mj_T K f nl nr fm fl fe vv vn d a l r μ L c) : mj_nd K nl nr fm fl fe vv vn a l r μ L c := by
  cases d with
  | zero => exact h.2.2.2.2
  | succ d =>
    rcases h with h | h
    · exact h.2.2.2.2
    · exact h.2.1
theorem mj_T_ag {K : Nat} {f nl nr fm fl fe vv vn nl2 nr2 fm2 fl2 fe2 vv2 vn2 : Nat → Int32} : ∀ (d a b l r : Nat) (μ : Int32 → Int) (L c : Int32), mj_T K f nl nr fm fl fe vv vn d a l r μ L c → a + 2 * (r - l) - 1 ≤ b → mj_ag a b nl nr fm fl fe vv vn nl2 nr2 fm2 fl2 fe2 vv2 vn2 → mj_T K f nl2 nr2 fm2 fl2 fe2 vv2 vn2 d a l r μ L c
  | 0, a, b, l, r, μ, L, c, h, hb, g => by
    obtain ⟨h1, h2, h3, h4, h5⟩ := h
    exact ⟨h1, h2, h3, h4, mj_nd_ag h5 (by omega) g⟩
  | d + 1, a, b, l, r, μ, L, c, h, hb, g => by
    rcases h with ⟨h1, h2, h3, h4, h5⟩ | ⟨h1, h2, μa, La, ca, μb, Lb, cb, ta, tb, hg, hL⟩
    · exact Or.inl ⟨h1, h2, h3, h4, mj_nd_ag h5 (by omega) g⟩
    · exact Or.inr ⟨h1, mj_nd_ag h2 (by omega) g, μa, La, ca, μb, Lb, cb, mj_T_ag d _ b _ _ _ _ _ ta (by omega) (mj_ag_sub g (by omega) (Nat.le_refl b)), mj_T_ag d _ b _ _ _ _ _ tb (by omega) (mj_ag_sub g (by omega) (Nat.le_refl b)), hg, hL⟩
theorem mj_T_le {K : Nat} {f nl nr fm fl fe vv vn : Nat → Int32} : ∀ (d a l r : Nat) (μ : Int32 → Int) (L c : Int32), mj_T K f nl nr fm fl fe vv vn d a l r μ L c → ∀ v : Int32, 0 ≤ μ v ∧ μ v ≤ (r : Int) - (l : Int)
  | 0, a, l, r, μ, L, c, h, v => by
    obtain ⟨h1, h2, -⟩ := h
    subst h2; subst h1
    unfold mj_one
    split <;> omega
  | d + 1, a, l, r, μ, L, c, h, v => by
    rcases h with ⟨h1, h2, -⟩ | ⟨h1, h2, μa, La, ca, μb, Lb, cb, ta, tb, hg, hL⟩
    · subst h2; subst h1
      unfold mj_one
      split <;> omega
    · have ha := mj_T_le d _ _ _ _ _ _ ta
      have hb := mj_T_le d _ _ _ _ _ _ tb
      have h3 := mj_tog_le hg (fun w => (ha w).1) (fun w => (hb w).1) v
      have h4 := ha v
      have h5 := hb v
      omega
/-- a node's own facts, by its number -/
theorem mj_T_all {K : Nat} {f nl nr fm fl fe vv vn : Nat → Int32} : ∀ (d a l r : Nat) (μ : Int32 → Int) (L c : Int32), mj_T K f nl nr fm fl fe vv vn d a l r μ L c → ∀ k : Nat, a ≤ k → k < a + 2 * (r - l) - 1 → ∃ (e l2 r2 : Nat) (μ2 : Int32 → Int) (L2 c2 : Int32), e ≤ d ∧ l ≤ l2 ∧ r2 ≤ r ∧ mj_T K f nl nr fm fl fe vv vn e k l2 r2 μ2 L2 c2
  | 0, a, l, r, μ, L, c, h, k, h1, h2 => by
    have e : k = a := by have := h.1; omega
    subst e
    exact ⟨0, l, r, μ, L, c, Nat.le_refl 0, Nat.le_refl l, Nat.le_refl r, h⟩
  | d + 1, a, l, r, μ, L, c, h, k, h1, h2 => by
    by_cases hk : k = a
    · subst hk
      exact ⟨d + 1, l, r, μ, L, c, Nat.le_refl _, Nat.le_refl l, Nat.le_refl r, h⟩
    · rcases h with ⟨h3, -⟩ | ⟨h3, h4, μa, La, ca, μb, Lb, cb, ta, tb, hg, hL⟩
      · omega
      · rcases Nat.lt_or_ge k (a + 2 * ((l + r) / 2 - l)) with h9 | h9
        · obtain ⟨e, l2, r2, μ2, L2, c2, x1, x2, x3, x4⟩ := mj_T_all d _ _ _ _ _ _ ta k (by omega) (by omega)
          exact ⟨e, l2, r2, μ2, L2, c2, by omega, x2, by omega, x4⟩
        · obtain ⟨e, l2, r2, μ2, L2, c2, x1, x2, x3, x4⟩ := mj_T_all d _ _ _ _ _ _ tb k (by omega) (by omega)
          exact ⟨e, l2, r2, μ2, L2, c2, by omega, by omega, x3, x4⟩
/-- how many of n nodes from a on have the place p -/
def mj_pc (nl nr : Nat → Int32) (p : Int) (a : Nat) : Nat → Nat
  | 0 => 0
  | n + 1 => mj_pc nl nr p a n + (if (nl (a + n)).toInt ≤ p ∧ p < (nr (a + n)).toInt then 1 else 0)
theorem mj_pc_add (nl nr : Nat → Int32) (p : Int) (a x : Nat) : ∀ y : Nat, mj_pc nl nr p a (x + y) = mj_pc nl nr p a x + mj_pc nl nr p (a + x) y
  | 0 => rfl
  | y + 1 => by
    have ih := mj_pc_add nl nr p a x y
    have e : x + (y + 1) = (x + y) + 1 := rfl
    rw [e]
    simp only [mj_pc]
    rw [ih, ← Nat.add_assoc a x y, Nat.add_assoc]
theorem mj_pc_mono (nl nr : Nat → Int32) (p : Int) (a x y : Nat) (h : x ≤ y) : mj_pc nl nr p a x ≤ mj_pc nl nr p a y := by
  obtain ⟨z, rfl⟩ := Nat.le.dest h
  rw [mj_pc_add]
  omega
theorem mj_T_path {K : Nat} {f nl nr fm fl fe vv vn : Nat → Int32} (p : Int) : ∀ (d a l r : Nat) (μ : Int32 → Int) (L c : Int32), mj_T K f nl nr fm fl fe vv vn d a l r μ L c → mj_pc nl nr p a (2 * (r - l) - 1) ≤ d + 1 ∧ (p < (l : Int) ∨ (r : Int) ≤ p → mj_pc nl nr p a (2 * (r - l) - 1) = 0)
  | 0, a, l, r, μ, L, c, h => by
    obtain ⟨h1, -, -, -, hn⟩ := h
    have e : 2 * (r - l) - 1 = 0 + 1 := by omega
    rw [e]
    simp only [mj_pc, Nat.add_zero]
    have b1 := hn.1
    have b2 := hn.2.1
    refine ⟨by split <;> omega, fun h => ?_⟩
    rw [if_neg (by omega)]
  | d + 1, a, l, r, μ, L, c, h => by
    have one : mj_pc nl nr p a 1 = (if (nl a).toInt ≤ p ∧ p < (nr a).toInt then 1 else 0) := by
      simp only [mj_pc, Nat.add_zero, Nat.zero_add]
    rcases h with ⟨h1, -, -, -, hn⟩ | ⟨h3, hn, μa, La, ca, μb, Lb, cb, ta, tb, hg, hL⟩
    · have e : 2 * (r - l) - 1 = 1 := by omega
      rw [e, one]
      have b1 := hn.1
      have b2 := hn.2.1
      refine ⟨by split <;> omega, fun h => ?_⟩
      rw [if_neg (by omega)]
    · have ia := mj_T_path p d _ _ _ _ _ _ ta
      have ib := mj_T_path p d _ _ _ _ _ _ tb
      have e : 2 * (r - l) - 1 = 1 + ((2 * ((l + r) / 2 - l) - 1) + (2 * (r - (l + r) / 2) - 1)) := by omega
      have b1 := hn.1
      have b2 := hn.2.1
      rw [e, mj_pc_add, mj_pc_add, one, show a + 1 + (2 * ((l + r) / 2 - l) - 1) = a + 2 * ((l + r) / 2 - l) by omega]
      have hp : p < ((((l + r) / 2 : Nat)) : Int) ∨ ((((l + r) / 2 : Nat)) : Int) ≤ p := by omega
      refine ⟨?_, fun h => ?_⟩
      · rcases hp with h9 | h9
        · have := ib.2 (Or.inl h9)
          split <;> omega
        · have := ia.2 (Or.inr h9)
          split <;> omega
      · have z1 := ia.2 (by omega)
        have z2 := ib.2 (by omega)
        rw [if_neg (by omega), z1, z2]
theorem mj_lay_leaf {K : Nat} {f nl nr fm fl fe vv vn fm2 fl2 fe2 vv2 vn2 : Nat → Int32} {a l r : Nat} {l32 r32 : Int32} (d : Nat) (hK : 1 ≤ K) (hr : r = l + 1) (hl : l32.toInt = (l : Int)) (hr2 : r32.toInt = (r : Int)) (e1 : fm2 = upd fm a 1) (e2 : fl2 = upd fl a 0) (e3 : fe2 = upd fe a 0) (e4 : vv2 = upd vv (6 * a) (f l)) (e5 : vn2 = upd vn (6 * a) 1) :
    mj_S K f (upd nl a l32) (upd nr a r32) fm2 fl2 fe2 vv2 vn2 d a l r ∧ mj_ag 0 a nl nr fm fl fe vv vn (upd nl a l32) (upd nr a r32) fm2 fl2 fe2 vv2 vn2 := by
  subst e1; subst e2; subst e3; subst e4; subst e5
  have h1 : (1 : Int32).toInt = 1 := rfl
  have hn : mj_nd K (upd nl a l32) (upd nr a r32) (upd fm a 1) (upd fl a 0) (upd fe a 0) (upd vv (6 * a) (f l)) (upd vn (6 * a) 1) a l r (mj_one (f l)) 0 0 := by
    unfold mj_nd
    rw [upd_at, upd_at, upd_at, upd_at, upd_at]
    have h2 : (1 : Int32).toNatClampNeg = 1 := rfl
    rw [h2, h1]
    refine ⟨hl, hr2, by omega, by omega, by omega, rfl, rfl, ⟨?_, ?_, ?_⟩, fun i j hij hj => by omega⟩
    · intro j hj
      obtain rfl : j = 0 := by omega
      simp only [Nat.add_zero]
      rw [upd_at, upd_at, h1]
      unfold mj_one
      rw [if_pos rfl]
      omega
    · intro i j hi hj _
      omega
    · intro v hv
      refine ⟨0, by omega, ?_⟩
      simp only [Nat.add_zero]
      rw [upd_at]
      unfold mj_one at hv
      by_cases e : v = f l
      · exact e.symm
      · exact absurd (if_neg e) hv
  refine ⟨⟨mj_one (f l), 0, 0, ?_⟩, ⟨fun k x y => ?_, fun q x y => ?_⟩⟩
  · cases d with
    | zero => exact ⟨hr, rfl, rfl, rfl, hn⟩
    | succ d => exact Or.inl ⟨hr, rfl, rfl, rfl, hn⟩
  · have : ¬ k = a := by omega
    rw [upd_ne this, upd_ne this, upd_ne this, upd_ne this, upd_ne this]
    exact ⟨rfl, rfl, rfl, rfl, rfl⟩
  · have : ¬ q = 6 * a := by omega
    rw [upd_ne this, upd_ne this]
    exact ⟨rfl, rfl⟩
theorem mj_lay_node {K : Nat} {f nl nr fm fl fe vv vn nl1 nr1 fm1 fl1 fe1 vv1 vn1 nl2 nr2 fm2 fl2 fe2 vv2 vn2 fm3 fl3 fe3 vv3 vn3 : Nat → Int32} {d a l r md x y : Nat} {l32 r32 c lf : Int32} {μa μb μ : Int32 → Int} {La ca Lb cb : Int32}
    (hm : md = (l + r) / 2) (hlr : l + 2 ≤ r) (hl : l32.toInt = (l : Int)) (hr : r32.toInt = (r : Int)) (hx : x = a + 1) (hy : y = a + 2 * (md - l))
    (h1 : mj_ag 0 (a + 1) (upd nl a l32) (upd nr a r32) fm fl fe vv vn nl1 nr1 fm1 fl1 fe1 vv1 vn1) (h2 : mj_ag 0 y nl1 nr1 fm1 fl1 fe1 vv1 vn1 nl2 nr2 fm2 fl2 fe2 vv2 vn2)
    (ta : mj_T K f nl2 nr2 fm2 fl2 fe2 vv2 vn2 d x l md μa La ca) (tb : mj_T K f nl2 nr2 fm2 fl2 fe2 vv2 vn2 d y md r μb Lb cb) (tg : mj_tog K μa μb μ c)
    (e1 : fm3 = upd fm2 a lf) (b0 : 0 ≤ lf.toInt) (b1 : lf.toInt ≤ (K : Int)) (hK6 : K ≤ 6) (e2 : fl3 = upd fl2 a (fl2 x + fl2 y + c)) (e3 : fe3 = upd fe2 a c) (hv : mj_vs vv3 vn3 (6 * a) lf.toNatClampNeg μ) (hs : mj_srt vv3 vn3 (6 * a) lf.toNatClampNeg)
    (hq : ∀ q : Nat, (q < 6 * a ∨ 6 * a + 6 ≤ q) → vv3 q = vv2 q ∧ vn3 q = vn2 q) :
    mj_S K f nl2 nr2 fm3 fl3 fe3 vv3 vn3 (d + 1) a l r ∧ mj_ag 0 a nl nr fm fl fe vv vn nl2 nr2 fm3 fl3 fe3 vv3 vn3 := by
  subst hm; subst hx; subst hy; subst e1; subst e2; subst e3
  have g3 : ∀ b : Nat, mj_ag (a + 1) b nl2 nr2 fm2 fl2 fe2 vv2 vn2 nl2 nr2 (upd fm2 a lf) (upd fl2 a (fl2 (a + 1) + fl2 (a + 2 * ((l + r) / 2 - l)) + c)) (upd fe2 a c) vv3 vn3 := fun b =>
    ⟨fun k x y => by
      have : ¬ k = a := by omega
      rw [upd_ne this, upd_ne this, upd_ne this]
      exact ⟨rfl, rfl, rfl, rfl, rfl⟩, fun q x y => hq q (by omega)⟩
  have ea := (h1.1 a (by omega) (by omega))
  have eb := (h2.1 a (by omega) (by omega))
  have na := mj_T_nd ta
  have nb := mj_T_nd tb
  refine ⟨⟨μ, La + Lb + c, c, Or.inr ⟨hlr, ?_, μa, La, ca, μb, Lb, cb, ?_, ?_, tg, rfl⟩⟩, ?_⟩
  · unfold mj_nd
    rw [upd_at, upd_at, upd_at, eb.1, ea.1, eb.2.1, ea.2.1, upd_at, upd_at]
    refine ⟨hl, hr, b0, by omega, b1, ?_, rfl, hv, hs⟩
    rw [na.2.2.2.2.2.1, nb.2.2.2.2.2.1]
  · exact mj_T_ag d _ _ _ _ _ _ _ ta (Nat.le_refl _) (g3 _)
  · exact mj_T_ag d _ _ _ _ _ _ _ tb (Nat.le_refl _) (mj_ag_sub (g3 _) (by omega) (Nat.le_refl _))
  · refine ⟨fun k x y => ?_, fun q x y => ?_⟩
    · have : ¬ k = a := by omega
      obtain ⟨p1, p2, p3, p4, p5⟩ := h1.1 k (by omega) (by omega)
      obtain ⟨q1, q2, q3, q4, q5⟩ := h2.1 k (by omega) (by omega)
      rw [upd_ne this] at p1 p2
      rw [upd_ne this, upd_ne this, upd_ne this]
      exact ⟨q1.trans p1, q2.trans p2, q3.trans p3, q4.trans p4, q5.trans p5⟩
    · obtain ⟨p1, p2⟩ := h1.2 q (by omega) (by omega)
      obtain ⟨q1, q2⟩ := h2.2 q (by omega) (by omega)
      obtain ⟨r1, r2⟩ := hq q (by omega)
      exact ⟨r1.trans (q1.trans p1), r2.trans (q2.trans p2)⟩
theorem mj_T_leafAt {K : Nat} {f nl nr fm fl fe vv vn : Nat → Int32} (p : Nat) : ∀ (d a l r : Nat) (μ : Int32 → Int) (L c : Int32), mj_T K f nl nr fm fl fe vv vn d a l r μ L c → l ≤ p → p < r → ∃ k : Nat, a ≤ k ∧ k < a + 2 * (r - l) - 1 ∧ (nl k).toInt = (p : Int) ∧ (nr k).toInt = (p : Int) + 1
  | 0, a, l, r, μ, L, c, h, h1, h2 => by
    have n := h.2.2.2.2
    have e := h.1
    exact ⟨a, by omega, by omega, by have := n.1; omega, by have := n.2.1; omega⟩
  | d + 1, a, l, r, μ, L, c, h, h1, h2 => by
    rcases h with ⟨e, -, -, -, n⟩ | ⟨h3, n, μa, La, ca, μb, Lb, cb, ta, tb, hg, hL⟩
    · exact ⟨a, by omega, by omega, by have := n.1; omega, by have := n.2.1; omega⟩
    · rcases Nat.lt_or_ge p ((l + r) / 2) with h9 | h9
      · obtain ⟨k, x1, x2, x3, x4⟩ := mj_T_leafAt p d _ _ _ _ _ _ ta h1 h9
        exact ⟨k, by omega, by omega, x3, x4⟩
      · obtain ⟨k, x1, x2, x3, x4⟩ := mj_T_leafAt p d _ _ _ _ _ _ tb h9 h2
        exact ⟨k, by omega, by omega, x3, x4⟩
def mj_L (K : Nat) (f nl nr fm fl fe vv vn : Nat → Int32) (n nd : Int) : Prop := (n ≤ 0 ∧ nd = 0) ∨ (0 < n ∧ nd = 2 * n - 1 ∧ mj_S K f nl nr fm fl fe vv vn 8 0 0 n.toNat)
theorem mj_L_path {K : Nat} {f nl nr fm fl fe vv vn : Nat → Int32} {n nd : Int} (h : mj_L K f nl nr fm fl fe vv vn n nd) (p : Int) (k : Nat) (hk : (k : Int) ≤ nd) : mj_pc nl nr p 0 k ≤ 9 := by
  rcases h with ⟨h1, h2⟩ | ⟨h1, h2, μ, L, c, h3⟩
  · obtain rfl : k = 0 := by omega
    exact Nat.zero_le _
  · have a := (mj_T_path p _ _ _ _ _ _ _ h3).1
    have b := mj_pc_mono nl nr p 0 k (2 * (n.toNat - 0) - 1) (by omega)
    omega
theorem mj_L_ok {K : Nat} {f nl nr fm fl fe vv vn : Nat → Int32} {n nd : Int} (h : mj_L K f nl nr fm fl fe vv vn n nd) (k : Nat) (hk : (k : Int) < nd) : 0 ≤ (nl k).toInt ∧ (nl k).toInt < (nr k).toInt ∧ (nr k).toInt ≤ n := by
  rcases h with ⟨h1, h2⟩ | ⟨h1, h2, μ, L, c, h3⟩
  · omega
  · obtain ⟨e, l2, r2, μ2, L2, c2, x1, x2, x3, x4⟩ := mj_T_all _ _ _ _ _ _ _ h3 k (by omega) (by omega)
    have a := mj_T_lt x4
    have b := mj_T_nd x4
    have b1 := b.1
    have b2 := b.2.1
    omega
theorem mj_L_vs {K : Nat} {f nl nr fm fl fe vv vn : Nat → Int32} {n nd : Int} (h : mj_L K f nl nr fm fl fe vv vn n nd) (hn : n ≤ 160) (k : Nat) (hk : (k : Int) < nd) : 0 ≤ (fm k).toInt ∧ (fm k).toInt ≤ 6 ∧ (fm k).toInt ≤ (K : Int) ∧ ∃ μ : Int32 → Int, mj_vs vv vn (6 * k) (fm k).toNatClampNeg μ ∧ mj_srt vv vn (6 * k) (fm k).toNatClampNeg ∧ ∀ v : Int32, 0 ≤ μ v ∧ μ v ≤ 160 := by
  rcases h with ⟨h1, h2⟩ | ⟨h1, h2, μ, L, c, h3⟩
  · omega
  · obtain ⟨e, l2, r2, μ2, L2, c2, x1, x2, x3, x4⟩ := mj_T_all _ _ _ _ _ _ _ h3 k (by omega) (by omega)
    have b := mj_T_nd x4
    refine ⟨b.2.2.1, b.2.2.2.1, b.2.2.2.2.1, μ2, b.2.2.2.2.2.2.2.1, b.2.2.2.2.2.2.2.2, fun v => ?_⟩
    have := mj_T_le _ _ _ _ _ _ _ x4 v
    omega
theorem mj_L_ag {K : Nat} {f nl nr fm fl fe vv vn nl2 nr2 fm2 fl2 fe2 vv2 vn2 : Nat → Int32} {n nd : Int} {b : Nat} (h : mj_L K f nl nr fm fl fe vv vn n nd) (hb : nd ≤ (b : Int)) (g : mj_ag 0 b nl nr fm fl fe vv vn nl2 nr2 fm2 fl2 fe2 vv2 vn2) : mj_L K f nl2 nr2 fm2 fl2 fe2 vv2 vn2 n nd := by
  rcases h with h | ⟨h1, h2, μ, L, c, h3⟩
  · exact Or.inl h
  · exact Or.inr ⟨h1, h2, μ, L, c, mj_T_ag _ _ b _ _ _ _ _ h3 (by omega) g⟩
theorem mj_pb_stay (nl nr : Nat → Int32) (l r : Int) : ∀ k : Nat, mj_pq nl nr l r k = 0 → mj_pb nl nr l r k = l
  | 0, _ => rfl
  | k + 1, h => by
    simp only [mj_pq] at h
    by_cases hp : (nl k).toInt = mj_pb nl nr l r k ∧ (nr k).toInt ≤ r
    · rw [if_pos hp] at h
      omega
    · simp only [mj_pb]
      rw [if_neg hp]
      rw [if_neg hp] at h
      exact mj_pb_stay nl nr l r k (by omega)
theorem mj_L_pq {K : Nat} {f nl nr fm fl fe vv vn : Nat → Int32} {n nd l r : Int} (h : mj_L K f nl nr fm fl fe vv vn n nd) (hl : 0 ≤ l) (hlr : l < r) (hr : r ≤ n) : 0 < mj_pq nl nr l r nd.toNat := by
  rcases h with ⟨h1, h2⟩ | ⟨h1, h2, μ, L, c, h3⟩
  · omega
  · obtain ⟨k, x1, x2, x3, x4⟩ := mj_T_leafAt l.toNat _ _ _ _ _ _ _ h3 (by omega) (by omega)
    rcases Nat.eq_zero_or_pos (mj_pq nl nr l r k) with h9 | h9
    · have a := mj_pb_stay nl nr l r k h9
      have b := mj_pq_mono nl nr l r (k + 1) nd.toNat (by omega)
      have c : mj_pq nl nr l r (k + 1) = mj_pq nl nr l r k + 1 := by
        simp only [mj_pq]
        rw [if_pos ⟨by omega, by omega⟩]
      omega
    · have b := mj_pq_mono nl nr l r k nd.toNat (by omega)
      omega
theorem mj_pq_at (nl nr : Nat → Int32) (l r : Int) (j : Nat) : ∀ k : Nat, j < mj_pq nl nr l r k → ∃ i : Nat, i < k ∧ mj_isp nl nr l r i ∧ mj_pq nl nr l r i = j
  | 0, h => absurd h (Nat.not_lt_zero j)
  | k + 1, h => by
    by_cases hj : j < mj_pq nl nr l r k
    · obtain ⟨i, x1, x2, x3⟩ := mj_pq_at nl nr l r j k hj
      exact ⟨i, by omega, x2, x3⟩
    · simp only [mj_pq] at h
      by_cases hp : (nl k).toInt = mj_pb nl nr l r k ∧ (nr k).toInt ≤ r
      · rw [if_pos hp] at h
        exact ⟨k, by omega, hp, by omega⟩
      · rw [if_neg hp] at h
        omega
/-- the summary of the first parts of a range -/
def mj_H (K : Nat) (nl nr fm fl vv vn : Nat → Int32) (l r : Int) : Nat → (Int32 → Int) → Int32 → Prop
  | 0, μ, L => μ = mj_z ∧ L = 0
  | j + 1, μ, L => ∃ (k : Nat) (μ0 : Int32 → Int) (L0 c : Int32) (μk : Int32 → Int), k < 320 ∧ mj_H K nl nr fm fl vv vn l r j μ0 L0 ∧ mj_isp nl nr l r k ∧ mj_pq nl nr l r k = j ∧ mj_vs vv vn (6 * k) (fm k).toNatClampNeg μk ∧ 0 ≤ (fm k).toInt ∧ (fm k).toInt ≤ 6 ∧ mj_tog K μ0 μk μ c ∧ L = L0 + fl k + c
theorem mj_H_ag {K : Nat} {nl nr fm fl fe vv vn fm2 fl2 fe2 vv2 vn2 : Nat → Int32} {l r : Int} (g : mj_ag 0 320 nl nr fm fl fe vv vn nl nr fm2 fl2 fe2 vv2 vn2) : ∀ (j : Nat) (μ : Int32 → Int) (L : Int32), mj_H K nl nr fm fl vv vn l r j μ L → mj_H K nl nr fm2 fl2 vv2 vn2 l r j μ L
  | 0, _, _, h => h
  | j + 1, μ, L, h => by
    obtain ⟨k, μ0, L0, c, μk, h1, h2, h3, h4, h5, h6, h7, h8, h9⟩ := h
    obtain ⟨-, -, e1, e2, -⟩ := g.1 k (by omega) h1
    have hn := ki_nat (fm k) rfl h6
    refine ⟨k, μ0, L0, c, μk, h1, mj_H_ag g j μ0 L0 h2, h3, h4, ?_, ?_, ?_, h8, ?_⟩
    · rw [e1]
      exact mj_vs_seg h5 (fun i hi => g.2 _ (by omega) (by omega))
    · rw [e1]; exact h6
    · rw [e1]; exact h7
    · rw [e2]; exact h9
theorem mj_tog_first {V N : Nat → Int32} {o m K : Nat} {μ : Int32 → Int} (h : mj_vs V N o m μ) (hs : mj_srt V N o m) (hm : m ≤ K) : mj_tog K mj_z μ μ 0 := by
  have hz : ∀ v : Int32, mj_z v + μ v = μ v := fun v => by show (0 : Int) + μ v = μ v; omega
  refine ⟨fun j => V (o + j), fun j => N (o + j), m, ⟨fun j hj => ?_, fun i j hi hj e => ?_, fun v hv => ?_⟩, fun i j hij hj => ?_, Or.inl ⟨hm, rfl⟩, fun v => ?_⟩
  · dsimp only
    rw [Nat.zero_add, hz]
    exact h.1 j hj
  · dsimp only at e
    rw [Nat.zero_add, Nat.zero_add] at e
    exact h.2.1 i j hi hj e
  · dsimp only at hv
    rw [hz] at hv
    obtain ⟨j, hj, e⟩ := h.2.2 v hv
    exact ⟨j, hj, by dsimp only; rw [Nat.zero_add]; exact e⟩
  · have := hs i j hij hj
    unfold mj_lea at this ⊢
    dsimp only
    rw [Nat.zero_add, Nat.zero_add]
    exact this
  · have k0 : (0 : Int32).toInt = 0 := rfl
    have := mj_vs_nn h v
    rw [hz, k0]
    split <;> omega
/-- the summary of the first j parts lies at 320 -/
def mj_F (K : Nat) (nl nr fm fl vv vn fm2 fl2 vv2 vn2 : Nat → Int32) (l r : Int) (j : Nat) : Prop := ∃ (μ : Int32 → Int) (L : Int32), mj_H K nl nr fm fl vv vn l r j μ L ∧ mj_vs vv2 vn2 1920 (fm2 320).toNatClampNeg μ ∧ mj_srt vv2 vn2 1920 (fm2 320).toNatClampNeg ∧ 0 ≤ (fm2 320).toInt ∧ (fm2 320).toInt ≤ (K : Int) ∧ fl2 320 = L ∧ ∀ v : Int32, 0 ≤ μ v ∧ μ v ≤ 160 * (j : Int)


