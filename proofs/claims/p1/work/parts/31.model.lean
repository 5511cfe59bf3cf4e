set_option maxHeartbeats 4000000 in
set_option maxRecDepth 100000 in
/-- isPlace, n = 0 -/
theorem c_X5_isPlace (l : Launch) (dC : Nat → ClassId) (dI : Nat → Nat → Nat) (h0 : Nat) (g_row : Nat) (g_many : Nat) (g_loss : Nat) (g_less : Nat) (g_voteValue : Nat) (g_voteNumber : Nat) (g_allValue : Nat) (g_allNumber : Nat) (g_nodeL : Nat) (g_nodeR : Nat) (g_part : Nat) (g_wasMany : Nat) (g_wasLoss : Nat) (g_wasValue : Nat) (g_wasNumber : Nat) (g_path : Nat) (g_heavyValue : Nat) (g_heavyTimes : Nat) (g_fewest : Nat) (g_which : Nat) (g_met : Nat) (th : Int32) (p0 : Int32) : Met l yX5_isPlace wsX5_isPlace ({ frames := 1, cells := 0, slots := 0, locals := 45 }) (va_Pc [.ref h0, .int p0] (fun U => va_P (dC, dI) vwCl [(h0, .inr (5, [.ref g_row, .int 0, .int 2, .int th, .ref g_many, .ref g_loss, .ref g_less, .ref g_voteValue, .ref g_voteNumber, .ref g_allValue, .ref g_allNumber, .int 0, .ref g_nodeL, .ref g_nodeR, .int 0, .ref g_part, .int 0, .ref g_wasMany, .ref g_wasLoss, .ref g_wasValue, .ref g_wasNumber, .ref g_path, .int 0, .ref g_heavyValue, .ref g_heavyTimes, .int 0, .ref g_fewest, .ref g_which, .ref g_met, .int 0]))] U.heap ∧ va_K (dC, dI) vwCl [] U)) (vp_Si (fun r : Int32 => (r = 0 ∧ True))) 0 0 (fun _ => False) := by
  refine Met.ofW (cc := cX5_isPlace) (maxL := 2) (ret := (some .boolean)) (by decide) rfl ?_
  intro p e s m args below meth c s₁ B hml hv
  obtain ⟨rfl, hP, hK⟩ := hv
  have hx := B.exec
  have hb := B.bytes
  have hr := B.returns
  have hts := atoms_spec (ws := wsX5_isPlace) B.pre
  have hown : s.vm.findClass RX5 = some m.cls := findClass_of_methodNamed B.named
  have hlocks := B.notSynchronized
  have hP : va_P (dC, dI) vwCl [(h0, .inr (5, [.ref g_row, .int 0, .int 2, .int th, .ref g_many, .ref g_loss, .ref g_less, .ref g_voteValue, .ref g_voteNumber, .ref g_allValue, .ref g_allNumber, .int 0, .ref g_nodeL, .ref g_nodeR, .int 0, .ref g_part, .int 0, .ref g_wasMany, .ref g_wasLoss, .ref g_wasValue, .ref g_wasNumber, .ref g_path, .int 0, .ref g_heavyValue, .ref g_heavyTimes, .int 0, .ref g_fewest, .ref g_which, .ref g_met, .int 0]))] s.heap := hP
  have hl := lv_entry ([.ref h0, .int p0]) (n := 2) (Nat.le_of_ble_eq_true rfl)
  rw [lg_entry_eq]
  generalize (lg_sl ([.ref h0, .int p0]) ++ List.replicate (2 - (lg_sl ([.ref h0, .int p0])).length) Slot.unset).toArray = ls at hl ⊢
  have hl : lv_has ls 2 [(0, .ref h0), (1, .int p0)] := hl
  have hf_84 := hts (.fieldLink RX5 84 "MajorityIndexModel" "n" "I") (by decide +kernel)
  have hi_5 : ∀ w ∈ u_ws RX5 TX5 30, w ∈ wsX5_isPlace := by decide +kernel
  refine lv_iload_n hx hb dX5_isPlace_0 rfl (lv_at hl 1 rfl) ?_
  refine lv_iconst (v := 0) hx hb dX5_isPlace_1 (by decide) ?_
  refine lv_aload_n hx hb dX5_isPlace_2 rfl (lv_at hl 0 rfl) ?_
  refine va_get (D := (dC, dI)) (ci := 5) (v := .int 0) (C := RX5) (T := TX5) (N := 30) hx hb hts hi_5 hown hK hP 0 rfl rfl 1 (by decide) hf_84 (fun _ h9 => h9) rfl dX5_isPlace_3 ?_
  refine lv_iconst (v := 1) hx hb dX5_isPlace_6 (by decide) ?_
  refine lv_isub hx hb dX5_isPlace_7 ?_
  refine W.eq (g2 := F0 m 8 ls [.int (-1), .int 0, .int p0]) (by first | rfl | (congr 2; decide)) ?_
  have hPc := hP.sub (ws' := []) [] rfl
  have hKc := hK.sub (tys' := []) [] rfl
  refine vp_callSi (W.runS (As := [.int p0, .int 0, .int (-1)]) (rest := []) ⟨hx, hb, hml, hown, hts⟩ (c_X5_within l dC dI p0 0 (-1)) (va_cwS 3 hts gX5_isPlace_X5_within rfl rfl rfl (by decide +kernel) ⟨Nat.le_of_ble_eq_true rfl, Nat.le_of_ble_eq_true rfl⟩) ⟨fun a U g mk q => by obtain ⟨q0, qP, qK⟩ := q; exact ⟨q0, qP, va_K.moved (u := U) (U := U.calling g mk a) (Vm.Alike.refl U.vm) qK⟩, fun U hU hW => ⟨rfl, by rw [hU]; exact hPc, va_K.moved hW.alike hKc⟩⟩ rfl rfl hl.1 rfl (lv_room (Nat.le_of_ble_eq_true rfl)) dX5_isPlace_8 ⟨Nat.le_of_ble_eq_true rfl, Nat.le_of_ble_eq_true rfl⟩) (fun r_1 w_1 => ?_)
  rcases w_1 with ⟨rfl, w_1⟩ | ⟨rfl, w_1⟩
  · have w_1 : (0 ≤ p0.toInt ∧ p0.toInt ≤ (-1)) := w_1
    exfalso; omega
  · have w_1 : (p0.toInt < 0 ∨ (-1) < p0.toInt) := w_1
    exact W.zret (v := 0) hx hb hr (by decide) (fun t ht hW => ⟨0, rfl, ⟨rfl, trivial⟩, ht⟩) (fun q hq => by cases hq) dX5_isPlace_11

set_option maxHeartbeats 4000000 in
set_option maxRecDepth 100000 in
/-- isRange, n = 0 -/
theorem c_X5_isRange (l : Launch) (dC : Nat → ClassId) (dI : Nat → Nat → Nat) (h0 : Nat) (g_row : Nat) (g_many : Nat) (g_loss : Nat) (g_less : Nat) (g_voteValue : Nat) (g_voteNumber : Nat) (g_allValue : Nat) (g_allNumber : Nat) (g_nodeL : Nat) (g_nodeR : Nat) (g_part : Nat) (g_wasMany : Nat) (g_wasLoss : Nat) (g_wasValue : Nat) (g_wasNumber : Nat) (g_path : Nat) (g_heavyValue : Nat) (g_heavyTimes : Nat) (g_fewest : Nat) (g_which : Nat) (g_met : Nat) (th : Int32) (p0 : Int32) (p1 : Int32) : Met l yX5_isRange wsX5_isRange ({ frames := 0, cells := 0, slots := 0, locals := 0 }) (va_Pc [.ref h0, .int p0, .int p1] (fun U => va_P (dC, dI) vwCl [(h0, .inr (5, [.ref g_row, .int 0, .int 2, .int th, .ref g_many, .ref g_loss, .ref g_less, .ref g_voteValue, .ref g_voteNumber, .ref g_allValue, .ref g_allNumber, .int 0, .ref g_nodeL, .ref g_nodeR, .int 0, .ref g_part, .int 0, .ref g_wasMany, .ref g_wasLoss, .ref g_wasValue, .ref g_wasNumber, .ref g_path, .int 0, .ref g_heavyValue, .ref g_heavyTimes, .int 0, .ref g_fewest, .ref g_which, .ref g_met, .int 0]))] U.heap ∧ va_K (dC, dI) vwCl [] U)) (vp_Si (fun r : Int32 => (r = 0 ∧ True))) 0 0 (fun _ => False) := by
  refine Met.ofW (cc := cX5_isRange) (maxL := 3) (ret := (some .boolean)) (by decide) rfl ?_
  intro p e s m args below meth c s₁ B hml hv
  obtain ⟨rfl, hP, hK⟩ := hv
  have hx := B.exec
  have hb := B.bytes
  have hr := B.returns
  have hts := atoms_spec (ws := wsX5_isRange) B.pre
  have hown : s.vm.findClass RX5 = some m.cls := findClass_of_methodNamed B.named
  have hlocks := B.notSynchronized
  have hP : va_P (dC, dI) vwCl [(h0, .inr (5, [.ref g_row, .int 0, .int 2, .int th, .ref g_many, .ref g_loss, .ref g_less, .ref g_voteValue, .ref g_voteNumber, .ref g_allValue, .ref g_allNumber, .int 0, .ref g_nodeL, .ref g_nodeR, .int 0, .ref g_part, .int 0, .ref g_wasMany, .ref g_wasLoss, .ref g_wasValue, .ref g_wasNumber, .ref g_path, .int 0, .ref g_heavyValue, .ref g_heavyTimes, .int 0, .ref g_fewest, .ref g_which, .ref g_met, .int 0]))] s.heap := hP
  have hl := lv_entry ([.ref h0, .int p0, .int p1]) (n := 3) (Nat.le_of_ble_eq_true rfl)
  rw [lg_entry_eq]
  generalize (lg_sl ([.ref h0, .int p0, .int p1]) ++ List.replicate (3 - (lg_sl ([.ref h0, .int p0, .int p1])).length) Slot.unset).toArray = ls at hl ⊢
  have hl : lv_has ls 3 [(0, .ref h0), (1, .int p0), (2, .int p1)] := hl
  have hf_84 := hts (.fieldLink RX5 84 "MajorityIndexModel" "n" "I") (by decide +kernel)
  have hi_5 : ∀ w ∈ u_ws RX5 TX5 30, w ∈ wsX5_isRange := by decide +kernel
  refine lv_iload_n hx hb dX5_isRange_0 rfl (lv_at hl 1 rfl) ?_
  refine lv_if_lt (tgt := 21) hx hb dX5_isRange_1 (by decide) (fun c_1 => ?_) (fun c_1 => ?_)
  · have i_1 : p0.toInt < 0 := kc_lt c_1
    refine lv_iconst (v := 0) hx hb dX5_isRange_21 (by decide) ?_
    exact W.zret (v := 0) hx hb hr (by decide) (fun t ht hW => ⟨0, rfl, ⟨rfl, trivial⟩, ht⟩) (fun q hq => by cases hq) dX5_isRange_22
  · have i_1 : 0 ≤ p0.toInt := kc_nlt c_1
    refine lv_iload_n hx hb dX5_isRange_4 rfl (lv_at hl 1 rfl) ?_
    refine lv_iload_n hx hb dX5_isRange_5 rfl (lv_at hl 2 rfl) ?_
    refine lv_icmp_ge (tgt := 21) hx hb dX5_isRange_6 (by decide) (fun c_2 => ?_) (fun c_2 => ?_)
    · have i_2 : p1.toInt ≤ p0.toInt := kc_le c_2
      refine lv_iconst (v := 0) hx hb dX5_isRange_21 (by decide) ?_
      exact W.zret (v := 0) hx hb hr (by decide) (fun t ht hW => ⟨0, rfl, ⟨rfl, trivial⟩, ht⟩) (fun q hq => by cases hq) dX5_isRange_22
    · have i_2 : p0.toInt < p1.toInt := kc_nle c_2
      refine lv_iload_n hx hb dX5_isRange_9 rfl (lv_at hl 2 rfl) ?_
      refine lv_aload_n hx hb dX5_isRange_10 rfl (lv_at hl 0 rfl) ?_
      refine va_get (D := (dC, dI)) (ci := 5) (v := .int 0) (C := RX5) (T := TX5) (N := 30) hx hb hts hi_5 hown hK hP 0 rfl rfl 1 (by decide) hf_84 (fun _ h9 => h9) rfl dX5_isRange_11 ?_
      refine lv_icmp_gt (tgt := 21) hx hb dX5_isRange_14 (by decide) (fun c_3 => ?_) (fun c_3 => ?_)
      · have i_3 : 0 < p1.toInt := kc_lt c_3
        refine lv_iconst (v := 0) hx hb dX5_isRange_21 (by decide) ?_
        exact W.zret (v := 0) hx hb hr (by decide) (fun t ht hW => ⟨0, rfl, ⟨rfl, trivial⟩, ht⟩) (fun q hq => by cases hq) dX5_isRange_22
      · have i_3 : p1.toInt ≤ 0 := kc_nlt c_3
        refine lv_iconst (v := 1) hx hb dX5_isRange_17 (by decide) ?_
        refine lv_goto (tgt := 22) hx hb dX5_isRange_18 (by decide) ?_
        exact W.zret (v := 1) hx hb hr (by decide) (fun t ht hW => ⟨1, rfl, (by exfalso; omega), ht⟩) (fun q hq => by cases hq) dX5_isRange_22

set_option maxHeartbeats 4000000 in
set_option maxRecDepth 100000 in
theorem c_X5_asked (l : Launch) (dC : Nat → ClassId) (dI : Nat → Nat → Nat) (h0 : Nat) (g_row : Nat) (g_many : Nat) (g_loss : Nat) (g_less : Nat) (g_voteValue : Nat) (g_voteNumber : Nat) (g_allValue : Nat) (g_allNumber : Nat) (g_nodeL : Nat) (g_nodeR : Nat) (g_part : Nat) (g_wasMany : Nat) (g_wasLoss : Nat) (g_wasValue : Nat) (g_wasNumber : Nat) (g_path : Nat) (g_heavyValue : Nat) (g_heavyTimes : Nat) (g_fewest : Nat) (g_which : Nat) (g_met : Nat) (th : Int32) (p0 : Int32) (p1 : Int32) : Met l yX5_asked wsX5_asked ({ frames := 1, cells := 0, slots := 0, locals := 45 }) (va_Pc [.ref h0, .int p0, .int p1] (fun U => va_P (dC, dI) vwCl [(h0, .inr (5, [.ref g_row, .int 0, .int 2, .int th, .ref g_many, .ref g_loss, .ref g_less, .ref g_voteValue, .ref g_voteNumber, .ref g_allValue, .ref g_allNumber, .int 0, .ref g_nodeL, .ref g_nodeR, .int 0, .ref g_part, .int 0, .ref g_wasMany, .ref g_wasLoss, .ref g_wasValue, .ref g_wasNumber, .ref g_path, .int 0, .ref g_heavyValue, .ref g_heavyTimes, .int 0, .ref g_fewest, .ref g_which, .ref g_met, .int 0]))] U.heap ∧ va_K (dC, dI) vwCl [] U)) (vp_Si (fun r : Int32 => r = -1)) 0 0 (fun _ => False) := by
  refine Met.ofW (cc := cX5_asked) (maxL := 3) (ret := (some .int)) (by decide) rfl ?_
  intro p e s m args below meth c s₁ B hml hv
  obtain ⟨rfl, hP, hK⟩ := hv
  have hx := B.exec
  have hb := B.bytes
  have hr := B.returns
  have hts := atoms_spec (ws := wsX5_asked) B.pre
  have hown : s.vm.findClass RX5 = some m.cls := findClass_of_methodNamed B.named
  have hlocks := B.notSynchronized
  have hP : va_P (dC, dI) vwCl [(h0, .inr (5, [.ref g_row, .int 0, .int 2, .int th, .ref g_many, .ref g_loss, .ref g_less, .ref g_voteValue, .ref g_voteNumber, .ref g_allValue, .ref g_allNumber, .int 0, .ref g_nodeL, .ref g_nodeR, .int 0, .ref g_part, .int 0, .ref g_wasMany, .ref g_wasLoss, .ref g_wasValue, .ref g_wasNumber, .ref g_path, .int 0, .ref g_heavyValue, .ref g_heavyTimes, .int 0, .ref g_fewest, .ref g_which, .ref g_met, .int 0]))] s.heap := hP
  have hl := lv_entry ([.ref h0, .int p0, .int p1]) (n := 3) (Nat.le_of_ble_eq_true rfl)
  rw [lg_entry_eq]
  generalize (lg_sl ([.ref h0, .int p0, .int p1]) ++ List.replicate (3 - (lg_sl ([.ref h0, .int p0, .int p1])).length) Slot.unset).toArray = ls at hl ⊢
  have hl : lv_has ls 3 [(0, .ref h0), (1, .int p0), (2, .int p1)] := hl
  refine lv_aload_n hx hb dX5_asked_0 rfl (lv_at hl 0 rfl) ?_
  refine lv_iload_n hx hb dX5_asked_1 rfl (lv_at hl 1 rfl) ?_
  refine lv_iload_n hx hb dX5_asked_2 rfl (lv_at hl 2 rfl) ?_
  have hPc := hP.sub (ws' := [(h0, .inr (5, [.ref g_row, .int 0, .int 2, .int th, .ref g_many, .ref g_loss, .ref g_less, .ref g_voteValue, .ref g_voteNumber, .ref g_allValue, .ref g_allNumber, .int 0, .ref g_nodeL, .ref g_nodeR, .int 0, .ref g_part, .int 0, .ref g_wasMany, .ref g_wasLoss, .ref g_wasValue, .ref g_wasNumber, .ref g_path, .int 0, .ref g_heavyValue, .ref g_heavyTimes, .int 0, .ref g_fewest, .ref g_which, .ref g_met, .int 0]))]) [0] rfl
  have hKc := hK.sub (tys' := []) [] rfl
  refine vp_callSi (W.runV (As := [.int p0, .int p1]) (rest := []) ⟨hx, hb, hml, hown, hts⟩ (c_X5_isRange l dC dI h0 g_row g_many g_loss g_less g_voteValue g_voteNumber g_allValue g_allNumber g_nodeL g_nodeR g_part g_wasMany g_wasLoss g_wasValue g_wasNumber g_path g_heavyValue g_heavyTimes g_fewest g_which g_met th p0 p1) (cwV 2 hts gX5_asked_X5_isRange rfl rfl rfl (by decide +kernel) ⟨Nat.le_of_ble_eq_true rfl, Nat.le_of_ble_eq_true rfl⟩) ⟨fun a U g mk q => by obtain ⟨q0, qP, qK⟩ := q; exact ⟨q0, qP, va_K.moved (u := U) (U := U.calling g mk a) (Vm.Alike.refl U.vm) qK⟩, va_recv hKc hPc (ci := 5) (q0 := 0) rfl rfl, fun U hU hW => ⟨rfl, by rw [hU]; exact hPc, va_K.moved hW.alike hKc⟩⟩ rfl rfl hl.1 rfl (lv_room (Nat.le_of_ble_eq_true rfl)) dX5_asked_3 ⟨Nat.le_of_ble_eq_true rfl, Nat.le_of_ble_eq_true rfl⟩) (fun r_1 w_1 => ?_)
  rcases w_1 with ⟨rfl, w_1⟩
  · have w_1 : True := w_1
    refine lv_if_ne (tgt := 11) hx hb dX5_asked_6 (by decide) (fun c_2 => ?_) (fun c_2 => ?_)
    · exact absurd c_2 (by decide)
    · refine lv_iconst (v := (-1)) hx hb dX5_asked_9 (by decide) ?_
      exact W.iret (v := (-1)) hx hb hr (fun t ht hW => ⟨(-1), rfl, rfl, ht⟩) (fun q hq => by cases hq) dX5_asked_10

set_option maxHeartbeats 4000000 in
set_option maxRecDepth 100000 in
theorem c_X5_laysAll (l : Launch) (dC : Nat → ClassId) (dI : Nat → Nat → Nat) (h0 : Nat) (g_row : Nat) (g_many : Nat) (g_loss : Nat) (g_less : Nat) (g_voteValue : Nat) (g_voteNumber : Nat) (g_allValue : Nat) (g_allNumber : Nat) (g_nodeL : Nat) (g_nodeR : Nat) (g_part : Nat) (g_wasMany : Nat) (g_wasLoss : Nat) (g_wasValue : Nat) (g_wasNumber : Nat) (g_path : Nat) (g_heavyValue : Nat) (g_heavyTimes : Nat) (g_fewest : Nat) (g_which : Nat) (g_met : Nat) (th : Int32) (p0 : Int32) (sz : Nat) : Met l yX5_laysAll wsX5_laysAll ({ frames := 0, cells := 0, slots := 0, locals := 0 }) (va_Pc [.ref h0, .int p0] (fun U => U.heap.size = sz ∧ va_P (dC, dI) vwCl [(h0, .inr (5, [.ref g_row, .int 0, .int 2, .int th, .ref g_many, .ref g_loss, .ref g_less, .ref g_voteValue, .ref g_voteNumber, .ref g_allValue, .ref g_allNumber, .int 0, .ref g_nodeL, .ref g_nodeR, .int 0, .ref g_part, .int 0, .ref g_wasMany, .ref g_wasLoss, .ref g_wasValue, .ref g_wasNumber, .ref g_path, .int 0, .ref g_heavyValue, .ref g_heavyTimes, .int 0, .ref g_fewest, .ref g_which, .ref g_met, .int 0]))] U.heap ∧ va_K (dC, dI) vwCl [] U ∧ va_D (fun _ => True) [(h0, .inr (5, [.ref g_row, .int 0, .int 2, .int th, .ref g_many, .ref g_loss, .ref g_less, .ref g_voteValue, .ref g_voteNumber, .ref g_allValue, .ref g_allNumber, .int 0, .ref g_nodeL, .ref g_nodeR, .int 0, .ref g_part, .int 0, .ref g_wasMany, .ref g_wasLoss, .ref g_wasValue, .ref g_wasNumber, .ref g_path, .int 0, .ref g_heavyValue, .ref g_heavyTimes, .int 0, .ref g_fewest, .ref g_which, .ref g_met, .int 0]))])) (va_Qv (fun _ : Unit => True) (fun (_ : Unit) (t : State) => va_P (dC, dI) vwCl [(h0, .inr (5, [.ref g_row, .int 0, .int 2, .int th, .ref g_many, .ref g_loss, .ref g_less, .ref g_voteValue, .ref g_voteNumber, .ref g_allValue, .ref g_allNumber, .int 0, .ref g_nodeL, .ref g_nodeR, .int 0, .ref g_part, .int 0, .ref g_wasMany, .ref g_wasLoss, .ref g_wasValue, .ref g_wasNumber, .ref g_path, .int 0, .ref g_heavyValue, .ref g_heavyTimes, .int 0, .ref g_fewest, .ref g_which, .ref g_met, .int 0]))] t.heap ∧ va_K (dC, dI) vwCl [] t ∧ va_D (va_A [(h0, .inr (5, [.ref g_row, .int 0, .int 2, .int th, .ref g_many, .ref g_loss, .ref g_less, .ref g_voteValue, .ref g_voteNumber, .ref g_allValue, .ref g_allNumber, .int 0, .ref g_nodeL, .ref g_nodeR, .int 0, .ref g_part, .int 0, .ref g_wasMany, .ref g_wasLoss, .ref g_wasValue, .ref g_wasNumber, .ref g_path, .int 0, .ref g_heavyValue, .ref g_heavyTimes, .int 0, .ref g_fewest, .ref g_which, .ref g_met, .int 0]))] sz) [(h0, .inr (5, [.ref g_row, .int 0, .int 2, .int th, .ref g_many, .ref g_loss, .ref g_less, .ref g_voteValue, .ref g_voteNumber, .ref g_allValue, .ref g_allNumber, .int 0, .ref g_nodeL, .ref g_nodeR, .int 0, .ref g_part, .int 0, .ref g_wasMany, .ref g_wasLoss, .ref g_wasValue, .ref g_wasNumber, .ref g_path, .int 0, .ref g_heavyValue, .ref g_heavyTimes, .int 0, .ref g_fewest, .ref g_which, .ref g_met, .int 0]))]) (va_A [(h0, .inr (5, [.ref g_row, .int 0, .int 2, .int th, .ref g_many, .ref g_loss, .ref g_less, .ref g_voteValue, .ref g_voteNumber, .ref g_allValue, .ref g_allNumber, .int 0, .ref g_nodeL, .ref g_nodeR, .int 0, .ref g_part, .int 0, .ref g_wasMany, .ref g_wasLoss, .ref g_wasValue, .ref g_wasNumber, .ref g_path, .int 0, .ref g_heavyValue, .ref g_heavyTimes, .int 0, .ref g_fewest, .ref g_which, .ref g_met, .int 0]))] sz)) 0 0 (va_A [(h0, .inr (5, [.ref g_row, .int 0, .int 2, .int th, .ref g_many, .ref g_loss, .ref g_less, .ref g_voteValue, .ref g_voteNumber, .ref g_allValue, .ref g_allNumber, .int 0, .ref g_nodeL, .ref g_nodeR, .int 0, .ref g_part, .int 0, .ref g_wasMany, .ref g_wasLoss, .ref g_wasValue, .ref g_wasNumber, .ref g_path, .int 0, .ref g_heavyValue, .ref g_heavyTimes, .int 0, .ref g_fewest, .ref g_which, .ref g_met, .int 0]))] sz) := by
  refine Met.ofW (cc := cX5_laysAll) (maxL := 2) (ret := none) (by decide) rfl ?_
  intro p e s m args below meth c s₁ B hml hv
  obtain ⟨rfl, hsz, hP, hK, hD0⟩ := hv
  have hx := B.exec
  have hb := B.bytes
  have hr := B.returns
  have hts := atoms_spec (ws := wsX5_laysAll) B.pre
  have hown : s.vm.findClass RX5 = some m.cls := findClass_of_methodNamed B.named
  have hlocks := B.notSynchronized
  subst hsz
  have hD := hD0.self (sz := s.heap.size)
  generalize hAe : va_A [(h0, .inr (5, [.ref g_row, .int 0, .int 2, .int th, .ref g_many, .ref g_loss, .ref g_less, .ref g_voteValue, .ref g_voteNumber, .ref g_allValue, .ref g_allNumber, .int 0, .ref g_nodeL, .ref g_nodeR, .int 0, .ref g_part, .int 0, .ref g_wasMany, .ref g_wasLoss, .ref g_wasValue, .ref g_wasNumber, .ref g_path, .int 0, .ref g_heavyValue, .ref g_heavyTimes, .int 0, .ref g_fewest, .ref g_which, .ref g_met, .int 0]))] s.heap.size = A at hD ⊢
  have hA : ∀ q : Nat, s.heap.size ≤ q → A q := fun q h => by rw [← hAe]; exact Or.inr h
  have hS : va_S A s.heap s.heap [] := va_S.rf
  have hP : va_P (dC, dI) vwCl [(h0, .inr (5, [.ref g_row, .int 0, .int 2, .int th, .ref g_many, .ref g_loss, .ref g_less, .ref g_voteValue, .ref g_voteNumber, .ref g_allValue, .ref g_allNumber, .int 0, .ref g_nodeL, .ref g_nodeR, .int 0, .ref g_part, .int 0, .ref g_wasMany, .ref g_wasLoss, .ref g_wasValue, .ref g_wasNumber, .ref g_path, .int 0, .ref g_heavyValue, .ref g_heavyTimes, .int 0, .ref g_fewest, .ref g_which, .ref g_met, .int 0]))] s.heap := hP
  have hl := lv_entry ([.ref h0, .int p0]) (n := 2) (Nat.le_of_ble_eq_true rfl)
  rw [lg_entry_eq]
  generalize (lg_sl ([.ref h0, .int p0]) ++ List.replicate (2 - (lg_sl ([.ref h0, .int p0])).length) Slot.unset).toArray = ls at hl ⊢
  have hl : lv_has ls 2 [(0, .ref h0), (1, .int p0)] := hl
  have hf_101 := hts (.fieldLink RX5 101 "MajorityIndexModel" "nodes" "I") (by decide +kernel)
  have hi_5 : ∀ w ∈ u_ws RX5 TX5 30, w ∈ wsX5_laysAll := by decide +kernel
  have hf_84 := hts (.fieldLink RX5 84 "MajorityIndexModel" "n" "I") (by decide +kernel)
  refine lv_aload_n hx hb dX5_laysAll_0 rfl (lv_at hl 0 rfl) ?_
  refine lv_iconst (v := 0) hx hb dX5_laysAll_1 (by decide) ?_
  refine va_put (D := (dC, dI)) (ci := 5) (v := .int 0) (ty := .int) (C := RX5) (T := TX5) (N := 30) hx hb hts hi_5 tyX5 tyX5_ok nmX5 hown hK hP hD hS 0 rfl rfl 14 (by decide) hf_101 (fun _ h9 => h9) rfl (by decide +kernel) rfl rfl (Nat.le_of_ble_eq_true rfl) dX5_laysAll_2 (fun H locs hP hD hS => ?_)
  have hP : va_P (dC, dI) vwCl [(h0, .inr (5, [.ref g_row, .int 0, .int 2, .int th, .ref g_many, .ref g_loss, .ref g_less, .ref g_voteValue, .ref g_voteNumber, .ref g_allValue, .ref g_allNumber, .int 0, .ref g_nodeL, .ref g_nodeR, .int 0, .ref g_part, .int 0, .ref g_wasMany, .ref g_wasLoss, .ref g_wasValue, .ref g_wasNumber, .ref g_path, .int 0, .ref g_heavyValue, .ref g_heavyTimes, .int 0, .ref g_fewest, .ref g_which, .ref g_met, .int 0]))] H := hP
  have hD : va_D A [(h0, .inr (5, [.ref g_row, .int 0, .int 2, .int th, .ref g_many, .ref g_loss, .ref g_less, .ref g_voteValue, .ref g_voteNumber, .ref g_allValue, .ref g_allNumber, .int 0, .ref g_nodeL, .ref g_nodeR, .int 0, .ref g_part, .int 0, .ref g_wasMany, .ref g_wasLoss, .ref g_wasValue, .ref g_wasNumber, .ref g_path, .int 0, .ref g_heavyValue, .ref g_heavyTimes, .int 0, .ref g_fewest, .ref g_which, .ref g_met, .int 0]))] := hD
  refine lv_aload_n hx hb dX5_laysAll_5 rfl (lv_at hl 0 rfl) ?_
  refine va_get (D := (dC, dI)) (ci := 5) (v := .int 0) (C := RX5) (T := TX5) (N := 30) hx hb hts hi_5 hown hK hP 0 rfl rfl 1 (by decide) hf_84 (fun _ h9 => h9) rfl dX5_laysAll_6 ?_
  refine lv_if_le (tgt := 23) hx hb dX5_laysAll_9 (by decide) (fun c_1 => ?_) (fun c_1 => ?_)
  · have hP9 := hP.sub (ws' := [(h0, .inr (5, [.ref g_row, .int 0, .int 2, .int th, .ref g_many, .ref g_loss, .ref g_less, .ref g_voteValue, .ref g_voteNumber, .ref g_allValue, .ref g_allNumber, .int 0, .ref g_nodeL, .ref g_nodeR, .int 0, .ref g_part, .int 0, .ref g_wasMany, .ref g_wasLoss, .ref g_wasValue, .ref g_wasNumber, .ref g_path, .int 0, .ref g_heavyValue, .ref g_heavyTimes, .int 0, .ref g_fewest, .ref g_which, .ref g_met, .int 0]))]) [0] rfl
    have hD9 := hD.sub (ws' := [(h0, .inr (5, [.ref g_row, .int 0, .int 2, .int th, .ref g_many, .ref g_loss, .ref g_less, .ref g_voteValue, .ref g_voteNumber, .ref g_allValue, .ref g_allNumber, .int 0, .ref g_nodeL, .ref g_nodeR, .int 0, .ref g_part, .int 0, .ref g_wasMany, .ref g_wasLoss, .ref g_wasValue, .ref g_wasNumber, .ref g_path, .int 0, .ref g_heavyValue, .ref g_heavyTimes, .int 0, .ref g_fewest, .ref g_which, .ref g_met, .int 0]))]) [0] (by decide) rfl
    have hK9 := hK.sub (tys' := []) [] rfl
    exact W.vret hx hb hr (fun t ht hW => ⟨⟨(), rfl, trivial, by rw [ht]; exact hP9, va_K.moved hW.alike hK9, hD9⟩, hS.F ht⟩) hS.2.2 dX5_laysAll_23
  · exact absurd c_1 (by decide)

set_option maxHeartbeats 4000000 in
set_option maxRecDepth 100000 in
theorem c_X5_laysNumbers (l : Launch) (dC : Nat → ClassId) (dI : Nat → Nat → Nat) (h0 : Nat) (g_row : Nat) (g_many : Nat) (g_loss : Nat) (g_less : Nat) (g_voteValue : Nat) (g_voteNumber : Nat) (g_allValue : Nat) (g_allNumber : Nat) (g_nodeL : Nat) (g_nodeR : Nat) (g_part : Nat) (g_wasMany : Nat) (g_wasLoss : Nat) (g_wasValue : Nat) (g_wasNumber : Nat) (g_path : Nat) (g_heavyValue : Nat) (g_heavyTimes : Nat) (g_fewest : Nat) (g_which : Nat) (g_met : Nat) (th : Int32) : Met l yX5_laysNumbers wsX5_laysNumbers ({ frames := 0, cells := 0, slots := 0, locals := 0 }) (va_Pc [.ref h0] (fun U => va_P (dC, dI) vwCl [(h0, .inr (5, [.ref g_row, .int 0, .int 2, .int th, .ref g_many, .ref g_loss, .ref g_less, .ref g_voteValue, .ref g_voteNumber, .ref g_allValue, .ref g_allNumber, .int 0, .ref g_nodeL, .ref g_nodeR, .int 0, .ref g_part, .int 0, .ref g_wasMany, .ref g_wasLoss, .ref g_wasValue, .ref g_wasNumber, .ref g_path, .int 0, .ref g_heavyValue, .ref g_heavyTimes, .int 0, .ref g_fewest, .ref g_which, .ref g_met, .int 0]))] U.heap ∧ va_K (dC, dI) vwCl [] U)) (va_Sv (fun _ => True)) 0 0 (fun _ => False) := by
  refine Met.ofW (cc := cX5_laysNumbers) (maxL := 5) (ret := none) (by decide) rfl ?_
  intro p e s m args below meth c s₁ B hml hv
  obtain ⟨rfl, hP, hK⟩ := hv
  have hx := B.exec
  have hb := B.bytes
  have hr := B.returns
  have hts := atoms_spec (ws := wsX5_laysNumbers) B.pre
  have hown : s.vm.findClass RX5 = some m.cls := findClass_of_methodNamed B.named
  have hlocks := B.notSynchronized
  have hP : va_P (dC, dI) vwCl [(h0, .inr (5, [.ref g_row, .int 0, .int 2, .int th, .ref g_many, .ref g_loss, .ref g_less, .ref g_voteValue, .ref g_voteNumber, .ref g_allValue, .ref g_allNumber, .int 0, .ref g_nodeL, .ref g_nodeR, .int 0, .ref g_part, .int 0, .ref g_wasMany, .ref g_wasLoss, .ref g_wasValue, .ref g_wasNumber, .ref g_path, .int 0, .ref g_heavyValue, .ref g_heavyTimes, .int 0, .ref g_fewest, .ref g_which, .ref g_met, .int 0]))] s.heap := hP
  have hl := lv_entry ([.ref h0]) (n := 5) (Nat.le_of_ble_eq_true rfl)
  rw [lg_entry_eq]
  generalize (lg_sl ([.ref h0]) ++ List.replicate (5 - (lg_sl ([.ref h0])).length) Slot.unset).toArray = ls at hl ⊢
  have hl : lv_has ls 5 [(0, .ref h0)] := hl
  have hf_84 := hts (.fieldLink RX5 84 "MajorityIndexModel" "n" "I") (by decide +kernel)
  have hi_5 : ∀ w ∈ u_ws RX5 TX5 30, w ∈ wsX5_laysNumbers := by decide +kernel
  refine lv_iconst (v := 0) hx hb dX5_laysNumbers_0 (by decide) ?_
  refine lv_istore_n (lv' := [(1, .int 0), (0, .ref h0)]) hx hb dX5_laysNumbers_1 rfl hl (by decide) rfl (fun ls hl => ?_)
  refine lv_iconst (v := 0) hx hb dX5_laysNumbers_2 (by decide) ?_
  refine lv_istore_n (lv' := [(2, .int 0), (1, .int 0), (0, .ref h0)]) hx hb dX5_laysNumbers_3 rfl hl (by decide) rfl (fun ls hl => ?_)
  refine lv_iload_n hx hb dX5_laysNumbers_4 rfl (lv_at hl 0 rfl) ?_
  refine lv_aload_n hx hb dX5_laysNumbers_5 rfl (lv_at hl 2 rfl) ?_
  refine va_get (D := (dC, dI)) (ci := 5) (v := .int 0) (C := RX5) (T := TX5) (N := 30) hx hb hts hi_5 hown hK hP 0 rfl rfl 1 (by decide) hf_84 (fun _ h9 => h9) rfl dX5_laysNumbers_6 ?_
  refine lv_icmp_ge (tgt := 85) hx hb dX5_laysNumbers_9 (by decide) (fun c_1 => ?_) (fun c_1 => ?_)
  · exact W.vret hx hb hr (fun t ht hW => ⟨rfl, trivial, ht⟩) (fun q hq => by cases hq) dX5_laysNumbers_85
  · exact absurd c_1 (by decide)

set_option maxHeartbeats 4000000 in
set_option maxRecDepth 100000 in
theorem c_X5_nodesWithMajority (l : Launch) (dC : Nat → ClassId) (dI : Nat → Nat → Nat) (h0 : Nat) (g_row : Nat) (g_many : Nat) (g_loss : Nat) (g_less : Nat) (g_voteValue : Nat) (g_voteNumber : Nat) (g_allValue : Nat) (g_allNumber : Nat) (g_nodeL : Nat) (g_nodeR : Nat) (g_part : Nat) (g_wasMany : Nat) (g_wasLoss : Nat) (g_wasValue : Nat) (g_wasNumber : Nat) (g_path : Nat) (g_heavyValue : Nat) (g_heavyTimes : Nat) (g_fewest : Nat) (g_which : Nat) (g_met : Nat) (th : Int32) : Met l yX5_nodesWithMajority wsX5_nodesWithMajority ({ frames := 0, cells := 0, slots := 0, locals := 0 }) (va_Pc [.ref h0] (fun U => va_P (dC, dI) vwCl [(h0, .inr (5, [.ref g_row, .int 0, .int 2, .int th, .ref g_many, .ref g_loss, .ref g_less, .ref g_voteValue, .ref g_voteNumber, .ref g_allValue, .ref g_allNumber, .int 0, .ref g_nodeL, .ref g_nodeR, .int 0, .ref g_part, .int 0, .ref g_wasMany, .ref g_wasLoss, .ref g_wasValue, .ref g_wasNumber, .ref g_path, .int 0, .ref g_heavyValue, .ref g_heavyTimes, .int 0, .ref g_fewest, .ref g_which, .ref g_met, .int 0]))] U.heap ∧ va_K (dC, dI) vwCl [] U)) (vp_Si (fun r : Int32 => r = 0)) 0 0 (fun _ => False) := by
  refine Met.ofW (cc := cX5_nodesWithMajority) (maxL := 3) (ret := (some .int)) (by decide) rfl ?_
  intro p e s m args below meth c s₁ B hml hv
  obtain ⟨rfl, hP, hK⟩ := hv
  have hx := B.exec
  have hb := B.bytes
  have hr := B.returns
  have hts := atoms_spec (ws := wsX5_nodesWithMajority) B.pre
  have hown : s.vm.findClass RX5 = some m.cls := findClass_of_methodNamed B.named
  have hlocks := B.notSynchronized
  have hP : va_P (dC, dI) vwCl [(h0, .inr (5, [.ref g_row, .int 0, .int 2, .int th, .ref g_many, .ref g_loss, .ref g_less, .ref g_voteValue, .ref g_voteNumber, .ref g_allValue, .ref g_allNumber, .int 0, .ref g_nodeL, .ref g_nodeR, .int 0, .ref g_part, .int 0, .ref g_wasMany, .ref g_wasLoss, .ref g_wasValue, .ref g_wasNumber, .ref g_path, .int 0, .ref g_heavyValue, .ref g_heavyTimes, .int 0, .ref g_fewest, .ref g_which, .ref g_met, .int 0]))] s.heap := hP
  have hl := lv_entry ([.ref h0]) (n := 3) (Nat.le_of_ble_eq_true rfl)
  rw [lg_entry_eq]
  generalize (lg_sl ([.ref h0]) ++ List.replicate (3 - (lg_sl ([.ref h0])).length) Slot.unset).toArray = ls at hl ⊢
  have hl : lv_has ls 3 [(0, .ref h0)] := hl
  have hf_101 := hts (.fieldLink RX5 101 "MajorityIndexModel" "nodes" "I") (by decide +kernel)
  have hi_5 : ∀ w ∈ u_ws RX5 TX5 30, w ∈ wsX5_nodesWithMajority := by decide +kernel
  refine lv_iconst (v := 0) hx hb dX5_nodesWithMajority_0 (by decide) ?_
  refine lv_istore_n (lv' := [(1, .int 0), (0, .ref h0)]) hx hb dX5_nodesWithMajority_1 rfl hl (by decide) rfl (fun ls hl => ?_)
  refine lv_iconst (v := 0) hx hb dX5_nodesWithMajority_2 (by decide) ?_
  refine lv_istore_n (lv' := [(2, .int 0), (1, .int 0), (0, .ref h0)]) hx hb dX5_nodesWithMajority_3 rfl hl (by decide) rfl (fun ls hl => ?_)
  refine lv_iload_n hx hb dX5_nodesWithMajority_4 rfl (lv_at hl 0 rfl) ?_
  refine lv_aload_n hx hb dX5_nodesWithMajority_5 rfl (lv_at hl 2 rfl) ?_
  refine va_get (D := (dC, dI)) (ci := 5) (v := .int 0) (C := RX5) (T := TX5) (N := 30) hx hb hts hi_5 hown hK hP 0 rfl rfl 14 (by decide) hf_101 (fun _ h9 => h9) rfl dX5_nodesWithMajority_6 ?_
  refine lv_icmp_ge (tgt := 42) hx hb dX5_nodesWithMajority_9 (by decide) (fun c_1 => ?_) (fun c_1 => ?_)
  · refine lv_iload_n hx hb dX5_nodesWithMajority_42 rfl (lv_at hl 1 rfl) ?_
    exact W.iret (v := 0) hx hb hr (fun t ht hW => ⟨0, rfl, rfl, ht⟩) (fun q hq => by cases hq) dX5_nodesWithMajority_43
  · exact absurd c_1 (by decide)

set_option maxHeartbeats 4000000 in
set_option maxRecDepth 100000 in
theorem c_X5_deep (l : Launch) (dC : Nat → ClassId) (dI : Nat → Nat → Nat) (h0 : Nat) (g_row : Nat) (g_many : Nat) (g_loss : Nat) (g_less : Nat) (g_voteValue : Nat) (g_voteNumber : Nat) (g_allValue : Nat) (g_allNumber : Nat) (g_nodeL : Nat) (g_nodeR : Nat) (g_part : Nat) (g_wasMany : Nat) (g_wasLoss : Nat) (g_wasValue : Nat) (g_wasNumber : Nat) (g_path : Nat) (g_heavyValue : Nat) (g_heavyTimes : Nat) (g_fewest : Nat) (g_which : Nat) (g_met : Nat) (th : Int32) : Met l yX5_deep wsX5_deep ({ frames := 0, cells := 0, slots := 0, locals := 0 }) (va_Pc [.ref h0, .int 0, .int 0] (fun U => va_P (dC, dI) vwCl [(h0, .inr (5, [.ref g_row, .int 0, .int 2, .int th, .ref g_many, .ref g_loss, .ref g_less, .ref g_voteValue, .ref g_voteNumber, .ref g_allValue, .ref g_allNumber, .int 0, .ref g_nodeL, .ref g_nodeR, .int 0, .ref g_part, .int 0, .ref g_wasMany, .ref g_wasLoss, .ref g_wasValue, .ref g_wasNumber, .ref g_path, .int 0, .ref g_heavyValue, .ref g_heavyTimes, .int 0, .ref g_fewest, .ref g_which, .ref g_met, .int 0]))] U.heap ∧ va_K (dC, dI) vwCl [] U)) (vp_Si (fun r : Int32 => r = 0)) 0 0 (fun _ => False) := by
  refine Met.ofW (cc := cX5_deep) (maxL := 6) (ret := (some .int)) (by decide) rfl ?_
  intro p e s m args below meth c s₁ B hml hv
  obtain ⟨rfl, hP, hK⟩ := hv
  have hx := B.exec
  have hb := B.bytes
  have hr := B.returns
  have hts := atoms_spec (ws := wsX5_deep) B.pre
  have hown : s.vm.findClass RX5 = some m.cls := findClass_of_methodNamed B.named
  have hlocks := B.notSynchronized
  have hP : va_P (dC, dI) vwCl [(h0, .inr (5, [.ref g_row, .int 0, .int 2, .int th, .ref g_many, .ref g_loss, .ref g_less, .ref g_voteValue, .ref g_voteNumber, .ref g_allValue, .ref g_allNumber, .int 0, .ref g_nodeL, .ref g_nodeR, .int 0, .ref g_part, .int 0, .ref g_wasMany, .ref g_wasLoss, .ref g_wasValue, .ref g_wasNumber, .ref g_path, .int 0, .ref g_heavyValue, .ref g_heavyTimes, .int 0, .ref g_fewest, .ref g_which, .ref g_met, .int 0]))] s.heap := hP
  have hl := lv_entry ([.ref h0, .int 0, .int 0]) (n := 6) (Nat.le_of_ble_eq_true rfl)
  rw [lg_entry_eq]
  generalize (lg_sl ([.ref h0, .int 0, .int 0]) ++ List.replicate (6 - (lg_sl ([.ref h0, .int 0, .int 0])).length) Slot.unset).toArray = ls at hl ⊢
  have hl : lv_has ls 6 [(0, .ref h0), (1, .int 0), (2, .int 0)] := hl
  refine lv_iload_n hx hb dX5_deep_0 rfl (lv_at hl 2 rfl) ?_
  refine lv_iload_n hx hb dX5_deep_1 rfl (lv_at hl 1 rfl) ?_
  refine lv_isub hx hb dX5_deep_2 ?_
  refine W.eq (g2 := F0 m 3 ls [.int 0]) (by first | rfl | (congr 2; decide)) ?_
  refine lv_iconst (v := 2) hx hb dX5_deep_3 (by decide) ?_
  refine lv_icmp_ge (tgt := 11) hx hb dX5_deep_4 (by decide) (fun c_1 => ?_) (fun c_1 => ?_)
  · exact absurd c_1 (by decide)
  · refine lv_iload_n hx hb dX5_deep_7 rfl (lv_at hl 2 rfl) ?_
    refine lv_iload_n hx hb dX5_deep_8 rfl (lv_at hl 1 rfl) ?_
    refine lv_isub hx hb dX5_deep_9 ?_
    refine W.eq (g2 := F0 m 10 ls [.int 0]) (by first | rfl | (congr 2; decide)) ?_
    exact W.iret (v := 0) hx hb hr (fun t ht hW => ⟨0, rfl, rfl, ht⟩) (fun q hq => by cases hq) dX5_deep_10
