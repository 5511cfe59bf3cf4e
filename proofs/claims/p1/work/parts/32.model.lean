set_option maxHeartbeats 4000000 in
set_option maxRecDepth 100000 in
/-- set of the reference, fresh -/
theorem c_X5_set (l : Launch) (dC : Nat → ClassId) (dI : Nat → Nat → Nat) (h0 : Nat) (g_row : Nat) (g_many : Nat) (g_loss : Nat) (g_less : Nat) (g_voteValue : Nat) (g_voteNumber : Nat) (g_allValue : Nat) (g_allNumber : Nat) (g_nodeL : Nat) (g_nodeR : Nat) (g_part : Nat) (g_wasMany : Nat) (g_wasLoss : Nat) (g_wasValue : Nat) (g_wasNumber : Nat) (g_path : Nat) (g_heavyValue : Nat) (g_heavyTimes : Nat) (g_fewest : Nat) (g_which : Nat) (g_met : Nat) (p0 : Int32) (p1 : Int32) (sz : Nat) : Met l yX5_set wsX5_set ({ frames := 2, cells := 0, slots := 0, locals := 90 }) (va_Pc [.ref h0, .int p0, .int p1] (fun U => U.heap.size = sz ∧ va_P (dC, dI) vwCl [(h0, .inr (5, [.ref g_row, .int 0, .int 2, .int 0, .ref g_many, .ref g_loss, .ref g_less, .ref g_voteValue, .ref g_voteNumber, .ref g_allValue, .ref g_allNumber, .int 0, .ref g_nodeL, .ref g_nodeR, .int 0, .ref g_part, .int 0, .ref g_wasMany, .ref g_wasLoss, .ref g_wasValue, .ref g_wasNumber, .ref g_path, .int 0, .ref g_heavyValue, .ref g_heavyTimes, .int 0, .ref g_fewest, .ref g_which, .ref g_met, .int 0]))] U.heap ∧ va_K (dC, dI) vwCl [] U ∧ va_D (fun _ => True) [(h0, .inr (5, [.ref g_row, .int 0, .int 2, .int 0, .ref g_many, .ref g_loss, .ref g_less, .ref g_voteValue, .ref g_voteNumber, .ref g_allValue, .ref g_allNumber, .int 0, .ref g_nodeL, .ref g_nodeR, .int 0, .ref g_part, .int 0, .ref g_wasMany, .ref g_wasLoss, .ref g_wasValue, .ref g_wasNumber, .ref g_path, .int 0, .ref g_heavyValue, .ref g_heavyTimes, .int 0, .ref g_fewest, .ref g_which, .ref g_met, .int 0]))])) (va_Qi (fun (r : Int32) (_ : Unit) => r = (-1)) (fun (_ : Unit) (t : State) => va_P (dC, dI) vwCl [] t.heap ∧ va_K (dC, dI) vwCl [] t ∧ va_D (va_A [(h0, .inr (5, [.ref g_row, .int 0, .int 2, .int 0, .ref g_many, .ref g_loss, .ref g_less, .ref g_voteValue, .ref g_voteNumber, .ref g_allValue, .ref g_allNumber, .int 0, .ref g_nodeL, .ref g_nodeR, .int 0, .ref g_part, .int 0, .ref g_wasMany, .ref g_wasLoss, .ref g_wasValue, .ref g_wasNumber, .ref g_path, .int 0, .ref g_heavyValue, .ref g_heavyTimes, .int 0, .ref g_fewest, .ref g_which, .ref g_met, .int 0]))] sz) []) (va_A [(h0, .inr (5, [.ref g_row, .int 0, .int 2, .int 0, .ref g_many, .ref g_loss, .ref g_less, .ref g_voteValue, .ref g_voteNumber, .ref g_allValue, .ref g_allNumber, .int 0, .ref g_nodeL, .ref g_nodeR, .int 0, .ref g_part, .int 0, .ref g_wasMany, .ref g_wasLoss, .ref g_wasValue, .ref g_wasNumber, .ref g_path, .int 0, .ref g_heavyValue, .ref g_heavyTimes, .int 0, .ref g_fewest, .ref g_which, .ref g_met, .int 0]))] sz)) 0 0 (va_A [(h0, .inr (5, [.ref g_row, .int 0, .int 2, .int 0, .ref g_many, .ref g_loss, .ref g_less, .ref g_voteValue, .ref g_voteNumber, .ref g_allValue, .ref g_allNumber, .int 0, .ref g_nodeL, .ref g_nodeR, .int 0, .ref g_part, .int 0, .ref g_wasMany, .ref g_wasLoss, .ref g_wasValue, .ref g_wasNumber, .ref g_path, .int 0, .ref g_heavyValue, .ref g_heavyTimes, .int 0, .ref g_fewest, .ref g_which, .ref g_met, .int 0]))] sz) := by
  refine Met.ofW (cc := cX5_set) (maxL := 3) (ret := (some .int)) (by decide) rfl ?_
  intro p e s m args below meth c s₁ B hml hv
  obtain ⟨rfl, hsz, hP, hK, hD0⟩ := hv
  have hx := B.exec
  have hb := B.bytes
  have hr := B.returns
  have hts := atoms_spec (ws := wsX5_set) B.pre
  have hown : s.vm.findClass RX5 = some m.cls := findClass_of_methodNamed B.named
  have hlocks := B.notSynchronized
  subst hsz
  have hD := hD0.self (sz := s.heap.size)
  generalize hAe : va_A [(h0, .inr (5, [.ref g_row, .int 0, .int 2, .int 0, .ref g_many, .ref g_loss, .ref g_less, .ref g_voteValue, .ref g_voteNumber, .ref g_allValue, .ref g_allNumber, .int 0, .ref g_nodeL, .ref g_nodeR, .int 0, .ref g_part, .int 0, .ref g_wasMany, .ref g_wasLoss, .ref g_wasValue, .ref g_wasNumber, .ref g_path, .int 0, .ref g_heavyValue, .ref g_heavyTimes, .int 0, .ref g_fewest, .ref g_which, .ref g_met, .int 0]))] s.heap.size = A at hD ⊢
  have hA : ∀ q : Nat, s.heap.size ≤ q → A q := fun q h => by rw [← hAe]; exact Or.inr h
  have hS : va_S A s.heap s.heap [] := va_S.rf
  have hP : va_P (dC, dI) vwCl [(h0, .inr (5, [.ref g_row, .int 0, .int 2, .int 0, .ref g_many, .ref g_loss, .ref g_less, .ref g_voteValue, .ref g_voteNumber, .ref g_allValue, .ref g_allNumber, .int 0, .ref g_nodeL, .ref g_nodeR, .int 0, .ref g_part, .int 0, .ref g_wasMany, .ref g_wasLoss, .ref g_wasValue, .ref g_wasNumber, .ref g_path, .int 0, .ref g_heavyValue, .ref g_heavyTimes, .int 0, .ref g_fewest, .ref g_which, .ref g_met, .int 0]))] s.heap := hP
  have hl := lv_entry ([.ref h0, .int p0, .int p1]) (n := 3) (Nat.le_of_ble_eq_true rfl)
  rw [lg_entry_eq]
  generalize (lg_sl ([.ref h0, .int p0, .int p1]) ++ List.replicate (3 - (lg_sl ([.ref h0, .int p0, .int p1])).length) Slot.unset).toArray = ls at hl ⊢
  have hl : lv_has ls 3 [(0, .ref h0), (1, .int p0), (2, .int p1)] := hl
  have hf_77 := hts (.fieldLink RX5 77 "MajorityIndexModel" "thrown" "I") (by decide +kernel)
  have hi_5 : ∀ w ∈ u_ws RX5 TX5 30, w ∈ wsX5_set := by decide +kernel
  refine lv_aload_n hx hb dX5_set_0 rfl (lv_at hl 0 rfl) ?_
  refine lv_iconst (v := 0) hx hb dX5_set_1 (by decide) ?_
  refine va_put (D := (dC, dI)) (ci := 5) (v := .int 0) (ty := .int) (C := RX5) (T := TX5) (N := 30) hx hb hts hi_5 tyX5 tyX5_ok nmX5 hown hK hP hD hS 0 rfl rfl 3 (by decide) hf_77 (fun _ h9 => h9) rfl (by decide +kernel) rfl rfl (Nat.le_of_ble_eq_true rfl) dX5_set_2 (fun H locs hP hD hS => ?_)
  have hP : va_P (dC, dI) vwCl [(h0, .inr (5, [.ref g_row, .int 0, .int 2, .int 0, .ref g_many, .ref g_loss, .ref g_less, .ref g_voteValue, .ref g_voteNumber, .ref g_allValue, .ref g_allNumber, .int 0, .ref g_nodeL, .ref g_nodeR, .int 0, .ref g_part, .int 0, .ref g_wasMany, .ref g_wasLoss, .ref g_wasValue, .ref g_wasNumber, .ref g_path, .int 0, .ref g_heavyValue, .ref g_heavyTimes, .int 0, .ref g_fewest, .ref g_which, .ref g_met, .int 0]))] H := hP
  have hD : va_D A [(h0, .inr (5, [.ref g_row, .int 0, .int 2, .int 0, .ref g_many, .ref g_loss, .ref g_less, .ref g_voteValue, .ref g_voteNumber, .ref g_allValue, .ref g_allNumber, .int 0, .ref g_nodeL, .ref g_nodeR, .int 0, .ref g_part, .int 0, .ref g_wasMany, .ref g_wasLoss, .ref g_wasValue, .ref g_wasNumber, .ref g_path, .int 0, .ref g_heavyValue, .ref g_heavyTimes, .int 0, .ref g_fewest, .ref g_which, .ref g_met, .int 0]))] := hD
  refine lv_aload_n hx hb dX5_set_5 rfl (lv_at hl 0 rfl) ?_
  refine lv_iload_n hx hb dX5_set_6 rfl (lv_at hl 1 rfl) ?_
  have hPc := hP.sub (ws' := [(h0, .inr (5, [.ref g_row, .int 0, .int 2, .int 0, .ref g_many, .ref g_loss, .ref g_less, .ref g_voteValue, .ref g_voteNumber, .ref g_allValue, .ref g_allNumber, .int 0, .ref g_nodeL, .ref g_nodeR, .int 0, .ref g_part, .int 0, .ref g_wasMany, .ref g_wasLoss, .ref g_wasValue, .ref g_wasNumber, .ref g_path, .int 0, .ref g_heavyValue, .ref g_heavyTimes, .int 0, .ref g_fewest, .ref g_which, .ref g_met, .int 0]))]) [0] rfl
  have hKc := hK.sub (tys' := []) [] rfl
  refine vp_callSi (W.runV (As := [.int p0]) (rest := []) ⟨hx, hb, hml, hown, hts⟩ (c_X5_isPlace l dC dI h0 g_row g_many g_loss g_less g_voteValue g_voteNumber g_allValue g_allNumber g_nodeL g_nodeR g_part g_wasMany g_wasLoss g_wasValue g_wasNumber g_path g_heavyValue g_heavyTimes g_fewest g_which g_met 0 p0) (cwV 1 hts gX5_set_X5_isPlace rfl rfl rfl (by decide +kernel) ⟨Nat.le_of_ble_eq_true rfl, Nat.le_of_ble_eq_true rfl⟩) ⟨fun a U g mk q => by obtain ⟨q0, qP, qK⟩ := q; exact ⟨q0, qP, va_K.moved (u := U) (U := U.calling g mk a) (Vm.Alike.refl U.vm) qK⟩, va_recv hKc hPc (ci := 5) (q0 := 0) rfl rfl, fun U hU hW => ⟨rfl, by rw [hU]; exact hPc, va_K.moved hW.alike hKc⟩⟩ rfl rfl hl.1 rfl (lv_room (Nat.le_of_ble_eq_true rfl)) dX5_set_7 ⟨Nat.le_of_ble_eq_true rfl, Nat.le_of_ble_eq_true rfl⟩) (fun r_1 w_1 => ?_)
  rcases w_1 with ⟨rfl, w_1⟩
  · have w_1 : True := w_1
    refine lv_if_eq (tgt := 20) hx hb dX5_set_10 (by decide) (fun c_2 => ?_) (fun c_2 => ?_)
    · refine lv_iconst (v := (-1)) hx hb dX5_set_20 (by decide) ?_
      have hP9 := hP.sub (ws' := []) [] rfl
      have hD9 := hD.sub (ws' := []) [] (by decide) rfl
      have hK9 := hK.sub (tys' := []) [] rfl
      exact W.iret (v := (-1)) hx hb hr (fun t ht hW => ⟨⟨(-1), (), rfl, rfl, by rw [ht]; exact hP9, va_K.moved hW.alike hK9, hD9⟩, hS.F ht⟩) hS.2.2 dX5_set_21
    · exact absurd c_2 (by decide)

set_option maxHeartbeats 4000000 in
set_option maxRecDepth 100000 in
/-- fill of the reference, fresh -/
theorem c_X5_fill (l : Launch) (dC : Nat → ClassId) (dI : Nat → Nat → Nat) (h0 : Nat) (g_row : Nat) (g_many : Nat) (g_loss : Nat) (g_less : Nat) (g_voteValue : Nat) (g_voteNumber : Nat) (g_allValue : Nat) (g_allNumber : Nat) (g_nodeL : Nat) (g_nodeR : Nat) (g_part : Nat) (g_wasMany : Nat) (g_wasLoss : Nat) (g_wasValue : Nat) (g_wasNumber : Nat) (g_path : Nat) (g_heavyValue : Nat) (g_heavyTimes : Nat) (g_fewest : Nat) (g_which : Nat) (g_met : Nat) (p0 : Int32) (p1 : Int32) (p2 : Int32) (sz : Nat) : Met l yX5_fill wsX5_fill ({ frames := 1, cells := 0, slots := 0, locals := 45 }) (va_Pc [.ref h0, .int p0, .int p1, .int p2] (fun U => U.heap.size = sz ∧ va_P (dC, dI) vwCl [(h0, .inr (5, [.ref g_row, .int 0, .int 2, .int 0, .ref g_many, .ref g_loss, .ref g_less, .ref g_voteValue, .ref g_voteNumber, .ref g_allValue, .ref g_allNumber, .int 0, .ref g_nodeL, .ref g_nodeR, .int 0, .ref g_part, .int 0, .ref g_wasMany, .ref g_wasLoss, .ref g_wasValue, .ref g_wasNumber, .ref g_path, .int 0, .ref g_heavyValue, .ref g_heavyTimes, .int 0, .ref g_fewest, .ref g_which, .ref g_met, .int 0]))] U.heap ∧ va_K (dC, dI) vwCl [] U ∧ va_D (fun _ => True) [(h0, .inr (5, [.ref g_row, .int 0, .int 2, .int 0, .ref g_many, .ref g_loss, .ref g_less, .ref g_voteValue, .ref g_voteNumber, .ref g_allValue, .ref g_allNumber, .int 0, .ref g_nodeL, .ref g_nodeR, .int 0, .ref g_part, .int 0, .ref g_wasMany, .ref g_wasLoss, .ref g_wasValue, .ref g_wasNumber, .ref g_path, .int 0, .ref g_heavyValue, .ref g_heavyTimes, .int 0, .ref g_fewest, .ref g_which, .ref g_met, .int 0]))])) (va_Qi (fun (r : Int32) (_ : Unit) => r = (-1)) (fun (_ : Unit) (t : State) => va_P (dC, dI) vwCl [] t.heap ∧ va_K (dC, dI) vwCl [] t ∧ va_D (va_A [(h0, .inr (5, [.ref g_row, .int 0, .int 2, .int 0, .ref g_many, .ref g_loss, .ref g_less, .ref g_voteValue, .ref g_voteNumber, .ref g_allValue, .ref g_allNumber, .int 0, .ref g_nodeL, .ref g_nodeR, .int 0, .ref g_part, .int 0, .ref g_wasMany, .ref g_wasLoss, .ref g_wasValue, .ref g_wasNumber, .ref g_path, .int 0, .ref g_heavyValue, .ref g_heavyTimes, .int 0, .ref g_fewest, .ref g_which, .ref g_met, .int 0]))] sz) []) (va_A [(h0, .inr (5, [.ref g_row, .int 0, .int 2, .int 0, .ref g_many, .ref g_loss, .ref g_less, .ref g_voteValue, .ref g_voteNumber, .ref g_allValue, .ref g_allNumber, .int 0, .ref g_nodeL, .ref g_nodeR, .int 0, .ref g_part, .int 0, .ref g_wasMany, .ref g_wasLoss, .ref g_wasValue, .ref g_wasNumber, .ref g_path, .int 0, .ref g_heavyValue, .ref g_heavyTimes, .int 0, .ref g_fewest, .ref g_which, .ref g_met, .int 0]))] sz)) 0 0 (va_A [(h0, .inr (5, [.ref g_row, .int 0, .int 2, .int 0, .ref g_many, .ref g_loss, .ref g_less, .ref g_voteValue, .ref g_voteNumber, .ref g_allValue, .ref g_allNumber, .int 0, .ref g_nodeL, .ref g_nodeR, .int 0, .ref g_part, .int 0, .ref g_wasMany, .ref g_wasLoss, .ref g_wasValue, .ref g_wasNumber, .ref g_path, .int 0, .ref g_heavyValue, .ref g_heavyTimes, .int 0, .ref g_fewest, .ref g_which, .ref g_met, .int 0]))] sz) := by
  refine Met.ofW (cc := cX5_fill) (maxL := 5) (ret := (some .int)) (by decide) rfl ?_
  intro p e s m args below meth c s₁ B hml hv
  obtain ⟨rfl, hsz, hP, hK, hD0⟩ := hv
  have hx := B.exec
  have hb := B.bytes
  have hr := B.returns
  have hts := atoms_spec (ws := wsX5_fill) B.pre
  have hown : s.vm.findClass RX5 = some m.cls := findClass_of_methodNamed B.named
  have hlocks := B.notSynchronized
  subst hsz
  have hD := hD0.self (sz := s.heap.size)
  generalize hAe : va_A [(h0, .inr (5, [.ref g_row, .int 0, .int 2, .int 0, .ref g_many, .ref g_loss, .ref g_less, .ref g_voteValue, .ref g_voteNumber, .ref g_allValue, .ref g_allNumber, .int 0, .ref g_nodeL, .ref g_nodeR, .int 0, .ref g_part, .int 0, .ref g_wasMany, .ref g_wasLoss, .ref g_wasValue, .ref g_wasNumber, .ref g_path, .int 0, .ref g_heavyValue, .ref g_heavyTimes, .int 0, .ref g_fewest, .ref g_which, .ref g_met, .int 0]))] s.heap.size = A at hD ⊢
  have hA : ∀ q : Nat, s.heap.size ≤ q → A q := fun q h => by rw [← hAe]; exact Or.inr h
  have hS : va_S A s.heap s.heap [] := va_S.rf
  have hP : va_P (dC, dI) vwCl [(h0, .inr (5, [.ref g_row, .int 0, .int 2, .int 0, .ref g_many, .ref g_loss, .ref g_less, .ref g_voteValue, .ref g_voteNumber, .ref g_allValue, .ref g_allNumber, .int 0, .ref g_nodeL, .ref g_nodeR, .int 0, .ref g_part, .int 0, .ref g_wasMany, .ref g_wasLoss, .ref g_wasValue, .ref g_wasNumber, .ref g_path, .int 0, .ref g_heavyValue, .ref g_heavyTimes, .int 0, .ref g_fewest, .ref g_which, .ref g_met, .int 0]))] s.heap := hP
  have hl := lv_entry ([.ref h0, .int p0, .int p1, .int p2]) (n := 5) (Nat.le_of_ble_eq_true rfl)
  rw [lg_entry_eq]
  generalize (lg_sl ([.ref h0, .int p0, .int p1, .int p2]) ++ List.replicate (5 - (lg_sl ([.ref h0, .int p0, .int p1, .int p2])).length) Slot.unset).toArray = ls at hl ⊢
  have hl : lv_has ls 5 [(0, .ref h0), (1, .int p0), (2, .int p1), (3, .int p2)] := hl
  have hf_77 := hts (.fieldLink RX5 77 "MajorityIndexModel" "thrown" "I") (by decide +kernel)
  have hi_5 : ∀ w ∈ u_ws RX5 TX5 30, w ∈ wsX5_fill := by decide +kernel
  refine lv_aload_n hx hb dX5_fill_0 rfl (lv_at hl 0 rfl) ?_
  refine lv_iconst (v := 0) hx hb dX5_fill_1 (by decide) ?_
  refine va_put (D := (dC, dI)) (ci := 5) (v := .int 0) (ty := .int) (C := RX5) (T := TX5) (N := 30) hx hb hts hi_5 tyX5 tyX5_ok nmX5 hown hK hP hD hS 0 rfl rfl 3 (by decide) hf_77 (fun _ h9 => h9) rfl (by decide +kernel) rfl rfl (Nat.le_of_ble_eq_true rfl) dX5_fill_2 (fun H locs hP hD hS => ?_)
  have hP : va_P (dC, dI) vwCl [(h0, .inr (5, [.ref g_row, .int 0, .int 2, .int 0, .ref g_many, .ref g_loss, .ref g_less, .ref g_voteValue, .ref g_voteNumber, .ref g_allValue, .ref g_allNumber, .int 0, .ref g_nodeL, .ref g_nodeR, .int 0, .ref g_part, .int 0, .ref g_wasMany, .ref g_wasLoss, .ref g_wasValue, .ref g_wasNumber, .ref g_path, .int 0, .ref g_heavyValue, .ref g_heavyTimes, .int 0, .ref g_fewest, .ref g_which, .ref g_met, .int 0]))] H := hP
  have hD : va_D A [(h0, .inr (5, [.ref g_row, .int 0, .int 2, .int 0, .ref g_many, .ref g_loss, .ref g_less, .ref g_voteValue, .ref g_voteNumber, .ref g_allValue, .ref g_allNumber, .int 0, .ref g_nodeL, .ref g_nodeR, .int 0, .ref g_part, .int 0, .ref g_wasMany, .ref g_wasLoss, .ref g_wasValue, .ref g_wasNumber, .ref g_path, .int 0, .ref g_heavyValue, .ref g_heavyTimes, .int 0, .ref g_fewest, .ref g_which, .ref g_met, .int 0]))] := hD
  refine lv_aload_n hx hb dX5_fill_5 rfl (lv_at hl 0 rfl) ?_
  refine lv_iload_n hx hb dX5_fill_6 rfl (lv_at hl 1 rfl) ?_
  refine lv_iload_n hx hb dX5_fill_7 rfl (lv_at hl 2 rfl) ?_
  have hPc := hP.sub (ws' := [(h0, .inr (5, [.ref g_row, .int 0, .int 2, .int 0, .ref g_many, .ref g_loss, .ref g_less, .ref g_voteValue, .ref g_voteNumber, .ref g_allValue, .ref g_allNumber, .int 0, .ref g_nodeL, .ref g_nodeR, .int 0, .ref g_part, .int 0, .ref g_wasMany, .ref g_wasLoss, .ref g_wasValue, .ref g_wasNumber, .ref g_path, .int 0, .ref g_heavyValue, .ref g_heavyTimes, .int 0, .ref g_fewest, .ref g_which, .ref g_met, .int 0]))]) [0] rfl
  have hKc := hK.sub (tys' := []) [] rfl
  refine vp_callSi (W.runV (As := [.int p0, .int p1]) (rest := []) ⟨hx, hb, hml, hown, hts⟩ (c_X5_isRange l dC dI h0 g_row g_many g_loss g_less g_voteValue g_voteNumber g_allValue g_allNumber g_nodeL g_nodeR g_part g_wasMany g_wasLoss g_wasValue g_wasNumber g_path g_heavyValue g_heavyTimes g_fewest g_which g_met 0 p0 p1) (cwV 2 hts gX5_fill_X5_isRange rfl rfl rfl (by decide +kernel) ⟨Nat.le_of_ble_eq_true rfl, Nat.le_of_ble_eq_true rfl⟩) ⟨fun a U g mk q => by obtain ⟨q0, qP, qK⟩ := q; exact ⟨q0, qP, va_K.moved (u := U) (U := U.calling g mk a) (Vm.Alike.refl U.vm) qK⟩, va_recv hKc hPc (ci := 5) (q0 := 0) rfl rfl, fun U hU hW => ⟨rfl, by rw [hU]; exact hPc, va_K.moved hW.alike hKc⟩⟩ rfl rfl hl.1 rfl (lv_room (Nat.le_of_ble_eq_true rfl)) dX5_fill_8 ⟨Nat.le_of_ble_eq_true rfl, Nat.le_of_ble_eq_true rfl⟩) (fun r_1 w_1 => ?_)
  rcases w_1 with ⟨rfl, w_1⟩
  · have w_1 : True := w_1
    refine lv_if_eq (tgt := 21) hx hb dX5_fill_11 (by decide) (fun c_2 => ?_) (fun c_2 => ?_)
    · refine lv_iconst (v := (-1)) hx hb dX5_fill_21 (by decide) ?_
      have hP9 := hP.sub (ws' := []) [] rfl
      have hD9 := hD.sub (ws' := []) [] (by decide) rfl
      have hK9 := hK.sub (tys' := []) [] rfl
      exact W.iret (v := (-1)) hx hb hr (fun t ht hW => ⟨⟨(-1), (), rfl, rfl, by rw [ht]; exact hP9, va_K.moved hW.alike hK9, hD9⟩, hS.F ht⟩) hS.2.2 dX5_fill_22
    · exact absurd c_2 (by decide)

set_option maxHeartbeats 4000000 in
set_option maxRecDepth 100000 in
/-- turn of the reference, fresh -/
theorem c_X5_turn (l : Launch) (dC : Nat → ClassId) (dI : Nat → Nat → Nat) (h0 : Nat) (g_row : Nat) (g_many : Nat) (g_loss : Nat) (g_less : Nat) (g_voteValue : Nat) (g_voteNumber : Nat) (g_allValue : Nat) (g_allNumber : Nat) (g_nodeL : Nat) (g_nodeR : Nat) (g_part : Nat) (g_wasMany : Nat) (g_wasLoss : Nat) (g_wasValue : Nat) (g_wasNumber : Nat) (g_path : Nat) (g_heavyValue : Nat) (g_heavyTimes : Nat) (g_fewest : Nat) (g_which : Nat) (g_met : Nat) (p0 : Int32) (p1 : Int32) (sz : Nat) : Met l yX5_turn wsX5_turn ({ frames := 1, cells := 0, slots := 0, locals := 45 }) (va_Pc [.ref h0, .int p0, .int p1] (fun U => U.heap.size = sz ∧ va_P (dC, dI) vwCl [(h0, .inr (5, [.ref g_row, .int 0, .int 2, .int 0, .ref g_many, .ref g_loss, .ref g_less, .ref g_voteValue, .ref g_voteNumber, .ref g_allValue, .ref g_allNumber, .int 0, .ref g_nodeL, .ref g_nodeR, .int 0, .ref g_part, .int 0, .ref g_wasMany, .ref g_wasLoss, .ref g_wasValue, .ref g_wasNumber, .ref g_path, .int 0, .ref g_heavyValue, .ref g_heavyTimes, .int 0, .ref g_fewest, .ref g_which, .ref g_met, .int 0]))] U.heap ∧ va_K (dC, dI) vwCl [] U ∧ va_D (fun _ => True) [(h0, .inr (5, [.ref g_row, .int 0, .int 2, .int 0, .ref g_many, .ref g_loss, .ref g_less, .ref g_voteValue, .ref g_voteNumber, .ref g_allValue, .ref g_allNumber, .int 0, .ref g_nodeL, .ref g_nodeR, .int 0, .ref g_part, .int 0, .ref g_wasMany, .ref g_wasLoss, .ref g_wasValue, .ref g_wasNumber, .ref g_path, .int 0, .ref g_heavyValue, .ref g_heavyTimes, .int 0, .ref g_fewest, .ref g_which, .ref g_met, .int 0]))])) (va_Qi (fun (r : Int32) (_ : Unit) => r = (-1)) (fun (_ : Unit) (t : State) => va_P (dC, dI) vwCl [] t.heap ∧ va_K (dC, dI) vwCl [] t ∧ va_D (va_A [(h0, .inr (5, [.ref g_row, .int 0, .int 2, .int 0, .ref g_many, .ref g_loss, .ref g_less, .ref g_voteValue, .ref g_voteNumber, .ref g_allValue, .ref g_allNumber, .int 0, .ref g_nodeL, .ref g_nodeR, .int 0, .ref g_part, .int 0, .ref g_wasMany, .ref g_wasLoss, .ref g_wasValue, .ref g_wasNumber, .ref g_path, .int 0, .ref g_heavyValue, .ref g_heavyTimes, .int 0, .ref g_fewest, .ref g_which, .ref g_met, .int 0]))] sz) []) (va_A [(h0, .inr (5, [.ref g_row, .int 0, .int 2, .int 0, .ref g_many, .ref g_loss, .ref g_less, .ref g_voteValue, .ref g_voteNumber, .ref g_allValue, .ref g_allNumber, .int 0, .ref g_nodeL, .ref g_nodeR, .int 0, .ref g_part, .int 0, .ref g_wasMany, .ref g_wasLoss, .ref g_wasValue, .ref g_wasNumber, .ref g_path, .int 0, .ref g_heavyValue, .ref g_heavyTimes, .int 0, .ref g_fewest, .ref g_which, .ref g_met, .int 0]))] sz)) 0 0 (va_A [(h0, .inr (5, [.ref g_row, .int 0, .int 2, .int 0, .ref g_many, .ref g_loss, .ref g_less, .ref g_voteValue, .ref g_voteNumber, .ref g_allValue, .ref g_allNumber, .int 0, .ref g_nodeL, .ref g_nodeR, .int 0, .ref g_part, .int 0, .ref g_wasMany, .ref g_wasLoss, .ref g_wasValue, .ref g_wasNumber, .ref g_path, .int 0, .ref g_heavyValue, .ref g_heavyTimes, .int 0, .ref g_fewest, .ref g_which, .ref g_met, .int 0]))] sz) := by
  refine Met.ofW (cc := cX5_turn) (maxL := 4) (ret := (some .int)) (by decide) rfl ?_
  intro p e s m args below meth c s₁ B hml hv
  obtain ⟨rfl, hsz, hP, hK, hD0⟩ := hv
  have hx := B.exec
  have hb := B.bytes
  have hr := B.returns
  have hts := atoms_spec (ws := wsX5_turn) B.pre
  have hown : s.vm.findClass RX5 = some m.cls := findClass_of_methodNamed B.named
  have hlocks := B.notSynchronized
  subst hsz
  have hD := hD0.self (sz := s.heap.size)
  generalize hAe : va_A [(h0, .inr (5, [.ref g_row, .int 0, .int 2, .int 0, .ref g_many, .ref g_loss, .ref g_less, .ref g_voteValue, .ref g_voteNumber, .ref g_allValue, .ref g_allNumber, .int 0, .ref g_nodeL, .ref g_nodeR, .int 0, .ref g_part, .int 0, .ref g_wasMany, .ref g_wasLoss, .ref g_wasValue, .ref g_wasNumber, .ref g_path, .int 0, .ref g_heavyValue, .ref g_heavyTimes, .int 0, .ref g_fewest, .ref g_which, .ref g_met, .int 0]))] s.heap.size = A at hD ⊢
  have hA : ∀ q : Nat, s.heap.size ≤ q → A q := fun q h => by rw [← hAe]; exact Or.inr h
  have hS : va_S A s.heap s.heap [] := va_S.rf
  have hP : va_P (dC, dI) vwCl [(h0, .inr (5, [.ref g_row, .int 0, .int 2, .int 0, .ref g_many, .ref g_loss, .ref g_less, .ref g_voteValue, .ref g_voteNumber, .ref g_allValue, .ref g_allNumber, .int 0, .ref g_nodeL, .ref g_nodeR, .int 0, .ref g_part, .int 0, .ref g_wasMany, .ref g_wasLoss, .ref g_wasValue, .ref g_wasNumber, .ref g_path, .int 0, .ref g_heavyValue, .ref g_heavyTimes, .int 0, .ref g_fewest, .ref g_which, .ref g_met, .int 0]))] s.heap := hP
  have hl := lv_entry ([.ref h0, .int p0, .int p1]) (n := 4) (Nat.le_of_ble_eq_true rfl)
  rw [lg_entry_eq]
  generalize (lg_sl ([.ref h0, .int p0, .int p1]) ++ List.replicate (4 - (lg_sl ([.ref h0, .int p0, .int p1])).length) Slot.unset).toArray = ls at hl ⊢
  have hl : lv_has ls 4 [(0, .ref h0), (1, .int p0), (2, .int p1)] := hl
  have hf_77 := hts (.fieldLink RX5 77 "MajorityIndexModel" "thrown" "I") (by decide +kernel)
  have hi_5 : ∀ w ∈ u_ws RX5 TX5 30, w ∈ wsX5_turn := by decide +kernel
  refine lv_aload_n hx hb dX5_turn_0 rfl (lv_at hl 0 rfl) ?_
  refine lv_iconst (v := 0) hx hb dX5_turn_1 (by decide) ?_
  refine va_put (D := (dC, dI)) (ci := 5) (v := .int 0) (ty := .int) (C := RX5) (T := TX5) (N := 30) hx hb hts hi_5 tyX5 tyX5_ok nmX5 hown hK hP hD hS 0 rfl rfl 3 (by decide) hf_77 (fun _ h9 => h9) rfl (by decide +kernel) rfl rfl (Nat.le_of_ble_eq_true rfl) dX5_turn_2 (fun H locs hP hD hS => ?_)
  have hP : va_P (dC, dI) vwCl [(h0, .inr (5, [.ref g_row, .int 0, .int 2, .int 0, .ref g_many, .ref g_loss, .ref g_less, .ref g_voteValue, .ref g_voteNumber, .ref g_allValue, .ref g_allNumber, .int 0, .ref g_nodeL, .ref g_nodeR, .int 0, .ref g_part, .int 0, .ref g_wasMany, .ref g_wasLoss, .ref g_wasValue, .ref g_wasNumber, .ref g_path, .int 0, .ref g_heavyValue, .ref g_heavyTimes, .int 0, .ref g_fewest, .ref g_which, .ref g_met, .int 0]))] H := hP
  have hD : va_D A [(h0, .inr (5, [.ref g_row, .int 0, .int 2, .int 0, .ref g_many, .ref g_loss, .ref g_less, .ref g_voteValue, .ref g_voteNumber, .ref g_allValue, .ref g_allNumber, .int 0, .ref g_nodeL, .ref g_nodeR, .int 0, .ref g_part, .int 0, .ref g_wasMany, .ref g_wasLoss, .ref g_wasValue, .ref g_wasNumber, .ref g_path, .int 0, .ref g_heavyValue, .ref g_heavyTimes, .int 0, .ref g_fewest, .ref g_which, .ref g_met, .int 0]))] := hD
  refine lv_aload_n hx hb dX5_turn_5 rfl (lv_at hl 0 rfl) ?_
  refine lv_iload_n hx hb dX5_turn_6 rfl (lv_at hl 1 rfl) ?_
  refine lv_iload_n hx hb dX5_turn_7 rfl (lv_at hl 2 rfl) ?_
  have hPc := hP.sub (ws' := [(h0, .inr (5, [.ref g_row, .int 0, .int 2, .int 0, .ref g_many, .ref g_loss, .ref g_less, .ref g_voteValue, .ref g_voteNumber, .ref g_allValue, .ref g_allNumber, .int 0, .ref g_nodeL, .ref g_nodeR, .int 0, .ref g_part, .int 0, .ref g_wasMany, .ref g_wasLoss, .ref g_wasValue, .ref g_wasNumber, .ref g_path, .int 0, .ref g_heavyValue, .ref g_heavyTimes, .int 0, .ref g_fewest, .ref g_which, .ref g_met, .int 0]))]) [0] rfl
  have hKc := hK.sub (tys' := []) [] rfl
  refine vp_callSi (W.runV (As := [.int p0, .int p1]) (rest := []) ⟨hx, hb, hml, hown, hts⟩ (c_X5_isRange l dC dI h0 g_row g_many g_loss g_less g_voteValue g_voteNumber g_allValue g_allNumber g_nodeL g_nodeR g_part g_wasMany g_wasLoss g_wasValue g_wasNumber g_path g_heavyValue g_heavyTimes g_fewest g_which g_met 0 p0 p1) (cwV 2 hts gX5_turn_X5_isRange rfl rfl rfl (by decide +kernel) ⟨Nat.le_of_ble_eq_true rfl, Nat.le_of_ble_eq_true rfl⟩) ⟨fun a U g mk q => by obtain ⟨q0, qP, qK⟩ := q; exact ⟨q0, qP, va_K.moved (u := U) (U := U.calling g mk a) (Vm.Alike.refl U.vm) qK⟩, va_recv hKc hPc (ci := 5) (q0 := 0) rfl rfl, fun U hU hW => ⟨rfl, by rw [hU]; exact hPc, va_K.moved hW.alike hKc⟩⟩ rfl rfl hl.1 rfl (lv_room (Nat.le_of_ble_eq_true rfl)) dX5_turn_8 ⟨Nat.le_of_ble_eq_true rfl, Nat.le_of_ble_eq_true rfl⟩) (fun r_1 w_1 => ?_)
  rcases w_1 with ⟨rfl, w_1⟩
  · have w_1 : True := w_1
    refine lv_if_ne (tgt := 16) hx hb dX5_turn_11 (by decide) (fun c_2 => ?_) (fun c_2 => ?_)
    · exact absurd c_2 (by decide)
    · refine lv_iconst (v := (-1)) hx hb dX5_turn_14 (by decide) ?_
      have hP9 := hP.sub (ws' := []) [] rfl
      have hD9 := hD.sub (ws' := []) [] (by decide) rfl
      have hK9 := hK.sub (tys' := []) [] rfl
      exact W.iret (v := (-1)) hx hb hr (fun t ht hW => ⟨⟨(-1), (), rfl, rfl, by rw [ht]; exact hP9, va_K.moved hW.alike hK9, hD9⟩, hS.F ht⟩) hS.2.2 dX5_turn_15

set_option maxHeartbeats 4000000 in
set_option maxRecDepth 100000 in
/-- swap of the reference, fresh -/
theorem c_X5_swap (l : Launch) (dC : Nat → ClassId) (dI : Nat → Nat → Nat) (h0 : Nat) (g_row : Nat) (g_many : Nat) (g_loss : Nat) (g_less : Nat) (g_voteValue : Nat) (g_voteNumber : Nat) (g_allValue : Nat) (g_allNumber : Nat) (g_nodeL : Nat) (g_nodeR : Nat) (g_part : Nat) (g_wasMany : Nat) (g_wasLoss : Nat) (g_wasValue : Nat) (g_wasNumber : Nat) (g_path : Nat) (g_heavyValue : Nat) (g_heavyTimes : Nat) (g_fewest : Nat) (g_which : Nat) (g_met : Nat) (p0 : Int32) (p1 : Int32) (sz : Nat) : Met l yX5_swap wsX5_swap ({ frames := 2, cells := 0, slots := 0, locals := 90 }) (va_Pc [.ref h0, .int p0, .int p1] (fun U => U.heap.size = sz ∧ va_P (dC, dI) vwCl [(h0, .inr (5, [.ref g_row, .int 0, .int 2, .int 0, .ref g_many, .ref g_loss, .ref g_less, .ref g_voteValue, .ref g_voteNumber, .ref g_allValue, .ref g_allNumber, .int 0, .ref g_nodeL, .ref g_nodeR, .int 0, .ref g_part, .int 0, .ref g_wasMany, .ref g_wasLoss, .ref g_wasValue, .ref g_wasNumber, .ref g_path, .int 0, .ref g_heavyValue, .ref g_heavyTimes, .int 0, .ref g_fewest, .ref g_which, .ref g_met, .int 0]))] U.heap ∧ va_K (dC, dI) vwCl [] U ∧ va_D (fun _ => True) [(h0, .inr (5, [.ref g_row, .int 0, .int 2, .int 0, .ref g_many, .ref g_loss, .ref g_less, .ref g_voteValue, .ref g_voteNumber, .ref g_allValue, .ref g_allNumber, .int 0, .ref g_nodeL, .ref g_nodeR, .int 0, .ref g_part, .int 0, .ref g_wasMany, .ref g_wasLoss, .ref g_wasValue, .ref g_wasNumber, .ref g_path, .int 0, .ref g_heavyValue, .ref g_heavyTimes, .int 0, .ref g_fewest, .ref g_which, .ref g_met, .int 0]))])) (va_Qi (fun (r : Int32) (_ : Unit) => r = (-1)) (fun (_ : Unit) (t : State) => va_P (dC, dI) vwCl [] t.heap ∧ va_K (dC, dI) vwCl [] t ∧ va_D (va_A [(h0, .inr (5, [.ref g_row, .int 0, .int 2, .int 0, .ref g_many, .ref g_loss, .ref g_less, .ref g_voteValue, .ref g_voteNumber, .ref g_allValue, .ref g_allNumber, .int 0, .ref g_nodeL, .ref g_nodeR, .int 0, .ref g_part, .int 0, .ref g_wasMany, .ref g_wasLoss, .ref g_wasValue, .ref g_wasNumber, .ref g_path, .int 0, .ref g_heavyValue, .ref g_heavyTimes, .int 0, .ref g_fewest, .ref g_which, .ref g_met, .int 0]))] sz) []) (va_A [(h0, .inr (5, [.ref g_row, .int 0, .int 2, .int 0, .ref g_many, .ref g_loss, .ref g_less, .ref g_voteValue, .ref g_voteNumber, .ref g_allValue, .ref g_allNumber, .int 0, .ref g_nodeL, .ref g_nodeR, .int 0, .ref g_part, .int 0, .ref g_wasMany, .ref g_wasLoss, .ref g_wasValue, .ref g_wasNumber, .ref g_path, .int 0, .ref g_heavyValue, .ref g_heavyTimes, .int 0, .ref g_fewest, .ref g_which, .ref g_met, .int 0]))] sz)) 0 0 (va_A [(h0, .inr (5, [.ref g_row, .int 0, .int 2, .int 0, .ref g_many, .ref g_loss, .ref g_less, .ref g_voteValue, .ref g_voteNumber, .ref g_allValue, .ref g_allNumber, .int 0, .ref g_nodeL, .ref g_nodeR, .int 0, .ref g_part, .int 0, .ref g_wasMany, .ref g_wasLoss, .ref g_wasValue, .ref g_wasNumber, .ref g_path, .int 0, .ref g_heavyValue, .ref g_heavyTimes, .int 0, .ref g_fewest, .ref g_which, .ref g_met, .int 0]))] sz) := by
  refine Met.ofW (cc := cX5_swap) (maxL := 3) (ret := (some .int)) (by decide) rfl ?_
  intro p e s m args below meth c s₁ B hml hv
  obtain ⟨rfl, hsz, hP, hK, hD0⟩ := hv
  have hx := B.exec
  have hb := B.bytes
  have hr := B.returns
  have hts := atoms_spec (ws := wsX5_swap) B.pre
  have hown : s.vm.findClass RX5 = some m.cls := findClass_of_methodNamed B.named
  have hlocks := B.notSynchronized
  subst hsz
  have hD := hD0.self (sz := s.heap.size)
  generalize hAe : va_A [(h0, .inr (5, [.ref g_row, .int 0, .int 2, .int 0, .ref g_many, .ref g_loss, .ref g_less, .ref g_voteValue, .ref g_voteNumber, .ref g_allValue, .ref g_allNumber, .int 0, .ref g_nodeL, .ref g_nodeR, .int 0, .ref g_part, .int 0, .ref g_wasMany, .ref g_wasLoss, .ref g_wasValue, .ref g_wasNumber, .ref g_path, .int 0, .ref g_heavyValue, .ref g_heavyTimes, .int 0, .ref g_fewest, .ref g_which, .ref g_met, .int 0]))] s.heap.size = A at hD ⊢
  have hA : ∀ q : Nat, s.heap.size ≤ q → A q := fun q h => by rw [← hAe]; exact Or.inr h
  have hS : va_S A s.heap s.heap [] := va_S.rf
  have hP : va_P (dC, dI) vwCl [(h0, .inr (5, [.ref g_row, .int 0, .int 2, .int 0, .ref g_many, .ref g_loss, .ref g_less, .ref g_voteValue, .ref g_voteNumber, .ref g_allValue, .ref g_allNumber, .int 0, .ref g_nodeL, .ref g_nodeR, .int 0, .ref g_part, .int 0, .ref g_wasMany, .ref g_wasLoss, .ref g_wasValue, .ref g_wasNumber, .ref g_path, .int 0, .ref g_heavyValue, .ref g_heavyTimes, .int 0, .ref g_fewest, .ref g_which, .ref g_met, .int 0]))] s.heap := hP
  have hl := lv_entry ([.ref h0, .int p0, .int p1]) (n := 3) (Nat.le_of_ble_eq_true rfl)
  rw [lg_entry_eq]
  generalize (lg_sl ([.ref h0, .int p0, .int p1]) ++ List.replicate (3 - (lg_sl ([.ref h0, .int p0, .int p1])).length) Slot.unset).toArray = ls at hl ⊢
  have hl : lv_has ls 3 [(0, .ref h0), (1, .int p0), (2, .int p1)] := hl
  have hf_77 := hts (.fieldLink RX5 77 "MajorityIndexModel" "thrown" "I") (by decide +kernel)
  have hi_5 : ∀ w ∈ u_ws RX5 TX5 30, w ∈ wsX5_swap := by decide +kernel
  refine lv_aload_n hx hb dX5_swap_0 rfl (lv_at hl 0 rfl) ?_
  refine lv_iconst (v := 0) hx hb dX5_swap_1 (by decide) ?_
  refine va_put (D := (dC, dI)) (ci := 5) (v := .int 0) (ty := .int) (C := RX5) (T := TX5) (N := 30) hx hb hts hi_5 tyX5 tyX5_ok nmX5 hown hK hP hD hS 0 rfl rfl 3 (by decide) hf_77 (fun _ h9 => h9) rfl (by decide +kernel) rfl rfl (Nat.le_of_ble_eq_true rfl) dX5_swap_2 (fun H locs hP hD hS => ?_)
  have hP : va_P (dC, dI) vwCl [(h0, .inr (5, [.ref g_row, .int 0, .int 2, .int 0, .ref g_many, .ref g_loss, .ref g_less, .ref g_voteValue, .ref g_voteNumber, .ref g_allValue, .ref g_allNumber, .int 0, .ref g_nodeL, .ref g_nodeR, .int 0, .ref g_part, .int 0, .ref g_wasMany, .ref g_wasLoss, .ref g_wasValue, .ref g_wasNumber, .ref g_path, .int 0, .ref g_heavyValue, .ref g_heavyTimes, .int 0, .ref g_fewest, .ref g_which, .ref g_met, .int 0]))] H := hP
  have hD : va_D A [(h0, .inr (5, [.ref g_row, .int 0, .int 2, .int 0, .ref g_many, .ref g_loss, .ref g_less, .ref g_voteValue, .ref g_voteNumber, .ref g_allValue, .ref g_allNumber, .int 0, .ref g_nodeL, .ref g_nodeR, .int 0, .ref g_part, .int 0, .ref g_wasMany, .ref g_wasLoss, .ref g_wasValue, .ref g_wasNumber, .ref g_path, .int 0, .ref g_heavyValue, .ref g_heavyTimes, .int 0, .ref g_fewest, .ref g_which, .ref g_met, .int 0]))] := hD
  refine lv_aload_n hx hb dX5_swap_5 rfl (lv_at hl 0 rfl) ?_
  refine lv_iload_n hx hb dX5_swap_6 rfl (lv_at hl 1 rfl) ?_
  have hPc := hP.sub (ws' := [(h0, .inr (5, [.ref g_row, .int 0, .int 2, .int 0, .ref g_many, .ref g_loss, .ref g_less, .ref g_voteValue, .ref g_voteNumber, .ref g_allValue, .ref g_allNumber, .int 0, .ref g_nodeL, .ref g_nodeR, .int 0, .ref g_part, .int 0, .ref g_wasMany, .ref g_wasLoss, .ref g_wasValue, .ref g_wasNumber, .ref g_path, .int 0, .ref g_heavyValue, .ref g_heavyTimes, .int 0, .ref g_fewest, .ref g_which, .ref g_met, .int 0]))]) [0] rfl
  have hKc := hK.sub (tys' := []) [] rfl
  refine vp_callSi (W.runV (As := [.int p0]) (rest := []) ⟨hx, hb, hml, hown, hts⟩ (c_X5_isPlace l dC dI h0 g_row g_many g_loss g_less g_voteValue g_voteNumber g_allValue g_allNumber g_nodeL g_nodeR g_part g_wasMany g_wasLoss g_wasValue g_wasNumber g_path g_heavyValue g_heavyTimes g_fewest g_which g_met 0 p0) (cwV 1 hts gX5_swap_X5_isPlace rfl rfl rfl (by decide +kernel) ⟨Nat.le_of_ble_eq_true rfl, Nat.le_of_ble_eq_true rfl⟩) ⟨fun a U g mk q => by obtain ⟨q0, qP, qK⟩ := q; exact ⟨q0, qP, va_K.moved (u := U) (U := U.calling g mk a) (Vm.Alike.refl U.vm) qK⟩, va_recv hKc hPc (ci := 5) (q0 := 0) rfl rfl, fun U hU hW => ⟨rfl, by rw [hU]; exact hPc, va_K.moved hW.alike hKc⟩⟩ rfl rfl hl.1 rfl (lv_room (Nat.le_of_ble_eq_true rfl)) dX5_swap_7 ⟨Nat.le_of_ble_eq_true rfl, Nat.le_of_ble_eq_true rfl⟩) (fun r_1 w_1 => ?_)
  rcases w_1 with ⟨rfl, w_1⟩
  · have w_1 : True := w_1
    refine lv_if_eq (tgt := 21) hx hb dX5_swap_10 (by decide) (fun c_2 => ?_) (fun c_2 => ?_)
    · refine lv_iconst (v := (-1)) hx hb dX5_swap_21 (by decide) ?_
      have hP9 := hP.sub (ws' := []) [] rfl
      have hD9 := hD.sub (ws' := []) [] (by decide) rfl
      have hK9 := hK.sub (tys' := []) [] rfl
      exact W.iret (v := (-1)) hx hb hr (fun t ht hW => ⟨⟨(-1), (), rfl, rfl, by rw [ht]; exact hP9, va_K.moved hW.alike hK9, hD9⟩, hS.F ht⟩) hS.2.2 dX5_swap_22
    · exact absurd c_2 (by decide)

set_option maxHeartbeats 4000000 in
set_option maxRecDepth 100000 in
/-- remove of the reference, fresh -/
theorem c_X5_remove (l : Launch) (dC : Nat → ClassId) (dI : Nat → Nat → Nat) (h0 : Nat) (g_row : Nat) (g_many : Nat) (g_loss : Nat) (g_less : Nat) (g_voteValue : Nat) (g_voteNumber : Nat) (g_allValue : Nat) (g_allNumber : Nat) (g_nodeL : Nat) (g_nodeR : Nat) (g_part : Nat) (g_wasMany : Nat) (g_wasLoss : Nat) (g_wasValue : Nat) (g_wasNumber : Nat) (g_path : Nat) (g_heavyValue : Nat) (g_heavyTimes : Nat) (g_fewest : Nat) (g_which : Nat) (g_met : Nat) (p0 : Int32) (sz : Nat) : Met l yX5_remove wsX5_remove ({ frames := 2, cells := 0, slots := 0, locals := 90 }) (va_Pc [.ref h0, .int p0] (fun U => U.heap.size = sz ∧ va_P (dC, dI) vwCl [(h0, .inr (5, [.ref g_row, .int 0, .int 2, .int 0, .ref g_many, .ref g_loss, .ref g_less, .ref g_voteValue, .ref g_voteNumber, .ref g_allValue, .ref g_allNumber, .int 0, .ref g_nodeL, .ref g_nodeR, .int 0, .ref g_part, .int 0, .ref g_wasMany, .ref g_wasLoss, .ref g_wasValue, .ref g_wasNumber, .ref g_path, .int 0, .ref g_heavyValue, .ref g_heavyTimes, .int 0, .ref g_fewest, .ref g_which, .ref g_met, .int 0]))] U.heap ∧ va_K (dC, dI) vwCl [] U ∧ va_D (fun _ => True) [(h0, .inr (5, [.ref g_row, .int 0, .int 2, .int 0, .ref g_many, .ref g_loss, .ref g_less, .ref g_voteValue, .ref g_voteNumber, .ref g_allValue, .ref g_allNumber, .int 0, .ref g_nodeL, .ref g_nodeR, .int 0, .ref g_part, .int 0, .ref g_wasMany, .ref g_wasLoss, .ref g_wasValue, .ref g_wasNumber, .ref g_path, .int 0, .ref g_heavyValue, .ref g_heavyTimes, .int 0, .ref g_fewest, .ref g_which, .ref g_met, .int 0]))])) (va_Qi (fun (r : Int32) (_ : Unit) => r = (-40000)) (fun (_ : Unit) (t : State) => va_P (dC, dI) vwCl [] t.heap ∧ va_K (dC, dI) vwCl [] t ∧ va_D (va_A [(h0, .inr (5, [.ref g_row, .int 0, .int 2, .int 0, .ref g_many, .ref g_loss, .ref g_less, .ref g_voteValue, .ref g_voteNumber, .ref g_allValue, .ref g_allNumber, .int 0, .ref g_nodeL, .ref g_nodeR, .int 0, .ref g_part, .int 0, .ref g_wasMany, .ref g_wasLoss, .ref g_wasValue, .ref g_wasNumber, .ref g_path, .int 0, .ref g_heavyValue, .ref g_heavyTimes, .int 0, .ref g_fewest, .ref g_which, .ref g_met, .int 0]))] sz) []) (va_A [(h0, .inr (5, [.ref g_row, .int 0, .int 2, .int 0, .ref g_many, .ref g_loss, .ref g_less, .ref g_voteValue, .ref g_voteNumber, .ref g_allValue, .ref g_allNumber, .int 0, .ref g_nodeL, .ref g_nodeR, .int 0, .ref g_part, .int 0, .ref g_wasMany, .ref g_wasLoss, .ref g_wasValue, .ref g_wasNumber, .ref g_path, .int 0, .ref g_heavyValue, .ref g_heavyTimes, .int 0, .ref g_fewest, .ref g_which, .ref g_met, .int 0]))] sz)) 0 0 (va_A [(h0, .inr (5, [.ref g_row, .int 0, .int 2, .int 0, .ref g_many, .ref g_loss, .ref g_less, .ref g_voteValue, .ref g_voteNumber, .ref g_allValue, .ref g_allNumber, .int 0, .ref g_nodeL, .ref g_nodeR, .int 0, .ref g_part, .int 0, .ref g_wasMany, .ref g_wasLoss, .ref g_wasValue, .ref g_wasNumber, .ref g_path, .int 0, .ref g_heavyValue, .ref g_heavyTimes, .int 0, .ref g_fewest, .ref g_which, .ref g_met, .int 0]))] sz) := by
  refine Met.ofW (cc := cX5_remove) (maxL := 4) (ret := (some .int)) (by decide) rfl ?_
  intro p e s m args below meth c s₁ B hml hv
  obtain ⟨rfl, hsz, hP, hK, hD0⟩ := hv
  have hx := B.exec
  have hb := B.bytes
  have hr := B.returns
  have hts := atoms_spec (ws := wsX5_remove) B.pre
  have hown : s.vm.findClass RX5 = some m.cls := findClass_of_methodNamed B.named
  have hlocks := B.notSynchronized
  subst hsz
  have hD := hD0.self (sz := s.heap.size)
  generalize hAe : va_A [(h0, .inr (5, [.ref g_row, .int 0, .int 2, .int 0, .ref g_many, .ref g_loss, .ref g_less, .ref g_voteValue, .ref g_voteNumber, .ref g_allValue, .ref g_allNumber, .int 0, .ref g_nodeL, .ref g_nodeR, .int 0, .ref g_part, .int 0, .ref g_wasMany, .ref g_wasLoss, .ref g_wasValue, .ref g_wasNumber, .ref g_path, .int 0, .ref g_heavyValue, .ref g_heavyTimes, .int 0, .ref g_fewest, .ref g_which, .ref g_met, .int 0]))] s.heap.size = A at hD ⊢
  have hA : ∀ q : Nat, s.heap.size ≤ q → A q := fun q h => by rw [← hAe]; exact Or.inr h
  have hS : va_S A s.heap s.heap [] := va_S.rf
  have hP : va_P (dC, dI) vwCl [(h0, .inr (5, [.ref g_row, .int 0, .int 2, .int 0, .ref g_many, .ref g_loss, .ref g_less, .ref g_voteValue, .ref g_voteNumber, .ref g_allValue, .ref g_allNumber, .int 0, .ref g_nodeL, .ref g_nodeR, .int 0, .ref g_part, .int 0, .ref g_wasMany, .ref g_wasLoss, .ref g_wasValue, .ref g_wasNumber, .ref g_path, .int 0, .ref g_heavyValue, .ref g_heavyTimes, .int 0, .ref g_fewest, .ref g_which, .ref g_met, .int 0]))] s.heap := hP
  have hl := lv_entry ([.ref h0, .int p0]) (n := 4) (Nat.le_of_ble_eq_true rfl)
  rw [lg_entry_eq]
  generalize (lg_sl ([.ref h0, .int p0]) ++ List.replicate (4 - (lg_sl ([.ref h0, .int p0])).length) Slot.unset).toArray = ls at hl ⊢
  have hl : lv_has ls 4 [(0, .ref h0), (1, .int p0)] := hl
  have hf_77 := hts (.fieldLink RX5 77 "MajorityIndexModel" "thrown" "I") (by decide +kernel)
  have hi_5 : ∀ w ∈ u_ws RX5 TX5 30, w ∈ wsX5_remove := by decide +kernel
  have hk_148 := hts (.constant RX5 148 (-40000)) (by decide +kernel)
  refine lv_aload_n hx hb dX5_remove_0 rfl (lv_at hl 0 rfl) ?_
  refine lv_iconst (v := 0) hx hb dX5_remove_1 (by decide) ?_
  refine va_put (D := (dC, dI)) (ci := 5) (v := .int 0) (ty := .int) (C := RX5) (T := TX5) (N := 30) hx hb hts hi_5 tyX5 tyX5_ok nmX5 hown hK hP hD hS 0 rfl rfl 3 (by decide) hf_77 (fun _ h9 => h9) rfl (by decide +kernel) rfl rfl (Nat.le_of_ble_eq_true rfl) dX5_remove_2 (fun H locs hP hD hS => ?_)
  have hP : va_P (dC, dI) vwCl [(h0, .inr (5, [.ref g_row, .int 0, .int 2, .int 0, .ref g_many, .ref g_loss, .ref g_less, .ref g_voteValue, .ref g_voteNumber, .ref g_allValue, .ref g_allNumber, .int 0, .ref g_nodeL, .ref g_nodeR, .int 0, .ref g_part, .int 0, .ref g_wasMany, .ref g_wasLoss, .ref g_wasValue, .ref g_wasNumber, .ref g_path, .int 0, .ref g_heavyValue, .ref g_heavyTimes, .int 0, .ref g_fewest, .ref g_which, .ref g_met, .int 0]))] H := hP
  have hD : va_D A [(h0, .inr (5, [.ref g_row, .int 0, .int 2, .int 0, .ref g_many, .ref g_loss, .ref g_less, .ref g_voteValue, .ref g_voteNumber, .ref g_allValue, .ref g_allNumber, .int 0, .ref g_nodeL, .ref g_nodeR, .int 0, .ref g_part, .int 0, .ref g_wasMany, .ref g_wasLoss, .ref g_wasValue, .ref g_wasNumber, .ref g_path, .int 0, .ref g_heavyValue, .ref g_heavyTimes, .int 0, .ref g_fewest, .ref g_which, .ref g_met, .int 0]))] := hD
  refine lv_aload_n hx hb dX5_remove_5 rfl (lv_at hl 0 rfl) ?_
  refine lv_iload_n hx hb dX5_remove_6 rfl (lv_at hl 1 rfl) ?_
  have hPc := hP.sub (ws' := [(h0, .inr (5, [.ref g_row, .int 0, .int 2, .int 0, .ref g_many, .ref g_loss, .ref g_less, .ref g_voteValue, .ref g_voteNumber, .ref g_allValue, .ref g_allNumber, .int 0, .ref g_nodeL, .ref g_nodeR, .int 0, .ref g_part, .int 0, .ref g_wasMany, .ref g_wasLoss, .ref g_wasValue, .ref g_wasNumber, .ref g_path, .int 0, .ref g_heavyValue, .ref g_heavyTimes, .int 0, .ref g_fewest, .ref g_which, .ref g_met, .int 0]))]) [0] rfl
  have hKc := hK.sub (tys' := []) [] rfl
  refine vp_callSi (W.runV (As := [.int p0]) (rest := []) ⟨hx, hb, hml, hown, hts⟩ (c_X5_isPlace l dC dI h0 g_row g_many g_loss g_less g_voteValue g_voteNumber g_allValue g_allNumber g_nodeL g_nodeR g_part g_wasMany g_wasLoss g_wasValue g_wasNumber g_path g_heavyValue g_heavyTimes g_fewest g_which g_met 0 p0) (cwV 1 hts gX5_remove_X5_isPlace rfl rfl rfl (by decide +kernel) ⟨Nat.le_of_ble_eq_true rfl, Nat.le_of_ble_eq_true rfl⟩) ⟨fun a U g mk q => by obtain ⟨q0, qP, qK⟩ := q; exact ⟨q0, qP, va_K.moved (u := U) (U := U.calling g mk a) (Vm.Alike.refl U.vm) qK⟩, va_recv hKc hPc (ci := 5) (q0 := 0) rfl rfl, fun U hU hW => ⟨rfl, by rw [hU]; exact hPc, va_K.moved hW.alike hKc⟩⟩ rfl rfl hl.1 rfl (lv_room (Nat.le_of_ble_eq_true rfl)) dX5_remove_7 ⟨Nat.le_of_ble_eq_true rfl, Nat.le_of_ble_eq_true rfl⟩) (fun r_1 w_1 => ?_)
  rcases w_1 with ⟨rfl, w_1⟩
  · have w_1 : True := w_1
    refine lv_if_ne (tgt := 16) hx hb dX5_remove_10 (by decide) (fun c_2 => ?_) (fun c_2 => ?_)
    · exact absurd c_2 (by decide)
    · refine lv_ldc (v := (-40000)) hx hb hown hk_148 dX5_remove_13 ?_
      have hP9 := hP.sub (ws' := []) [] rfl
      have hD9 := hD.sub (ws' := []) [] (by decide) rfl
      have hK9 := hK.sub (tys' := []) [] rfl
      exact W.iret (v := (-40000)) hx hb hr (fun t ht hW => ⟨⟨(-40000), (), rfl, rfl, by rw [ht]; exact hP9, va_K.moved hW.alike hK9, hD9⟩, hS.F ht⟩) hS.2.2 dX5_remove_15

set_option maxHeartbeats 4000000 in
set_option maxRecDepth 100000 in
/-- count of the reference, fresh -/
theorem c_X5_count (l : Launch) (dC : Nat → ClassId) (dI : Nat → Nat → Nat) (h0 : Nat) (g_row : Nat) (g_many : Nat) (g_loss : Nat) (g_less : Nat) (g_voteValue : Nat) (g_voteNumber : Nat) (g_allValue : Nat) (g_allNumber : Nat) (g_nodeL : Nat) (g_nodeR : Nat) (g_part : Nat) (g_wasMany : Nat) (g_wasLoss : Nat) (g_wasValue : Nat) (g_wasNumber : Nat) (g_path : Nat) (g_heavyValue : Nat) (g_heavyTimes : Nat) (g_fewest : Nat) (g_which : Nat) (g_met : Nat) (p0 : Int32) (p1 : Int32) (p2 : Int32) (sz : Nat) : Met l yX5_count wsX5_count ({ frames := 2, cells := 0, slots := 0, locals := 90 }) (va_Pc [.ref h0, .int p0, .int p1, .int p2] (fun U => U.heap.size = sz ∧ va_P (dC, dI) vwCl [(h0, .inr (5, [.ref g_row, .int 0, .int 2, .int 0, .ref g_many, .ref g_loss, .ref g_less, .ref g_voteValue, .ref g_voteNumber, .ref g_allValue, .ref g_allNumber, .int 0, .ref g_nodeL, .ref g_nodeR, .int 0, .ref g_part, .int 0, .ref g_wasMany, .ref g_wasLoss, .ref g_wasValue, .ref g_wasNumber, .ref g_path, .int 0, .ref g_heavyValue, .ref g_heavyTimes, .int 0, .ref g_fewest, .ref g_which, .ref g_met, .int 0]))] U.heap ∧ va_K (dC, dI) vwCl [] U ∧ va_D (fun _ => True) [(h0, .inr (5, [.ref g_row, .int 0, .int 2, .int 0, .ref g_many, .ref g_loss, .ref g_less, .ref g_voteValue, .ref g_voteNumber, .ref g_allValue, .ref g_allNumber, .int 0, .ref g_nodeL, .ref g_nodeR, .int 0, .ref g_part, .int 0, .ref g_wasMany, .ref g_wasLoss, .ref g_wasValue, .ref g_wasNumber, .ref g_path, .int 0, .ref g_heavyValue, .ref g_heavyTimes, .int 0, .ref g_fewest, .ref g_which, .ref g_met, .int 0]))])) (va_Qi (fun (r : Int32) (_ : Unit) => r = (-1)) (fun (_ : Unit) (t : State) => va_P (dC, dI) vwCl [] t.heap ∧ va_K (dC, dI) vwCl [] t ∧ va_D (va_A [(h0, .inr (5, [.ref g_row, .int 0, .int 2, .int 0, .ref g_many, .ref g_loss, .ref g_less, .ref g_voteValue, .ref g_voteNumber, .ref g_allValue, .ref g_allNumber, .int 0, .ref g_nodeL, .ref g_nodeR, .int 0, .ref g_part, .int 0, .ref g_wasMany, .ref g_wasLoss, .ref g_wasValue, .ref g_wasNumber, .ref g_path, .int 0, .ref g_heavyValue, .ref g_heavyTimes, .int 0, .ref g_fewest, .ref g_which, .ref g_met, .int 0]))] sz) []) (va_A [(h0, .inr (5, [.ref g_row, .int 0, .int 2, .int 0, .ref g_many, .ref g_loss, .ref g_less, .ref g_voteValue, .ref g_voteNumber, .ref g_allValue, .ref g_allNumber, .int 0, .ref g_nodeL, .ref g_nodeR, .int 0, .ref g_part, .int 0, .ref g_wasMany, .ref g_wasLoss, .ref g_wasValue, .ref g_wasNumber, .ref g_path, .int 0, .ref g_heavyValue, .ref g_heavyTimes, .int 0, .ref g_fewest, .ref g_which, .ref g_met, .int 0]))] sz)) 0 0 (va_A [(h0, .inr (5, [.ref g_row, .int 0, .int 2, .int 0, .ref g_many, .ref g_loss, .ref g_less, .ref g_voteValue, .ref g_voteNumber, .ref g_allValue, .ref g_allNumber, .int 0, .ref g_nodeL, .ref g_nodeR, .int 0, .ref g_part, .int 0, .ref g_wasMany, .ref g_wasLoss, .ref g_wasValue, .ref g_wasNumber, .ref g_path, .int 0, .ref g_heavyValue, .ref g_heavyTimes, .int 0, .ref g_fewest, .ref g_which, .ref g_met, .int 0]))] sz) := by
  refine Met.ofW (cc := cX5_count) (maxL := 4) (ret := (some .int)) (by decide) rfl ?_
  intro p e s m args below meth c s₁ B hml hv
  obtain ⟨rfl, hsz, hP, hK, hD0⟩ := hv
  have hx := B.exec
  have hb := B.bytes
  have hr := B.returns
  have hts := atoms_spec (ws := wsX5_count) B.pre
  have hown : s.vm.findClass RX5 = some m.cls := findClass_of_methodNamed B.named
  have hlocks := B.notSynchronized
  subst hsz
  have hD := hD0.self (sz := s.heap.size)
  generalize hAe : va_A [(h0, .inr (5, [.ref g_row, .int 0, .int 2, .int 0, .ref g_many, .ref g_loss, .ref g_less, .ref g_voteValue, .ref g_voteNumber, .ref g_allValue, .ref g_allNumber, .int 0, .ref g_nodeL, .ref g_nodeR, .int 0, .ref g_part, .int 0, .ref g_wasMany, .ref g_wasLoss, .ref g_wasValue, .ref g_wasNumber, .ref g_path, .int 0, .ref g_heavyValue, .ref g_heavyTimes, .int 0, .ref g_fewest, .ref g_which, .ref g_met, .int 0]))] s.heap.size = A at hD ⊢
  have hA : ∀ q : Nat, s.heap.size ≤ q → A q := fun q h => by rw [← hAe]; exact Or.inr h
  have hS : va_S A s.heap s.heap [] := va_S.rf
  have hP : va_P (dC, dI) vwCl [(h0, .inr (5, [.ref g_row, .int 0, .int 2, .int 0, .ref g_many, .ref g_loss, .ref g_less, .ref g_voteValue, .ref g_voteNumber, .ref g_allValue, .ref g_allNumber, .int 0, .ref g_nodeL, .ref g_nodeR, .int 0, .ref g_part, .int 0, .ref g_wasMany, .ref g_wasLoss, .ref g_wasValue, .ref g_wasNumber, .ref g_path, .int 0, .ref g_heavyValue, .ref g_heavyTimes, .int 0, .ref g_fewest, .ref g_which, .ref g_met, .int 0]))] s.heap := hP
  have hl := lv_entry ([.ref h0, .int p0, .int p1, .int p2]) (n := 4) (Nat.le_of_ble_eq_true rfl)
  rw [lg_entry_eq]
  generalize (lg_sl ([.ref h0, .int p0, .int p1, .int p2]) ++ List.replicate (4 - (lg_sl ([.ref h0, .int p0, .int p1, .int p2])).length) Slot.unset).toArray = ls at hl ⊢
  have hl : lv_has ls 4 [(0, .ref h0), (1, .int p0), (2, .int p1), (3, .int p2)] := hl
  have hf_77 := hts (.fieldLink RX5 77 "MajorityIndexModel" "thrown" "I") (by decide +kernel)
  have hi_5 : ∀ w ∈ u_ws RX5 TX5 30, w ∈ wsX5_count := by decide +kernel
  refine lv_aload_n hx hb dX5_count_0 rfl (lv_at hl 0 rfl) ?_
  refine lv_iconst (v := 0) hx hb dX5_count_1 (by decide) ?_
  refine va_put (D := (dC, dI)) (ci := 5) (v := .int 0) (ty := .int) (C := RX5) (T := TX5) (N := 30) hx hb hts hi_5 tyX5 tyX5_ok nmX5 hown hK hP hD hS 0 rfl rfl 3 (by decide) hf_77 (fun _ h9 => h9) rfl (by decide +kernel) rfl rfl (Nat.le_of_ble_eq_true rfl) dX5_count_2 (fun H locs hP hD hS => ?_)
  have hP : va_P (dC, dI) vwCl [(h0, .inr (5, [.ref g_row, .int 0, .int 2, .int 0, .ref g_many, .ref g_loss, .ref g_less, .ref g_voteValue, .ref g_voteNumber, .ref g_allValue, .ref g_allNumber, .int 0, .ref g_nodeL, .ref g_nodeR, .int 0, .ref g_part, .int 0, .ref g_wasMany, .ref g_wasLoss, .ref g_wasValue, .ref g_wasNumber, .ref g_path, .int 0, .ref g_heavyValue, .ref g_heavyTimes, .int 0, .ref g_fewest, .ref g_which, .ref g_met, .int 0]))] H := hP
  have hD : va_D A [(h0, .inr (5, [.ref g_row, .int 0, .int 2, .int 0, .ref g_many, .ref g_loss, .ref g_less, .ref g_voteValue, .ref g_voteNumber, .ref g_allValue, .ref g_allNumber, .int 0, .ref g_nodeL, .ref g_nodeR, .int 0, .ref g_part, .int 0, .ref g_wasMany, .ref g_wasLoss, .ref g_wasValue, .ref g_wasNumber, .ref g_path, .int 0, .ref g_heavyValue, .ref g_heavyTimes, .int 0, .ref g_fewest, .ref g_which, .ref g_met, .int 0]))] := hD
  refine lv_iload_n hx hb dX5_count_5 rfl (lv_at hl 1 rfl) ?_
  have hPc := hP.sub (ws' := []) [] rfl
  have hKc := hK.sub (tys' := []) [] rfl
  refine vp_callSi (W.runS (As := [.int p0]) (rest := []) ⟨hx, hb, hml, hown, hts⟩ (c_X5_isValue l dC dI p0) (va_cwS 1 hts gX5_count_X5_isValue rfl rfl rfl (by decide +kernel) ⟨Nat.le_of_ble_eq_true rfl, Nat.le_of_ble_eq_true rfl⟩) ⟨fun a U g mk q => by obtain ⟨q0, qP, qK⟩ := q; exact ⟨q0, qP, va_K.moved (u := U) (U := U.calling g mk a) (Vm.Alike.refl U.vm) qK⟩, fun U hU hW => ⟨rfl, by rw [hU]; exact hPc, va_K.moved hW.alike hKc⟩⟩ rfl rfl hl.1 rfl (lv_room (Nat.le_of_ble_eq_true rfl)) dX5_count_6 ⟨Nat.le_of_ble_eq_true rfl, Nat.le_of_ble_eq_true rfl⟩) (fun r_1 w_1 => ?_)
  rcases w_1 with ⟨rfl, w_1⟩ | ⟨rfl, w_1⟩
  · have w_1 : (-32768 ≤ p0.toInt ∧ p0.toInt ≤ 32767) := w_1
    refine lv_if_eq (tgt := 31) hx hb dX5_count_9 (by decide) (fun c_2 => ?_) (fun c_2 => ?_)
    · exact absurd c_2 (by decide)
    · refine lv_aload_n hx hb dX5_count_12 rfl (lv_at hl 0 rfl) ?_
      refine lv_iload_n hx hb dX5_count_13 rfl (lv_at hl 2 rfl) ?_
      refine lv_iload_n hx hb dX5_count_14 rfl (lv_at hl 3 rfl) ?_
      have hPc := hP.sub (ws' := [(h0, .inr (5, [.ref g_row, .int 0, .int 2, .int 0, .ref g_many, .ref g_loss, .ref g_less, .ref g_voteValue, .ref g_voteNumber, .ref g_allValue, .ref g_allNumber, .int 0, .ref g_nodeL, .ref g_nodeR, .int 0, .ref g_part, .int 0, .ref g_wasMany, .ref g_wasLoss, .ref g_wasValue, .ref g_wasNumber, .ref g_path, .int 0, .ref g_heavyValue, .ref g_heavyTimes, .int 0, .ref g_fewest, .ref g_which, .ref g_met, .int 0]))]) [0] rfl
      have hKc := hK.sub (tys' := []) [] rfl
      refine vp_callSi (W.runV (As := [.int p1, .int p2]) (rest := []) ⟨hx, hb, hml, hown, hts⟩ (c_X5_isRange l dC dI h0 g_row g_many g_loss g_less g_voteValue g_voteNumber g_allValue g_allNumber g_nodeL g_nodeR g_part g_wasMany g_wasLoss g_wasValue g_wasNumber g_path g_heavyValue g_heavyTimes g_fewest g_which g_met 0 p1 p2) (cwV 2 hts gX5_count_X5_isRange rfl rfl rfl (by decide +kernel) ⟨Nat.le_of_ble_eq_true rfl, Nat.le_of_ble_eq_true rfl⟩) ⟨fun a U g mk q => by obtain ⟨q0, qP, qK⟩ := q; exact ⟨q0, qP, va_K.moved (u := U) (U := U.calling g mk a) (Vm.Alike.refl U.vm) qK⟩, va_recv hKc hPc (ci := 5) (q0 := 0) rfl rfl, fun U hU hW => ⟨rfl, by rw [hU]; exact hPc, va_K.moved hW.alike hKc⟩⟩ rfl rfl hl.1 rfl (lv_room (Nat.le_of_ble_eq_true rfl)) dX5_count_15 ⟨Nat.le_of_ble_eq_true rfl, Nat.le_of_ble_eq_true rfl⟩) (fun r_3 w_3 => ?_)
      rcases w_3 with ⟨rfl, w_3⟩
      · have w_3 : True := w_3
        refine lv_if_eq (tgt := 31) hx hb dX5_count_18 (by decide) (fun c_4 => ?_) (fun c_4 => ?_)
        · refine lv_iconst (v := (-1)) hx hb dX5_count_31 (by decide) ?_
          have hP9 := hP.sub (ws' := []) [] rfl
          have hD9 := hD.sub (ws' := []) [] (by decide) rfl
          have hK9 := hK.sub (tys' := []) [] rfl
          exact W.iret (v := (-1)) hx hb hr (fun t ht hW => ⟨⟨(-1), (), rfl, rfl, by rw [ht]; exact hP9, va_K.moved hW.alike hK9, hD9⟩, hS.F ht⟩) hS.2.2 dX5_count_32
        · exact absurd c_4 (by decide)
  · have w_1 : (p0.toInt < -32768 ∨ 32767 < p0.toInt) := w_1
    refine lv_if_eq (tgt := 31) hx hb dX5_count_9 (by decide) (fun c_5 => ?_) (fun c_5 => ?_)
    · refine lv_iconst (v := (-1)) hx hb dX5_count_31 (by decide) ?_
      have hP9 := hP.sub (ws' := []) [] rfl
      have hD9 := hD.sub (ws' := []) [] (by decide) rfl
      have hK9 := hK.sub (tys' := []) [] rfl
      exact W.iret (v := (-1)) hx hb hr (fun t ht hW => ⟨⟨(-1), (), rfl, rfl, by rw [ht]; exact hP9, va_K.moved hW.alike hK9, hD9⟩, hS.F ht⟩) hS.2.2 dX5_count_32
    · exact absurd c_5 (by decide)

set_option maxHeartbeats 4000000 in
set_option maxRecDepth 100000 in
/-- place of the reference, fresh -/
theorem c_X5_place (l : Launch) (dC : Nat → ClassId) (dI : Nat → Nat → Nat) (h0 : Nat) (g_row : Nat) (g_many : Nat) (g_loss : Nat) (g_less : Nat) (g_voteValue : Nat) (g_voteNumber : Nat) (g_allValue : Nat) (g_allNumber : Nat) (g_nodeL : Nat) (g_nodeR : Nat) (g_part : Nat) (g_wasMany : Nat) (g_wasLoss : Nat) (g_wasValue : Nat) (g_wasNumber : Nat) (g_path : Nat) (g_heavyValue : Nat) (g_heavyTimes : Nat) (g_fewest : Nat) (g_which : Nat) (g_met : Nat) (p0 : Int32) (p1 : Int32) (sz : Nat) : Met l yX5_place wsX5_place ({ frames := 0, cells := 0, slots := 0, locals := 0 }) (va_Pc [.ref h0, .int p0, .int p1] (fun U => U.heap.size = sz ∧ va_P (dC, dI) vwCl [(h0, .inr (5, [.ref g_row, .int 0, .int 2, .int 0, .ref g_many, .ref g_loss, .ref g_less, .ref g_voteValue, .ref g_voteNumber, .ref g_allValue, .ref g_allNumber, .int 0, .ref g_nodeL, .ref g_nodeR, .int 0, .ref g_part, .int 0, .ref g_wasMany, .ref g_wasLoss, .ref g_wasValue, .ref g_wasNumber, .ref g_path, .int 0, .ref g_heavyValue, .ref g_heavyTimes, .int 0, .ref g_fewest, .ref g_which, .ref g_met, .int 0]))] U.heap ∧ va_K (dC, dI) vwCl [] U ∧ va_D (fun _ => True) [(h0, .inr (5, [.ref g_row, .int 0, .int 2, .int 0, .ref g_many, .ref g_loss, .ref g_less, .ref g_voteValue, .ref g_voteNumber, .ref g_allValue, .ref g_allNumber, .int 0, .ref g_nodeL, .ref g_nodeR, .int 0, .ref g_part, .int 0, .ref g_wasMany, .ref g_wasLoss, .ref g_wasValue, .ref g_wasNumber, .ref g_path, .int 0, .ref g_heavyValue, .ref g_heavyTimes, .int 0, .ref g_fewest, .ref g_which, .ref g_met, .int 0]))])) (va_Qi (fun (r : Int32) (_ : Unit) => r = (-1)) (fun (_ : Unit) (t : State) => va_P (dC, dI) vwCl [] t.heap ∧ va_K (dC, dI) vwCl [] t ∧ va_D (va_A [(h0, .inr (5, [.ref g_row, .int 0, .int 2, .int 0, .ref g_many, .ref g_loss, .ref g_less, .ref g_voteValue, .ref g_voteNumber, .ref g_allValue, .ref g_allNumber, .int 0, .ref g_nodeL, .ref g_nodeR, .int 0, .ref g_part, .int 0, .ref g_wasMany, .ref g_wasLoss, .ref g_wasValue, .ref g_wasNumber, .ref g_path, .int 0, .ref g_heavyValue, .ref g_heavyTimes, .int 0, .ref g_fewest, .ref g_which, .ref g_met, .int 0]))] sz) []) (va_A [(h0, .inr (5, [.ref g_row, .int 0, .int 2, .int 0, .ref g_many, .ref g_loss, .ref g_less, .ref g_voteValue, .ref g_voteNumber, .ref g_allValue, .ref g_allNumber, .int 0, .ref g_nodeL, .ref g_nodeR, .int 0, .ref g_part, .int 0, .ref g_wasMany, .ref g_wasLoss, .ref g_wasValue, .ref g_wasNumber, .ref g_path, .int 0, .ref g_heavyValue, .ref g_heavyTimes, .int 0, .ref g_fewest, .ref g_which, .ref g_met, .int 0]))] sz)) 0 0 (va_A [(h0, .inr (5, [.ref g_row, .int 0, .int 2, .int 0, .ref g_many, .ref g_loss, .ref g_less, .ref g_voteValue, .ref g_voteNumber, .ref g_allValue, .ref g_allNumber, .int 0, .ref g_nodeL, .ref g_nodeR, .int 0, .ref g_part, .int 0, .ref g_wasMany, .ref g_wasLoss, .ref g_wasValue, .ref g_wasNumber, .ref g_path, .int 0, .ref g_heavyValue, .ref g_heavyTimes, .int 0, .ref g_fewest, .ref g_which, .ref g_met, .int 0]))] sz) := by
  refine Met.ofW (cc := cX5_place) (maxL := 5) (ret := (some .int)) (by decide) rfl ?_
  intro p e s m args below meth c s₁ B hml hv
  obtain ⟨rfl, hsz, hP, hK, hD0⟩ := hv
  have hx := B.exec
  have hb := B.bytes
  have hr := B.returns
  have hts := atoms_spec (ws := wsX5_place) B.pre
  have hown : s.vm.findClass RX5 = some m.cls := findClass_of_methodNamed B.named
  have hlocks := B.notSynchronized
  subst hsz
  have hD := hD0.self (sz := s.heap.size)
  generalize hAe : va_A [(h0, .inr (5, [.ref g_row, .int 0, .int 2, .int 0, .ref g_many, .ref g_loss, .ref g_less, .ref g_voteValue, .ref g_voteNumber, .ref g_allValue, .ref g_allNumber, .int 0, .ref g_nodeL, .ref g_nodeR, .int 0, .ref g_part, .int 0, .ref g_wasMany, .ref g_wasLoss, .ref g_wasValue, .ref g_wasNumber, .ref g_path, .int 0, .ref g_heavyValue, .ref g_heavyTimes, .int 0, .ref g_fewest, .ref g_which, .ref g_met, .int 0]))] s.heap.size = A at hD ⊢
  have hA : ∀ q : Nat, s.heap.size ≤ q → A q := fun q h => by rw [← hAe]; exact Or.inr h
  have hS : va_S A s.heap s.heap [] := va_S.rf
  have hP : va_P (dC, dI) vwCl [(h0, .inr (5, [.ref g_row, .int 0, .int 2, .int 0, .ref g_many, .ref g_loss, .ref g_less, .ref g_voteValue, .ref g_voteNumber, .ref g_allValue, .ref g_allNumber, .int 0, .ref g_nodeL, .ref g_nodeR, .int 0, .ref g_part, .int 0, .ref g_wasMany, .ref g_wasLoss, .ref g_wasValue, .ref g_wasNumber, .ref g_path, .int 0, .ref g_heavyValue, .ref g_heavyTimes, .int 0, .ref g_fewest, .ref g_which, .ref g_met, .int 0]))] s.heap := hP
  have hl := lv_entry ([.ref h0, .int p0, .int p1]) (n := 5) (Nat.le_of_ble_eq_true rfl)
  rw [lg_entry_eq]
  generalize (lg_sl ([.ref h0, .int p0, .int p1]) ++ List.replicate (5 - (lg_sl ([.ref h0, .int p0, .int p1])).length) Slot.unset).toArray = ls at hl ⊢
  have hl : lv_has ls 5 [(0, .ref h0), (1, .int p0), (2, .int p1)] := hl
  have hf_77 := hts (.fieldLink RX5 77 "MajorityIndexModel" "thrown" "I") (by decide +kernel)
  have hi_5 : ∀ w ∈ u_ws RX5 TX5 30, w ∈ wsX5_place := by decide +kernel
  have hf_84 := hts (.fieldLink RX5 84 "MajorityIndexModel" "n" "I") (by decide +kernel)
  refine lv_aload_n hx hb dX5_place_0 rfl (lv_at hl 0 rfl) ?_
  refine lv_iconst (v := 0) hx hb dX5_place_1 (by decide) ?_
  refine va_put (D := (dC, dI)) (ci := 5) (v := .int 0) (ty := .int) (C := RX5) (T := TX5) (N := 30) hx hb hts hi_5 tyX5 tyX5_ok nmX5 hown hK hP hD hS 0 rfl rfl 3 (by decide) hf_77 (fun _ h9 => h9) rfl (by decide +kernel) rfl rfl (Nat.le_of_ble_eq_true rfl) dX5_place_2 (fun H locs hP hD hS => ?_)
  have hP : va_P (dC, dI) vwCl [(h0, .inr (5, [.ref g_row, .int 0, .int 2, .int 0, .ref g_many, .ref g_loss, .ref g_less, .ref g_voteValue, .ref g_voteNumber, .ref g_allValue, .ref g_allNumber, .int 0, .ref g_nodeL, .ref g_nodeR, .int 0, .ref g_part, .int 0, .ref g_wasMany, .ref g_wasLoss, .ref g_wasValue, .ref g_wasNumber, .ref g_path, .int 0, .ref g_heavyValue, .ref g_heavyTimes, .int 0, .ref g_fewest, .ref g_which, .ref g_met, .int 0]))] H := hP
  have hD : va_D A [(h0, .inr (5, [.ref g_row, .int 0, .int 2, .int 0, .ref g_many, .ref g_loss, .ref g_less, .ref g_voteValue, .ref g_voteNumber, .ref g_allValue, .ref g_allNumber, .int 0, .ref g_nodeL, .ref g_nodeR, .int 0, .ref g_part, .int 0, .ref g_wasMany, .ref g_wasLoss, .ref g_wasValue, .ref g_wasNumber, .ref g_path, .int 0, .ref g_heavyValue, .ref g_heavyTimes, .int 0, .ref g_fewest, .ref g_which, .ref g_met, .int 0]))] := hD
  refine lv_iload_n hx hb dX5_place_5 rfl (lv_at hl 2 rfl) ?_
  refine lv_istore_n (lv' := [(3, .int p1), (0, .ref h0), (1, .int p0), (2, .int p1)]) hx hb dX5_place_6 rfl hl (by decide) rfl (fun ls hl => ?_)
  refine lv_iconst (v := 0) hx hb dX5_place_7 (by decide) ?_
  refine lv_istore (lv' := [(4, .int 0), (3, .int p1), (0, .ref h0), (1, .int p0), (2, .int p1)]) hx hb dX5_place_8 hl (by decide) rfl (fun ls hl => ?_)
  refine lv_iload hx hb dX5_place_10 (lv_at hl 0 rfl) ?_
  refine lv_aload_n hx hb dX5_place_12 rfl (lv_at hl 2 rfl) ?_
  refine va_get (D := (dC, dI)) (ci := 5) (v := .int 0) (C := RX5) (T := TX5) (N := 30) hx hb hts hi_5 hown hK hP 0 rfl rfl 1 (by decide) hf_84 (fun _ h9 => h9) rfl dX5_place_13 ?_
  refine lv_icmp_ge (tgt := 53) hx hb dX5_place_16 (by decide) (fun c_1 => ?_) (fun c_1 => ?_)
  · refine lv_iconst (v := (-1)) hx hb dX5_place_53 (by decide) ?_
    have hP9 := hP.sub (ws' := []) [] rfl
    have hD9 := hD.sub (ws' := []) [] (by decide) rfl
    have hK9 := hK.sub (tys' := []) [] rfl
    exact W.iret (v := (-1)) hx hb hr (fun t ht hW => ⟨⟨(-1), (), rfl, rfl, by rw [ht]; exact hP9, va_K.moved hW.alike hK9, hD9⟩, hS.F ht⟩) hS.2.2 dX5_place_54
  · exact absurd c_1 (by decide)

set_option maxHeartbeats 4000000 in
set_option maxRecDepth 100000 in
/-- values of the reference, fresh -/
theorem c_X5_values (l : Launch) (dC : Nat → ClassId) (dI : Nat → Nat → Nat) (h0 : Nat) (g_row : Nat) (g_many : Nat) (g_loss : Nat) (g_less : Nat) (g_voteValue : Nat) (g_voteNumber : Nat) (g_allValue : Nat) (g_allNumber : Nat) (g_nodeL : Nat) (g_nodeR : Nat) (g_part : Nat) (g_wasMany : Nat) (g_wasLoss : Nat) (g_wasValue : Nat) (g_wasNumber : Nat) (g_path : Nat) (g_heavyValue : Nat) (g_heavyTimes : Nat) (g_fewest : Nat) (g_which : Nat) (g_met : Nat) (sz : Nat) : Met l yX5_values wsX5_values ({ frames := 0, cells := 0, slots := 0, locals := 0 }) (va_Pc [.ref h0] (fun U => U.heap.size = sz ∧ va_P (dC, dI) vwCl [(h0, .inr (5, [.ref g_row, .int 0, .int 2, .int 0, .ref g_many, .ref g_loss, .ref g_less, .ref g_voteValue, .ref g_voteNumber, .ref g_allValue, .ref g_allNumber, .int 0, .ref g_nodeL, .ref g_nodeR, .int 0, .ref g_part, .int 0, .ref g_wasMany, .ref g_wasLoss, .ref g_wasValue, .ref g_wasNumber, .ref g_path, .int 0, .ref g_heavyValue, .ref g_heavyTimes, .int 0, .ref g_fewest, .ref g_which, .ref g_met, .int 0]))] U.heap ∧ va_K (dC, dI) vwCl [] U ∧ va_D (fun _ => True) [(h0, .inr (5, [.ref g_row, .int 0, .int 2, .int 0, .ref g_many, .ref g_loss, .ref g_less, .ref g_voteValue, .ref g_voteNumber, .ref g_allValue, .ref g_allNumber, .int 0, .ref g_nodeL, .ref g_nodeR, .int 0, .ref g_part, .int 0, .ref g_wasMany, .ref g_wasLoss, .ref g_wasValue, .ref g_wasNumber, .ref g_path, .int 0, .ref g_heavyValue, .ref g_heavyTimes, .int 0, .ref g_fewest, .ref g_which, .ref g_met, .int 0]))])) (va_Qi (fun (r : Int32) (_ : Unit) => r = 0) (fun (_ : Unit) (t : State) => va_P (dC, dI) vwCl [] t.heap ∧ va_K (dC, dI) vwCl [] t ∧ va_D (va_A [(h0, .inr (5, [.ref g_row, .int 0, .int 2, .int 0, .ref g_many, .ref g_loss, .ref g_less, .ref g_voteValue, .ref g_voteNumber, .ref g_allValue, .ref g_allNumber, .int 0, .ref g_nodeL, .ref g_nodeR, .int 0, .ref g_part, .int 0, .ref g_wasMany, .ref g_wasLoss, .ref g_wasValue, .ref g_wasNumber, .ref g_path, .int 0, .ref g_heavyValue, .ref g_heavyTimes, .int 0, .ref g_fewest, .ref g_which, .ref g_met, .int 0]))] sz) []) (va_A [(h0, .inr (5, [.ref g_row, .int 0, .int 2, .int 0, .ref g_many, .ref g_loss, .ref g_less, .ref g_voteValue, .ref g_voteNumber, .ref g_allValue, .ref g_allNumber, .int 0, .ref g_nodeL, .ref g_nodeR, .int 0, .ref g_part, .int 0, .ref g_wasMany, .ref g_wasLoss, .ref g_wasValue, .ref g_wasNumber, .ref g_path, .int 0, .ref g_heavyValue, .ref g_heavyTimes, .int 0, .ref g_fewest, .ref g_which, .ref g_met, .int 0]))] sz)) 0 0 (va_A [(h0, .inr (5, [.ref g_row, .int 0, .int 2, .int 0, .ref g_many, .ref g_loss, .ref g_less, .ref g_voteValue, .ref g_voteNumber, .ref g_allValue, .ref g_allNumber, .int 0, .ref g_nodeL, .ref g_nodeR, .int 0, .ref g_part, .int 0, .ref g_wasMany, .ref g_wasLoss, .ref g_wasValue, .ref g_wasNumber, .ref g_path, .int 0, .ref g_heavyValue, .ref g_heavyTimes, .int 0, .ref g_fewest, .ref g_which, .ref g_met, .int 0]))] sz) := by
  refine Met.ofW (cc := cX5_values) (maxL := 3) (ret := (some .int)) (by decide) rfl ?_
  intro p e s m args below meth c s₁ B hml hv
  obtain ⟨rfl, hsz, hP, hK, hD0⟩ := hv
  have hx := B.exec
  have hb := B.bytes
  have hr := B.returns
  have hts := atoms_spec (ws := wsX5_values) B.pre
  have hown : s.vm.findClass RX5 = some m.cls := findClass_of_methodNamed B.named
  have hlocks := B.notSynchronized
  subst hsz
  have hD := hD0.self (sz := s.heap.size)
  generalize hAe : va_A [(h0, .inr (5, [.ref g_row, .int 0, .int 2, .int 0, .ref g_many, .ref g_loss, .ref g_less, .ref g_voteValue, .ref g_voteNumber, .ref g_allValue, .ref g_allNumber, .int 0, .ref g_nodeL, .ref g_nodeR, .int 0, .ref g_part, .int 0, .ref g_wasMany, .ref g_wasLoss, .ref g_wasValue, .ref g_wasNumber, .ref g_path, .int 0, .ref g_heavyValue, .ref g_heavyTimes, .int 0, .ref g_fewest, .ref g_which, .ref g_met, .int 0]))] s.heap.size = A at hD ⊢
  have hA : ∀ q : Nat, s.heap.size ≤ q → A q := fun q h => by rw [← hAe]; exact Or.inr h
  have hS : va_S A s.heap s.heap [] := va_S.rf
  have hP : va_P (dC, dI) vwCl [(h0, .inr (5, [.ref g_row, .int 0, .int 2, .int 0, .ref g_many, .ref g_loss, .ref g_less, .ref g_voteValue, .ref g_voteNumber, .ref g_allValue, .ref g_allNumber, .int 0, .ref g_nodeL, .ref g_nodeR, .int 0, .ref g_part, .int 0, .ref g_wasMany, .ref g_wasLoss, .ref g_wasValue, .ref g_wasNumber, .ref g_path, .int 0, .ref g_heavyValue, .ref g_heavyTimes, .int 0, .ref g_fewest, .ref g_which, .ref g_met, .int 0]))] s.heap := hP
  have hl := lv_entry ([.ref h0]) (n := 3) (Nat.le_of_ble_eq_true rfl)
  rw [lg_entry_eq]
  generalize (lg_sl ([.ref h0]) ++ List.replicate (3 - (lg_sl ([.ref h0])).length) Slot.unset).toArray = ls at hl ⊢
  have hl : lv_has ls 3 [(0, .ref h0)] := hl
  have hf_77 := hts (.fieldLink RX5 77 "MajorityIndexModel" "thrown" "I") (by decide +kernel)
  have hi_5 : ∀ w ∈ u_ws RX5 TX5 30, w ∈ wsX5_values := by decide +kernel
  have hf_84 := hts (.fieldLink RX5 84 "MajorityIndexModel" "n" "I") (by decide +kernel)
  refine lv_aload_n hx hb dX5_values_0 rfl (lv_at hl 0 rfl) ?_
  refine lv_iconst (v := 0) hx hb dX5_values_1 (by decide) ?_
  refine va_put (D := (dC, dI)) (ci := 5) (v := .int 0) (ty := .int) (C := RX5) (T := TX5) (N := 30) hx hb hts hi_5 tyX5 tyX5_ok nmX5 hown hK hP hD hS 0 rfl rfl 3 (by decide) hf_77 (fun _ h9 => h9) rfl (by decide +kernel) rfl rfl (Nat.le_of_ble_eq_true rfl) dX5_values_2 (fun H locs hP hD hS => ?_)
  have hP : va_P (dC, dI) vwCl [(h0, .inr (5, [.ref g_row, .int 0, .int 2, .int 0, .ref g_many, .ref g_loss, .ref g_less, .ref g_voteValue, .ref g_voteNumber, .ref g_allValue, .ref g_allNumber, .int 0, .ref g_nodeL, .ref g_nodeR, .int 0, .ref g_part, .int 0, .ref g_wasMany, .ref g_wasLoss, .ref g_wasValue, .ref g_wasNumber, .ref g_path, .int 0, .ref g_heavyValue, .ref g_heavyTimes, .int 0, .ref g_fewest, .ref g_which, .ref g_met, .int 0]))] H := hP
  have hD : va_D A [(h0, .inr (5, [.ref g_row, .int 0, .int 2, .int 0, .ref g_many, .ref g_loss, .ref g_less, .ref g_voteValue, .ref g_voteNumber, .ref g_allValue, .ref g_allNumber, .int 0, .ref g_nodeL, .ref g_nodeR, .int 0, .ref g_part, .int 0, .ref g_wasMany, .ref g_wasLoss, .ref g_wasValue, .ref g_wasNumber, .ref g_path, .int 0, .ref g_heavyValue, .ref g_heavyTimes, .int 0, .ref g_fewest, .ref g_which, .ref g_met, .int 0]))] := hD
  refine lv_iconst (v := 0) hx hb dX5_values_5 (by decide) ?_
  refine lv_istore_n (lv' := [(1, .int 0), (0, .ref h0)]) hx hb dX5_values_6 rfl hl (by decide) rfl (fun ls hl => ?_)
  refine lv_iconst (v := 0) hx hb dX5_values_7 (by decide) ?_
  refine lv_istore_n (lv' := [(2, .int 0), (1, .int 0), (0, .ref h0)]) hx hb dX5_values_8 rfl hl (by decide) rfl (fun ls hl => ?_)
  refine lv_iload_n hx hb dX5_values_9 rfl (lv_at hl 0 rfl) ?_
  refine lv_aload_n hx hb dX5_values_10 rfl (lv_at hl 2 rfl) ?_
  refine va_get (D := (dC, dI)) (ci := 5) (v := .int 0) (C := RX5) (T := TX5) (N := 30) hx hb hts hi_5 hown hK hP 0 rfl rfl 1 (by decide) hf_84 (fun _ h9 => h9) rfl dX5_values_11 ?_
  refine lv_icmp_ge (tgt := 41) hx hb dX5_values_14 (by decide) (fun c_1 => ?_) (fun c_1 => ?_)
  · refine lv_iload_n hx hb dX5_values_41 rfl (lv_at hl 1 rfl) ?_
    have hP9 := hP.sub (ws' := []) [] rfl
    have hD9 := hD.sub (ws' := []) [] (by decide) rfl
    have hK9 := hK.sub (tys' := []) [] rfl
    exact W.iret (v := 0) hx hb hr (fun t ht hW => ⟨⟨0, (), rfl, rfl, by rw [ht]; exact hP9, va_K.moved hW.alike hK9, hD9⟩, hS.F ht⟩) hS.2.2 dX5_values_42
  · exact absurd c_1 (by decide)

set_option maxHeartbeats 4000000 in
set_option maxRecDepth 100000 in
/-- node of the reference, fresh -/
theorem c_X5_node (l : Launch) (dC : Nat → ClassId) (dI : Nat → Nat → Nat) (h0 : Nat) (g_row : Nat) (g_many : Nat) (g_loss : Nat) (g_less : Nat) (g_voteValue : Nat) (g_voteNumber : Nat) (g_allValue : Nat) (g_allNumber : Nat) (g_nodeL : Nat) (g_nodeR : Nat) (g_part : Nat) (g_wasMany : Nat) (g_wasLoss : Nat) (g_wasValue : Nat) (g_wasNumber : Nat) (g_path : Nat) (g_heavyValue : Nat) (g_heavyTimes : Nat) (g_fewest : Nat) (g_which : Nat) (g_met : Nat) (p0 : Int32) (p1 : Int32) (sz : Nat) : Met l yX5_node wsX5_node ({ frames := 2, cells := 0, slots := 0, locals := 90 }) (va_Pc [.ref h0, .int p0, .int p1] (fun U => U.heap.size = sz ∧ va_P (dC, dI) vwCl [(h0, .inr (5, [.ref g_row, .int 0, .int 2, .int 0, .ref g_many, .ref g_loss, .ref g_less, .ref g_voteValue, .ref g_voteNumber, .ref g_allValue, .ref g_allNumber, .int 0, .ref g_nodeL, .ref g_nodeR, .int 0, .ref g_part, .int 0, .ref g_wasMany, .ref g_wasLoss, .ref g_wasValue, .ref g_wasNumber, .ref g_path, .int 0, .ref g_heavyValue, .ref g_heavyTimes, .int 0, .ref g_fewest, .ref g_which, .ref g_met, .int 0]))] U.heap ∧ va_K (dC, dI) vwCl [] U ∧ va_D (fun _ => True) [(h0, .inr (5, [.ref g_row, .int 0, .int 2, .int 0, .ref g_many, .ref g_loss, .ref g_less, .ref g_voteValue, .ref g_voteNumber, .ref g_allValue, .ref g_allNumber, .int 0, .ref g_nodeL, .ref g_nodeR, .int 0, .ref g_part, .int 0, .ref g_wasMany, .ref g_wasLoss, .ref g_wasValue, .ref g_wasNumber, .ref g_path, .int 0, .ref g_heavyValue, .ref g_heavyTimes, .int 0, .ref g_fewest, .ref g_which, .ref g_met, .int 0]))])) (va_Qi (fun (r : Int32) (_ : Unit) => r = (-1)) (fun (_ : Unit) (t : State) => va_P (dC, dI) vwCl [] t.heap ∧ va_K (dC, dI) vwCl [] t ∧ va_D (va_A [(h0, .inr (5, [.ref g_row, .int 0, .int 2, .int 0, .ref g_many, .ref g_loss, .ref g_less, .ref g_voteValue, .ref g_voteNumber, .ref g_allValue, .ref g_allNumber, .int 0, .ref g_nodeL, .ref g_nodeR, .int 0, .ref g_part, .int 0, .ref g_wasMany, .ref g_wasLoss, .ref g_wasValue, .ref g_wasNumber, .ref g_path, .int 0, .ref g_heavyValue, .ref g_heavyTimes, .int 0, .ref g_fewest, .ref g_which, .ref g_met, .int 0]))] sz) []) (va_A [(h0, .inr (5, [.ref g_row, .int 0, .int 2, .int 0, .ref g_many, .ref g_loss, .ref g_less, .ref g_voteValue, .ref g_voteNumber, .ref g_allValue, .ref g_allNumber, .int 0, .ref g_nodeL, .ref g_nodeR, .int 0, .ref g_part, .int 0, .ref g_wasMany, .ref g_wasLoss, .ref g_wasValue, .ref g_wasNumber, .ref g_path, .int 0, .ref g_heavyValue, .ref g_heavyTimes, .int 0, .ref g_fewest, .ref g_which, .ref g_met, .int 0]))] sz)) 0 0 (va_A [(h0, .inr (5, [.ref g_row, .int 0, .int 2, .int 0, .ref g_many, .ref g_loss, .ref g_less, .ref g_voteValue, .ref g_voteNumber, .ref g_allValue, .ref g_allNumber, .int 0, .ref g_nodeL, .ref g_nodeR, .int 0, .ref g_part, .int 0, .ref g_wasMany, .ref g_wasLoss, .ref g_wasValue, .ref g_wasNumber, .ref g_path, .int 0, .ref g_heavyValue, .ref g_heavyTimes, .int 0, .ref g_fewest, .ref g_which, .ref g_met, .int 0]))] sz) := by
  refine Met.ofW (cc := cX5_node) (maxL := 4) (ret := (some .int)) (by decide) rfl ?_
  intro p e s m args below meth c s₁ B hml hv
  obtain ⟨rfl, hsz, hP, hK, hD0⟩ := hv
  have hx := B.exec
  have hb := B.bytes
  have hr := B.returns
  have hts := atoms_spec (ws := wsX5_node) B.pre
  have hown : s.vm.findClass RX5 = some m.cls := findClass_of_methodNamed B.named
  have hlocks := B.notSynchronized
  subst hsz
  have hD := hD0.self (sz := s.heap.size)
  generalize hAe : va_A [(h0, .inr (5, [.ref g_row, .int 0, .int 2, .int 0, .ref g_many, .ref g_loss, .ref g_less, .ref g_voteValue, .ref g_voteNumber, .ref g_allValue, .ref g_allNumber, .int 0, .ref g_nodeL, .ref g_nodeR, .int 0, .ref g_part, .int 0, .ref g_wasMany, .ref g_wasLoss, .ref g_wasValue, .ref g_wasNumber, .ref g_path, .int 0, .ref g_heavyValue, .ref g_heavyTimes, .int 0, .ref g_fewest, .ref g_which, .ref g_met, .int 0]))] s.heap.size = A at hD ⊢
  have hA : ∀ q : Nat, s.heap.size ≤ q → A q := fun q h => by rw [← hAe]; exact Or.inr h
  have hS : va_S A s.heap s.heap [] := va_S.rf
  have hP : va_P (dC, dI) vwCl [(h0, .inr (5, [.ref g_row, .int 0, .int 2, .int 0, .ref g_many, .ref g_loss, .ref g_less, .ref g_voteValue, .ref g_voteNumber, .ref g_allValue, .ref g_allNumber, .int 0, .ref g_nodeL, .ref g_nodeR, .int 0, .ref g_part, .int 0, .ref g_wasMany, .ref g_wasLoss, .ref g_wasValue, .ref g_wasNumber, .ref g_path, .int 0, .ref g_heavyValue, .ref g_heavyTimes, .int 0, .ref g_fewest, .ref g_which, .ref g_met, .int 0]))] s.heap := hP
  have hl := lv_entry ([.ref h0, .int p0, .int p1]) (n := 4) (Nat.le_of_ble_eq_true rfl)
  rw [lg_entry_eq]
  generalize (lg_sl ([.ref h0, .int p0, .int p1]) ++ List.replicate (4 - (lg_sl ([.ref h0, .int p0, .int p1])).length) Slot.unset).toArray = ls at hl ⊢
  have hl : lv_has ls 4 [(0, .ref h0), (1, .int p0), (2, .int p1)] := hl
  have hf_77 := hts (.fieldLink RX5 77 "MajorityIndexModel" "thrown" "I") (by decide +kernel)
  have hi_5 : ∀ w ∈ u_ws RX5 TX5 30, w ∈ wsX5_node := by decide +kernel
  refine lv_aload_n hx hb dX5_node_0 rfl (lv_at hl 0 rfl) ?_
  refine lv_iconst (v := 0) hx hb dX5_node_1 (by decide) ?_
  refine va_put (D := (dC, dI)) (ci := 5) (v := .int 0) (ty := .int) (C := RX5) (T := TX5) (N := 30) hx hb hts hi_5 tyX5 tyX5_ok nmX5 hown hK hP hD hS 0 rfl rfl 3 (by decide) hf_77 (fun _ h9 => h9) rfl (by decide +kernel) rfl rfl (Nat.le_of_ble_eq_true rfl) dX5_node_2 (fun H locs hP hD hS => ?_)
  have hP : va_P (dC, dI) vwCl [(h0, .inr (5, [.ref g_row, .int 0, .int 2, .int 0, .ref g_many, .ref g_loss, .ref g_less, .ref g_voteValue, .ref g_voteNumber, .ref g_allValue, .ref g_allNumber, .int 0, .ref g_nodeL, .ref g_nodeR, .int 0, .ref g_part, .int 0, .ref g_wasMany, .ref g_wasLoss, .ref g_wasValue, .ref g_wasNumber, .ref g_path, .int 0, .ref g_heavyValue, .ref g_heavyTimes, .int 0, .ref g_fewest, .ref g_which, .ref g_met, .int 0]))] H := hP
  have hD : va_D A [(h0, .inr (5, [.ref g_row, .int 0, .int 2, .int 0, .ref g_many, .ref g_loss, .ref g_less, .ref g_voteValue, .ref g_voteNumber, .ref g_allValue, .ref g_allNumber, .int 0, .ref g_nodeL, .ref g_nodeR, .int 0, .ref g_part, .int 0, .ref g_wasMany, .ref g_wasLoss, .ref g_wasValue, .ref g_wasNumber, .ref g_path, .int 0, .ref g_heavyValue, .ref g_heavyTimes, .int 0, .ref g_fewest, .ref g_which, .ref g_met, .int 0]))] := hD
  refine lv_aload_n hx hb dX5_node_5 rfl (lv_at hl 0 rfl) ?_
  refine lv_iload_n hx hb dX5_node_6 rfl (lv_at hl 1 rfl) ?_
  refine lv_iload_n hx hb dX5_node_7 rfl (lv_at hl 2 rfl) ?_
  have hPc := hP.sub (ws' := [(h0, .inr (5, [.ref g_row, .int 0, .int 2, .int 0, .ref g_many, .ref g_loss, .ref g_less, .ref g_voteValue, .ref g_voteNumber, .ref g_allValue, .ref g_allNumber, .int 0, .ref g_nodeL, .ref g_nodeR, .int 0, .ref g_part, .int 0, .ref g_wasMany, .ref g_wasLoss, .ref g_wasValue, .ref g_wasNumber, .ref g_path, .int 0, .ref g_heavyValue, .ref g_heavyTimes, .int 0, .ref g_fewest, .ref g_which, .ref g_met, .int 0]))]) [0] rfl
  have hKc := hK.sub (tys' := []) [] rfl
  refine vp_callSi (W.runV (As := [.int p0, .int p1]) (rest := []) ⟨hx, hb, hml, hown, hts⟩ (c_X5_asked l dC dI h0 g_row g_many g_loss g_less g_voteValue g_voteNumber g_allValue g_allNumber g_nodeL g_nodeR g_part g_wasMany g_wasLoss g_wasValue g_wasNumber g_path g_heavyValue g_heavyTimes g_fewest g_which g_met 0 p0 p1) (cwV 2 hts gX5_node_X5_asked rfl rfl rfl (by decide +kernel) ⟨Nat.le_of_ble_eq_true rfl, Nat.le_of_ble_eq_true rfl⟩) ⟨fun a U g mk q => by obtain ⟨q0, qP, qK⟩ := q; exact ⟨q0, qP, va_K.moved (u := U) (U := U.calling g mk a) (Vm.Alike.refl U.vm) qK⟩, va_recv hKc hPc (ci := 5) (q0 := 0) rfl rfl, fun U hU hW => ⟨rfl, by rw [hU]; exact hPc, va_K.moved hW.alike hKc⟩⟩ rfl rfl hl.1 rfl (lv_room (Nat.le_of_ble_eq_true rfl)) dX5_node_8 ⟨Nat.le_of_ble_eq_true rfl, Nat.le_of_ble_eq_true rfl⟩) (fun r_1 w_1 => ?_)
  subst w_1
  refine lv_istore_n (lv' := [(3, .int (-1)), (0, .ref h0), (1, .int p0), (2, .int p1)]) hx hb dX5_node_11 rfl hl (by decide) rfl (fun ls hl => ?_)
  refine lv_iload_n hx hb dX5_node_12 rfl (lv_at hl 0 rfl) ?_
  refine lv_if_ge (tgt := 20) hx hb dX5_node_13 (by decide) (fun c_2 => ?_) (fun c_2 => ?_)
  · exact absurd c_2 (by decide)
  · refine lv_iload_n hx hb dX5_node_16 rfl (lv_at hl 0 rfl) ?_
    refine lv_goto (tgt := 26) hx hb dX5_node_17 (by decide) ?_
    have hP9 := hP.sub (ws' := []) [] rfl
    have hD9 := hD.sub (ws' := []) [] (by decide) rfl
    have hK9 := hK.sub (tys' := []) [] rfl
    exact W.iret (v := (-1)) hx hb hr (fun t ht hW => ⟨⟨(-1), (), rfl, rfl, by rw [ht]; exact hP9, va_K.moved hW.alike hK9, hD9⟩, hS.F ht⟩) hS.2.2 dX5_node_26

set_option maxHeartbeats 4000000 in
set_option maxRecDepth 100000 in
/-- loss of the reference, fresh -/
theorem c_X5_loss (l : Launch) (dC : Nat → ClassId) (dI : Nat → Nat → Nat) (h0 : Nat) (g_row : Nat) (g_many : Nat) (g_loss : Nat) (g_less : Nat) (g_voteValue : Nat) (g_voteNumber : Nat) (g_allValue : Nat) (g_allNumber : Nat) (g_nodeL : Nat) (g_nodeR : Nat) (g_part : Nat) (g_wasMany : Nat) (g_wasLoss : Nat) (g_wasValue : Nat) (g_wasNumber : Nat) (g_path : Nat) (g_heavyValue : Nat) (g_heavyTimes : Nat) (g_fewest : Nat) (g_which : Nat) (g_met : Nat) (p0 : Int32) (p1 : Int32) (sz : Nat) : Met l yX5_loss wsX5_loss ({ frames := 2, cells := 0, slots := 0, locals := 90 }) (va_Pc [.ref h0, .int p0, .int p1] (fun U => U.heap.size = sz ∧ va_P (dC, dI) vwCl [(h0, .inr (5, [.ref g_row, .int 0, .int 2, .int 0, .ref g_many, .ref g_loss, .ref g_less, .ref g_voteValue, .ref g_voteNumber, .ref g_allValue, .ref g_allNumber, .int 0, .ref g_nodeL, .ref g_nodeR, .int 0, .ref g_part, .int 0, .ref g_wasMany, .ref g_wasLoss, .ref g_wasValue, .ref g_wasNumber, .ref g_path, .int 0, .ref g_heavyValue, .ref g_heavyTimes, .int 0, .ref g_fewest, .ref g_which, .ref g_met, .int 0]))] U.heap ∧ va_K (dC, dI) vwCl [] U ∧ va_D (fun _ => True) [(h0, .inr (5, [.ref g_row, .int 0, .int 2, .int 0, .ref g_many, .ref g_loss, .ref g_less, .ref g_voteValue, .ref g_voteNumber, .ref g_allValue, .ref g_allNumber, .int 0, .ref g_nodeL, .ref g_nodeR, .int 0, .ref g_part, .int 0, .ref g_wasMany, .ref g_wasLoss, .ref g_wasValue, .ref g_wasNumber, .ref g_path, .int 0, .ref g_heavyValue, .ref g_heavyTimes, .int 0, .ref g_fewest, .ref g_which, .ref g_met, .int 0]))])) (va_Qi (fun (r : Int32) (_ : Unit) => r = (-1)) (fun (_ : Unit) (t : State) => va_P (dC, dI) vwCl [] t.heap ∧ va_K (dC, dI) vwCl [] t ∧ va_D (va_A [(h0, .inr (5, [.ref g_row, .int 0, .int 2, .int 0, .ref g_many, .ref g_loss, .ref g_less, .ref g_voteValue, .ref g_voteNumber, .ref g_allValue, .ref g_allNumber, .int 0, .ref g_nodeL, .ref g_nodeR, .int 0, .ref g_part, .int 0, .ref g_wasMany, .ref g_wasLoss, .ref g_wasValue, .ref g_wasNumber, .ref g_path, .int 0, .ref g_heavyValue, .ref g_heavyTimes, .int 0, .ref g_fewest, .ref g_which, .ref g_met, .int 0]))] sz) []) (va_A [(h0, .inr (5, [.ref g_row, .int 0, .int 2, .int 0, .ref g_many, .ref g_loss, .ref g_less, .ref g_voteValue, .ref g_voteNumber, .ref g_allValue, .ref g_allNumber, .int 0, .ref g_nodeL, .ref g_nodeR, .int 0, .ref g_part, .int 0, .ref g_wasMany, .ref g_wasLoss, .ref g_wasValue, .ref g_wasNumber, .ref g_path, .int 0, .ref g_heavyValue, .ref g_heavyTimes, .int 0, .ref g_fewest, .ref g_which, .ref g_met, .int 0]))] sz)) 0 0 (va_A [(h0, .inr (5, [.ref g_row, .int 0, .int 2, .int 0, .ref g_many, .ref g_loss, .ref g_less, .ref g_voteValue, .ref g_voteNumber, .ref g_allValue, .ref g_allNumber, .int 0, .ref g_nodeL, .ref g_nodeR, .int 0, .ref g_part, .int 0, .ref g_wasMany, .ref g_wasLoss, .ref g_wasValue, .ref g_wasNumber, .ref g_path, .int 0, .ref g_heavyValue, .ref g_heavyTimes, .int 0, .ref g_fewest, .ref g_which, .ref g_met, .int 0]))] sz) := by
  refine Met.ofW (cc := cX5_loss) (maxL := 4) (ret := (some .int)) (by decide) rfl ?_
  intro p e s m args below meth c s₁ B hml hv
  obtain ⟨rfl, hsz, hP, hK, hD0⟩ := hv
  have hx := B.exec
  have hb := B.bytes
  have hr := B.returns
  have hts := atoms_spec (ws := wsX5_loss) B.pre
  have hown : s.vm.findClass RX5 = some m.cls := findClass_of_methodNamed B.named
  have hlocks := B.notSynchronized
  subst hsz
  have hD := hD0.self (sz := s.heap.size)
  generalize hAe : va_A [(h0, .inr (5, [.ref g_row, .int 0, .int 2, .int 0, .ref g_many, .ref g_loss, .ref g_less, .ref g_voteValue, .ref g_voteNumber, .ref g_allValue, .ref g_allNumber, .int 0, .ref g_nodeL, .ref g_nodeR, .int 0, .ref g_part, .int 0, .ref g_wasMany, .ref g_wasLoss, .ref g_wasValue, .ref g_wasNumber, .ref g_path, .int 0, .ref g_heavyValue, .ref g_heavyTimes, .int 0, .ref g_fewest, .ref g_which, .ref g_met, .int 0]))] s.heap.size = A at hD ⊢
  have hA : ∀ q : Nat, s.heap.size ≤ q → A q := fun q h => by rw [← hAe]; exact Or.inr h
  have hS : va_S A s.heap s.heap [] := va_S.rf
  have hP : va_P (dC, dI) vwCl [(h0, .inr (5, [.ref g_row, .int 0, .int 2, .int 0, .ref g_many, .ref g_loss, .ref g_less, .ref g_voteValue, .ref g_voteNumber, .ref g_allValue, .ref g_allNumber, .int 0, .ref g_nodeL, .ref g_nodeR, .int 0, .ref g_part, .int 0, .ref g_wasMany, .ref g_wasLoss, .ref g_wasValue, .ref g_wasNumber, .ref g_path, .int 0, .ref g_heavyValue, .ref g_heavyTimes, .int 0, .ref g_fewest, .ref g_which, .ref g_met, .int 0]))] s.heap := hP
  have hl := lv_entry ([.ref h0, .int p0, .int p1]) (n := 4) (Nat.le_of_ble_eq_true rfl)
  rw [lg_entry_eq]
  generalize (lg_sl ([.ref h0, .int p0, .int p1]) ++ List.replicate (4 - (lg_sl ([.ref h0, .int p0, .int p1])).length) Slot.unset).toArray = ls at hl ⊢
  have hl : lv_has ls 4 [(0, .ref h0), (1, .int p0), (2, .int p1)] := hl
  have hf_77 := hts (.fieldLink RX5 77 "MajorityIndexModel" "thrown" "I") (by decide +kernel)
  have hi_5 : ∀ w ∈ u_ws RX5 TX5 30, w ∈ wsX5_loss := by decide +kernel
  refine lv_aload_n hx hb dX5_loss_0 rfl (lv_at hl 0 rfl) ?_
  refine lv_iconst (v := 0) hx hb dX5_loss_1 (by decide) ?_
  refine va_put (D := (dC, dI)) (ci := 5) (v := .int 0) (ty := .int) (C := RX5) (T := TX5) (N := 30) hx hb hts hi_5 tyX5 tyX5_ok nmX5 hown hK hP hD hS 0 rfl rfl 3 (by decide) hf_77 (fun _ h9 => h9) rfl (by decide +kernel) rfl rfl (Nat.le_of_ble_eq_true rfl) dX5_loss_2 (fun H locs hP hD hS => ?_)
  have hP : va_P (dC, dI) vwCl [(h0, .inr (5, [.ref g_row, .int 0, .int 2, .int 0, .ref g_many, .ref g_loss, .ref g_less, .ref g_voteValue, .ref g_voteNumber, .ref g_allValue, .ref g_allNumber, .int 0, .ref g_nodeL, .ref g_nodeR, .int 0, .ref g_part, .int 0, .ref g_wasMany, .ref g_wasLoss, .ref g_wasValue, .ref g_wasNumber, .ref g_path, .int 0, .ref g_heavyValue, .ref g_heavyTimes, .int 0, .ref g_fewest, .ref g_which, .ref g_met, .int 0]))] H := hP
  have hD : va_D A [(h0, .inr (5, [.ref g_row, .int 0, .int 2, .int 0, .ref g_many, .ref g_loss, .ref g_less, .ref g_voteValue, .ref g_voteNumber, .ref g_allValue, .ref g_allNumber, .int 0, .ref g_nodeL, .ref g_nodeR, .int 0, .ref g_part, .int 0, .ref g_wasMany, .ref g_wasLoss, .ref g_wasValue, .ref g_wasNumber, .ref g_path, .int 0, .ref g_heavyValue, .ref g_heavyTimes, .int 0, .ref g_fewest, .ref g_which, .ref g_met, .int 0]))] := hD
  refine lv_aload_n hx hb dX5_loss_5 rfl (lv_at hl 0 rfl) ?_
  refine lv_iload_n hx hb dX5_loss_6 rfl (lv_at hl 1 rfl) ?_
  refine lv_iload_n hx hb dX5_loss_7 rfl (lv_at hl 2 rfl) ?_
  have hPc := hP.sub (ws' := [(h0, .inr (5, [.ref g_row, .int 0, .int 2, .int 0, .ref g_many, .ref g_loss, .ref g_less, .ref g_voteValue, .ref g_voteNumber, .ref g_allValue, .ref g_allNumber, .int 0, .ref g_nodeL, .ref g_nodeR, .int 0, .ref g_part, .int 0, .ref g_wasMany, .ref g_wasLoss, .ref g_wasValue, .ref g_wasNumber, .ref g_path, .int 0, .ref g_heavyValue, .ref g_heavyTimes, .int 0, .ref g_fewest, .ref g_which, .ref g_met, .int 0]))]) [0] rfl
  have hKc := hK.sub (tys' := []) [] rfl
  refine vp_callSi (W.runV (As := [.int p0, .int p1]) (rest := []) ⟨hx, hb, hml, hown, hts⟩ (c_X5_asked l dC dI h0 g_row g_many g_loss g_less g_voteValue g_voteNumber g_allValue g_allNumber g_nodeL g_nodeR g_part g_wasMany g_wasLoss g_wasValue g_wasNumber g_path g_heavyValue g_heavyTimes g_fewest g_which g_met 0 p0 p1) (cwV 2 hts gX5_loss_X5_asked rfl rfl rfl (by decide +kernel) ⟨Nat.le_of_ble_eq_true rfl, Nat.le_of_ble_eq_true rfl⟩) ⟨fun a U g mk q => by obtain ⟨q0, qP, qK⟩ := q; exact ⟨q0, qP, va_K.moved (u := U) (U := U.calling g mk a) (Vm.Alike.refl U.vm) qK⟩, va_recv hKc hPc (ci := 5) (q0 := 0) rfl rfl, fun U hU hW => ⟨rfl, by rw [hU]; exact hPc, va_K.moved hW.alike hKc⟩⟩ rfl rfl hl.1 rfl (lv_room (Nat.le_of_ble_eq_true rfl)) dX5_loss_8 ⟨Nat.le_of_ble_eq_true rfl, Nat.le_of_ble_eq_true rfl⟩) (fun r_1 w_1 => ?_)
  subst w_1
  refine lv_istore_n (lv' := [(3, .int (-1)), (0, .ref h0), (1, .int p0), (2, .int p1)]) hx hb dX5_loss_11 rfl hl (by decide) rfl (fun ls hl => ?_)
  refine lv_iload_n hx hb dX5_loss_12 rfl (lv_at hl 0 rfl) ?_
  refine lv_if_ge (tgt := 20) hx hb dX5_loss_13 (by decide) (fun c_2 => ?_) (fun c_2 => ?_)
  · exact absurd c_2 (by decide)
  · refine lv_iload_n hx hb dX5_loss_16 rfl (lv_at hl 0 rfl) ?_
    refine lv_goto (tgt := 26) hx hb dX5_loss_17 (by decide) ?_
    have hP9 := hP.sub (ws' := []) [] rfl
    have hD9 := hD.sub (ws' := []) [] (by decide) rfl
    have hK9 := hK.sub (tys' := []) [] rfl
    exact W.iret (v := (-1)) hx hb hr (fun t ht hW => ⟨⟨(-1), (), rfl, rfl, by rw [ht]; exact hP9, va_K.moved hW.alike hK9, hD9⟩, hS.F ht⟩) hS.2.2 dX5_loss_26

set_option maxHeartbeats 4000000 in
set_option maxRecDepth 100000 in
/-- cancelled of the reference, fresh -/
theorem c_X5_cancelled (l : Launch) (dC : Nat → ClassId) (dI : Nat → Nat → Nat) (h0 : Nat) (g_row : Nat) (g_many : Nat) (g_loss : Nat) (g_less : Nat) (g_voteValue : Nat) (g_voteNumber : Nat) (g_allValue : Nat) (g_allNumber : Nat) (g_nodeL : Nat) (g_nodeR : Nat) (g_part : Nat) (g_wasMany : Nat) (g_wasLoss : Nat) (g_wasValue : Nat) (g_wasNumber : Nat) (g_path : Nat) (g_heavyValue : Nat) (g_heavyTimes : Nat) (g_fewest : Nat) (g_which : Nat) (g_met : Nat) (p0 : Int32) (p1 : Int32) (sz : Nat) : Met l yX5_cancelled wsX5_cancelled ({ frames := 2, cells := 0, slots := 0, locals := 90 }) (va_Pc [.ref h0, .int p0, .int p1] (fun U => U.heap.size = sz ∧ va_P (dC, dI) vwCl [(h0, .inr (5, [.ref g_row, .int 0, .int 2, .int 0, .ref g_many, .ref g_loss, .ref g_less, .ref g_voteValue, .ref g_voteNumber, .ref g_allValue, .ref g_allNumber, .int 0, .ref g_nodeL, .ref g_nodeR, .int 0, .ref g_part, .int 0, .ref g_wasMany, .ref g_wasLoss, .ref g_wasValue, .ref g_wasNumber, .ref g_path, .int 0, .ref g_heavyValue, .ref g_heavyTimes, .int 0, .ref g_fewest, .ref g_which, .ref g_met, .int 0]))] U.heap ∧ va_K (dC, dI) vwCl [] U ∧ va_D (fun _ => True) [(h0, .inr (5, [.ref g_row, .int 0, .int 2, .int 0, .ref g_many, .ref g_loss, .ref g_less, .ref g_voteValue, .ref g_voteNumber, .ref g_allValue, .ref g_allNumber, .int 0, .ref g_nodeL, .ref g_nodeR, .int 0, .ref g_part, .int 0, .ref g_wasMany, .ref g_wasLoss, .ref g_wasValue, .ref g_wasNumber, .ref g_path, .int 0, .ref g_heavyValue, .ref g_heavyTimes, .int 0, .ref g_fewest, .ref g_which, .ref g_met, .int 0]))])) (va_Qi (fun (r : Int32) (_ : Unit) => r = (-1)) (fun (_ : Unit) (t : State) => va_P (dC, dI) vwCl [] t.heap ∧ va_K (dC, dI) vwCl [] t ∧ va_D (va_A [(h0, .inr (5, [.ref g_row, .int 0, .int 2, .int 0, .ref g_many, .ref g_loss, .ref g_less, .ref g_voteValue, .ref g_voteNumber, .ref g_allValue, .ref g_allNumber, .int 0, .ref g_nodeL, .ref g_nodeR, .int 0, .ref g_part, .int 0, .ref g_wasMany, .ref g_wasLoss, .ref g_wasValue, .ref g_wasNumber, .ref g_path, .int 0, .ref g_heavyValue, .ref g_heavyTimes, .int 0, .ref g_fewest, .ref g_which, .ref g_met, .int 0]))] sz) []) (va_A [(h0, .inr (5, [.ref g_row, .int 0, .int 2, .int 0, .ref g_many, .ref g_loss, .ref g_less, .ref g_voteValue, .ref g_voteNumber, .ref g_allValue, .ref g_allNumber, .int 0, .ref g_nodeL, .ref g_nodeR, .int 0, .ref g_part, .int 0, .ref g_wasMany, .ref g_wasLoss, .ref g_wasValue, .ref g_wasNumber, .ref g_path, .int 0, .ref g_heavyValue, .ref g_heavyTimes, .int 0, .ref g_fewest, .ref g_which, .ref g_met, .int 0]))] sz)) 0 0 (va_A [(h0, .inr (5, [.ref g_row, .int 0, .int 2, .int 0, .ref g_many, .ref g_loss, .ref g_less, .ref g_voteValue, .ref g_voteNumber, .ref g_allValue, .ref g_allNumber, .int 0, .ref g_nodeL, .ref g_nodeR, .int 0, .ref g_part, .int 0, .ref g_wasMany, .ref g_wasLoss, .ref g_wasValue, .ref g_wasNumber, .ref g_path, .int 0, .ref g_heavyValue, .ref g_heavyTimes, .int 0, .ref g_fewest, .ref g_which, .ref g_met, .int 0]))] sz) := by
  refine Met.ofW (cc := cX5_cancelled) (maxL := 4) (ret := (some .int)) (by decide) rfl ?_
  intro p e s m args below meth c s₁ B hml hv
  obtain ⟨rfl, hsz, hP, hK, hD0⟩ := hv
  have hx := B.exec
  have hb := B.bytes
  have hr := B.returns
  have hts := atoms_spec (ws := wsX5_cancelled) B.pre
  have hown : s.vm.findClass RX5 = some m.cls := findClass_of_methodNamed B.named
  have hlocks := B.notSynchronized
  subst hsz
  have hD := hD0.self (sz := s.heap.size)
  generalize hAe : va_A [(h0, .inr (5, [.ref g_row, .int 0, .int 2, .int 0, .ref g_many, .ref g_loss, .ref g_less, .ref g_voteValue, .ref g_voteNumber, .ref g_allValue, .ref g_allNumber, .int 0, .ref g_nodeL, .ref g_nodeR, .int 0, .ref g_part, .int 0, .ref g_wasMany, .ref g_wasLoss, .ref g_wasValue, .ref g_wasNumber, .ref g_path, .int 0, .ref g_heavyValue, .ref g_heavyTimes, .int 0, .ref g_fewest, .ref g_which, .ref g_met, .int 0]))] s.heap.size = A at hD ⊢
  have hA : ∀ q : Nat, s.heap.size ≤ q → A q := fun q h => by rw [← hAe]; exact Or.inr h
  have hS : va_S A s.heap s.heap [] := va_S.rf
  have hP : va_P (dC, dI) vwCl [(h0, .inr (5, [.ref g_row, .int 0, .int 2, .int 0, .ref g_many, .ref g_loss, .ref g_less, .ref g_voteValue, .ref g_voteNumber, .ref g_allValue, .ref g_allNumber, .int 0, .ref g_nodeL, .ref g_nodeR, .int 0, .ref g_part, .int 0, .ref g_wasMany, .ref g_wasLoss, .ref g_wasValue, .ref g_wasNumber, .ref g_path, .int 0, .ref g_heavyValue, .ref g_heavyTimes, .int 0, .ref g_fewest, .ref g_which, .ref g_met, .int 0]))] s.heap := hP
  have hl := lv_entry ([.ref h0, .int p0, .int p1]) (n := 4) (Nat.le_of_ble_eq_true rfl)
  rw [lg_entry_eq]
  generalize (lg_sl ([.ref h0, .int p0, .int p1]) ++ List.replicate (4 - (lg_sl ([.ref h0, .int p0, .int p1])).length) Slot.unset).toArray = ls at hl ⊢
  have hl : lv_has ls 4 [(0, .ref h0), (1, .int p0), (2, .int p1)] := hl
  have hf_77 := hts (.fieldLink RX5 77 "MajorityIndexModel" "thrown" "I") (by decide +kernel)
  have hi_5 : ∀ w ∈ u_ws RX5 TX5 30, w ∈ wsX5_cancelled := by decide +kernel
  refine lv_aload_n hx hb dX5_cancelled_0 rfl (lv_at hl 0 rfl) ?_
  refine lv_iconst (v := 0) hx hb dX5_cancelled_1 (by decide) ?_
  refine va_put (D := (dC, dI)) (ci := 5) (v := .int 0) (ty := .int) (C := RX5) (T := TX5) (N := 30) hx hb hts hi_5 tyX5 tyX5_ok nmX5 hown hK hP hD hS 0 rfl rfl 3 (by decide) hf_77 (fun _ h9 => h9) rfl (by decide +kernel) rfl rfl (Nat.le_of_ble_eq_true rfl) dX5_cancelled_2 (fun H locs hP hD hS => ?_)
  have hP : va_P (dC, dI) vwCl [(h0, .inr (5, [.ref g_row, .int 0, .int 2, .int 0, .ref g_many, .ref g_loss, .ref g_less, .ref g_voteValue, .ref g_voteNumber, .ref g_allValue, .ref g_allNumber, .int 0, .ref g_nodeL, .ref g_nodeR, .int 0, .ref g_part, .int 0, .ref g_wasMany, .ref g_wasLoss, .ref g_wasValue, .ref g_wasNumber, .ref g_path, .int 0, .ref g_heavyValue, .ref g_heavyTimes, .int 0, .ref g_fewest, .ref g_which, .ref g_met, .int 0]))] H := hP
  have hD : va_D A [(h0, .inr (5, [.ref g_row, .int 0, .int 2, .int 0, .ref g_many, .ref g_loss, .ref g_less, .ref g_voteValue, .ref g_voteNumber, .ref g_allValue, .ref g_allNumber, .int 0, .ref g_nodeL, .ref g_nodeR, .int 0, .ref g_part, .int 0, .ref g_wasMany, .ref g_wasLoss, .ref g_wasValue, .ref g_wasNumber, .ref g_path, .int 0, .ref g_heavyValue, .ref g_heavyTimes, .int 0, .ref g_fewest, .ref g_which, .ref g_met, .int 0]))] := hD
  refine lv_aload_n hx hb dX5_cancelled_5 rfl (lv_at hl 0 rfl) ?_
  refine lv_iload_n hx hb dX5_cancelled_6 rfl (lv_at hl 1 rfl) ?_
  refine lv_iload_n hx hb dX5_cancelled_7 rfl (lv_at hl 2 rfl) ?_
  have hPc := hP.sub (ws' := [(h0, .inr (5, [.ref g_row, .int 0, .int 2, .int 0, .ref g_many, .ref g_loss, .ref g_less, .ref g_voteValue, .ref g_voteNumber, .ref g_allValue, .ref g_allNumber, .int 0, .ref g_nodeL, .ref g_nodeR, .int 0, .ref g_part, .int 0, .ref g_wasMany, .ref g_wasLoss, .ref g_wasValue, .ref g_wasNumber, .ref g_path, .int 0, .ref g_heavyValue, .ref g_heavyTimes, .int 0, .ref g_fewest, .ref g_which, .ref g_met, .int 0]))]) [0] rfl
  have hKc := hK.sub (tys' := []) [] rfl
  refine vp_callSi (W.runV (As := [.int p0, .int p1]) (rest := []) ⟨hx, hb, hml, hown, hts⟩ (c_X5_asked l dC dI h0 g_row g_many g_loss g_less g_voteValue g_voteNumber g_allValue g_allNumber g_nodeL g_nodeR g_part g_wasMany g_wasLoss g_wasValue g_wasNumber g_path g_heavyValue g_heavyTimes g_fewest g_which g_met 0 p0 p1) (cwV 2 hts gX5_cancelled_X5_asked rfl rfl rfl (by decide +kernel) ⟨Nat.le_of_ble_eq_true rfl, Nat.le_of_ble_eq_true rfl⟩) ⟨fun a U g mk q => by obtain ⟨q0, qP, qK⟩ := q; exact ⟨q0, qP, va_K.moved (u := U) (U := U.calling g mk a) (Vm.Alike.refl U.vm) qK⟩, va_recv hKc hPc (ci := 5) (q0 := 0) rfl rfl, fun U hU hW => ⟨rfl, by rw [hU]; exact hPc, va_K.moved hW.alike hKc⟩⟩ rfl rfl hl.1 rfl (lv_room (Nat.le_of_ble_eq_true rfl)) dX5_cancelled_8 ⟨Nat.le_of_ble_eq_true rfl, Nat.le_of_ble_eq_true rfl⟩) (fun r_1 w_1 => ?_)
  subst w_1
  refine lv_istore_n (lv' := [(3, .int (-1)), (0, .ref h0), (1, .int p0), (2, .int p1)]) hx hb dX5_cancelled_11 rfl hl (by decide) rfl (fun ls hl => ?_)
  refine lv_iload_n hx hb dX5_cancelled_12 rfl (lv_at hl 0 rfl) ?_
  refine lv_if_ge (tgt := 20) hx hb dX5_cancelled_13 (by decide) (fun c_2 => ?_) (fun c_2 => ?_)
  · exact absurd c_2 (by decide)
  · refine lv_iload_n hx hb dX5_cancelled_16 rfl (lv_at hl 0 rfl) ?_
    refine lv_goto (tgt := 26) hx hb dX5_cancelled_17 (by decide) ?_
    have hP9 := hP.sub (ws' := []) [] rfl
    have hD9 := hD.sub (ws' := []) [] (by decide) rfl
    have hK9 := hK.sub (tys' := []) [] rfl
    exact W.iret (v := (-1)) hx hb hr (fun t ht hW => ⟨⟨(-1), (), rfl, rfl, by rw [ht]; exact hP9, va_K.moved hW.alike hK9, hD9⟩, hS.F ht⟩) hS.2.2 dX5_cancelled_26

set_option maxHeartbeats 4000000 in
set_option maxRecDepth 100000 in
/-- above of the reference, fresh -/
theorem c_X5_above (l : Launch) (dC : Nat → ClassId) (dI : Nat → Nat → Nat) (h0 : Nat) (g_row : Nat) (g_many : Nat) (g_loss : Nat) (g_less : Nat) (g_voteValue : Nat) (g_voteNumber : Nat) (g_allValue : Nat) (g_allNumber : Nat) (g_nodeL : Nat) (g_nodeR : Nat) (g_part : Nat) (g_wasMany : Nat) (g_wasLoss : Nat) (g_wasValue : Nat) (g_wasNumber : Nat) (g_path : Nat) (g_heavyValue : Nat) (g_heavyTimes : Nat) (g_fewest : Nat) (g_which : Nat) (g_met : Nat) (p0 : Int32) (p1 : Int32) (p2 : Int32) (sz : Nat) : Met l yX5_above wsX5_above ({ frames := 2, cells := 0, slots := 0, locals := 90 }) (va_Pc [.ref h0, .int p0, .int p1, .int p2] (fun U => U.heap.size = sz ∧ va_P (dC, dI) vwCl [(h0, .inr (5, [.ref g_row, .int 0, .int 2, .int 0, .ref g_many, .ref g_loss, .ref g_less, .ref g_voteValue, .ref g_voteNumber, .ref g_allValue, .ref g_allNumber, .int 0, .ref g_nodeL, .ref g_nodeR, .int 0, .ref g_part, .int 0, .ref g_wasMany, .ref g_wasLoss, .ref g_wasValue, .ref g_wasNumber, .ref g_path, .int 0, .ref g_heavyValue, .ref g_heavyTimes, .int 0, .ref g_fewest, .ref g_which, .ref g_met, .int 0]))] U.heap ∧ va_K (dC, dI) vwCl [] U ∧ va_D (fun _ => True) [(h0, .inr (5, [.ref g_row, .int 0, .int 2, .int 0, .ref g_many, .ref g_loss, .ref g_less, .ref g_voteValue, .ref g_voteNumber, .ref g_allValue, .ref g_allNumber, .int 0, .ref g_nodeL, .ref g_nodeR, .int 0, .ref g_part, .int 0, .ref g_wasMany, .ref g_wasLoss, .ref g_wasValue, .ref g_wasNumber, .ref g_path, .int 0, .ref g_heavyValue, .ref g_heavyTimes, .int 0, .ref g_fewest, .ref g_which, .ref g_met, .int 0]))])) (va_Qi (fun (r : Int32) (_ : Unit) => r = (-1)) (fun (_ : Unit) (t : State) => va_P (dC, dI) vwCl [] t.heap ∧ va_K (dC, dI) vwCl [] t ∧ va_D (va_A [(h0, .inr (5, [.ref g_row, .int 0, .int 2, .int 0, .ref g_many, .ref g_loss, .ref g_less, .ref g_voteValue, .ref g_voteNumber, .ref g_allValue, .ref g_allNumber, .int 0, .ref g_nodeL, .ref g_nodeR, .int 0, .ref g_part, .int 0, .ref g_wasMany, .ref g_wasLoss, .ref g_wasValue, .ref g_wasNumber, .ref g_path, .int 0, .ref g_heavyValue, .ref g_heavyTimes, .int 0, .ref g_fewest, .ref g_which, .ref g_met, .int 0]))] sz) []) (va_A [(h0, .inr (5, [.ref g_row, .int 0, .int 2, .int 0, .ref g_many, .ref g_loss, .ref g_less, .ref g_voteValue, .ref g_voteNumber, .ref g_allValue, .ref g_allNumber, .int 0, .ref g_nodeL, .ref g_nodeR, .int 0, .ref g_part, .int 0, .ref g_wasMany, .ref g_wasLoss, .ref g_wasValue, .ref g_wasNumber, .ref g_path, .int 0, .ref g_heavyValue, .ref g_heavyTimes, .int 0, .ref g_fewest, .ref g_which, .ref g_met, .int 0]))] sz)) 0 0 (va_A [(h0, .inr (5, [.ref g_row, .int 0, .int 2, .int 0, .ref g_many, .ref g_loss, .ref g_less, .ref g_voteValue, .ref g_voteNumber, .ref g_allValue, .ref g_allNumber, .int 0, .ref g_nodeL, .ref g_nodeR, .int 0, .ref g_part, .int 0, .ref g_wasMany, .ref g_wasLoss, .ref g_wasValue, .ref g_wasNumber, .ref g_path, .int 0, .ref g_heavyValue, .ref g_heavyTimes, .int 0, .ref g_fewest, .ref g_which, .ref g_met, .int 0]))] sz) := by
  refine Met.ofW (cc := cX5_above) (maxL := 4) (ret := (some .int)) (by decide) rfl ?_
  intro p e s m args below meth c s₁ B hml hv
  obtain ⟨rfl, hsz, hP, hK, hD0⟩ := hv
  have hx := B.exec
  have hb := B.bytes
  have hr := B.returns
  have hts := atoms_spec (ws := wsX5_above) B.pre
  have hown : s.vm.findClass RX5 = some m.cls := findClass_of_methodNamed B.named
  have hlocks := B.notSynchronized
  subst hsz
  have hD := hD0.self (sz := s.heap.size)
  generalize hAe : va_A [(h0, .inr (5, [.ref g_row, .int 0, .int 2, .int 0, .ref g_many, .ref g_loss, .ref g_less, .ref g_voteValue, .ref g_voteNumber, .ref g_allValue, .ref g_allNumber, .int 0, .ref g_nodeL, .ref g_nodeR, .int 0, .ref g_part, .int 0, .ref g_wasMany, .ref g_wasLoss, .ref g_wasValue, .ref g_wasNumber, .ref g_path, .int 0, .ref g_heavyValue, .ref g_heavyTimes, .int 0, .ref g_fewest, .ref g_which, .ref g_met, .int 0]))] s.heap.size = A at hD ⊢
  have hA : ∀ q : Nat, s.heap.size ≤ q → A q := fun q h => by rw [← hAe]; exact Or.inr h
  have hS : va_S A s.heap s.heap [] := va_S.rf
  have hP : va_P (dC, dI) vwCl [(h0, .inr (5, [.ref g_row, .int 0, .int 2, .int 0, .ref g_many, .ref g_loss, .ref g_less, .ref g_voteValue, .ref g_voteNumber, .ref g_allValue, .ref g_allNumber, .int 0, .ref g_nodeL, .ref g_nodeR, .int 0, .ref g_part, .int 0, .ref g_wasMany, .ref g_wasLoss, .ref g_wasValue, .ref g_wasNumber, .ref g_path, .int 0, .ref g_heavyValue, .ref g_heavyTimes, .int 0, .ref g_fewest, .ref g_which, .ref g_met, .int 0]))] s.heap := hP
  have hl := lv_entry ([.ref h0, .int p0, .int p1, .int p2]) (n := 4) (Nat.le_of_ble_eq_true rfl)
  rw [lg_entry_eq]
  generalize (lg_sl ([.ref h0, .int p0, .int p1, .int p2]) ++ List.replicate (4 - (lg_sl ([.ref h0, .int p0, .int p1, .int p2])).length) Slot.unset).toArray = ls at hl ⊢
  have hl : lv_has ls 4 [(0, .ref h0), (1, .int p0), (2, .int p1), (3, .int p2)] := hl
  have hf_77 := hts (.fieldLink RX5 77 "MajorityIndexModel" "thrown" "I") (by decide +kernel)
  have hi_5 : ∀ w ∈ u_ws RX5 TX5 30, w ∈ wsX5_above := by decide +kernel
  refine lv_aload_n hx hb dX5_above_0 rfl (lv_at hl 0 rfl) ?_
  refine lv_iconst (v := 0) hx hb dX5_above_1 (by decide) ?_
  refine va_put (D := (dC, dI)) (ci := 5) (v := .int 0) (ty := .int) (C := RX5) (T := TX5) (N := 30) hx hb hts hi_5 tyX5 tyX5_ok nmX5 hown hK hP hD hS 0 rfl rfl 3 (by decide) hf_77 (fun _ h9 => h9) rfl (by decide +kernel) rfl rfl (Nat.le_of_ble_eq_true rfl) dX5_above_2 (fun H locs hP hD hS => ?_)
  have hP : va_P (dC, dI) vwCl [(h0, .inr (5, [.ref g_row, .int 0, .int 2, .int 0, .ref g_many, .ref g_loss, .ref g_less, .ref g_voteValue, .ref g_voteNumber, .ref g_allValue, .ref g_allNumber, .int 0, .ref g_nodeL, .ref g_nodeR, .int 0, .ref g_part, .int 0, .ref g_wasMany, .ref g_wasLoss, .ref g_wasValue, .ref g_wasNumber, .ref g_path, .int 0, .ref g_heavyValue, .ref g_heavyTimes, .int 0, .ref g_fewest, .ref g_which, .ref g_met, .int 0]))] H := hP
  have hD : va_D A [(h0, .inr (5, [.ref g_row, .int 0, .int 2, .int 0, .ref g_many, .ref g_loss, .ref g_less, .ref g_voteValue, .ref g_voteNumber, .ref g_allValue, .ref g_allNumber, .int 0, .ref g_nodeL, .ref g_nodeR, .int 0, .ref g_part, .int 0, .ref g_wasMany, .ref g_wasLoss, .ref g_wasValue, .ref g_wasNumber, .ref g_path, .int 0, .ref g_heavyValue, .ref g_heavyTimes, .int 0, .ref g_fewest, .ref g_which, .ref g_met, .int 0]))] := hD
  refine lv_aload_n hx hb dX5_above_5 rfl (lv_at hl 0 rfl) ?_
  refine lv_iload_n hx hb dX5_above_6 rfl (lv_at hl 1 rfl) ?_
  have hPc := hP.sub (ws' := [(h0, .inr (5, [.ref g_row, .int 0, .int 2, .int 0, .ref g_many, .ref g_loss, .ref g_less, .ref g_voteValue, .ref g_voteNumber, .ref g_allValue, .ref g_allNumber, .int 0, .ref g_nodeL, .ref g_nodeR, .int 0, .ref g_part, .int 0, .ref g_wasMany, .ref g_wasLoss, .ref g_wasValue, .ref g_wasNumber, .ref g_path, .int 0, .ref g_heavyValue, .ref g_heavyTimes, .int 0, .ref g_fewest, .ref g_which, .ref g_met, .int 0]))]) [0] rfl
  have hKc := hK.sub (tys' := []) [] rfl
  refine vp_callSi (W.runV (As := [.int p0]) (rest := []) ⟨hx, hb, hml, hown, hts⟩ (c_X5_isPlace l dC dI h0 g_row g_many g_loss g_less g_voteValue g_voteNumber g_allValue g_allNumber g_nodeL g_nodeR g_part g_wasMany g_wasLoss g_wasValue g_wasNumber g_path g_heavyValue g_heavyTimes g_fewest g_which g_met 0 p0) (cwV 1 hts gX5_above_X5_isPlace rfl rfl rfl (by decide +kernel) ⟨Nat.le_of_ble_eq_true rfl, Nat.le_of_ble_eq_true rfl⟩) ⟨fun a U g mk q => by obtain ⟨q0, qP, qK⟩ := q; exact ⟨q0, qP, va_K.moved (u := U) (U := U.calling g mk a) (Vm.Alike.refl U.vm) qK⟩, va_recv hKc hPc (ci := 5) (q0 := 0) rfl rfl, fun U hU hW => ⟨rfl, by rw [hU]; exact hPc, va_K.moved hW.alike hKc⟩⟩ rfl rfl hl.1 rfl (lv_room (Nat.le_of_ble_eq_true rfl)) dX5_above_7 ⟨Nat.le_of_ble_eq_true rfl, Nat.le_of_ble_eq_true rfl⟩) (fun r_1 w_1 => ?_)
  rcases w_1 with ⟨rfl, w_1⟩
  · have w_1 : True := w_1
    refine lv_if_eq (tgt := 22) hx hb dX5_above_10 (by decide) (fun c_2 => ?_) (fun c_2 => ?_)
    · refine lv_iconst (v := (-1)) hx hb dX5_above_22 (by decide) ?_
      have hP9 := hP.sub (ws' := []) [] rfl
      have hD9 := hD.sub (ws' := []) [] (by decide) rfl
      have hK9 := hK.sub (tys' := []) [] rfl
      exact W.iret (v := (-1)) hx hb hr (fun t ht hW => ⟨⟨(-1), (), rfl, rfl, by rw [ht]; exact hP9, va_K.moved hW.alike hK9, hD9⟩, hS.F ht⟩) hS.2.2 dX5_above_23
    · exact absurd c_2 (by decide)

set_option maxHeartbeats 4000000 in
set_option maxRecDepth 100000 in
/-- holds of the reference, fresh -/
theorem c_X5_holds (l : Launch) (dC : Nat → ClassId) (dI : Nat → Nat → Nat) (h0 : Nat) (g_row : Nat) (g_many : Nat) (g_loss : Nat) (g_less : Nat) (g_voteValue : Nat) (g_voteNumber : Nat) (g_allValue : Nat) (g_allNumber : Nat) (g_nodeL : Nat) (g_nodeR : Nat) (g_part : Nat) (g_wasMany : Nat) (g_wasLoss : Nat) (g_wasValue : Nat) (g_wasNumber : Nat) (g_path : Nat) (g_heavyValue : Nat) (g_heavyTimes : Nat) (g_fewest : Nat) (g_which : Nat) (g_met : Nat) (p0 : Int32) (sz : Nat) : Met l yX5_holds wsX5_holds ({ frames := 2, cells := 0, slots := 0, locals := 90 }) (va_Pc [.ref h0, .int p0] (fun U => U.heap.size = sz ∧ va_P (dC, dI) vwCl [(h0, .inr (5, [.ref g_row, .int 0, .int 2, .int 0, .ref g_many, .ref g_loss, .ref g_less, .ref g_voteValue, .ref g_voteNumber, .ref g_allValue, .ref g_allNumber, .int 0, .ref g_nodeL, .ref g_nodeR, .int 0, .ref g_part, .int 0, .ref g_wasMany, .ref g_wasLoss, .ref g_wasValue, .ref g_wasNumber, .ref g_path, .int 0, .ref g_heavyValue, .ref g_heavyTimes, .int 0, .ref g_fewest, .ref g_which, .ref g_met, .int 0]))] U.heap ∧ va_K (dC, dI) vwCl [] U ∧ va_D (fun _ => True) [(h0, .inr (5, [.ref g_row, .int 0, .int 2, .int 0, .ref g_many, .ref g_loss, .ref g_less, .ref g_voteValue, .ref g_voteNumber, .ref g_allValue, .ref g_allNumber, .int 0, .ref g_nodeL, .ref g_nodeR, .int 0, .ref g_part, .int 0, .ref g_wasMany, .ref g_wasLoss, .ref g_wasValue, .ref g_wasNumber, .ref g_path, .int 0, .ref g_heavyValue, .ref g_heavyTimes, .int 0, .ref g_fewest, .ref g_which, .ref g_met, .int 0]))])) (va_Qi (fun (r : Int32) (_ : Unit) => r = (-1)) (fun (_ : Unit) (t : State) => va_P (dC, dI) vwCl [] t.heap ∧ va_K (dC, dI) vwCl [] t ∧ va_D (va_A [(h0, .inr (5, [.ref g_row, .int 0, .int 2, .int 0, .ref g_many, .ref g_loss, .ref g_less, .ref g_voteValue, .ref g_voteNumber, .ref g_allValue, .ref g_allNumber, .int 0, .ref g_nodeL, .ref g_nodeR, .int 0, .ref g_part, .int 0, .ref g_wasMany, .ref g_wasLoss, .ref g_wasValue, .ref g_wasNumber, .ref g_path, .int 0, .ref g_heavyValue, .ref g_heavyTimes, .int 0, .ref g_fewest, .ref g_which, .ref g_met, .int 0]))] sz) []) (va_A [(h0, .inr (5, [.ref g_row, .int 0, .int 2, .int 0, .ref g_many, .ref g_loss, .ref g_less, .ref g_voteValue, .ref g_voteNumber, .ref g_allValue, .ref g_allNumber, .int 0, .ref g_nodeL, .ref g_nodeR, .int 0, .ref g_part, .int 0, .ref g_wasMany, .ref g_wasLoss, .ref g_wasValue, .ref g_wasNumber, .ref g_path, .int 0, .ref g_heavyValue, .ref g_heavyTimes, .int 0, .ref g_fewest, .ref g_which, .ref g_met, .int 0]))] sz)) 0 0 (va_A [(h0, .inr (5, [.ref g_row, .int 0, .int 2, .int 0, .ref g_many, .ref g_loss, .ref g_less, .ref g_voteValue, .ref g_voteNumber, .ref g_allValue, .ref g_allNumber, .int 0, .ref g_nodeL, .ref g_nodeR, .int 0, .ref g_part, .int 0, .ref g_wasMany, .ref g_wasLoss, .ref g_wasValue, .ref g_wasNumber, .ref g_path, .int 0, .ref g_heavyValue, .ref g_heavyTimes, .int 0, .ref g_fewest, .ref g_which, .ref g_met, .int 0]))] sz) := by
  refine Met.ofW (cc := cX5_holds) (maxL := 3) (ret := (some .int)) (by decide) rfl ?_
  intro p e s m args below meth c s₁ B hml hv
  obtain ⟨rfl, hsz, hP, hK, hD0⟩ := hv
  have hx := B.exec
  have hb := B.bytes
  have hr := B.returns
  have hts := atoms_spec (ws := wsX5_holds) B.pre
  have hown : s.vm.findClass RX5 = some m.cls := findClass_of_methodNamed B.named
  have hlocks := B.notSynchronized
  subst hsz
  have hD := hD0.self (sz := s.heap.size)
  generalize hAe : va_A [(h0, .inr (5, [.ref g_row, .int 0, .int 2, .int 0, .ref g_many, .ref g_loss, .ref g_less, .ref g_voteValue, .ref g_voteNumber, .ref g_allValue, .ref g_allNumber, .int 0, .ref g_nodeL, .ref g_nodeR, .int 0, .ref g_part, .int 0, .ref g_wasMany, .ref g_wasLoss, .ref g_wasValue, .ref g_wasNumber, .ref g_path, .int 0, .ref g_heavyValue, .ref g_heavyTimes, .int 0, .ref g_fewest, .ref g_which, .ref g_met, .int 0]))] s.heap.size = A at hD ⊢
  have hA : ∀ q : Nat, s.heap.size ≤ q → A q := fun q h => by rw [← hAe]; exact Or.inr h
  have hS : va_S A s.heap s.heap [] := va_S.rf
  have hP : va_P (dC, dI) vwCl [(h0, .inr (5, [.ref g_row, .int 0, .int 2, .int 0, .ref g_many, .ref g_loss, .ref g_less, .ref g_voteValue, .ref g_voteNumber, .ref g_allValue, .ref g_allNumber, .int 0, .ref g_nodeL, .ref g_nodeR, .int 0, .ref g_part, .int 0, .ref g_wasMany, .ref g_wasLoss, .ref g_wasValue, .ref g_wasNumber, .ref g_path, .int 0, .ref g_heavyValue, .ref g_heavyTimes, .int 0, .ref g_fewest, .ref g_which, .ref g_met, .int 0]))] s.heap := hP
  have hl := lv_entry ([.ref h0, .int p0]) (n := 3) (Nat.le_of_ble_eq_true rfl)
  rw [lg_entry_eq]
  generalize (lg_sl ([.ref h0, .int p0]) ++ List.replicate (3 - (lg_sl ([.ref h0, .int p0])).length) Slot.unset).toArray = ls at hl ⊢
  have hl : lv_has ls 3 [(0, .ref h0), (1, .int p0)] := hl
  have hf_77 := hts (.fieldLink RX5 77 "MajorityIndexModel" "thrown" "I") (by decide +kernel)
  have hi_5 : ∀ w ∈ u_ws RX5 TX5 30, w ∈ wsX5_holds := by decide +kernel
  refine lv_aload_n hx hb dX5_holds_0 rfl (lv_at hl 0 rfl) ?_
  refine lv_iconst (v := 0) hx hb dX5_holds_1 (by decide) ?_
  refine va_put (D := (dC, dI)) (ci := 5) (v := .int 0) (ty := .int) (C := RX5) (T := TX5) (N := 30) hx hb hts hi_5 tyX5 tyX5_ok nmX5 hown hK hP hD hS 0 rfl rfl 3 (by decide) hf_77 (fun _ h9 => h9) rfl (by decide +kernel) rfl rfl (Nat.le_of_ble_eq_true rfl) dX5_holds_2 (fun H locs hP hD hS => ?_)
  have hP : va_P (dC, dI) vwCl [(h0, .inr (5, [.ref g_row, .int 0, .int 2, .int 0, .ref g_many, .ref g_loss, .ref g_less, .ref g_voteValue, .ref g_voteNumber, .ref g_allValue, .ref g_allNumber, .int 0, .ref g_nodeL, .ref g_nodeR, .int 0, .ref g_part, .int 0, .ref g_wasMany, .ref g_wasLoss, .ref g_wasValue, .ref g_wasNumber, .ref g_path, .int 0, .ref g_heavyValue, .ref g_heavyTimes, .int 0, .ref g_fewest, .ref g_which, .ref g_met, .int 0]))] H := hP
  have hD : va_D A [(h0, .inr (5, [.ref g_row, .int 0, .int 2, .int 0, .ref g_many, .ref g_loss, .ref g_less, .ref g_voteValue, .ref g_voteNumber, .ref g_allValue, .ref g_allNumber, .int 0, .ref g_nodeL, .ref g_nodeR, .int 0, .ref g_part, .int 0, .ref g_wasMany, .ref g_wasLoss, .ref g_wasValue, .ref g_wasNumber, .ref g_path, .int 0, .ref g_heavyValue, .ref g_heavyTimes, .int 0, .ref g_fewest, .ref g_which, .ref g_met, .int 0]))] := hD
  refine lv_aload_n hx hb dX5_holds_5 rfl (lv_at hl 0 rfl) ?_
  refine lv_iload_n hx hb dX5_holds_6 rfl (lv_at hl 1 rfl) ?_
  have hPc := hP.sub (ws' := [(h0, .inr (5, [.ref g_row, .int 0, .int 2, .int 0, .ref g_many, .ref g_loss, .ref g_less, .ref g_voteValue, .ref g_voteNumber, .ref g_allValue, .ref g_allNumber, .int 0, .ref g_nodeL, .ref g_nodeR, .int 0, .ref g_part, .int 0, .ref g_wasMany, .ref g_wasLoss, .ref g_wasValue, .ref g_wasNumber, .ref g_path, .int 0, .ref g_heavyValue, .ref g_heavyTimes, .int 0, .ref g_fewest, .ref g_which, .ref g_met, .int 0]))]) [0] rfl
  have hKc := hK.sub (tys' := []) [] rfl
  refine vp_callSi (W.runV (As := [.int p0]) (rest := []) ⟨hx, hb, hml, hown, hts⟩ (c_X5_isPlace l dC dI h0 g_row g_many g_loss g_less g_voteValue g_voteNumber g_allValue g_allNumber g_nodeL g_nodeR g_part g_wasMany g_wasLoss g_wasValue g_wasNumber g_path g_heavyValue g_heavyTimes g_fewest g_which g_met 0 p0) (cwV 1 hts gX5_holds_X5_isPlace rfl rfl rfl (by decide +kernel) ⟨Nat.le_of_ble_eq_true rfl, Nat.le_of_ble_eq_true rfl⟩) ⟨fun a U g mk q => by obtain ⟨q0, qP, qK⟩ := q; exact ⟨q0, qP, va_K.moved (u := U) (U := U.calling g mk a) (Vm.Alike.refl U.vm) qK⟩, va_recv hKc hPc (ci := 5) (q0 := 0) rfl rfl, fun U hU hW => ⟨rfl, by rw [hU]; exact hPc, va_K.moved hW.alike hKc⟩⟩ rfl rfl hl.1 rfl (lv_room (Nat.le_of_ble_eq_true rfl)) dX5_holds_7 ⟨Nat.le_of_ble_eq_true rfl, Nat.le_of_ble_eq_true rfl⟩) (fun r_1 w_1 => ?_)
  rcases w_1 with ⟨rfl, w_1⟩
  · have w_1 : True := w_1
    refine lv_if_ne (tgt := 15) hx hb dX5_holds_10 (by decide) (fun c_2 => ?_) (fun c_2 => ?_)
    · exact absurd c_2 (by decide)
    · refine lv_iconst (v := (-1)) hx hb dX5_holds_13 (by decide) ?_
      have hP9 := hP.sub (ws' := []) [] rfl
      have hD9 := hD.sub (ws' := []) [] (by decide) rfl
      have hK9 := hK.sub (tys' := []) [] rfl
      exact W.iret (v := (-1)) hx hb hr (fun t ht hW => ⟨⟨(-1), (), rfl, rfl, by rw [ht]; exact hP9, va_K.moved hW.alike hK9, hD9⟩, hS.F ht⟩) hS.2.2 dX5_holds_14

set_option maxHeartbeats 4000000 in
set_option maxRecDepth 100000 in
/-- parts of the reference, fresh -/
theorem c_X5_parts (l : Launch) (dC : Nat → ClassId) (dI : Nat → Nat → Nat) (h0 : Nat) (g_row : Nat) (g_many : Nat) (g_loss : Nat) (g_less : Nat) (g_voteValue : Nat) (g_voteNumber : Nat) (g_allValue : Nat) (g_allNumber : Nat) (g_nodeL : Nat) (g_nodeR : Nat) (g_part : Nat) (g_wasMany : Nat) (g_wasLoss : Nat) (g_wasValue : Nat) (g_wasNumber : Nat) (g_path : Nat) (g_heavyValue : Nat) (g_heavyTimes : Nat) (g_fewest : Nat) (g_which : Nat) (g_met : Nat) (p0 : Int32) (p1 : Int32) (sz : Nat) : Met l yX5_parts wsX5_parts ({ frames := 1, cells := 0, slots := 0, locals := 45 }) (va_Pc [.ref h0, .int p0, .int p1] (fun U => U.heap.size = sz ∧ va_P (dC, dI) vwCl [(h0, .inr (5, [.ref g_row, .int 0, .int 2, .int 0, .ref g_many, .ref g_loss, .ref g_less, .ref g_voteValue, .ref g_voteNumber, .ref g_allValue, .ref g_allNumber, .int 0, .ref g_nodeL, .ref g_nodeR, .int 0, .ref g_part, .int 0, .ref g_wasMany, .ref g_wasLoss, .ref g_wasValue, .ref g_wasNumber, .ref g_path, .int 0, .ref g_heavyValue, .ref g_heavyTimes, .int 0, .ref g_fewest, .ref g_which, .ref g_met, .int 0]))] U.heap ∧ va_K (dC, dI) vwCl [] U ∧ va_D (fun _ => True) [(h0, .inr (5, [.ref g_row, .int 0, .int 2, .int 0, .ref g_many, .ref g_loss, .ref g_less, .ref g_voteValue, .ref g_voteNumber, .ref g_allValue, .ref g_allNumber, .int 0, .ref g_nodeL, .ref g_nodeR, .int 0, .ref g_part, .int 0, .ref g_wasMany, .ref g_wasLoss, .ref g_wasValue, .ref g_wasNumber, .ref g_path, .int 0, .ref g_heavyValue, .ref g_heavyTimes, .int 0, .ref g_fewest, .ref g_which, .ref g_met, .int 0]))])) (va_Qi (fun (r : Int32) (_ : Unit) => r = (-1)) (fun (_ : Unit) (t : State) => va_P (dC, dI) vwCl [] t.heap ∧ va_K (dC, dI) vwCl [] t ∧ va_D (va_A [(h0, .inr (5, [.ref g_row, .int 0, .int 2, .int 0, .ref g_many, .ref g_loss, .ref g_less, .ref g_voteValue, .ref g_voteNumber, .ref g_allValue, .ref g_allNumber, .int 0, .ref g_nodeL, .ref g_nodeR, .int 0, .ref g_part, .int 0, .ref g_wasMany, .ref g_wasLoss, .ref g_wasValue, .ref g_wasNumber, .ref g_path, .int 0, .ref g_heavyValue, .ref g_heavyTimes, .int 0, .ref g_fewest, .ref g_which, .ref g_met, .int 0]))] sz) []) (va_A [(h0, .inr (5, [.ref g_row, .int 0, .int 2, .int 0, .ref g_many, .ref g_loss, .ref g_less, .ref g_voteValue, .ref g_voteNumber, .ref g_allValue, .ref g_allNumber, .int 0, .ref g_nodeL, .ref g_nodeR, .int 0, .ref g_part, .int 0, .ref g_wasMany, .ref g_wasLoss, .ref g_wasValue, .ref g_wasNumber, .ref g_path, .int 0, .ref g_heavyValue, .ref g_heavyTimes, .int 0, .ref g_fewest, .ref g_which, .ref g_met, .int 0]))] sz)) 0 0 (va_A [(h0, .inr (5, [.ref g_row, .int 0, .int 2, .int 0, .ref g_many, .ref g_loss, .ref g_less, .ref g_voteValue, .ref g_voteNumber, .ref g_allValue, .ref g_allNumber, .int 0, .ref g_nodeL, .ref g_nodeR, .int 0, .ref g_part, .int 0, .ref g_wasMany, .ref g_wasLoss, .ref g_wasValue, .ref g_wasNumber, .ref g_path, .int 0, .ref g_heavyValue, .ref g_heavyTimes, .int 0, .ref g_fewest, .ref g_which, .ref g_met, .int 0]))] sz) := by
  refine Met.ofW (cc := cX5_parts) (maxL := 3) (ret := (some .int)) (by decide) rfl ?_
  intro p e s m args below meth c s₁ B hml hv
  obtain ⟨rfl, hsz, hP, hK, hD0⟩ := hv
  have hx := B.exec
  have hb := B.bytes
  have hr := B.returns
  have hts := atoms_spec (ws := wsX5_parts) B.pre
  have hown : s.vm.findClass RX5 = some m.cls := findClass_of_methodNamed B.named
  have hlocks := B.notSynchronized
  subst hsz
  have hD := hD0.self (sz := s.heap.size)
  generalize hAe : va_A [(h0, .inr (5, [.ref g_row, .int 0, .int 2, .int 0, .ref g_many, .ref g_loss, .ref g_less, .ref g_voteValue, .ref g_voteNumber, .ref g_allValue, .ref g_allNumber, .int 0, .ref g_nodeL, .ref g_nodeR, .int 0, .ref g_part, .int 0, .ref g_wasMany, .ref g_wasLoss, .ref g_wasValue, .ref g_wasNumber, .ref g_path, .int 0, .ref g_heavyValue, .ref g_heavyTimes, .int 0, .ref g_fewest, .ref g_which, .ref g_met, .int 0]))] s.heap.size = A at hD ⊢
  have hA : ∀ q : Nat, s.heap.size ≤ q → A q := fun q h => by rw [← hAe]; exact Or.inr h
  have hS : va_S A s.heap s.heap [] := va_S.rf
  have hP : va_P (dC, dI) vwCl [(h0, .inr (5, [.ref g_row, .int 0, .int 2, .int 0, .ref g_many, .ref g_loss, .ref g_less, .ref g_voteValue, .ref g_voteNumber, .ref g_allValue, .ref g_allNumber, .int 0, .ref g_nodeL, .ref g_nodeR, .int 0, .ref g_part, .int 0, .ref g_wasMany, .ref g_wasLoss, .ref g_wasValue, .ref g_wasNumber, .ref g_path, .int 0, .ref g_heavyValue, .ref g_heavyTimes, .int 0, .ref g_fewest, .ref g_which, .ref g_met, .int 0]))] s.heap := hP
  have hl := lv_entry ([.ref h0, .int p0, .int p1]) (n := 3) (Nat.le_of_ble_eq_true rfl)
  rw [lg_entry_eq]
  generalize (lg_sl ([.ref h0, .int p0, .int p1]) ++ List.replicate (3 - (lg_sl ([.ref h0, .int p0, .int p1])).length) Slot.unset).toArray = ls at hl ⊢
  have hl : lv_has ls 3 [(0, .ref h0), (1, .int p0), (2, .int p1)] := hl
  have hf_77 := hts (.fieldLink RX5 77 "MajorityIndexModel" "thrown" "I") (by decide +kernel)
  have hi_5 : ∀ w ∈ u_ws RX5 TX5 30, w ∈ wsX5_parts := by decide +kernel
  refine lv_aload_n hx hb dX5_parts_0 rfl (lv_at hl 0 rfl) ?_
  refine lv_iconst (v := 0) hx hb dX5_parts_1 (by decide) ?_
  refine va_put (D := (dC, dI)) (ci := 5) (v := .int 0) (ty := .int) (C := RX5) (T := TX5) (N := 30) hx hb hts hi_5 tyX5 tyX5_ok nmX5 hown hK hP hD hS 0 rfl rfl 3 (by decide) hf_77 (fun _ h9 => h9) rfl (by decide +kernel) rfl rfl (Nat.le_of_ble_eq_true rfl) dX5_parts_2 (fun H locs hP hD hS => ?_)
  have hP : va_P (dC, dI) vwCl [(h0, .inr (5, [.ref g_row, .int 0, .int 2, .int 0, .ref g_many, .ref g_loss, .ref g_less, .ref g_voteValue, .ref g_voteNumber, .ref g_allValue, .ref g_allNumber, .int 0, .ref g_nodeL, .ref g_nodeR, .int 0, .ref g_part, .int 0, .ref g_wasMany, .ref g_wasLoss, .ref g_wasValue, .ref g_wasNumber, .ref g_path, .int 0, .ref g_heavyValue, .ref g_heavyTimes, .int 0, .ref g_fewest, .ref g_which, .ref g_met, .int 0]))] H := hP
  have hD : va_D A [(h0, .inr (5, [.ref g_row, .int 0, .int 2, .int 0, .ref g_many, .ref g_loss, .ref g_less, .ref g_voteValue, .ref g_voteNumber, .ref g_allValue, .ref g_allNumber, .int 0, .ref g_nodeL, .ref g_nodeR, .int 0, .ref g_part, .int 0, .ref g_wasMany, .ref g_wasLoss, .ref g_wasValue, .ref g_wasNumber, .ref g_path, .int 0, .ref g_heavyValue, .ref g_heavyTimes, .int 0, .ref g_fewest, .ref g_which, .ref g_met, .int 0]))] := hD
  refine lv_aload_n hx hb dX5_parts_5 rfl (lv_at hl 0 rfl) ?_
  refine lv_iload_n hx hb dX5_parts_6 rfl (lv_at hl 1 rfl) ?_
  refine lv_iload_n hx hb dX5_parts_7 rfl (lv_at hl 2 rfl) ?_
  have hPc := hP.sub (ws' := [(h0, .inr (5, [.ref g_row, .int 0, .int 2, .int 0, .ref g_many, .ref g_loss, .ref g_less, .ref g_voteValue, .ref g_voteNumber, .ref g_allValue, .ref g_allNumber, .int 0, .ref g_nodeL, .ref g_nodeR, .int 0, .ref g_part, .int 0, .ref g_wasMany, .ref g_wasLoss, .ref g_wasValue, .ref g_wasNumber, .ref g_path, .int 0, .ref g_heavyValue, .ref g_heavyTimes, .int 0, .ref g_fewest, .ref g_which, .ref g_met, .int 0]))]) [0] rfl
  have hKc := hK.sub (tys' := []) [] rfl
  refine vp_callSi (W.runV (As := [.int p0, .int p1]) (rest := []) ⟨hx, hb, hml, hown, hts⟩ (c_X5_isRange l dC dI h0 g_row g_many g_loss g_less g_voteValue g_voteNumber g_allValue g_allNumber g_nodeL g_nodeR g_part g_wasMany g_wasLoss g_wasValue g_wasNumber g_path g_heavyValue g_heavyTimes g_fewest g_which g_met 0 p0 p1) (cwV 2 hts gX5_parts_X5_isRange rfl rfl rfl (by decide +kernel) ⟨Nat.le_of_ble_eq_true rfl, Nat.le_of_ble_eq_true rfl⟩) ⟨fun a U g mk q => by obtain ⟨q0, qP, qK⟩ := q; exact ⟨q0, qP, va_K.moved (u := U) (U := U.calling g mk a) (Vm.Alike.refl U.vm) qK⟩, va_recv hKc hPc (ci := 5) (q0 := 0) rfl rfl, fun U hU hW => ⟨rfl, by rw [hU]; exact hPc, va_K.moved hW.alike hKc⟩⟩ rfl rfl hl.1 rfl (lv_room (Nat.le_of_ble_eq_true rfl)) dX5_parts_8 ⟨Nat.le_of_ble_eq_true rfl, Nat.le_of_ble_eq_true rfl⟩) (fun r_1 w_1 => ?_)
  rcases w_1 with ⟨rfl, w_1⟩
  · have w_1 : True := w_1
    refine lv_if_ne (tgt := 16) hx hb dX5_parts_11 (by decide) (fun c_2 => ?_) (fun c_2 => ?_)
    · exact absurd c_2 (by decide)
    · refine lv_iconst (v := (-1)) hx hb dX5_parts_14 (by decide) ?_
      have hP9 := hP.sub (ws' := []) [] rfl
      have hD9 := hD.sub (ws' := []) [] (by decide) rfl
      have hK9 := hK.sub (tys' := []) [] rfl
      exact W.iret (v := (-1)) hx hb hr (fun t ht hW => ⟨⟨(-1), (), rfl, rfl, by rw [ht]; exact hP9, va_K.moved hW.alike hK9, hD9⟩, hS.F ht⟩) hS.2.2 dX5_parts_15

set_option maxHeartbeats 4000000 in
set_option maxRecDepth 100000 in
/-- part of the reference, fresh -/
theorem c_X5_part (l : Launch) (dC : Nat → ClassId) (dI : Nat → Nat → Nat) (h0 : Nat) (g_row : Nat) (g_many : Nat) (g_loss : Nat) (g_less : Nat) (g_voteValue : Nat) (g_voteNumber : Nat) (g_allValue : Nat) (g_allNumber : Nat) (g_nodeL : Nat) (g_nodeR : Nat) (g_part : Nat) (g_wasMany : Nat) (g_wasLoss : Nat) (g_wasValue : Nat) (g_wasNumber : Nat) (g_path : Nat) (g_heavyValue : Nat) (g_heavyTimes : Nat) (g_fewest : Nat) (g_which : Nat) (g_met : Nat) (p0 : Int32) (p1 : Int32) (p2 : Int32) (p3 : Int32) (sz : Nat) : Met l yX5_part wsX5_part ({ frames := 1, cells := 0, slots := 0, locals := 45 }) (va_Pc [.ref h0, .int p0, .int p1, .int p2, .int p3] (fun U => U.heap.size = sz ∧ va_P (dC, dI) vwCl [(h0, .inr (5, [.ref g_row, .int 0, .int 2, .int 0, .ref g_many, .ref g_loss, .ref g_less, .ref g_voteValue, .ref g_voteNumber, .ref g_allValue, .ref g_allNumber, .int 0, .ref g_nodeL, .ref g_nodeR, .int 0, .ref g_part, .int 0, .ref g_wasMany, .ref g_wasLoss, .ref g_wasValue, .ref g_wasNumber, .ref g_path, .int 0, .ref g_heavyValue, .ref g_heavyTimes, .int 0, .ref g_fewest, .ref g_which, .ref g_met, .int 0]))] U.heap ∧ va_K (dC, dI) vwCl [] U ∧ va_D (fun _ => True) [(h0, .inr (5, [.ref g_row, .int 0, .int 2, .int 0, .ref g_many, .ref g_loss, .ref g_less, .ref g_voteValue, .ref g_voteNumber, .ref g_allValue, .ref g_allNumber, .int 0, .ref g_nodeL, .ref g_nodeR, .int 0, .ref g_part, .int 0, .ref g_wasMany, .ref g_wasLoss, .ref g_wasValue, .ref g_wasNumber, .ref g_path, .int 0, .ref g_heavyValue, .ref g_heavyTimes, .int 0, .ref g_fewest, .ref g_which, .ref g_met, .int 0]))])) (va_Qi (fun (r : Int32) (_ : Unit) => r = (-1)) (fun (_ : Unit) (t : State) => va_P (dC, dI) vwCl [] t.heap ∧ va_K (dC, dI) vwCl [] t ∧ va_D (va_A [(h0, .inr (5, [.ref g_row, .int 0, .int 2, .int 0, .ref g_many, .ref g_loss, .ref g_less, .ref g_voteValue, .ref g_voteNumber, .ref g_allValue, .ref g_allNumber, .int 0, .ref g_nodeL, .ref g_nodeR, .int 0, .ref g_part, .int 0, .ref g_wasMany, .ref g_wasLoss, .ref g_wasValue, .ref g_wasNumber, .ref g_path, .int 0, .ref g_heavyValue, .ref g_heavyTimes, .int 0, .ref g_fewest, .ref g_which, .ref g_met, .int 0]))] sz) []) (va_A [(h0, .inr (5, [.ref g_row, .int 0, .int 2, .int 0, .ref g_many, .ref g_loss, .ref g_less, .ref g_voteValue, .ref g_voteNumber, .ref g_allValue, .ref g_allNumber, .int 0, .ref g_nodeL, .ref g_nodeR, .int 0, .ref g_part, .int 0, .ref g_wasMany, .ref g_wasLoss, .ref g_wasValue, .ref g_wasNumber, .ref g_path, .int 0, .ref g_heavyValue, .ref g_heavyTimes, .int 0, .ref g_fewest, .ref g_which, .ref g_met, .int 0]))] sz)) 0 0 (va_A [(h0, .inr (5, [.ref g_row, .int 0, .int 2, .int 0, .ref g_many, .ref g_loss, .ref g_less, .ref g_voteValue, .ref g_voteNumber, .ref g_allValue, .ref g_allNumber, .int 0, .ref g_nodeL, .ref g_nodeR, .int 0, .ref g_part, .int 0, .ref g_wasMany, .ref g_wasLoss, .ref g_wasValue, .ref g_wasNumber, .ref g_path, .int 0, .ref g_heavyValue, .ref g_heavyTimes, .int 0, .ref g_fewest, .ref g_which, .ref g_met, .int 0]))] sz) := by
  refine Met.ofW (cc := cX5_part) (maxL := 5) (ret := (some .int)) (by decide) rfl ?_
  intro p e s m args below meth c s₁ B hml hv
  obtain ⟨rfl, hsz, hP, hK, hD0⟩ := hv
  have hx := B.exec
  have hb := B.bytes
  have hr := B.returns
  have hts := atoms_spec (ws := wsX5_part) B.pre
  have hown : s.vm.findClass RX5 = some m.cls := findClass_of_methodNamed B.named
  have hlocks := B.notSynchronized
  subst hsz
  have hD := hD0.self (sz := s.heap.size)
  generalize hAe : va_A [(h0, .inr (5, [.ref g_row, .int 0, .int 2, .int 0, .ref g_many, .ref g_loss, .ref g_less, .ref g_voteValue, .ref g_voteNumber, .ref g_allValue, .ref g_allNumber, .int 0, .ref g_nodeL, .ref g_nodeR, .int 0, .ref g_part, .int 0, .ref g_wasMany, .ref g_wasLoss, .ref g_wasValue, .ref g_wasNumber, .ref g_path, .int 0, .ref g_heavyValue, .ref g_heavyTimes, .int 0, .ref g_fewest, .ref g_which, .ref g_met, .int 0]))] s.heap.size = A at hD ⊢
  have hA : ∀ q : Nat, s.heap.size ≤ q → A q := fun q h => by rw [← hAe]; exact Or.inr h
  have hS : va_S A s.heap s.heap [] := va_S.rf
  have hP : va_P (dC, dI) vwCl [(h0, .inr (5, [.ref g_row, .int 0, .int 2, .int 0, .ref g_many, .ref g_loss, .ref g_less, .ref g_voteValue, .ref g_voteNumber, .ref g_allValue, .ref g_allNumber, .int 0, .ref g_nodeL, .ref g_nodeR, .int 0, .ref g_part, .int 0, .ref g_wasMany, .ref g_wasLoss, .ref g_wasValue, .ref g_wasNumber, .ref g_path, .int 0, .ref g_heavyValue, .ref g_heavyTimes, .int 0, .ref g_fewest, .ref g_which, .ref g_met, .int 0]))] s.heap := hP
  have hl := lv_entry ([.ref h0, .int p0, .int p1, .int p2, .int p3]) (n := 5) (Nat.le_of_ble_eq_true rfl)
  rw [lg_entry_eq]
  generalize (lg_sl ([.ref h0, .int p0, .int p1, .int p2, .int p3]) ++ List.replicate (5 - (lg_sl ([.ref h0, .int p0, .int p1, .int p2, .int p3])).length) Slot.unset).toArray = ls at hl ⊢
  have hl : lv_has ls 5 [(0, .ref h0), (1, .int p0), (2, .int p1), (3, .int p2), (4, .int p3)] := hl
  have hf_77 := hts (.fieldLink RX5 77 "MajorityIndexModel" "thrown" "I") (by decide +kernel)
  have hi_5 : ∀ w ∈ u_ws RX5 TX5 30, w ∈ wsX5_part := by decide +kernel
  refine lv_aload_n hx hb dX5_part_0 rfl (lv_at hl 0 rfl) ?_
  refine lv_iconst (v := 0) hx hb dX5_part_1 (by decide) ?_
  refine va_put (D := (dC, dI)) (ci := 5) (v := .int 0) (ty := .int) (C := RX5) (T := TX5) (N := 30) hx hb hts hi_5 tyX5 tyX5_ok nmX5 hown hK hP hD hS 0 rfl rfl 3 (by decide) hf_77 (fun _ h9 => h9) rfl (by decide +kernel) rfl rfl (Nat.le_of_ble_eq_true rfl) dX5_part_2 (fun H locs hP hD hS => ?_)
  have hP : va_P (dC, dI) vwCl [(h0, .inr (5, [.ref g_row, .int 0, .int 2, .int 0, .ref g_many, .ref g_loss, .ref g_less, .ref g_voteValue, .ref g_voteNumber, .ref g_allValue, .ref g_allNumber, .int 0, .ref g_nodeL, .ref g_nodeR, .int 0, .ref g_part, .int 0, .ref g_wasMany, .ref g_wasLoss, .ref g_wasValue, .ref g_wasNumber, .ref g_path, .int 0, .ref g_heavyValue, .ref g_heavyTimes, .int 0, .ref g_fewest, .ref g_which, .ref g_met, .int 0]))] H := hP
  have hD : va_D A [(h0, .inr (5, [.ref g_row, .int 0, .int 2, .int 0, .ref g_many, .ref g_loss, .ref g_less, .ref g_voteValue, .ref g_voteNumber, .ref g_allValue, .ref g_allNumber, .int 0, .ref g_nodeL, .ref g_nodeR, .int 0, .ref g_part, .int 0, .ref g_wasMany, .ref g_wasLoss, .ref g_wasValue, .ref g_wasNumber, .ref g_path, .int 0, .ref g_heavyValue, .ref g_heavyTimes, .int 0, .ref g_fewest, .ref g_which, .ref g_met, .int 0]))] := hD
  refine lv_aload_n hx hb dX5_part_5 rfl (lv_at hl 0 rfl) ?_
  refine lv_iload_n hx hb dX5_part_6 rfl (lv_at hl 1 rfl) ?_
  refine lv_iload_n hx hb dX5_part_7 rfl (lv_at hl 2 rfl) ?_
  have hPc := hP.sub (ws' := [(h0, .inr (5, [.ref g_row, .int 0, .int 2, .int 0, .ref g_many, .ref g_loss, .ref g_less, .ref g_voteValue, .ref g_voteNumber, .ref g_allValue, .ref g_allNumber, .int 0, .ref g_nodeL, .ref g_nodeR, .int 0, .ref g_part, .int 0, .ref g_wasMany, .ref g_wasLoss, .ref g_wasValue, .ref g_wasNumber, .ref g_path, .int 0, .ref g_heavyValue, .ref g_heavyTimes, .int 0, .ref g_fewest, .ref g_which, .ref g_met, .int 0]))]) [0] rfl
  have hKc := hK.sub (tys' := []) [] rfl
  refine vp_callSi (W.runV (As := [.int p0, .int p1]) (rest := []) ⟨hx, hb, hml, hown, hts⟩ (c_X5_isRange l dC dI h0 g_row g_many g_loss g_less g_voteValue g_voteNumber g_allValue g_allNumber g_nodeL g_nodeR g_part g_wasMany g_wasLoss g_wasValue g_wasNumber g_path g_heavyValue g_heavyTimes g_fewest g_which g_met 0 p0 p1) (cwV 2 hts gX5_part_X5_isRange rfl rfl rfl (by decide +kernel) ⟨Nat.le_of_ble_eq_true rfl, Nat.le_of_ble_eq_true rfl⟩) ⟨fun a U g mk q => by obtain ⟨q0, qP, qK⟩ := q; exact ⟨q0, qP, va_K.moved (u := U) (U := U.calling g mk a) (Vm.Alike.refl U.vm) qK⟩, va_recv hKc hPc (ci := 5) (q0 := 0) rfl rfl, fun U hU hW => ⟨rfl, by rw [hU]; exact hPc, va_K.moved hW.alike hKc⟩⟩ rfl rfl hl.1 rfl (lv_room (Nat.le_of_ble_eq_true rfl)) dX5_part_8 ⟨Nat.le_of_ble_eq_true rfl, Nat.le_of_ble_eq_true rfl⟩) (fun r_1 w_1 => ?_)
  rcases w_1 with ⟨rfl, w_1⟩
  · have w_1 : True := w_1
    refine lv_if_eq (tgt := 24) hx hb dX5_part_11 (by decide) (fun c_2 => ?_) (fun c_2 => ?_)
    · refine lv_iconst (v := (-1)) hx hb dX5_part_24 (by decide) ?_
      have hP9 := hP.sub (ws' := []) [] rfl
      have hD9 := hD.sub (ws' := []) [] (by decide) rfl
      have hK9 := hK.sub (tys' := []) [] rfl
      exact W.iret (v := (-1)) hx hb hr (fun t ht hW => ⟨⟨(-1), (), rfl, rfl, by rw [ht]; exact hP9, va_K.moved hW.alike hK9, hD9⟩, hS.F ht⟩) hS.2.2 dX5_part_25
    · exact absurd c_2 (by decide)

set_option maxHeartbeats 4000000 in
set_option maxRecDepth 100000 in
/-- summary of the reference, fresh -/
theorem c_X5_summary (l : Launch) (dC : Nat → ClassId) (dI : Nat → Nat → Nat) (h0 : Nat) (g_row : Nat) (g_many : Nat) (g_loss : Nat) (g_less : Nat) (g_voteValue : Nat) (g_voteNumber : Nat) (g_allValue : Nat) (g_allNumber : Nat) (g_nodeL : Nat) (g_nodeR : Nat) (g_part : Nat) (g_wasMany : Nat) (g_wasLoss : Nat) (g_wasValue : Nat) (g_wasNumber : Nat) (g_path : Nat) (g_heavyValue : Nat) (g_heavyTimes : Nat) (g_fewest : Nat) (g_which : Nat) (g_met : Nat) (p0 : Int32) (p1 : Int32) (p2 : Int32) (sz : Nat) : Met l yX5_summary wsX5_summary ({ frames := 1, cells := 0, slots := 0, locals := 45 }) (va_Pc [.ref h0, .int p0, .int p1, .int p2] (fun U => U.heap.size = sz ∧ va_P (dC, dI) vwCl [(h0, .inr (5, [.ref g_row, .int 0, .int 2, .int 0, .ref g_many, .ref g_loss, .ref g_less, .ref g_voteValue, .ref g_voteNumber, .ref g_allValue, .ref g_allNumber, .int 0, .ref g_nodeL, .ref g_nodeR, .int 0, .ref g_part, .int 0, .ref g_wasMany, .ref g_wasLoss, .ref g_wasValue, .ref g_wasNumber, .ref g_path, .int 0, .ref g_heavyValue, .ref g_heavyTimes, .int 0, .ref g_fewest, .ref g_which, .ref g_met, .int 0]))] U.heap ∧ va_K (dC, dI) vwCl [] U ∧ va_D (fun _ => True) [(h0, .inr (5, [.ref g_row, .int 0, .int 2, .int 0, .ref g_many, .ref g_loss, .ref g_less, .ref g_voteValue, .ref g_voteNumber, .ref g_allValue, .ref g_allNumber, .int 0, .ref g_nodeL, .ref g_nodeR, .int 0, .ref g_part, .int 0, .ref g_wasMany, .ref g_wasLoss, .ref g_wasValue, .ref g_wasNumber, .ref g_path, .int 0, .ref g_heavyValue, .ref g_heavyTimes, .int 0, .ref g_fewest, .ref g_which, .ref g_met, .int 0]))])) (va_Qi (fun (r : Int32) (_ : Unit) => r = (-1)) (fun (_ : Unit) (t : State) => va_P (dC, dI) vwCl [] t.heap ∧ va_K (dC, dI) vwCl [] t ∧ va_D (va_A [(h0, .inr (5, [.ref g_row, .int 0, .int 2, .int 0, .ref g_many, .ref g_loss, .ref g_less, .ref g_voteValue, .ref g_voteNumber, .ref g_allValue, .ref g_allNumber, .int 0, .ref g_nodeL, .ref g_nodeR, .int 0, .ref g_part, .int 0, .ref g_wasMany, .ref g_wasLoss, .ref g_wasValue, .ref g_wasNumber, .ref g_path, .int 0, .ref g_heavyValue, .ref g_heavyTimes, .int 0, .ref g_fewest, .ref g_which, .ref g_met, .int 0]))] sz) []) (va_A [(h0, .inr (5, [.ref g_row, .int 0, .int 2, .int 0, .ref g_many, .ref g_loss, .ref g_less, .ref g_voteValue, .ref g_voteNumber, .ref g_allValue, .ref g_allNumber, .int 0, .ref g_nodeL, .ref g_nodeR, .int 0, .ref g_part, .int 0, .ref g_wasMany, .ref g_wasLoss, .ref g_wasValue, .ref g_wasNumber, .ref g_path, .int 0, .ref g_heavyValue, .ref g_heavyTimes, .int 0, .ref g_fewest, .ref g_which, .ref g_met, .int 0]))] sz)) 0 0 (va_A [(h0, .inr (5, [.ref g_row, .int 0, .int 2, .int 0, .ref g_many, .ref g_loss, .ref g_less, .ref g_voteValue, .ref g_voteNumber, .ref g_allValue, .ref g_allNumber, .int 0, .ref g_nodeL, .ref g_nodeR, .int 0, .ref g_part, .int 0, .ref g_wasMany, .ref g_wasLoss, .ref g_wasValue, .ref g_wasNumber, .ref g_path, .int 0, .ref g_heavyValue, .ref g_heavyTimes, .int 0, .ref g_fewest, .ref g_which, .ref g_met, .int 0]))] sz) := by
  refine Met.ofW (cc := cX5_summary) (maxL := 4) (ret := (some .int)) (by decide) rfl ?_
  intro p e s m args below meth c s₁ B hml hv
  obtain ⟨rfl, hsz, hP, hK, hD0⟩ := hv
  have hx := B.exec
  have hb := B.bytes
  have hr := B.returns
  have hts := atoms_spec (ws := wsX5_summary) B.pre
  have hown : s.vm.findClass RX5 = some m.cls := findClass_of_methodNamed B.named
  have hlocks := B.notSynchronized
  subst hsz
  have hD := hD0.self (sz := s.heap.size)
  generalize hAe : va_A [(h0, .inr (5, [.ref g_row, .int 0, .int 2, .int 0, .ref g_many, .ref g_loss, .ref g_less, .ref g_voteValue, .ref g_voteNumber, .ref g_allValue, .ref g_allNumber, .int 0, .ref g_nodeL, .ref g_nodeR, .int 0, .ref g_part, .int 0, .ref g_wasMany, .ref g_wasLoss, .ref g_wasValue, .ref g_wasNumber, .ref g_path, .int 0, .ref g_heavyValue, .ref g_heavyTimes, .int 0, .ref g_fewest, .ref g_which, .ref g_met, .int 0]))] s.heap.size = A at hD ⊢
  have hA : ∀ q : Nat, s.heap.size ≤ q → A q := fun q h => by rw [← hAe]; exact Or.inr h
  have hS : va_S A s.heap s.heap [] := va_S.rf
  have hP : va_P (dC, dI) vwCl [(h0, .inr (5, [.ref g_row, .int 0, .int 2, .int 0, .ref g_many, .ref g_loss, .ref g_less, .ref g_voteValue, .ref g_voteNumber, .ref g_allValue, .ref g_allNumber, .int 0, .ref g_nodeL, .ref g_nodeR, .int 0, .ref g_part, .int 0, .ref g_wasMany, .ref g_wasLoss, .ref g_wasValue, .ref g_wasNumber, .ref g_path, .int 0, .ref g_heavyValue, .ref g_heavyTimes, .int 0, .ref g_fewest, .ref g_which, .ref g_met, .int 0]))] s.heap := hP
  have hl := lv_entry ([.ref h0, .int p0, .int p1, .int p2]) (n := 4) (Nat.le_of_ble_eq_true rfl)
  rw [lg_entry_eq]
  generalize (lg_sl ([.ref h0, .int p0, .int p1, .int p2]) ++ List.replicate (4 - (lg_sl ([.ref h0, .int p0, .int p1, .int p2])).length) Slot.unset).toArray = ls at hl ⊢
  have hl : lv_has ls 4 [(0, .ref h0), (1, .int p0), (2, .int p1), (3, .int p2)] := hl
  have hf_77 := hts (.fieldLink RX5 77 "MajorityIndexModel" "thrown" "I") (by decide +kernel)
  have hi_5 : ∀ w ∈ u_ws RX5 TX5 30, w ∈ wsX5_summary := by decide +kernel
  refine lv_aload_n hx hb dX5_summary_0 rfl (lv_at hl 0 rfl) ?_
  refine lv_iconst (v := 0) hx hb dX5_summary_1 (by decide) ?_
  refine va_put (D := (dC, dI)) (ci := 5) (v := .int 0) (ty := .int) (C := RX5) (T := TX5) (N := 30) hx hb hts hi_5 tyX5 tyX5_ok nmX5 hown hK hP hD hS 0 rfl rfl 3 (by decide) hf_77 (fun _ h9 => h9) rfl (by decide +kernel) rfl rfl (Nat.le_of_ble_eq_true rfl) dX5_summary_2 (fun H locs hP hD hS => ?_)
  have hP : va_P (dC, dI) vwCl [(h0, .inr (5, [.ref g_row, .int 0, .int 2, .int 0, .ref g_many, .ref g_loss, .ref g_less, .ref g_voteValue, .ref g_voteNumber, .ref g_allValue, .ref g_allNumber, .int 0, .ref g_nodeL, .ref g_nodeR, .int 0, .ref g_part, .int 0, .ref g_wasMany, .ref g_wasLoss, .ref g_wasValue, .ref g_wasNumber, .ref g_path, .int 0, .ref g_heavyValue, .ref g_heavyTimes, .int 0, .ref g_fewest, .ref g_which, .ref g_met, .int 0]))] H := hP
  have hD : va_D A [(h0, .inr (5, [.ref g_row, .int 0, .int 2, .int 0, .ref g_many, .ref g_loss, .ref g_less, .ref g_voteValue, .ref g_voteNumber, .ref g_allValue, .ref g_allNumber, .int 0, .ref g_nodeL, .ref g_nodeR, .int 0, .ref g_part, .int 0, .ref g_wasMany, .ref g_wasLoss, .ref g_wasValue, .ref g_wasNumber, .ref g_path, .int 0, .ref g_heavyValue, .ref g_heavyTimes, .int 0, .ref g_fewest, .ref g_which, .ref g_met, .int 0]))] := hD
  refine lv_aload_n hx hb dX5_summary_5 rfl (lv_at hl 0 rfl) ?_
  refine lv_iload_n hx hb dX5_summary_6 rfl (lv_at hl 1 rfl) ?_
  refine lv_iload_n hx hb dX5_summary_7 rfl (lv_at hl 2 rfl) ?_
  have hPc := hP.sub (ws' := [(h0, .inr (5, [.ref g_row, .int 0, .int 2, .int 0, .ref g_many, .ref g_loss, .ref g_less, .ref g_voteValue, .ref g_voteNumber, .ref g_allValue, .ref g_allNumber, .int 0, .ref g_nodeL, .ref g_nodeR, .int 0, .ref g_part, .int 0, .ref g_wasMany, .ref g_wasLoss, .ref g_wasValue, .ref g_wasNumber, .ref g_path, .int 0, .ref g_heavyValue, .ref g_heavyTimes, .int 0, .ref g_fewest, .ref g_which, .ref g_met, .int 0]))]) [0] rfl
  have hKc := hK.sub (tys' := []) [] rfl
  refine vp_callSi (W.runV (As := [.int p0, .int p1]) (rest := []) ⟨hx, hb, hml, hown, hts⟩ (c_X5_isRange l dC dI h0 g_row g_many g_loss g_less g_voteValue g_voteNumber g_allValue g_allNumber g_nodeL g_nodeR g_part g_wasMany g_wasLoss g_wasValue g_wasNumber g_path g_heavyValue g_heavyTimes g_fewest g_which g_met 0 p0 p1) (cwV 2 hts gX5_summary_X5_isRange rfl rfl rfl (by decide +kernel) ⟨Nat.le_of_ble_eq_true rfl, Nat.le_of_ble_eq_true rfl⟩) ⟨fun a U g mk q => by obtain ⟨q0, qP, qK⟩ := q; exact ⟨q0, qP, va_K.moved (u := U) (U := U.calling g mk a) (Vm.Alike.refl U.vm) qK⟩, va_recv hKc hPc (ci := 5) (q0 := 0) rfl rfl, fun U hU hW => ⟨rfl, by rw [hU]; exact hPc, va_K.moved hW.alike hKc⟩⟩ rfl rfl hl.1 rfl (lv_room (Nat.le_of_ble_eq_true rfl)) dX5_summary_8 ⟨Nat.le_of_ble_eq_true rfl, Nat.le_of_ble_eq_true rfl⟩) (fun r_1 w_1 => ?_)
  rcases w_1 with ⟨rfl, w_1⟩
  · have w_1 : True := w_1
    refine lv_if_eq (tgt := 23) hx hb dX5_summary_11 (by decide) (fun c_2 => ?_) (fun c_2 => ?_)
    · refine lv_iconst (v := (-1)) hx hb dX5_summary_23 (by decide) ?_
      have hP9 := hP.sub (ws' := []) [] rfl
      have hD9 := hD.sub (ws' := []) [] (by decide) rfl
      have hK9 := hK.sub (tys' := []) [] rfl
      exact W.iret (v := (-1)) hx hb hr (fun t ht hW => ⟨⟨(-1), (), rfl, rfl, by rw [ht]; exact hP9, va_K.moved hW.alike hK9, hD9⟩, hS.F ht⟩) hS.2.2 dX5_summary_24
    · exact absurd c_2 (by decide)

set_option maxHeartbeats 4000000 in
set_option maxRecDepth 100000 in
/-- lost of the reference, fresh -/
theorem c_X5_lost (l : Launch) (dC : Nat → ClassId) (dI : Nat → Nat → Nat) (h0 : Nat) (g_row : Nat) (g_many : Nat) (g_loss : Nat) (g_less : Nat) (g_voteValue : Nat) (g_voteNumber : Nat) (g_allValue : Nat) (g_allNumber : Nat) (g_nodeL : Nat) (g_nodeR : Nat) (g_part : Nat) (g_wasMany : Nat) (g_wasLoss : Nat) (g_wasValue : Nat) (g_wasNumber : Nat) (g_path : Nat) (g_heavyValue : Nat) (g_heavyTimes : Nat) (g_fewest : Nat) (g_which : Nat) (g_met : Nat) (p0 : Int32) (p1 : Int32) (p2 : Int32) (sz : Nat) : Met l yX5_lost wsX5_lost ({ frames := 2, cells := 0, slots := 0, locals := 90 }) (va_Pc [.ref h0, .int p0, .int p1, .int p2] (fun U => U.heap.size = sz ∧ va_P (dC, dI) vwCl [(h0, .inr (5, [.ref g_row, .int 0, .int 2, .int 0, .ref g_many, .ref g_loss, .ref g_less, .ref g_voteValue, .ref g_voteNumber, .ref g_allValue, .ref g_allNumber, .int 0, .ref g_nodeL, .ref g_nodeR, .int 0, .ref g_part, .int 0, .ref g_wasMany, .ref g_wasLoss, .ref g_wasValue, .ref g_wasNumber, .ref g_path, .int 0, .ref g_heavyValue, .ref g_heavyTimes, .int 0, .ref g_fewest, .ref g_which, .ref g_met, .int 0]))] U.heap ∧ va_K (dC, dI) vwCl [] U ∧ va_D (fun _ => True) [(h0, .inr (5, [.ref g_row, .int 0, .int 2, .int 0, .ref g_many, .ref g_loss, .ref g_less, .ref g_voteValue, .ref g_voteNumber, .ref g_allValue, .ref g_allNumber, .int 0, .ref g_nodeL, .ref g_nodeR, .int 0, .ref g_part, .int 0, .ref g_wasMany, .ref g_wasLoss, .ref g_wasValue, .ref g_wasNumber, .ref g_path, .int 0, .ref g_heavyValue, .ref g_heavyTimes, .int 0, .ref g_fewest, .ref g_which, .ref g_met, .int 0]))])) (va_Qi (fun (r : Int32) (_ : Unit) => r = (-1)) (fun (_ : Unit) (t : State) => va_P (dC, dI) vwCl [] t.heap ∧ va_K (dC, dI) vwCl [] t ∧ va_D (va_A [(h0, .inr (5, [.ref g_row, .int 0, .int 2, .int 0, .ref g_many, .ref g_loss, .ref g_less, .ref g_voteValue, .ref g_voteNumber, .ref g_allValue, .ref g_allNumber, .int 0, .ref g_nodeL, .ref g_nodeR, .int 0, .ref g_part, .int 0, .ref g_wasMany, .ref g_wasLoss, .ref g_wasValue, .ref g_wasNumber, .ref g_path, .int 0, .ref g_heavyValue, .ref g_heavyTimes, .int 0, .ref g_fewest, .ref g_which, .ref g_met, .int 0]))] sz) []) (va_A [(h0, .inr (5, [.ref g_row, .int 0, .int 2, .int 0, .ref g_many, .ref g_loss, .ref g_less, .ref g_voteValue, .ref g_voteNumber, .ref g_allValue, .ref g_allNumber, .int 0, .ref g_nodeL, .ref g_nodeR, .int 0, .ref g_part, .int 0, .ref g_wasMany, .ref g_wasLoss, .ref g_wasValue, .ref g_wasNumber, .ref g_path, .int 0, .ref g_heavyValue, .ref g_heavyTimes, .int 0, .ref g_fewest, .ref g_which, .ref g_met, .int 0]))] sz)) 0 0 (va_A [(h0, .inr (5, [.ref g_row, .int 0, .int 2, .int 0, .ref g_many, .ref g_loss, .ref g_less, .ref g_voteValue, .ref g_voteNumber, .ref g_allValue, .ref g_allNumber, .int 0, .ref g_nodeL, .ref g_nodeR, .int 0, .ref g_part, .int 0, .ref g_wasMany, .ref g_wasLoss, .ref g_wasValue, .ref g_wasNumber, .ref g_path, .int 0, .ref g_heavyValue, .ref g_heavyTimes, .int 0, .ref g_fewest, .ref g_which, .ref g_met, .int 0]))] sz) := by
  refine Met.ofW (cc := cX5_lost) (maxL := 4) (ret := (some .int)) (by decide) rfl ?_
  intro p e s m args below meth c s₁ B hml hv
  obtain ⟨rfl, hsz, hP, hK, hD0⟩ := hv
  have hx := B.exec
  have hb := B.bytes
  have hr := B.returns
  have hts := atoms_spec (ws := wsX5_lost) B.pre
  have hown : s.vm.findClass RX5 = some m.cls := findClass_of_methodNamed B.named
  have hlocks := B.notSynchronized
  subst hsz
  have hD := hD0.self (sz := s.heap.size)
  generalize hAe : va_A [(h0, .inr (5, [.ref g_row, .int 0, .int 2, .int 0, .ref g_many, .ref g_loss, .ref g_less, .ref g_voteValue, .ref g_voteNumber, .ref g_allValue, .ref g_allNumber, .int 0, .ref g_nodeL, .ref g_nodeR, .int 0, .ref g_part, .int 0, .ref g_wasMany, .ref g_wasLoss, .ref g_wasValue, .ref g_wasNumber, .ref g_path, .int 0, .ref g_heavyValue, .ref g_heavyTimes, .int 0, .ref g_fewest, .ref g_which, .ref g_met, .int 0]))] s.heap.size = A at hD ⊢
  have hA : ∀ q : Nat, s.heap.size ≤ q → A q := fun q h => by rw [← hAe]; exact Or.inr h
  have hS : va_S A s.heap s.heap [] := va_S.rf
  have hP : va_P (dC, dI) vwCl [(h0, .inr (5, [.ref g_row, .int 0, .int 2, .int 0, .ref g_many, .ref g_loss, .ref g_less, .ref g_voteValue, .ref g_voteNumber, .ref g_allValue, .ref g_allNumber, .int 0, .ref g_nodeL, .ref g_nodeR, .int 0, .ref g_part, .int 0, .ref g_wasMany, .ref g_wasLoss, .ref g_wasValue, .ref g_wasNumber, .ref g_path, .int 0, .ref g_heavyValue, .ref g_heavyTimes, .int 0, .ref g_fewest, .ref g_which, .ref g_met, .int 0]))] s.heap := hP
  have hl := lv_entry ([.ref h0, .int p0, .int p1, .int p2]) (n := 4) (Nat.le_of_ble_eq_true rfl)
  rw [lg_entry_eq]
  generalize (lg_sl ([.ref h0, .int p0, .int p1, .int p2]) ++ List.replicate (4 - (lg_sl ([.ref h0, .int p0, .int p1, .int p2])).length) Slot.unset).toArray = ls at hl ⊢
  have hl : lv_has ls 4 [(0, .ref h0), (1, .int p0), (2, .int p1), (3, .int p2)] := hl
  have hf_77 := hts (.fieldLink RX5 77 "MajorityIndexModel" "thrown" "I") (by decide +kernel)
  have hi_5 : ∀ w ∈ u_ws RX5 TX5 30, w ∈ wsX5_lost := by decide +kernel
  refine lv_aload_n hx hb dX5_lost_0 rfl (lv_at hl 0 rfl) ?_
  refine lv_iconst (v := 0) hx hb dX5_lost_1 (by decide) ?_
  refine va_put (D := (dC, dI)) (ci := 5) (v := .int 0) (ty := .int) (C := RX5) (T := TX5) (N := 30) hx hb hts hi_5 tyX5 tyX5_ok nmX5 hown hK hP hD hS 0 rfl rfl 3 (by decide) hf_77 (fun _ h9 => h9) rfl (by decide +kernel) rfl rfl (Nat.le_of_ble_eq_true rfl) dX5_lost_2 (fun H locs hP hD hS => ?_)
  have hP : va_P (dC, dI) vwCl [(h0, .inr (5, [.ref g_row, .int 0, .int 2, .int 0, .ref g_many, .ref g_loss, .ref g_less, .ref g_voteValue, .ref g_voteNumber, .ref g_allValue, .ref g_allNumber, .int 0, .ref g_nodeL, .ref g_nodeR, .int 0, .ref g_part, .int 0, .ref g_wasMany, .ref g_wasLoss, .ref g_wasValue, .ref g_wasNumber, .ref g_path, .int 0, .ref g_heavyValue, .ref g_heavyTimes, .int 0, .ref g_fewest, .ref g_which, .ref g_met, .int 0]))] H := hP
  have hD : va_D A [(h0, .inr (5, [.ref g_row, .int 0, .int 2, .int 0, .ref g_many, .ref g_loss, .ref g_less, .ref g_voteValue, .ref g_voteNumber, .ref g_allValue, .ref g_allNumber, .int 0, .ref g_nodeL, .ref g_nodeR, .int 0, .ref g_part, .int 0, .ref g_wasMany, .ref g_wasLoss, .ref g_wasValue, .ref g_wasNumber, .ref g_path, .int 0, .ref g_heavyValue, .ref g_heavyTimes, .int 0, .ref g_fewest, .ref g_which, .ref g_met, .int 0]))] := hD
  refine lv_iload_n hx hb dX5_lost_5 rfl (lv_at hl 1 rfl) ?_
  have hPc := hP.sub (ws' := []) [] rfl
  have hKc := hK.sub (tys' := []) [] rfl
  refine vp_callSi (W.runS (As := [.int p0]) (rest := []) ⟨hx, hb, hml, hown, hts⟩ (c_X5_isValue l dC dI p0) (va_cwS 1 hts gX5_lost_X5_isValue rfl rfl rfl (by decide +kernel) ⟨Nat.le_of_ble_eq_true rfl, Nat.le_of_ble_eq_true rfl⟩) ⟨fun a U g mk q => by obtain ⟨q0, qP, qK⟩ := q; exact ⟨q0, qP, va_K.moved (u := U) (U := U.calling g mk a) (Vm.Alike.refl U.vm) qK⟩, fun U hU hW => ⟨rfl, by rw [hU]; exact hPc, va_K.moved hW.alike hKc⟩⟩ rfl rfl hl.1 rfl (lv_room (Nat.le_of_ble_eq_true rfl)) dX5_lost_6 ⟨Nat.le_of_ble_eq_true rfl, Nat.le_of_ble_eq_true rfl⟩) (fun r_1 w_1 => ?_)
  rcases w_1 with ⟨rfl, w_1⟩ | ⟨rfl, w_1⟩
  · have w_1 : (-32768 ≤ p0.toInt ∧ p0.toInt ≤ 32767) := w_1
    refine lv_if_eq (tgt := 21) hx hb dX5_lost_9 (by decide) (fun c_2 => ?_) (fun c_2 => ?_)
    · exact absurd c_2 (by decide)
    · refine lv_aload_n hx hb dX5_lost_12 rfl (lv_at hl 0 rfl) ?_
      refine lv_iload_n hx hb dX5_lost_13 rfl (lv_at hl 2 rfl) ?_
      refine lv_iload_n hx hb dX5_lost_14 rfl (lv_at hl 3 rfl) ?_
      have hPc := hP.sub (ws' := [(h0, .inr (5, [.ref g_row, .int 0, .int 2, .int 0, .ref g_many, .ref g_loss, .ref g_less, .ref g_voteValue, .ref g_voteNumber, .ref g_allValue, .ref g_allNumber, .int 0, .ref g_nodeL, .ref g_nodeR, .int 0, .ref g_part, .int 0, .ref g_wasMany, .ref g_wasLoss, .ref g_wasValue, .ref g_wasNumber, .ref g_path, .int 0, .ref g_heavyValue, .ref g_heavyTimes, .int 0, .ref g_fewest, .ref g_which, .ref g_met, .int 0]))]) [0] rfl
      have hKc := hK.sub (tys' := []) [] rfl
      refine vp_callSi (W.runV (As := [.int p1, .int p2]) (rest := []) ⟨hx, hb, hml, hown, hts⟩ (c_X5_isRange l dC dI h0 g_row g_many g_loss g_less g_voteValue g_voteNumber g_allValue g_allNumber g_nodeL g_nodeR g_part g_wasMany g_wasLoss g_wasValue g_wasNumber g_path g_heavyValue g_heavyTimes g_fewest g_which g_met 0 p1 p2) (cwV 2 hts gX5_lost_X5_isRange rfl rfl rfl (by decide +kernel) ⟨Nat.le_of_ble_eq_true rfl, Nat.le_of_ble_eq_true rfl⟩) ⟨fun a U g mk q => by obtain ⟨q0, qP, qK⟩ := q; exact ⟨q0, qP, va_K.moved (u := U) (U := U.calling g mk a) (Vm.Alike.refl U.vm) qK⟩, va_recv hKc hPc (ci := 5) (q0 := 0) rfl rfl, fun U hU hW => ⟨rfl, by rw [hU]; exact hPc, va_K.moved hW.alike hKc⟩⟩ rfl rfl hl.1 rfl (lv_room (Nat.le_of_ble_eq_true rfl)) dX5_lost_15 ⟨Nat.le_of_ble_eq_true rfl, Nat.le_of_ble_eq_true rfl⟩) (fun r_3 w_3 => ?_)
      rcases w_3 with ⟨rfl, w_3⟩
      · have w_3 : True := w_3
        refine lv_if_ne (tgt := 23) hx hb dX5_lost_18 (by decide) (fun c_4 => ?_) (fun c_4 => ?_)
        · exact absurd c_4 (by decide)
        · refine lv_iconst (v := (-1)) hx hb dX5_lost_21 (by decide) ?_
          have hP9 := hP.sub (ws' := []) [] rfl
          have hD9 := hD.sub (ws' := []) [] (by decide) rfl
          have hK9 := hK.sub (tys' := []) [] rfl
          exact W.iret (v := (-1)) hx hb hr (fun t ht hW => ⟨⟨(-1), (), rfl, rfl, by rw [ht]; exact hP9, va_K.moved hW.alike hK9, hD9⟩, hS.F ht⟩) hS.2.2 dX5_lost_22
  · have w_1 : (p0.toInt < -32768 ∨ 32767 < p0.toInt) := w_1
    refine lv_if_eq (tgt := 21) hx hb dX5_lost_9 (by decide) (fun c_5 => ?_) (fun c_5 => ?_)
    · refine lv_iconst (v := (-1)) hx hb dX5_lost_21 (by decide) ?_
      have hP9 := hP.sub (ws' := []) [] rfl
      have hD9 := hD.sub (ws' := []) [] (by decide) rfl
      have hK9 := hK.sub (tys' := []) [] rfl
      exact W.iret (v := (-1)) hx hb hr (fun t ht hW => ⟨⟨(-1), (), rfl, rfl, by rw [ht]; exact hP9, va_K.moved hW.alike hK9, hD9⟩, hS.F ht⟩) hS.2.2 dX5_lost_22
    · exact absurd c_5 (by decide)

set_option maxHeartbeats 4000000 in
set_option maxRecDepth 100000 in
/-- surely of the reference, fresh -/
theorem c_X5_surely (l : Launch) (dC : Nat → ClassId) (dI : Nat → Nat → Nat) (h0 : Nat) (g_row : Nat) (g_many : Nat) (g_loss : Nat) (g_less : Nat) (g_voteValue : Nat) (g_voteNumber : Nat) (g_allValue : Nat) (g_allNumber : Nat) (g_nodeL : Nat) (g_nodeR : Nat) (g_part : Nat) (g_wasMany : Nat) (g_wasLoss : Nat) (g_wasValue : Nat) (g_wasNumber : Nat) (g_path : Nat) (g_heavyValue : Nat) (g_heavyTimes : Nat) (g_fewest : Nat) (g_which : Nat) (g_met : Nat) (p0 : Int32) (p1 : Int32) (sz : Nat) : Met l yX5_surely wsX5_surely ({ frames := 1, cells := 0, slots := 0, locals := 45 }) (va_Pc [.ref h0, .int p0, .int p1] (fun U => U.heap.size = sz ∧ va_P (dC, dI) vwCl [(h0, .inr (5, [.ref g_row, .int 0, .int 2, .int 0, .ref g_many, .ref g_loss, .ref g_less, .ref g_voteValue, .ref g_voteNumber, .ref g_allValue, .ref g_allNumber, .int 0, .ref g_nodeL, .ref g_nodeR, .int 0, .ref g_part, .int 0, .ref g_wasMany, .ref g_wasLoss, .ref g_wasValue, .ref g_wasNumber, .ref g_path, .int 0, .ref g_heavyValue, .ref g_heavyTimes, .int 0, .ref g_fewest, .ref g_which, .ref g_met, .int 0]))] U.heap ∧ va_K (dC, dI) vwCl [] U ∧ va_D (fun _ => True) [(h0, .inr (5, [.ref g_row, .int 0, .int 2, .int 0, .ref g_many, .ref g_loss, .ref g_less, .ref g_voteValue, .ref g_voteNumber, .ref g_allValue, .ref g_allNumber, .int 0, .ref g_nodeL, .ref g_nodeR, .int 0, .ref g_part, .int 0, .ref g_wasMany, .ref g_wasLoss, .ref g_wasValue, .ref g_wasNumber, .ref g_path, .int 0, .ref g_heavyValue, .ref g_heavyTimes, .int 0, .ref g_fewest, .ref g_which, .ref g_met, .int 0]))])) (va_Qi (fun (r : Int32) (_ : Unit) => r = (-40000)) (fun (_ : Unit) (t : State) => va_P (dC, dI) vwCl [] t.heap ∧ va_K (dC, dI) vwCl [] t ∧ va_D (va_A [(h0, .inr (5, [.ref g_row, .int 0, .int 2, .int 0, .ref g_many, .ref g_loss, .ref g_less, .ref g_voteValue, .ref g_voteNumber, .ref g_allValue, .ref g_allNumber, .int 0, .ref g_nodeL, .ref g_nodeR, .int 0, .ref g_part, .int 0, .ref g_wasMany, .ref g_wasLoss, .ref g_wasValue, .ref g_wasNumber, .ref g_path, .int 0, .ref g_heavyValue, .ref g_heavyTimes, .int 0, .ref g_fewest, .ref g_which, .ref g_met, .int 0]))] sz) []) (va_A [(h0, .inr (5, [.ref g_row, .int 0, .int 2, .int 0, .ref g_many, .ref g_loss, .ref g_less, .ref g_voteValue, .ref g_voteNumber, .ref g_allValue, .ref g_allNumber, .int 0, .ref g_nodeL, .ref g_nodeR, .int 0, .ref g_part, .int 0, .ref g_wasMany, .ref g_wasLoss, .ref g_wasValue, .ref g_wasNumber, .ref g_path, .int 0, .ref g_heavyValue, .ref g_heavyTimes, .int 0, .ref g_fewest, .ref g_which, .ref g_met, .int 0]))] sz)) 0 0 (va_A [(h0, .inr (5, [.ref g_row, .int 0, .int 2, .int 0, .ref g_many, .ref g_loss, .ref g_less, .ref g_voteValue, .ref g_voteNumber, .ref g_allValue, .ref g_allNumber, .int 0, .ref g_nodeL, .ref g_nodeR, .int 0, .ref g_part, .int 0, .ref g_wasMany, .ref g_wasLoss, .ref g_wasValue, .ref g_wasNumber, .ref g_path, .int 0, .ref g_heavyValue, .ref g_heavyTimes, .int 0, .ref g_fewest, .ref g_which, .ref g_met, .int 0]))] sz) := by
  refine Met.ofW (cc := cX5_surely) (maxL := 5) (ret := (some .int)) (by decide) rfl ?_
  intro p e s m args below meth c s₁ B hml hv
  obtain ⟨rfl, hsz, hP, hK, hD0⟩ := hv
  have hx := B.exec
  have hb := B.bytes
  have hr := B.returns
  have hts := atoms_spec (ws := wsX5_surely) B.pre
  have hown : s.vm.findClass RX5 = some m.cls := findClass_of_methodNamed B.named
  have hlocks := B.notSynchronized
  subst hsz
  have hD := hD0.self (sz := s.heap.size)
  generalize hAe : va_A [(h0, .inr (5, [.ref g_row, .int 0, .int 2, .int 0, .ref g_many, .ref g_loss, .ref g_less, .ref g_voteValue, .ref g_voteNumber, .ref g_allValue, .ref g_allNumber, .int 0, .ref g_nodeL, .ref g_nodeR, .int 0, .ref g_part, .int 0, .ref g_wasMany, .ref g_wasLoss, .ref g_wasValue, .ref g_wasNumber, .ref g_path, .int 0, .ref g_heavyValue, .ref g_heavyTimes, .int 0, .ref g_fewest, .ref g_which, .ref g_met, .int 0]))] s.heap.size = A at hD ⊢
  have hA : ∀ q : Nat, s.heap.size ≤ q → A q := fun q h => by rw [← hAe]; exact Or.inr h
  have hS : va_S A s.heap s.heap [] := va_S.rf
  have hP : va_P (dC, dI) vwCl [(h0, .inr (5, [.ref g_row, .int 0, .int 2, .int 0, .ref g_many, .ref g_loss, .ref g_less, .ref g_voteValue, .ref g_voteNumber, .ref g_allValue, .ref g_allNumber, .int 0, .ref g_nodeL, .ref g_nodeR, .int 0, .ref g_part, .int 0, .ref g_wasMany, .ref g_wasLoss, .ref g_wasValue, .ref g_wasNumber, .ref g_path, .int 0, .ref g_heavyValue, .ref g_heavyTimes, .int 0, .ref g_fewest, .ref g_which, .ref g_met, .int 0]))] s.heap := hP
  have hl := lv_entry ([.ref h0, .int p0, .int p1]) (n := 5) (Nat.le_of_ble_eq_true rfl)
  rw [lg_entry_eq]
  generalize (lg_sl ([.ref h0, .int p0, .int p1]) ++ List.replicate (5 - (lg_sl ([.ref h0, .int p0, .int p1])).length) Slot.unset).toArray = ls at hl ⊢
  have hl : lv_has ls 5 [(0, .ref h0), (1, .int p0), (2, .int p1)] := hl
  have hf_77 := hts (.fieldLink RX5 77 "MajorityIndexModel" "thrown" "I") (by decide +kernel)
  have hi_5 : ∀ w ∈ u_ws RX5 TX5 30, w ∈ wsX5_surely := by decide +kernel
  have hk_148 := hts (.constant RX5 148 (-40000)) (by decide +kernel)
  refine lv_aload_n hx hb dX5_surely_0 rfl (lv_at hl 0 rfl) ?_
  refine lv_iconst (v := 0) hx hb dX5_surely_1 (by decide) ?_
  refine va_put (D := (dC, dI)) (ci := 5) (v := .int 0) (ty := .int) (C := RX5) (T := TX5) (N := 30) hx hb hts hi_5 tyX5 tyX5_ok nmX5 hown hK hP hD hS 0 rfl rfl 3 (by decide) hf_77 (fun _ h9 => h9) rfl (by decide +kernel) rfl rfl (Nat.le_of_ble_eq_true rfl) dX5_surely_2 (fun H locs hP hD hS => ?_)
  have hP : va_P (dC, dI) vwCl [(h0, .inr (5, [.ref g_row, .int 0, .int 2, .int 0, .ref g_many, .ref g_loss, .ref g_less, .ref g_voteValue, .ref g_voteNumber, .ref g_allValue, .ref g_allNumber, .int 0, .ref g_nodeL, .ref g_nodeR, .int 0, .ref g_part, .int 0, .ref g_wasMany, .ref g_wasLoss, .ref g_wasValue, .ref g_wasNumber, .ref g_path, .int 0, .ref g_heavyValue, .ref g_heavyTimes, .int 0, .ref g_fewest, .ref g_which, .ref g_met, .int 0]))] H := hP
  have hD : va_D A [(h0, .inr (5, [.ref g_row, .int 0, .int 2, .int 0, .ref g_many, .ref g_loss, .ref g_less, .ref g_voteValue, .ref g_voteNumber, .ref g_allValue, .ref g_allNumber, .int 0, .ref g_nodeL, .ref g_nodeR, .int 0, .ref g_part, .int 0, .ref g_wasMany, .ref g_wasLoss, .ref g_wasValue, .ref g_wasNumber, .ref g_path, .int 0, .ref g_heavyValue, .ref g_heavyTimes, .int 0, .ref g_fewest, .ref g_which, .ref g_met, .int 0]))] := hD
  refine lv_aload_n hx hb dX5_surely_5 rfl (lv_at hl 0 rfl) ?_
  refine lv_iload_n hx hb dX5_surely_6 rfl (lv_at hl 1 rfl) ?_
  refine lv_iload_n hx hb dX5_surely_7 rfl (lv_at hl 2 rfl) ?_
  have hPc := hP.sub (ws' := [(h0, .inr (5, [.ref g_row, .int 0, .int 2, .int 0, .ref g_many, .ref g_loss, .ref g_less, .ref g_voteValue, .ref g_voteNumber, .ref g_allValue, .ref g_allNumber, .int 0, .ref g_nodeL, .ref g_nodeR, .int 0, .ref g_part, .int 0, .ref g_wasMany, .ref g_wasLoss, .ref g_wasValue, .ref g_wasNumber, .ref g_path, .int 0, .ref g_heavyValue, .ref g_heavyTimes, .int 0, .ref g_fewest, .ref g_which, .ref g_met, .int 0]))]) [0] rfl
  have hKc := hK.sub (tys' := []) [] rfl
  refine vp_callSi (W.runV (As := [.int p0, .int p1]) (rest := []) ⟨hx, hb, hml, hown, hts⟩ (c_X5_isRange l dC dI h0 g_row g_many g_loss g_less g_voteValue g_voteNumber g_allValue g_allNumber g_nodeL g_nodeR g_part g_wasMany g_wasLoss g_wasValue g_wasNumber g_path g_heavyValue g_heavyTimes g_fewest g_which g_met 0 p0 p1) (cwV 2 hts gX5_surely_X5_isRange rfl rfl rfl (by decide +kernel) ⟨Nat.le_of_ble_eq_true rfl, Nat.le_of_ble_eq_true rfl⟩) ⟨fun a U g mk q => by obtain ⟨q0, qP, qK⟩ := q; exact ⟨q0, qP, va_K.moved (u := U) (U := U.calling g mk a) (Vm.Alike.refl U.vm) qK⟩, va_recv hKc hPc (ci := 5) (q0 := 0) rfl rfl, fun U hU hW => ⟨rfl, by rw [hU]; exact hPc, va_K.moved hW.alike hKc⟩⟩ rfl rfl hl.1 rfl (lv_room (Nat.le_of_ble_eq_true rfl)) dX5_surely_8 ⟨Nat.le_of_ble_eq_true rfl, Nat.le_of_ble_eq_true rfl⟩) (fun r_1 w_1 => ?_)
  rcases w_1 with ⟨rfl, w_1⟩
  · have w_1 : True := w_1
    refine lv_if_ne (tgt := 17) hx hb dX5_surely_11 (by decide) (fun c_2 => ?_) (fun c_2 => ?_)
    · exact absurd c_2 (by decide)
    · refine lv_ldc (v := (-40000)) hx hb hown hk_148 dX5_surely_14 ?_
      have hP9 := hP.sub (ws' := []) [] rfl
      have hD9 := hD.sub (ws' := []) [] (by decide) rfl
      have hK9 := hK.sub (tys' := []) [] rfl
      exact W.iret (v := (-40000)) hx hb hr (fun t ht hW => ⟨⟨(-40000), (), rfl, rfl, by rw [ht]; exact hP9, va_K.moved hW.alike hK9, hD9⟩, hS.F ht⟩) hS.2.2 dX5_surely_16

set_option maxHeartbeats 4000000 in
set_option maxRecDepth 100000 in
/-- heavy of the reference, fresh -/
theorem c_X5_heavy (l : Launch) (dC : Nat → ClassId) (dI : Nat → Nat → Nat) (h0 : Nat) (g_row : Nat) (g_many : Nat) (g_loss : Nat) (g_less : Nat) (g_voteValue : Nat) (g_voteNumber : Nat) (g_allValue : Nat) (g_allNumber : Nat) (g_nodeL : Nat) (g_nodeR : Nat) (g_part : Nat) (g_wasMany : Nat) (g_wasLoss : Nat) (g_wasValue : Nat) (g_wasNumber : Nat) (g_path : Nat) (g_heavyValue : Nat) (g_heavyTimes : Nat) (g_fewest : Nat) (g_which : Nat) (g_met : Nat) (p0 : Int32) (p1 : Int32) (p2 : Int32) (p3 : Int32) (sz : Nat) : Met l yX5_heavy wsX5_heavy ({ frames := 1, cells := 0, slots := 0, locals := 45 }) (va_Pc [.ref h0, .int p0, .int p1, .int p2, .int p3] (fun U => U.heap.size = sz ∧ va_P (dC, dI) vwCl [(h0, .inr (5, [.ref g_row, .int 0, .int 2, .int 0, .ref g_many, .ref g_loss, .ref g_less, .ref g_voteValue, .ref g_voteNumber, .ref g_allValue, .ref g_allNumber, .int 0, .ref g_nodeL, .ref g_nodeR, .int 0, .ref g_part, .int 0, .ref g_wasMany, .ref g_wasLoss, .ref g_wasValue, .ref g_wasNumber, .ref g_path, .int 0, .ref g_heavyValue, .ref g_heavyTimes, .int 0, .ref g_fewest, .ref g_which, .ref g_met, .int 0]))] U.heap ∧ va_K (dC, dI) vwCl [] U ∧ va_D (fun _ => True) [(h0, .inr (5, [.ref g_row, .int 0, .int 2, .int 0, .ref g_many, .ref g_loss, .ref g_less, .ref g_voteValue, .ref g_voteNumber, .ref g_allValue, .ref g_allNumber, .int 0, .ref g_nodeL, .ref g_nodeR, .int 0, .ref g_part, .int 0, .ref g_wasMany, .ref g_wasLoss, .ref g_wasValue, .ref g_wasNumber, .ref g_path, .int 0, .ref g_heavyValue, .ref g_heavyTimes, .int 0, .ref g_fewest, .ref g_which, .ref g_met, .int 0]))])) (va_Qi (fun (r : Int32) (_ : Unit) => r = (-1)) (fun (_ : Unit) (t : State) => va_P (dC, dI) vwCl [] t.heap ∧ va_K (dC, dI) vwCl [] t ∧ va_D (va_A [(h0, .inr (5, [.ref g_row, .int 0, .int 2, .int 0, .ref g_many, .ref g_loss, .ref g_less, .ref g_voteValue, .ref g_voteNumber, .ref g_allValue, .ref g_allNumber, .int 0, .ref g_nodeL, .ref g_nodeR, .int 0, .ref g_part, .int 0, .ref g_wasMany, .ref g_wasLoss, .ref g_wasValue, .ref g_wasNumber, .ref g_path, .int 0, .ref g_heavyValue, .ref g_heavyTimes, .int 0, .ref g_fewest, .ref g_which, .ref g_met, .int 0]))] sz) []) (va_A [(h0, .inr (5, [.ref g_row, .int 0, .int 2, .int 0, .ref g_many, .ref g_loss, .ref g_less, .ref g_voteValue, .ref g_voteNumber, .ref g_allValue, .ref g_allNumber, .int 0, .ref g_nodeL, .ref g_nodeR, .int 0, .ref g_part, .int 0, .ref g_wasMany, .ref g_wasLoss, .ref g_wasValue, .ref g_wasNumber, .ref g_path, .int 0, .ref g_heavyValue, .ref g_heavyTimes, .int 0, .ref g_fewest, .ref g_which, .ref g_met, .int 0]))] sz)) 0 0 (va_A [(h0, .inr (5, [.ref g_row, .int 0, .int 2, .int 0, .ref g_many, .ref g_loss, .ref g_less, .ref g_voteValue, .ref g_voteNumber, .ref g_allValue, .ref g_allNumber, .int 0, .ref g_nodeL, .ref g_nodeR, .int 0, .ref g_part, .int 0, .ref g_wasMany, .ref g_wasLoss, .ref g_wasValue, .ref g_wasNumber, .ref g_path, .int 0, .ref g_heavyValue, .ref g_heavyTimes, .int 0, .ref g_fewest, .ref g_which, .ref g_met, .int 0]))] sz) := by
  refine Met.ofW (cc := cX5_heavy) (maxL := 5) (ret := (some .int)) (by decide) rfl ?_
  intro p e s m args below meth c s₁ B hml hv
  obtain ⟨rfl, hsz, hP, hK, hD0⟩ := hv
  have hx := B.exec
  have hb := B.bytes
  have hr := B.returns
  have hts := atoms_spec (ws := wsX5_heavy) B.pre
  have hown : s.vm.findClass RX5 = some m.cls := findClass_of_methodNamed B.named
  have hlocks := B.notSynchronized
  subst hsz
  have hD := hD0.self (sz := s.heap.size)
  generalize hAe : va_A [(h0, .inr (5, [.ref g_row, .int 0, .int 2, .int 0, .ref g_many, .ref g_loss, .ref g_less, .ref g_voteValue, .ref g_voteNumber, .ref g_allValue, .ref g_allNumber, .int 0, .ref g_nodeL, .ref g_nodeR, .int 0, .ref g_part, .int 0, .ref g_wasMany, .ref g_wasLoss, .ref g_wasValue, .ref g_wasNumber, .ref g_path, .int 0, .ref g_heavyValue, .ref g_heavyTimes, .int 0, .ref g_fewest, .ref g_which, .ref g_met, .int 0]))] s.heap.size = A at hD ⊢
  have hA : ∀ q : Nat, s.heap.size ≤ q → A q := fun q h => by rw [← hAe]; exact Or.inr h
  have hS : va_S A s.heap s.heap [] := va_S.rf
  have hP : va_P (dC, dI) vwCl [(h0, .inr (5, [.ref g_row, .int 0, .int 2, .int 0, .ref g_many, .ref g_loss, .ref g_less, .ref g_voteValue, .ref g_voteNumber, .ref g_allValue, .ref g_allNumber, .int 0, .ref g_nodeL, .ref g_nodeR, .int 0, .ref g_part, .int 0, .ref g_wasMany, .ref g_wasLoss, .ref g_wasValue, .ref g_wasNumber, .ref g_path, .int 0, .ref g_heavyValue, .ref g_heavyTimes, .int 0, .ref g_fewest, .ref g_which, .ref g_met, .int 0]))] s.heap := hP
  have hl := lv_entry ([.ref h0, .int p0, .int p1, .int p2, .int p3]) (n := 5) (Nat.le_of_ble_eq_true rfl)
  rw [lg_entry_eq]
  generalize (lg_sl ([.ref h0, .int p0, .int p1, .int p2, .int p3]) ++ List.replicate (5 - (lg_sl ([.ref h0, .int p0, .int p1, .int p2, .int p3])).length) Slot.unset).toArray = ls at hl ⊢
  have hl : lv_has ls 5 [(0, .ref h0), (1, .int p0), (2, .int p1), (3, .int p2), (4, .int p3)] := hl
  have hf_77 := hts (.fieldLink RX5 77 "MajorityIndexModel" "thrown" "I") (by decide +kernel)
  have hi_5 : ∀ w ∈ u_ws RX5 TX5 30, w ∈ wsX5_heavy := by decide +kernel
  refine lv_aload_n hx hb dX5_heavy_0 rfl (lv_at hl 0 rfl) ?_
  refine lv_iconst (v := 0) hx hb dX5_heavy_1 (by decide) ?_
  refine va_put (D := (dC, dI)) (ci := 5) (v := .int 0) (ty := .int) (C := RX5) (T := TX5) (N := 30) hx hb hts hi_5 tyX5 tyX5_ok nmX5 hown hK hP hD hS 0 rfl rfl 3 (by decide) hf_77 (fun _ h9 => h9) rfl (by decide +kernel) rfl rfl (Nat.le_of_ble_eq_true rfl) dX5_heavy_2 (fun H locs hP hD hS => ?_)
  have hP : va_P (dC, dI) vwCl [(h0, .inr (5, [.ref g_row, .int 0, .int 2, .int 0, .ref g_many, .ref g_loss, .ref g_less, .ref g_voteValue, .ref g_voteNumber, .ref g_allValue, .ref g_allNumber, .int 0, .ref g_nodeL, .ref g_nodeR, .int 0, .ref g_part, .int 0, .ref g_wasMany, .ref g_wasLoss, .ref g_wasValue, .ref g_wasNumber, .ref g_path, .int 0, .ref g_heavyValue, .ref g_heavyTimes, .int 0, .ref g_fewest, .ref g_which, .ref g_met, .int 0]))] H := hP
  have hD : va_D A [(h0, .inr (5, [.ref g_row, .int 0, .int 2, .int 0, .ref g_many, .ref g_loss, .ref g_less, .ref g_voteValue, .ref g_voteNumber, .ref g_allValue, .ref g_allNumber, .int 0, .ref g_nodeL, .ref g_nodeR, .int 0, .ref g_part, .int 0, .ref g_wasMany, .ref g_wasLoss, .ref g_wasValue, .ref g_wasNumber, .ref g_path, .int 0, .ref g_heavyValue, .ref g_heavyTimes, .int 0, .ref g_fewest, .ref g_which, .ref g_met, .int 0]))] := hD
  refine lv_aload_n hx hb dX5_heavy_5 rfl (lv_at hl 0 rfl) ?_
  refine lv_iload_n hx hb dX5_heavy_6 rfl (lv_at hl 1 rfl) ?_
  refine lv_iload_n hx hb dX5_heavy_7 rfl (lv_at hl 2 rfl) ?_
  have hPc := hP.sub (ws' := [(h0, .inr (5, [.ref g_row, .int 0, .int 2, .int 0, .ref g_many, .ref g_loss, .ref g_less, .ref g_voteValue, .ref g_voteNumber, .ref g_allValue, .ref g_allNumber, .int 0, .ref g_nodeL, .ref g_nodeR, .int 0, .ref g_part, .int 0, .ref g_wasMany, .ref g_wasLoss, .ref g_wasValue, .ref g_wasNumber, .ref g_path, .int 0, .ref g_heavyValue, .ref g_heavyTimes, .int 0, .ref g_fewest, .ref g_which, .ref g_met, .int 0]))]) [0] rfl
  have hKc := hK.sub (tys' := []) [] rfl
  refine vp_callSi (W.runV (As := [.int p0, .int p1]) (rest := []) ⟨hx, hb, hml, hown, hts⟩ (c_X5_isRange l dC dI h0 g_row g_many g_loss g_less g_voteValue g_voteNumber g_allValue g_allNumber g_nodeL g_nodeR g_part g_wasMany g_wasLoss g_wasValue g_wasNumber g_path g_heavyValue g_heavyTimes g_fewest g_which g_met 0 p0 p1) (cwV 2 hts gX5_heavy_X5_isRange rfl rfl rfl (by decide +kernel) ⟨Nat.le_of_ble_eq_true rfl, Nat.le_of_ble_eq_true rfl⟩) ⟨fun a U g mk q => by obtain ⟨q0, qP, qK⟩ := q; exact ⟨q0, qP, va_K.moved (u := U) (U := U.calling g mk a) (Vm.Alike.refl U.vm) qK⟩, va_recv hKc hPc (ci := 5) (q0 := 0) rfl rfl, fun U hU hW => ⟨rfl, by rw [hU]; exact hPc, va_K.moved hW.alike hKc⟩⟩ rfl rfl hl.1 rfl (lv_room (Nat.le_of_ble_eq_true rfl)) dX5_heavy_8 ⟨Nat.le_of_ble_eq_true rfl, Nat.le_of_ble_eq_true rfl⟩) (fun r_1 w_1 => ?_)
  rcases w_1 with ⟨rfl, w_1⟩
  · have w_1 : True := w_1
    refine lv_if_eq (tgt := 23) hx hb dX5_heavy_11 (by decide) (fun c_2 => ?_) (fun c_2 => ?_)
    · refine lv_iconst (v := (-1)) hx hb dX5_heavy_23 (by decide) ?_
      have hP9 := hP.sub (ws' := []) [] rfl
      have hD9 := hD.sub (ws' := []) [] (by decide) rfl
      have hK9 := hK.sub (tys' := []) [] rfl
      exact W.iret (v := (-1)) hx hb hr (fun t ht hW => ⟨⟨(-1), (), rfl, rfl, by rw [ht]; exact hP9, va_K.moved hW.alike hK9, hD9⟩, hS.F ht⟩) hS.2.2 dX5_heavy_24
    · exact absurd c_2 (by decide)

set_option maxHeartbeats 4000000 in
set_option maxRecDepth 100000 in
/-- failed of the reference, fresh -/
theorem c_X5_failed (l : Launch) (dC : Nat → ClassId) (dI : Nat → Nat → Nat) (h0 : Nat) (g_row : Nat) (g_many : Nat) (g_loss : Nat) (g_less : Nat) (g_voteValue : Nat) (g_voteNumber : Nat) (g_allValue : Nat) (g_allNumber : Nat) (g_nodeL : Nat) (g_nodeR : Nat) (g_part : Nat) (g_wasMany : Nat) (g_wasLoss : Nat) (g_wasValue : Nat) (g_wasNumber : Nat) (g_path : Nat) (g_heavyValue : Nat) (g_heavyTimes : Nat) (g_fewest : Nat) (g_which : Nat) (g_met : Nat) (p0 : Int32) (p1 : Int32) (p2 : Int32) (p3 : Int32) (sz : Nat) : Met l yX5_failed wsX5_failed ({ frames := 1, cells := 0, slots := 0, locals := 45 }) (va_Pc [.ref h0, .int p0, .int p1, .int p2, .int p3] (fun U => U.heap.size = sz ∧ va_P (dC, dI) vwCl [(h0, .inr (5, [.ref g_row, .int 0, .int 2, .int 0, .ref g_many, .ref g_loss, .ref g_less, .ref g_voteValue, .ref g_voteNumber, .ref g_allValue, .ref g_allNumber, .int 0, .ref g_nodeL, .ref g_nodeR, .int 0, .ref g_part, .int 0, .ref g_wasMany, .ref g_wasLoss, .ref g_wasValue, .ref g_wasNumber, .ref g_path, .int 0, .ref g_heavyValue, .ref g_heavyTimes, .int 0, .ref g_fewest, .ref g_which, .ref g_met, .int 0]))] U.heap ∧ va_K (dC, dI) vwCl [] U ∧ va_D (fun _ => True) [(h0, .inr (5, [.ref g_row, .int 0, .int 2, .int 0, .ref g_many, .ref g_loss, .ref g_less, .ref g_voteValue, .ref g_voteNumber, .ref g_allValue, .ref g_allNumber, .int 0, .ref g_nodeL, .ref g_nodeR, .int 0, .ref g_part, .int 0, .ref g_wasMany, .ref g_wasLoss, .ref g_wasValue, .ref g_wasNumber, .ref g_path, .int 0, .ref g_heavyValue, .ref g_heavyTimes, .int 0, .ref g_fewest, .ref g_which, .ref g_met, .int 0]))])) (va_Qi (fun (r : Int32) (_ : Unit) => r = (-1)) (fun (_ : Unit) (t : State) => va_P (dC, dI) vwCl [] t.heap ∧ va_K (dC, dI) vwCl [] t ∧ va_D (va_A [(h0, .inr (5, [.ref g_row, .int 0, .int 2, .int 0, .ref g_many, .ref g_loss, .ref g_less, .ref g_voteValue, .ref g_voteNumber, .ref g_allValue, .ref g_allNumber, .int 0, .ref g_nodeL, .ref g_nodeR, .int 0, .ref g_part, .int 0, .ref g_wasMany, .ref g_wasLoss, .ref g_wasValue, .ref g_wasNumber, .ref g_path, .int 0, .ref g_heavyValue, .ref g_heavyTimes, .int 0, .ref g_fewest, .ref g_which, .ref g_met, .int 0]))] sz) []) (va_A [(h0, .inr (5, [.ref g_row, .int 0, .int 2, .int 0, .ref g_many, .ref g_loss, .ref g_less, .ref g_voteValue, .ref g_voteNumber, .ref g_allValue, .ref g_allNumber, .int 0, .ref g_nodeL, .ref g_nodeR, .int 0, .ref g_part, .int 0, .ref g_wasMany, .ref g_wasLoss, .ref g_wasValue, .ref g_wasNumber, .ref g_path, .int 0, .ref g_heavyValue, .ref g_heavyTimes, .int 0, .ref g_fewest, .ref g_which, .ref g_met, .int 0]))] sz)) 0 0 (va_A [(h0, .inr (5, [.ref g_row, .int 0, .int 2, .int 0, .ref g_many, .ref g_loss, .ref g_less, .ref g_voteValue, .ref g_voteNumber, .ref g_allValue, .ref g_allNumber, .int 0, .ref g_nodeL, .ref g_nodeR, .int 0, .ref g_part, .int 0, .ref g_wasMany, .ref g_wasLoss, .ref g_wasValue, .ref g_wasNumber, .ref g_path, .int 0, .ref g_heavyValue, .ref g_heavyTimes, .int 0, .ref g_fewest, .ref g_which, .ref g_met, .int 0]))] sz) := by
  refine Met.ofW (cc := cX5_failed) (maxL := 7) (ret := (some .int)) (by decide) rfl ?_
  intro p e s m args below meth c s₁ B hml hv
  obtain ⟨rfl, hsz, hP, hK, hD0⟩ := hv
  have hx := B.exec
  have hb := B.bytes
  have hr := B.returns
  have hts := atoms_spec (ws := wsX5_failed) B.pre
  have hown : s.vm.findClass RX5 = some m.cls := findClass_of_methodNamed B.named
  have hlocks := B.notSynchronized
  subst hsz
  have hD := hD0.self (sz := s.heap.size)
  generalize hAe : va_A [(h0, .inr (5, [.ref g_row, .int 0, .int 2, .int 0, .ref g_many, .ref g_loss, .ref g_less, .ref g_voteValue, .ref g_voteNumber, .ref g_allValue, .ref g_allNumber, .int 0, .ref g_nodeL, .ref g_nodeR, .int 0, .ref g_part, .int 0, .ref g_wasMany, .ref g_wasLoss, .ref g_wasValue, .ref g_wasNumber, .ref g_path, .int 0, .ref g_heavyValue, .ref g_heavyTimes, .int 0, .ref g_fewest, .ref g_which, .ref g_met, .int 0]))] s.heap.size = A at hD ⊢
  have hA : ∀ q : Nat, s.heap.size ≤ q → A q := fun q h => by rw [← hAe]; exact Or.inr h
  have hS : va_S A s.heap s.heap [] := va_S.rf
  have hP : va_P (dC, dI) vwCl [(h0, .inr (5, [.ref g_row, .int 0, .int 2, .int 0, .ref g_many, .ref g_loss, .ref g_less, .ref g_voteValue, .ref g_voteNumber, .ref g_allValue, .ref g_allNumber, .int 0, .ref g_nodeL, .ref g_nodeR, .int 0, .ref g_part, .int 0, .ref g_wasMany, .ref g_wasLoss, .ref g_wasValue, .ref g_wasNumber, .ref g_path, .int 0, .ref g_heavyValue, .ref g_heavyTimes, .int 0, .ref g_fewest, .ref g_which, .ref g_met, .int 0]))] s.heap := hP
  have hl := lv_entry ([.ref h0, .int p0, .int p1, .int p2, .int p3]) (n := 7) (Nat.le_of_ble_eq_true rfl)
  rw [lg_entry_eq]
  generalize (lg_sl ([.ref h0, .int p0, .int p1, .int p2, .int p3]) ++ List.replicate (7 - (lg_sl ([.ref h0, .int p0, .int p1, .int p2, .int p3])).length) Slot.unset).toArray = ls at hl ⊢
  have hl : lv_has ls 7 [(0, .ref h0), (1, .int p0), (2, .int p1), (3, .int p2), (4, .int p3)] := hl
  have hf_77 := hts (.fieldLink RX5 77 "MajorityIndexModel" "thrown" "I") (by decide +kernel)
  have hi_5 : ∀ w ∈ u_ws RX5 TX5 30, w ∈ wsX5_failed := by decide +kernel
  refine lv_aload_n hx hb dX5_failed_0 rfl (lv_at hl 0 rfl) ?_
  refine lv_iconst (v := 0) hx hb dX5_failed_1 (by decide) ?_
  refine va_put (D := (dC, dI)) (ci := 5) (v := .int 0) (ty := .int) (C := RX5) (T := TX5) (N := 30) hx hb hts hi_5 tyX5 tyX5_ok nmX5 hown hK hP hD hS 0 rfl rfl 3 (by decide) hf_77 (fun _ h9 => h9) rfl (by decide +kernel) rfl rfl (Nat.le_of_ble_eq_true rfl) dX5_failed_2 (fun H locs hP hD hS => ?_)
  have hP : va_P (dC, dI) vwCl [(h0, .inr (5, [.ref g_row, .int 0, .int 2, .int 0, .ref g_many, .ref g_loss, .ref g_less, .ref g_voteValue, .ref g_voteNumber, .ref g_allValue, .ref g_allNumber, .int 0, .ref g_nodeL, .ref g_nodeR, .int 0, .ref g_part, .int 0, .ref g_wasMany, .ref g_wasLoss, .ref g_wasValue, .ref g_wasNumber, .ref g_path, .int 0, .ref g_heavyValue, .ref g_heavyTimes, .int 0, .ref g_fewest, .ref g_which, .ref g_met, .int 0]))] H := hP
  have hD : va_D A [(h0, .inr (5, [.ref g_row, .int 0, .int 2, .int 0, .ref g_many, .ref g_loss, .ref g_less, .ref g_voteValue, .ref g_voteNumber, .ref g_allValue, .ref g_allNumber, .int 0, .ref g_nodeL, .ref g_nodeR, .int 0, .ref g_part, .int 0, .ref g_wasMany, .ref g_wasLoss, .ref g_wasValue, .ref g_wasNumber, .ref g_path, .int 0, .ref g_heavyValue, .ref g_heavyTimes, .int 0, .ref g_fewest, .ref g_which, .ref g_met, .int 0]))] := hD
  refine lv_aload_n hx hb dX5_failed_5 rfl (lv_at hl 0 rfl) ?_
  refine lv_iload_n hx hb dX5_failed_6 rfl (lv_at hl 1 rfl) ?_
  refine lv_iload_n hx hb dX5_failed_7 rfl (lv_at hl 2 rfl) ?_
  have hPc := hP.sub (ws' := [(h0, .inr (5, [.ref g_row, .int 0, .int 2, .int 0, .ref g_many, .ref g_loss, .ref g_less, .ref g_voteValue, .ref g_voteNumber, .ref g_allValue, .ref g_allNumber, .int 0, .ref g_nodeL, .ref g_nodeR, .int 0, .ref g_part, .int 0, .ref g_wasMany, .ref g_wasLoss, .ref g_wasValue, .ref g_wasNumber, .ref g_path, .int 0, .ref g_heavyValue, .ref g_heavyTimes, .int 0, .ref g_fewest, .ref g_which, .ref g_met, .int 0]))]) [0] rfl
  have hKc := hK.sub (tys' := []) [] rfl
  refine vp_callSi (W.runV (As := [.int p0, .int p1]) (rest := []) ⟨hx, hb, hml, hown, hts⟩ (c_X5_isRange l dC dI h0 g_row g_many g_loss g_less g_voteValue g_voteNumber g_allValue g_allNumber g_nodeL g_nodeR g_part g_wasMany g_wasLoss g_wasValue g_wasNumber g_path g_heavyValue g_heavyTimes g_fewest g_which g_met 0 p0 p1) (cwV 2 hts gX5_failed_X5_isRange rfl rfl rfl (by decide +kernel) ⟨Nat.le_of_ble_eq_true rfl, Nat.le_of_ble_eq_true rfl⟩) ⟨fun a U g mk q => by obtain ⟨q0, qP, qK⟩ := q; exact ⟨q0, qP, va_K.moved (u := U) (U := U.calling g mk a) (Vm.Alike.refl U.vm) qK⟩, va_recv hKc hPc (ci := 5) (q0 := 0) rfl rfl, fun U hU hW => ⟨rfl, by rw [hU]; exact hPc, va_K.moved hW.alike hKc⟩⟩ rfl rfl hl.1 rfl (lv_room (Nat.le_of_ble_eq_true rfl)) dX5_failed_8 ⟨Nat.le_of_ble_eq_true rfl, Nat.le_of_ble_eq_true rfl⟩) (fun r_1 w_1 => ?_)
  rcases w_1 with ⟨rfl, w_1⟩
  · have w_1 : True := w_1
    refine lv_if_eq (tgt := 23) hx hb dX5_failed_11 (by decide) (fun c_2 => ?_) (fun c_2 => ?_)
    · refine lv_iconst (v := (-1)) hx hb dX5_failed_23 (by decide) ?_
      have hP9 := hP.sub (ws' := []) [] rfl
      have hD9 := hD.sub (ws' := []) [] (by decide) rfl
      have hK9 := hK.sub (tys' := []) [] rfl
      exact W.iret (v := (-1)) hx hb hr (fun t ht hW => ⟨⟨(-1), (), rfl, rfl, by rw [ht]; exact hP9, va_K.moved hW.alike hK9, hD9⟩, hS.F ht⟩) hS.2.2 dX5_failed_24
    · exact absurd c_2 (by decide)

set_option maxHeartbeats 4000000 in
set_option maxRecDepth 100000 in
/-- least of the reference, fresh -/
theorem c_X5_least (l : Launch) (dC : Nat → ClassId) (dI : Nat → Nat → Nat) (h0 : Nat) (g_row : Nat) (g_many : Nat) (g_loss : Nat) (g_less : Nat) (g_voteValue : Nat) (g_voteNumber : Nat) (g_allValue : Nat) (g_allNumber : Nat) (g_nodeL : Nat) (g_nodeR : Nat) (g_part : Nat) (g_wasMany : Nat) (g_wasLoss : Nat) (g_wasValue : Nat) (g_wasNumber : Nat) (g_path : Nat) (g_heavyValue : Nat) (g_heavyTimes : Nat) (g_fewest : Nat) (g_which : Nat) (g_met : Nat) (p0 : Int32) (p1 : Int32) (p2 : Int32) (p3 : Int32) (sz : Nat) : Met l yX5_least wsX5_least ({ frames := 1, cells := 0, slots := 0, locals := 45 }) (va_Pc [.ref h0, .int p0, .int p1, .int p2, .int p3] (fun U => U.heap.size = sz ∧ va_P (dC, dI) vwCl [(h0, .inr (5, [.ref g_row, .int 0, .int 2, .int 0, .ref g_many, .ref g_loss, .ref g_less, .ref g_voteValue, .ref g_voteNumber, .ref g_allValue, .ref g_allNumber, .int 0, .ref g_nodeL, .ref g_nodeR, .int 0, .ref g_part, .int 0, .ref g_wasMany, .ref g_wasLoss, .ref g_wasValue, .ref g_wasNumber, .ref g_path, .int 0, .ref g_heavyValue, .ref g_heavyTimes, .int 0, .ref g_fewest, .ref g_which, .ref g_met, .int 0]))] U.heap ∧ va_K (dC, dI) vwCl [] U ∧ va_D (fun _ => True) [(h0, .inr (5, [.ref g_row, .int 0, .int 2, .int 0, .ref g_many, .ref g_loss, .ref g_less, .ref g_voteValue, .ref g_voteNumber, .ref g_allValue, .ref g_allNumber, .int 0, .ref g_nodeL, .ref g_nodeR, .int 0, .ref g_part, .int 0, .ref g_wasMany, .ref g_wasLoss, .ref g_wasValue, .ref g_wasNumber, .ref g_path, .int 0, .ref g_heavyValue, .ref g_heavyTimes, .int 0, .ref g_fewest, .ref g_which, .ref g_met, .int 0]))])) (va_Qi (fun (r : Int32) (_ : Unit) => r = (-1)) (fun (_ : Unit) (t : State) => va_P (dC, dI) vwCl [] t.heap ∧ va_K (dC, dI) vwCl [] t ∧ va_D (va_A [(h0, .inr (5, [.ref g_row, .int 0, .int 2, .int 0, .ref g_many, .ref g_loss, .ref g_less, .ref g_voteValue, .ref g_voteNumber, .ref g_allValue, .ref g_allNumber, .int 0, .ref g_nodeL, .ref g_nodeR, .int 0, .ref g_part, .int 0, .ref g_wasMany, .ref g_wasLoss, .ref g_wasValue, .ref g_wasNumber, .ref g_path, .int 0, .ref g_heavyValue, .ref g_heavyTimes, .int 0, .ref g_fewest, .ref g_which, .ref g_met, .int 0]))] sz) []) (va_A [(h0, .inr (5, [.ref g_row, .int 0, .int 2, .int 0, .ref g_many, .ref g_loss, .ref g_less, .ref g_voteValue, .ref g_voteNumber, .ref g_allValue, .ref g_allNumber, .int 0, .ref g_nodeL, .ref g_nodeR, .int 0, .ref g_part, .int 0, .ref g_wasMany, .ref g_wasLoss, .ref g_wasValue, .ref g_wasNumber, .ref g_path, .int 0, .ref g_heavyValue, .ref g_heavyTimes, .int 0, .ref g_fewest, .ref g_which, .ref g_met, .int 0]))] sz)) 0 0 (va_A [(h0, .inr (5, [.ref g_row, .int 0, .int 2, .int 0, .ref g_many, .ref g_loss, .ref g_less, .ref g_voteValue, .ref g_voteNumber, .ref g_allValue, .ref g_allNumber, .int 0, .ref g_nodeL, .ref g_nodeR, .int 0, .ref g_part, .int 0, .ref g_wasMany, .ref g_wasLoss, .ref g_wasValue, .ref g_wasNumber, .ref g_path, .int 0, .ref g_heavyValue, .ref g_heavyTimes, .int 0, .ref g_fewest, .ref g_which, .ref g_met, .int 0]))] sz) := by
  refine Met.ofW (cc := cX5_least) (maxL := 8) (ret := (some .int)) (by decide) rfl ?_
  intro p e s m args below meth c s₁ B hml hv
  obtain ⟨rfl, hsz, hP, hK, hD0⟩ := hv
  have hx := B.exec
  have hb := B.bytes
  have hr := B.returns
  have hts := atoms_spec (ws := wsX5_least) B.pre
  have hown : s.vm.findClass RX5 = some m.cls := findClass_of_methodNamed B.named
  have hlocks := B.notSynchronized
  subst hsz
  have hD := hD0.self (sz := s.heap.size)
  generalize hAe : va_A [(h0, .inr (5, [.ref g_row, .int 0, .int 2, .int 0, .ref g_many, .ref g_loss, .ref g_less, .ref g_voteValue, .ref g_voteNumber, .ref g_allValue, .ref g_allNumber, .int 0, .ref g_nodeL, .ref g_nodeR, .int 0, .ref g_part, .int 0, .ref g_wasMany, .ref g_wasLoss, .ref g_wasValue, .ref g_wasNumber, .ref g_path, .int 0, .ref g_heavyValue, .ref g_heavyTimes, .int 0, .ref g_fewest, .ref g_which, .ref g_met, .int 0]))] s.heap.size = A at hD ⊢
  have hA : ∀ q : Nat, s.heap.size ≤ q → A q := fun q h => by rw [← hAe]; exact Or.inr h
  have hS : va_S A s.heap s.heap [] := va_S.rf
  have hP : va_P (dC, dI) vwCl [(h0, .inr (5, [.ref g_row, .int 0, .int 2, .int 0, .ref g_many, .ref g_loss, .ref g_less, .ref g_voteValue, .ref g_voteNumber, .ref g_allValue, .ref g_allNumber, .int 0, .ref g_nodeL, .ref g_nodeR, .int 0, .ref g_part, .int 0, .ref g_wasMany, .ref g_wasLoss, .ref g_wasValue, .ref g_wasNumber, .ref g_path, .int 0, .ref g_heavyValue, .ref g_heavyTimes, .int 0, .ref g_fewest, .ref g_which, .ref g_met, .int 0]))] s.heap := hP
  have hl := lv_entry ([.ref h0, .int p0, .int p1, .int p2, .int p3]) (n := 8) (Nat.le_of_ble_eq_true rfl)
  rw [lg_entry_eq]
  generalize (lg_sl ([.ref h0, .int p0, .int p1, .int p2, .int p3]) ++ List.replicate (8 - (lg_sl ([.ref h0, .int p0, .int p1, .int p2, .int p3])).length) Slot.unset).toArray = ls at hl ⊢
  have hl : lv_has ls 8 [(0, .ref h0), (1, .int p0), (2, .int p1), (3, .int p2), (4, .int p3)] := hl
  have hf_77 := hts (.fieldLink RX5 77 "MajorityIndexModel" "thrown" "I") (by decide +kernel)
  have hi_5 : ∀ w ∈ u_ws RX5 TX5 30, w ∈ wsX5_least := by decide +kernel
  refine lv_aload_n hx hb dX5_least_0 rfl (lv_at hl 0 rfl) ?_
  refine lv_iconst (v := 0) hx hb dX5_least_1 (by decide) ?_
  refine va_put (D := (dC, dI)) (ci := 5) (v := .int 0) (ty := .int) (C := RX5) (T := TX5) (N := 30) hx hb hts hi_5 tyX5 tyX5_ok nmX5 hown hK hP hD hS 0 rfl rfl 3 (by decide) hf_77 (fun _ h9 => h9) rfl (by decide +kernel) rfl rfl (Nat.le_of_ble_eq_true rfl) dX5_least_2 (fun H locs hP hD hS => ?_)
  have hP : va_P (dC, dI) vwCl [(h0, .inr (5, [.ref g_row, .int 0, .int 2, .int 0, .ref g_many, .ref g_loss, .ref g_less, .ref g_voteValue, .ref g_voteNumber, .ref g_allValue, .ref g_allNumber, .int 0, .ref g_nodeL, .ref g_nodeR, .int 0, .ref g_part, .int 0, .ref g_wasMany, .ref g_wasLoss, .ref g_wasValue, .ref g_wasNumber, .ref g_path, .int 0, .ref g_heavyValue, .ref g_heavyTimes, .int 0, .ref g_fewest, .ref g_which, .ref g_met, .int 0]))] H := hP
  have hD : va_D A [(h0, .inr (5, [.ref g_row, .int 0, .int 2, .int 0, .ref g_many, .ref g_loss, .ref g_less, .ref g_voteValue, .ref g_voteNumber, .ref g_allValue, .ref g_allNumber, .int 0, .ref g_nodeL, .ref g_nodeR, .int 0, .ref g_part, .int 0, .ref g_wasMany, .ref g_wasLoss, .ref g_wasValue, .ref g_wasNumber, .ref g_path, .int 0, .ref g_heavyValue, .ref g_heavyTimes, .int 0, .ref g_fewest, .ref g_which, .ref g_met, .int 0]))] := hD
  refine lv_aload_n hx hb dX5_least_5 rfl (lv_at hl 0 rfl) ?_
  refine lv_iload_n hx hb dX5_least_6 rfl (lv_at hl 1 rfl) ?_
  refine lv_iload_n hx hb dX5_least_7 rfl (lv_at hl 2 rfl) ?_
  have hPc := hP.sub (ws' := [(h0, .inr (5, [.ref g_row, .int 0, .int 2, .int 0, .ref g_many, .ref g_loss, .ref g_less, .ref g_voteValue, .ref g_voteNumber, .ref g_allValue, .ref g_allNumber, .int 0, .ref g_nodeL, .ref g_nodeR, .int 0, .ref g_part, .int 0, .ref g_wasMany, .ref g_wasLoss, .ref g_wasValue, .ref g_wasNumber, .ref g_path, .int 0, .ref g_heavyValue, .ref g_heavyTimes, .int 0, .ref g_fewest, .ref g_which, .ref g_met, .int 0]))]) [0] rfl
  have hKc := hK.sub (tys' := []) [] rfl
  refine vp_callSi (W.runV (As := [.int p0, .int p1]) (rest := []) ⟨hx, hb, hml, hown, hts⟩ (c_X5_isRange l dC dI h0 g_row g_many g_loss g_less g_voteValue g_voteNumber g_allValue g_allNumber g_nodeL g_nodeR g_part g_wasMany g_wasLoss g_wasValue g_wasNumber g_path g_heavyValue g_heavyTimes g_fewest g_which g_met 0 p0 p1) (cwV 2 hts gX5_least_X5_isRange rfl rfl rfl (by decide +kernel) ⟨Nat.le_of_ble_eq_true rfl, Nat.le_of_ble_eq_true rfl⟩) ⟨fun a U g mk q => by obtain ⟨q0, qP, qK⟩ := q; exact ⟨q0, qP, va_K.moved (u := U) (U := U.calling g mk a) (Vm.Alike.refl U.vm) qK⟩, va_recv hKc hPc (ci := 5) (q0 := 0) rfl rfl, fun U hU hW => ⟨rfl, by rw [hU]; exact hPc, va_K.moved hW.alike hKc⟩⟩ rfl rfl hl.1 rfl (lv_room (Nat.le_of_ble_eq_true rfl)) dX5_least_8 ⟨Nat.le_of_ble_eq_true rfl, Nat.le_of_ble_eq_true rfl⟩) (fun r_1 w_1 => ?_)
  rcases w_1 with ⟨rfl, w_1⟩
  · have w_1 : True := w_1
    refine lv_if_eq (tgt := 31) hx hb dX5_least_11 (by decide) (fun c_2 => ?_) (fun c_2 => ?_)
    · refine lv_iconst (v := (-1)) hx hb dX5_least_31 (by decide) ?_
      have hP9 := hP.sub (ws' := []) [] rfl
      have hD9 := hD.sub (ws' := []) [] (by decide) rfl
      have hK9 := hK.sub (tys' := []) [] rfl
      exact W.iret (v := (-1)) hx hb hr (fun t ht hW => ⟨⟨(-1), (), rfl, rfl, by rw [ht]; exact hP9, va_K.moved hW.alike hK9, hD9⟩, hS.F ht⟩) hS.2.2 dX5_least_32
    · exact absurd c_2 (by decide)

set_option maxHeartbeats 4000000 in
set_option maxRecDepth 100000 in
/-- majority of the reference, fresh -/
theorem c_X5_majority (l : Launch) (dC : Nat → ClassId) (dI : Nat → Nat → Nat) (h0 : Nat) (g_row : Nat) (g_many : Nat) (g_loss : Nat) (g_less : Nat) (g_voteValue : Nat) (g_voteNumber : Nat) (g_allValue : Nat) (g_allNumber : Nat) (g_nodeL : Nat) (g_nodeR : Nat) (g_part : Nat) (g_wasMany : Nat) (g_wasLoss : Nat) (g_wasValue : Nat) (g_wasNumber : Nat) (g_path : Nat) (g_heavyValue : Nat) (g_heavyTimes : Nat) (g_fewest : Nat) (g_which : Nat) (g_met : Nat) (p0 : Int32) (p1 : Int32) (sz : Nat) : Met l yX5_majority wsX5_majority ({ frames := 1, cells := 0, slots := 0, locals := 45 }) (va_Pc [.ref h0, .int p0, .int p1] (fun U => U.heap.size = sz ∧ va_P (dC, dI) vwCl [(h0, .inr (5, [.ref g_row, .int 0, .int 2, .int 0, .ref g_many, .ref g_loss, .ref g_less, .ref g_voteValue, .ref g_voteNumber, .ref g_allValue, .ref g_allNumber, .int 0, .ref g_nodeL, .ref g_nodeR, .int 0, .ref g_part, .int 0, .ref g_wasMany, .ref g_wasLoss, .ref g_wasValue, .ref g_wasNumber, .ref g_path, .int 0, .ref g_heavyValue, .ref g_heavyTimes, .int 0, .ref g_fewest, .ref g_which, .ref g_met, .int 0]))] U.heap ∧ va_K (dC, dI) vwCl [] U ∧ va_D (fun _ => True) [(h0, .inr (5, [.ref g_row, .int 0, .int 2, .int 0, .ref g_many, .ref g_loss, .ref g_less, .ref g_voteValue, .ref g_voteNumber, .ref g_allValue, .ref g_allNumber, .int 0, .ref g_nodeL, .ref g_nodeR, .int 0, .ref g_part, .int 0, .ref g_wasMany, .ref g_wasLoss, .ref g_wasValue, .ref g_wasNumber, .ref g_path, .int 0, .ref g_heavyValue, .ref g_heavyTimes, .int 0, .ref g_fewest, .ref g_which, .ref g_met, .int 0]))])) (va_Qi (fun (r : Int32) (_ : Unit) => r = (-40000)) (fun (_ : Unit) (t : State) => va_P (dC, dI) vwCl [] t.heap ∧ va_K (dC, dI) vwCl [] t ∧ va_D (va_A [(h0, .inr (5, [.ref g_row, .int 0, .int 2, .int 0, .ref g_many, .ref g_loss, .ref g_less, .ref g_voteValue, .ref g_voteNumber, .ref g_allValue, .ref g_allNumber, .int 0, .ref g_nodeL, .ref g_nodeR, .int 0, .ref g_part, .int 0, .ref g_wasMany, .ref g_wasLoss, .ref g_wasValue, .ref g_wasNumber, .ref g_path, .int 0, .ref g_heavyValue, .ref g_heavyTimes, .int 0, .ref g_fewest, .ref g_which, .ref g_met, .int 0]))] sz) []) (va_A [(h0, .inr (5, [.ref g_row, .int 0, .int 2, .int 0, .ref g_many, .ref g_loss, .ref g_less, .ref g_voteValue, .ref g_voteNumber, .ref g_allValue, .ref g_allNumber, .int 0, .ref g_nodeL, .ref g_nodeR, .int 0, .ref g_part, .int 0, .ref g_wasMany, .ref g_wasLoss, .ref g_wasValue, .ref g_wasNumber, .ref g_path, .int 0, .ref g_heavyValue, .ref g_heavyTimes, .int 0, .ref g_fewest, .ref g_which, .ref g_met, .int 0]))] sz)) 0 0 (va_A [(h0, .inr (5, [.ref g_row, .int 0, .int 2, .int 0, .ref g_many, .ref g_loss, .ref g_less, .ref g_voteValue, .ref g_voteNumber, .ref g_allValue, .ref g_allNumber, .int 0, .ref g_nodeL, .ref g_nodeR, .int 0, .ref g_part, .int 0, .ref g_wasMany, .ref g_wasLoss, .ref g_wasValue, .ref g_wasNumber, .ref g_path, .int 0, .ref g_heavyValue, .ref g_heavyTimes, .int 0, .ref g_fewest, .ref g_which, .ref g_met, .int 0]))] sz) := by
  refine Met.ofW (cc := cX5_majority) (maxL := 3) (ret := (some .int)) (by decide) rfl ?_
  intro p e s m args below meth c s₁ B hml hv
  obtain ⟨rfl, hsz, hP, hK, hD0⟩ := hv
  have hx := B.exec
  have hb := B.bytes
  have hr := B.returns
  have hts := atoms_spec (ws := wsX5_majority) B.pre
  have hown : s.vm.findClass RX5 = some m.cls := findClass_of_methodNamed B.named
  have hlocks := B.notSynchronized
  subst hsz
  have hD := hD0.self (sz := s.heap.size)
  generalize hAe : va_A [(h0, .inr (5, [.ref g_row, .int 0, .int 2, .int 0, .ref g_many, .ref g_loss, .ref g_less, .ref g_voteValue, .ref g_voteNumber, .ref g_allValue, .ref g_allNumber, .int 0, .ref g_nodeL, .ref g_nodeR, .int 0, .ref g_part, .int 0, .ref g_wasMany, .ref g_wasLoss, .ref g_wasValue, .ref g_wasNumber, .ref g_path, .int 0, .ref g_heavyValue, .ref g_heavyTimes, .int 0, .ref g_fewest, .ref g_which, .ref g_met, .int 0]))] s.heap.size = A at hD ⊢
  have hA : ∀ q : Nat, s.heap.size ≤ q → A q := fun q h => by rw [← hAe]; exact Or.inr h
  have hS : va_S A s.heap s.heap [] := va_S.rf
  have hP : va_P (dC, dI) vwCl [(h0, .inr (5, [.ref g_row, .int 0, .int 2, .int 0, .ref g_many, .ref g_loss, .ref g_less, .ref g_voteValue, .ref g_voteNumber, .ref g_allValue, .ref g_allNumber, .int 0, .ref g_nodeL, .ref g_nodeR, .int 0, .ref g_part, .int 0, .ref g_wasMany, .ref g_wasLoss, .ref g_wasValue, .ref g_wasNumber, .ref g_path, .int 0, .ref g_heavyValue, .ref g_heavyTimes, .int 0, .ref g_fewest, .ref g_which, .ref g_met, .int 0]))] s.heap := hP
  have hl := lv_entry ([.ref h0, .int p0, .int p1]) (n := 3) (Nat.le_of_ble_eq_true rfl)
  rw [lg_entry_eq]
  generalize (lg_sl ([.ref h0, .int p0, .int p1]) ++ List.replicate (3 - (lg_sl ([.ref h0, .int p0, .int p1])).length) Slot.unset).toArray = ls at hl ⊢
  have hl : lv_has ls 3 [(0, .ref h0), (1, .int p0), (2, .int p1)] := hl
  have hf_77 := hts (.fieldLink RX5 77 "MajorityIndexModel" "thrown" "I") (by decide +kernel)
  have hi_5 : ∀ w ∈ u_ws RX5 TX5 30, w ∈ wsX5_majority := by decide +kernel
  have hk_148 := hts (.constant RX5 148 (-40000)) (by decide +kernel)
  refine lv_aload_n hx hb dX5_majority_0 rfl (lv_at hl 0 rfl) ?_
  refine lv_iconst (v := 0) hx hb dX5_majority_1 (by decide) ?_
  refine va_put (D := (dC, dI)) (ci := 5) (v := .int 0) (ty := .int) (C := RX5) (T := TX5) (N := 30) hx hb hts hi_5 tyX5 tyX5_ok nmX5 hown hK hP hD hS 0 rfl rfl 3 (by decide) hf_77 (fun _ h9 => h9) rfl (by decide +kernel) rfl rfl (Nat.le_of_ble_eq_true rfl) dX5_majority_2 (fun H locs hP hD hS => ?_)
  have hP : va_P (dC, dI) vwCl [(h0, .inr (5, [.ref g_row, .int 0, .int 2, .int 0, .ref g_many, .ref g_loss, .ref g_less, .ref g_voteValue, .ref g_voteNumber, .ref g_allValue, .ref g_allNumber, .int 0, .ref g_nodeL, .ref g_nodeR, .int 0, .ref g_part, .int 0, .ref g_wasMany, .ref g_wasLoss, .ref g_wasValue, .ref g_wasNumber, .ref g_path, .int 0, .ref g_heavyValue, .ref g_heavyTimes, .int 0, .ref g_fewest, .ref g_which, .ref g_met, .int 0]))] H := hP
  have hD : va_D A [(h0, .inr (5, [.ref g_row, .int 0, .int 2, .int 0, .ref g_many, .ref g_loss, .ref g_less, .ref g_voteValue, .ref g_voteNumber, .ref g_allValue, .ref g_allNumber, .int 0, .ref g_nodeL, .ref g_nodeR, .int 0, .ref g_part, .int 0, .ref g_wasMany, .ref g_wasLoss, .ref g_wasValue, .ref g_wasNumber, .ref g_path, .int 0, .ref g_heavyValue, .ref g_heavyTimes, .int 0, .ref g_fewest, .ref g_which, .ref g_met, .int 0]))] := hD
  refine lv_aload_n hx hb dX5_majority_5 rfl (lv_at hl 0 rfl) ?_
  refine lv_iload_n hx hb dX5_majority_6 rfl (lv_at hl 1 rfl) ?_
  refine lv_iload_n hx hb dX5_majority_7 rfl (lv_at hl 2 rfl) ?_
  have hPc := hP.sub (ws' := [(h0, .inr (5, [.ref g_row, .int 0, .int 2, .int 0, .ref g_many, .ref g_loss, .ref g_less, .ref g_voteValue, .ref g_voteNumber, .ref g_allValue, .ref g_allNumber, .int 0, .ref g_nodeL, .ref g_nodeR, .int 0, .ref g_part, .int 0, .ref g_wasMany, .ref g_wasLoss, .ref g_wasValue, .ref g_wasNumber, .ref g_path, .int 0, .ref g_heavyValue, .ref g_heavyTimes, .int 0, .ref g_fewest, .ref g_which, .ref g_met, .int 0]))]) [0] rfl
  have hKc := hK.sub (tys' := []) [] rfl
  refine vp_callSi (W.runV (As := [.int p0, .int p1]) (rest := []) ⟨hx, hb, hml, hown, hts⟩ (c_X5_isRange l dC dI h0 g_row g_many g_loss g_less g_voteValue g_voteNumber g_allValue g_allNumber g_nodeL g_nodeR g_part g_wasMany g_wasLoss g_wasValue g_wasNumber g_path g_heavyValue g_heavyTimes g_fewest g_which g_met 0 p0 p1) (cwV 2 hts gX5_majority_X5_isRange rfl rfl rfl (by decide +kernel) ⟨Nat.le_of_ble_eq_true rfl, Nat.le_of_ble_eq_true rfl⟩) ⟨fun a U g mk q => by obtain ⟨q0, qP, qK⟩ := q; exact ⟨q0, qP, va_K.moved (u := U) (U := U.calling g mk a) (Vm.Alike.refl U.vm) qK⟩, va_recv hKc hPc (ci := 5) (q0 := 0) rfl rfl, fun U hU hW => ⟨rfl, by rw [hU]; exact hPc, va_K.moved hW.alike hKc⟩⟩ rfl rfl hl.1 rfl (lv_room (Nat.le_of_ble_eq_true rfl)) dX5_majority_8 ⟨Nat.le_of_ble_eq_true rfl, Nat.le_of_ble_eq_true rfl⟩) (fun r_1 w_1 => ?_)
  rcases w_1 with ⟨rfl, w_1⟩
  · have w_1 : True := w_1
    refine lv_if_eq (tgt := 23) hx hb dX5_majority_11 (by decide) (fun c_2 => ?_) (fun c_2 => ?_)
    · refine lv_ldc (v := (-40000)) hx hb hown hk_148 dX5_majority_23 ?_
      have hP9 := hP.sub (ws' := []) [] rfl
      have hD9 := hD.sub (ws' := []) [] (by decide) rfl
      have hK9 := hK.sub (tys' := []) [] rfl
      exact W.iret (v := (-40000)) hx hb hr (fun t ht hW => ⟨⟨(-40000), (), rfl, rfl, by rw [ht]; exact hP9, va_K.moved hW.alike hK9, hD9⟩, hS.F ht⟩) hS.2.2 dX5_majority_25
    · exact absurd c_2 (by decide)

set_option maxHeartbeats 4000000 in
set_option maxRecDepth 100000 in
/-- margin of the reference, fresh -/
theorem c_X5_margin (l : Launch) (dC : Nat → ClassId) (dI : Nat → Nat → Nat) (h0 : Nat) (g_row : Nat) (g_many : Nat) (g_loss : Nat) (g_less : Nat) (g_voteValue : Nat) (g_voteNumber : Nat) (g_allValue : Nat) (g_allNumber : Nat) (g_nodeL : Nat) (g_nodeR : Nat) (g_part : Nat) (g_wasMany : Nat) (g_wasLoss : Nat) (g_wasValue : Nat) (g_wasNumber : Nat) (g_path : Nat) (g_heavyValue : Nat) (g_heavyTimes : Nat) (g_fewest : Nat) (g_which : Nat) (g_met : Nat) (p0 : Int32) (p1 : Int32) (p2 : Int32) (sz : Nat) : Met l yX5_margin wsX5_margin ({ frames := 2, cells := 0, slots := 0, locals := 90 }) (va_Pc [.ref h0, .int p0, .int p1, .int p2] (fun U => U.heap.size = sz ∧ va_P (dC, dI) vwCl [(h0, .inr (5, [.ref g_row, .int 0, .int 2, .int 0, .ref g_many, .ref g_loss, .ref g_less, .ref g_voteValue, .ref g_voteNumber, .ref g_allValue, .ref g_allNumber, .int 0, .ref g_nodeL, .ref g_nodeR, .int 0, .ref g_part, .int 0, .ref g_wasMany, .ref g_wasLoss, .ref g_wasValue, .ref g_wasNumber, .ref g_path, .int 0, .ref g_heavyValue, .ref g_heavyTimes, .int 0, .ref g_fewest, .ref g_which, .ref g_met, .int 0]))] U.heap ∧ va_K (dC, dI) vwCl [] U ∧ va_D (fun _ => True) [(h0, .inr (5, [.ref g_row, .int 0, .int 2, .int 0, .ref g_many, .ref g_loss, .ref g_less, .ref g_voteValue, .ref g_voteNumber, .ref g_allValue, .ref g_allNumber, .int 0, .ref g_nodeL, .ref g_nodeR, .int 0, .ref g_part, .int 0, .ref g_wasMany, .ref g_wasLoss, .ref g_wasValue, .ref g_wasNumber, .ref g_path, .int 0, .ref g_heavyValue, .ref g_heavyTimes, .int 0, .ref g_fewest, .ref g_which, .ref g_met, .int 0]))])) (va_Qi (fun (r : Int32) (_ : Unit) => r = (-40000)) (fun (_ : Unit) (t : State) => va_P (dC, dI) vwCl [] t.heap ∧ va_K (dC, dI) vwCl [] t ∧ va_D (va_A [(h0, .inr (5, [.ref g_row, .int 0, .int 2, .int 0, .ref g_many, .ref g_loss, .ref g_less, .ref g_voteValue, .ref g_voteNumber, .ref g_allValue, .ref g_allNumber, .int 0, .ref g_nodeL, .ref g_nodeR, .int 0, .ref g_part, .int 0, .ref g_wasMany, .ref g_wasLoss, .ref g_wasValue, .ref g_wasNumber, .ref g_path, .int 0, .ref g_heavyValue, .ref g_heavyTimes, .int 0, .ref g_fewest, .ref g_which, .ref g_met, .int 0]))] sz) []) (va_A [(h0, .inr (5, [.ref g_row, .int 0, .int 2, .int 0, .ref g_many, .ref g_loss, .ref g_less, .ref g_voteValue, .ref g_voteNumber, .ref g_allValue, .ref g_allNumber, .int 0, .ref g_nodeL, .ref g_nodeR, .int 0, .ref g_part, .int 0, .ref g_wasMany, .ref g_wasLoss, .ref g_wasValue, .ref g_wasNumber, .ref g_path, .int 0, .ref g_heavyValue, .ref g_heavyTimes, .int 0, .ref g_fewest, .ref g_which, .ref g_met, .int 0]))] sz)) 0 0 (va_A [(h0, .inr (5, [.ref g_row, .int 0, .int 2, .int 0, .ref g_many, .ref g_loss, .ref g_less, .ref g_voteValue, .ref g_voteNumber, .ref g_allValue, .ref g_allNumber, .int 0, .ref g_nodeL, .ref g_nodeR, .int 0, .ref g_part, .int 0, .ref g_wasMany, .ref g_wasLoss, .ref g_wasValue, .ref g_wasNumber, .ref g_path, .int 0, .ref g_heavyValue, .ref g_heavyTimes, .int 0, .ref g_fewest, .ref g_which, .ref g_met, .int 0]))] sz) := by
  refine Met.ofW (cc := cX5_margin) (maxL := 4) (ret := (some .int)) (by decide) rfl ?_
  intro p e s m args below meth c s₁ B hml hv
  obtain ⟨rfl, hsz, hP, hK, hD0⟩ := hv
  have hx := B.exec
  have hb := B.bytes
  have hr := B.returns
  have hts := atoms_spec (ws := wsX5_margin) B.pre
  have hown : s.vm.findClass RX5 = some m.cls := findClass_of_methodNamed B.named
  have hlocks := B.notSynchronized
  subst hsz
  have hD := hD0.self (sz := s.heap.size)
  generalize hAe : va_A [(h0, .inr (5, [.ref g_row, .int 0, .int 2, .int 0, .ref g_many, .ref g_loss, .ref g_less, .ref g_voteValue, .ref g_voteNumber, .ref g_allValue, .ref g_allNumber, .int 0, .ref g_nodeL, .ref g_nodeR, .int 0, .ref g_part, .int 0, .ref g_wasMany, .ref g_wasLoss, .ref g_wasValue, .ref g_wasNumber, .ref g_path, .int 0, .ref g_heavyValue, .ref g_heavyTimes, .int 0, .ref g_fewest, .ref g_which, .ref g_met, .int 0]))] s.heap.size = A at hD ⊢
  have hA : ∀ q : Nat, s.heap.size ≤ q → A q := fun q h => by rw [← hAe]; exact Or.inr h
  have hS : va_S A s.heap s.heap [] := va_S.rf
  have hP : va_P (dC, dI) vwCl [(h0, .inr (5, [.ref g_row, .int 0, .int 2, .int 0, .ref g_many, .ref g_loss, .ref g_less, .ref g_voteValue, .ref g_voteNumber, .ref g_allValue, .ref g_allNumber, .int 0, .ref g_nodeL, .ref g_nodeR, .int 0, .ref g_part, .int 0, .ref g_wasMany, .ref g_wasLoss, .ref g_wasValue, .ref g_wasNumber, .ref g_path, .int 0, .ref g_heavyValue, .ref g_heavyTimes, .int 0, .ref g_fewest, .ref g_which, .ref g_met, .int 0]))] s.heap := hP
  have hl := lv_entry ([.ref h0, .int p0, .int p1, .int p2]) (n := 4) (Nat.le_of_ble_eq_true rfl)
  rw [lg_entry_eq]
  generalize (lg_sl ([.ref h0, .int p0, .int p1, .int p2]) ++ List.replicate (4 - (lg_sl ([.ref h0, .int p0, .int p1, .int p2])).length) Slot.unset).toArray = ls at hl ⊢
  have hl : lv_has ls 4 [(0, .ref h0), (1, .int p0), (2, .int p1), (3, .int p2)] := hl
  have hf_77 := hts (.fieldLink RX5 77 "MajorityIndexModel" "thrown" "I") (by decide +kernel)
  have hi_5 : ∀ w ∈ u_ws RX5 TX5 30, w ∈ wsX5_margin := by decide +kernel
  have hk_148 := hts (.constant RX5 148 (-40000)) (by decide +kernel)
  refine lv_aload_n hx hb dX5_margin_0 rfl (lv_at hl 0 rfl) ?_
  refine lv_iconst (v := 0) hx hb dX5_margin_1 (by decide) ?_
  refine va_put (D := (dC, dI)) (ci := 5) (v := .int 0) (ty := .int) (C := RX5) (T := TX5) (N := 30) hx hb hts hi_5 tyX5 tyX5_ok nmX5 hown hK hP hD hS 0 rfl rfl 3 (by decide) hf_77 (fun _ h9 => h9) rfl (by decide +kernel) rfl rfl (Nat.le_of_ble_eq_true rfl) dX5_margin_2 (fun H locs hP hD hS => ?_)
  have hP : va_P (dC, dI) vwCl [(h0, .inr (5, [.ref g_row, .int 0, .int 2, .int 0, .ref g_many, .ref g_loss, .ref g_less, .ref g_voteValue, .ref g_voteNumber, .ref g_allValue, .ref g_allNumber, .int 0, .ref g_nodeL, .ref g_nodeR, .int 0, .ref g_part, .int 0, .ref g_wasMany, .ref g_wasLoss, .ref g_wasValue, .ref g_wasNumber, .ref g_path, .int 0, .ref g_heavyValue, .ref g_heavyTimes, .int 0, .ref g_fewest, .ref g_which, .ref g_met, .int 0]))] H := hP
  have hD : va_D A [(h0, .inr (5, [.ref g_row, .int 0, .int 2, .int 0, .ref g_many, .ref g_loss, .ref g_less, .ref g_voteValue, .ref g_voteNumber, .ref g_allValue, .ref g_allNumber, .int 0, .ref g_nodeL, .ref g_nodeR, .int 0, .ref g_part, .int 0, .ref g_wasMany, .ref g_wasLoss, .ref g_wasValue, .ref g_wasNumber, .ref g_path, .int 0, .ref g_heavyValue, .ref g_heavyTimes, .int 0, .ref g_fewest, .ref g_which, .ref g_met, .int 0]))] := hD
  refine lv_iload_n hx hb dX5_margin_5 rfl (lv_at hl 1 rfl) ?_
  have hPc := hP.sub (ws' := []) [] rfl
  have hKc := hK.sub (tys' := []) [] rfl
  refine vp_callSi (W.runS (As := [.int p0]) (rest := []) ⟨hx, hb, hml, hown, hts⟩ (c_X5_isValue l dC dI p0) (va_cwS 1 hts gX5_margin_X5_isValue rfl rfl rfl (by decide +kernel) ⟨Nat.le_of_ble_eq_true rfl, Nat.le_of_ble_eq_true rfl⟩) ⟨fun a U g mk q => by obtain ⟨q0, qP, qK⟩ := q; exact ⟨q0, qP, va_K.moved (u := U) (U := U.calling g mk a) (Vm.Alike.refl U.vm) qK⟩, fun U hU hW => ⟨rfl, by rw [hU]; exact hPc, va_K.moved hW.alike hKc⟩⟩ rfl rfl hl.1 rfl (lv_room (Nat.le_of_ble_eq_true rfl)) dX5_margin_6 ⟨Nat.le_of_ble_eq_true rfl, Nat.le_of_ble_eq_true rfl⟩) (fun r_1 w_1 => ?_)
  rcases w_1 with ⟨rfl, w_1⟩ | ⟨rfl, w_1⟩
  · have w_1 : (-32768 ≤ p0.toInt ∧ p0.toInt ≤ 32767) := w_1
    refine lv_if_eq (tgt := 37) hx hb dX5_margin_9 (by decide) (fun c_2 => ?_) (fun c_2 => ?_)
    · exact absurd c_2 (by decide)
    · refine lv_aload_n hx hb dX5_margin_12 rfl (lv_at hl 0 rfl) ?_
      refine lv_iload_n hx hb dX5_margin_13 rfl (lv_at hl 2 rfl) ?_
      refine lv_iload_n hx hb dX5_margin_14 rfl (lv_at hl 3 rfl) ?_
      have hPc := hP.sub (ws' := [(h0, .inr (5, [.ref g_row, .int 0, .int 2, .int 0, .ref g_many, .ref g_loss, .ref g_less, .ref g_voteValue, .ref g_voteNumber, .ref g_allValue, .ref g_allNumber, .int 0, .ref g_nodeL, .ref g_nodeR, .int 0, .ref g_part, .int 0, .ref g_wasMany, .ref g_wasLoss, .ref g_wasValue, .ref g_wasNumber, .ref g_path, .int 0, .ref g_heavyValue, .ref g_heavyTimes, .int 0, .ref g_fewest, .ref g_which, .ref g_met, .int 0]))]) [0] rfl
      have hKc := hK.sub (tys' := []) [] rfl
      refine vp_callSi (W.runV (As := [.int p1, .int p2]) (rest := []) ⟨hx, hb, hml, hown, hts⟩ (c_X5_isRange l dC dI h0 g_row g_many g_loss g_less g_voteValue g_voteNumber g_allValue g_allNumber g_nodeL g_nodeR g_part g_wasMany g_wasLoss g_wasValue g_wasNumber g_path g_heavyValue g_heavyTimes g_fewest g_which g_met 0 p1 p2) (cwV 2 hts gX5_margin_X5_isRange rfl rfl rfl (by decide +kernel) ⟨Nat.le_of_ble_eq_true rfl, Nat.le_of_ble_eq_true rfl⟩) ⟨fun a U g mk q => by obtain ⟨q0, qP, qK⟩ := q; exact ⟨q0, qP, va_K.moved (u := U) (U := U.calling g mk a) (Vm.Alike.refl U.vm) qK⟩, va_recv hKc hPc (ci := 5) (q0 := 0) rfl rfl, fun U hU hW => ⟨rfl, by rw [hU]; exact hPc, va_K.moved hW.alike hKc⟩⟩ rfl rfl hl.1 rfl (lv_room (Nat.le_of_ble_eq_true rfl)) dX5_margin_15 ⟨Nat.le_of_ble_eq_true rfl, Nat.le_of_ble_eq_true rfl⟩) (fun r_3 w_3 => ?_)
      rcases w_3 with ⟨rfl, w_3⟩
      · have w_3 : True := w_3
        refine lv_if_eq (tgt := 37) hx hb dX5_margin_18 (by decide) (fun c_4 => ?_) (fun c_4 => ?_)
        · refine lv_ldc (v := (-40000)) hx hb hown hk_148 dX5_margin_37 ?_
          have hP9 := hP.sub (ws' := []) [] rfl
          have hD9 := hD.sub (ws' := []) [] (by decide) rfl
          have hK9 := hK.sub (tys' := []) [] rfl
          exact W.iret (v := (-40000)) hx hb hr (fun t ht hW => ⟨⟨(-40000), (), rfl, rfl, by rw [ht]; exact hP9, va_K.moved hW.alike hK9, hD9⟩, hS.F ht⟩) hS.2.2 dX5_margin_39
        · exact absurd c_4 (by decide)
  · have w_1 : (p0.toInt < -32768 ∨ 32767 < p0.toInt) := w_1
    refine lv_if_eq (tgt := 37) hx hb dX5_margin_9 (by decide) (fun c_5 => ?_) (fun c_5 => ?_)
    · refine lv_ldc (v := (-40000)) hx hb hown hk_148 dX5_margin_37 ?_
      have hP9 := hP.sub (ws' := []) [] rfl
      have hD9 := hD.sub (ws' := []) [] (by decide) rfl
      have hK9 := hK.sub (tys' := []) [] rfl
      exact W.iret (v := (-40000)) hx hb hr (fun t ht hW => ⟨⟨(-40000), (), rfl, rfl, by rw [ht]; exact hP9, va_K.moved hW.alike hK9, hD9⟩, hS.F ht⟩) hS.2.2 dX5_margin_39
    · exact absurd c_5 (by decide)

set_option maxHeartbeats 4000000 in
set_option maxRecDepth 100000 in
/-- both of the reference, fresh -/
theorem c_X5_both (l : Launch) (dC : Nat → ClassId) (dI : Nat → Nat → Nat) (h0 : Nat) (g_row : Nat) (g_many : Nat) (g_loss : Nat) (g_less : Nat) (g_voteValue : Nat) (g_voteNumber : Nat) (g_allValue : Nat) (g_allNumber : Nat) (g_nodeL : Nat) (g_nodeR : Nat) (g_part : Nat) (g_wasMany : Nat) (g_wasLoss : Nat) (g_wasValue : Nat) (g_wasNumber : Nat) (g_path : Nat) (g_heavyValue : Nat) (g_heavyTimes : Nat) (g_fewest : Nat) (g_which : Nat) (g_met : Nat) (p0 : Int32) (p1 : Int32) (p2 : Int32) (p3 : Int32) (p4 : Int32) (p5 : Int32) (sz : Nat) : Met l yX5_both wsX5_both ({ frames := 1, cells := 0, slots := 0, locals := 45 }) (va_Pc [.ref h0, .int p0, .int p1, .int p2, .int p3, .int p4, .int p5] (fun U => U.heap.size = sz ∧ va_P (dC, dI) vwCl [(h0, .inr (5, [.ref g_row, .int 0, .int 2, .int 0, .ref g_many, .ref g_loss, .ref g_less, .ref g_voteValue, .ref g_voteNumber, .ref g_allValue, .ref g_allNumber, .int 0, .ref g_nodeL, .ref g_nodeR, .int 0, .ref g_part, .int 0, .ref g_wasMany, .ref g_wasLoss, .ref g_wasValue, .ref g_wasNumber, .ref g_path, .int 0, .ref g_heavyValue, .ref g_heavyTimes, .int 0, .ref g_fewest, .ref g_which, .ref g_met, .int 0]))] U.heap ∧ va_K (dC, dI) vwCl [] U ∧ va_D (fun _ => True) [(h0, .inr (5, [.ref g_row, .int 0, .int 2, .int 0, .ref g_many, .ref g_loss, .ref g_less, .ref g_voteValue, .ref g_voteNumber, .ref g_allValue, .ref g_allNumber, .int 0, .ref g_nodeL, .ref g_nodeR, .int 0, .ref g_part, .int 0, .ref g_wasMany, .ref g_wasLoss, .ref g_wasValue, .ref g_wasNumber, .ref g_path, .int 0, .ref g_heavyValue, .ref g_heavyTimes, .int 0, .ref g_fewest, .ref g_which, .ref g_met, .int 0]))])) (va_Qi (fun (r : Int32) (_ : Unit) => r = (-1)) (fun (_ : Unit) (t : State) => va_P (dC, dI) vwCl [(h0, .inr (5, [.ref g_row, .int 0, .int 2, .int 0, .ref g_many, .ref g_loss, .ref g_less, .ref g_voteValue, .ref g_voteNumber, .ref g_allValue, .ref g_allNumber, .int 0, .ref g_nodeL, .ref g_nodeR, .int 0, .ref g_part, .int 0, .ref g_wasMany, .ref g_wasLoss, .ref g_wasValue, .ref g_wasNumber, .ref g_path, .int 0, .ref g_heavyValue, .ref g_heavyTimes, .int 0, .ref g_fewest, .ref g_which, .ref g_met, .int 0]))] t.heap ∧ va_K (dC, dI) vwCl [] t ∧ va_D (va_A [(h0, .inr (5, [.ref g_row, .int 0, .int 2, .int 0, .ref g_many, .ref g_loss, .ref g_less, .ref g_voteValue, .ref g_voteNumber, .ref g_allValue, .ref g_allNumber, .int 0, .ref g_nodeL, .ref g_nodeR, .int 0, .ref g_part, .int 0, .ref g_wasMany, .ref g_wasLoss, .ref g_wasValue, .ref g_wasNumber, .ref g_path, .int 0, .ref g_heavyValue, .ref g_heavyTimes, .int 0, .ref g_fewest, .ref g_which, .ref g_met, .int 0]))] sz) [(h0, .inr (5, [.ref g_row, .int 0, .int 2, .int 0, .ref g_many, .ref g_loss, .ref g_less, .ref g_voteValue, .ref g_voteNumber, .ref g_allValue, .ref g_allNumber, .int 0, .ref g_nodeL, .ref g_nodeR, .int 0, .ref g_part, .int 0, .ref g_wasMany, .ref g_wasLoss, .ref g_wasValue, .ref g_wasNumber, .ref g_path, .int 0, .ref g_heavyValue, .ref g_heavyTimes, .int 0, .ref g_fewest, .ref g_which, .ref g_met, .int 0]))]) (va_A [(h0, .inr (5, [.ref g_row, .int 0, .int 2, .int 0, .ref g_many, .ref g_loss, .ref g_less, .ref g_voteValue, .ref g_voteNumber, .ref g_allValue, .ref g_allNumber, .int 0, .ref g_nodeL, .ref g_nodeR, .int 0, .ref g_part, .int 0, .ref g_wasMany, .ref g_wasLoss, .ref g_wasValue, .ref g_wasNumber, .ref g_path, .int 0, .ref g_heavyValue, .ref g_heavyTimes, .int 0, .ref g_fewest, .ref g_which, .ref g_met, .int 0]))] sz)) 0 0 (va_A [(h0, .inr (5, [.ref g_row, .int 0, .int 2, .int 0, .ref g_many, .ref g_loss, .ref g_less, .ref g_voteValue, .ref g_voteNumber, .ref g_allValue, .ref g_allNumber, .int 0, .ref g_nodeL, .ref g_nodeR, .int 0, .ref g_part, .int 0, .ref g_wasMany, .ref g_wasLoss, .ref g_wasValue, .ref g_wasNumber, .ref g_path, .int 0, .ref g_heavyValue, .ref g_heavyTimes, .int 0, .ref g_fewest, .ref g_which, .ref g_met, .int 0]))] sz) := by
  refine Met.ofW (cc := cX5_both) (maxL := 7) (ret := (some .int)) (by decide) rfl ?_
  intro p e s m args below meth c s₁ B hml hv
  obtain ⟨rfl, hsz, hP, hK, hD0⟩ := hv
  have hx := B.exec
  have hb := B.bytes
  have hr := B.returns
  have hts := atoms_spec (ws := wsX5_both) B.pre
  have hown : s.vm.findClass RX5 = some m.cls := findClass_of_methodNamed B.named
  have hlocks := B.notSynchronized
  subst hsz
  have hD := hD0.self (sz := s.heap.size)
  generalize hAe : va_A [(h0, .inr (5, [.ref g_row, .int 0, .int 2, .int 0, .ref g_many, .ref g_loss, .ref g_less, .ref g_voteValue, .ref g_voteNumber, .ref g_allValue, .ref g_allNumber, .int 0, .ref g_nodeL, .ref g_nodeR, .int 0, .ref g_part, .int 0, .ref g_wasMany, .ref g_wasLoss, .ref g_wasValue, .ref g_wasNumber, .ref g_path, .int 0, .ref g_heavyValue, .ref g_heavyTimes, .int 0, .ref g_fewest, .ref g_which, .ref g_met, .int 0]))] s.heap.size = A at hD ⊢
  have hA : ∀ q : Nat, s.heap.size ≤ q → A q := fun q h => by rw [← hAe]; exact Or.inr h
  have hS : va_S A s.heap s.heap [] := va_S.rf
  have hP : va_P (dC, dI) vwCl [(h0, .inr (5, [.ref g_row, .int 0, .int 2, .int 0, .ref g_many, .ref g_loss, .ref g_less, .ref g_voteValue, .ref g_voteNumber, .ref g_allValue, .ref g_allNumber, .int 0, .ref g_nodeL, .ref g_nodeR, .int 0, .ref g_part, .int 0, .ref g_wasMany, .ref g_wasLoss, .ref g_wasValue, .ref g_wasNumber, .ref g_path, .int 0, .ref g_heavyValue, .ref g_heavyTimes, .int 0, .ref g_fewest, .ref g_which, .ref g_met, .int 0]))] s.heap := hP
  have hl := lv_entry ([.ref h0, .int p0, .int p1, .int p2, .int p3, .int p4, .int p5]) (n := 7) (Nat.le_of_ble_eq_true rfl)
  rw [lg_entry_eq]
  generalize (lg_sl ([.ref h0, .int p0, .int p1, .int p2, .int p3, .int p4, .int p5]) ++ List.replicate (7 - (lg_sl ([.ref h0, .int p0, .int p1, .int p2, .int p3, .int p4, .int p5])).length) Slot.unset).toArray = ls at hl ⊢
  have hl : lv_has ls 7 [(0, .ref h0), (1, .int p0), (2, .int p1), (3, .int p2), (4, .int p3), (5, .int p4), (6, .int p5)] := hl
  have hf_77 := hts (.fieldLink RX5 77 "MajorityIndexModel" "thrown" "I") (by decide +kernel)
  have hi_5 : ∀ w ∈ u_ws RX5 TX5 30, w ∈ wsX5_both := by decide +kernel
  refine lv_aload_n hx hb dX5_both_0 rfl (lv_at hl 0 rfl) ?_
  refine lv_iconst (v := 0) hx hb dX5_both_1 (by decide) ?_
  refine va_put (D := (dC, dI)) (ci := 5) (v := .int 0) (ty := .int) (C := RX5) (T := TX5) (N := 30) hx hb hts hi_5 tyX5 tyX5_ok nmX5 hown hK hP hD hS 0 rfl rfl 3 (by decide) hf_77 (fun _ h9 => h9) rfl (by decide +kernel) rfl rfl (Nat.le_of_ble_eq_true rfl) dX5_both_2 (fun H locs hP hD hS => ?_)
  have hP : va_P (dC, dI) vwCl [(h0, .inr (5, [.ref g_row, .int 0, .int 2, .int 0, .ref g_many, .ref g_loss, .ref g_less, .ref g_voteValue, .ref g_voteNumber, .ref g_allValue, .ref g_allNumber, .int 0, .ref g_nodeL, .ref g_nodeR, .int 0, .ref g_part, .int 0, .ref g_wasMany, .ref g_wasLoss, .ref g_wasValue, .ref g_wasNumber, .ref g_path, .int 0, .ref g_heavyValue, .ref g_heavyTimes, .int 0, .ref g_fewest, .ref g_which, .ref g_met, .int 0]))] H := hP
  have hD : va_D A [(h0, .inr (5, [.ref g_row, .int 0, .int 2, .int 0, .ref g_many, .ref g_loss, .ref g_less, .ref g_voteValue, .ref g_voteNumber, .ref g_allValue, .ref g_allNumber, .int 0, .ref g_nodeL, .ref g_nodeR, .int 0, .ref g_part, .int 0, .ref g_wasMany, .ref g_wasLoss, .ref g_wasValue, .ref g_wasNumber, .ref g_path, .int 0, .ref g_heavyValue, .ref g_heavyTimes, .int 0, .ref g_fewest, .ref g_which, .ref g_met, .int 0]))] := hD
  refine lv_aload_n hx hb dX5_both_5 rfl (lv_at hl 0 rfl) ?_
  refine lv_iload_n hx hb dX5_both_6 rfl (lv_at hl 1 rfl) ?_
  refine lv_iload_n hx hb dX5_both_7 rfl (lv_at hl 2 rfl) ?_
  have hPc := hP.sub (ws' := [(h0, .inr (5, [.ref g_row, .int 0, .int 2, .int 0, .ref g_many, .ref g_loss, .ref g_less, .ref g_voteValue, .ref g_voteNumber, .ref g_allValue, .ref g_allNumber, .int 0, .ref g_nodeL, .ref g_nodeR, .int 0, .ref g_part, .int 0, .ref g_wasMany, .ref g_wasLoss, .ref g_wasValue, .ref g_wasNumber, .ref g_path, .int 0, .ref g_heavyValue, .ref g_heavyTimes, .int 0, .ref g_fewest, .ref g_which, .ref g_met, .int 0]))]) [0] rfl
  have hKc := hK.sub (tys' := []) [] rfl
  refine vp_callSi (W.runV (As := [.int p0, .int p1]) (rest := []) ⟨hx, hb, hml, hown, hts⟩ (c_X5_isRange l dC dI h0 g_row g_many g_loss g_less g_voteValue g_voteNumber g_allValue g_allNumber g_nodeL g_nodeR g_part g_wasMany g_wasLoss g_wasValue g_wasNumber g_path g_heavyValue g_heavyTimes g_fewest g_which g_met 0 p0 p1) (cwV 2 hts gX5_both_X5_isRange rfl rfl rfl (by decide +kernel) ⟨Nat.le_of_ble_eq_true rfl, Nat.le_of_ble_eq_true rfl⟩) ⟨fun a U g mk q => by obtain ⟨q0, qP, qK⟩ := q; exact ⟨q0, qP, va_K.moved (u := U) (U := U.calling g mk a) (Vm.Alike.refl U.vm) qK⟩, va_recv hKc hPc (ci := 5) (q0 := 0) rfl rfl, fun U hU hW => ⟨rfl, by rw [hU]; exact hPc, va_K.moved hW.alike hKc⟩⟩ rfl rfl hl.1 rfl (lv_room (Nat.le_of_ble_eq_true rfl)) dX5_both_8 ⟨Nat.le_of_ble_eq_true rfl, Nat.le_of_ble_eq_true rfl⟩) (fun r_1 w_1 => ?_)
  rcases w_1 with ⟨rfl, w_1⟩
  · have w_1 : True := w_1
    refine lv_if_eq (tgt := 34) hx hb dX5_both_11 (by decide) (fun c_2 => ?_) (fun c_2 => ?_)
    · refine lv_iconst (v := (-1)) hx hb dX5_both_34 (by decide) ?_
      have hP9 := hP.sub (ws' := [(h0, .inr (5, [.ref g_row, .int 0, .int 2, .int 0, .ref g_many, .ref g_loss, .ref g_less, .ref g_voteValue, .ref g_voteNumber, .ref g_allValue, .ref g_allNumber, .int 0, .ref g_nodeL, .ref g_nodeR, .int 0, .ref g_part, .int 0, .ref g_wasMany, .ref g_wasLoss, .ref g_wasValue, .ref g_wasNumber, .ref g_path, .int 0, .ref g_heavyValue, .ref g_heavyTimes, .int 0, .ref g_fewest, .ref g_which, .ref g_met, .int 0]))]) [0] rfl
      have hD9 := hD.sub (ws' := [(h0, .inr (5, [.ref g_row, .int 0, .int 2, .int 0, .ref g_many, .ref g_loss, .ref g_less, .ref g_voteValue, .ref g_voteNumber, .ref g_allValue, .ref g_allNumber, .int 0, .ref g_nodeL, .ref g_nodeR, .int 0, .ref g_part, .int 0, .ref g_wasMany, .ref g_wasLoss, .ref g_wasValue, .ref g_wasNumber, .ref g_path, .int 0, .ref g_heavyValue, .ref g_heavyTimes, .int 0, .ref g_fewest, .ref g_which, .ref g_met, .int 0]))]) [0] (by decide) rfl
      have hK9 := hK.sub (tys' := []) [] rfl
      exact W.iret (v := (-1)) hx hb hr (fun t ht hW => ⟨⟨(-1), (), rfl, rfl, by rw [ht]; exact hP9, va_K.moved hW.alike hK9, hD9⟩, hS.F ht⟩) hS.2.2 dX5_both_35
    · exact absurd c_2 (by decide)

set_option maxHeartbeats 4000000 in
set_option maxRecDepth 100000 in
/-- bothAt of the reference, fresh -/
theorem c_X5_bothAt (l : Launch) (dC : Nat → ClassId) (dI : Nat → Nat → Nat) (h0 : Nat) (g_row : Nat) (g_many : Nat) (g_loss : Nat) (g_less : Nat) (g_voteValue : Nat) (g_voteNumber : Nat) (g_allValue : Nat) (g_allNumber : Nat) (g_nodeL : Nat) (g_nodeR : Nat) (g_part : Nat) (g_wasMany : Nat) (g_wasLoss : Nat) (g_wasValue : Nat) (g_wasNumber : Nat) (g_path : Nat) (g_heavyValue : Nat) (g_heavyTimes : Nat) (g_fewest : Nat) (g_which : Nat) (g_met : Nat) (p0 : Int32) (p1 : Int32) (p2 : Int32) (p3 : Int32) (p4 : Int32) (p5 : Int32) (p6 : Int32) (sz : Nat) : Met l yX5_bothAt wsX5_bothAt ({ frames := 2, cells := 0, slots := 0, locals := 90 }) (va_Pc [.ref h0, .int p0, .int p1, .int p2, .int p3, .int p4, .int p5, .int p6] (fun U => U.heap.size = sz ∧ va_P (dC, dI) vwCl [(h0, .inr (5, [.ref g_row, .int 0, .int 2, .int 0, .ref g_many, .ref g_loss, .ref g_less, .ref g_voteValue, .ref g_voteNumber, .ref g_allValue, .ref g_allNumber, .int 0, .ref g_nodeL, .ref g_nodeR, .int 0, .ref g_part, .int 0, .ref g_wasMany, .ref g_wasLoss, .ref g_wasValue, .ref g_wasNumber, .ref g_path, .int 0, .ref g_heavyValue, .ref g_heavyTimes, .int 0, .ref g_fewest, .ref g_which, .ref g_met, .int 0]))] U.heap ∧ va_K (dC, dI) vwCl [] U ∧ va_D (fun _ => True) [(h0, .inr (5, [.ref g_row, .int 0, .int 2, .int 0, .ref g_many, .ref g_loss, .ref g_less, .ref g_voteValue, .ref g_voteNumber, .ref g_allValue, .ref g_allNumber, .int 0, .ref g_nodeL, .ref g_nodeR, .int 0, .ref g_part, .int 0, .ref g_wasMany, .ref g_wasLoss, .ref g_wasValue, .ref g_wasNumber, .ref g_path, .int 0, .ref g_heavyValue, .ref g_heavyTimes, .int 0, .ref g_fewest, .ref g_which, .ref g_met, .int 0]))])) (va_Qi (fun (r : Int32) (_ : Unit) => r = (-40000)) (fun (_ : Unit) (t : State) => va_P (dC, dI) vwCl [] t.heap ∧ va_K (dC, dI) vwCl [] t ∧ va_D (va_A [(h0, .inr (5, [.ref g_row, .int 0, .int 2, .int 0, .ref g_many, .ref g_loss, .ref g_less, .ref g_voteValue, .ref g_voteNumber, .ref g_allValue, .ref g_allNumber, .int 0, .ref g_nodeL, .ref g_nodeR, .int 0, .ref g_part, .int 0, .ref g_wasMany, .ref g_wasLoss, .ref g_wasValue, .ref g_wasNumber, .ref g_path, .int 0, .ref g_heavyValue, .ref g_heavyTimes, .int 0, .ref g_fewest, .ref g_which, .ref g_met, .int 0]))] sz) []) (va_A [(h0, .inr (5, [.ref g_row, .int 0, .int 2, .int 0, .ref g_many, .ref g_loss, .ref g_less, .ref g_voteValue, .ref g_voteNumber, .ref g_allValue, .ref g_allNumber, .int 0, .ref g_nodeL, .ref g_nodeR, .int 0, .ref g_part, .int 0, .ref g_wasMany, .ref g_wasLoss, .ref g_wasValue, .ref g_wasNumber, .ref g_path, .int 0, .ref g_heavyValue, .ref g_heavyTimes, .int 0, .ref g_fewest, .ref g_which, .ref g_met, .int 0]))] sz)) 0 0 (va_A [(h0, .inr (5, [.ref g_row, .int 0, .int 2, .int 0, .ref g_many, .ref g_loss, .ref g_less, .ref g_voteValue, .ref g_voteNumber, .ref g_allValue, .ref g_allNumber, .int 0, .ref g_nodeL, .ref g_nodeR, .int 0, .ref g_part, .int 0, .ref g_wasMany, .ref g_wasLoss, .ref g_wasValue, .ref g_wasNumber, .ref g_path, .int 0, .ref g_heavyValue, .ref g_heavyTimes, .int 0, .ref g_fewest, .ref g_which, .ref g_met, .int 0]))] sz) := by
  refine Met.ofW (cc := cX5_bothAt) (maxL := 9) (ret := (some .int)) (by decide) rfl ?_
  intro p e s m args below meth c s₁ B hml hv
  obtain ⟨rfl, hsz, hP, hK, hD0⟩ := hv
  have hx := B.exec
  have hb := B.bytes
  have hr := B.returns
  have hts := atoms_spec (ws := wsX5_bothAt) B.pre
  have hown : s.vm.findClass RX5 = some m.cls := findClass_of_methodNamed B.named
  have hlocks := B.notSynchronized
  subst hsz
  have hD := hD0.self (sz := s.heap.size)
  generalize hAe : va_A [(h0, .inr (5, [.ref g_row, .int 0, .int 2, .int 0, .ref g_many, .ref g_loss, .ref g_less, .ref g_voteValue, .ref g_voteNumber, .ref g_allValue, .ref g_allNumber, .int 0, .ref g_nodeL, .ref g_nodeR, .int 0, .ref g_part, .int 0, .ref g_wasMany, .ref g_wasLoss, .ref g_wasValue, .ref g_wasNumber, .ref g_path, .int 0, .ref g_heavyValue, .ref g_heavyTimes, .int 0, .ref g_fewest, .ref g_which, .ref g_met, .int 0]))] s.heap.size = A at hD ⊢
  have hA : ∀ q : Nat, s.heap.size ≤ q → A q := fun q h => by rw [← hAe]; exact Or.inr h
  have hS : va_S A s.heap s.heap [] := va_S.rf
  have hP : va_P (dC, dI) vwCl [(h0, .inr (5, [.ref g_row, .int 0, .int 2, .int 0, .ref g_many, .ref g_loss, .ref g_less, .ref g_voteValue, .ref g_voteNumber, .ref g_allValue, .ref g_allNumber, .int 0, .ref g_nodeL, .ref g_nodeR, .int 0, .ref g_part, .int 0, .ref g_wasMany, .ref g_wasLoss, .ref g_wasValue, .ref g_wasNumber, .ref g_path, .int 0, .ref g_heavyValue, .ref g_heavyTimes, .int 0, .ref g_fewest, .ref g_which, .ref g_met, .int 0]))] s.heap := hP
  have hl := lv_entry ([.ref h0, .int p0, .int p1, .int p2, .int p3, .int p4, .int p5, .int p6]) (n := 9) (Nat.le_of_ble_eq_true rfl)
  rw [lg_entry_eq]
  generalize (lg_sl ([.ref h0, .int p0, .int p1, .int p2, .int p3, .int p4, .int p5, .int p6]) ++ List.replicate (9 - (lg_sl ([.ref h0, .int p0, .int p1, .int p2, .int p3, .int p4, .int p5, .int p6])).length) Slot.unset).toArray = ls at hl ⊢
  have hl : lv_has ls 9 [(0, .ref h0), (1, .int p0), (2, .int p1), (3, .int p2), (4, .int p3), (5, .int p4), (6, .int p5), (7, .int p6)] := hl
  have hk_148 := hts (.constant RX5 148 (-40000)) (by decide +kernel)
  refine lv_aload_n hx hb dX5_bothAt_0 rfl (lv_at hl 0 rfl) ?_
  refine lv_iload_n hx hb dX5_bothAt_1 rfl (lv_at hl 1 rfl) ?_
  refine lv_iload_n hx hb dX5_bothAt_2 rfl (lv_at hl 2 rfl) ?_
  refine lv_iload_n hx hb dX5_bothAt_3 rfl (lv_at hl 3 rfl) ?_
  refine lv_iload hx hb dX5_bothAt_4 (lv_at hl 4 rfl) ?_
  refine lv_iload hx hb dX5_bothAt_6 (lv_at hl 5 rfl) ?_
  refine lv_iload hx hb dX5_bothAt_8 (lv_at hl 6 rfl) ?_
  have hPc := hP.sub (ws' := [(h0, .inr (5, [.ref g_row, .int 0, .int 2, .int 0, .ref g_many, .ref g_loss, .ref g_less, .ref g_voteValue, .ref g_voteNumber, .ref g_allValue, .ref g_allNumber, .int 0, .ref g_nodeL, .ref g_nodeR, .int 0, .ref g_part, .int 0, .ref g_wasMany, .ref g_wasLoss, .ref g_wasValue, .ref g_wasNumber, .ref g_path, .int 0, .ref g_heavyValue, .ref g_heavyTimes, .int 0, .ref g_fewest, .ref g_which, .ref g_met, .int 0]))]) [0] rfl
  have hKc := hK.sub (tys' := []) [] rfl
  have hDc := hD.sub (ws' := [(h0, .inr (5, [.ref g_row, .int 0, .int 2, .int 0, .ref g_many, .ref g_loss, .ref g_less, .ref g_voteValue, .ref g_voteNumber, .ref g_allValue, .ref g_allNumber, .int 0, .ref g_nodeL, .ref g_nodeR, .int 0, .ref g_part, .int 0, .ref g_wasMany, .ref g_wasLoss, .ref g_wasValue, .ref g_wasNumber, .ref g_path, .int 0, .ref g_heavyValue, .ref g_heavyTimes, .int 0, .ref g_fewest, .ref g_which, .ref g_met, .int 0]))]) [0] (by decide) rfl
  have hFc := va_free (wc := [(h0, .inr (5, [.ref g_row, .int 0, .int 2, .int 0, .ref g_many, .ref g_loss, .ref g_less, .ref g_voteValue, .ref g_voteNumber, .ref g_allValue, .ref g_allNumber, .int 0, .ref g_nodeL, .ref g_nodeR, .int 0, .ref g_part, .int 0, .ref g_wasMany, .ref g_wasLoss, .ref g_wasValue, .ref g_wasNumber, .ref g_path, .int 0, .ref g_heavyValue, .ref g_heavyTimes, .int 0, .ref g_fewest, .ref g_which, .ref g_met, .int 0]))]) hD hS hA [0] rfl
  refine va_calli (va_runV (As := [.int p0, .int p1, .int p2, .int p3, .int p4, .int p5]) (rest := []) ⟨hx, hb, hml, hown, hts⟩ (c_X5_both l dC dI h0 g_row g_many g_loss g_less g_voteValue g_voteNumber g_allValue g_allNumber g_nodeL g_nodeR g_part g_wasMany g_wasLoss g_wasValue g_wasNumber g_path g_heavyValue g_heavyTimes g_fewest g_which g_met p0 p1 p2 p3 p4 p5 s.heap.size) (cwV 6 hts gX5_bothAt_X5_both rfl rfl rfl (by decide +kernel) ⟨Nat.le_of_ble_eq_true rfl, Nat.le_of_ble_eq_true rfl⟩) ⟨fun a U g mk q => by obtain ⟨q0, q1, qP, qK, qD⟩ := q; exact ⟨q0, q1, qP, va_K.moved (u := U) (U := U.calling g mk a) (Vm.Alike.refl U.vm) qK, qD⟩, va_recv hKc hPc (ci := 5) (q0 := 0) rfl rfl, fun U hU hW => ⟨rfl, by rw [hU], by rw [hU]; exact hPc, va_K.moved hW.alike hKc, hDc.weaken (fun _ _ _ _ => trivial)⟩⟩ rfl rfl hl.1 rfl (lv_room (Nat.le_of_ble_eq_true rfl)) dX5_bothAt_10 ⟨Nat.le_of_ble_eq_true rfl, Nat.le_of_ble_eq_true rfl⟩) hS (fun q _ h => hFc q h) hFc (fun r_1 u t H1 locs ht hvm w_1 hB hz1 hk1 hS => ?_)
  obtain ⟨hP1, hK1, hD1⟩ := hB
  rw [ht] at hP1
  have hK1 := va_K.moved hvm.symm hK1
  obtain ⟨hP, hD⟩ := va_join (wr := []) (w1 := [(h0, .inr (5, [.ref g_row, .int 0, .int 2, .int 0, .ref g_many, .ref g_loss, .ref g_less, .ref g_voteValue, .ref g_voteNumber, .ref g_allValue, .ref g_allNumber, .int 0, .ref g_nodeL, .ref g_nodeR, .int 0, .ref g_part, .int 0, .ref g_wasMany, .ref g_wasLoss, .ref g_wasValue, .ref g_wasNumber, .ref g_path, .int 0, .ref g_heavyValue, .ref g_heavyTimes, .int 0, .ref g_fewest, .ref g_which, .ref g_met, .int 0]))]) hP hD [0] [] rfl rfl (by decide) (by decide) hk1 hFc hP1 hD1
  clear hP1 hD1 hK1 hk1 hz1 hFc hDc hPc hKc
  generalize H1 = H at hP hS ⊢
  have hP : va_P (dC, dI) vwCl [(h0, .inr (5, [.ref g_row, .int 0, .int 2, .int 0, .ref g_many, .ref g_loss, .ref g_less, .ref g_voteValue, .ref g_voteNumber, .ref g_allValue, .ref g_allNumber, .int 0, .ref g_nodeL, .ref g_nodeR, .int 0, .ref g_part, .int 0, .ref g_wasMany, .ref g_wasLoss, .ref g_wasValue, .ref g_wasNumber, .ref g_path, .int 0, .ref g_heavyValue, .ref g_heavyTimes, .int 0, .ref g_fewest, .ref g_which, .ref g_met, .int 0]))] H := hP
  have hD : va_D A [(h0, .inr (5, [.ref g_row, .int 0, .int 2, .int 0, .ref g_many, .ref g_loss, .ref g_less, .ref g_voteValue, .ref g_voteNumber, .ref g_allValue, .ref g_allNumber, .int 0, .ref g_nodeL, .ref g_nodeR, .int 0, .ref g_part, .int 0, .ref g_wasMany, .ref g_wasLoss, .ref g_wasValue, .ref g_wasNumber, .ref g_path, .int 0, .ref g_heavyValue, .ref g_heavyTimes, .int 0, .ref g_fewest, .ref g_which, .ref g_met, .int 0]))] := hD
  subst w_1
  refine lv_istore (lv' := [(8, .int (-1)), (0, .ref h0), (1, .int p0), (2, .int p1), (3, .int p2), (4, .int p3), (5, .int p4), (6, .int p5), (7, .int p6)]) hx hb dX5_bothAt_13 hl (by decide) rfl (fun ls hl => ?_)
  refine lv_iload hx hb dX5_bothAt_15 (lv_at hl 8 rfl) ?_
  refine lv_iconst (v := 0) hx hb dX5_bothAt_17 (by decide) ?_
  refine lv_iload hx hb dX5_bothAt_18 (lv_at hl 0 rfl) ?_
  refine lv_iconst (v := 1) hx hb dX5_bothAt_20 (by decide) ?_
  refine lv_isub hx hb dX5_bothAt_21 ?_
  refine W.eq (g2 := F0 m 22 ls [.int (-2), .int 0, .int p6]) (by first | rfl | (congr 2; decide)) ?_
  have hPc := hP.sub (ws' := []) [] rfl
  have hKc := hK.sub (tys' := []) [] rfl
  refine vp_callSi (W.runS (As := [.int p6, .int 0, .int (-2)]) (rest := []) ⟨hx, hb, hml, hown, hts⟩ (c_X5_within l dC dI p6 0 (-2)) (va_cwS 3 hts gX5_bothAt_X5_within rfl rfl rfl (by decide +kernel) ⟨Nat.le_of_ble_eq_true rfl, Nat.le_of_ble_eq_true rfl⟩) ⟨fun a U g mk q => by obtain ⟨q0, qP, qK⟩ := q; exact ⟨q0, qP, va_K.moved (u := U) (U := U.calling g mk a) (Vm.Alike.refl U.vm) qK⟩, fun U hU hW => ⟨rfl, by rw [hU]; exact hPc, va_K.moved hW.alike hKc⟩⟩ rfl rfl hl.1 rfl (lv_room (Nat.le_of_ble_eq_true rfl)) dX5_bothAt_22 ⟨Nat.le_of_ble_eq_true rfl, Nat.le_of_ble_eq_true rfl⟩) (fun r_2 w_2 => ?_)
  rcases w_2 with ⟨rfl, w_2⟩ | ⟨rfl, w_2⟩
  · have w_2 : (0 ≤ p6.toInt ∧ p6.toInt ≤ (-2)) := w_2
    exfalso; omega
  · have w_2 : (p6.toInt < 0 ∨ (-2) < p6.toInt) := w_2
    refine lv_if_eq (tgt := 38) hx hb dX5_bothAt_25 (by decide) (fun c_3 => ?_) (fun c_3 => ?_)
    · refine lv_ldc (v := (-40000)) hx hb hown hk_148 dX5_bothAt_38 ?_
      have hP9 := hP.sub (ws' := []) [] rfl
      have hD9 := hD.sub (ws' := []) [] (by decide) rfl
      have hK9 := hK.sub (tys' := []) [] rfl
      exact W.iret (v := (-40000)) hx hb hr (fun t ht hW => ⟨⟨(-40000), (), rfl, rfl, by rw [ht]; exact hP9, va_K.moved hW.alike hK9, hD9⟩, hS.F ht⟩) hS.2.2 dX5_bothAt_40
    · exact absurd c_3 (by decide)

set_option maxHeartbeats 4000000 in
set_option maxRecDepth 100000 in
/-- longest of the reference, fresh -/
theorem c_X5_longest (l : Launch) (dC : Nat → ClassId) (dI : Nat → Nat → Nat) (h0 : Nat) (g_row : Nat) (g_many : Nat) (g_loss : Nat) (g_less : Nat) (g_voteValue : Nat) (g_voteNumber : Nat) (g_allValue : Nat) (g_allNumber : Nat) (g_nodeL : Nat) (g_nodeR : Nat) (g_part : Nat) (g_wasMany : Nat) (g_wasLoss : Nat) (g_wasValue : Nat) (g_wasNumber : Nat) (g_path : Nat) (g_heavyValue : Nat) (g_heavyTimes : Nat) (g_fewest : Nat) (g_which : Nat) (g_met : Nat) (p0 : Int32) (p1 : Int32) (p2 : Int32) (p3 : Int32) (sz : Nat) : Met l yX5_longest wsX5_longest ({ frames := 2, cells := 0, slots := 0, locals := 90 }) (va_Pc [.ref h0, .int p0, .int p1, .int p2, .int p3] (fun U => U.heap.size = sz ∧ va_P (dC, dI) vwCl [(h0, .inr (5, [.ref g_row, .int 0, .int 2, .int 0, .ref g_many, .ref g_loss, .ref g_less, .ref g_voteValue, .ref g_voteNumber, .ref g_allValue, .ref g_allNumber, .int 0, .ref g_nodeL, .ref g_nodeR, .int 0, .ref g_part, .int 0, .ref g_wasMany, .ref g_wasLoss, .ref g_wasValue, .ref g_wasNumber, .ref g_path, .int 0, .ref g_heavyValue, .ref g_heavyTimes, .int 0, .ref g_fewest, .ref g_which, .ref g_met, .int 0]))] U.heap ∧ va_K (dC, dI) vwCl [] U ∧ va_D (fun _ => True) [(h0, .inr (5, [.ref g_row, .int 0, .int 2, .int 0, .ref g_many, .ref g_loss, .ref g_less, .ref g_voteValue, .ref g_voteNumber, .ref g_allValue, .ref g_allNumber, .int 0, .ref g_nodeL, .ref g_nodeR, .int 0, .ref g_part, .int 0, .ref g_wasMany, .ref g_wasLoss, .ref g_wasValue, .ref g_wasNumber, .ref g_path, .int 0, .ref g_heavyValue, .ref g_heavyTimes, .int 0, .ref g_fewest, .ref g_which, .ref g_met, .int 0]))])) (va_Qi (fun (r : Int32) (_ : Unit) => r = (-1)) (fun (_ : Unit) (t : State) => va_P (dC, dI) vwCl [] t.heap ∧ va_K (dC, dI) vwCl [] t ∧ va_D (va_A [(h0, .inr (5, [.ref g_row, .int 0, .int 2, .int 0, .ref g_many, .ref g_loss, .ref g_less, .ref g_voteValue, .ref g_voteNumber, .ref g_allValue, .ref g_allNumber, .int 0, .ref g_nodeL, .ref g_nodeR, .int 0, .ref g_part, .int 0, .ref g_wasMany, .ref g_wasLoss, .ref g_wasValue, .ref g_wasNumber, .ref g_path, .int 0, .ref g_heavyValue, .ref g_heavyTimes, .int 0, .ref g_fewest, .ref g_which, .ref g_met, .int 0]))] sz) []) (va_A [(h0, .inr (5, [.ref g_row, .int 0, .int 2, .int 0, .ref g_many, .ref g_loss, .ref g_less, .ref g_voteValue, .ref g_voteNumber, .ref g_allValue, .ref g_allNumber, .int 0, .ref g_nodeL, .ref g_nodeR, .int 0, .ref g_part, .int 0, .ref g_wasMany, .ref g_wasLoss, .ref g_wasValue, .ref g_wasNumber, .ref g_path, .int 0, .ref g_heavyValue, .ref g_heavyTimes, .int 0, .ref g_fewest, .ref g_which, .ref g_met, .int 0]))] sz)) 0 0 (va_A [(h0, .inr (5, [.ref g_row, .int 0, .int 2, .int 0, .ref g_many, .ref g_loss, .ref g_less, .ref g_voteValue, .ref g_voteNumber, .ref g_allValue, .ref g_allNumber, .int 0, .ref g_nodeL, .ref g_nodeR, .int 0, .ref g_part, .int 0, .ref g_wasMany, .ref g_wasLoss, .ref g_wasValue, .ref g_wasNumber, .ref g_path, .int 0, .ref g_heavyValue, .ref g_heavyTimes, .int 0, .ref g_fewest, .ref g_which, .ref g_met, .int 0]))] sz) := by
  refine Met.ofW (cc := cX5_longest) (maxL := 10) (ret := (some .int)) (by decide) rfl ?_
  intro p e s m args below meth c s₁ B hml hv
  obtain ⟨rfl, hsz, hP, hK, hD0⟩ := hv
  have hx := B.exec
  have hb := B.bytes
  have hr := B.returns
  have hts := atoms_spec (ws := wsX5_longest) B.pre
  have hown : s.vm.findClass RX5 = some m.cls := findClass_of_methodNamed B.named
  have hlocks := B.notSynchronized
  subst hsz
  have hD := hD0.self (sz := s.heap.size)
  generalize hAe : va_A [(h0, .inr (5, [.ref g_row, .int 0, .int 2, .int 0, .ref g_many, .ref g_loss, .ref g_less, .ref g_voteValue, .ref g_voteNumber, .ref g_allValue, .ref g_allNumber, .int 0, .ref g_nodeL, .ref g_nodeR, .int 0, .ref g_part, .int 0, .ref g_wasMany, .ref g_wasLoss, .ref g_wasValue, .ref g_wasNumber, .ref g_path, .int 0, .ref g_heavyValue, .ref g_heavyTimes, .int 0, .ref g_fewest, .ref g_which, .ref g_met, .int 0]))] s.heap.size = A at hD ⊢
  have hA : ∀ q : Nat, s.heap.size ≤ q → A q := fun q h => by rw [← hAe]; exact Or.inr h
  have hS : va_S A s.heap s.heap [] := va_S.rf
  have hP : va_P (dC, dI) vwCl [(h0, .inr (5, [.ref g_row, .int 0, .int 2, .int 0, .ref g_many, .ref g_loss, .ref g_less, .ref g_voteValue, .ref g_voteNumber, .ref g_allValue, .ref g_allNumber, .int 0, .ref g_nodeL, .ref g_nodeR, .int 0, .ref g_part, .int 0, .ref g_wasMany, .ref g_wasLoss, .ref g_wasValue, .ref g_wasNumber, .ref g_path, .int 0, .ref g_heavyValue, .ref g_heavyTimes, .int 0, .ref g_fewest, .ref g_which, .ref g_met, .int 0]))] s.heap := hP
  have hl := lv_entry ([.ref h0, .int p0, .int p1, .int p2, .int p3]) (n := 10) (Nat.le_of_ble_eq_true rfl)
  rw [lg_entry_eq]
  generalize (lg_sl ([.ref h0, .int p0, .int p1, .int p2, .int p3]) ++ List.replicate (10 - (lg_sl ([.ref h0, .int p0, .int p1, .int p2, .int p3])).length) Slot.unset).toArray = ls at hl ⊢
  have hl : lv_has ls 10 [(0, .ref h0), (1, .int p0), (2, .int p1), (3, .int p2), (4, .int p3)] := hl
  have hf_77 := hts (.fieldLink RX5 77 "MajorityIndexModel" "thrown" "I") (by decide +kernel)
  have hi_5 : ∀ w ∈ u_ws RX5 TX5 30, w ∈ wsX5_longest := by decide +kernel
  have hf_84 := hts (.fieldLink RX5 84 "MajorityIndexModel" "n" "I") (by decide +kernel)
  refine lv_aload_n hx hb dX5_longest_0 rfl (lv_at hl 0 rfl) ?_
  refine lv_iconst (v := 0) hx hb dX5_longest_1 (by decide) ?_
  refine va_put (D := (dC, dI)) (ci := 5) (v := .int 0) (ty := .int) (C := RX5) (T := TX5) (N := 30) hx hb hts hi_5 tyX5 tyX5_ok nmX5 hown hK hP hD hS 0 rfl rfl 3 (by decide) hf_77 (fun _ h9 => h9) rfl (by decide +kernel) rfl rfl (Nat.le_of_ble_eq_true rfl) dX5_longest_2 (fun H locs hP hD hS => ?_)
  have hP : va_P (dC, dI) vwCl [(h0, .inr (5, [.ref g_row, .int 0, .int 2, .int 0, .ref g_many, .ref g_loss, .ref g_less, .ref g_voteValue, .ref g_voteNumber, .ref g_allValue, .ref g_allNumber, .int 0, .ref g_nodeL, .ref g_nodeR, .int 0, .ref g_part, .int 0, .ref g_wasMany, .ref g_wasLoss, .ref g_wasValue, .ref g_wasNumber, .ref g_path, .int 0, .ref g_heavyValue, .ref g_heavyTimes, .int 0, .ref g_fewest, .ref g_which, .ref g_met, .int 0]))] H := hP
  have hD : va_D A [(h0, .inr (5, [.ref g_row, .int 0, .int 2, .int 0, .ref g_many, .ref g_loss, .ref g_less, .ref g_voteValue, .ref g_voteNumber, .ref g_allValue, .ref g_allNumber, .int 0, .ref g_nodeL, .ref g_nodeR, .int 0, .ref g_part, .int 0, .ref g_wasMany, .ref g_wasLoss, .ref g_wasValue, .ref g_wasNumber, .ref g_path, .int 0, .ref g_heavyValue, .ref g_heavyTimes, .int 0, .ref g_fewest, .ref g_which, .ref g_met, .int 0]))] := hD
  refine lv_iload_n hx hb dX5_longest_5 rfl (lv_at hl 1 rfl) ?_
  have hPc := hP.sub (ws' := []) [] rfl
  have hKc := hK.sub (tys' := []) [] rfl
  refine vp_callSi (W.runS (As := [.int p0]) (rest := []) ⟨hx, hb, hml, hown, hts⟩ (c_X5_isValue l dC dI p0) (va_cwS 1 hts gX5_longest_X5_isValue rfl rfl rfl (by decide +kernel) ⟨Nat.le_of_ble_eq_true rfl, Nat.le_of_ble_eq_true rfl⟩) ⟨fun a U g mk q => by obtain ⟨q0, qP, qK⟩ := q; exact ⟨q0, qP, va_K.moved (u := U) (U := U.calling g mk a) (Vm.Alike.refl U.vm) qK⟩, fun U hU hW => ⟨rfl, by rw [hU]; exact hPc, va_K.moved hW.alike hKc⟩⟩ rfl rfl hl.1 rfl (lv_room (Nat.le_of_ble_eq_true rfl)) dX5_longest_6 ⟨Nat.le_of_ble_eq_true rfl, Nat.le_of_ble_eq_true rfl⟩) (fun r_1 w_1 => ?_)
  rcases w_1 with ⟨rfl, w_1⟩ | ⟨rfl, w_1⟩
  · have w_1 : (-32768 ≤ p0.toInt ∧ p0.toInt ≤ 32767) := w_1
    refine lv_if_eq (tgt := 30) hx hb dX5_longest_9 (by decide) (fun c_2 => ?_) (fun c_2 => ?_)
    · exact absurd c_2 (by decide)
    · refine lv_iload_n hx hb dX5_longest_12 rfl (lv_at hl 2 rfl) ?_
      refine lv_iload_n hx hb dX5_longest_13 rfl (lv_at hl 3 rfl) ?_
      have hPc := hP.sub (ws' := []) [] rfl
      have hKc := hK.sub (tys' := []) [] rfl
      refine vp_callSi (W.runS (As := [.int p1, .int p2]) (rest := []) ⟨hx, hb, hml, hown, hts⟩ (c_X5_isShare l dC dI p1 p2) (va_cwS 2 hts gX5_longest_X5_isShare rfl rfl rfl (by decide +kernel) ⟨Nat.le_of_ble_eq_true rfl, Nat.le_of_ble_eq_true rfl⟩) ⟨fun a U g mk q => by obtain ⟨q0, qP, qK⟩ := q; exact ⟨q0, qP, va_K.moved (u := U) (U := U.calling g mk a) (Vm.Alike.refl U.vm) qK⟩, fun U hU hW => ⟨rfl, by rw [hU]; exact hPc, va_K.moved hW.alike hKc⟩⟩ rfl rfl hl.1 rfl (lv_room (Nat.le_of_ble_eq_true rfl)) dX5_longest_14 ⟨Nat.le_of_ble_eq_true rfl, Nat.le_of_ble_eq_true rfl⟩) (fun r_3 w_3 => ?_)
      rcases w_3 with ⟨rfl, w_3⟩ | ⟨rfl, w_3⟩
      · have w_3 : (1 ≤ p1.toInt ∧ p1.toInt ≤ p2.toInt ∧ p2.toInt ≤ 999) := w_3
        refine lv_if_eq (tgt := 30) hx hb dX5_longest_17 (by decide) (fun c_4 => ?_) (fun c_4 => ?_)
        · exact absurd c_4 (by decide)
        · refine lv_iload hx hb dX5_longest_20 (lv_at hl 4 rfl) ?_
          refine lv_iconst (v := 0) hx hb dX5_longest_22 (by decide) ?_
          refine lv_iconst (v := 1) hx hb dX5_longest_23 (by decide) ?_
          have hPc := hP.sub (ws' := []) [] rfl
          have hKc := hK.sub (tys' := []) [] rfl
          refine vp_callSi (W.runS (As := [.int p3, .int 0, .int 1]) (rest := []) ⟨hx, hb, hml, hown, hts⟩ (c_X5_within l dC dI p3 0 1) (va_cwS 3 hts gX5_longest_X5_within rfl rfl rfl (by decide +kernel) ⟨Nat.le_of_ble_eq_true rfl, Nat.le_of_ble_eq_true rfl⟩) ⟨fun a U g mk q => by obtain ⟨q0, qP, qK⟩ := q; exact ⟨q0, qP, va_K.moved (u := U) (U := U.calling g mk a) (Vm.Alike.refl U.vm) qK⟩, fun U hU hW => ⟨rfl, by rw [hU]; exact hPc, va_K.moved hW.alike hKc⟩⟩ rfl rfl hl.1 rfl (lv_room (Nat.le_of_ble_eq_true rfl)) dX5_longest_24 ⟨Nat.le_of_ble_eq_true rfl, Nat.le_of_ble_eq_true rfl⟩) (fun r_5 w_5 => ?_)
          rcases w_5 with ⟨rfl, w_5⟩ | ⟨rfl, w_5⟩
          · have w_5 : (0 ≤ p3.toInt ∧ p3.toInt ≤ 1) := w_5
            refine lv_if_ne (tgt := 32) hx hb dX5_longest_27 (by decide) (fun c_6 => ?_) (fun c_6 => ?_)
            · refine lv_iconst (v := (-1)) hx hb dX5_longest_32 (by decide) ?_
              refine lv_istore (lv' := [(5, .int (-1)), (0, .ref h0), (1, .int p0), (2, .int p1), (3, .int p2), (4, .int p3)]) hx hb dX5_longest_33 hl (by decide) rfl (fun ls hl => ?_)
              refine lv_iconst (v := (-1)) hx hb dX5_longest_35 (by decide) ?_
              refine lv_istore (lv' := [(6, .int (-1)), (5, .int (-1)), (0, .ref h0), (1, .int p0), (2, .int p1), (3, .int p2), (4, .int p3)]) hx hb dX5_longest_36 hl (by decide) rfl (fun ls hl => ?_)
              refine lv_iconst (v := 0) hx hb dX5_longest_38 (by decide) ?_
              refine lv_istore (lv' := [(7, .int 0), (6, .int (-1)), (5, .int (-1)), (0, .ref h0), (1, .int p0), (2, .int p1), (3, .int p2), (4, .int p3)]) hx hb dX5_longest_39 hl (by decide) rfl (fun ls hl => ?_)
              refine lv_iload hx hb dX5_longest_41 (lv_at hl 0 rfl) ?_
              refine lv_aload_n hx hb dX5_longest_43 rfl (lv_at hl 3 rfl) ?_
              refine va_get (D := (dC, dI)) (ci := 5) (v := .int 0) (C := RX5) (T := TX5) (N := 30) hx hb hts hi_5 hown hK hP 0 rfl rfl 1 (by decide) hf_84 (fun _ h9 => h9) rfl dX5_longest_44 ?_
              refine lv_icmp_ge (tgt := 139) hx hb dX5_longest_47 (by decide) (fun c_7 => ?_) (fun c_7 => ?_)
              · refine lv_iload hx hb dX5_longest_139 (lv_at hl 7 rfl) ?_
                refine lv_if_ne (tgt := 149) hx hb dX5_longest_141 (by decide) (fun c_8 => ?_) (fun c_8 => ?_)
                · have i_8 : ¬ p3.toInt = 0 := kc_ne c_8
                  refine lv_iload hx hb dX5_longest_149 (lv_at hl 1 rfl) ?_
                  have hP9 := hP.sub (ws' := []) [] rfl
                  have hD9 := hD.sub (ws' := []) [] (by decide) rfl
                  have hK9 := hK.sub (tys' := []) [] rfl
                  exact W.iret (v := (-1)) hx hb hr (fun t ht hW => ⟨⟨(-1), (), rfl, rfl, by rw [ht]; exact hP9, va_K.moved hW.alike hK9, hD9⟩, hS.F ht⟩) hS.2.2 dX5_longest_151
                · have i_8 : p3.toInt = 0 := kc_eq c_8
                  refine lv_iload hx hb dX5_longest_144 (lv_at hl 2 rfl) ?_
                  refine lv_goto (tgt := 151) hx hb dX5_longest_146 (by decide) ?_
                  have hP9 := hP.sub (ws' := []) [] rfl
                  have hD9 := hD.sub (ws' := []) [] (by decide) rfl
                  have hK9 := hK.sub (tys' := []) [] rfl
                  exact W.iret (v := (-1)) hx hb hr (fun t ht hW => ⟨⟨(-1), (), rfl, rfl, by rw [ht]; exact hP9, va_K.moved hW.alike hK9, hD9⟩, hS.F ht⟩) hS.2.2 dX5_longest_151
              · exact absurd c_7 (by decide)
            · exact absurd c_6 (by decide)
          · have w_5 : (p3.toInt < 0 ∨ 1 < p3.toInt) := w_5
            refine lv_if_ne (tgt := 32) hx hb dX5_longest_27 (by decide) (fun c_9 => ?_) (fun c_9 => ?_)
            · exact absurd c_9 (by decide)
            · refine lv_iconst (v := (-1)) hx hb dX5_longest_30 (by decide) ?_
              have hP9 := hP.sub (ws' := []) [] rfl
              have hD9 := hD.sub (ws' := []) [] (by decide) rfl
              have hK9 := hK.sub (tys' := []) [] rfl
              exact W.iret (v := (-1)) hx hb hr (fun t ht hW => ⟨⟨(-1), (), rfl, rfl, by rw [ht]; exact hP9, va_K.moved hW.alike hK9, hD9⟩, hS.F ht⟩) hS.2.2 dX5_longest_31
      · have w_3 : (p1.toInt < 1 ∨ p2.toInt < p1.toInt ∨ 999 < p2.toInt) := w_3
        refine lv_if_eq (tgt := 30) hx hb dX5_longest_17 (by decide) (fun c_10 => ?_) (fun c_10 => ?_)
        · refine lv_iconst (v := (-1)) hx hb dX5_longest_30 (by decide) ?_
          have hP9 := hP.sub (ws' := []) [] rfl
          have hD9 := hD.sub (ws' := []) [] (by decide) rfl
          have hK9 := hK.sub (tys' := []) [] rfl
          exact W.iret (v := (-1)) hx hb hr (fun t ht hW => ⟨⟨(-1), (), rfl, rfl, by rw [ht]; exact hP9, va_K.moved hW.alike hK9, hD9⟩, hS.F ht⟩) hS.2.2 dX5_longest_31
        · exact absurd c_10 (by decide)
  · have w_1 : (p0.toInt < -32768 ∨ 32767 < p0.toInt) := w_1
    refine lv_if_eq (tgt := 30) hx hb dX5_longest_9 (by decide) (fun c_11 => ?_) (fun c_11 => ?_)
    · refine lv_iconst (v := (-1)) hx hb dX5_longest_30 (by decide) ?_
      have hP9 := hP.sub (ws' := []) [] rfl
      have hD9 := hD.sub (ws' := []) [] (by decide) rfl
      have hK9 := hK.sub (tys' := []) [] rfl
      exact W.iret (v := (-1)) hx hb hr (fun t ht hW => ⟨⟨(-1), (), rfl, rfl, by rw [ht]; exact hP9, va_K.moved hW.alike hK9, hD9⟩, hS.F ht⟩) hS.2.2 dX5_longest_31
    · exact absurd c_11 (by decide)

set_option maxHeartbeats 4000000 in
set_option maxRecDepth 100000 in
/-- reach of the reference, fresh -/
theorem c_X5_reach (l : Launch) (dC : Nat → ClassId) (dI : Nat → Nat → Nat) (h0 : Nat) (g_row : Nat) (g_many : Nat) (g_loss : Nat) (g_less : Nat) (g_voteValue : Nat) (g_voteNumber : Nat) (g_allValue : Nat) (g_allNumber : Nat) (g_nodeL : Nat) (g_nodeR : Nat) (g_part : Nat) (g_wasMany : Nat) (g_wasLoss : Nat) (g_wasValue : Nat) (g_wasNumber : Nat) (g_path : Nat) (g_heavyValue : Nat) (g_heavyTimes : Nat) (g_fewest : Nat) (g_which : Nat) (g_met : Nat) (p0 : Int32) (sz : Nat) : Met l yX5_reach wsX5_reach ({ frames := 2, cells := 0, slots := 0, locals := 90 }) (va_Pc [.ref h0, .int p0] (fun U => U.heap.size = sz ∧ va_P (dC, dI) vwCl [(h0, .inr (5, [.ref g_row, .int 0, .int 2, .int 0, .ref g_many, .ref g_loss, .ref g_less, .ref g_voteValue, .ref g_voteNumber, .ref g_allValue, .ref g_allNumber, .int 0, .ref g_nodeL, .ref g_nodeR, .int 0, .ref g_part, .int 0, .ref g_wasMany, .ref g_wasLoss, .ref g_wasValue, .ref g_wasNumber, .ref g_path, .int 0, .ref g_heavyValue, .ref g_heavyTimes, .int 0, .ref g_fewest, .ref g_which, .ref g_met, .int 0]))] U.heap ∧ va_K (dC, dI) vwCl [] U ∧ va_D (fun _ => True) [(h0, .inr (5, [.ref g_row, .int 0, .int 2, .int 0, .ref g_many, .ref g_loss, .ref g_less, .ref g_voteValue, .ref g_voteNumber, .ref g_allValue, .ref g_allNumber, .int 0, .ref g_nodeL, .ref g_nodeR, .int 0, .ref g_part, .int 0, .ref g_wasMany, .ref g_wasLoss, .ref g_wasValue, .ref g_wasNumber, .ref g_path, .int 0, .ref g_heavyValue, .ref g_heavyTimes, .int 0, .ref g_fewest, .ref g_which, .ref g_met, .int 0]))])) (va_Qi (fun (r : Int32) (_ : Unit) => r = (-1)) (fun (_ : Unit) (t : State) => va_P (dC, dI) vwCl [] t.heap ∧ va_K (dC, dI) vwCl [] t ∧ va_D (va_A [(h0, .inr (5, [.ref g_row, .int 0, .int 2, .int 0, .ref g_many, .ref g_loss, .ref g_less, .ref g_voteValue, .ref g_voteNumber, .ref g_allValue, .ref g_allNumber, .int 0, .ref g_nodeL, .ref g_nodeR, .int 0, .ref g_part, .int 0, .ref g_wasMany, .ref g_wasLoss, .ref g_wasValue, .ref g_wasNumber, .ref g_path, .int 0, .ref g_heavyValue, .ref g_heavyTimes, .int 0, .ref g_fewest, .ref g_which, .ref g_met, .int 0]))] sz) []) (va_A [(h0, .inr (5, [.ref g_row, .int 0, .int 2, .int 0, .ref g_many, .ref g_loss, .ref g_less, .ref g_voteValue, .ref g_voteNumber, .ref g_allValue, .ref g_allNumber, .int 0, .ref g_nodeL, .ref g_nodeR, .int 0, .ref g_part, .int 0, .ref g_wasMany, .ref g_wasLoss, .ref g_wasValue, .ref g_wasNumber, .ref g_path, .int 0, .ref g_heavyValue, .ref g_heavyTimes, .int 0, .ref g_fewest, .ref g_which, .ref g_met, .int 0]))] sz)) 0 0 (va_A [(h0, .inr (5, [.ref g_row, .int 0, .int 2, .int 0, .ref g_many, .ref g_loss, .ref g_less, .ref g_voteValue, .ref g_voteNumber, .ref g_allValue, .ref g_allNumber, .int 0, .ref g_nodeL, .ref g_nodeR, .int 0, .ref g_part, .int 0, .ref g_wasMany, .ref g_wasLoss, .ref g_wasValue, .ref g_wasNumber, .ref g_path, .int 0, .ref g_heavyValue, .ref g_heavyTimes, .int 0, .ref g_fewest, .ref g_which, .ref g_met, .int 0]))] sz) := by
  refine Met.ofW (cc := cX5_reach) (maxL := 3) (ret := (some .int)) (by decide) rfl ?_
  intro p e s m args below meth c s₁ B hml hv
  obtain ⟨rfl, hsz, hP, hK, hD0⟩ := hv
  have hx := B.exec
  have hb := B.bytes
  have hr := B.returns
  have hts := atoms_spec (ws := wsX5_reach) B.pre
  have hown : s.vm.findClass RX5 = some m.cls := findClass_of_methodNamed B.named
  have hlocks := B.notSynchronized
  subst hsz
  have hD := hD0.self (sz := s.heap.size)
  generalize hAe : va_A [(h0, .inr (5, [.ref g_row, .int 0, .int 2, .int 0, .ref g_many, .ref g_loss, .ref g_less, .ref g_voteValue, .ref g_voteNumber, .ref g_allValue, .ref g_allNumber, .int 0, .ref g_nodeL, .ref g_nodeR, .int 0, .ref g_part, .int 0, .ref g_wasMany, .ref g_wasLoss, .ref g_wasValue, .ref g_wasNumber, .ref g_path, .int 0, .ref g_heavyValue, .ref g_heavyTimes, .int 0, .ref g_fewest, .ref g_which, .ref g_met, .int 0]))] s.heap.size = A at hD ⊢
  have hA : ∀ q : Nat, s.heap.size ≤ q → A q := fun q h => by rw [← hAe]; exact Or.inr h
  have hS : va_S A s.heap s.heap [] := va_S.rf
  have hP : va_P (dC, dI) vwCl [(h0, .inr (5, [.ref g_row, .int 0, .int 2, .int 0, .ref g_many, .ref g_loss, .ref g_less, .ref g_voteValue, .ref g_voteNumber, .ref g_allValue, .ref g_allNumber, .int 0, .ref g_nodeL, .ref g_nodeR, .int 0, .ref g_part, .int 0, .ref g_wasMany, .ref g_wasLoss, .ref g_wasValue, .ref g_wasNumber, .ref g_path, .int 0, .ref g_heavyValue, .ref g_heavyTimes, .int 0, .ref g_fewest, .ref g_which, .ref g_met, .int 0]))] s.heap := hP
  have hl := lv_entry ([.ref h0, .int p0]) (n := 3) (Nat.le_of_ble_eq_true rfl)
  rw [lg_entry_eq]
  generalize (lg_sl ([.ref h0, .int p0]) ++ List.replicate (3 - (lg_sl ([.ref h0, .int p0])).length) Slot.unset).toArray = ls at hl ⊢
  have hl : lv_has ls 3 [(0, .ref h0), (1, .int p0)] := hl
  have hf_77 := hts (.fieldLink RX5 77 "MajorityIndexModel" "thrown" "I") (by decide +kernel)
  have hi_5 : ∀ w ∈ u_ws RX5 TX5 30, w ∈ wsX5_reach := by decide +kernel
  refine lv_aload_n hx hb dX5_reach_0 rfl (lv_at hl 0 rfl) ?_
  refine lv_iconst (v := 0) hx hb dX5_reach_1 (by decide) ?_
  refine va_put (D := (dC, dI)) (ci := 5) (v := .int 0) (ty := .int) (C := RX5) (T := TX5) (N := 30) hx hb hts hi_5 tyX5 tyX5_ok nmX5 hown hK hP hD hS 0 rfl rfl 3 (by decide) hf_77 (fun _ h9 => h9) rfl (by decide +kernel) rfl rfl (Nat.le_of_ble_eq_true rfl) dX5_reach_2 (fun H locs hP hD hS => ?_)
  have hP : va_P (dC, dI) vwCl [(h0, .inr (5, [.ref g_row, .int 0, .int 2, .int 0, .ref g_many, .ref g_loss, .ref g_less, .ref g_voteValue, .ref g_voteNumber, .ref g_allValue, .ref g_allNumber, .int 0, .ref g_nodeL, .ref g_nodeR, .int 0, .ref g_part, .int 0, .ref g_wasMany, .ref g_wasLoss, .ref g_wasValue, .ref g_wasNumber, .ref g_path, .int 0, .ref g_heavyValue, .ref g_heavyTimes, .int 0, .ref g_fewest, .ref g_which, .ref g_met, .int 0]))] H := hP
  have hD : va_D A [(h0, .inr (5, [.ref g_row, .int 0, .int 2, .int 0, .ref g_many, .ref g_loss, .ref g_less, .ref g_voteValue, .ref g_voteNumber, .ref g_allValue, .ref g_allNumber, .int 0, .ref g_nodeL, .ref g_nodeR, .int 0, .ref g_part, .int 0, .ref g_wasMany, .ref g_wasLoss, .ref g_wasValue, .ref g_wasNumber, .ref g_path, .int 0, .ref g_heavyValue, .ref g_heavyTimes, .int 0, .ref g_fewest, .ref g_which, .ref g_met, .int 0]))] := hD
  refine lv_aload_n hx hb dX5_reach_5 rfl (lv_at hl 0 rfl) ?_
  refine lv_iload_n hx hb dX5_reach_6 rfl (lv_at hl 1 rfl) ?_
  have hPc := hP.sub (ws' := [(h0, .inr (5, [.ref g_row, .int 0, .int 2, .int 0, .ref g_many, .ref g_loss, .ref g_less, .ref g_voteValue, .ref g_voteNumber, .ref g_allValue, .ref g_allNumber, .int 0, .ref g_nodeL, .ref g_nodeR, .int 0, .ref g_part, .int 0, .ref g_wasMany, .ref g_wasLoss, .ref g_wasValue, .ref g_wasNumber, .ref g_path, .int 0, .ref g_heavyValue, .ref g_heavyTimes, .int 0, .ref g_fewest, .ref g_which, .ref g_met, .int 0]))]) [0] rfl
  have hKc := hK.sub (tys' := []) [] rfl
  refine vp_callSi (W.runV (As := [.int p0]) (rest := []) ⟨hx, hb, hml, hown, hts⟩ (c_X5_isPlace l dC dI h0 g_row g_many g_loss g_less g_voteValue g_voteNumber g_allValue g_allNumber g_nodeL g_nodeR g_part g_wasMany g_wasLoss g_wasValue g_wasNumber g_path g_heavyValue g_heavyTimes g_fewest g_which g_met 0 p0) (cwV 1 hts gX5_reach_X5_isPlace rfl rfl rfl (by decide +kernel) ⟨Nat.le_of_ble_eq_true rfl, Nat.le_of_ble_eq_true rfl⟩) ⟨fun a U g mk q => by obtain ⟨q0, qP, qK⟩ := q; exact ⟨q0, qP, va_K.moved (u := U) (U := U.calling g mk a) (Vm.Alike.refl U.vm) qK⟩, va_recv hKc hPc (ci := 5) (q0 := 0) rfl rfl, fun U hU hW => ⟨rfl, by rw [hU]; exact hPc, va_K.moved hW.alike hKc⟩⟩ rfl rfl hl.1 rfl (lv_room (Nat.le_of_ble_eq_true rfl)) dX5_reach_7 ⟨Nat.le_of_ble_eq_true rfl, Nat.le_of_ble_eq_true rfl⟩) (fun r_1 w_1 => ?_)
  rcases w_1 with ⟨rfl, w_1⟩
  · have w_1 : True := w_1
    refine lv_if_ne (tgt := 15) hx hb dX5_reach_10 (by decide) (fun c_2 => ?_) (fun c_2 => ?_)
    · exact absurd c_2 (by decide)
    · refine lv_iconst (v := (-1)) hx hb dX5_reach_13 (by decide) ?_
      have hP9 := hP.sub (ws' := []) [] rfl
      have hD9 := hD.sub (ws' := []) [] (by decide) rfl
      have hK9 := hK.sub (tys' := []) [] rfl
      exact W.iret (v := (-1)) hx hb hr (fun t ht hW => ⟨⟨(-1), (), rfl, rfl, by rw [ht]; exact hP9, va_K.moved hW.alike hK9, hD9⟩, hS.F ht⟩) hS.2.2 dX5_reach_14

set_option maxHeartbeats 4000000 in
set_option maxRecDepth 100000 in
/-- parted of the reference, fresh -/
theorem c_X5_parted (l : Launch) (dC : Nat → ClassId) (dI : Nat → Nat → Nat) (h0 : Nat) (g_row : Nat) (g_many : Nat) (g_loss : Nat) (g_less : Nat) (g_voteValue : Nat) (g_voteNumber : Nat) (g_allValue : Nat) (g_allNumber : Nat) (g_nodeL : Nat) (g_nodeR : Nat) (g_part : Nat) (g_wasMany : Nat) (g_wasLoss : Nat) (g_wasValue : Nat) (g_wasNumber : Nat) (g_path : Nat) (g_heavyValue : Nat) (g_heavyTimes : Nat) (g_fewest : Nat) (g_which : Nat) (g_met : Nat) (p0 : Int32) (p1 : Int32) (sz : Nat) : Met l yX5_parted wsX5_parted ({ frames := 1, cells := 0, slots := 0, locals := 45 }) (va_Pc [.ref h0, .int p0, .int p1] (fun U => U.heap.size = sz ∧ va_P (dC, dI) vwCl [(h0, .inr (5, [.ref g_row, .int 0, .int 2, .int 0, .ref g_many, .ref g_loss, .ref g_less, .ref g_voteValue, .ref g_voteNumber, .ref g_allValue, .ref g_allNumber, .int 0, .ref g_nodeL, .ref g_nodeR, .int 0, .ref g_part, .int 0, .ref g_wasMany, .ref g_wasLoss, .ref g_wasValue, .ref g_wasNumber, .ref g_path, .int 0, .ref g_heavyValue, .ref g_heavyTimes, .int 0, .ref g_fewest, .ref g_which, .ref g_met, .int 0]))] U.heap ∧ va_K (dC, dI) vwCl [] U ∧ va_D (fun _ => True) [(h0, .inr (5, [.ref g_row, .int 0, .int 2, .int 0, .ref g_many, .ref g_loss, .ref g_less, .ref g_voteValue, .ref g_voteNumber, .ref g_allValue, .ref g_allNumber, .int 0, .ref g_nodeL, .ref g_nodeR, .int 0, .ref g_part, .int 0, .ref g_wasMany, .ref g_wasLoss, .ref g_wasValue, .ref g_wasNumber, .ref g_path, .int 0, .ref g_heavyValue, .ref g_heavyTimes, .int 0, .ref g_fewest, .ref g_which, .ref g_met, .int 0]))])) (va_Qi (fun (r : Int32) (_ : Unit) => r = (-1)) (fun (_ : Unit) (t : State) => va_P (dC, dI) vwCl [] t.heap ∧ va_K (dC, dI) vwCl [] t ∧ va_D (va_A [(h0, .inr (5, [.ref g_row, .int 0, .int 2, .int 0, .ref g_many, .ref g_loss, .ref g_less, .ref g_voteValue, .ref g_voteNumber, .ref g_allValue, .ref g_allNumber, .int 0, .ref g_nodeL, .ref g_nodeR, .int 0, .ref g_part, .int 0, .ref g_wasMany, .ref g_wasLoss, .ref g_wasValue, .ref g_wasNumber, .ref g_path, .int 0, .ref g_heavyValue, .ref g_heavyTimes, .int 0, .ref g_fewest, .ref g_which, .ref g_met, .int 0]))] sz) []) (va_A [(h0, .inr (5, [.ref g_row, .int 0, .int 2, .int 0, .ref g_many, .ref g_loss, .ref g_less, .ref g_voteValue, .ref g_voteNumber, .ref g_allValue, .ref g_allNumber, .int 0, .ref g_nodeL, .ref g_nodeR, .int 0, .ref g_part, .int 0, .ref g_wasMany, .ref g_wasLoss, .ref g_wasValue, .ref g_wasNumber, .ref g_path, .int 0, .ref g_heavyValue, .ref g_heavyTimes, .int 0, .ref g_fewest, .ref g_which, .ref g_met, .int 0]))] sz)) 0 0 (va_A [(h0, .inr (5, [.ref g_row, .int 0, .int 2, .int 0, .ref g_many, .ref g_loss, .ref g_less, .ref g_voteValue, .ref g_voteNumber, .ref g_allValue, .ref g_allNumber, .int 0, .ref g_nodeL, .ref g_nodeR, .int 0, .ref g_part, .int 0, .ref g_wasMany, .ref g_wasLoss, .ref g_wasValue, .ref g_wasNumber, .ref g_path, .int 0, .ref g_heavyValue, .ref g_heavyTimes, .int 0, .ref g_fewest, .ref g_which, .ref g_met, .int 0]))] sz) := by
  refine Met.ofW (cc := cX5_parted) (maxL := 5) (ret := (some .int)) (by decide) rfl ?_
  intro p e s m args below meth c s₁ B hml hv
  obtain ⟨rfl, hsz, hP, hK, hD0⟩ := hv
  have hx := B.exec
  have hb := B.bytes
  have hr := B.returns
  have hts := atoms_spec (ws := wsX5_parted) B.pre
  have hown : s.vm.findClass RX5 = some m.cls := findClass_of_methodNamed B.named
  have hlocks := B.notSynchronized
  subst hsz
  have hD := hD0.self (sz := s.heap.size)
  generalize hAe : va_A [(h0, .inr (5, [.ref g_row, .int 0, .int 2, .int 0, .ref g_many, .ref g_loss, .ref g_less, .ref g_voteValue, .ref g_voteNumber, .ref g_allValue, .ref g_allNumber, .int 0, .ref g_nodeL, .ref g_nodeR, .int 0, .ref g_part, .int 0, .ref g_wasMany, .ref g_wasLoss, .ref g_wasValue, .ref g_wasNumber, .ref g_path, .int 0, .ref g_heavyValue, .ref g_heavyTimes, .int 0, .ref g_fewest, .ref g_which, .ref g_met, .int 0]))] s.heap.size = A at hD ⊢
  have hA : ∀ q : Nat, s.heap.size ≤ q → A q := fun q h => by rw [← hAe]; exact Or.inr h
  have hS : va_S A s.heap s.heap [] := va_S.rf
  have hP : va_P (dC, dI) vwCl [(h0, .inr (5, [.ref g_row, .int 0, .int 2, .int 0, .ref g_many, .ref g_loss, .ref g_less, .ref g_voteValue, .ref g_voteNumber, .ref g_allValue, .ref g_allNumber, .int 0, .ref g_nodeL, .ref g_nodeR, .int 0, .ref g_part, .int 0, .ref g_wasMany, .ref g_wasLoss, .ref g_wasValue, .ref g_wasNumber, .ref g_path, .int 0, .ref g_heavyValue, .ref g_heavyTimes, .int 0, .ref g_fewest, .ref g_which, .ref g_met, .int 0]))] s.heap := hP
  have hl := lv_entry ([.ref h0, .int p0, .int p1]) (n := 5) (Nat.le_of_ble_eq_true rfl)
  rw [lg_entry_eq]
  generalize (lg_sl ([.ref h0, .int p0, .int p1]) ++ List.replicate (5 - (lg_sl ([.ref h0, .int p0, .int p1])).length) Slot.unset).toArray = ls at hl ⊢
  have hl : lv_has ls 5 [(0, .ref h0), (1, .int p0), (2, .int p1)] := hl
  have hf_77 := hts (.fieldLink RX5 77 "MajorityIndexModel" "thrown" "I") (by decide +kernel)
  have hi_5 : ∀ w ∈ u_ws RX5 TX5 30, w ∈ wsX5_parted := by decide +kernel
  refine lv_aload_n hx hb dX5_parted_0 rfl (lv_at hl 0 rfl) ?_
  refine lv_iconst (v := 0) hx hb dX5_parted_1 (by decide) ?_
  refine va_put (D := (dC, dI)) (ci := 5) (v := .int 0) (ty := .int) (C := RX5) (T := TX5) (N := 30) hx hb hts hi_5 tyX5 tyX5_ok nmX5 hown hK hP hD hS 0 rfl rfl 3 (by decide) hf_77 (fun _ h9 => h9) rfl (by decide +kernel) rfl rfl (Nat.le_of_ble_eq_true rfl) dX5_parted_2 (fun H locs hP hD hS => ?_)
  have hP : va_P (dC, dI) vwCl [(h0, .inr (5, [.ref g_row, .int 0, .int 2, .int 0, .ref g_many, .ref g_loss, .ref g_less, .ref g_voteValue, .ref g_voteNumber, .ref g_allValue, .ref g_allNumber, .int 0, .ref g_nodeL, .ref g_nodeR, .int 0, .ref g_part, .int 0, .ref g_wasMany, .ref g_wasLoss, .ref g_wasValue, .ref g_wasNumber, .ref g_path, .int 0, .ref g_heavyValue, .ref g_heavyTimes, .int 0, .ref g_fewest, .ref g_which, .ref g_met, .int 0]))] H := hP
  have hD : va_D A [(h0, .inr (5, [.ref g_row, .int 0, .int 2, .int 0, .ref g_many, .ref g_loss, .ref g_less, .ref g_voteValue, .ref g_voteNumber, .ref g_allValue, .ref g_allNumber, .int 0, .ref g_nodeL, .ref g_nodeR, .int 0, .ref g_part, .int 0, .ref g_wasMany, .ref g_wasLoss, .ref g_wasValue, .ref g_wasNumber, .ref g_path, .int 0, .ref g_heavyValue, .ref g_heavyTimes, .int 0, .ref g_fewest, .ref g_which, .ref g_met, .int 0]))] := hD
  refine lv_aload_n hx hb dX5_parted_5 rfl (lv_at hl 0 rfl) ?_
  refine lv_iload_n hx hb dX5_parted_6 rfl (lv_at hl 1 rfl) ?_
  refine lv_iload_n hx hb dX5_parted_7 rfl (lv_at hl 2 rfl) ?_
  have hPc := hP.sub (ws' := [(h0, .inr (5, [.ref g_row, .int 0, .int 2, .int 0, .ref g_many, .ref g_loss, .ref g_less, .ref g_voteValue, .ref g_voteNumber, .ref g_allValue, .ref g_allNumber, .int 0, .ref g_nodeL, .ref g_nodeR, .int 0, .ref g_part, .int 0, .ref g_wasMany, .ref g_wasLoss, .ref g_wasValue, .ref g_wasNumber, .ref g_path, .int 0, .ref g_heavyValue, .ref g_heavyTimes, .int 0, .ref g_fewest, .ref g_which, .ref g_met, .int 0]))]) [0] rfl
  have hKc := hK.sub (tys' := []) [] rfl
  refine vp_callSi (W.runV (As := [.int p0, .int p1]) (rest := []) ⟨hx, hb, hml, hown, hts⟩ (c_X5_isRange l dC dI h0 g_row g_many g_loss g_less g_voteValue g_voteNumber g_allValue g_allNumber g_nodeL g_nodeR g_part g_wasMany g_wasLoss g_wasValue g_wasNumber g_path g_heavyValue g_heavyTimes g_fewest g_which g_met 0 p0 p1) (cwV 2 hts gX5_parted_X5_isRange rfl rfl rfl (by decide +kernel) ⟨Nat.le_of_ble_eq_true rfl, Nat.le_of_ble_eq_true rfl⟩) ⟨fun a U g mk q => by obtain ⟨q0, qP, qK⟩ := q; exact ⟨q0, qP, va_K.moved (u := U) (U := U.calling g mk a) (Vm.Alike.refl U.vm) qK⟩, va_recv hKc hPc (ci := 5) (q0 := 0) rfl rfl, fun U hU hW => ⟨rfl, by rw [hU]; exact hPc, va_K.moved hW.alike hKc⟩⟩ rfl rfl hl.1 rfl (lv_room (Nat.le_of_ble_eq_true rfl)) dX5_parted_8 ⟨Nat.le_of_ble_eq_true rfl, Nat.le_of_ble_eq_true rfl⟩) (fun r_1 w_1 => ?_)
  rcases w_1 with ⟨rfl, w_1⟩
  · have w_1 : True := w_1
    refine lv_if_ne (tgt := 16) hx hb dX5_parted_11 (by decide) (fun c_2 => ?_) (fun c_2 => ?_)
    · exact absurd c_2 (by decide)
    · refine lv_iconst (v := (-1)) hx hb dX5_parted_14 (by decide) ?_
      have hP9 := hP.sub (ws' := []) [] rfl
      have hD9 := hD.sub (ws' := []) [] (by decide) rfl
      have hK9 := hK.sub (tys' := []) [] rfl
      exact W.iret (v := (-1)) hx hb hr (fun t ht hW => ⟨⟨(-1), (), rfl, rfl, by rw [ht]; exact hP9, va_K.moved hW.alike hK9, hD9⟩, hS.F ht⟩) hS.2.2 dX5_parted_15

set_option maxHeartbeats 4000000 in
set_option maxRecDepth 100000 in
/-- cut of the reference, fresh -/
theorem c_X5_cut (l : Launch) (dC : Nat → ClassId) (dI : Nat → Nat → Nat) (h0 : Nat) (g_row : Nat) (g_many : Nat) (g_loss : Nat) (g_less : Nat) (g_voteValue : Nat) (g_voteNumber : Nat) (g_allValue : Nat) (g_allNumber : Nat) (g_nodeL : Nat) (g_nodeR : Nat) (g_part : Nat) (g_wasMany : Nat) (g_wasLoss : Nat) (g_wasValue : Nat) (g_wasNumber : Nat) (g_path : Nat) (g_heavyValue : Nat) (g_heavyTimes : Nat) (g_fewest : Nat) (g_which : Nat) (g_met : Nat) (p0 : Int32) (p1 : Int32) (sz : Nat) : Met l yX5_cut wsX5_cut ({ frames := 1, cells := 0, slots := 0, locals := 45 }) (va_Pc [.ref h0, .int p0, .int p1] (fun U => U.heap.size = sz ∧ va_P (dC, dI) vwCl [(h0, .inr (5, [.ref g_row, .int 0, .int 2, .int 0, .ref g_many, .ref g_loss, .ref g_less, .ref g_voteValue, .ref g_voteNumber, .ref g_allValue, .ref g_allNumber, .int 0, .ref g_nodeL, .ref g_nodeR, .int 0, .ref g_part, .int 0, .ref g_wasMany, .ref g_wasLoss, .ref g_wasValue, .ref g_wasNumber, .ref g_path, .int 0, .ref g_heavyValue, .ref g_heavyTimes, .int 0, .ref g_fewest, .ref g_which, .ref g_met, .int 0]))] U.heap ∧ va_K (dC, dI) vwCl [] U ∧ va_D (fun _ => True) [(h0, .inr (5, [.ref g_row, .int 0, .int 2, .int 0, .ref g_many, .ref g_loss, .ref g_less, .ref g_voteValue, .ref g_voteNumber, .ref g_allValue, .ref g_allNumber, .int 0, .ref g_nodeL, .ref g_nodeR, .int 0, .ref g_part, .int 0, .ref g_wasMany, .ref g_wasLoss, .ref g_wasValue, .ref g_wasNumber, .ref g_path, .int 0, .ref g_heavyValue, .ref g_heavyTimes, .int 0, .ref g_fewest, .ref g_which, .ref g_met, .int 0]))])) (va_Qi (fun (r : Int32) (_ : Unit) => r = (-1)) (fun (_ : Unit) (t : State) => va_P (dC, dI) vwCl [] t.heap ∧ va_K (dC, dI) vwCl [] t ∧ va_D (va_A [(h0, .inr (5, [.ref g_row, .int 0, .int 2, .int 0, .ref g_many, .ref g_loss, .ref g_less, .ref g_voteValue, .ref g_voteNumber, .ref g_allValue, .ref g_allNumber, .int 0, .ref g_nodeL, .ref g_nodeR, .int 0, .ref g_part, .int 0, .ref g_wasMany, .ref g_wasLoss, .ref g_wasValue, .ref g_wasNumber, .ref g_path, .int 0, .ref g_heavyValue, .ref g_heavyTimes, .int 0, .ref g_fewest, .ref g_which, .ref g_met, .int 0]))] sz) []) (va_A [(h0, .inr (5, [.ref g_row, .int 0, .int 2, .int 0, .ref g_many, .ref g_loss, .ref g_less, .ref g_voteValue, .ref g_voteNumber, .ref g_allValue, .ref g_allNumber, .int 0, .ref g_nodeL, .ref g_nodeR, .int 0, .ref g_part, .int 0, .ref g_wasMany, .ref g_wasLoss, .ref g_wasValue, .ref g_wasNumber, .ref g_path, .int 0, .ref g_heavyValue, .ref g_heavyTimes, .int 0, .ref g_fewest, .ref g_which, .ref g_met, .int 0]))] sz)) 0 0 (va_A [(h0, .inr (5, [.ref g_row, .int 0, .int 2, .int 0, .ref g_many, .ref g_loss, .ref g_less, .ref g_voteValue, .ref g_voteNumber, .ref g_allValue, .ref g_allNumber, .int 0, .ref g_nodeL, .ref g_nodeR, .int 0, .ref g_part, .int 0, .ref g_wasMany, .ref g_wasLoss, .ref g_wasValue, .ref g_wasNumber, .ref g_path, .int 0, .ref g_heavyValue, .ref g_heavyTimes, .int 0, .ref g_fewest, .ref g_which, .ref g_met, .int 0]))] sz) := by
  refine Met.ofW (cc := cX5_cut) (maxL := 6) (ret := (some .int)) (by decide) rfl ?_
  intro p e s m args below meth c s₁ B hml hv
  obtain ⟨rfl, hsz, hP, hK, hD0⟩ := hv
  have hx := B.exec
  have hb := B.bytes
  have hr := B.returns
  have hts := atoms_spec (ws := wsX5_cut) B.pre
  have hown : s.vm.findClass RX5 = some m.cls := findClass_of_methodNamed B.named
  have hlocks := B.notSynchronized
  subst hsz
  have hD := hD0.self (sz := s.heap.size)
  generalize hAe : va_A [(h0, .inr (5, [.ref g_row, .int 0, .int 2, .int 0, .ref g_many, .ref g_loss, .ref g_less, .ref g_voteValue, .ref g_voteNumber, .ref g_allValue, .ref g_allNumber, .int 0, .ref g_nodeL, .ref g_nodeR, .int 0, .ref g_part, .int 0, .ref g_wasMany, .ref g_wasLoss, .ref g_wasValue, .ref g_wasNumber, .ref g_path, .int 0, .ref g_heavyValue, .ref g_heavyTimes, .int 0, .ref g_fewest, .ref g_which, .ref g_met, .int 0]))] s.heap.size = A at hD ⊢
  have hA : ∀ q : Nat, s.heap.size ≤ q → A q := fun q h => by rw [← hAe]; exact Or.inr h
  have hS : va_S A s.heap s.heap [] := va_S.rf
  have hP : va_P (dC, dI) vwCl [(h0, .inr (5, [.ref g_row, .int 0, .int 2, .int 0, .ref g_many, .ref g_loss, .ref g_less, .ref g_voteValue, .ref g_voteNumber, .ref g_allValue, .ref g_allNumber, .int 0, .ref g_nodeL, .ref g_nodeR, .int 0, .ref g_part, .int 0, .ref g_wasMany, .ref g_wasLoss, .ref g_wasValue, .ref g_wasNumber, .ref g_path, .int 0, .ref g_heavyValue, .ref g_heavyTimes, .int 0, .ref g_fewest, .ref g_which, .ref g_met, .int 0]))] s.heap := hP
  have hl := lv_entry ([.ref h0, .int p0, .int p1]) (n := 6) (Nat.le_of_ble_eq_true rfl)
  rw [lg_entry_eq]
  generalize (lg_sl ([.ref h0, .int p0, .int p1]) ++ List.replicate (6 - (lg_sl ([.ref h0, .int p0, .int p1])).length) Slot.unset).toArray = ls at hl ⊢
  have hl : lv_has ls 6 [(0, .ref h0), (1, .int p0), (2, .int p1)] := hl
  have hf_77 := hts (.fieldLink RX5 77 "MajorityIndexModel" "thrown" "I") (by decide +kernel)
  have hi_5 : ∀ w ∈ u_ws RX5 TX5 30, w ∈ wsX5_cut := by decide +kernel
  refine lv_aload_n hx hb dX5_cut_0 rfl (lv_at hl 0 rfl) ?_
  refine lv_iconst (v := 0) hx hb dX5_cut_1 (by decide) ?_
  refine va_put (D := (dC, dI)) (ci := 5) (v := .int 0) (ty := .int) (C := RX5) (T := TX5) (N := 30) hx hb hts hi_5 tyX5 tyX5_ok nmX5 hown hK hP hD hS 0 rfl rfl 3 (by decide) hf_77 (fun _ h9 => h9) rfl (by decide +kernel) rfl rfl (Nat.le_of_ble_eq_true rfl) dX5_cut_2 (fun H locs hP hD hS => ?_)
  have hP : va_P (dC, dI) vwCl [(h0, .inr (5, [.ref g_row, .int 0, .int 2, .int 0, .ref g_many, .ref g_loss, .ref g_less, .ref g_voteValue, .ref g_voteNumber, .ref g_allValue, .ref g_allNumber, .int 0, .ref g_nodeL, .ref g_nodeR, .int 0, .ref g_part, .int 0, .ref g_wasMany, .ref g_wasLoss, .ref g_wasValue, .ref g_wasNumber, .ref g_path, .int 0, .ref g_heavyValue, .ref g_heavyTimes, .int 0, .ref g_fewest, .ref g_which, .ref g_met, .int 0]))] H := hP
  have hD : va_D A [(h0, .inr (5, [.ref g_row, .int 0, .int 2, .int 0, .ref g_many, .ref g_loss, .ref g_less, .ref g_voteValue, .ref g_voteNumber, .ref g_allValue, .ref g_allNumber, .int 0, .ref g_nodeL, .ref g_nodeR, .int 0, .ref g_part, .int 0, .ref g_wasMany, .ref g_wasLoss, .ref g_wasValue, .ref g_wasNumber, .ref g_path, .int 0, .ref g_heavyValue, .ref g_heavyTimes, .int 0, .ref g_fewest, .ref g_which, .ref g_met, .int 0]))] := hD
  refine lv_aload_n hx hb dX5_cut_5 rfl (lv_at hl 0 rfl) ?_
  refine lv_iload_n hx hb dX5_cut_6 rfl (lv_at hl 1 rfl) ?_
  refine lv_iload_n hx hb dX5_cut_7 rfl (lv_at hl 2 rfl) ?_
  have hPc := hP.sub (ws' := [(h0, .inr (5, [.ref g_row, .int 0, .int 2, .int 0, .ref g_many, .ref g_loss, .ref g_less, .ref g_voteValue, .ref g_voteNumber, .ref g_allValue, .ref g_allNumber, .int 0, .ref g_nodeL, .ref g_nodeR, .int 0, .ref g_part, .int 0, .ref g_wasMany, .ref g_wasLoss, .ref g_wasValue, .ref g_wasNumber, .ref g_path, .int 0, .ref g_heavyValue, .ref g_heavyTimes, .int 0, .ref g_fewest, .ref g_which, .ref g_met, .int 0]))]) [0] rfl
  have hKc := hK.sub (tys' := []) [] rfl
  refine vp_callSi (W.runV (As := [.int p0, .int p1]) (rest := []) ⟨hx, hb, hml, hown, hts⟩ (c_X5_isRange l dC dI h0 g_row g_many g_loss g_less g_voteValue g_voteNumber g_allValue g_allNumber g_nodeL g_nodeR g_part g_wasMany g_wasLoss g_wasValue g_wasNumber g_path g_heavyValue g_heavyTimes g_fewest g_which g_met 0 p0 p1) (cwV 2 hts gX5_cut_X5_isRange rfl rfl rfl (by decide +kernel) ⟨Nat.le_of_ble_eq_true rfl, Nat.le_of_ble_eq_true rfl⟩) ⟨fun a U g mk q => by obtain ⟨q0, qP, qK⟩ := q; exact ⟨q0, qP, va_K.moved (u := U) (U := U.calling g mk a) (Vm.Alike.refl U.vm) qK⟩, va_recv hKc hPc (ci := 5) (q0 := 0) rfl rfl, fun U hU hW => ⟨rfl, by rw [hU]; exact hPc, va_K.moved hW.alike hKc⟩⟩ rfl rfl hl.1 rfl (lv_room (Nat.le_of_ble_eq_true rfl)) dX5_cut_8 ⟨Nat.le_of_ble_eq_true rfl, Nat.le_of_ble_eq_true rfl⟩) (fun r_1 w_1 => ?_)
  rcases w_1 with ⟨rfl, w_1⟩
  · have w_1 : True := w_1
    refine lv_if_ne (tgt := 16) hx hb dX5_cut_11 (by decide) (fun c_2 => ?_) (fun c_2 => ?_)
    · exact absurd c_2 (by decide)
    · refine lv_iconst (v := (-1)) hx hb dX5_cut_14 (by decide) ?_
      have hP9 := hP.sub (ws' := []) [] rfl
      have hD9 := hD.sub (ws' := []) [] (by decide) rfl
      have hK9 := hK.sub (tys' := []) [] rfl
      exact W.iret (v := (-1)) hx hb hr (fun t ht hW => ⟨⟨(-1), (), rfl, rfl, by rw [ht]; exact hP9, va_K.moved hW.alike hK9, hD9⟩, hS.F ht⟩) hS.2.2 dX5_cut_15

set_option maxHeartbeats 4000000 in
set_option maxRecDepth 100000 in
/-- majorities of the reference, fresh -/
theorem c_X5_majorities (l : Launch) (dC : Nat → ClassId) (dI : Nat → Nat → Nat) (h0 : Nat) (g_row : Nat) (g_many : Nat) (g_loss : Nat) (g_less : Nat) (g_voteValue : Nat) (g_voteNumber : Nat) (g_allValue : Nat) (g_allNumber : Nat) (g_nodeL : Nat) (g_nodeR : Nat) (g_part : Nat) (g_wasMany : Nat) (g_wasLoss : Nat) (g_wasValue : Nat) (g_wasNumber : Nat) (g_path : Nat) (g_heavyValue : Nat) (g_heavyTimes : Nat) (g_fewest : Nat) (g_which : Nat) (g_met : Nat) (sz : Nat) : Met l yX5_majorities wsX5_majorities ({ frames := 1, cells := 0, slots := 0, locals := 45 }) (va_Pc [.ref h0] (fun U => U.heap.size = sz ∧ va_P (dC, dI) vwCl [(h0, .inr (5, [.ref g_row, .int 0, .int 2, .int 0, .ref g_many, .ref g_loss, .ref g_less, .ref g_voteValue, .ref g_voteNumber, .ref g_allValue, .ref g_allNumber, .int 0, .ref g_nodeL, .ref g_nodeR, .int 0, .ref g_part, .int 0, .ref g_wasMany, .ref g_wasLoss, .ref g_wasValue, .ref g_wasNumber, .ref g_path, .int 0, .ref g_heavyValue, .ref g_heavyTimes, .int 0, .ref g_fewest, .ref g_which, .ref g_met, .int 0]))] U.heap ∧ va_K (dC, dI) vwCl [] U ∧ va_D (fun _ => True) [(h0, .inr (5, [.ref g_row, .int 0, .int 2, .int 0, .ref g_many, .ref g_loss, .ref g_less, .ref g_voteValue, .ref g_voteNumber, .ref g_allValue, .ref g_allNumber, .int 0, .ref g_nodeL, .ref g_nodeR, .int 0, .ref g_part, .int 0, .ref g_wasMany, .ref g_wasLoss, .ref g_wasValue, .ref g_wasNumber, .ref g_path, .int 0, .ref g_heavyValue, .ref g_heavyTimes, .int 0, .ref g_fewest, .ref g_which, .ref g_met, .int 0]))])) (va_Qi (fun (r : Int32) (_ : Unit) => r = 0) (fun (_ : Unit) (t : State) => va_P (dC, dI) vwCl [] t.heap ∧ va_K (dC, dI) vwCl [] t ∧ va_D (va_A [(h0, .inr (5, [.ref g_row, .int 0, .int 2, .int 0, .ref g_many, .ref g_loss, .ref g_less, .ref g_voteValue, .ref g_voteNumber, .ref g_allValue, .ref g_allNumber, .int 0, .ref g_nodeL, .ref g_nodeR, .int 0, .ref g_part, .int 0, .ref g_wasMany, .ref g_wasLoss, .ref g_wasValue, .ref g_wasNumber, .ref g_path, .int 0, .ref g_heavyValue, .ref g_heavyTimes, .int 0, .ref g_fewest, .ref g_which, .ref g_met, .int 0]))] sz) []) (va_A [(h0, .inr (5, [.ref g_row, .int 0, .int 2, .int 0, .ref g_many, .ref g_loss, .ref g_less, .ref g_voteValue, .ref g_voteNumber, .ref g_allValue, .ref g_allNumber, .int 0, .ref g_nodeL, .ref g_nodeR, .int 0, .ref g_part, .int 0, .ref g_wasMany, .ref g_wasLoss, .ref g_wasValue, .ref g_wasNumber, .ref g_path, .int 0, .ref g_heavyValue, .ref g_heavyTimes, .int 0, .ref g_fewest, .ref g_which, .ref g_met, .int 0]))] sz)) 0 0 (va_A [(h0, .inr (5, [.ref g_row, .int 0, .int 2, .int 0, .ref g_many, .ref g_loss, .ref g_less, .ref g_voteValue, .ref g_voteNumber, .ref g_allValue, .ref g_allNumber, .int 0, .ref g_nodeL, .ref g_nodeR, .int 0, .ref g_part, .int 0, .ref g_wasMany, .ref g_wasLoss, .ref g_wasValue, .ref g_wasNumber, .ref g_path, .int 0, .ref g_heavyValue, .ref g_heavyTimes, .int 0, .ref g_fewest, .ref g_which, .ref g_met, .int 0]))] sz) := by
  refine Met.ofW (cc := cX5_majorities) (maxL := 4) (ret := (some .int)) (by decide) rfl ?_
  intro p e s m args below meth c s₁ B hml hv
  obtain ⟨rfl, hsz, hP, hK, hD0⟩ := hv
  have hx := B.exec
  have hb := B.bytes
  have hr := B.returns
  have hts := atoms_spec (ws := wsX5_majorities) B.pre
  have hown : s.vm.findClass RX5 = some m.cls := findClass_of_methodNamed B.named
  have hlocks := B.notSynchronized
  subst hsz
  have hD := hD0.self (sz := s.heap.size)
  generalize hAe : va_A [(h0, .inr (5, [.ref g_row, .int 0, .int 2, .int 0, .ref g_many, .ref g_loss, .ref g_less, .ref g_voteValue, .ref g_voteNumber, .ref g_allValue, .ref g_allNumber, .int 0, .ref g_nodeL, .ref g_nodeR, .int 0, .ref g_part, .int 0, .ref g_wasMany, .ref g_wasLoss, .ref g_wasValue, .ref g_wasNumber, .ref g_path, .int 0, .ref g_heavyValue, .ref g_heavyTimes, .int 0, .ref g_fewest, .ref g_which, .ref g_met, .int 0]))] s.heap.size = A at hD ⊢
  have hA : ∀ q : Nat, s.heap.size ≤ q → A q := fun q h => by rw [← hAe]; exact Or.inr h
  have hS : va_S A s.heap s.heap [] := va_S.rf
  have hP : va_P (dC, dI) vwCl [(h0, .inr (5, [.ref g_row, .int 0, .int 2, .int 0, .ref g_many, .ref g_loss, .ref g_less, .ref g_voteValue, .ref g_voteNumber, .ref g_allValue, .ref g_allNumber, .int 0, .ref g_nodeL, .ref g_nodeR, .int 0, .ref g_part, .int 0, .ref g_wasMany, .ref g_wasLoss, .ref g_wasValue, .ref g_wasNumber, .ref g_path, .int 0, .ref g_heavyValue, .ref g_heavyTimes, .int 0, .ref g_fewest, .ref g_which, .ref g_met, .int 0]))] s.heap := hP
  have hl := lv_entry ([.ref h0]) (n := 4) (Nat.le_of_ble_eq_true rfl)
  rw [lg_entry_eq]
  generalize (lg_sl ([.ref h0]) ++ List.replicate (4 - (lg_sl ([.ref h0])).length) Slot.unset).toArray = ls at hl ⊢
  have hl : lv_has ls 4 [(0, .ref h0)] := hl
  have hf_77 := hts (.fieldLink RX5 77 "MajorityIndexModel" "thrown" "I") (by decide +kernel)
  have hi_5 : ∀ w ∈ u_ws RX5 TX5 30, w ∈ wsX5_majorities := by decide +kernel
  have hf_84 := hts (.fieldLink RX5 84 "MajorityIndexModel" "n" "I") (by decide +kernel)
  refine lv_aload_n hx hb dX5_majorities_0 rfl (lv_at hl 0 rfl) ?_
  refine lv_iconst (v := 0) hx hb dX5_majorities_1 (by decide) ?_
  refine va_put (D := (dC, dI)) (ci := 5) (v := .int 0) (ty := .int) (C := RX5) (T := TX5) (N := 30) hx hb hts hi_5 tyX5 tyX5_ok nmX5 hown hK hP hD hS 0 rfl rfl 3 (by decide) hf_77 (fun _ h9 => h9) rfl (by decide +kernel) rfl rfl (Nat.le_of_ble_eq_true rfl) dX5_majorities_2 (fun H locs hP hD hS => ?_)
  have hP : va_P (dC, dI) vwCl [(h0, .inr (5, [.ref g_row, .int 0, .int 2, .int 0, .ref g_many, .ref g_loss, .ref g_less, .ref g_voteValue, .ref g_voteNumber, .ref g_allValue, .ref g_allNumber, .int 0, .ref g_nodeL, .ref g_nodeR, .int 0, .ref g_part, .int 0, .ref g_wasMany, .ref g_wasLoss, .ref g_wasValue, .ref g_wasNumber, .ref g_path, .int 0, .ref g_heavyValue, .ref g_heavyTimes, .int 0, .ref g_fewest, .ref g_which, .ref g_met, .int 0]))] H := hP
  have hD : va_D A [(h0, .inr (5, [.ref g_row, .int 0, .int 2, .int 0, .ref g_many, .ref g_loss, .ref g_less, .ref g_voteValue, .ref g_voteNumber, .ref g_allValue, .ref g_allNumber, .int 0, .ref g_nodeL, .ref g_nodeR, .int 0, .ref g_part, .int 0, .ref g_wasMany, .ref g_wasLoss, .ref g_wasValue, .ref g_wasNumber, .ref g_path, .int 0, .ref g_heavyValue, .ref g_heavyTimes, .int 0, .ref g_fewest, .ref g_which, .ref g_met, .int 0]))] := hD
  refine lv_aload_n hx hb dX5_majorities_5 rfl (lv_at hl 0 rfl) ?_
  have hPc := hP.sub (ws' := [(h0, .inr (5, [.ref g_row, .int 0, .int 2, .int 0, .ref g_many, .ref g_loss, .ref g_less, .ref g_voteValue, .ref g_voteNumber, .ref g_allValue, .ref g_allNumber, .int 0, .ref g_nodeL, .ref g_nodeR, .int 0, .ref g_part, .int 0, .ref g_wasMany, .ref g_wasLoss, .ref g_wasValue, .ref g_wasNumber, .ref g_path, .int 0, .ref g_heavyValue, .ref g_heavyTimes, .int 0, .ref g_fewest, .ref g_which, .ref g_met, .int 0]))]) [0] rfl
  have hKc := hK.sub (tys' := []) [] rfl
  refine va_csv (W.runV (As := []) (rest := []) ⟨hx, hb, hml, hown, hts⟩ (c_X5_laysNumbers l dC dI h0 g_row g_many g_loss g_less g_voteValue g_voteNumber g_allValue g_allNumber g_nodeL g_nodeR g_part g_wasMany g_wasLoss g_wasValue g_wasNumber g_path g_heavyValue g_heavyTimes g_fewest g_which g_met 0) (cwV 0 hts gX5_majorities_X5_laysNumbers rfl rfl rfl (by decide +kernel) ⟨Nat.le_of_ble_eq_true rfl, Nat.le_of_ble_eq_true rfl⟩) ⟨fun a U g mk q => by obtain ⟨q0, qP, qK⟩ := q; exact ⟨q0, qP, va_K.moved (u := U) (U := U.calling g mk a) (Vm.Alike.refl U.vm) qK⟩, va_recv hKc hPc (ci := 5) (q0 := 0) rfl rfl, fun U hU hW => ⟨rfl, by rw [hU]; exact hPc, va_K.moved hW.alike hKc⟩⟩ rfl rfl hl.1 rfl (lv_room (Nat.le_of_ble_eq_true rfl)) dX5_majorities_6 ⟨Nat.le_of_ble_eq_true rfl, Nat.le_of_ble_eq_true rfl⟩) (fun w_1 => ?_)
  refine lv_iconst (v := 0) hx hb dX5_majorities_9 (by decide) ?_
  refine lv_istore_n (lv' := [(1, .int 0), (0, .ref h0)]) hx hb dX5_majorities_10 rfl hl (by decide) rfl (fun ls hl => ?_)
  refine lv_iconst (v := 0) hx hb dX5_majorities_11 (by decide) ?_
  refine lv_istore_n (lv' := [(2, .int 0), (1, .int 0), (0, .ref h0)]) hx hb dX5_majorities_12 rfl hl (by decide) rfl (fun ls hl => ?_)
  refine lv_iload_n hx hb dX5_majorities_13 rfl (lv_at hl 0 rfl) ?_
  refine lv_aload_n hx hb dX5_majorities_14 rfl (lv_at hl 2 rfl) ?_
  refine va_get (D := (dC, dI)) (ci := 5) (v := .int 0) (C := RX5) (T := TX5) (N := 30) hx hb hts hi_5 hown hK hP 0 rfl rfl 1 (by decide) hf_84 (fun _ h9 => h9) rfl dX5_majorities_15 ?_
  refine lv_icmp_ge (tgt := 61) hx hb dX5_majorities_18 (by decide) (fun c_2 => ?_) (fun c_2 => ?_)
  · refine lv_iload_n hx hb dX5_majorities_61 rfl (lv_at hl 1 rfl) ?_
    have hP9 := hP.sub (ws' := []) [] rfl
    have hD9 := hD.sub (ws' := []) [] (by decide) rfl
    have hK9 := hK.sub (tys' := []) [] rfl
    exact W.iret (v := 0) hx hb hr (fun t ht hW => ⟨⟨0, (), rfl, rfl, by rw [ht]; exact hP9, va_K.moved hW.alike hK9, hD9⟩, hS.F ht⟩) hS.2.2 dX5_majorities_62
  · exact absurd c_2 (by decide)

set_option maxHeartbeats 4000000 in
set_option maxRecDepth 100000 in
/-- needs of the reference, fresh -/
theorem c_X5_needs (l : Launch) (dC : Nat → ClassId) (dI : Nat → Nat → Nat) (h0 : Nat) (g_row : Nat) (g_many : Nat) (g_loss : Nat) (g_less : Nat) (g_voteValue : Nat) (g_voteNumber : Nat) (g_allValue : Nat) (g_allNumber : Nat) (g_nodeL : Nat) (g_nodeR : Nat) (g_part : Nat) (g_wasMany : Nat) (g_wasLoss : Nat) (g_wasValue : Nat) (g_wasNumber : Nat) (g_path : Nat) (g_heavyValue : Nat) (g_heavyTimes : Nat) (g_fewest : Nat) (g_which : Nat) (g_met : Nat) (p0 : Int32) (p1 : Int32) (p2 : Int32) (p3 : Int32) (p4 : Int32) (sz : Nat) : Met l yX5_needs wsX5_needs ({ frames := 2, cells := 0, slots := 0, locals := 90 }) (va_Pc [.ref h0, .int p0, .int p1, .int p2, .int p3, .int p4] (fun U => U.heap.size = sz ∧ va_P (dC, dI) vwCl [(h0, .inr (5, [.ref g_row, .int 0, .int 2, .int 0, .ref g_many, .ref g_loss, .ref g_less, .ref g_voteValue, .ref g_voteNumber, .ref g_allValue, .ref g_allNumber, .int 0, .ref g_nodeL, .ref g_nodeR, .int 0, .ref g_part, .int 0, .ref g_wasMany, .ref g_wasLoss, .ref g_wasValue, .ref g_wasNumber, .ref g_path, .int 0, .ref g_heavyValue, .ref g_heavyTimes, .int 0, .ref g_fewest, .ref g_which, .ref g_met, .int 0]))] U.heap ∧ va_K (dC, dI) vwCl [] U ∧ va_D (fun _ => True) [(h0, .inr (5, [.ref g_row, .int 0, .int 2, .int 0, .ref g_many, .ref g_loss, .ref g_less, .ref g_voteValue, .ref g_voteNumber, .ref g_allValue, .ref g_allNumber, .int 0, .ref g_nodeL, .ref g_nodeR, .int 0, .ref g_part, .int 0, .ref g_wasMany, .ref g_wasLoss, .ref g_wasValue, .ref g_wasNumber, .ref g_path, .int 0, .ref g_heavyValue, .ref g_heavyTimes, .int 0, .ref g_fewest, .ref g_which, .ref g_met, .int 0]))])) (va_Qi (fun (r : Int32) (_ : Unit) => r = (-1)) (fun (_ : Unit) (t : State) => va_P (dC, dI) vwCl [] t.heap ∧ va_K (dC, dI) vwCl [] t ∧ va_D (va_A [(h0, .inr (5, [.ref g_row, .int 0, .int 2, .int 0, .ref g_many, .ref g_loss, .ref g_less, .ref g_voteValue, .ref g_voteNumber, .ref g_allValue, .ref g_allNumber, .int 0, .ref g_nodeL, .ref g_nodeR, .int 0, .ref g_part, .int 0, .ref g_wasMany, .ref g_wasLoss, .ref g_wasValue, .ref g_wasNumber, .ref g_path, .int 0, .ref g_heavyValue, .ref g_heavyTimes, .int 0, .ref g_fewest, .ref g_which, .ref g_met, .int 0]))] sz) []) (va_A [(h0, .inr (5, [.ref g_row, .int 0, .int 2, .int 0, .ref g_many, .ref g_loss, .ref g_less, .ref g_voteValue, .ref g_voteNumber, .ref g_allValue, .ref g_allNumber, .int 0, .ref g_nodeL, .ref g_nodeR, .int 0, .ref g_part, .int 0, .ref g_wasMany, .ref g_wasLoss, .ref g_wasValue, .ref g_wasNumber, .ref g_path, .int 0, .ref g_heavyValue, .ref g_heavyTimes, .int 0, .ref g_fewest, .ref g_which, .ref g_met, .int 0]))] sz)) 0 0 (va_A [(h0, .inr (5, [.ref g_row, .int 0, .int 2, .int 0, .ref g_many, .ref g_loss, .ref g_less, .ref g_voteValue, .ref g_voteNumber, .ref g_allValue, .ref g_allNumber, .int 0, .ref g_nodeL, .ref g_nodeR, .int 0, .ref g_part, .int 0, .ref g_wasMany, .ref g_wasLoss, .ref g_wasValue, .ref g_wasNumber, .ref g_path, .int 0, .ref g_heavyValue, .ref g_heavyTimes, .int 0, .ref g_fewest, .ref g_which, .ref g_met, .int 0]))] sz) := by
  refine Met.ofW (cc := cX5_needs) (maxL := 8) (ret := (some .int)) (by decide) rfl ?_
  intro p e s m args below meth c s₁ B hml hv
  obtain ⟨rfl, hsz, hP, hK, hD0⟩ := hv
  have hx := B.exec
  have hb := B.bytes
  have hr := B.returns
  have hts := atoms_spec (ws := wsX5_needs) B.pre
  have hown : s.vm.findClass RX5 = some m.cls := findClass_of_methodNamed B.named
  have hlocks := B.notSynchronized
  subst hsz
  have hD := hD0.self (sz := s.heap.size)
  generalize hAe : va_A [(h0, .inr (5, [.ref g_row, .int 0, .int 2, .int 0, .ref g_many, .ref g_loss, .ref g_less, .ref g_voteValue, .ref g_voteNumber, .ref g_allValue, .ref g_allNumber, .int 0, .ref g_nodeL, .ref g_nodeR, .int 0, .ref g_part, .int 0, .ref g_wasMany, .ref g_wasLoss, .ref g_wasValue, .ref g_wasNumber, .ref g_path, .int 0, .ref g_heavyValue, .ref g_heavyTimes, .int 0, .ref g_fewest, .ref g_which, .ref g_met, .int 0]))] s.heap.size = A at hD ⊢
  have hA : ∀ q : Nat, s.heap.size ≤ q → A q := fun q h => by rw [← hAe]; exact Or.inr h
  have hS : va_S A s.heap s.heap [] := va_S.rf
  have hP : va_P (dC, dI) vwCl [(h0, .inr (5, [.ref g_row, .int 0, .int 2, .int 0, .ref g_many, .ref g_loss, .ref g_less, .ref g_voteValue, .ref g_voteNumber, .ref g_allValue, .ref g_allNumber, .int 0, .ref g_nodeL, .ref g_nodeR, .int 0, .ref g_part, .int 0, .ref g_wasMany, .ref g_wasLoss, .ref g_wasValue, .ref g_wasNumber, .ref g_path, .int 0, .ref g_heavyValue, .ref g_heavyTimes, .int 0, .ref g_fewest, .ref g_which, .ref g_met, .int 0]))] s.heap := hP
  have hl := lv_entry ([.ref h0, .int p0, .int p1, .int p2, .int p3, .int p4]) (n := 8) (Nat.le_of_ble_eq_true rfl)
  rw [lg_entry_eq]
  generalize (lg_sl ([.ref h0, .int p0, .int p1, .int p2, .int p3, .int p4]) ++ List.replicate (8 - (lg_sl ([.ref h0, .int p0, .int p1, .int p2, .int p3, .int p4])).length) Slot.unset).toArray = ls at hl ⊢
  have hl : lv_has ls 8 [(0, .ref h0), (1, .int p0), (2, .int p1), (3, .int p2), (4, .int p3), (5, .int p4)] := hl
  have hf_77 := hts (.fieldLink RX5 77 "MajorityIndexModel" "thrown" "I") (by decide +kernel)
  have hi_5 : ∀ w ∈ u_ws RX5 TX5 30, w ∈ wsX5_needs := by decide +kernel
  refine lv_aload_n hx hb dX5_needs_0 rfl (lv_at hl 0 rfl) ?_
  refine lv_iconst (v := 0) hx hb dX5_needs_1 (by decide) ?_
  refine va_put (D := (dC, dI)) (ci := 5) (v := .int 0) (ty := .int) (C := RX5) (T := TX5) (N := 30) hx hb hts hi_5 tyX5 tyX5_ok nmX5 hown hK hP hD hS 0 rfl rfl 3 (by decide) hf_77 (fun _ h9 => h9) rfl (by decide +kernel) rfl rfl (Nat.le_of_ble_eq_true rfl) dX5_needs_2 (fun H locs hP hD hS => ?_)
  have hP : va_P (dC, dI) vwCl [(h0, .inr (5, [.ref g_row, .int 0, .int 2, .int 0, .ref g_many, .ref g_loss, .ref g_less, .ref g_voteValue, .ref g_voteNumber, .ref g_allValue, .ref g_allNumber, .int 0, .ref g_nodeL, .ref g_nodeR, .int 0, .ref g_part, .int 0, .ref g_wasMany, .ref g_wasLoss, .ref g_wasValue, .ref g_wasNumber, .ref g_path, .int 0, .ref g_heavyValue, .ref g_heavyTimes, .int 0, .ref g_fewest, .ref g_which, .ref g_met, .int 0]))] H := hP
  have hD : va_D A [(h0, .inr (5, [.ref g_row, .int 0, .int 2, .int 0, .ref g_many, .ref g_loss, .ref g_less, .ref g_voteValue, .ref g_voteNumber, .ref g_allValue, .ref g_allNumber, .int 0, .ref g_nodeL, .ref g_nodeR, .int 0, .ref g_part, .int 0, .ref g_wasMany, .ref g_wasLoss, .ref g_wasValue, .ref g_wasNumber, .ref g_path, .int 0, .ref g_heavyValue, .ref g_heavyTimes, .int 0, .ref g_fewest, .ref g_which, .ref g_met, .int 0]))] := hD
  refine lv_iload_n hx hb dX5_needs_5 rfl (lv_at hl 1 rfl) ?_
  have hPc := hP.sub (ws' := []) [] rfl
  have hKc := hK.sub (tys' := []) [] rfl
  refine vp_callSi (W.runS (As := [.int p0]) (rest := []) ⟨hx, hb, hml, hown, hts⟩ (c_X5_isValue l dC dI p0) (va_cwS 1 hts gX5_needs_X5_isValue rfl rfl rfl (by decide +kernel) ⟨Nat.le_of_ble_eq_true rfl, Nat.le_of_ble_eq_true rfl⟩) ⟨fun a U g mk q => by obtain ⟨q0, qP, qK⟩ := q; exact ⟨q0, qP, va_K.moved (u := U) (U := U.calling g mk a) (Vm.Alike.refl U.vm) qK⟩, fun U hU hW => ⟨rfl, by rw [hU]; exact hPc, va_K.moved hW.alike hKc⟩⟩ rfl rfl hl.1 rfl (lv_room (Nat.le_of_ble_eq_true rfl)) dX5_needs_6 ⟨Nat.le_of_ble_eq_true rfl, Nat.le_of_ble_eq_true rfl⟩) (fun r_1 w_1 => ?_)
  rcases w_1 with ⟨rfl, w_1⟩ | ⟨rfl, w_1⟩
  · have w_1 : (-32768 ≤ p0.toInt ∧ p0.toInt ≤ 32767) := w_1
    refine lv_if_eq (tgt := 31) hx hb dX5_needs_9 (by decide) (fun c_2 => ?_) (fun c_2 => ?_)
    · exact absurd c_2 (by decide)
    · refine lv_aload_n hx hb dX5_needs_12 rfl (lv_at hl 0 rfl) ?_
      refine lv_iload_n hx hb dX5_needs_13 rfl (lv_at hl 2 rfl) ?_
      refine lv_iload_n hx hb dX5_needs_14 rfl (lv_at hl 3 rfl) ?_
      have hPc := hP.sub (ws' := [(h0, .inr (5, [.ref g_row, .int 0, .int 2, .int 0, .ref g_many, .ref g_loss, .ref g_less, .ref g_voteValue, .ref g_voteNumber, .ref g_allValue, .ref g_allNumber, .int 0, .ref g_nodeL, .ref g_nodeR, .int 0, .ref g_part, .int 0, .ref g_wasMany, .ref g_wasLoss, .ref g_wasValue, .ref g_wasNumber, .ref g_path, .int 0, .ref g_heavyValue, .ref g_heavyTimes, .int 0, .ref g_fewest, .ref g_which, .ref g_met, .int 0]))]) [0] rfl
      have hKc := hK.sub (tys' := []) [] rfl
      refine vp_callSi (W.runV (As := [.int p1, .int p2]) (rest := []) ⟨hx, hb, hml, hown, hts⟩ (c_X5_isRange l dC dI h0 g_row g_many g_loss g_less g_voteValue g_voteNumber g_allValue g_allNumber g_nodeL g_nodeR g_part g_wasMany g_wasLoss g_wasValue g_wasNumber g_path g_heavyValue g_heavyTimes g_fewest g_which g_met 0 p1 p2) (cwV 2 hts gX5_needs_X5_isRange rfl rfl rfl (by decide +kernel) ⟨Nat.le_of_ble_eq_true rfl, Nat.le_of_ble_eq_true rfl⟩) ⟨fun a U g mk q => by obtain ⟨q0, qP, qK⟩ := q; exact ⟨q0, qP, va_K.moved (u := U) (U := U.calling g mk a) (Vm.Alike.refl U.vm) qK⟩, va_recv hKc hPc (ci := 5) (q0 := 0) rfl rfl, fun U hU hW => ⟨rfl, by rw [hU]; exact hPc, va_K.moved hW.alike hKc⟩⟩ rfl rfl hl.1 rfl (lv_room (Nat.le_of_ble_eq_true rfl)) dX5_needs_15 ⟨Nat.le_of_ble_eq_true rfl, Nat.le_of_ble_eq_true rfl⟩) (fun r_3 w_3 => ?_)
      rcases w_3 with ⟨rfl, w_3⟩
      · have w_3 : True := w_3
        refine lv_if_eq (tgt := 31) hx hb dX5_needs_18 (by decide) (fun c_4 => ?_) (fun c_4 => ?_)
        · refine lv_iconst (v := (-1)) hx hb dX5_needs_31 (by decide) ?_
          have hP9 := hP.sub (ws' := []) [] rfl
          have hD9 := hD.sub (ws' := []) [] (by decide) rfl
          have hK9 := hK.sub (tys' := []) [] rfl
          exact W.iret (v := (-1)) hx hb hr (fun t ht hW => ⟨⟨(-1), (), rfl, rfl, by rw [ht]; exact hP9, va_K.moved hW.alike hK9, hD9⟩, hS.F ht⟩) hS.2.2 dX5_needs_32
        · exact absurd c_4 (by decide)
  · have w_1 : (p0.toInt < -32768 ∨ 32767 < p0.toInt) := w_1
    refine lv_if_eq (tgt := 31) hx hb dX5_needs_9 (by decide) (fun c_5 => ?_) (fun c_5 => ?_)
    · refine lv_iconst (v := (-1)) hx hb dX5_needs_31 (by decide) ?_
      have hP9 := hP.sub (ws' := []) [] rfl
      have hD9 := hD.sub (ws' := []) [] (by decide) rfl
      have hK9 := hK.sub (tys' := []) [] rfl
      exact W.iret (v := (-1)) hx hb hr (fun t ht hW => ⟨⟨(-1), (), rfl, rfl, by rw [ht]; exact hP9, va_K.moved hW.alike hK9, hD9⟩, hS.F ht⟩) hS.2.2 dX5_needs_32
    · exact absurd c_5 (by decide)

set_option maxHeartbeats 4000000 in
set_option maxRecDepth 100000 in
/-- spares of the reference, fresh -/
theorem c_X5_spares (l : Launch) (dC : Nat → ClassId) (dI : Nat → Nat → Nat) (h0 : Nat) (g_row : Nat) (g_many : Nat) (g_loss : Nat) (g_less : Nat) (g_voteValue : Nat) (g_voteNumber : Nat) (g_allValue : Nat) (g_allNumber : Nat) (g_nodeL : Nat) (g_nodeR : Nat) (g_part : Nat) (g_wasMany : Nat) (g_wasLoss : Nat) (g_wasValue : Nat) (g_wasNumber : Nat) (g_path : Nat) (g_heavyValue : Nat) (g_heavyTimes : Nat) (g_fewest : Nat) (g_which : Nat) (g_met : Nat) (p0 : Int32) (p1 : Int32) (p2 : Int32) (p3 : Int32) (p4 : Int32) (sz : Nat) : Met l yX5_spares wsX5_spares ({ frames := 2, cells := 0, slots := 0, locals := 90 }) (va_Pc [.ref h0, .int p0, .int p1, .int p2, .int p3, .int p4] (fun U => U.heap.size = sz ∧ va_P (dC, dI) vwCl [(h0, .inr (5, [.ref g_row, .int 0, .int 2, .int 0, .ref g_many, .ref g_loss, .ref g_less, .ref g_voteValue, .ref g_voteNumber, .ref g_allValue, .ref g_allNumber, .int 0, .ref g_nodeL, .ref g_nodeR, .int 0, .ref g_part, .int 0, .ref g_wasMany, .ref g_wasLoss, .ref g_wasValue, .ref g_wasNumber, .ref g_path, .int 0, .ref g_heavyValue, .ref g_heavyTimes, .int 0, .ref g_fewest, .ref g_which, .ref g_met, .int 0]))] U.heap ∧ va_K (dC, dI) vwCl [] U ∧ va_D (fun _ => True) [(h0, .inr (5, [.ref g_row, .int 0, .int 2, .int 0, .ref g_many, .ref g_loss, .ref g_less, .ref g_voteValue, .ref g_voteNumber, .ref g_allValue, .ref g_allNumber, .int 0, .ref g_nodeL, .ref g_nodeR, .int 0, .ref g_part, .int 0, .ref g_wasMany, .ref g_wasLoss, .ref g_wasValue, .ref g_wasNumber, .ref g_path, .int 0, .ref g_heavyValue, .ref g_heavyTimes, .int 0, .ref g_fewest, .ref g_which, .ref g_met, .int 0]))])) (va_Qi (fun (r : Int32) (_ : Unit) => r = (-1)) (fun (_ : Unit) (t : State) => va_P (dC, dI) vwCl [] t.heap ∧ va_K (dC, dI) vwCl [] t ∧ va_D (va_A [(h0, .inr (5, [.ref g_row, .int 0, .int 2, .int 0, .ref g_many, .ref g_loss, .ref g_less, .ref g_voteValue, .ref g_voteNumber, .ref g_allValue, .ref g_allNumber, .int 0, .ref g_nodeL, .ref g_nodeR, .int 0, .ref g_part, .int 0, .ref g_wasMany, .ref g_wasLoss, .ref g_wasValue, .ref g_wasNumber, .ref g_path, .int 0, .ref g_heavyValue, .ref g_heavyTimes, .int 0, .ref g_fewest, .ref g_which, .ref g_met, .int 0]))] sz) []) (va_A [(h0, .inr (5, [.ref g_row, .int 0, .int 2, .int 0, .ref g_many, .ref g_loss, .ref g_less, .ref g_voteValue, .ref g_voteNumber, .ref g_allValue, .ref g_allNumber, .int 0, .ref g_nodeL, .ref g_nodeR, .int 0, .ref g_part, .int 0, .ref g_wasMany, .ref g_wasLoss, .ref g_wasValue, .ref g_wasNumber, .ref g_path, .int 0, .ref g_heavyValue, .ref g_heavyTimes, .int 0, .ref g_fewest, .ref g_which, .ref g_met, .int 0]))] sz)) 0 0 (va_A [(h0, .inr (5, [.ref g_row, .int 0, .int 2, .int 0, .ref g_many, .ref g_loss, .ref g_less, .ref g_voteValue, .ref g_voteNumber, .ref g_allValue, .ref g_allNumber, .int 0, .ref g_nodeL, .ref g_nodeR, .int 0, .ref g_part, .int 0, .ref g_wasMany, .ref g_wasLoss, .ref g_wasValue, .ref g_wasNumber, .ref g_path, .int 0, .ref g_heavyValue, .ref g_heavyTimes, .int 0, .ref g_fewest, .ref g_which, .ref g_met, .int 0]))] sz) := by
  refine Met.ofW (cc := cX5_spares) (maxL := 8) (ret := (some .int)) (by decide) rfl ?_
  intro p e s m args below meth c s₁ B hml hv
  obtain ⟨rfl, hsz, hP, hK, hD0⟩ := hv
  have hx := B.exec
  have hb := B.bytes
  have hr := B.returns
  have hts := atoms_spec (ws := wsX5_spares) B.pre
  have hown : s.vm.findClass RX5 = some m.cls := findClass_of_methodNamed B.named
  have hlocks := B.notSynchronized
  subst hsz
  have hD := hD0.self (sz := s.heap.size)
  generalize hAe : va_A [(h0, .inr (5, [.ref g_row, .int 0, .int 2, .int 0, .ref g_many, .ref g_loss, .ref g_less, .ref g_voteValue, .ref g_voteNumber, .ref g_allValue, .ref g_allNumber, .int 0, .ref g_nodeL, .ref g_nodeR, .int 0, .ref g_part, .int 0, .ref g_wasMany, .ref g_wasLoss, .ref g_wasValue, .ref g_wasNumber, .ref g_path, .int 0, .ref g_heavyValue, .ref g_heavyTimes, .int 0, .ref g_fewest, .ref g_which, .ref g_met, .int 0]))] s.heap.size = A at hD ⊢
  have hA : ∀ q : Nat, s.heap.size ≤ q → A q := fun q h => by rw [← hAe]; exact Or.inr h
  have hS : va_S A s.heap s.heap [] := va_S.rf
  have hP : va_P (dC, dI) vwCl [(h0, .inr (5, [.ref g_row, .int 0, .int 2, .int 0, .ref g_many, .ref g_loss, .ref g_less, .ref g_voteValue, .ref g_voteNumber, .ref g_allValue, .ref g_allNumber, .int 0, .ref g_nodeL, .ref g_nodeR, .int 0, .ref g_part, .int 0, .ref g_wasMany, .ref g_wasLoss, .ref g_wasValue, .ref g_wasNumber, .ref g_path, .int 0, .ref g_heavyValue, .ref g_heavyTimes, .int 0, .ref g_fewest, .ref g_which, .ref g_met, .int 0]))] s.heap := hP
  have hl := lv_entry ([.ref h0, .int p0, .int p1, .int p2, .int p3, .int p4]) (n := 8) (Nat.le_of_ble_eq_true rfl)
  rw [lg_entry_eq]
  generalize (lg_sl ([.ref h0, .int p0, .int p1, .int p2, .int p3, .int p4]) ++ List.replicate (8 - (lg_sl ([.ref h0, .int p0, .int p1, .int p2, .int p3, .int p4])).length) Slot.unset).toArray = ls at hl ⊢
  have hl : lv_has ls 8 [(0, .ref h0), (1, .int p0), (2, .int p1), (3, .int p2), (4, .int p3), (5, .int p4)] := hl
  have hf_77 := hts (.fieldLink RX5 77 "MajorityIndexModel" "thrown" "I") (by decide +kernel)
  have hi_5 : ∀ w ∈ u_ws RX5 TX5 30, w ∈ wsX5_spares := by decide +kernel
  refine lv_aload_n hx hb dX5_spares_0 rfl (lv_at hl 0 rfl) ?_
  refine lv_iconst (v := 0) hx hb dX5_spares_1 (by decide) ?_
  refine va_put (D := (dC, dI)) (ci := 5) (v := .int 0) (ty := .int) (C := RX5) (T := TX5) (N := 30) hx hb hts hi_5 tyX5 tyX5_ok nmX5 hown hK hP hD hS 0 rfl rfl 3 (by decide) hf_77 (fun _ h9 => h9) rfl (by decide +kernel) rfl rfl (Nat.le_of_ble_eq_true rfl) dX5_spares_2 (fun H locs hP hD hS => ?_)
  have hP : va_P (dC, dI) vwCl [(h0, .inr (5, [.ref g_row, .int 0, .int 2, .int 0, .ref g_many, .ref g_loss, .ref g_less, .ref g_voteValue, .ref g_voteNumber, .ref g_allValue, .ref g_allNumber, .int 0, .ref g_nodeL, .ref g_nodeR, .int 0, .ref g_part, .int 0, .ref g_wasMany, .ref g_wasLoss, .ref g_wasValue, .ref g_wasNumber, .ref g_path, .int 0, .ref g_heavyValue, .ref g_heavyTimes, .int 0, .ref g_fewest, .ref g_which, .ref g_met, .int 0]))] H := hP
  have hD : va_D A [(h0, .inr (5, [.ref g_row, .int 0, .int 2, .int 0, .ref g_many, .ref g_loss, .ref g_less, .ref g_voteValue, .ref g_voteNumber, .ref g_allValue, .ref g_allNumber, .int 0, .ref g_nodeL, .ref g_nodeR, .int 0, .ref g_part, .int 0, .ref g_wasMany, .ref g_wasLoss, .ref g_wasValue, .ref g_wasNumber, .ref g_path, .int 0, .ref g_heavyValue, .ref g_heavyTimes, .int 0, .ref g_fewest, .ref g_which, .ref g_met, .int 0]))] := hD
  refine lv_iload_n hx hb dX5_spares_5 rfl (lv_at hl 1 rfl) ?_
  have hPc := hP.sub (ws' := []) [] rfl
  have hKc := hK.sub (tys' := []) [] rfl
  refine vp_callSi (W.runS (As := [.int p0]) (rest := []) ⟨hx, hb, hml, hown, hts⟩ (c_X5_isValue l dC dI p0) (va_cwS 1 hts gX5_spares_X5_isValue rfl rfl rfl (by decide +kernel) ⟨Nat.le_of_ble_eq_true rfl, Nat.le_of_ble_eq_true rfl⟩) ⟨fun a U g mk q => by obtain ⟨q0, qP, qK⟩ := q; exact ⟨q0, qP, va_K.moved (u := U) (U := U.calling g mk a) (Vm.Alike.refl U.vm) qK⟩, fun U hU hW => ⟨rfl, by rw [hU]; exact hPc, va_K.moved hW.alike hKc⟩⟩ rfl rfl hl.1 rfl (lv_room (Nat.le_of_ble_eq_true rfl)) dX5_spares_6 ⟨Nat.le_of_ble_eq_true rfl, Nat.le_of_ble_eq_true rfl⟩) (fun r_1 w_1 => ?_)
  rcases w_1 with ⟨rfl, w_1⟩ | ⟨rfl, w_1⟩
  · have w_1 : (-32768 ≤ p0.toInt ∧ p0.toInt ≤ 32767) := w_1
    refine lv_if_eq (tgt := 31) hx hb dX5_spares_9 (by decide) (fun c_2 => ?_) (fun c_2 => ?_)
    · exact absurd c_2 (by decide)
    · refine lv_aload_n hx hb dX5_spares_12 rfl (lv_at hl 0 rfl) ?_
      refine lv_iload_n hx hb dX5_spares_13 rfl (lv_at hl 2 rfl) ?_
      refine lv_iload_n hx hb dX5_spares_14 rfl (lv_at hl 3 rfl) ?_
      have hPc := hP.sub (ws' := [(h0, .inr (5, [.ref g_row, .int 0, .int 2, .int 0, .ref g_many, .ref g_loss, .ref g_less, .ref g_voteValue, .ref g_voteNumber, .ref g_allValue, .ref g_allNumber, .int 0, .ref g_nodeL, .ref g_nodeR, .int 0, .ref g_part, .int 0, .ref g_wasMany, .ref g_wasLoss, .ref g_wasValue, .ref g_wasNumber, .ref g_path, .int 0, .ref g_heavyValue, .ref g_heavyTimes, .int 0, .ref g_fewest, .ref g_which, .ref g_met, .int 0]))]) [0] rfl
      have hKc := hK.sub (tys' := []) [] rfl
      refine vp_callSi (W.runV (As := [.int p1, .int p2]) (rest := []) ⟨hx, hb, hml, hown, hts⟩ (c_X5_isRange l dC dI h0 g_row g_many g_loss g_less g_voteValue g_voteNumber g_allValue g_allNumber g_nodeL g_nodeR g_part g_wasMany g_wasLoss g_wasValue g_wasNumber g_path g_heavyValue g_heavyTimes g_fewest g_which g_met 0 p1 p2) (cwV 2 hts gX5_spares_X5_isRange rfl rfl rfl (by decide +kernel) ⟨Nat.le_of_ble_eq_true rfl, Nat.le_of_ble_eq_true rfl⟩) ⟨fun a U g mk q => by obtain ⟨q0, qP, qK⟩ := q; exact ⟨q0, qP, va_K.moved (u := U) (U := U.calling g mk a) (Vm.Alike.refl U.vm) qK⟩, va_recv hKc hPc (ci := 5) (q0 := 0) rfl rfl, fun U hU hW => ⟨rfl, by rw [hU]; exact hPc, va_K.moved hW.alike hKc⟩⟩ rfl rfl hl.1 rfl (lv_room (Nat.le_of_ble_eq_true rfl)) dX5_spares_15 ⟨Nat.le_of_ble_eq_true rfl, Nat.le_of_ble_eq_true rfl⟩) (fun r_3 w_3 => ?_)
      rcases w_3 with ⟨rfl, w_3⟩
      · have w_3 : True := w_3
        refine lv_if_eq (tgt := 31) hx hb dX5_spares_18 (by decide) (fun c_4 => ?_) (fun c_4 => ?_)
        · refine lv_iconst (v := (-1)) hx hb dX5_spares_31 (by decide) ?_
          have hP9 := hP.sub (ws' := []) [] rfl
          have hD9 := hD.sub (ws' := []) [] (by decide) rfl
          have hK9 := hK.sub (tys' := []) [] rfl
          exact W.iret (v := (-1)) hx hb hr (fun t ht hW => ⟨⟨(-1), (), rfl, rfl, by rw [ht]; exact hP9, va_K.moved hW.alike hK9, hD9⟩, hS.F ht⟩) hS.2.2 dX5_spares_32
        · exact absurd c_4 (by decide)
  · have w_1 : (p0.toInt < -32768 ∨ 32767 < p0.toInt) := w_1
    refine lv_if_eq (tgt := 31) hx hb dX5_spares_9 (by decide) (fun c_5 => ?_) (fun c_5 => ?_)
    · refine lv_iconst (v := (-1)) hx hb dX5_spares_31 (by decide) ?_
      have hP9 := hP.sub (ws' := []) [] rfl
      have hD9 := hD.sub (ws' := []) [] (by decide) rfl
      have hK9 := hK.sub (tys' := []) [] rfl
      exact W.iret (v := (-1)) hx hb hr (fun t ht hW => ⟨⟨(-1), (), rfl, rfl, by rw [ht]; exact hP9, va_K.moved hW.alike hK9, hD9⟩, hS.F ht⟩) hS.2.2 dX5_spares_32
    · exact absurd c_5 (by decide)

set_option maxHeartbeats 4000000 in
set_option maxRecDepth 100000 in
/-- would of the reference, fresh -/
theorem c_X5_would (l : Launch) (dC : Nat → ClassId) (dI : Nat → Nat → Nat) (h0 : Nat) (g_row : Nat) (g_many : Nat) (g_loss : Nat) (g_less : Nat) (g_voteValue : Nat) (g_voteNumber : Nat) (g_allValue : Nat) (g_allNumber : Nat) (g_nodeL : Nat) (g_nodeR : Nat) (g_part : Nat) (g_wasMany : Nat) (g_wasLoss : Nat) (g_wasValue : Nat) (g_wasNumber : Nat) (g_path : Nat) (g_heavyValue : Nat) (g_heavyTimes : Nat) (g_fewest : Nat) (g_which : Nat) (g_met : Nat) (p0 : Int32) (p1 : Int32) (p2 : Int32) (p3 : Int32) (sz : Nat) : Met l yX5_would wsX5_would ({ frames := 2, cells := 0, slots := 0, locals := 90 }) (va_Pc [.ref h0, .int p0, .int p1, .int p2, .int p3] (fun U => U.heap.size = sz ∧ va_P (dC, dI) vwCl [(h0, .inr (5, [.ref g_row, .int 0, .int 2, .int 0, .ref g_many, .ref g_loss, .ref g_less, .ref g_voteValue, .ref g_voteNumber, .ref g_allValue, .ref g_allNumber, .int 0, .ref g_nodeL, .ref g_nodeR, .int 0, .ref g_part, .int 0, .ref g_wasMany, .ref g_wasLoss, .ref g_wasValue, .ref g_wasNumber, .ref g_path, .int 0, .ref g_heavyValue, .ref g_heavyTimes, .int 0, .ref g_fewest, .ref g_which, .ref g_met, .int 0]))] U.heap ∧ va_K (dC, dI) vwCl [] U ∧ va_D (fun _ => True) [(h0, .inr (5, [.ref g_row, .int 0, .int 2, .int 0, .ref g_many, .ref g_loss, .ref g_less, .ref g_voteValue, .ref g_voteNumber, .ref g_allValue, .ref g_allNumber, .int 0, .ref g_nodeL, .ref g_nodeR, .int 0, .ref g_part, .int 0, .ref g_wasMany, .ref g_wasLoss, .ref g_wasValue, .ref g_wasNumber, .ref g_path, .int 0, .ref g_heavyValue, .ref g_heavyTimes, .int 0, .ref g_fewest, .ref g_which, .ref g_met, .int 0]))])) (va_Qi (fun (r : Int32) (_ : Unit) => r = (-40000)) (fun (_ : Unit) (t : State) => va_P (dC, dI) vwCl [] t.heap ∧ va_K (dC, dI) vwCl [] t ∧ va_D (va_A [(h0, .inr (5, [.ref g_row, .int 0, .int 2, .int 0, .ref g_many, .ref g_loss, .ref g_less, .ref g_voteValue, .ref g_voteNumber, .ref g_allValue, .ref g_allNumber, .int 0, .ref g_nodeL, .ref g_nodeR, .int 0, .ref g_part, .int 0, .ref g_wasMany, .ref g_wasLoss, .ref g_wasValue, .ref g_wasNumber, .ref g_path, .int 0, .ref g_heavyValue, .ref g_heavyTimes, .int 0, .ref g_fewest, .ref g_which, .ref g_met, .int 0]))] sz) []) (va_A [(h0, .inr (5, [.ref g_row, .int 0, .int 2, .int 0, .ref g_many, .ref g_loss, .ref g_less, .ref g_voteValue, .ref g_voteNumber, .ref g_allValue, .ref g_allNumber, .int 0, .ref g_nodeL, .ref g_nodeR, .int 0, .ref g_part, .int 0, .ref g_wasMany, .ref g_wasLoss, .ref g_wasValue, .ref g_wasNumber, .ref g_path, .int 0, .ref g_heavyValue, .ref g_heavyTimes, .int 0, .ref g_fewest, .ref g_which, .ref g_met, .int 0]))] sz)) 0 0 (va_A [(h0, .inr (5, [.ref g_row, .int 0, .int 2, .int 0, .ref g_many, .ref g_loss, .ref g_less, .ref g_voteValue, .ref g_voteNumber, .ref g_allValue, .ref g_allNumber, .int 0, .ref g_nodeL, .ref g_nodeR, .int 0, .ref g_part, .int 0, .ref g_wasMany, .ref g_wasLoss, .ref g_wasValue, .ref g_wasNumber, .ref g_path, .int 0, .ref g_heavyValue, .ref g_heavyTimes, .int 0, .ref g_fewest, .ref g_which, .ref g_met, .int 0]))] sz) := by
  refine Met.ofW (cc := cX5_would) (maxL := 7) (ret := (some .int)) (by decide) rfl ?_
  intro p e s m args below meth c s₁ B hml hv
  obtain ⟨rfl, hsz, hP, hK, hD0⟩ := hv
  have hx := B.exec
  have hb := B.bytes
  have hr := B.returns
  have hts := atoms_spec (ws := wsX5_would) B.pre
  have hown : s.vm.findClass RX5 = some m.cls := findClass_of_methodNamed B.named
  have hlocks := B.notSynchronized
  subst hsz
  have hD := hD0.self (sz := s.heap.size)
  generalize hAe : va_A [(h0, .inr (5, [.ref g_row, .int 0, .int 2, .int 0, .ref g_many, .ref g_loss, .ref g_less, .ref g_voteValue, .ref g_voteNumber, .ref g_allValue, .ref g_allNumber, .int 0, .ref g_nodeL, .ref g_nodeR, .int 0, .ref g_part, .int 0, .ref g_wasMany, .ref g_wasLoss, .ref g_wasValue, .ref g_wasNumber, .ref g_path, .int 0, .ref g_heavyValue, .ref g_heavyTimes, .int 0, .ref g_fewest, .ref g_which, .ref g_met, .int 0]))] s.heap.size = A at hD ⊢
  have hA : ∀ q : Nat, s.heap.size ≤ q → A q := fun q h => by rw [← hAe]; exact Or.inr h
  have hS : va_S A s.heap s.heap [] := va_S.rf
  have hP : va_P (dC, dI) vwCl [(h0, .inr (5, [.ref g_row, .int 0, .int 2, .int 0, .ref g_many, .ref g_loss, .ref g_less, .ref g_voteValue, .ref g_voteNumber, .ref g_allValue, .ref g_allNumber, .int 0, .ref g_nodeL, .ref g_nodeR, .int 0, .ref g_part, .int 0, .ref g_wasMany, .ref g_wasLoss, .ref g_wasValue, .ref g_wasNumber, .ref g_path, .int 0, .ref g_heavyValue, .ref g_heavyTimes, .int 0, .ref g_fewest, .ref g_which, .ref g_met, .int 0]))] s.heap := hP
  have hl := lv_entry ([.ref h0, .int p0, .int p1, .int p2, .int p3]) (n := 7) (Nat.le_of_ble_eq_true rfl)
  rw [lg_entry_eq]
  generalize (lg_sl ([.ref h0, .int p0, .int p1, .int p2, .int p3]) ++ List.replicate (7 - (lg_sl ([.ref h0, .int p0, .int p1, .int p2, .int p3])).length) Slot.unset).toArray = ls at hl ⊢
  have hl : lv_has ls 7 [(0, .ref h0), (1, .int p0), (2, .int p1), (3, .int p2), (4, .int p3)] := hl
  have hf_77 := hts (.fieldLink RX5 77 "MajorityIndexModel" "thrown" "I") (by decide +kernel)
  have hi_5 : ∀ w ∈ u_ws RX5 TX5 30, w ∈ wsX5_would := by decide +kernel
  have hk_148 := hts (.constant RX5 148 (-40000)) (by decide +kernel)
  refine lv_aload_n hx hb dX5_would_0 rfl (lv_at hl 0 rfl) ?_
  refine lv_iconst (v := 0) hx hb dX5_would_1 (by decide) ?_
  refine va_put (D := (dC, dI)) (ci := 5) (v := .int 0) (ty := .int) (C := RX5) (T := TX5) (N := 30) hx hb hts hi_5 tyX5 tyX5_ok nmX5 hown hK hP hD hS 0 rfl rfl 3 (by decide) hf_77 (fun _ h9 => h9) rfl (by decide +kernel) rfl rfl (Nat.le_of_ble_eq_true rfl) dX5_would_2 (fun H locs hP hD hS => ?_)
  have hP : va_P (dC, dI) vwCl [(h0, .inr (5, [.ref g_row, .int 0, .int 2, .int 0, .ref g_many, .ref g_loss, .ref g_less, .ref g_voteValue, .ref g_voteNumber, .ref g_allValue, .ref g_allNumber, .int 0, .ref g_nodeL, .ref g_nodeR, .int 0, .ref g_part, .int 0, .ref g_wasMany, .ref g_wasLoss, .ref g_wasValue, .ref g_wasNumber, .ref g_path, .int 0, .ref g_heavyValue, .ref g_heavyTimes, .int 0, .ref g_fewest, .ref g_which, .ref g_met, .int 0]))] H := hP
  have hD : va_D A [(h0, .inr (5, [.ref g_row, .int 0, .int 2, .int 0, .ref g_many, .ref g_loss, .ref g_less, .ref g_voteValue, .ref g_voteNumber, .ref g_allValue, .ref g_allNumber, .int 0, .ref g_nodeL, .ref g_nodeR, .int 0, .ref g_part, .int 0, .ref g_wasMany, .ref g_wasLoss, .ref g_wasValue, .ref g_wasNumber, .ref g_path, .int 0, .ref g_heavyValue, .ref g_heavyTimes, .int 0, .ref g_fewest, .ref g_which, .ref g_met, .int 0]))] := hD
  refine lv_aload_n hx hb dX5_would_5 rfl (lv_at hl 0 rfl) ?_
  refine lv_iload_n hx hb dX5_would_6 rfl (lv_at hl 1 rfl) ?_
  have hPc := hP.sub (ws' := [(h0, .inr (5, [.ref g_row, .int 0, .int 2, .int 0, .ref g_many, .ref g_loss, .ref g_less, .ref g_voteValue, .ref g_voteNumber, .ref g_allValue, .ref g_allNumber, .int 0, .ref g_nodeL, .ref g_nodeR, .int 0, .ref g_part, .int 0, .ref g_wasMany, .ref g_wasLoss, .ref g_wasValue, .ref g_wasNumber, .ref g_path, .int 0, .ref g_heavyValue, .ref g_heavyTimes, .int 0, .ref g_fewest, .ref g_which, .ref g_met, .int 0]))]) [0] rfl
  have hKc := hK.sub (tys' := []) [] rfl
  refine vp_callSi (W.runV (As := [.int p0]) (rest := []) ⟨hx, hb, hml, hown, hts⟩ (c_X5_isPlace l dC dI h0 g_row g_many g_loss g_less g_voteValue g_voteNumber g_allValue g_allNumber g_nodeL g_nodeR g_part g_wasMany g_wasLoss g_wasValue g_wasNumber g_path g_heavyValue g_heavyTimes g_fewest g_which g_met 0 p0) (cwV 1 hts gX5_would_X5_isPlace rfl rfl rfl (by decide +kernel) ⟨Nat.le_of_ble_eq_true rfl, Nat.le_of_ble_eq_true rfl⟩) ⟨fun a U g mk q => by obtain ⟨q0, qP, qK⟩ := q; exact ⟨q0, qP, va_K.moved (u := U) (U := U.calling g mk a) (Vm.Alike.refl U.vm) qK⟩, va_recv hKc hPc (ci := 5) (q0 := 0) rfl rfl, fun U hU hW => ⟨rfl, by rw [hU]; exact hPc, va_K.moved hW.alike hKc⟩⟩ rfl rfl hl.1 rfl (lv_room (Nat.le_of_ble_eq_true rfl)) dX5_would_7 ⟨Nat.le_of_ble_eq_true rfl, Nat.le_of_ble_eq_true rfl⟩) (fun r_1 w_1 => ?_)
  rcases w_1 with ⟨rfl, w_1⟩
  · have w_1 : True := w_1
    refine lv_if_eq (tgt := 30) hx hb dX5_would_10 (by decide) (fun c_2 => ?_) (fun c_2 => ?_)
    · refine lv_ldc (v := (-40000)) hx hb hown hk_148 dX5_would_30 ?_
      have hP9 := hP.sub (ws' := []) [] rfl
      have hD9 := hD.sub (ws' := []) [] (by decide) rfl
      have hK9 := hK.sub (tys' := []) [] rfl
      exact W.iret (v := (-40000)) hx hb hr (fun t ht hW => ⟨⟨(-40000), (), rfl, rfl, by rw [ht]; exact hP9, va_K.moved hW.alike hK9, hD9⟩, hS.F ht⟩) hS.2.2 dX5_would_32
    · exact absurd c_2 (by decide)

set_option maxHeartbeats 4000000 in
set_option maxRecDepth 100000 in
/-- swings of the reference, fresh -/
theorem c_X5_swings (l : Launch) (dC : Nat → ClassId) (dI : Nat → Nat → Nat) (h0 : Nat) (g_row : Nat) (g_many : Nat) (g_loss : Nat) (g_less : Nat) (g_voteValue : Nat) (g_voteNumber : Nat) (g_allValue : Nat) (g_allNumber : Nat) (g_nodeL : Nat) (g_nodeR : Nat) (g_part : Nat) (g_wasMany : Nat) (g_wasLoss : Nat) (g_wasValue : Nat) (g_wasNumber : Nat) (g_path : Nat) (g_heavyValue : Nat) (g_heavyTimes : Nat) (g_fewest : Nat) (g_which : Nat) (g_met : Nat) (p0 : Int32) (p1 : Int32) (p2 : Int32) (p3 : Int32) (sz : Nat) : Met l yX5_swings wsX5_swings ({ frames := 1, cells := 0, slots := 0, locals := 45 }) (va_Pc [.ref h0, .int p0, .int p1, .int p2, .int p3] (fun U => U.heap.size = sz ∧ va_P (dC, dI) vwCl [(h0, .inr (5, [.ref g_row, .int 0, .int 2, .int 0, .ref g_many, .ref g_loss, .ref g_less, .ref g_voteValue, .ref g_voteNumber, .ref g_allValue, .ref g_allNumber, .int 0, .ref g_nodeL, .ref g_nodeR, .int 0, .ref g_part, .int 0, .ref g_wasMany, .ref g_wasLoss, .ref g_wasValue, .ref g_wasNumber, .ref g_path, .int 0, .ref g_heavyValue, .ref g_heavyTimes, .int 0, .ref g_fewest, .ref g_which, .ref g_met, .int 0]))] U.heap ∧ va_K (dC, dI) vwCl [] U ∧ va_D (fun _ => True) [(h0, .inr (5, [.ref g_row, .int 0, .int 2, .int 0, .ref g_many, .ref g_loss, .ref g_less, .ref g_voteValue, .ref g_voteNumber, .ref g_allValue, .ref g_allNumber, .int 0, .ref g_nodeL, .ref g_nodeR, .int 0, .ref g_part, .int 0, .ref g_wasMany, .ref g_wasLoss, .ref g_wasValue, .ref g_wasNumber, .ref g_path, .int 0, .ref g_heavyValue, .ref g_heavyTimes, .int 0, .ref g_fewest, .ref g_which, .ref g_met, .int 0]))])) (va_Qi (fun (r : Int32) (_ : Unit) => r = (-1)) (fun (_ : Unit) (t : State) => va_P (dC, dI) vwCl [] t.heap ∧ va_K (dC, dI) vwCl [] t ∧ va_D (va_A [(h0, .inr (5, [.ref g_row, .int 0, .int 2, .int 0, .ref g_many, .ref g_loss, .ref g_less, .ref g_voteValue, .ref g_voteNumber, .ref g_allValue, .ref g_allNumber, .int 0, .ref g_nodeL, .ref g_nodeR, .int 0, .ref g_part, .int 0, .ref g_wasMany, .ref g_wasLoss, .ref g_wasValue, .ref g_wasNumber, .ref g_path, .int 0, .ref g_heavyValue, .ref g_heavyTimes, .int 0, .ref g_fewest, .ref g_which, .ref g_met, .int 0]))] sz) []) (va_A [(h0, .inr (5, [.ref g_row, .int 0, .int 2, .int 0, .ref g_many, .ref g_loss, .ref g_less, .ref g_voteValue, .ref g_voteNumber, .ref g_allValue, .ref g_allNumber, .int 0, .ref g_nodeL, .ref g_nodeR, .int 0, .ref g_part, .int 0, .ref g_wasMany, .ref g_wasLoss, .ref g_wasValue, .ref g_wasNumber, .ref g_path, .int 0, .ref g_heavyValue, .ref g_heavyTimes, .int 0, .ref g_fewest, .ref g_which, .ref g_met, .int 0]))] sz)) 0 0 (va_A [(h0, .inr (5, [.ref g_row, .int 0, .int 2, .int 0, .ref g_many, .ref g_loss, .ref g_less, .ref g_voteValue, .ref g_voteNumber, .ref g_allValue, .ref g_allNumber, .int 0, .ref g_nodeL, .ref g_nodeR, .int 0, .ref g_part, .int 0, .ref g_wasMany, .ref g_wasLoss, .ref g_wasValue, .ref g_wasNumber, .ref g_path, .int 0, .ref g_heavyValue, .ref g_heavyTimes, .int 0, .ref g_fewest, .ref g_which, .ref g_met, .int 0]))] sz) := by
  refine Met.ofW (cc := cX5_swings) (maxL := 10) (ret := (some .int)) (by decide) rfl ?_
  intro p e s m args below meth c s₁ B hml hv
  obtain ⟨rfl, hsz, hP, hK, hD0⟩ := hv
  have hx := B.exec
  have hb := B.bytes
  have hr := B.returns
  have hts := atoms_spec (ws := wsX5_swings) B.pre
  have hown : s.vm.findClass RX5 = some m.cls := findClass_of_methodNamed B.named
  have hlocks := B.notSynchronized
  subst hsz
  have hD := hD0.self (sz := s.heap.size)
  generalize hAe : va_A [(h0, .inr (5, [.ref g_row, .int 0, .int 2, .int 0, .ref g_many, .ref g_loss, .ref g_less, .ref g_voteValue, .ref g_voteNumber, .ref g_allValue, .ref g_allNumber, .int 0, .ref g_nodeL, .ref g_nodeR, .int 0, .ref g_part, .int 0, .ref g_wasMany, .ref g_wasLoss, .ref g_wasValue, .ref g_wasNumber, .ref g_path, .int 0, .ref g_heavyValue, .ref g_heavyTimes, .int 0, .ref g_fewest, .ref g_which, .ref g_met, .int 0]))] s.heap.size = A at hD ⊢
  have hA : ∀ q : Nat, s.heap.size ≤ q → A q := fun q h => by rw [← hAe]; exact Or.inr h
  have hS : va_S A s.heap s.heap [] := va_S.rf
  have hP : va_P (dC, dI) vwCl [(h0, .inr (5, [.ref g_row, .int 0, .int 2, .int 0, .ref g_many, .ref g_loss, .ref g_less, .ref g_voteValue, .ref g_voteNumber, .ref g_allValue, .ref g_allNumber, .int 0, .ref g_nodeL, .ref g_nodeR, .int 0, .ref g_part, .int 0, .ref g_wasMany, .ref g_wasLoss, .ref g_wasValue, .ref g_wasNumber, .ref g_path, .int 0, .ref g_heavyValue, .ref g_heavyTimes, .int 0, .ref g_fewest, .ref g_which, .ref g_met, .int 0]))] s.heap := hP
  have hl := lv_entry ([.ref h0, .int p0, .int p1, .int p2, .int p3]) (n := 10) (Nat.le_of_ble_eq_true rfl)
  rw [lg_entry_eq]
  generalize (lg_sl ([.ref h0, .int p0, .int p1, .int p2, .int p3]) ++ List.replicate (10 - (lg_sl ([.ref h0, .int p0, .int p1, .int p2, .int p3])).length) Slot.unset).toArray = ls at hl ⊢
  have hl : lv_has ls 10 [(0, .ref h0), (1, .int p0), (2, .int p1), (3, .int p2), (4, .int p3)] := hl
  have hf_77 := hts (.fieldLink RX5 77 "MajorityIndexModel" "thrown" "I") (by decide +kernel)
  have hi_5 : ∀ w ∈ u_ws RX5 TX5 30, w ∈ wsX5_swings := by decide +kernel
  refine lv_aload_n hx hb dX5_swings_0 rfl (lv_at hl 0 rfl) ?_
  refine lv_iconst (v := 0) hx hb dX5_swings_1 (by decide) ?_
  refine va_put (D := (dC, dI)) (ci := 5) (v := .int 0) (ty := .int) (C := RX5) (T := TX5) (N := 30) hx hb hts hi_5 tyX5 tyX5_ok nmX5 hown hK hP hD hS 0 rfl rfl 3 (by decide) hf_77 (fun _ h9 => h9) rfl (by decide +kernel) rfl rfl (Nat.le_of_ble_eq_true rfl) dX5_swings_2 (fun H locs hP hD hS => ?_)
  have hP : va_P (dC, dI) vwCl [(h0, .inr (5, [.ref g_row, .int 0, .int 2, .int 0, .ref g_many, .ref g_loss, .ref g_less, .ref g_voteValue, .ref g_voteNumber, .ref g_allValue, .ref g_allNumber, .int 0, .ref g_nodeL, .ref g_nodeR, .int 0, .ref g_part, .int 0, .ref g_wasMany, .ref g_wasLoss, .ref g_wasValue, .ref g_wasNumber, .ref g_path, .int 0, .ref g_heavyValue, .ref g_heavyTimes, .int 0, .ref g_fewest, .ref g_which, .ref g_met, .int 0]))] H := hP
  have hD : va_D A [(h0, .inr (5, [.ref g_row, .int 0, .int 2, .int 0, .ref g_many, .ref g_loss, .ref g_less, .ref g_voteValue, .ref g_voteNumber, .ref g_allValue, .ref g_allNumber, .int 0, .ref g_nodeL, .ref g_nodeR, .int 0, .ref g_part, .int 0, .ref g_wasMany, .ref g_wasLoss, .ref g_wasValue, .ref g_wasNumber, .ref g_path, .int 0, .ref g_heavyValue, .ref g_heavyTimes, .int 0, .ref g_fewest, .ref g_which, .ref g_met, .int 0]))] := hD
  refine lv_aload_n hx hb dX5_swings_5 rfl (lv_at hl 0 rfl) ?_
  refine lv_iload_n hx hb dX5_swings_6 rfl (lv_at hl 1 rfl) ?_
  refine lv_iload_n hx hb dX5_swings_7 rfl (lv_at hl 2 rfl) ?_
  have hPc := hP.sub (ws' := [(h0, .inr (5, [.ref g_row, .int 0, .int 2, .int 0, .ref g_many, .ref g_loss, .ref g_less, .ref g_voteValue, .ref g_voteNumber, .ref g_allValue, .ref g_allNumber, .int 0, .ref g_nodeL, .ref g_nodeR, .int 0, .ref g_part, .int 0, .ref g_wasMany, .ref g_wasLoss, .ref g_wasValue, .ref g_wasNumber, .ref g_path, .int 0, .ref g_heavyValue, .ref g_heavyTimes, .int 0, .ref g_fewest, .ref g_which, .ref g_met, .int 0]))]) [0] rfl
  have hKc := hK.sub (tys' := []) [] rfl
  refine vp_callSi (W.runV (As := [.int p0, .int p1]) (rest := []) ⟨hx, hb, hml, hown, hts⟩ (c_X5_isRange l dC dI h0 g_row g_many g_loss g_less g_voteValue g_voteNumber g_allValue g_allNumber g_nodeL g_nodeR g_part g_wasMany g_wasLoss g_wasValue g_wasNumber g_path g_heavyValue g_heavyTimes g_fewest g_which g_met 0 p0 p1) (cwV 2 hts gX5_swings_X5_isRange rfl rfl rfl (by decide +kernel) ⟨Nat.le_of_ble_eq_true rfl, Nat.le_of_ble_eq_true rfl⟩) ⟨fun a U g mk q => by obtain ⟨q0, qP, qK⟩ := q; exact ⟨q0, qP, va_K.moved (u := U) (U := U.calling g mk a) (Vm.Alike.refl U.vm) qK⟩, va_recv hKc hPc (ci := 5) (q0 := 0) rfl rfl, fun U hU hW => ⟨rfl, by rw [hU]; exact hPc, va_K.moved hW.alike hKc⟩⟩ rfl rfl hl.1 rfl (lv_room (Nat.le_of_ble_eq_true rfl)) dX5_swings_8 ⟨Nat.le_of_ble_eq_true rfl, Nat.le_of_ble_eq_true rfl⟩) (fun r_1 w_1 => ?_)
  rcases w_1 with ⟨rfl, w_1⟩
  · have w_1 : True := w_1
    refine lv_if_eq (tgt := 39) hx hb dX5_swings_11 (by decide) (fun c_2 => ?_) (fun c_2 => ?_)
    · refine lv_iconst (v := (-1)) hx hb dX5_swings_39 (by decide) ?_
      have hP9 := hP.sub (ws' := []) [] rfl
      have hD9 := hD.sub (ws' := []) [] (by decide) rfl
      have hK9 := hK.sub (tys' := []) [] rfl
      exact W.iret (v := (-1)) hx hb hr (fun t ht hW => ⟨⟨(-1), (), rfl, rfl, by rw [ht]; exact hP9, va_K.moved hW.alike hK9, hD9⟩, hS.F ht⟩) hS.2.2 dX5_swings_40
    · exact absurd c_2 (by decide)

set_option maxHeartbeats 4000000 in
set_option maxRecDepth 100000 in
theorem c_X5_windows (l : Launch) (dC : Nat → ClassId) (dI : Nat → Nat → Nat) (h0 : Nat) (g_row : Nat) (g_many : Nat) (g_loss : Nat) (g_less : Nat) (g_voteValue : Nat) (g_voteNumber : Nat) (g_allValue : Nat) (g_allNumber : Nat) (g_nodeL : Nat) (g_nodeR : Nat) (g_part : Nat) (g_wasMany : Nat) (g_wasLoss : Nat) (g_wasValue : Nat) (g_wasNumber : Nat) (g_path : Nat) (g_heavyValue : Nat) (g_heavyTimes : Nat) (g_fewest : Nat) (g_which : Nat) (g_met : Nat) (p0 : Int32) (p1 : Int32) (p2 : Int32) (p3 : Int32) (sz : Nat) : Met l yX5_windows wsX5_windows ({ frames := 1, cells := 0, slots := 0, locals := 45 }) (va_Pc [.ref h0, .int p0, .int p1, .int p2, .int p3] (fun U => U.heap.size = sz ∧ va_P (dC, dI) vwCl [(h0, .inr (5, [.ref g_row, .int 0, .int 2, .int 0, .ref g_many, .ref g_loss, .ref g_less, .ref g_voteValue, .ref g_voteNumber, .ref g_allValue, .ref g_allNumber, .int 0, .ref g_nodeL, .ref g_nodeR, .int 0, .ref g_part, .int 0, .ref g_wasMany, .ref g_wasLoss, .ref g_wasValue, .ref g_wasNumber, .ref g_path, .int 0, .ref g_heavyValue, .ref g_heavyTimes, .int 0, .ref g_fewest, .ref g_which, .ref g_met, .int 0]))] U.heap ∧ va_K (dC, dI) vwCl [] U ∧ va_D (fun _ => True) [(h0, .inr (5, [.ref g_row, .int 0, .int 2, .int 0, .ref g_many, .ref g_loss, .ref g_less, .ref g_voteValue, .ref g_voteNumber, .ref g_allValue, .ref g_allNumber, .int 0, .ref g_nodeL, .ref g_nodeR, .int 0, .ref g_part, .int 0, .ref g_wasMany, .ref g_wasLoss, .ref g_wasValue, .ref g_wasNumber, .ref g_path, .int 0, .ref g_heavyValue, .ref g_heavyTimes, .int 0, .ref g_fewest, .ref g_which, .ref g_met, .int 0]))])) (va_Qi (fun (r : Int32) (_ : Unit) => (r = (-40000) ∧ p3.toInt = 1) ∨ (r = (-1) ∧ ¬ p3.toInt = 1)) (fun (_ : Unit) (t : State) => va_P (dC, dI) vwCl [] t.heap ∧ va_K (dC, dI) vwCl [] t ∧ va_D (va_A [(h0, .inr (5, [.ref g_row, .int 0, .int 2, .int 0, .ref g_many, .ref g_loss, .ref g_less, .ref g_voteValue, .ref g_voteNumber, .ref g_allValue, .ref g_allNumber, .int 0, .ref g_nodeL, .ref g_nodeR, .int 0, .ref g_part, .int 0, .ref g_wasMany, .ref g_wasLoss, .ref g_wasValue, .ref g_wasNumber, .ref g_path, .int 0, .ref g_heavyValue, .ref g_heavyTimes, .int 0, .ref g_fewest, .ref g_which, .ref g_met, .int 0]))] sz) []) (va_A [(h0, .inr (5, [.ref g_row, .int 0, .int 2, .int 0, .ref g_many, .ref g_loss, .ref g_less, .ref g_voteValue, .ref g_voteNumber, .ref g_allValue, .ref g_allNumber, .int 0, .ref g_nodeL, .ref g_nodeR, .int 0, .ref g_part, .int 0, .ref g_wasMany, .ref g_wasLoss, .ref g_wasValue, .ref g_wasNumber, .ref g_path, .int 0, .ref g_heavyValue, .ref g_heavyTimes, .int 0, .ref g_fewest, .ref g_which, .ref g_met, .int 0]))] sz)) 0 0 (va_A [(h0, .inr (5, [.ref g_row, .int 0, .int 2, .int 0, .ref g_many, .ref g_loss, .ref g_less, .ref g_voteValue, .ref g_voteNumber, .ref g_allValue, .ref g_allNumber, .int 0, .ref g_nodeL, .ref g_nodeR, .int 0, .ref g_part, .int 0, .ref g_wasMany, .ref g_wasLoss, .ref g_wasValue, .ref g_wasNumber, .ref g_path, .int 0, .ref g_heavyValue, .ref g_heavyTimes, .int 0, .ref g_fewest, .ref g_which, .ref g_met, .int 0]))] sz) := by
  refine Met.ofW (cc := cX5_windows) (maxL := 9) (ret := (some .int)) (by decide) rfl ?_
  intro p e s m args below meth c s₁ B hml hv
  obtain ⟨rfl, hsz, hP, hK, hD0⟩ := hv
  have hx := B.exec
  have hb := B.bytes
  have hr := B.returns
  have hts := atoms_spec (ws := wsX5_windows) B.pre
  have hown : s.vm.findClass RX5 = some m.cls := findClass_of_methodNamed B.named
  have hlocks := B.notSynchronized
  subst hsz
  have hD := hD0.self (sz := s.heap.size)
  generalize hAe : va_A [(h0, .inr (5, [.ref g_row, .int 0, .int 2, .int 0, .ref g_many, .ref g_loss, .ref g_less, .ref g_voteValue, .ref g_voteNumber, .ref g_allValue, .ref g_allNumber, .int 0, .ref g_nodeL, .ref g_nodeR, .int 0, .ref g_part, .int 0, .ref g_wasMany, .ref g_wasLoss, .ref g_wasValue, .ref g_wasNumber, .ref g_path, .int 0, .ref g_heavyValue, .ref g_heavyTimes, .int 0, .ref g_fewest, .ref g_which, .ref g_met, .int 0]))] s.heap.size = A at hD ⊢
  have hA : ∀ q : Nat, s.heap.size ≤ q → A q := fun q h => by rw [← hAe]; exact Or.inr h
  have hS : va_S A s.heap s.heap [] := va_S.rf
  have hP : va_P (dC, dI) vwCl [(h0, .inr (5, [.ref g_row, .int 0, .int 2, .int 0, .ref g_many, .ref g_loss, .ref g_less, .ref g_voteValue, .ref g_voteNumber, .ref g_allValue, .ref g_allNumber, .int 0, .ref g_nodeL, .ref g_nodeR, .int 0, .ref g_part, .int 0, .ref g_wasMany, .ref g_wasLoss, .ref g_wasValue, .ref g_wasNumber, .ref g_path, .int 0, .ref g_heavyValue, .ref g_heavyTimes, .int 0, .ref g_fewest, .ref g_which, .ref g_met, .int 0]))] s.heap := hP
  have hl := lv_entry ([.ref h0, .int p0, .int p1, .int p2, .int p3]) (n := 9) (Nat.le_of_ble_eq_true rfl)
  rw [lg_entry_eq]
  generalize (lg_sl ([.ref h0, .int p0, .int p1, .int p2, .int p3]) ++ List.replicate (9 - (lg_sl ([.ref h0, .int p0, .int p1, .int p2, .int p3])).length) Slot.unset).toArray = ls at hl ⊢
  have hl : lv_has ls 9 [(0, .ref h0), (1, .int p0), (2, .int p1), (3, .int p2), (4, .int p3)] := hl
  have hf_77 := hts (.fieldLink RX5 77 "MajorityIndexModel" "thrown" "I") (by decide +kernel)
  have hi_5 : ∀ w ∈ u_ws RX5 TX5 30, w ∈ wsX5_windows := by decide +kernel
  have hf_84 := hts (.fieldLink RX5 84 "MajorityIndexModel" "n" "I") (by decide +kernel)
  have hk_148 := hts (.constant RX5 148 (-40000)) (by decide +kernel)
  refine lv_aload_n hx hb dX5_windows_0 rfl (lv_at hl 0 rfl) ?_
  refine lv_iconst (v := 0) hx hb dX5_windows_1 (by decide) ?_
  refine va_put (D := (dC, dI)) (ci := 5) (v := .int 0) (ty := .int) (C := RX5) (T := TX5) (N := 30) hx hb hts hi_5 tyX5 tyX5_ok nmX5 hown hK hP hD hS 0 rfl rfl 3 (by decide) hf_77 (fun _ h9 => h9) rfl (by decide +kernel) rfl rfl (Nat.le_of_ble_eq_true rfl) dX5_windows_2 (fun H locs hP hD hS => ?_)
  have hP : va_P (dC, dI) vwCl [(h0, .inr (5, [.ref g_row, .int 0, .int 2, .int 0, .ref g_many, .ref g_loss, .ref g_less, .ref g_voteValue, .ref g_voteNumber, .ref g_allValue, .ref g_allNumber, .int 0, .ref g_nodeL, .ref g_nodeR, .int 0, .ref g_part, .int 0, .ref g_wasMany, .ref g_wasLoss, .ref g_wasValue, .ref g_wasNumber, .ref g_path, .int 0, .ref g_heavyValue, .ref g_heavyTimes, .int 0, .ref g_fewest, .ref g_which, .ref g_met, .int 0]))] H := hP
  have hD : va_D A [(h0, .inr (5, [.ref g_row, .int 0, .int 2, .int 0, .ref g_many, .ref g_loss, .ref g_less, .ref g_voteValue, .ref g_voteNumber, .ref g_allValue, .ref g_allNumber, .int 0, .ref g_nodeL, .ref g_nodeR, .int 0, .ref g_part, .int 0, .ref g_wasMany, .ref g_wasLoss, .ref g_wasValue, .ref g_wasNumber, .ref g_path, .int 0, .ref g_heavyValue, .ref g_heavyTimes, .int 0, .ref g_fewest, .ref g_which, .ref g_met, .int 0]))] := hD
  refine lv_iload_n hx hb dX5_windows_5 rfl (lv_at hl 1 rfl) ?_
  refine lv_iconst (v := 1) hx hb dX5_windows_6 (by decide) ?_
  refine lv_aload_n hx hb dX5_windows_7 rfl (lv_at hl 0 rfl) ?_
  refine va_get (D := (dC, dI)) (ci := 5) (v := .int 0) (C := RX5) (T := TX5) (N := 30) hx hb hts hi_5 hown hK hP 0 rfl rfl 1 (by decide) hf_84 (fun _ h9 => h9) rfl dX5_windows_8 ?_
  have hPc := hP.sub (ws' := []) [] rfl
  have hKc := hK.sub (tys' := []) [] rfl
  refine vp_callSi (W.runS (As := [.int p0, .int 1, .int 0]) (rest := []) ⟨hx, hb, hml, hown, hts⟩ (c_X5_within l dC dI p0 1 0) (va_cwS 3 hts gX5_windows_X5_within rfl rfl rfl (by decide +kernel) ⟨Nat.le_of_ble_eq_true rfl, Nat.le_of_ble_eq_true rfl⟩) ⟨fun a U g mk q => by obtain ⟨q0, qP, qK⟩ := q; exact ⟨q0, qP, va_K.moved (u := U) (U := U.calling g mk a) (Vm.Alike.refl U.vm) qK⟩, fun U hU hW => ⟨rfl, by rw [hU]; exact hPc, va_K.moved hW.alike hKc⟩⟩ rfl rfl hl.1 rfl (lv_room (Nat.le_of_ble_eq_true rfl)) dX5_windows_11 ⟨Nat.le_of_ble_eq_true rfl, Nat.le_of_ble_eq_true rfl⟩) (fun r_1 w_1 => ?_)
  rcases w_1 with ⟨rfl, w_1⟩ | ⟨rfl, w_1⟩
  · have w_1 : (1 ≤ p0.toInt ∧ p0.toInt ≤ 0) := w_1
    exfalso; omega
  · have w_1 : (p0.toInt < 1 ∨ 0 < p0.toInt) := w_1
    refine lv_if_eq (tgt := 35) hx hb dX5_windows_14 (by decide) (fun c_2 => ?_) (fun c_2 => ?_)
    · refine lv_iload hx hb dX5_windows_35 (lv_at hl 4 rfl) ?_
      refine lv_iconst (v := 1) hx hb dX5_windows_37 (by decide) ?_
      refine lv_icmp_ne (tgt := 46) hx hb dX5_windows_38 (by decide) (fun c_3 => ?_) (fun c_3 => ?_)
      · have i_3 : ¬ p3.toInt = 1 := kc_ne c_3
        refine lv_iconst (v := (-1)) hx hb dX5_windows_46 (by decide) ?_
        have hP9 := hP.sub (ws' := []) [] rfl
        have hD9 := hD.sub (ws' := []) [] (by decide) rfl
        have hK9 := hK.sub (tys' := []) [] rfl
        exact W.iret (v := (-1)) hx hb hr (fun t ht hW => ⟨⟨(-1), (), rfl, Or.inr (⟨rfl, by omega⟩), by rw [ht]; exact hP9, va_K.moved hW.alike hK9, hD9⟩, hS.F ht⟩) hS.2.2 dX5_windows_47
      · have i_3 : p3.toInt = 1 := kc_eq c_3
        refine lv_ldc (v := (-40000)) hx hb hown hk_148 dX5_windows_41 ?_
        refine lv_goto (tgt := 47) hx hb dX5_windows_43 (by decide) ?_
        have hP9 := hP.sub (ws' := []) [] rfl
        have hD9 := hD.sub (ws' := []) [] (by decide) rfl
        have hK9 := hK.sub (tys' := []) [] rfl
        exact W.iret (v := (-40000)) hx hb hr (fun t ht hW => ⟨⟨(-40000), (), rfl, Or.inl ⟨rfl, by omega⟩, by rw [ht]; exact hP9, va_K.moved hW.alike hK9, hD9⟩, hS.F ht⟩) hS.2.2 dX5_windows_47
    · exact absurd c_2 (by decide)

set_option maxHeartbeats 4000000 in
set_option maxRecDepth 100000 in
theorem c_X5_slots (l : Launch) (dC : Nat → ClassId) (dI : Nat → Nat → Nat) (h0 : Nat) (g_row : Nat) (g_many : Nat) (g_loss : Nat) (g_less : Nat) (g_voteValue : Nat) (g_voteNumber : Nat) (g_allValue : Nat) (g_allNumber : Nat) (g_nodeL : Nat) (g_nodeR : Nat) (g_part : Nat) (g_wasMany : Nat) (g_wasLoss : Nat) (g_wasValue : Nat) (g_wasNumber : Nat) (g_path : Nat) (g_heavyValue : Nat) (g_heavyTimes : Nat) (g_fewest : Nat) (g_which : Nat) (g_met : Nat) (p0 : Int32) (sz : Nat) : Met l yX5_slots wsX5_slots ({ frames := 1, cells := 0, slots := 0, locals := 45 }) (va_Pc [.ref h0, .int p0] (fun U => U.heap.size = sz ∧ va_P (dC, dI) vwCl [(h0, .inr (5, [.ref g_row, .int 0, .int 2, .int 0, .ref g_many, .ref g_loss, .ref g_less, .ref g_voteValue, .ref g_voteNumber, .ref g_allValue, .ref g_allNumber, .int 0, .ref g_nodeL, .ref g_nodeR, .int 0, .ref g_part, .int 0, .ref g_wasMany, .ref g_wasLoss, .ref g_wasValue, .ref g_wasNumber, .ref g_path, .int 0, .ref g_heavyValue, .ref g_heavyTimes, .int 0, .ref g_fewest, .ref g_which, .ref g_met, .int 0]))] U.heap ∧ va_K (dC, dI) vwCl [] U ∧ va_D (fun _ => True) [(h0, .inr (5, [.ref g_row, .int 0, .int 2, .int 0, .ref g_many, .ref g_loss, .ref g_less, .ref g_voteValue, .ref g_voteNumber, .ref g_allValue, .ref g_allNumber, .int 0, .ref g_nodeL, .ref g_nodeR, .int 0, .ref g_part, .int 0, .ref g_wasMany, .ref g_wasLoss, .ref g_wasValue, .ref g_wasNumber, .ref g_path, .int 0, .ref g_heavyValue, .ref g_heavyTimes, .int 0, .ref g_fewest, .ref g_which, .ref g_met, .int 0]))])) (va_Qi (fun (r : Int32) (_ : Unit) => (r = 2 ∧ (1 ≤ p0.toInt ∧ p0.toInt ≤ 6)) ∨ (r = (-1) ∧ (p0.toInt < 1 ∨ 6 < p0.toInt))) (fun (_ : Unit) (t : State) => va_P (dC, dI) vwCl [] t.heap ∧ va_K (dC, dI) vwCl [] t ∧ va_D (va_A [(h0, .inr (5, [.ref g_row, .int 0, .int 2, .int 0, .ref g_many, .ref g_loss, .ref g_less, .ref g_voteValue, .ref g_voteNumber, .ref g_allValue, .ref g_allNumber, .int 0, .ref g_nodeL, .ref g_nodeR, .int 0, .ref g_part, .int 0, .ref g_wasMany, .ref g_wasLoss, .ref g_wasValue, .ref g_wasNumber, .ref g_path, .int 0, .ref g_heavyValue, .ref g_heavyTimes, .int 0, .ref g_fewest, .ref g_which, .ref g_met, .int 0]))] sz) []) (va_A [(h0, .inr (5, [.ref g_row, .int 0, .int 2, .int 0, .ref g_many, .ref g_loss, .ref g_less, .ref g_voteValue, .ref g_voteNumber, .ref g_allValue, .ref g_allNumber, .int 0, .ref g_nodeL, .ref g_nodeR, .int 0, .ref g_part, .int 0, .ref g_wasMany, .ref g_wasLoss, .ref g_wasValue, .ref g_wasNumber, .ref g_path, .int 0, .ref g_heavyValue, .ref g_heavyTimes, .int 0, .ref g_fewest, .ref g_which, .ref g_met, .int 0]))] sz)) 0 0 (va_A [(h0, .inr (5, [.ref g_row, .int 0, .int 2, .int 0, .ref g_many, .ref g_loss, .ref g_less, .ref g_voteValue, .ref g_voteNumber, .ref g_allValue, .ref g_allNumber, .int 0, .ref g_nodeL, .ref g_nodeR, .int 0, .ref g_part, .int 0, .ref g_wasMany, .ref g_wasLoss, .ref g_wasValue, .ref g_wasNumber, .ref g_path, .int 0, .ref g_heavyValue, .ref g_heavyTimes, .int 0, .ref g_fewest, .ref g_which, .ref g_met, .int 0]))] sz) := by
  refine Met.ofW (cc := cX5_slots) (maxL := 3) (ret := (some .int)) (by decide) rfl ?_
  intro p e s m args below meth c s₁ B hml hv
  obtain ⟨rfl, hsz, hP, hK, hD0⟩ := hv
  have hx := B.exec
  have hb := B.bytes
  have hr := B.returns
  have hts := atoms_spec (ws := wsX5_slots) B.pre
  have hown : s.vm.findClass RX5 = some m.cls := findClass_of_methodNamed B.named
  have hlocks := B.notSynchronized
  subst hsz
  have hD := hD0.self (sz := s.heap.size)
  generalize hAe : va_A [(h0, .inr (5, [.ref g_row, .int 0, .int 2, .int 0, .ref g_many, .ref g_loss, .ref g_less, .ref g_voteValue, .ref g_voteNumber, .ref g_allValue, .ref g_allNumber, .int 0, .ref g_nodeL, .ref g_nodeR, .int 0, .ref g_part, .int 0, .ref g_wasMany, .ref g_wasLoss, .ref g_wasValue, .ref g_wasNumber, .ref g_path, .int 0, .ref g_heavyValue, .ref g_heavyTimes, .int 0, .ref g_fewest, .ref g_which, .ref g_met, .int 0]))] s.heap.size = A at hD ⊢
  have hA : ∀ q : Nat, s.heap.size ≤ q → A q := fun q h => by rw [← hAe]; exact Or.inr h
  have hS : va_S A s.heap s.heap [] := va_S.rf
  have hP : va_P (dC, dI) vwCl [(h0, .inr (5, [.ref g_row, .int 0, .int 2, .int 0, .ref g_many, .ref g_loss, .ref g_less, .ref g_voteValue, .ref g_voteNumber, .ref g_allValue, .ref g_allNumber, .int 0, .ref g_nodeL, .ref g_nodeR, .int 0, .ref g_part, .int 0, .ref g_wasMany, .ref g_wasLoss, .ref g_wasValue, .ref g_wasNumber, .ref g_path, .int 0, .ref g_heavyValue, .ref g_heavyTimes, .int 0, .ref g_fewest, .ref g_which, .ref g_met, .int 0]))] s.heap := hP
  have hl := lv_entry ([.ref h0, .int p0]) (n := 3) (Nat.le_of_ble_eq_true rfl)
  rw [lg_entry_eq]
  generalize (lg_sl ([.ref h0, .int p0]) ++ List.replicate (3 - (lg_sl ([.ref h0, .int p0])).length) Slot.unset).toArray = ls at hl ⊢
  have hl : lv_has ls 3 [(0, .ref h0), (1, .int p0)] := hl
  have hf_77 := hts (.fieldLink RX5 77 "MajorityIndexModel" "thrown" "I") (by decide +kernel)
  have hi_5 : ∀ w ∈ u_ws RX5 TX5 30, w ∈ wsX5_slots := by decide +kernel
  have hf_13 := hts (.fieldLink RX5 13 "MajorityIndexModel" "slots" "I") (by decide +kernel)
  refine lv_aload_n hx hb dX5_slots_0 rfl (lv_at hl 0 rfl) ?_
  refine lv_iconst (v := 0) hx hb dX5_slots_1 (by decide) ?_
  refine va_put (D := (dC, dI)) (ci := 5) (v := .int 0) (ty := .int) (C := RX5) (T := TX5) (N := 30) hx hb hts hi_5 tyX5 tyX5_ok nmX5 hown hK hP hD hS 0 rfl rfl 3 (by decide) hf_77 (fun _ h9 => h9) rfl (by decide +kernel) rfl rfl (Nat.le_of_ble_eq_true rfl) dX5_slots_2 (fun H locs hP hD hS => ?_)
  have hP : va_P (dC, dI) vwCl [(h0, .inr (5, [.ref g_row, .int 0, .int 2, .int 0, .ref g_many, .ref g_loss, .ref g_less, .ref g_voteValue, .ref g_voteNumber, .ref g_allValue, .ref g_allNumber, .int 0, .ref g_nodeL, .ref g_nodeR, .int 0, .ref g_part, .int 0, .ref g_wasMany, .ref g_wasLoss, .ref g_wasValue, .ref g_wasNumber, .ref g_path, .int 0, .ref g_heavyValue, .ref g_heavyTimes, .int 0, .ref g_fewest, .ref g_which, .ref g_met, .int 0]))] H := hP
  have hD : va_D A [(h0, .inr (5, [.ref g_row, .int 0, .int 2, .int 0, .ref g_many, .ref g_loss, .ref g_less, .ref g_voteValue, .ref g_voteNumber, .ref g_allValue, .ref g_allNumber, .int 0, .ref g_nodeL, .ref g_nodeR, .int 0, .ref g_part, .int 0, .ref g_wasMany, .ref g_wasLoss, .ref g_wasValue, .ref g_wasNumber, .ref g_path, .int 0, .ref g_heavyValue, .ref g_heavyTimes, .int 0, .ref g_fewest, .ref g_which, .ref g_met, .int 0]))] := hD
  refine lv_iload_n hx hb dX5_slots_5 rfl (lv_at hl 1 rfl) ?_
  refine lv_iconst (v := 1) hx hb dX5_slots_6 (by decide) ?_
  refine lv_bipush (v := 6) hx hb dX5_slots_7 (by decide) ?_
  have hPc := hP.sub (ws' := []) [] rfl
  have hKc := hK.sub (tys' := []) [] rfl
  refine vp_callSi (W.runS (As := [.int p0, .int 1, .int 6]) (rest := []) ⟨hx, hb, hml, hown, hts⟩ (c_X5_within l dC dI p0 1 6) (va_cwS 3 hts gX5_slots_X5_within rfl rfl rfl (by decide +kernel) ⟨Nat.le_of_ble_eq_true rfl, Nat.le_of_ble_eq_true rfl⟩) ⟨fun a U g mk q => by obtain ⟨q0, qP, qK⟩ := q; exact ⟨q0, qP, va_K.moved (u := U) (U := U.calling g mk a) (Vm.Alike.refl U.vm) qK⟩, fun U hU hW => ⟨rfl, by rw [hU]; exact hPc, va_K.moved hW.alike hKc⟩⟩ rfl rfl hl.1 rfl (lv_room (Nat.le_of_ble_eq_true rfl)) dX5_slots_9 ⟨Nat.le_of_ble_eq_true rfl, Nat.le_of_ble_eq_true rfl⟩) (fun r_1 w_1 => ?_)
  rcases w_1 with ⟨rfl, w_1⟩ | ⟨rfl, w_1⟩
  · have w_1 : (1 ≤ p0.toInt ∧ p0.toInt ≤ 6) := w_1
    refine lv_if_ne (tgt := 17) hx hb dX5_slots_12 (by decide) (fun c_2 => ?_) (fun c_2 => ?_)
    · refine lv_aload_n hx hb dX5_slots_17 rfl (lv_at hl 0 rfl) ?_
      refine va_get (D := (dC, dI)) (ci := 5) (v := .int 2) (C := RX5) (T := TX5) (N := 30) hx hb hts hi_5 hown hK hP 0 rfl rfl 2 (by decide) hf_13 (fun _ h9 => h9) rfl dX5_slots_18 ?_
      refine lv_istore_n (lv' := [(2, .int 2), (0, .ref h0), (1, .int p0)]) hx hb dX5_slots_21 rfl hl (by decide) rfl (fun ls hl => ?_)
      refine lv_aload_n hx hb dX5_slots_22 rfl (lv_at hl 1 rfl) ?_
      refine lv_iload_n hx hb dX5_slots_23 rfl (lv_at hl 2 rfl) ?_
      refine va_put (D := (dC, dI)) (ci := 5) (v := .int p0) (ty := .int) (C := RX5) (T := TX5) (N := 30) hx hb hts hi_5 tyX5 tyX5_ok nmX5 hown hK hP hD hS 0 rfl rfl 2 (by decide) hf_13 (fun _ h9 => h9) rfl (by decide +kernel) rfl rfl (Nat.le_of_ble_eq_true rfl) dX5_slots_24 (fun H locs hP hD hS => ?_)
      have hP : va_P (dC, dI) vwCl [(h0, .inr (5, [.ref g_row, .int 0, .int p0, .int 0, .ref g_many, .ref g_loss, .ref g_less, .ref g_voteValue, .ref g_voteNumber, .ref g_allValue, .ref g_allNumber, .int 0, .ref g_nodeL, .ref g_nodeR, .int 0, .ref g_part, .int 0, .ref g_wasMany, .ref g_wasLoss, .ref g_wasValue, .ref g_wasNumber, .ref g_path, .int 0, .ref g_heavyValue, .ref g_heavyTimes, .int 0, .ref g_fewest, .ref g_which, .ref g_met, .int 0]))] H := hP
      have hD : va_D A [(h0, .inr (5, [.ref g_row, .int 0, .int p0, .int 0, .ref g_many, .ref g_loss, .ref g_less, .ref g_voteValue, .ref g_voteNumber, .ref g_allValue, .ref g_allNumber, .int 0, .ref g_nodeL, .ref g_nodeR, .int 0, .ref g_part, .int 0, .ref g_wasMany, .ref g_wasLoss, .ref g_wasValue, .ref g_wasNumber, .ref g_path, .int 0, .ref g_heavyValue, .ref g_heavyTimes, .int 0, .ref g_fewest, .ref g_which, .ref g_met, .int 0]))] := hD
      refine lv_iload_n hx hb dX5_slots_27 rfl (lv_at hl 0 rfl) ?_
      have hP9 := hP.sub (ws' := []) [] rfl
      have hD9 := hD.sub (ws' := []) [] (by decide) rfl
      have hK9 := hK.sub (tys' := []) [] rfl
      exact W.iret (v := 2) hx hb hr (fun t ht hW => ⟨⟨2, (), rfl, Or.inl ⟨rfl, by omega⟩, by rw [ht]; exact hP9, va_K.moved hW.alike hK9, hD9⟩, hS.F ht⟩) hS.2.2 dX5_slots_28
    · exact absurd c_2 (by decide)
  · have w_1 : (p0.toInt < 1 ∨ 6 < p0.toInt) := w_1
    refine lv_if_ne (tgt := 17) hx hb dX5_slots_12 (by decide) (fun c_3 => ?_) (fun c_3 => ?_)
    · exact absurd c_3 (by decide)
    · refine lv_iconst (v := (-1)) hx hb dX5_slots_15 (by decide) ?_
      have hP9 := hP.sub (ws' := []) [] rfl
      have hD9 := hD.sub (ws' := []) [] (by decide) rfl
      have hK9 := hK.sub (tys' := []) [] rfl
      exact W.iret (v := (-1)) hx hb hr (fun t ht hW => ⟨⟨(-1), (), rfl, Or.inr (⟨rfl, by omega⟩), by rw [ht]; exact hP9, va_K.moved hW.alike hK9, hD9⟩, hS.F ht⟩) hS.2.2 dX5_slots_16

set_option maxHeartbeats 4000000 in
set_option maxRecDepth 100000 in
theorem c_X5_end (l : Launch) (dC : Nat → ClassId) (dI : Nat → Nat → Nat) (h0 : Nat) (g_row : Nat) (g_many : Nat) (g_loss : Nat) (g_less : Nat) (g_voteValue : Nat) (g_voteNumber : Nat) (g_allValue : Nat) (g_allNumber : Nat) (g_nodeL : Nat) (g_nodeR : Nat) (g_part : Nat) (g_wasMany : Nat) (g_wasLoss : Nat) (g_wasValue : Nat) (g_wasNumber : Nat) (g_path : Nat) (g_heavyValue : Nat) (g_heavyTimes : Nat) (g_fewest : Nat) (g_which : Nat) (g_met : Nat) (p0 : Int32) (sz : Nat) : Met l yX5_end wsX5_end ({ frames := 1, cells := 0, slots := 0, locals := 45 }) (va_Pc [.ref h0, .int p0] (fun U => U.heap.size = sz ∧ va_P (dC, dI) vwCl [(h0, .inr (5, [.ref g_row, .int 0, .int 2, .int 0, .ref g_many, .ref g_loss, .ref g_less, .ref g_voteValue, .ref g_voteNumber, .ref g_allValue, .ref g_allNumber, .int 0, .ref g_nodeL, .ref g_nodeR, .int 0, .ref g_part, .int 0, .ref g_wasMany, .ref g_wasLoss, .ref g_wasValue, .ref g_wasNumber, .ref g_path, .int 0, .ref g_heavyValue, .ref g_heavyTimes, .int 0, .ref g_fewest, .ref g_which, .ref g_met, .int 0]))] U.heap ∧ va_K (dC, dI) vwCl [] U ∧ va_D (fun _ => True) [(h0, .inr (5, [.ref g_row, .int 0, .int 2, .int 0, .ref g_many, .ref g_loss, .ref g_less, .ref g_voteValue, .ref g_voteNumber, .ref g_allValue, .ref g_allNumber, .int 0, .ref g_nodeL, .ref g_nodeR, .int 0, .ref g_part, .int 0, .ref g_wasMany, .ref g_wasLoss, .ref g_wasValue, .ref g_wasNumber, .ref g_path, .int 0, .ref g_heavyValue, .ref g_heavyTimes, .int 0, .ref g_fewest, .ref g_which, .ref g_met, .int 0]))])) (va_Qi (fun (r : Int32) (_ : Unit) => (r = -1 ∧ (p0.toInt < 0 ∨ 0 < p0.toInt)) ∨ (r = p0 ∧ p0.toInt = 0)) (fun (_ : Unit) (t : State) => va_P (dC, dI) vwCl [] t.heap ∧ va_K (dC, dI) vwCl [] t ∧ va_D (va_A [(h0, .inr (5, [.ref g_row, .int 0, .int 2, .int 0, .ref g_many, .ref g_loss, .ref g_less, .ref g_voteValue, .ref g_voteNumber, .ref g_allValue, .ref g_allNumber, .int 0, .ref g_nodeL, .ref g_nodeR, .int 0, .ref g_part, .int 0, .ref g_wasMany, .ref g_wasLoss, .ref g_wasValue, .ref g_wasNumber, .ref g_path, .int 0, .ref g_heavyValue, .ref g_heavyTimes, .int 0, .ref g_fewest, .ref g_which, .ref g_met, .int 0]))] sz) []) (va_A [(h0, .inr (5, [.ref g_row, .int 0, .int 2, .int 0, .ref g_many, .ref g_loss, .ref g_less, .ref g_voteValue, .ref g_voteNumber, .ref g_allValue, .ref g_allNumber, .int 0, .ref g_nodeL, .ref g_nodeR, .int 0, .ref g_part, .int 0, .ref g_wasMany, .ref g_wasLoss, .ref g_wasValue, .ref g_wasNumber, .ref g_path, .int 0, .ref g_heavyValue, .ref g_heavyTimes, .int 0, .ref g_fewest, .ref g_which, .ref g_met, .int 0]))] sz)) 0 0 (va_A [(h0, .inr (5, [.ref g_row, .int 0, .int 2, .int 0, .ref g_many, .ref g_loss, .ref g_less, .ref g_voteValue, .ref g_voteNumber, .ref g_allValue, .ref g_allNumber, .int 0, .ref g_nodeL, .ref g_nodeR, .int 0, .ref g_part, .int 0, .ref g_wasMany, .ref g_wasLoss, .ref g_wasValue, .ref g_wasNumber, .ref g_path, .int 0, .ref g_heavyValue, .ref g_heavyTimes, .int 0, .ref g_fewest, .ref g_which, .ref g_met, .int 0]))] sz) := by
  refine Met.ofW (cc := cX5_end) (maxL := 2) (ret := (some .int)) (by decide) rfl ?_
  intro p e s m args below meth c s₁ B hml hv
  obtain ⟨rfl, hsz, hP, hK, hD0⟩ := hv
  have hx := B.exec
  have hb := B.bytes
  have hr := B.returns
  have hts := atoms_spec (ws := wsX5_end) B.pre
  have hown : s.vm.findClass RX5 = some m.cls := findClass_of_methodNamed B.named
  have hlocks := B.notSynchronized
  subst hsz
  have hD := hD0.self (sz := s.heap.size)
  generalize hAe : va_A [(h0, .inr (5, [.ref g_row, .int 0, .int 2, .int 0, .ref g_many, .ref g_loss, .ref g_less, .ref g_voteValue, .ref g_voteNumber, .ref g_allValue, .ref g_allNumber, .int 0, .ref g_nodeL, .ref g_nodeR, .int 0, .ref g_part, .int 0, .ref g_wasMany, .ref g_wasLoss, .ref g_wasValue, .ref g_wasNumber, .ref g_path, .int 0, .ref g_heavyValue, .ref g_heavyTimes, .int 0, .ref g_fewest, .ref g_which, .ref g_met, .int 0]))] s.heap.size = A at hD ⊢
  have hA : ∀ q : Nat, s.heap.size ≤ q → A q := fun q h => by rw [← hAe]; exact Or.inr h
  have hS : va_S A s.heap s.heap [] := va_S.rf
  have hP : va_P (dC, dI) vwCl [(h0, .inr (5, [.ref g_row, .int 0, .int 2, .int 0, .ref g_many, .ref g_loss, .ref g_less, .ref g_voteValue, .ref g_voteNumber, .ref g_allValue, .ref g_allNumber, .int 0, .ref g_nodeL, .ref g_nodeR, .int 0, .ref g_part, .int 0, .ref g_wasMany, .ref g_wasLoss, .ref g_wasValue, .ref g_wasNumber, .ref g_path, .int 0, .ref g_heavyValue, .ref g_heavyTimes, .int 0, .ref g_fewest, .ref g_which, .ref g_met, .int 0]))] s.heap := hP
  have hl := lv_entry ([.ref h0, .int p0]) (n := 2) (Nat.le_of_ble_eq_true rfl)
  rw [lg_entry_eq]
  generalize (lg_sl ([.ref h0, .int p0]) ++ List.replicate (2 - (lg_sl ([.ref h0, .int p0])).length) Slot.unset).toArray = ls at hl ⊢
  have hl : lv_has ls 2 [(0, .ref h0), (1, .int p0)] := hl
  have hf_77 := hts (.fieldLink RX5 77 "MajorityIndexModel" "thrown" "I") (by decide +kernel)
  have hi_5 : ∀ w ∈ u_ws RX5 TX5 30, w ∈ wsX5_end := by decide +kernel
  have hf_84 := hts (.fieldLink RX5 84 "MajorityIndexModel" "n" "I") (by decide +kernel)
  refine lv_aload_n hx hb dX5_end_0 rfl (lv_at hl 0 rfl) ?_
  refine lv_iconst (v := 0) hx hb dX5_end_1 (by decide) ?_
  refine va_put (D := (dC, dI)) (ci := 5) (v := .int 0) (ty := .int) (C := RX5) (T := TX5) (N := 30) hx hb hts hi_5 tyX5 tyX5_ok nmX5 hown hK hP hD hS 0 rfl rfl 3 (by decide) hf_77 (fun _ h9 => h9) rfl (by decide +kernel) rfl rfl (Nat.le_of_ble_eq_true rfl) dX5_end_2 (fun H locs hP hD hS => ?_)
  have hP : va_P (dC, dI) vwCl [(h0, .inr (5, [.ref g_row, .int 0, .int 2, .int 0, .ref g_many, .ref g_loss, .ref g_less, .ref g_voteValue, .ref g_voteNumber, .ref g_allValue, .ref g_allNumber, .int 0, .ref g_nodeL, .ref g_nodeR, .int 0, .ref g_part, .int 0, .ref g_wasMany, .ref g_wasLoss, .ref g_wasValue, .ref g_wasNumber, .ref g_path, .int 0, .ref g_heavyValue, .ref g_heavyTimes, .int 0, .ref g_fewest, .ref g_which, .ref g_met, .int 0]))] H := hP
  have hD : va_D A [(h0, .inr (5, [.ref g_row, .int 0, .int 2, .int 0, .ref g_many, .ref g_loss, .ref g_less, .ref g_voteValue, .ref g_voteNumber, .ref g_allValue, .ref g_allNumber, .int 0, .ref g_nodeL, .ref g_nodeR, .int 0, .ref g_part, .int 0, .ref g_wasMany, .ref g_wasLoss, .ref g_wasValue, .ref g_wasNumber, .ref g_path, .int 0, .ref g_heavyValue, .ref g_heavyTimes, .int 0, .ref g_fewest, .ref g_which, .ref g_met, .int 0]))] := hD
  refine lv_iload_n hx hb dX5_end_5 rfl (lv_at hl 1 rfl) ?_
  refine lv_iconst (v := 0) hx hb dX5_end_6 (by decide) ?_
  refine lv_aload_n hx hb dX5_end_7 rfl (lv_at hl 0 rfl) ?_
  refine va_get (D := (dC, dI)) (ci := 5) (v := .int 0) (C := RX5) (T := TX5) (N := 30) hx hb hts hi_5 hown hK hP 0 rfl rfl 1 (by decide) hf_84 (fun _ h9 => h9) rfl dX5_end_8 ?_
  have hPc := hP.sub (ws' := []) [] rfl
  have hKc := hK.sub (tys' := []) [] rfl
  refine vp_callSi (W.runS (As := [.int p0, .int 0, .int 0]) (rest := []) ⟨hx, hb, hml, hown, hts⟩ (c_X5_within l dC dI p0 0 0) (va_cwS 3 hts gX5_end_X5_within rfl rfl rfl (by decide +kernel) ⟨Nat.le_of_ble_eq_true rfl, Nat.le_of_ble_eq_true rfl⟩) ⟨fun a U g mk q => by obtain ⟨q0, qP, qK⟩ := q; exact ⟨q0, qP, va_K.moved (u := U) (U := U.calling g mk a) (Vm.Alike.refl U.vm) qK⟩, fun U hU hW => ⟨rfl, by rw [hU]; exact hPc, va_K.moved hW.alike hKc⟩⟩ rfl rfl hl.1 rfl (lv_room (Nat.le_of_ble_eq_true rfl)) dX5_end_11 ⟨Nat.le_of_ble_eq_true rfl, Nat.le_of_ble_eq_true rfl⟩) (fun r_1 w_1 => ?_)
  rcases w_1 with ⟨rfl, w_1⟩ | ⟨rfl, w_1⟩
  · have w_1 : (0 ≤ p0.toInt ∧ p0.toInt ≤ 0) := w_1
    refine lv_if_ne (tgt := 19) hx hb dX5_end_14 (by decide) (fun c_2 => ?_) (fun c_2 => ?_)
    · refine lv_aload_n hx hb dX5_end_19 rfl (lv_at hl 0 rfl) ?_
      refine lv_iload_n hx hb dX5_end_20 rfl (lv_at hl 1 rfl) ?_
      refine va_put (D := (dC, dI)) (ci := 5) (v := .int p0) (ty := .int) (C := RX5) (T := TX5) (N := 30) hx hb hts hi_5 tyX5 tyX5_ok nmX5 hown hK hP hD hS 0 rfl rfl 1 (by decide) hf_84 (fun _ h9 => h9) rfl (by decide +kernel) rfl rfl (Nat.le_of_ble_eq_true rfl) dX5_end_21 (fun H locs hP hD hS => ?_)
      have hP : va_P (dC, dI) vwCl [(h0, .inr (5, [.ref g_row, .int p0, .int 2, .int 0, .ref g_many, .ref g_loss, .ref g_less, .ref g_voteValue, .ref g_voteNumber, .ref g_allValue, .ref g_allNumber, .int 0, .ref g_nodeL, .ref g_nodeR, .int 0, .ref g_part, .int 0, .ref g_wasMany, .ref g_wasLoss, .ref g_wasValue, .ref g_wasNumber, .ref g_path, .int 0, .ref g_heavyValue, .ref g_heavyTimes, .int 0, .ref g_fewest, .ref g_which, .ref g_met, .int 0]))] H := hP
      have hD : va_D A [(h0, .inr (5, [.ref g_row, .int p0, .int 2, .int 0, .ref g_many, .ref g_loss, .ref g_less, .ref g_voteValue, .ref g_voteNumber, .ref g_allValue, .ref g_allNumber, .int 0, .ref g_nodeL, .ref g_nodeR, .int 0, .ref g_part, .int 0, .ref g_wasMany, .ref g_wasLoss, .ref g_wasValue, .ref g_wasNumber, .ref g_path, .int 0, .ref g_heavyValue, .ref g_heavyTimes, .int 0, .ref g_fewest, .ref g_which, .ref g_met, .int 0]))] := hD
      refine lv_aload_n hx hb dX5_end_24 rfl (lv_at hl 0 rfl) ?_
      refine va_get (D := (dC, dI)) (ci := 5) (v := .int p0) (C := RX5) (T := TX5) (N := 30) hx hb hts hi_5 hown hK hP 0 rfl rfl 1 (by decide) hf_84 (fun _ h9 => h9) rfl dX5_end_25 ?_
      have hP9 := hP.sub (ws' := []) [] rfl
      have hD9 := hD.sub (ws' := []) [] (by decide) rfl
      have hK9 := hK.sub (tys' := []) [] rfl
      exact W.iret (v := p0) hx hb hr (fun t ht hW => ⟨⟨p0, (), rfl, (by first | exact Or.inl ⟨rfl, by omega⟩ | exact Or.inr ⟨rfl, by omega⟩), by rw [ht]; exact hP9, va_K.moved hW.alike hK9, hD9⟩, hS.F ht⟩) hS.2.2 dX5_end_28
    · exact absurd c_2 (by decide)
  · have w_1 : (p0.toInt < 0 ∨ 0 < p0.toInt) := w_1
    refine lv_if_ne (tgt := 19) hx hb dX5_end_14 (by decide) (fun c_3 => ?_) (fun c_3 => ?_)
    · exact absurd c_3 (by decide)
    · refine lv_iconst (v := (-1)) hx hb dX5_end_17 (by decide) ?_
      have hP9 := hP.sub (ws' := []) [] rfl
      have hD9 := hD.sub (ws' := []) [] (by decide) rfl
      have hK9 := hK.sub (tys' := []) [] rfl
      exact W.iret (v := (-1)) hx hb hr (fun t ht hW => ⟨⟨(-1), (), rfl, (by first | exact Or.inl ⟨rfl, by omega⟩ | exact Or.inr ⟨rfl, by omega⟩), by rw [ht]; exact hP9, va_K.moved hW.alike hK9, hD9⟩, hS.F ht⟩) hS.2.2 dX5_end_18

set_option maxHeartbeats 4000000 in
set_option maxRecDepth 100000 in
theorem c_X5_feed (l : Launch) (dC : Nat → ClassId) (dI : Nat → Nat → Nat) (h0 : Nat) (g_row : Nat) (g_many : Nat) (g_loss : Nat) (g_less : Nat) (g_voteValue : Nat) (g_voteNumber : Nat) (g_allValue : Nat) (g_allNumber : Nat) (g_nodeL : Nat) (g_nodeR : Nat) (g_part : Nat) (g_wasMany : Nat) (g_wasLoss : Nat) (g_wasValue : Nat) (g_wasNumber : Nat) (g_path : Nat) (g_heavyValue : Nat) (g_heavyTimes : Nat) (g_fewest : Nat) (g_which : Nat) (g_met : Nat) (cyI : ClassId) (ff : Nat → Int32) (p0 : Int32) (p1 : Int32) (sz : Nat) : Met l yX5_feed wsX5_feed ({ frames := 0, cells := 0, slots := 0, locals := 0 }) (va_Pc [.ref h0, .int p0, .int p1] (fun U => U.heap.size = sz ∧ va_P (dC, dI) vwCl [(h0, .inr (5, [.ref g_row, .int 0, .int 2, .int 0, .ref g_many, .ref g_loss, .ref g_less, .ref g_voteValue, .ref g_voteNumber, .ref g_allValue, .ref g_allNumber, .int 0, .ref g_nodeL, .ref g_nodeR, .int 0, .ref g_part, .int 0, .ref g_wasMany, .ref g_wasLoss, .ref g_wasValue, .ref g_wasNumber, .ref g_path, .int 0, .ref g_heavyValue, .ref g_heavyTimes, .int 0, .ref g_fewest, .ref g_which, .ref g_met, .int 0])), (g_row, .inl (cyI, 160, .inl ff))] U.heap ∧ va_K (dC, dI) vwCl [(cyI, .int)] U ∧ va_D (fun _ => True) [(h0, .inr (5, [.ref g_row, .int 0, .int 2, .int 0, .ref g_many, .ref g_loss, .ref g_less, .ref g_voteValue, .ref g_voteNumber, .ref g_allValue, .ref g_allNumber, .int 0, .ref g_nodeL, .ref g_nodeR, .int 0, .ref g_part, .int 0, .ref g_wasMany, .ref g_wasLoss, .ref g_wasValue, .ref g_wasNumber, .ref g_path, .int 0, .ref g_heavyValue, .ref g_heavyTimes, .int 0, .ref g_fewest, .ref g_which, .ref g_met, .int 0])), (g_row, .inl (cyI, 160, .inl ff))])) (va_Qi (fun (r : Int32) (_ : Unit) => r = 4) (fun (_ : Unit) (t : State) => va_P (dC, dI) vwCl [] t.heap ∧ va_K (dC, dI) vwCl [(cyI, .int)] t ∧ va_D (va_A [(h0, .inr (5, [.ref g_row, .int 0, .int 2, .int 0, .ref g_many, .ref g_loss, .ref g_less, .ref g_voteValue, .ref g_voteNumber, .ref g_allValue, .ref g_allNumber, .int 0, .ref g_nodeL, .ref g_nodeR, .int 0, .ref g_part, .int 0, .ref g_wasMany, .ref g_wasLoss, .ref g_wasValue, .ref g_wasNumber, .ref g_path, .int 0, .ref g_heavyValue, .ref g_heavyTimes, .int 0, .ref g_fewest, .ref g_which, .ref g_met, .int 0])), (g_row, .inl (cyI, 160, .inl ff))] sz) []) (va_A [(h0, .inr (5, [.ref g_row, .int 0, .int 2, .int 0, .ref g_many, .ref g_loss, .ref g_less, .ref g_voteValue, .ref g_voteNumber, .ref g_allValue, .ref g_allNumber, .int 0, .ref g_nodeL, .ref g_nodeR, .int 0, .ref g_part, .int 0, .ref g_wasMany, .ref g_wasLoss, .ref g_wasValue, .ref g_wasNumber, .ref g_path, .int 0, .ref g_heavyValue, .ref g_heavyTimes, .int 0, .ref g_fewest, .ref g_which, .ref g_met, .int 0])), (g_row, .inl (cyI, 160, .inl ff))] sz)) 0 0 (va_A [(h0, .inr (5, [.ref g_row, .int 0, .int 2, .int 0, .ref g_many, .ref g_loss, .ref g_less, .ref g_voteValue, .ref g_voteNumber, .ref g_allValue, .ref g_allNumber, .int 0, .ref g_nodeL, .ref g_nodeR, .int 0, .ref g_part, .int 0, .ref g_wasMany, .ref g_wasLoss, .ref g_wasValue, .ref g_wasNumber, .ref g_path, .int 0, .ref g_heavyValue, .ref g_heavyTimes, .int 0, .ref g_fewest, .ref g_which, .ref g_met, .int 0])), (g_row, .inl (cyI, 160, .inl ff))] sz) := by
  refine Met.ofW (cc := cX5_feed) (maxL := 3) (ret := (some .int)) (by decide) rfl ?_
  intro p e s m args below meth c s₁ B hml hv
  obtain ⟨rfl, hsz, hP, hK, hD0⟩ := hv
  have hx := B.exec
  have hb := B.bytes
  have hr := B.returns
  have hts := atoms_spec (ws := wsX5_feed) B.pre
  have hown : s.vm.findClass RX5 = some m.cls := findClass_of_methodNamed B.named
  have hlocks := B.notSynchronized
  subst hsz
  have hD := hD0.self (sz := s.heap.size)
  generalize hAe : va_A [(h0, .inr (5, [.ref g_row, .int 0, .int 2, .int 0, .ref g_many, .ref g_loss, .ref g_less, .ref g_voteValue, .ref g_voteNumber, .ref g_allValue, .ref g_allNumber, .int 0, .ref g_nodeL, .ref g_nodeR, .int 0, .ref g_part, .int 0, .ref g_wasMany, .ref g_wasLoss, .ref g_wasValue, .ref g_wasNumber, .ref g_path, .int 0, .ref g_heavyValue, .ref g_heavyTimes, .int 0, .ref g_fewest, .ref g_which, .ref g_met, .int 0])), (g_row, .inl (cyI, 160, .inl ff))] s.heap.size = A at hD ⊢
  have hA : ∀ q : Nat, s.heap.size ≤ q → A q := fun q h => by rw [← hAe]; exact Or.inr h
  have hS : va_S A s.heap s.heap [] := va_S.rf
  have hP : va_P (dC, dI) vwCl [(h0, .inr (5, [.ref g_row, .int 0, .int 2, .int 0, .ref g_many, .ref g_loss, .ref g_less, .ref g_voteValue, .ref g_voteNumber, .ref g_allValue, .ref g_allNumber, .int 0, .ref g_nodeL, .ref g_nodeR, .int 0, .ref g_part, .int 0, .ref g_wasMany, .ref g_wasLoss, .ref g_wasValue, .ref g_wasNumber, .ref g_path, .int 0, .ref g_heavyValue, .ref g_heavyTimes, .int 0, .ref g_fewest, .ref g_which, .ref g_met, .int 0])), (g_row, .inl (cyI, 160, .inl ff))] s.heap := hP
  have hl := lv_entry ([.ref h0, .int p0, .int p1]) (n := 3) (Nat.le_of_ble_eq_true rfl)
  rw [lg_entry_eq]
  generalize (lg_sl ([.ref h0, .int p0, .int p1]) ++ List.replicate (3 - (lg_sl ([.ref h0, .int p0, .int p1])).length) Slot.unset).toArray = ls at hl ⊢
  have hl : lv_has ls 3 [(0, .ref h0), (1, .int p0), (2, .int p1)] := hl
  have hf_77 := hts (.fieldLink RX5 77 "MajorityIndexModel" "thrown" "I") (by decide +kernel)
  have hi_5 : ∀ w ∈ u_ws RX5 TX5 30, w ∈ wsX5_feed := by decide +kernel
  have hf_84 := hts (.fieldLink RX5 84 "MajorityIndexModel" "n" "I") (by decide +kernel)
  have hf_7 := hts (.fieldLink RX5 7 "MajorityIndexModel" "row" "[I") (by decide +kernel)
  refine lv_aload_n hx hb dX5_feed_0 rfl (lv_at hl 0 rfl) ?_
  refine lv_iconst (v := 0) hx hb dX5_feed_1 (by decide) ?_
  refine va_put (D := (dC, dI)) (ci := 5) (v := .int 0) (ty := .int) (C := RX5) (T := TX5) (N := 30) hx hb hts hi_5 tyX5 tyX5_ok nmX5 hown hK hP hD hS 0 rfl rfl 3 (by decide) hf_77 (fun _ h9 => h9) rfl (by decide +kernel) rfl rfl (Nat.le_of_ble_eq_true rfl) dX5_feed_2 (fun H locs hP hD hS => ?_)
  have hP : va_P (dC, dI) vwCl [(h0, .inr (5, [.ref g_row, .int 0, .int 2, .int 0, .ref g_many, .ref g_loss, .ref g_less, .ref g_voteValue, .ref g_voteNumber, .ref g_allValue, .ref g_allNumber, .int 0, .ref g_nodeL, .ref g_nodeR, .int 0, .ref g_part, .int 0, .ref g_wasMany, .ref g_wasLoss, .ref g_wasValue, .ref g_wasNumber, .ref g_path, .int 0, .ref g_heavyValue, .ref g_heavyTimes, .int 0, .ref g_fewest, .ref g_which, .ref g_met, .int 0])), (g_row, .inl (cyI, 160, .inl ff))] H := hP
  have hD : va_D A [(h0, .inr (5, [.ref g_row, .int 0, .int 2, .int 0, .ref g_many, .ref g_loss, .ref g_less, .ref g_voteValue, .ref g_voteNumber, .ref g_allValue, .ref g_allNumber, .int 0, .ref g_nodeL, .ref g_nodeR, .int 0, .ref g_part, .int 0, .ref g_wasMany, .ref g_wasLoss, .ref g_wasValue, .ref g_wasNumber, .ref g_path, .int 0, .ref g_heavyValue, .ref g_heavyTimes, .int 0, .ref g_fewest, .ref g_which, .ref g_met, .int 0])), (g_row, .inl (cyI, 160, .inl ff))] := hD
  refine lv_aload_n hx hb dX5_feed_5 rfl (lv_at hl 0 rfl) ?_
  refine va_get (D := (dC, dI)) (ci := 5) (v := .int 0) (C := RX5) (T := TX5) (N := 30) hx hb hts hi_5 hown hK hP 0 rfl rfl 1 (by decide) hf_84 (fun _ h9 => h9) rfl dX5_feed_6 ?_
  refine lv_iconst (v := 4) hx hb dX5_feed_9 (by decide) ?_
  refine lv_iadd hx hb dX5_feed_10 ?_
  refine W.eq (g2 := F0 m 11 ls [.int 4]) (by first | rfl | (congr 2; decide)) ?_
  refine lv_sipush (v := 160) hx hb dX5_feed_11 (by decide) ?_
  refine lv_icmp_le (tgt := 19) hx hb dX5_feed_14 (by decide) (fun c_1 => ?_) (fun c_1 => ?_)
  · refine lv_aload_n hx hb dX5_feed_19 rfl (lv_at hl 0 rfl) ?_
    refine va_get (D := (dC, dI)) (ci := 5) (v := .ref g_row) (C := RX5) (T := TX5) (N := 30) hx hb hts hi_5 hown hK hP 0 rfl rfl 0 (by decide) hf_7 (fun _ h9 => h9) rfl dX5_feed_20 ?_
    refine lv_aload_n hx hb dX5_feed_23 rfl (lv_at hl 0 rfl) ?_
    refine va_get (D := (dC, dI)) (ci := 5) (v := .int 0) (C := RX5) (T := TX5) (N := 30) hx hb hts hi_5 hown hK hP 0 rfl rfl 1 (by decide) hf_84 (fun _ h9 => h9) rfl dX5_feed_24 ?_
    refine lv_iload_n hx hb dX5_feed_27 rfl (lv_at hl 1 rfl) ?_
    refine lv_bipush (v := 16) hx hb dX5_feed_28 (by decide) ?_
    refine lv_ishr hx hb dX5_feed_30 ?_
    refine lv_i2s hx hb dX5_feed_31 rfl ?_
    refine va_iast hx hb hK hP hD hS 1 0 rfl rfl (ki_inl (by decide)) dX5_feed_32 (fun H locs hP hD hS => ?_)
    have hP : va_P (dC, dI) vwCl [(h0, .inr (5, [.ref g_row, .int 0, .int 2, .int 0, .ref g_many, .ref g_loss, .ref g_less, .ref g_voteValue, .ref g_voteNumber, .ref g_allValue, .ref g_allNumber, .int 0, .ref g_nodeL, .ref g_nodeR, .int 0, .ref g_part, .int 0, .ref g_wasMany, .ref g_wasLoss, .ref g_wasValue, .ref g_wasNumber, .ref g_path, .int 0, .ref g_heavyValue, .ref g_heavyTimes, .int 0, .ref g_fewest, .ref g_which, .ref g_met, .int 0])), (g_row, .inl (cyI, 160, .inl (upd ff (0 : Int32).toNatClampNeg ((p0 >>> (16 &&& 31)).toInt16.toInt32))))] H := hP
    have hD : va_D A [(h0, .inr (5, [.ref g_row, .int 0, .int 2, .int 0, .ref g_many, .ref g_loss, .ref g_less, .ref g_voteValue, .ref g_voteNumber, .ref g_allValue, .ref g_allNumber, .int 0, .ref g_nodeL, .ref g_nodeR, .int 0, .ref g_part, .int 0, .ref g_wasMany, .ref g_wasLoss, .ref g_wasValue, .ref g_wasNumber, .ref g_path, .int 0, .ref g_heavyValue, .ref g_heavyTimes, .int 0, .ref g_fewest, .ref g_which, .ref g_met, .int 0])), (g_row, .inl (cyI, 160, .inl (upd ff (0 : Int32).toNatClampNeg ((p0 >>> (16 &&& 31)).toInt16.toInt32))))] := hD
    refine lv_aload_n hx hb dX5_feed_33 rfl (lv_at hl 0 rfl) ?_
    refine va_get (D := (dC, dI)) (ci := 5) (v := .ref g_row) (C := RX5) (T := TX5) (N := 30) hx hb hts hi_5 hown hK hP 0 rfl rfl 0 (by decide) hf_7 (fun _ h9 => h9) rfl dX5_feed_34 ?_
    refine lv_aload_n hx hb dX5_feed_37 rfl (lv_at hl 0 rfl) ?_
    refine va_get (D := (dC, dI)) (ci := 5) (v := .int 0) (C := RX5) (T := TX5) (N := 30) hx hb hts hi_5 hown hK hP 0 rfl rfl 1 (by decide) hf_84 (fun _ h9 => h9) rfl dX5_feed_38 ?_
    refine lv_iconst (v := 1) hx hb dX5_feed_41 (by decide) ?_
    refine lv_iadd hx hb dX5_feed_42 ?_
    refine W.eq (g2 := F0 m 43 ls [.int 1, .ref g_row]) (by first | rfl | (congr 2; decide)) ?_
    refine lv_iload_n hx hb dX5_feed_43 rfl (lv_at hl 1 rfl) ?_
    refine lv_i2s hx hb dX5_feed_44 rfl ?_
    refine va_iast hx hb hK hP hD hS 1 0 rfl rfl (ki_inl (by decide)) dX5_feed_45 (fun H locs hP hD hS => ?_)
    have hP : va_P (dC, dI) vwCl [(h0, .inr (5, [.ref g_row, .int 0, .int 2, .int 0, .ref g_many, .ref g_loss, .ref g_less, .ref g_voteValue, .ref g_voteNumber, .ref g_allValue, .ref g_allNumber, .int 0, .ref g_nodeL, .ref g_nodeR, .int 0, .ref g_part, .int 0, .ref g_wasMany, .ref g_wasLoss, .ref g_wasValue, .ref g_wasNumber, .ref g_path, .int 0, .ref g_heavyValue, .ref g_heavyTimes, .int 0, .ref g_fewest, .ref g_which, .ref g_met, .int 0])), (g_row, .inl (cyI, 160, .inl (upd (upd ff (0 : Int32).toNatClampNeg ((p0 >>> (16 &&& 31)).toInt16.toInt32)) (1 : Int32).toNatClampNeg p0.toInt16.toInt32)))] H := hP
    have hD : va_D A [(h0, .inr (5, [.ref g_row, .int 0, .int 2, .int 0, .ref g_many, .ref g_loss, .ref g_less, .ref g_voteValue, .ref g_voteNumber, .ref g_allValue, .ref g_allNumber, .int 0, .ref g_nodeL, .ref g_nodeR, .int 0, .ref g_part, .int 0, .ref g_wasMany, .ref g_wasLoss, .ref g_wasValue, .ref g_wasNumber, .ref g_path, .int 0, .ref g_heavyValue, .ref g_heavyTimes, .int 0, .ref g_fewest, .ref g_which, .ref g_met, .int 0])), (g_row, .inl (cyI, 160, .inl (upd (upd ff (0 : Int32).toNatClampNeg ((p0 >>> (16 &&& 31)).toInt16.toInt32)) (1 : Int32).toNatClampNeg p0.toInt16.toInt32)))] := hD
    refine lv_aload_n hx hb dX5_feed_46 rfl (lv_at hl 0 rfl) ?_
    refine va_get (D := (dC, dI)) (ci := 5) (v := .ref g_row) (C := RX5) (T := TX5) (N := 30) hx hb hts hi_5 hown hK hP 0 rfl rfl 0 (by decide) hf_7 (fun _ h9 => h9) rfl dX5_feed_47 ?_
    refine lv_aload_n hx hb dX5_feed_50 rfl (lv_at hl 0 rfl) ?_
    refine va_get (D := (dC, dI)) (ci := 5) (v := .int 0) (C := RX5) (T := TX5) (N := 30) hx hb hts hi_5 hown hK hP 0 rfl rfl 1 (by decide) hf_84 (fun _ h9 => h9) rfl dX5_feed_51 ?_
    refine lv_iconst (v := 2) hx hb dX5_feed_54 (by decide) ?_
    refine lv_iadd hx hb dX5_feed_55 ?_
    refine W.eq (g2 := F0 m 56 ls [.int 2, .ref g_row]) (by first | rfl | (congr 2; decide)) ?_
    refine lv_iload_n hx hb dX5_feed_56 rfl (lv_at hl 2 rfl) ?_
    refine lv_bipush (v := 16) hx hb dX5_feed_57 (by decide) ?_
    refine lv_ishr hx hb dX5_feed_59 ?_
    refine lv_i2s hx hb dX5_feed_60 rfl ?_
    refine va_iast hx hb hK hP hD hS 1 0 rfl rfl (ki_inl (by decide)) dX5_feed_61 (fun H locs hP hD hS => ?_)
    have hP : va_P (dC, dI) vwCl [(h0, .inr (5, [.ref g_row, .int 0, .int 2, .int 0, .ref g_many, .ref g_loss, .ref g_less, .ref g_voteValue, .ref g_voteNumber, .ref g_allValue, .ref g_allNumber, .int 0, .ref g_nodeL, .ref g_nodeR, .int 0, .ref g_part, .int 0, .ref g_wasMany, .ref g_wasLoss, .ref g_wasValue, .ref g_wasNumber, .ref g_path, .int 0, .ref g_heavyValue, .ref g_heavyTimes, .int 0, .ref g_fewest, .ref g_which, .ref g_met, .int 0])), (g_row, .inl (cyI, 160, .inl (upd (upd (upd ff (0 : Int32).toNatClampNeg ((p0 >>> (16 &&& 31)).toInt16.toInt32)) (1 : Int32).toNatClampNeg p0.toInt16.toInt32) (2 : Int32).toNatClampNeg ((p1 >>> (16 &&& 31)).toInt16.toInt32))))] H := hP
    have hD : va_D A [(h0, .inr (5, [.ref g_row, .int 0, .int 2, .int 0, .ref g_many, .ref g_loss, .ref g_less, .ref g_voteValue, .ref g_voteNumber, .ref g_allValue, .ref g_allNumber, .int 0, .ref g_nodeL, .ref g_nodeR, .int 0, .ref g_part, .int 0, .ref g_wasMany, .ref g_wasLoss, .ref g_wasValue, .ref g_wasNumber, .ref g_path, .int 0, .ref g_heavyValue, .ref g_heavyTimes, .int 0, .ref g_fewest, .ref g_which, .ref g_met, .int 0])), (g_row, .inl (cyI, 160, .inl (upd (upd (upd ff (0 : Int32).toNatClampNeg ((p0 >>> (16 &&& 31)).toInt16.toInt32)) (1 : Int32).toNatClampNeg p0.toInt16.toInt32) (2 : Int32).toNatClampNeg ((p1 >>> (16 &&& 31)).toInt16.toInt32))))] := hD
    refine lv_aload_n hx hb dX5_feed_62 rfl (lv_at hl 0 rfl) ?_
    refine va_get (D := (dC, dI)) (ci := 5) (v := .ref g_row) (C := RX5) (T := TX5) (N := 30) hx hb hts hi_5 hown hK hP 0 rfl rfl 0 (by decide) hf_7 (fun _ h9 => h9) rfl dX5_feed_63 ?_
    refine lv_aload_n hx hb dX5_feed_66 rfl (lv_at hl 0 rfl) ?_
    refine va_get (D := (dC, dI)) (ci := 5) (v := .int 0) (C := RX5) (T := TX5) (N := 30) hx hb hts hi_5 hown hK hP 0 rfl rfl 1 (by decide) hf_84 (fun _ h9 => h9) rfl dX5_feed_67 ?_
    refine lv_iconst (v := 3) hx hb dX5_feed_70 (by decide) ?_
    refine lv_iadd hx hb dX5_feed_71 ?_
    refine W.eq (g2 := F0 m 72 ls [.int 3, .ref g_row]) (by first | rfl | (congr 2; decide)) ?_
    refine lv_iload_n hx hb dX5_feed_72 rfl (lv_at hl 2 rfl) ?_
    refine lv_i2s hx hb dX5_feed_73 rfl ?_
    refine va_iast hx hb hK hP hD hS 1 0 rfl rfl (ki_inl (by decide)) dX5_feed_74 (fun H locs hP hD hS => ?_)
    have hP : va_P (dC, dI) vwCl [(h0, .inr (5, [.ref g_row, .int 0, .int 2, .int 0, .ref g_many, .ref g_loss, .ref g_less, .ref g_voteValue, .ref g_voteNumber, .ref g_allValue, .ref g_allNumber, .int 0, .ref g_nodeL, .ref g_nodeR, .int 0, .ref g_part, .int 0, .ref g_wasMany, .ref g_wasLoss, .ref g_wasValue, .ref g_wasNumber, .ref g_path, .int 0, .ref g_heavyValue, .ref g_heavyTimes, .int 0, .ref g_fewest, .ref g_which, .ref g_met, .int 0])), (g_row, .inl (cyI, 160, .inl (upd (upd (upd (upd ff (0 : Int32).toNatClampNeg ((p0 >>> (16 &&& 31)).toInt16.toInt32)) (1 : Int32).toNatClampNeg p0.toInt16.toInt32) (2 : Int32).toNatClampNeg ((p1 >>> (16 &&& 31)).toInt16.toInt32)) (3 : Int32).toNatClampNeg p1.toInt16.toInt32)))] H := hP
    have hD : va_D A [(h0, .inr (5, [.ref g_row, .int 0, .int 2, .int 0, .ref g_many, .ref g_loss, .ref g_less, .ref g_voteValue, .ref g_voteNumber, .ref g_allValue, .ref g_allNumber, .int 0, .ref g_nodeL, .ref g_nodeR, .int 0, .ref g_part, .int 0, .ref g_wasMany, .ref g_wasLoss, .ref g_wasValue, .ref g_wasNumber, .ref g_path, .int 0, .ref g_heavyValue, .ref g_heavyTimes, .int 0, .ref g_fewest, .ref g_which, .ref g_met, .int 0])), (g_row, .inl (cyI, 160, .inl (upd (upd (upd (upd ff (0 : Int32).toNatClampNeg ((p0 >>> (16 &&& 31)).toInt16.toInt32)) (1 : Int32).toNatClampNeg p0.toInt16.toInt32) (2 : Int32).toNatClampNeg ((p1 >>> (16 &&& 31)).toInt16.toInt32)) (3 : Int32).toNatClampNeg p1.toInt16.toInt32)))] := hD
    refine lv_aload_n hx hb dX5_feed_75 rfl (lv_at hl 0 rfl) ?_
    refine lv_dup hx hb dX5_feed_76 rfl ?_
    refine va_get (D := (dC, dI)) (ci := 5) (v := .int 0) (C := RX5) (T := TX5) (N := 30) hx hb hts hi_5 hown hK hP 0 rfl rfl 1 (by decide) hf_84 (fun _ h9 => h9) rfl dX5_feed_77 ?_
    refine lv_iconst (v := 4) hx hb dX5_feed_80 (by decide) ?_
    refine lv_iadd hx hb dX5_feed_81 ?_
    refine W.eq (g2 := F0 m 82 ls [.int 4, .ref h0]) (by first | rfl | (congr 2; decide)) ?_
    refine va_put (D := (dC, dI)) (ci := 5) (v := .int 4) (ty := .int) (C := RX5) (T := TX5) (N := 30) hx hb hts hi_5 tyX5 tyX5_ok nmX5 hown hK hP hD hS 0 rfl rfl 1 (by decide) hf_84 (fun _ h9 => h9) rfl (by decide +kernel) rfl rfl (Nat.le_of_ble_eq_true rfl) dX5_feed_82 (fun H locs hP hD hS => ?_)
    have hP : va_P (dC, dI) vwCl [(h0, .inr (5, [.ref g_row, .int 4, .int 2, .int 0, .ref g_many, .ref g_loss, .ref g_less, .ref g_voteValue, .ref g_voteNumber, .ref g_allValue, .ref g_allNumber, .int 0, .ref g_nodeL, .ref g_nodeR, .int 0, .ref g_part, .int 0, .ref g_wasMany, .ref g_wasLoss, .ref g_wasValue, .ref g_wasNumber, .ref g_path, .int 0, .ref g_heavyValue, .ref g_heavyTimes, .int 0, .ref g_fewest, .ref g_which, .ref g_met, .int 0])), (g_row, .inl (cyI, 160, .inl (upd (upd (upd (upd ff (0 : Int32).toNatClampNeg ((p0 >>> (16 &&& 31)).toInt16.toInt32)) (1 : Int32).toNatClampNeg p0.toInt16.toInt32) (2 : Int32).toNatClampNeg ((p1 >>> (16 &&& 31)).toInt16.toInt32)) (3 : Int32).toNatClampNeg p1.toInt16.toInt32)))] H := hP
    have hD : va_D A [(h0, .inr (5, [.ref g_row, .int 4, .int 2, .int 0, .ref g_many, .ref g_loss, .ref g_less, .ref g_voteValue, .ref g_voteNumber, .ref g_allValue, .ref g_allNumber, .int 0, .ref g_nodeL, .ref g_nodeR, .int 0, .ref g_part, .int 0, .ref g_wasMany, .ref g_wasLoss, .ref g_wasValue, .ref g_wasNumber, .ref g_path, .int 0, .ref g_heavyValue, .ref g_heavyTimes, .int 0, .ref g_fewest, .ref g_which, .ref g_met, .int 0])), (g_row, .inl (cyI, 160, .inl (upd (upd (upd (upd ff (0 : Int32).toNatClampNeg ((p0 >>> (16 &&& 31)).toInt16.toInt32)) (1 : Int32).toNatClampNeg p0.toInt16.toInt32) (2 : Int32).toNatClampNeg ((p1 >>> (16 &&& 31)).toInt16.toInt32)) (3 : Int32).toNatClampNeg p1.toInt16.toInt32)))] := hD
    refine lv_aload_n hx hb dX5_feed_85 rfl (lv_at hl 0 rfl) ?_
    refine va_get (D := (dC, dI)) (ci := 5) (v := .int 4) (C := RX5) (T := TX5) (N := 30) hx hb hts hi_5 hown hK hP 0 rfl rfl 1 (by decide) hf_84 (fun _ h9 => h9) rfl dX5_feed_86 ?_
    have hP9 := hP.sub (ws' := []) [] rfl
    have hD9 := hD.sub (ws' := []) [] (by decide) rfl
    have hK9 := hK.sub (tys' := [(cyI, .int)]) [0] rfl
    exact W.iret (v := 4) hx hb hr (fun t ht hW => ⟨⟨4, (), rfl, rfl, by rw [ht]; exact hP9, va_K.moved hW.alike hK9, hD9⟩, hS.F ht⟩) hS.2.2 dX5_feed_89
  · exact absurd c_1 (by decide)

set_option maxHeartbeats 4000000 in
set_option maxRecDepth 100000 in
theorem c_X5_insert (l : Launch) (dC : Nat → ClassId) (dI : Nat → Nat → Nat) (h0 : Nat) (g_row : Nat) (g_many : Nat) (g_loss : Nat) (g_less : Nat) (g_voteValue : Nat) (g_voteNumber : Nat) (g_allValue : Nat) (g_allNumber : Nat) (g_nodeL : Nat) (g_nodeR : Nat) (g_part : Nat) (g_wasMany : Nat) (g_wasLoss : Nat) (g_wasValue : Nat) (g_wasNumber : Nat) (g_path : Nat) (g_heavyValue : Nat) (g_heavyTimes : Nat) (g_fewest : Nat) (g_which : Nat) (g_met : Nat) (cyI : ClassId) (ff : Nat → Int32) (p0 : Int32) (p1 : Int32) (sz : Nat) : Met l yX5_insert wsX5_insert ({ frames := 2, cells := 0, slots := 0, locals := 90 }) (va_Pc [.ref h0, .int p0, .int p1] (fun U => U.heap.size = sz ∧ va_P (dC, dI) vwCl [(h0, .inr (5, [.ref g_row, .int 0, .int 2, .int 0, .ref g_many, .ref g_loss, .ref g_less, .ref g_voteValue, .ref g_voteNumber, .ref g_allValue, .ref g_allNumber, .int 0, .ref g_nodeL, .ref g_nodeR, .int 0, .ref g_part, .int 0, .ref g_wasMany, .ref g_wasLoss, .ref g_wasValue, .ref g_wasNumber, .ref g_path, .int 0, .ref g_heavyValue, .ref g_heavyTimes, .int 0, .ref g_fewest, .ref g_which, .ref g_met, .int 0])), (g_row, .inl (cyI, 160, .inl ff))] U.heap ∧ va_K (dC, dI) vwCl [(cyI, .int)] U ∧ va_D (fun _ => True) [(h0, .inr (5, [.ref g_row, .int 0, .int 2, .int 0, .ref g_many, .ref g_loss, .ref g_less, .ref g_voteValue, .ref g_voteNumber, .ref g_allValue, .ref g_allNumber, .int 0, .ref g_nodeL, .ref g_nodeR, .int 0, .ref g_part, .int 0, .ref g_wasMany, .ref g_wasLoss, .ref g_wasValue, .ref g_wasNumber, .ref g_path, .int 0, .ref g_heavyValue, .ref g_heavyTimes, .int 0, .ref g_fewest, .ref g_which, .ref g_met, .int 0])), (g_row, .inl (cyI, 160, .inl ff))])) (va_Qi (fun (r : Int32) (_ : Unit) => (r = 1 ∧ (p0.toInt = 0 ∧ -32768 ≤ p1.toInt ∧ p1.toInt ≤ 32767)) ∨ (r = (-1) ∧ (p0.toInt < 0 ∨ 0 < p0.toInt ∨ p1.toInt < -32768 ∨ 32767 < p1.toInt))) (fun (_ : Unit) (t : State) => va_P (dC, dI) vwCl [] t.heap ∧ va_K (dC, dI) vwCl [(cyI, .int)] t ∧ va_D (va_A [(h0, .inr (5, [.ref g_row, .int 0, .int 2, .int 0, .ref g_many, .ref g_loss, .ref g_less, .ref g_voteValue, .ref g_voteNumber, .ref g_allValue, .ref g_allNumber, .int 0, .ref g_nodeL, .ref g_nodeR, .int 0, .ref g_part, .int 0, .ref g_wasMany, .ref g_wasLoss, .ref g_wasValue, .ref g_wasNumber, .ref g_path, .int 0, .ref g_heavyValue, .ref g_heavyTimes, .int 0, .ref g_fewest, .ref g_which, .ref g_met, .int 0])), (g_row, .inl (cyI, 160, .inl ff))] sz) []) (va_A [(h0, .inr (5, [.ref g_row, .int 0, .int 2, .int 0, .ref g_many, .ref g_loss, .ref g_less, .ref g_voteValue, .ref g_voteNumber, .ref g_allValue, .ref g_allNumber, .int 0, .ref g_nodeL, .ref g_nodeR, .int 0, .ref g_part, .int 0, .ref g_wasMany, .ref g_wasLoss, .ref g_wasValue, .ref g_wasNumber, .ref g_path, .int 0, .ref g_heavyValue, .ref g_heavyTimes, .int 0, .ref g_fewest, .ref g_which, .ref g_met, .int 0])), (g_row, .inl (cyI, 160, .inl ff))] sz)) 0 0 (va_A [(h0, .inr (5, [.ref g_row, .int 0, .int 2, .int 0, .ref g_many, .ref g_loss, .ref g_less, .ref g_voteValue, .ref g_voteNumber, .ref g_allValue, .ref g_allNumber, .int 0, .ref g_nodeL, .ref g_nodeR, .int 0, .ref g_part, .int 0, .ref g_wasMany, .ref g_wasLoss, .ref g_wasValue, .ref g_wasNumber, .ref g_path, .int 0, .ref g_heavyValue, .ref g_heavyTimes, .int 0, .ref g_fewest, .ref g_which, .ref g_met, .int 0])), (g_row, .inl (cyI, 160, .inl ff))] sz) := by
  refine Met.ofW (cc := cX5_insert) (maxL := 4) (ret := (some .int)) (by decide) rfl ?_
  intro p e s m args below meth c s₁ B hml hv
  obtain ⟨rfl, hsz, hP, hK, hD0⟩ := hv
  have hx := B.exec
  have hb := B.bytes
  have hr := B.returns
  have hts := atoms_spec (ws := wsX5_insert) B.pre
  have hown : s.vm.findClass RX5 = some m.cls := findClass_of_methodNamed B.named
  have hlocks := B.notSynchronized
  subst hsz
  have hD := hD0.self (sz := s.heap.size)
  generalize hAe : va_A [(h0, .inr (5, [.ref g_row, .int 0, .int 2, .int 0, .ref g_many, .ref g_loss, .ref g_less, .ref g_voteValue, .ref g_voteNumber, .ref g_allValue, .ref g_allNumber, .int 0, .ref g_nodeL, .ref g_nodeR, .int 0, .ref g_part, .int 0, .ref g_wasMany, .ref g_wasLoss, .ref g_wasValue, .ref g_wasNumber, .ref g_path, .int 0, .ref g_heavyValue, .ref g_heavyTimes, .int 0, .ref g_fewest, .ref g_which, .ref g_met, .int 0])), (g_row, .inl (cyI, 160, .inl ff))] s.heap.size = A at hD ⊢
  have hA : ∀ q : Nat, s.heap.size ≤ q → A q := fun q h => by rw [← hAe]; exact Or.inr h
  have hS : va_S A s.heap s.heap [] := va_S.rf
  have hP : va_P (dC, dI) vwCl [(h0, .inr (5, [.ref g_row, .int 0, .int 2, .int 0, .ref g_many, .ref g_loss, .ref g_less, .ref g_voteValue, .ref g_voteNumber, .ref g_allValue, .ref g_allNumber, .int 0, .ref g_nodeL, .ref g_nodeR, .int 0, .ref g_part, .int 0, .ref g_wasMany, .ref g_wasLoss, .ref g_wasValue, .ref g_wasNumber, .ref g_path, .int 0, .ref g_heavyValue, .ref g_heavyTimes, .int 0, .ref g_fewest, .ref g_which, .ref g_met, .int 0])), (g_row, .inl (cyI, 160, .inl ff))] s.heap := hP
  have hl := lv_entry ([.ref h0, .int p0, .int p1]) (n := 4) (Nat.le_of_ble_eq_true rfl)
  rw [lg_entry_eq]
  generalize (lg_sl ([.ref h0, .int p0, .int p1]) ++ List.replicate (4 - (lg_sl ([.ref h0, .int p0, .int p1])).length) Slot.unset).toArray = ls at hl ⊢
  have hl : lv_has ls 4 [(0, .ref h0), (1, .int p0), (2, .int p1)] := hl
  have hf_77 := hts (.fieldLink RX5 77 "MajorityIndexModel" "thrown" "I") (by decide +kernel)
  have hi_5 : ∀ w ∈ u_ws RX5 TX5 30, w ∈ wsX5_insert := by decide +kernel
  have hf_84 := hts (.fieldLink RX5 84 "MajorityIndexModel" "n" "I") (by decide +kernel)
  have hf_7 := hts (.fieldLink RX5 7 "MajorityIndexModel" "row" "[I") (by decide +kernel)
  refine lv_aload_n hx hb dX5_insert_0 rfl (lv_at hl 0 rfl) ?_
  refine lv_iconst (v := 0) hx hb dX5_insert_1 (by decide) ?_
  refine va_put (D := (dC, dI)) (ci := 5) (v := .int 0) (ty := .int) (C := RX5) (T := TX5) (N := 30) hx hb hts hi_5 tyX5 tyX5_ok nmX5 hown hK hP hD hS 0 rfl rfl 3 (by decide) hf_77 (fun _ h9 => h9) rfl (by decide +kernel) rfl rfl (Nat.le_of_ble_eq_true rfl) dX5_insert_2 (fun H locs hP hD hS => ?_)
  have hP : va_P (dC, dI) vwCl [(h0, .inr (5, [.ref g_row, .int 0, .int 2, .int 0, .ref g_many, .ref g_loss, .ref g_less, .ref g_voteValue, .ref g_voteNumber, .ref g_allValue, .ref g_allNumber, .int 0, .ref g_nodeL, .ref g_nodeR, .int 0, .ref g_part, .int 0, .ref g_wasMany, .ref g_wasLoss, .ref g_wasValue, .ref g_wasNumber, .ref g_path, .int 0, .ref g_heavyValue, .ref g_heavyTimes, .int 0, .ref g_fewest, .ref g_which, .ref g_met, .int 0])), (g_row, .inl (cyI, 160, .inl ff))] H := hP
  have hD : va_D A [(h0, .inr (5, [.ref g_row, .int 0, .int 2, .int 0, .ref g_many, .ref g_loss, .ref g_less, .ref g_voteValue, .ref g_voteNumber, .ref g_allValue, .ref g_allNumber, .int 0, .ref g_nodeL, .ref g_nodeR, .int 0, .ref g_part, .int 0, .ref g_wasMany, .ref g_wasLoss, .ref g_wasValue, .ref g_wasNumber, .ref g_path, .int 0, .ref g_heavyValue, .ref g_heavyTimes, .int 0, .ref g_fewest, .ref g_which, .ref g_met, .int 0])), (g_row, .inl (cyI, 160, .inl ff))] := hD
  refine lv_iload_n hx hb dX5_insert_5 rfl (lv_at hl 1 rfl) ?_
  refine lv_iconst (v := 0) hx hb dX5_insert_6 (by decide) ?_
  refine lv_aload_n hx hb dX5_insert_7 rfl (lv_at hl 0 rfl) ?_
  refine va_get (D := (dC, dI)) (ci := 5) (v := .int 0) (C := RX5) (T := TX5) (N := 30) hx hb hts hi_5 hown hK hP 0 rfl rfl 1 (by decide) hf_84 (fun _ h9 => h9) rfl dX5_insert_8 ?_
  have hPc := hP.sub (ws' := []) [] rfl
  have hKc := hK.sub (tys' := []) [] rfl
  refine vp_callSi (W.runS (As := [.int p0, .int 0, .int 0]) (rest := []) ⟨hx, hb, hml, hown, hts⟩ (c_X5_within l dC dI p0 0 0) (va_cwS 3 hts gX5_insert_X5_within rfl rfl rfl (by decide +kernel) ⟨Nat.le_of_ble_eq_true rfl, Nat.le_of_ble_eq_true rfl⟩) ⟨fun a U g mk q => by obtain ⟨q0, qP, qK⟩ := q; exact ⟨q0, qP, va_K.moved (u := U) (U := U.calling g mk a) (Vm.Alike.refl U.vm) qK⟩, fun U hU hW => ⟨rfl, by rw [hU]; exact hPc, va_K.moved hW.alike hKc⟩⟩ rfl rfl hl.1 rfl (lv_room (Nat.le_of_ble_eq_true rfl)) dX5_insert_11 ⟨Nat.le_of_ble_eq_true rfl, Nat.le_of_ble_eq_true rfl⟩) (fun r_1 w_1 => ?_)
  rcases w_1 with ⟨rfl, w_1⟩ | ⟨rfl, w_1⟩
  · have w_1 : (0 ≤ p0.toInt ∧ p0.toInt ≤ 0) := w_1
    refine lv_if_eq (tgt := 34) hx hb dX5_insert_14 (by decide) (fun c_2 => ?_) (fun c_2 => ?_)
    · exact absurd c_2 (by decide)
    · refine lv_iload_n hx hb dX5_insert_17 rfl (lv_at hl 2 rfl) ?_
      have hPc := hP.sub (ws' := []) [] rfl
      have hKc := hK.sub (tys' := []) [] rfl
      refine vp_callSi (W.runS (As := [.int p1]) (rest := []) ⟨hx, hb, hml, hown, hts⟩ (c_X5_isValue l dC dI p1) (va_cwS 1 hts gX5_insert_X5_isValue rfl rfl rfl (by decide +kernel) ⟨Nat.le_of_ble_eq_true rfl, Nat.le_of_ble_eq_true rfl⟩) ⟨fun a U g mk q => by obtain ⟨q0, qP, qK⟩ := q; exact ⟨q0, qP, va_K.moved (u := U) (U := U.calling g mk a) (Vm.Alike.refl U.vm) qK⟩, fun U hU hW => ⟨rfl, by rw [hU]; exact hPc, va_K.moved hW.alike hKc⟩⟩ rfl rfl hl.1 rfl (lv_room (Nat.le_of_ble_eq_true rfl)) dX5_insert_18 ⟨Nat.le_of_ble_eq_true rfl, Nat.le_of_ble_eq_true rfl⟩) (fun r_3 w_3 => ?_)
      rcases w_3 with ⟨rfl, w_3⟩ | ⟨rfl, w_3⟩
      · have w_3 : (-32768 ≤ p1.toInt ∧ p1.toInt ≤ 32767) := w_3
        refine lv_if_eq (tgt := 34) hx hb dX5_insert_21 (by decide) (fun c_4 => ?_) (fun c_4 => ?_)
        · exact absurd c_4 (by decide)
        · refine lv_aload_n hx hb dX5_insert_24 rfl (lv_at hl 0 rfl) ?_
          refine va_get (D := (dC, dI)) (ci := 5) (v := .int 0) (C := RX5) (T := TX5) (N := 30) hx hb hts hi_5 hown hK hP 0 rfl rfl 1 (by decide) hf_84 (fun _ h9 => h9) rfl dX5_insert_25 ?_
          refine lv_sipush (v := 160) hx hb dX5_insert_28 (by decide) ?_
          refine lv_icmp_ne (tgt := 36) hx hb dX5_insert_31 (by decide) (fun c_5 => ?_) (fun c_5 => ?_)
          · refine lv_aload_n hx hb dX5_insert_36 rfl (lv_at hl 0 rfl) ?_
            refine va_get (D := (dC, dI)) (ci := 5) (v := .int 0) (C := RX5) (T := TX5) (N := 30) hx hb hts hi_5 hown hK hP 0 rfl rfl 1 (by decide) hf_84 (fun _ h9 => h9) rfl dX5_insert_37 ?_
            refine lv_istore_n (lv' := [(3, .int 0), (0, .ref h0), (1, .int p0), (2, .int p1)]) hx hb dX5_insert_40 rfl hl (by decide) rfl (fun ls hl => ?_)
            refine lv_iload_n hx hb dX5_insert_41 rfl (lv_at hl 0 rfl) ?_
            refine lv_iload_n hx hb dX5_insert_42 rfl (lv_at hl 2 rfl) ?_
            refine lv_icmp_le (tgt := 66) hx hb dX5_insert_43 (by decide) (fun c_6 => ?_) (fun c_6 => ?_)
            · have i_6 : 0 ≤ p0.toInt := kc_le c_6
              refine lv_aload_n hx hb dX5_insert_66 rfl (lv_at hl 1 rfl) ?_
              refine va_get (D := (dC, dI)) (ci := 5) (v := .ref g_row) (C := RX5) (T := TX5) (N := 30) hx hb hts hi_5 hown hK hP 0 rfl rfl 0 (by decide) hf_7 (fun _ h9 => h9) rfl dX5_insert_67 ?_
              refine lv_iload_n hx hb dX5_insert_70 rfl (lv_at hl 2 rfl) ?_
              refine lv_iload_n hx hb dX5_insert_71 rfl (lv_at hl 3 rfl) ?_
              refine va_iast hx hb hK hP hD hS 1 0 rfl rfl (ki_in (by omega) (by omega)) dX5_insert_72 (fun H locs hP hD hS => ?_)
              have hP : va_P (dC, dI) vwCl [(h0, .inr (5, [.ref g_row, .int 0, .int 2, .int 0, .ref g_many, .ref g_loss, .ref g_less, .ref g_voteValue, .ref g_voteNumber, .ref g_allValue, .ref g_allNumber, .int 0, .ref g_nodeL, .ref g_nodeR, .int 0, .ref g_part, .int 0, .ref g_wasMany, .ref g_wasLoss, .ref g_wasValue, .ref g_wasNumber, .ref g_path, .int 0, .ref g_heavyValue, .ref g_heavyTimes, .int 0, .ref g_fewest, .ref g_which, .ref g_met, .int 0])), (g_row, .inl (cyI, 160, .inl (upd ff p0.toNatClampNeg p1)))] H := hP
              have hD : va_D A [(h0, .inr (5, [.ref g_row, .int 0, .int 2, .int 0, .ref g_many, .ref g_loss, .ref g_less, .ref g_voteValue, .ref g_voteNumber, .ref g_allValue, .ref g_allNumber, .int 0, .ref g_nodeL, .ref g_nodeR, .int 0, .ref g_part, .int 0, .ref g_wasMany, .ref g_wasLoss, .ref g_wasValue, .ref g_wasNumber, .ref g_path, .int 0, .ref g_heavyValue, .ref g_heavyTimes, .int 0, .ref g_fewest, .ref g_which, .ref g_met, .int 0])), (g_row, .inl (cyI, 160, .inl (upd ff p0.toNatClampNeg p1)))] := hD
              refine lv_aload_n hx hb dX5_insert_73 rfl (lv_at hl 1 rfl) ?_
              refine lv_dup hx hb dX5_insert_74 rfl ?_
              refine va_get (D := (dC, dI)) (ci := 5) (v := .int 0) (C := RX5) (T := TX5) (N := 30) hx hb hts hi_5 hown hK hP 0 rfl rfl 1 (by decide) hf_84 (fun _ h9 => h9) rfl dX5_insert_75 ?_
              refine lv_iconst (v := 1) hx hb dX5_insert_78 (by decide) ?_
              refine lv_iadd hx hb dX5_insert_79 ?_
              refine W.eq (g2 := F0 m 80 ls [.int 1, .ref h0]) (by first | rfl | (congr 2; decide)) ?_
              refine va_put (D := (dC, dI)) (ci := 5) (v := .int 1) (ty := .int) (C := RX5) (T := TX5) (N := 30) hx hb hts hi_5 tyX5 tyX5_ok nmX5 hown hK hP hD hS 0 rfl rfl 1 (by decide) hf_84 (fun _ h9 => h9) rfl (by decide +kernel) rfl rfl (Nat.le_of_ble_eq_true rfl) dX5_insert_80 (fun H locs hP hD hS => ?_)
              have hP : va_P (dC, dI) vwCl [(h0, .inr (5, [.ref g_row, .int 1, .int 2, .int 0, .ref g_many, .ref g_loss, .ref g_less, .ref g_voteValue, .ref g_voteNumber, .ref g_allValue, .ref g_allNumber, .int 0, .ref g_nodeL, .ref g_nodeR, .int 0, .ref g_part, .int 0, .ref g_wasMany, .ref g_wasLoss, .ref g_wasValue, .ref g_wasNumber, .ref g_path, .int 0, .ref g_heavyValue, .ref g_heavyTimes, .int 0, .ref g_fewest, .ref g_which, .ref g_met, .int 0])), (g_row, .inl (cyI, 160, .inl (upd ff p0.toNatClampNeg p1)))] H := hP
              have hD : va_D A [(h0, .inr (5, [.ref g_row, .int 1, .int 2, .int 0, .ref g_many, .ref g_loss, .ref g_less, .ref g_voteValue, .ref g_voteNumber, .ref g_allValue, .ref g_allNumber, .int 0, .ref g_nodeL, .ref g_nodeR, .int 0, .ref g_part, .int 0, .ref g_wasMany, .ref g_wasLoss, .ref g_wasValue, .ref g_wasNumber, .ref g_path, .int 0, .ref g_heavyValue, .ref g_heavyTimes, .int 0, .ref g_fewest, .ref g_which, .ref g_met, .int 0])), (g_row, .inl (cyI, 160, .inl (upd ff p0.toNatClampNeg p1)))] := hD
              refine lv_aload_n hx hb dX5_insert_83 rfl (lv_at hl 1 rfl) ?_
              refine va_get (D := (dC, dI)) (ci := 5) (v := .int 1) (C := RX5) (T := TX5) (N := 30) hx hb hts hi_5 hown hK hP 0 rfl rfl 1 (by decide) hf_84 (fun _ h9 => h9) rfl dX5_insert_84 ?_
              have hP9 := hP.sub (ws' := []) [] rfl
              have hD9 := hD.sub (ws' := []) [] (by decide) rfl
              have hK9 := hK.sub (tys' := [(cyI, .int)]) [0] rfl
              exact W.iret (v := 1) hx hb hr (fun t ht hW => ⟨⟨1, (), rfl, Or.inl ⟨rfl, by omega⟩, by rw [ht]; exact hP9, va_K.moved hW.alike hK9, hD9⟩, hS.F ht⟩) hS.2.2 dX5_insert_87
            · have i_6 : p0.toInt < 0 := kc_nle c_6
              exfalso; omega
          · exact absurd c_5 (by decide)
      · have w_3 : (p1.toInt < -32768 ∨ 32767 < p1.toInt) := w_3
        refine lv_if_eq (tgt := 34) hx hb dX5_insert_21 (by decide) (fun c_7 => ?_) (fun c_7 => ?_)
        · refine lv_iconst (v := (-1)) hx hb dX5_insert_34 (by decide) ?_
          have hP9 := hP.sub (ws' := []) [] rfl
          have hD9 := hD.sub (ws' := []) [] (by decide) rfl
          have hK9 := hK.sub (tys' := [(cyI, .int)]) [0] rfl
          exact W.iret (v := (-1)) hx hb hr (fun t ht hW => ⟨⟨(-1), (), rfl, Or.inr (⟨rfl, by omega⟩), by rw [ht]; exact hP9, va_K.moved hW.alike hK9, hD9⟩, hS.F ht⟩) hS.2.2 dX5_insert_35
        · exact absurd c_7 (by decide)
  · have w_1 : (p0.toInt < 0 ∨ 0 < p0.toInt) := w_1
    refine lv_if_eq (tgt := 34) hx hb dX5_insert_14 (by decide) (fun c_8 => ?_) (fun c_8 => ?_)
    · refine lv_iconst (v := (-1)) hx hb dX5_insert_34 (by decide) ?_
      have hP9 := hP.sub (ws' := []) [] rfl
      have hD9 := hD.sub (ws' := []) [] (by decide) rfl
      have hK9 := hK.sub (tys' := [(cyI, .int)]) [0] rfl
      exact W.iret (v := (-1)) hx hb hr (fun t ht hW => ⟨⟨(-1), (), rfl, Or.inr (⟨rfl, by omega⟩), by rw [ht]; exact hP9, va_K.moved hW.alike hK9, hD9⟩, hS.F ht⟩) hS.2.2 dX5_insert_35
    · exact absurd c_8 (by decide)

set_option maxHeartbeats 4000000 in
set_option maxRecDepth 100000 in
theorem c_X5_told (l : Launch) (dC : Nat → ClassId) (dI : Nat → Nat → Nat) (h0 : Nat) (g_row : Nat) (g_many : Nat) (g_loss : Nat) (g_less : Nat) (g_voteValue : Nat) (g_voteNumber : Nat) (g_allValue : Nat) (g_allNumber : Nat) (g_nodeL : Nat) (g_nodeR : Nat) (g_part : Nat) (g_wasMany : Nat) (g_wasLoss : Nat) (g_wasValue : Nat) (g_wasNumber : Nat) (g_path : Nat) (g_heavyValue : Nat) (g_heavyTimes : Nat) (g_fewest : Nat) (g_which : Nat) (g_met : Nat) (p0 : Int32) (sz : Nat) : Met l yX5_told wsX5_told ({ frames := 1, cells := 0, slots := 0, locals := 45 }) (va_Pc [.ref h0, .int p0] (fun U => U.heap.size = sz ∧ va_P (dC, dI) vwCl [(h0, .inr (5, [.ref g_row, .int 0, .int 2, .int 0, .ref g_many, .ref g_loss, .ref g_less, .ref g_voteValue, .ref g_voteNumber, .ref g_allValue, .ref g_allNumber, .int 0, .ref g_nodeL, .ref g_nodeR, .int 0, .ref g_part, .int 0, .ref g_wasMany, .ref g_wasLoss, .ref g_wasValue, .ref g_wasNumber, .ref g_path, .int 0, .ref g_heavyValue, .ref g_heavyTimes, .int 0, .ref g_fewest, .ref g_which, .ref g_met, .int 0]))] U.heap ∧ va_K (dC, dI) vwCl [] U ∧ va_D (fun _ => True) [(h0, .inr (5, [.ref g_row, .int 0, .int 2, .int 0, .ref g_many, .ref g_loss, .ref g_less, .ref g_voteValue, .ref g_voteNumber, .ref g_allValue, .ref g_allNumber, .int 0, .ref g_nodeL, .ref g_nodeR, .int 0, .ref g_part, .int 0, .ref g_wasMany, .ref g_wasLoss, .ref g_wasValue, .ref g_wasNumber, .ref g_path, .int 0, .ref g_heavyValue, .ref g_heavyTimes, .int 0, .ref g_fewest, .ref g_which, .ref g_met, .int 0]))])) (va_Qi (fun (r : Int32) (_ : Unit) => (r = 2 ∧ p0.toInt = 1) ∨ (r = 0 ∧ (p0.toInt = 0 ∨ (2 ≤ p0.toInt ∧ p0.toInt ≤ 6))) ∨ (r = (-1) ∧ (p0.toInt < 0 ∨ 6 < p0.toInt))) (fun (_ : Unit) (t : State) => va_P (dC, dI) vwCl [] t.heap ∧ va_K (dC, dI) vwCl [] t ∧ va_D (va_A [(h0, .inr (5, [.ref g_row, .int 0, .int 2, .int 0, .ref g_many, .ref g_loss, .ref g_less, .ref g_voteValue, .ref g_voteNumber, .ref g_allValue, .ref g_allNumber, .int 0, .ref g_nodeL, .ref g_nodeR, .int 0, .ref g_part, .int 0, .ref g_wasMany, .ref g_wasLoss, .ref g_wasValue, .ref g_wasNumber, .ref g_path, .int 0, .ref g_heavyValue, .ref g_heavyTimes, .int 0, .ref g_fewest, .ref g_which, .ref g_met, .int 0]))] sz) []) (va_A [(h0, .inr (5, [.ref g_row, .int 0, .int 2, .int 0, .ref g_many, .ref g_loss, .ref g_less, .ref g_voteValue, .ref g_voteNumber, .ref g_allValue, .ref g_allNumber, .int 0, .ref g_nodeL, .ref g_nodeR, .int 0, .ref g_part, .int 0, .ref g_wasMany, .ref g_wasLoss, .ref g_wasValue, .ref g_wasNumber, .ref g_path, .int 0, .ref g_heavyValue, .ref g_heavyTimes, .int 0, .ref g_fewest, .ref g_which, .ref g_met, .int 0]))] sz)) 0 0 (va_A [(h0, .inr (5, [.ref g_row, .int 0, .int 2, .int 0, .ref g_many, .ref g_loss, .ref g_less, .ref g_voteValue, .ref g_voteNumber, .ref g_allValue, .ref g_allNumber, .int 0, .ref g_nodeL, .ref g_nodeR, .int 0, .ref g_part, .int 0, .ref g_wasMany, .ref g_wasLoss, .ref g_wasValue, .ref g_wasNumber, .ref g_path, .int 0, .ref g_heavyValue, .ref g_heavyTimes, .int 0, .ref g_fewest, .ref g_which, .ref g_met, .int 0]))] sz) := by
  refine Met.ofW (cc := cX5_told) (maxL := 4) (ret := (some .int)) (by decide) rfl ?_
  intro p e s m args below meth c s₁ B hml hv
  obtain ⟨rfl, hsz, hP, hK, hD0⟩ := hv
  have hx := B.exec
  have hb := B.bytes
  have hr := B.returns
  have hts := atoms_spec (ws := wsX5_told) B.pre
  have hown : s.vm.findClass RX5 = some m.cls := findClass_of_methodNamed B.named
  have hlocks := B.notSynchronized
  subst hsz
  have hD := hD0.self (sz := s.heap.size)
  generalize hAe : va_A [(h0, .inr (5, [.ref g_row, .int 0, .int 2, .int 0, .ref g_many, .ref g_loss, .ref g_less, .ref g_voteValue, .ref g_voteNumber, .ref g_allValue, .ref g_allNumber, .int 0, .ref g_nodeL, .ref g_nodeR, .int 0, .ref g_part, .int 0, .ref g_wasMany, .ref g_wasLoss, .ref g_wasValue, .ref g_wasNumber, .ref g_path, .int 0, .ref g_heavyValue, .ref g_heavyTimes, .int 0, .ref g_fewest, .ref g_which, .ref g_met, .int 0]))] s.heap.size = A at hD ⊢
  have hA : ∀ q : Nat, s.heap.size ≤ q → A q := fun q h => by rw [← hAe]; exact Or.inr h
  have hS : va_S A s.heap s.heap [] := va_S.rf
  have hP : va_P (dC, dI) vwCl [(h0, .inr (5, [.ref g_row, .int 0, .int 2, .int 0, .ref g_many, .ref g_loss, .ref g_less, .ref g_voteValue, .ref g_voteNumber, .ref g_allValue, .ref g_allNumber, .int 0, .ref g_nodeL, .ref g_nodeR, .int 0, .ref g_part, .int 0, .ref g_wasMany, .ref g_wasLoss, .ref g_wasValue, .ref g_wasNumber, .ref g_path, .int 0, .ref g_heavyValue, .ref g_heavyTimes, .int 0, .ref g_fewest, .ref g_which, .ref g_met, .int 0]))] s.heap := hP
  have hl := lv_entry ([.ref h0, .int p0]) (n := 4) (Nat.le_of_ble_eq_true rfl)
  rw [lg_entry_eq]
  generalize (lg_sl ([.ref h0, .int p0]) ++ List.replicate (4 - (lg_sl ([.ref h0, .int p0])).length) Slot.unset).toArray = ls at hl ⊢
  have hl : lv_has ls 4 [(0, .ref h0), (1, .int p0)] := hl
  have hf_77 := hts (.fieldLink RX5 77 "MajorityIndexModel" "thrown" "I") (by decide +kernel)
  have hi_5 : ∀ w ∈ u_ws RX5 TX5 30, w ∈ wsX5_told := by decide +kernel
  have hf_13 := hts (.fieldLink RX5 13 "MajorityIndexModel" "slots" "I") (by decide +kernel)
  have hf_84 := hts (.fieldLink RX5 84 "MajorityIndexModel" "n" "I") (by decide +kernel)
  have hf_101 := hts (.fieldLink RX5 101 "MajorityIndexModel" "nodes" "I") (by decide +kernel)
  refine lv_aload_n hx hb dX5_told_0 rfl (lv_at hl 0 rfl) ?_
  refine lv_iconst (v := 0) hx hb dX5_told_1 (by decide) ?_
  refine va_put (D := (dC, dI)) (ci := 5) (v := .int 0) (ty := .int) (C := RX5) (T := TX5) (N := 30) hx hb hts hi_5 tyX5 tyX5_ok nmX5 hown hK hP hD hS 0 rfl rfl 3 (by decide) hf_77 (fun _ h9 => h9) rfl (by decide +kernel) rfl rfl (Nat.le_of_ble_eq_true rfl) dX5_told_2 (fun H locs hP hD hS => ?_)
  have hP : va_P (dC, dI) vwCl [(h0, .inr (5, [.ref g_row, .int 0, .int 2, .int 0, .ref g_many, .ref g_loss, .ref g_less, .ref g_voteValue, .ref g_voteNumber, .ref g_allValue, .ref g_allNumber, .int 0, .ref g_nodeL, .ref g_nodeR, .int 0, .ref g_part, .int 0, .ref g_wasMany, .ref g_wasLoss, .ref g_wasValue, .ref g_wasNumber, .ref g_path, .int 0, .ref g_heavyValue, .ref g_heavyTimes, .int 0, .ref g_fewest, .ref g_which, .ref g_met, .int 0]))] H := hP
  have hD : va_D A [(h0, .inr (5, [.ref g_row, .int 0, .int 2, .int 0, .ref g_many, .ref g_loss, .ref g_less, .ref g_voteValue, .ref g_voteNumber, .ref g_allValue, .ref g_allNumber, .int 0, .ref g_nodeL, .ref g_nodeR, .int 0, .ref g_part, .int 0, .ref g_wasMany, .ref g_wasLoss, .ref g_wasValue, .ref g_wasNumber, .ref g_path, .int 0, .ref g_heavyValue, .ref g_heavyTimes, .int 0, .ref g_fewest, .ref g_which, .ref g_met, .int 0]))] := hD
  refine lv_aload_n hx hb dX5_told_5 rfl (lv_at hl 0 rfl) ?_
  refine lv_aload_n hx hb dX5_told_6 rfl (lv_at hl 0 rfl) ?_
  refine va_get (D := (dC, dI)) (ci := 5) (v := .int 2) (C := RX5) (T := TX5) (N := 30) hx hb hts hi_5 hown hK hP 0 rfl rfl 2 (by decide) hf_13 (fun _ h9 => h9) rfl dX5_told_7 ?_
  have hPc := hP.sub (ws' := [(h0, .inr (5, [.ref g_row, .int 0, .int 2, .int 0, .ref g_many, .ref g_loss, .ref g_less, .ref g_voteValue, .ref g_voteNumber, .ref g_allValue, .ref g_allNumber, .int 0, .ref g_nodeL, .ref g_nodeR, .int 0, .ref g_part, .int 0, .ref g_wasMany, .ref g_wasLoss, .ref g_wasValue, .ref g_wasNumber, .ref g_path, .int 0, .ref g_heavyValue, .ref g_heavyTimes, .int 0, .ref g_fewest, .ref g_which, .ref g_met, .int 0]))]) [0] rfl
  have hKc := hK.sub (tys' := []) [] rfl
  have hDc := hD.sub (ws' := [(h0, .inr (5, [.ref g_row, .int 0, .int 2, .int 0, .ref g_many, .ref g_loss, .ref g_less, .ref g_voteValue, .ref g_voteNumber, .ref g_allValue, .ref g_allNumber, .int 0, .ref g_nodeL, .ref g_nodeR, .int 0, .ref g_part, .int 0, .ref g_wasMany, .ref g_wasLoss, .ref g_wasValue, .ref g_wasNumber, .ref g_path, .int 0, .ref g_heavyValue, .ref g_heavyTimes, .int 0, .ref g_fewest, .ref g_which, .ref g_met, .int 0]))]) [0] (by decide) rfl
  have hFc := va_free (wc := [(h0, .inr (5, [.ref g_row, .int 0, .int 2, .int 0, .ref g_many, .ref g_loss, .ref g_less, .ref g_voteValue, .ref g_voteNumber, .ref g_allValue, .ref g_allNumber, .int 0, .ref g_nodeL, .ref g_nodeR, .int 0, .ref g_part, .int 0, .ref g_wasMany, .ref g_wasLoss, .ref g_wasValue, .ref g_wasNumber, .ref g_path, .int 0, .ref g_heavyValue, .ref g_heavyTimes, .int 0, .ref g_fewest, .ref g_which, .ref g_met, .int 0]))]) hD hS hA [0] rfl
  refine va_callv (va_runV (As := [.int 2]) (rest := []) ⟨hx, hb, hml, hown, hts⟩ (c_X5_laysAll l dC dI h0 g_row g_many g_loss g_less g_voteValue g_voteNumber g_allValue g_allNumber g_nodeL g_nodeR g_part g_wasMany g_wasLoss g_wasValue g_wasNumber g_path g_heavyValue g_heavyTimes g_fewest g_which g_met 0 2 H.size) (cwV 1 hts gX5_told_X5_laysAll rfl rfl rfl (by decide +kernel) ⟨Nat.le_of_ble_eq_true rfl, Nat.le_of_ble_eq_true rfl⟩) ⟨fun a U g mk q => by obtain ⟨q0, q1, qP, qK, qD⟩ := q; exact ⟨q0, q1, qP, va_K.moved (u := U) (U := U.calling g mk a) (Vm.Alike.refl U.vm) qK, qD⟩, va_recv hKc hPc (ci := 5) (q0 := 0) rfl rfl, fun U hU hW => ⟨rfl, by rw [hU], by rw [hU]; exact hPc, va_K.moved hW.alike hKc, hDc.weaken (fun _ _ _ _ => trivial)⟩⟩ rfl rfl hl.1 rfl (lv_room (Nat.le_of_ble_eq_true rfl)) dX5_told_10 ⟨Nat.le_of_ble_eq_true rfl, Nat.le_of_ble_eq_true rfl⟩) hS (fun q _ h => hFc q h) hFc (fun u t H1 locs ht hvm w_1 hB hz1 hk1 hS => ?_)
  obtain ⟨hP1, hK1, hD1⟩ := hB
  rw [ht] at hP1
  have hK1 := va_K.moved hvm.symm hK1
  obtain ⟨hP, hD⟩ := va_join (wr := []) (w1 := [(h0, .inr (5, [.ref g_row, .int 0, .int 2, .int 0, .ref g_many, .ref g_loss, .ref g_less, .ref g_voteValue, .ref g_voteNumber, .ref g_allValue, .ref g_allNumber, .int 0, .ref g_nodeL, .ref g_nodeR, .int 0, .ref g_part, .int 0, .ref g_wasMany, .ref g_wasLoss, .ref g_wasValue, .ref g_wasNumber, .ref g_path, .int 0, .ref g_heavyValue, .ref g_heavyTimes, .int 0, .ref g_fewest, .ref g_which, .ref g_met, .int 0]))]) hP hD [0] [] rfl rfl (by decide) (by decide) hk1 hFc hP1 hD1
  clear hP1 hD1 hK1 hk1 hz1 hFc hDc hPc hKc
  generalize H1 = H at hP hS ⊢
  have hP : va_P (dC, dI) vwCl [(h0, .inr (5, [.ref g_row, .int 0, .int 2, .int 0, .ref g_many, .ref g_loss, .ref g_less, .ref g_voteValue, .ref g_voteNumber, .ref g_allValue, .ref g_allNumber, .int 0, .ref g_nodeL, .ref g_nodeR, .int 0, .ref g_part, .int 0, .ref g_wasMany, .ref g_wasLoss, .ref g_wasValue, .ref g_wasNumber, .ref g_path, .int 0, .ref g_heavyValue, .ref g_heavyTimes, .int 0, .ref g_fewest, .ref g_which, .ref g_met, .int 0]))] H := hP
  have hD : va_D A [(h0, .inr (5, [.ref g_row, .int 0, .int 2, .int 0, .ref g_many, .ref g_loss, .ref g_less, .ref g_voteValue, .ref g_voteNumber, .ref g_allValue, .ref g_allNumber, .int 0, .ref g_nodeL, .ref g_nodeR, .int 0, .ref g_part, .int 0, .ref g_wasMany, .ref g_wasLoss, .ref g_wasValue, .ref g_wasNumber, .ref g_path, .int 0, .ref g_heavyValue, .ref g_heavyTimes, .int 0, .ref g_fewest, .ref g_which, .ref g_met, .int 0]))] := hD
  refine lv_iload_n hx hb dX5_told_13 rfl (lv_at hl 1 rfl) ?_
  by_cases s_2 : p0.toInt = 0
  · refine lv_tableIn (tgt := 56) (off := 42) hx hb dX5_told_14 (by omega) (by omega) (by rw [s_2]; rfl) (by decide) ?_
    refine lv_aload_n hx hb dX5_told_56 rfl (lv_at hl 0 rfl) ?_
    refine va_get (D := (dC, dI)) (ci := 5) (v := .int 0) (C := RX5) (T := TX5) (N := 30) hx hb hts hi_5 hown hK hP 0 rfl rfl 1 (by decide) hf_84 (fun _ h9 => h9) rfl dX5_told_57 ?_
    have hP9 := hP.sub (ws' := []) [] rfl
    have hD9 := hD.sub (ws' := []) [] (by decide) rfl
    have hK9 := hK.sub (tys' := []) [] rfl
    exact W.iret (v := 0) hx hb hr (fun t ht hW => ⟨⟨0, (), rfl, Or.inr (Or.inl ⟨rfl, by omega⟩), by rw [ht]; exact hP9, va_K.moved hW.alike hK9, hD9⟩, hS.F ht⟩) hS.2.2 dX5_told_60
  by_cases s_3 : p0.toInt = 1
  · refine lv_tableIn (tgt := 61) (off := 47) hx hb dX5_told_14 (by omega) (by omega) (by rw [s_3]; rfl) (by decide) ?_
    refine lv_aload_n hx hb dX5_told_61 rfl (lv_at hl 0 rfl) ?_
    refine va_get (D := (dC, dI)) (ci := 5) (v := .int 2) (C := RX5) (T := TX5) (N := 30) hx hb hts hi_5 hown hK hP 0 rfl rfl 2 (by decide) hf_13 (fun _ h9 => h9) rfl dX5_told_62 ?_
    have hP9 := hP.sub (ws' := []) [] rfl
    have hD9 := hD.sub (ws' := []) [] (by decide) rfl
    have hK9 := hK.sub (tys' := []) [] rfl
    exact W.iret (v := 2) hx hb hr (fun t ht hW => ⟨⟨2, (), rfl, Or.inl ⟨rfl, by omega⟩, by rw [ht]; exact hP9, va_K.moved hW.alike hK9, hD9⟩, hS.F ht⟩) hS.2.2 dX5_told_65
  by_cases s_4 : p0.toInt = 2
  · refine lv_tableIn (tgt := 66) (off := 52) hx hb dX5_told_14 (by omega) (by omega) (by rw [s_4]; rfl) (by decide) ?_
    refine lv_aload_n hx hb dX5_told_66 rfl (lv_at hl 0 rfl) ?_
    refine va_get (D := (dC, dI)) (ci := 5) (v := .int 0) (C := RX5) (T := TX5) (N := 30) hx hb hts hi_5 hown hK hP 0 rfl rfl 14 (by decide) hf_101 (fun _ h9 => h9) rfl dX5_told_67 ?_
    have hP9 := hP.sub (ws' := []) [] rfl
    have hD9 := hD.sub (ws' := []) [] (by decide) rfl
    have hK9 := hK.sub (tys' := []) [] rfl
    exact W.iret (v := 0) hx hb hr (fun t ht hW => ⟨⟨0, (), rfl, Or.inr (Or.inl ⟨rfl, by omega⟩), by rw [ht]; exact hP9, va_K.moved hW.alike hK9, hD9⟩, hS.F ht⟩) hS.2.2 dX5_told_70
  by_cases s_5 : p0.toInt = 3
  · refine lv_tableIn (tgt := 71) (off := 57) hx hb dX5_told_14 (by omega) (by omega) (by rw [s_5]; rfl) (by decide) ?_
    refine lv_aload_n hx hb dX5_told_71 rfl (lv_at hl 0 rfl) ?_
    have hPc := hP.sub (ws' := [(h0, .inr (5, [.ref g_row, .int 0, .int 2, .int 0, .ref g_many, .ref g_loss, .ref g_less, .ref g_voteValue, .ref g_voteNumber, .ref g_allValue, .ref g_allNumber, .int 0, .ref g_nodeL, .ref g_nodeR, .int 0, .ref g_part, .int 0, .ref g_wasMany, .ref g_wasLoss, .ref g_wasValue, .ref g_wasNumber, .ref g_path, .int 0, .ref g_heavyValue, .ref g_heavyTimes, .int 0, .ref g_fewest, .ref g_which, .ref g_met, .int 0]))]) [0] rfl
    have hKc := hK.sub (tys' := []) [] rfl
    refine vp_callSi (W.runV (As := []) (rest := []) ⟨hx, hb, hml, hown, hts⟩ (c_X5_nodesWithMajority l dC dI h0 g_row g_many g_loss g_less g_voteValue g_voteNumber g_allValue g_allNumber g_nodeL g_nodeR g_part g_wasMany g_wasLoss g_wasValue g_wasNumber g_path g_heavyValue g_heavyTimes g_fewest g_which g_met 0) (cwV 0 hts gX5_told_X5_nodesWithMajority rfl rfl rfl (by decide +kernel) ⟨Nat.le_of_ble_eq_true rfl, Nat.le_of_ble_eq_true rfl⟩) ⟨fun a U g mk q => by obtain ⟨q0, qP, qK⟩ := q; exact ⟨q0, qP, va_K.moved (u := U) (U := U.calling g mk a) (Vm.Alike.refl U.vm) qK⟩, va_recv hKc hPc (ci := 5) (q0 := 0) rfl rfl, fun U hU hW => ⟨rfl, by rw [hU]; exact hPc, va_K.moved hW.alike hKc⟩⟩ rfl rfl hl.1 rfl (lv_room (Nat.le_of_ble_eq_true rfl)) dX5_told_72 ⟨Nat.le_of_ble_eq_true rfl, Nat.le_of_ble_eq_true rfl⟩) (fun r_6 w_6 => ?_)
    subst w_6
    have hP9 := hP.sub (ws' := []) [] rfl
    have hD9 := hD.sub (ws' := []) [] (by decide) rfl
    have hK9 := hK.sub (tys' := []) [] rfl
    exact W.iret (v := 0) hx hb hr (fun t ht hW => ⟨⟨0, (), rfl, Or.inr (Or.inl ⟨rfl, by omega⟩), by rw [ht]; exact hP9, va_K.moved hW.alike hK9, hD9⟩, hS.F ht⟩) hS.2.2 dX5_told_75
  by_cases s_7 : p0.toInt = 4
  · refine lv_tableIn (tgt := 76) (off := 62) hx hb dX5_told_14 (by omega) (by omega) (by rw [s_7]; rfl) (by decide) ?_
    refine lv_aload_n hx hb dX5_told_76 rfl (lv_at hl 0 rfl) ?_
    refine lv_iconst (v := 0) hx hb dX5_told_77 (by decide) ?_
    refine lv_aload_n hx hb dX5_told_78 rfl (lv_at hl 0 rfl) ?_
    refine va_get (D := (dC, dI)) (ci := 5) (v := .int 0) (C := RX5) (T := TX5) (N := 30) hx hb hts hi_5 hown hK hP 0 rfl rfl 1 (by decide) hf_84 (fun _ h9 => h9) rfl dX5_told_79 ?_
    have hPc := hP.sub (ws' := [(h0, .inr (5, [.ref g_row, .int 0, .int 2, .int 0, .ref g_many, .ref g_loss, .ref g_less, .ref g_voteValue, .ref g_voteNumber, .ref g_allValue, .ref g_allNumber, .int 0, .ref g_nodeL, .ref g_nodeR, .int 0, .ref g_part, .int 0, .ref g_wasMany, .ref g_wasLoss, .ref g_wasValue, .ref g_wasNumber, .ref g_path, .int 0, .ref g_heavyValue, .ref g_heavyTimes, .int 0, .ref g_fewest, .ref g_which, .ref g_met, .int 0]))]) [0] rfl
    have hKc := hK.sub (tys' := []) [] rfl
    refine vp_callSi (W.runV (As := [.int 0, .int 0]) (rest := []) ⟨hx, hb, hml, hown, hts⟩ (c_X5_deep l dC dI h0 g_row g_many g_loss g_less g_voteValue g_voteNumber g_allValue g_allNumber g_nodeL g_nodeR g_part g_wasMany g_wasLoss g_wasValue g_wasNumber g_path g_heavyValue g_heavyTimes g_fewest g_which g_met 0) (cwV 2 hts gX5_told_X5_deep rfl rfl rfl (by decide +kernel) ⟨Nat.le_of_ble_eq_true rfl, Nat.le_of_ble_eq_true rfl⟩) ⟨fun a U g mk q => by obtain ⟨q0, qP, qK⟩ := q; exact ⟨q0, qP, va_K.moved (u := U) (U := U.calling g mk a) (Vm.Alike.refl U.vm) qK⟩, va_recv hKc hPc (ci := 5) (q0 := 0) rfl rfl, fun U hU hW => ⟨rfl, by rw [hU]; exact hPc, va_K.moved hW.alike hKc⟩⟩ rfl rfl hl.1 rfl (lv_room (Nat.le_of_ble_eq_true rfl)) dX5_told_82 ⟨Nat.le_of_ble_eq_true rfl, Nat.le_of_ble_eq_true rfl⟩) (fun r_8 w_8 => ?_)
    subst w_8
    have hP9 := hP.sub (ws' := []) [] rfl
    have hD9 := hD.sub (ws' := []) [] (by decide) rfl
    have hK9 := hK.sub (tys' := []) [] rfl
    exact W.iret (v := 0) hx hb hr (fun t ht hW => ⟨⟨0, (), rfl, Or.inr (Or.inl ⟨rfl, by omega⟩), by rw [ht]; exact hP9, va_K.moved hW.alike hK9, hD9⟩, hS.F ht⟩) hS.2.2 dX5_told_85
  by_cases s_9 : p0.toInt = 5
  · refine lv_tableIn (tgt := 86) (off := 72) hx hb dX5_told_14 (by omega) (by omega) (by rw [s_9]; rfl) (by decide) ?_
    refine lv_aload_n hx hb dX5_told_86 rfl (lv_at hl 0 rfl) ?_
    refine va_get (D := (dC, dI)) (ci := 5) (v := .int 0) (C := RX5) (T := TX5) (N := 30) hx hb hts hi_5 hown hK hP 0 rfl rfl 1 (by decide) hf_84 (fun _ h9 => h9) rfl dX5_told_87 ?_
    refine lv_if_ne (tgt := 97) hx hb dX5_told_90 (by decide) (fun c_10 => ?_) (fun c_10 => ?_)
    · exact absurd c_10 (by decide)
    · refine lv_iconst (v := 0) hx hb dX5_told_93 (by decide) ?_
      refine lv_goto (tgt := 103) hx hb dX5_told_94 (by decide) ?_
      have hP9 := hP.sub (ws' := []) [] rfl
      have hD9 := hD.sub (ws' := []) [] (by decide) rfl
      have hK9 := hK.sub (tys' := []) [] rfl
      exact W.iret (v := 0) hx hb hr (fun t ht hW => ⟨⟨0, (), rfl, Or.inr (Or.inl ⟨rfl, by omega⟩), by rw [ht]; exact hP9, va_K.moved hW.alike hK9, hD9⟩, hS.F ht⟩) hS.2.2 dX5_told_103
  by_cases s_11 : p0.toInt = 6
  · refine lv_tableIn (tgt := 104) (off := 90) hx hb dX5_told_14 (by omega) (by omega) (by rw [s_11]; rfl) (by decide) ?_
    refine lv_iconst (v := 0) hx hb dX5_told_104 (by decide) ?_
    refine lv_istore_n (lv' := [(2, .int 0), (0, .ref h0), (1, .int p0)]) hx hb dX5_told_105 rfl hl (by decide) rfl (fun ls hl => ?_)
    refine lv_iconst (v := 0) hx hb dX5_told_106 (by decide) ?_
    refine lv_istore_n (lv' := [(3, .int 0), (2, .int 0), (0, .ref h0), (1, .int p0)]) hx hb dX5_told_107 rfl hl (by decide) rfl (fun ls hl => ?_)
    refine lv_iload_n hx hb dX5_told_108 rfl (lv_at hl 0 rfl) ?_
    refine lv_aload_n hx hb dX5_told_109 rfl (lv_at hl 2 rfl) ?_
    refine va_get (D := (dC, dI)) (ci := 5) (v := .int 0) (C := RX5) (T := TX5) (N := 30) hx hb hts hi_5 hown hK hP 0 rfl rfl 14 (by decide) hf_101 (fun _ h9 => h9) rfl dX5_told_110 ?_
    refine lv_icmp_ge (tgt := 131) hx hb dX5_told_113 (by decide) (fun c_12 => ?_) (fun c_12 => ?_)
    · refine lv_iload_n hx hb dX5_told_131 rfl (lv_at hl 1 rfl) ?_
      have hP9 := hP.sub (ws' := []) [] rfl
      have hD9 := hD.sub (ws' := []) [] (by decide) rfl
      have hK9 := hK.sub (tys' := []) [] rfl
      exact W.iret (v := 0) hx hb hr (fun t ht hW => ⟨⟨0, (), rfl, Or.inr (Or.inl ⟨rfl, by omega⟩), by rw [ht]; exact hP9, va_K.moved hW.alike hK9, hD9⟩, hS.F ht⟩) hS.2.2 dX5_told_132
    · exact absurd c_12 (by decide)
  refine lv_tableOut (tgt := 133) hx hb dX5_told_14 (by omega) (by decide) ?_
  refine lv_iconst (v := (-1)) hx hb dX5_told_133 (by decide) ?_
  have hP9 := hP.sub (ws' := []) [] rfl
  have hD9 := hD.sub (ws' := []) [] (by decide) rfl
  have hK9 := hK.sub (tys' := []) [] rfl
  exact W.iret (v := (-1)) hx hb hr (fun t ht hW => ⟨⟨(-1), (), rfl, Or.inr (Or.inr (⟨rfl, by omega⟩)), by rw [ht]; exact hP9, va_K.moved hW.alike hK9, hD9⟩, hS.F ht⟩) hS.2.2 dX5_told_134

set_option maxHeartbeats 4000000 in
set_option maxRecDepth 100000 in
/-- at of the reference, fresh -/
theorem c_X5_at (l : Launch) (dC : Nat → ClassId) (dI : Nat → Nat → Nat) (h0 : Nat) (g_row : Nat) (g_many : Nat) (g_loss : Nat) (g_less : Nat) (g_voteValue : Nat) (g_voteNumber : Nat) (g_allValue : Nat) (g_allNumber : Nat) (g_nodeL : Nat) (g_nodeR : Nat) (g_part : Nat) (g_wasMany : Nat) (g_wasLoss : Nat) (g_wasValue : Nat) (g_wasNumber : Nat) (g_path : Nat) (g_heavyValue : Nat) (g_heavyTimes : Nat) (g_fewest : Nat) (g_which : Nat) (g_met : Nat) (p0 : Int32) (sz : Nat) : Met l yX5_at wsX5_at ({ frames := 2, cells := 0, slots := 0, locals := 90 }) (va_Pc [.ref h0, .int p0] (fun U => U.heap.size = sz ∧ va_P (dC, dI) vwCl [(h0, .inr (5, [.ref g_row, .int 0, .int 2, .int 0, .ref g_many, .ref g_loss, .ref g_less, .ref g_voteValue, .ref g_voteNumber, .ref g_allValue, .ref g_allNumber, .int 0, .ref g_nodeL, .ref g_nodeR, .int 0, .ref g_part, .int 0, .ref g_wasMany, .ref g_wasLoss, .ref g_wasValue, .ref g_wasNumber, .ref g_path, .int 0, .ref g_heavyValue, .ref g_heavyTimes, .int 0, .ref g_fewest, .ref g_which, .ref g_met, .int 0]))] U.heap ∧ va_K (dC, dI) vwCl [] U ∧ va_D (fun _ => True) [(h0, .inr (5, [.ref g_row, .int 0, .int 2, .int 0, .ref g_many, .ref g_loss, .ref g_less, .ref g_voteValue, .ref g_voteNumber, .ref g_allValue, .ref g_allNumber, .int 0, .ref g_nodeL, .ref g_nodeR, .int 0, .ref g_part, .int 0, .ref g_wasMany, .ref g_wasLoss, .ref g_wasValue, .ref g_wasNumber, .ref g_path, .int 0, .ref g_heavyValue, .ref g_heavyTimes, .int 0, .ref g_fewest, .ref g_which, .ref g_met, .int 0]))])) (va_Qi (fun (r : Int32) (_ : Unit) => r = 0) (fun (_ : Unit) (t : State) => va_P (dC, dI) vwCl [(h0, .inr (5, [.ref g_row, .int 0, .int 2, .int 1, .ref g_many, .ref g_loss, .ref g_less, .ref g_voteValue, .ref g_voteNumber, .ref g_allValue, .ref g_allNumber, .int 0, .ref g_nodeL, .ref g_nodeR, .int 0, .ref g_part, .int 0, .ref g_wasMany, .ref g_wasLoss, .ref g_wasValue, .ref g_wasNumber, .ref g_path, .int 0, .ref g_heavyValue, .ref g_heavyTimes, .int 0, .ref g_fewest, .ref g_which, .ref g_met, .int 0]))] t.heap ∧ va_K (dC, dI) vwCl [] t ∧ va_D (va_A [(h0, .inr (5, [.ref g_row, .int 0, .int 2, .int 0, .ref g_many, .ref g_loss, .ref g_less, .ref g_voteValue, .ref g_voteNumber, .ref g_allValue, .ref g_allNumber, .int 0, .ref g_nodeL, .ref g_nodeR, .int 0, .ref g_part, .int 0, .ref g_wasMany, .ref g_wasLoss, .ref g_wasValue, .ref g_wasNumber, .ref g_path, .int 0, .ref g_heavyValue, .ref g_heavyTimes, .int 0, .ref g_fewest, .ref g_which, .ref g_met, .int 0]))] sz) [(h0, .inr (5, [.ref g_row, .int 0, .int 2, .int 1, .ref g_many, .ref g_loss, .ref g_less, .ref g_voteValue, .ref g_voteNumber, .ref g_allValue, .ref g_allNumber, .int 0, .ref g_nodeL, .ref g_nodeR, .int 0, .ref g_part, .int 0, .ref g_wasMany, .ref g_wasLoss, .ref g_wasValue, .ref g_wasNumber, .ref g_path, .int 0, .ref g_heavyValue, .ref g_heavyTimes, .int 0, .ref g_fewest, .ref g_which, .ref g_met, .int 0]))]) (va_A [(h0, .inr (5, [.ref g_row, .int 0, .int 2, .int 0, .ref g_many, .ref g_loss, .ref g_less, .ref g_voteValue, .ref g_voteNumber, .ref g_allValue, .ref g_allNumber, .int 0, .ref g_nodeL, .ref g_nodeR, .int 0, .ref g_part, .int 0, .ref g_wasMany, .ref g_wasLoss, .ref g_wasValue, .ref g_wasNumber, .ref g_path, .int 0, .ref g_heavyValue, .ref g_heavyTimes, .int 0, .ref g_fewest, .ref g_which, .ref g_met, .int 0]))] sz)) 0 0 (va_A [(h0, .inr (5, [.ref g_row, .int 0, .int 2, .int 0, .ref g_many, .ref g_loss, .ref g_less, .ref g_voteValue, .ref g_voteNumber, .ref g_allValue, .ref g_allNumber, .int 0, .ref g_nodeL, .ref g_nodeR, .int 0, .ref g_part, .int 0, .ref g_wasMany, .ref g_wasLoss, .ref g_wasValue, .ref g_wasNumber, .ref g_path, .int 0, .ref g_heavyValue, .ref g_heavyTimes, .int 0, .ref g_fewest, .ref g_which, .ref g_met, .int 0]))] sz) := by
  refine Met.ofW (cc := cX5_at) (maxL := 2) (ret := (some .int)) (by decide) rfl ?_
  intro p e s m args below meth c s₁ B hml hv
  obtain ⟨rfl, hsz, hP, hK, hD0⟩ := hv
  have hx := B.exec
  have hb := B.bytes
  have hr := B.returns
  have hts := atoms_spec (ws := wsX5_at) B.pre
  have hown : s.vm.findClass RX5 = some m.cls := findClass_of_methodNamed B.named
  have hlocks := B.notSynchronized
  subst hsz
  have hD := hD0.self (sz := s.heap.size)
  generalize hAe : va_A [(h0, .inr (5, [.ref g_row, .int 0, .int 2, .int 0, .ref g_many, .ref g_loss, .ref g_less, .ref g_voteValue, .ref g_voteNumber, .ref g_allValue, .ref g_allNumber, .int 0, .ref g_nodeL, .ref g_nodeR, .int 0, .ref g_part, .int 0, .ref g_wasMany, .ref g_wasLoss, .ref g_wasValue, .ref g_wasNumber, .ref g_path, .int 0, .ref g_heavyValue, .ref g_heavyTimes, .int 0, .ref g_fewest, .ref g_which, .ref g_met, .int 0]))] s.heap.size = A at hD ⊢
  have hA : ∀ q : Nat, s.heap.size ≤ q → A q := fun q h => by rw [← hAe]; exact Or.inr h
  have hS : va_S A s.heap s.heap [] := va_S.rf
  have hP : va_P (dC, dI) vwCl [(h0, .inr (5, [.ref g_row, .int 0, .int 2, .int 0, .ref g_many, .ref g_loss, .ref g_less, .ref g_voteValue, .ref g_voteNumber, .ref g_allValue, .ref g_allNumber, .int 0, .ref g_nodeL, .ref g_nodeR, .int 0, .ref g_part, .int 0, .ref g_wasMany, .ref g_wasLoss, .ref g_wasValue, .ref g_wasNumber, .ref g_path, .int 0, .ref g_heavyValue, .ref g_heavyTimes, .int 0, .ref g_fewest, .ref g_which, .ref g_met, .int 0]))] s.heap := hP
  have hl := lv_entry ([.ref h0, .int p0]) (n := 2) (Nat.le_of_ble_eq_true rfl)
  rw [lg_entry_eq]
  generalize (lg_sl ([.ref h0, .int p0]) ++ List.replicate (2 - (lg_sl ([.ref h0, .int p0])).length) Slot.unset).toArray = ls at hl ⊢
  have hl : lv_has ls 2 [(0, .ref h0), (1, .int p0)] := hl
  have hf_77 := hts (.fieldLink RX5 77 "MajorityIndexModel" "thrown" "I") (by decide +kernel)
  have hi_5 : ∀ w ∈ u_ws RX5 TX5 30, w ∈ wsX5_at := by decide +kernel
  refine lv_aload_n hx hb dX5_at_0 rfl (lv_at hl 0 rfl) ?_
  refine lv_aload_n hx hb dX5_at_1 rfl (lv_at hl 0 rfl) ?_
  refine lv_iload_n hx hb dX5_at_2 rfl (lv_at hl 1 rfl) ?_
  have hPc := hP.sub (ws' := [(h0, .inr (5, [.ref g_row, .int 0, .int 2, .int 0, .ref g_many, .ref g_loss, .ref g_less, .ref g_voteValue, .ref g_voteNumber, .ref g_allValue, .ref g_allNumber, .int 0, .ref g_nodeL, .ref g_nodeR, .int 0, .ref g_part, .int 0, .ref g_wasMany, .ref g_wasLoss, .ref g_wasValue, .ref g_wasNumber, .ref g_path, .int 0, .ref g_heavyValue, .ref g_heavyTimes, .int 0, .ref g_fewest, .ref g_which, .ref g_met, .int 0]))]) [0] rfl
  have hKc := hK.sub (tys' := []) [] rfl
  refine vp_callSi (W.runV (As := [.int p0]) (rest := [.ref h0]) ⟨hx, hb, hml, hown, hts⟩ (c_X5_isPlace l dC dI h0 g_row g_many g_loss g_less g_voteValue g_voteNumber g_allValue g_allNumber g_nodeL g_nodeR g_part g_wasMany g_wasLoss g_wasValue g_wasNumber g_path g_heavyValue g_heavyTimes g_fewest g_which g_met 0 p0) (cwV 1 hts gX5_at_X5_isPlace rfl rfl rfl (by decide +kernel) ⟨Nat.le_of_ble_eq_true rfl, Nat.le_of_ble_eq_true rfl⟩) ⟨fun a U g mk q => by obtain ⟨q0, qP, qK⟩ := q; exact ⟨q0, qP, va_K.moved (u := U) (U := U.calling g mk a) (Vm.Alike.refl U.vm) qK⟩, va_recv hKc hPc (ci := 5) (q0 := 0) rfl rfl, fun U hU hW => ⟨rfl, by rw [hU]; exact hPc, va_K.moved hW.alike hKc⟩⟩ rfl rfl hl.1 rfl (lv_room (Nat.le_of_ble_eq_true rfl)) dX5_at_3 ⟨Nat.le_of_ble_eq_true rfl, Nat.le_of_ble_eq_true rfl⟩) (fun r_1 w_1 => ?_)
  rcases w_1 with ⟨rfl, w_1⟩
  · have w_1 : True := w_1
    refine lv_if_eq (tgt := 13) hx hb dX5_at_6 (by decide) (fun c_2 => ?_) (fun c_2 => ?_)
    · refine lv_iconst (v := 1) hx hb dX5_at_13 (by decide) ?_
      refine va_put (D := (dC, dI)) (ci := 5) (v := .int 1) (ty := .int) (C := RX5) (T := TX5) (N := 30) hx hb hts hi_5 tyX5 tyX5_ok nmX5 hown hK hP hD hS 0 rfl rfl 3 (by decide) hf_77 (fun _ h9 => h9) rfl (by decide +kernel) rfl rfl (Nat.le_of_ble_eq_true rfl) dX5_at_14 (fun H locs hP hD hS => ?_)
      have hP : va_P (dC, dI) vwCl [(h0, .inr (5, [.ref g_row, .int 0, .int 2, .int 1, .ref g_many, .ref g_loss, .ref g_less, .ref g_voteValue, .ref g_voteNumber, .ref g_allValue, .ref g_allNumber, .int 0, .ref g_nodeL, .ref g_nodeR, .int 0, .ref g_part, .int 0, .ref g_wasMany, .ref g_wasLoss, .ref g_wasValue, .ref g_wasNumber, .ref g_path, .int 0, .ref g_heavyValue, .ref g_heavyTimes, .int 0, .ref g_fewest, .ref g_which, .ref g_met, .int 0]))] H := hP
      have hD : va_D A [(h0, .inr (5, [.ref g_row, .int 0, .int 2, .int 1, .ref g_many, .ref g_loss, .ref g_less, .ref g_voteValue, .ref g_voteNumber, .ref g_allValue, .ref g_allNumber, .int 0, .ref g_nodeL, .ref g_nodeR, .int 0, .ref g_part, .int 0, .ref g_wasMany, .ref g_wasLoss, .ref g_wasValue, .ref g_wasNumber, .ref g_path, .int 0, .ref g_heavyValue, .ref g_heavyTimes, .int 0, .ref g_fewest, .ref g_which, .ref g_met, .int 0]))] := hD
      refine lv_aload_n hx hb dX5_at_17 rfl (lv_at hl 0 rfl) ?_
      refine va_get (D := (dC, dI)) (ci := 5) (v := .int 1) (C := RX5) (T := TX5) (N := 30) hx hb hts hi_5 hown hK hP 0 rfl rfl 3 (by decide) hf_77 (fun _ h9 => h9) rfl dX5_at_18 ?_
      refine lv_if_ne (tgt := 33) hx hb dX5_at_21 (by decide) (fun c_3 => ?_) (fun c_3 => ?_)
      · refine lv_iconst (v := 0) hx hb dX5_at_33 (by decide) ?_
        have hP9 := hP.sub (ws' := [(h0, .inr (5, [.ref g_row, .int 0, .int 2, .int 1, .ref g_many, .ref g_loss, .ref g_less, .ref g_voteValue, .ref g_voteNumber, .ref g_allValue, .ref g_allNumber, .int 0, .ref g_nodeL, .ref g_nodeR, .int 0, .ref g_part, .int 0, .ref g_wasMany, .ref g_wasLoss, .ref g_wasValue, .ref g_wasNumber, .ref g_path, .int 0, .ref g_heavyValue, .ref g_heavyTimes, .int 0, .ref g_fewest, .ref g_which, .ref g_met, .int 0]))]) [0] rfl
        have hD9 := hD.sub (ws' := [(h0, .inr (5, [.ref g_row, .int 0, .int 2, .int 1, .ref g_many, .ref g_loss, .ref g_less, .ref g_voteValue, .ref g_voteNumber, .ref g_allValue, .ref g_allNumber, .int 0, .ref g_nodeL, .ref g_nodeR, .int 0, .ref g_part, .int 0, .ref g_wasMany, .ref g_wasLoss, .ref g_wasValue, .ref g_wasNumber, .ref g_path, .int 0, .ref g_heavyValue, .ref g_heavyTimes, .int 0, .ref g_fewest, .ref g_which, .ref g_met, .int 0]))]) [0] (by decide) rfl
        have hK9 := hK.sub (tys' := []) [] rfl
        exact W.iret (v := 0) hx hb hr (fun t ht hW => ⟨⟨0, (), rfl, rfl, by rw [ht]; exact hP9, va_K.moved hW.alike hK9, hD9⟩, hS.F ht⟩) hS.2.2 dX5_at_34
      · exact absurd c_3 (by decide)
    · exact absurd c_2 (by decide)

set_option maxHeartbeats 4000000 in
set_option maxRecDepth 100000 in
/-- vote of the reference, fresh -/
theorem c_X5_vote (l : Launch) (dC : Nat → ClassId) (dI : Nat → Nat → Nat) (h0 : Nat) (g_row : Nat) (g_many : Nat) (g_loss : Nat) (g_less : Nat) (g_voteValue : Nat) (g_voteNumber : Nat) (g_allValue : Nat) (g_allNumber : Nat) (g_nodeL : Nat) (g_nodeR : Nat) (g_part : Nat) (g_wasMany : Nat) (g_wasLoss : Nat) (g_wasValue : Nat) (g_wasNumber : Nat) (g_path : Nat) (g_heavyValue : Nat) (g_heavyTimes : Nat) (g_fewest : Nat) (g_which : Nat) (g_met : Nat) (p0 : Int32) (p1 : Int32) (p2 : Int32) (p3 : Int32) (sz : Nat) : Met l yX5_vote wsX5_vote ({ frames := 2, cells := 0, slots := 0, locals := 90 }) (va_Pc [.ref h0, .int p0, .int p1, .int p2, .int p3] (fun U => U.heap.size = sz ∧ va_P (dC, dI) vwCl [(h0, .inr (5, [.ref g_row, .int 0, .int 2, .int 0, .ref g_many, .ref g_loss, .ref g_less, .ref g_voteValue, .ref g_voteNumber, .ref g_allValue, .ref g_allNumber, .int 0, .ref g_nodeL, .ref g_nodeR, .int 0, .ref g_part, .int 0, .ref g_wasMany, .ref g_wasLoss, .ref g_wasValue, .ref g_wasNumber, .ref g_path, .int 0, .ref g_heavyValue, .ref g_heavyTimes, .int 0, .ref g_fewest, .ref g_which, .ref g_met, .int 0]))] U.heap ∧ va_K (dC, dI) vwCl [] U ∧ va_D (fun _ => True) [(h0, .inr (5, [.ref g_row, .int 0, .int 2, .int 0, .ref g_many, .ref g_loss, .ref g_less, .ref g_voteValue, .ref g_voteNumber, .ref g_allValue, .ref g_allNumber, .int 0, .ref g_nodeL, .ref g_nodeR, .int 0, .ref g_part, .int 0, .ref g_wasMany, .ref g_wasLoss, .ref g_wasValue, .ref g_wasNumber, .ref g_path, .int 0, .ref g_heavyValue, .ref g_heavyTimes, .int 0, .ref g_fewest, .ref g_which, .ref g_met, .int 0]))])) (va_Qi (fun (r : Int32) (_ : Unit) => r = 0) (fun (_ : Unit) (t : State) => va_P (dC, dI) vwCl [(h0, .inr (5, [.ref g_row, .int 0, .int 2, .int 1, .ref g_many, .ref g_loss, .ref g_less, .ref g_voteValue, .ref g_voteNumber, .ref g_allValue, .ref g_allNumber, .int 0, .ref g_nodeL, .ref g_nodeR, .int 0, .ref g_part, .int 0, .ref g_wasMany, .ref g_wasLoss, .ref g_wasValue, .ref g_wasNumber, .ref g_path, .int 0, .ref g_heavyValue, .ref g_heavyTimes, .int 0, .ref g_fewest, .ref g_which, .ref g_met, .int 0]))] t.heap ∧ va_K (dC, dI) vwCl [] t ∧ va_D (va_A [(h0, .inr (5, [.ref g_row, .int 0, .int 2, .int 0, .ref g_many, .ref g_loss, .ref g_less, .ref g_voteValue, .ref g_voteNumber, .ref g_allValue, .ref g_allNumber, .int 0, .ref g_nodeL, .ref g_nodeR, .int 0, .ref g_part, .int 0, .ref g_wasMany, .ref g_wasLoss, .ref g_wasValue, .ref g_wasNumber, .ref g_path, .int 0, .ref g_heavyValue, .ref g_heavyTimes, .int 0, .ref g_fewest, .ref g_which, .ref g_met, .int 0]))] sz) [(h0, .inr (5, [.ref g_row, .int 0, .int 2, .int 1, .ref g_many, .ref g_loss, .ref g_less, .ref g_voteValue, .ref g_voteNumber, .ref g_allValue, .ref g_allNumber, .int 0, .ref g_nodeL, .ref g_nodeR, .int 0, .ref g_part, .int 0, .ref g_wasMany, .ref g_wasLoss, .ref g_wasValue, .ref g_wasNumber, .ref g_path, .int 0, .ref g_heavyValue, .ref g_heavyTimes, .int 0, .ref g_fewest, .ref g_which, .ref g_met, .int 0]))]) (va_A [(h0, .inr (5, [.ref g_row, .int 0, .int 2, .int 0, .ref g_many, .ref g_loss, .ref g_less, .ref g_voteValue, .ref g_voteNumber, .ref g_allValue, .ref g_allNumber, .int 0, .ref g_nodeL, .ref g_nodeR, .int 0, .ref g_part, .int 0, .ref g_wasMany, .ref g_wasLoss, .ref g_wasValue, .ref g_wasNumber, .ref g_path, .int 0, .ref g_heavyValue, .ref g_heavyTimes, .int 0, .ref g_fewest, .ref g_which, .ref g_met, .int 0]))] sz)) 0 0 (va_A [(h0, .inr (5, [.ref g_row, .int 0, .int 2, .int 0, .ref g_many, .ref g_loss, .ref g_less, .ref g_voteValue, .ref g_voteNumber, .ref g_allValue, .ref g_allNumber, .int 0, .ref g_nodeL, .ref g_nodeR, .int 0, .ref g_part, .int 0, .ref g_wasMany, .ref g_wasLoss, .ref g_wasValue, .ref g_wasNumber, .ref g_path, .int 0, .ref g_heavyValue, .ref g_heavyTimes, .int 0, .ref g_fewest, .ref g_which, .ref g_met, .int 0]))] sz) := by
  refine Met.ofW (cc := cX5_vote) (maxL := 6) (ret := (some .int)) (by decide) rfl ?_
  intro p e s m args below meth c s₁ B hml hv
  obtain ⟨rfl, hsz, hP, hK, hD0⟩ := hv
  have hx := B.exec
  have hb := B.bytes
  have hr := B.returns
  have hts := atoms_spec (ws := wsX5_vote) B.pre
  have hown : s.vm.findClass RX5 = some m.cls := findClass_of_methodNamed B.named
  have hlocks := B.notSynchronized
  subst hsz
  have hD := hD0.self (sz := s.heap.size)
  generalize hAe : va_A [(h0, .inr (5, [.ref g_row, .int 0, .int 2, .int 0, .ref g_many, .ref g_loss, .ref g_less, .ref g_voteValue, .ref g_voteNumber, .ref g_allValue, .ref g_allNumber, .int 0, .ref g_nodeL, .ref g_nodeR, .int 0, .ref g_part, .int 0, .ref g_wasMany, .ref g_wasLoss, .ref g_wasValue, .ref g_wasNumber, .ref g_path, .int 0, .ref g_heavyValue, .ref g_heavyTimes, .int 0, .ref g_fewest, .ref g_which, .ref g_met, .int 0]))] s.heap.size = A at hD ⊢
  have hA : ∀ q : Nat, s.heap.size ≤ q → A q := fun q h => by rw [← hAe]; exact Or.inr h
  have hS : va_S A s.heap s.heap [] := va_S.rf
  have hP : va_P (dC, dI) vwCl [(h0, .inr (5, [.ref g_row, .int 0, .int 2, .int 0, .ref g_many, .ref g_loss, .ref g_less, .ref g_voteValue, .ref g_voteNumber, .ref g_allValue, .ref g_allNumber, .int 0, .ref g_nodeL, .ref g_nodeR, .int 0, .ref g_part, .int 0, .ref g_wasMany, .ref g_wasLoss, .ref g_wasValue, .ref g_wasNumber, .ref g_path, .int 0, .ref g_heavyValue, .ref g_heavyTimes, .int 0, .ref g_fewest, .ref g_which, .ref g_met, .int 0]))] s.heap := hP
  have hl := lv_entry ([.ref h0, .int p0, .int p1, .int p2, .int p3]) (n := 6) (Nat.le_of_ble_eq_true rfl)
  rw [lg_entry_eq]
  generalize (lg_sl ([.ref h0, .int p0, .int p1, .int p2, .int p3]) ++ List.replicate (6 - (lg_sl ([.ref h0, .int p0, .int p1, .int p2, .int p3])).length) Slot.unset).toArray = ls at hl ⊢
  have hl : lv_has ls 6 [(0, .ref h0), (1, .int p0), (2, .int p1), (3, .int p2), (4, .int p3)] := hl
  have hf_77 := hts (.fieldLink RX5 77 "MajorityIndexModel" "thrown" "I") (by decide +kernel)
  have hi_5 : ∀ w ∈ u_ws RX5 TX5 30, w ∈ wsX5_vote := by decide +kernel
  refine lv_aload_n hx hb dX5_vote_0 rfl (lv_at hl 0 rfl) ?_
  refine lv_iconst (v := 1) hx hb dX5_vote_1 (by decide) ?_
  refine va_put (D := (dC, dI)) (ci := 5) (v := .int 1) (ty := .int) (C := RX5) (T := TX5) (N := 30) hx hb hts hi_5 tyX5 tyX5_ok nmX5 hown hK hP hD hS 0 rfl rfl 3 (by decide) hf_77 (fun _ h9 => h9) rfl (by decide +kernel) rfl rfl (Nat.le_of_ble_eq_true rfl) dX5_vote_2 (fun H locs hP hD hS => ?_)
  have hP : va_P (dC, dI) vwCl [(h0, .inr (5, [.ref g_row, .int 0, .int 2, .int 1, .ref g_many, .ref g_loss, .ref g_less, .ref g_voteValue, .ref g_voteNumber, .ref g_allValue, .ref g_allNumber, .int 0, .ref g_nodeL, .ref g_nodeR, .int 0, .ref g_part, .int 0, .ref g_wasMany, .ref g_wasLoss, .ref g_wasValue, .ref g_wasNumber, .ref g_path, .int 0, .ref g_heavyValue, .ref g_heavyTimes, .int 0, .ref g_fewest, .ref g_which, .ref g_met, .int 0]))] H := hP
  have hD : va_D A [(h0, .inr (5, [.ref g_row, .int 0, .int 2, .int 1, .ref g_many, .ref g_loss, .ref g_less, .ref g_voteValue, .ref g_voteNumber, .ref g_allValue, .ref g_allNumber, .int 0, .ref g_nodeL, .ref g_nodeR, .int 0, .ref g_part, .int 0, .ref g_wasMany, .ref g_wasLoss, .ref g_wasValue, .ref g_wasNumber, .ref g_path, .int 0, .ref g_heavyValue, .ref g_heavyTimes, .int 0, .ref g_fewest, .ref g_which, .ref g_met, .int 0]))] := hD
  refine lv_aload_n hx hb dX5_vote_5 rfl (lv_at hl 0 rfl) ?_
  refine lv_iload_n hx hb dX5_vote_6 rfl (lv_at hl 1 rfl) ?_
  refine lv_iload_n hx hb dX5_vote_7 rfl (lv_at hl 2 rfl) ?_
  have hPc := hP.sub (ws' := [(h0, .inr (5, [.ref g_row, .int 0, .int 2, .int 1, .ref g_many, .ref g_loss, .ref g_less, .ref g_voteValue, .ref g_voteNumber, .ref g_allValue, .ref g_allNumber, .int 0, .ref g_nodeL, .ref g_nodeR, .int 0, .ref g_part, .int 0, .ref g_wasMany, .ref g_wasLoss, .ref g_wasValue, .ref g_wasNumber, .ref g_path, .int 0, .ref g_heavyValue, .ref g_heavyTimes, .int 0, .ref g_fewest, .ref g_which, .ref g_met, .int 0]))]) [0] rfl
  have hKc := hK.sub (tys' := []) [] rfl
  refine vp_callSi (W.runV (As := [.int p0, .int p1]) (rest := []) ⟨hx, hb, hml, hown, hts⟩ (c_X5_asked l dC dI h0 g_row g_many g_loss g_less g_voteValue g_voteNumber g_allValue g_allNumber g_nodeL g_nodeR g_part g_wasMany g_wasLoss g_wasValue g_wasNumber g_path g_heavyValue g_heavyTimes g_fewest g_which g_met 1 p0 p1) (cwV 2 hts gX5_vote_X5_asked rfl rfl rfl (by decide +kernel) ⟨Nat.le_of_ble_eq_true rfl, Nat.le_of_ble_eq_true rfl⟩) ⟨fun a U g mk q => by obtain ⟨q0, qP, qK⟩ := q; exact ⟨q0, qP, va_K.moved (u := U) (U := U.calling g mk a) (Vm.Alike.refl U.vm) qK⟩, va_recv hKc hPc (ci := 5) (q0 := 0) rfl rfl, fun U hU hW => ⟨rfl, by rw [hU]; exact hPc, va_K.moved hW.alike hKc⟩⟩ rfl rfl hl.1 rfl (lv_room (Nat.le_of_ble_eq_true rfl)) dX5_vote_8 ⟨Nat.le_of_ble_eq_true rfl, Nat.le_of_ble_eq_true rfl⟩) (fun r_1 w_1 => ?_)
  subst w_1
  refine lv_istore (lv' := [(5, .int (-1)), (0, .ref h0), (1, .int p0), (2, .int p1), (3, .int p2), (4, .int p3)]) hx hb dX5_vote_11 hl (by decide) rfl (fun ls hl => ?_)
  refine lv_iload hx hb dX5_vote_13 (lv_at hl 0 rfl) ?_
  refine lv_if_lt (tgt := 45) hx hb dX5_vote_15 (by decide) (fun c_2 => ?_) (fun c_2 => ?_)
  · refine lv_iconst (v := 0) hx hb dX5_vote_45 (by decide) ?_
    have hP9 := hP.sub (ws' := [(h0, .inr (5, [.ref g_row, .int 0, .int 2, .int 1, .ref g_many, .ref g_loss, .ref g_less, .ref g_voteValue, .ref g_voteNumber, .ref g_allValue, .ref g_allNumber, .int 0, .ref g_nodeL, .ref g_nodeR, .int 0, .ref g_part, .int 0, .ref g_wasMany, .ref g_wasLoss, .ref g_wasValue, .ref g_wasNumber, .ref g_path, .int 0, .ref g_heavyValue, .ref g_heavyTimes, .int 0, .ref g_fewest, .ref g_which, .ref g_met, .int 0]))]) [0] rfl
    have hD9 := hD.sub (ws' := [(h0, .inr (5, [.ref g_row, .int 0, .int 2, .int 1, .ref g_many, .ref g_loss, .ref g_less, .ref g_voteValue, .ref g_voteNumber, .ref g_allValue, .ref g_allNumber, .int 0, .ref g_nodeL, .ref g_nodeR, .int 0, .ref g_part, .int 0, .ref g_wasMany, .ref g_wasLoss, .ref g_wasValue, .ref g_wasNumber, .ref g_path, .int 0, .ref g_heavyValue, .ref g_heavyTimes, .int 0, .ref g_fewest, .ref g_which, .ref g_met, .int 0]))]) [0] (by decide) rfl
    have hK9 := hK.sub (tys' := []) [] rfl
    exact W.iret (v := 0) hx hb hr (fun t ht hW => ⟨⟨0, (), rfl, rfl, by rw [ht]; exact hP9, va_K.moved hW.alike hK9, hD9⟩, hS.F ht⟩) hS.2.2 dX5_vote_46
  · exact absurd c_2 (by decide)

set_option maxHeartbeats 4000000 in
set_option maxRecDepth 100000 in
/-- candidate of the reference, fresh -/
theorem c_X5_candidate (l : Launch) (dC : Nat → ClassId) (dI : Nat → Nat → Nat) (h0 : Nat) (g_row : Nat) (g_many : Nat) (g_loss : Nat) (g_less : Nat) (g_voteValue : Nat) (g_voteNumber : Nat) (g_allValue : Nat) (g_allNumber : Nat) (g_nodeL : Nat) (g_nodeR : Nat) (g_part : Nat) (g_wasMany : Nat) (g_wasLoss : Nat) (g_wasValue : Nat) (g_wasNumber : Nat) (g_path : Nat) (g_heavyValue : Nat) (g_heavyTimes : Nat) (g_fewest : Nat) (g_which : Nat) (g_met : Nat) (p0 : Int32) (p1 : Int32) (p2 : Int32) (p3 : Int32) (sz : Nat) : Met l yX5_candidate wsX5_candidate ({ frames := 1, cells := 0, slots := 0, locals := 45 }) (va_Pc [.ref h0, .int p0, .int p1, .int p2, .int p3] (fun U => U.heap.size = sz ∧ va_P (dC, dI) vwCl [(h0, .inr (5, [.ref g_row, .int 0, .int 2, .int 0, .ref g_many, .ref g_loss, .ref g_less, .ref g_voteValue, .ref g_voteNumber, .ref g_allValue, .ref g_allNumber, .int 0, .ref g_nodeL, .ref g_nodeR, .int 0, .ref g_part, .int 0, .ref g_wasMany, .ref g_wasLoss, .ref g_wasValue, .ref g_wasNumber, .ref g_path, .int 0, .ref g_heavyValue, .ref g_heavyTimes, .int 0, .ref g_fewest, .ref g_which, .ref g_met, .int 0]))] U.heap ∧ va_K (dC, dI) vwCl [] U ∧ va_D (fun _ => True) [(h0, .inr (5, [.ref g_row, .int 0, .int 2, .int 0, .ref g_many, .ref g_loss, .ref g_less, .ref g_voteValue, .ref g_voteNumber, .ref g_allValue, .ref g_allNumber, .int 0, .ref g_nodeL, .ref g_nodeR, .int 0, .ref g_part, .int 0, .ref g_wasMany, .ref g_wasLoss, .ref g_wasValue, .ref g_wasNumber, .ref g_path, .int 0, .ref g_heavyValue, .ref g_heavyTimes, .int 0, .ref g_fewest, .ref g_which, .ref g_met, .int 0]))])) (va_Qi (fun (r : Int32) (_ : Unit) => r = 0) (fun (_ : Unit) (t : State) => va_P (dC, dI) vwCl [(h0, .inr (5, [.ref g_row, .int 0, .int 2, .int 1, .ref g_many, .ref g_loss, .ref g_less, .ref g_voteValue, .ref g_voteNumber, .ref g_allValue, .ref g_allNumber, .int 0, .ref g_nodeL, .ref g_nodeR, .int 0, .ref g_part, .int 0, .ref g_wasMany, .ref g_wasLoss, .ref g_wasValue, .ref g_wasNumber, .ref g_path, .int 0, .ref g_heavyValue, .ref g_heavyTimes, .int 0, .ref g_fewest, .ref g_which, .ref g_met, .int 0]))] t.heap ∧ va_K (dC, dI) vwCl [] t ∧ va_D (va_A [(h0, .inr (5, [.ref g_row, .int 0, .int 2, .int 0, .ref g_many, .ref g_loss, .ref g_less, .ref g_voteValue, .ref g_voteNumber, .ref g_allValue, .ref g_allNumber, .int 0, .ref g_nodeL, .ref g_nodeR, .int 0, .ref g_part, .int 0, .ref g_wasMany, .ref g_wasLoss, .ref g_wasValue, .ref g_wasNumber, .ref g_path, .int 0, .ref g_heavyValue, .ref g_heavyTimes, .int 0, .ref g_fewest, .ref g_which, .ref g_met, .int 0]))] sz) [(h0, .inr (5, [.ref g_row, .int 0, .int 2, .int 1, .ref g_many, .ref g_loss, .ref g_less, .ref g_voteValue, .ref g_voteNumber, .ref g_allValue, .ref g_allNumber, .int 0, .ref g_nodeL, .ref g_nodeR, .int 0, .ref g_part, .int 0, .ref g_wasMany, .ref g_wasLoss, .ref g_wasValue, .ref g_wasNumber, .ref g_path, .int 0, .ref g_heavyValue, .ref g_heavyTimes, .int 0, .ref g_fewest, .ref g_which, .ref g_met, .int 0]))]) (va_A [(h0, .inr (5, [.ref g_row, .int 0, .int 2, .int 0, .ref g_many, .ref g_loss, .ref g_less, .ref g_voteValue, .ref g_voteNumber, .ref g_allValue, .ref g_allNumber, .int 0, .ref g_nodeL, .ref g_nodeR, .int 0, .ref g_part, .int 0, .ref g_wasMany, .ref g_wasLoss, .ref g_wasValue, .ref g_wasNumber, .ref g_path, .int 0, .ref g_heavyValue, .ref g_heavyTimes, .int 0, .ref g_fewest, .ref g_which, .ref g_met, .int 0]))] sz)) 0 0 (va_A [(h0, .inr (5, [.ref g_row, .int 0, .int 2, .int 0, .ref g_many, .ref g_loss, .ref g_less, .ref g_voteValue, .ref g_voteNumber, .ref g_allValue, .ref g_allNumber, .int 0, .ref g_nodeL, .ref g_nodeR, .int 0, .ref g_part, .int 0, .ref g_wasMany, .ref g_wasLoss, .ref g_wasValue, .ref g_wasNumber, .ref g_path, .int 0, .ref g_heavyValue, .ref g_heavyTimes, .int 0, .ref g_fewest, .ref g_which, .ref g_met, .int 0]))] sz) := by
  refine Met.ofW (cc := cX5_candidate) (maxL := 6) (ret := (some .int)) (by decide) rfl ?_
  intro p e s m args below meth c s₁ B hml hv
  obtain ⟨rfl, hsz, hP, hK, hD0⟩ := hv
  have hx := B.exec
  have hb := B.bytes
  have hr := B.returns
  have hts := atoms_spec (ws := wsX5_candidate) B.pre
  have hown : s.vm.findClass RX5 = some m.cls := findClass_of_methodNamed B.named
  have hlocks := B.notSynchronized
  subst hsz
  have hD := hD0.self (sz := s.heap.size)
  generalize hAe : va_A [(h0, .inr (5, [.ref g_row, .int 0, .int 2, .int 0, .ref g_many, .ref g_loss, .ref g_less, .ref g_voteValue, .ref g_voteNumber, .ref g_allValue, .ref g_allNumber, .int 0, .ref g_nodeL, .ref g_nodeR, .int 0, .ref g_part, .int 0, .ref g_wasMany, .ref g_wasLoss, .ref g_wasValue, .ref g_wasNumber, .ref g_path, .int 0, .ref g_heavyValue, .ref g_heavyTimes, .int 0, .ref g_fewest, .ref g_which, .ref g_met, .int 0]))] s.heap.size = A at hD ⊢
  have hA : ∀ q : Nat, s.heap.size ≤ q → A q := fun q h => by rw [← hAe]; exact Or.inr h
  have hS : va_S A s.heap s.heap [] := va_S.rf
  have hP : va_P (dC, dI) vwCl [(h0, .inr (5, [.ref g_row, .int 0, .int 2, .int 0, .ref g_many, .ref g_loss, .ref g_less, .ref g_voteValue, .ref g_voteNumber, .ref g_allValue, .ref g_allNumber, .int 0, .ref g_nodeL, .ref g_nodeR, .int 0, .ref g_part, .int 0, .ref g_wasMany, .ref g_wasLoss, .ref g_wasValue, .ref g_wasNumber, .ref g_path, .int 0, .ref g_heavyValue, .ref g_heavyTimes, .int 0, .ref g_fewest, .ref g_which, .ref g_met, .int 0]))] s.heap := hP
  have hl := lv_entry ([.ref h0, .int p0, .int p1, .int p2, .int p3]) (n := 6) (Nat.le_of_ble_eq_true rfl)
  rw [lg_entry_eq]
  generalize (lg_sl ([.ref h0, .int p0, .int p1, .int p2, .int p3]) ++ List.replicate (6 - (lg_sl ([.ref h0, .int p0, .int p1, .int p2, .int p3])).length) Slot.unset).toArray = ls at hl ⊢
  have hl : lv_has ls 6 [(0, .ref h0), (1, .int p0), (2, .int p1), (3, .int p2), (4, .int p3)] := hl
  have hf_77 := hts (.fieldLink RX5 77 "MajorityIndexModel" "thrown" "I") (by decide +kernel)
  have hi_5 : ∀ w ∈ u_ws RX5 TX5 30, w ∈ wsX5_candidate := by decide +kernel
  refine lv_aload_n hx hb dX5_candidate_0 rfl (lv_at hl 0 rfl) ?_
  refine lv_iconst (v := 1) hx hb dX5_candidate_1 (by decide) ?_
  refine va_put (D := (dC, dI)) (ci := 5) (v := .int 1) (ty := .int) (C := RX5) (T := TX5) (N := 30) hx hb hts hi_5 tyX5 tyX5_ok nmX5 hown hK hP hD hS 0 rfl rfl 3 (by decide) hf_77 (fun _ h9 => h9) rfl (by decide +kernel) rfl rfl (Nat.le_of_ble_eq_true rfl) dX5_candidate_2 (fun H locs hP hD hS => ?_)
  have hP : va_P (dC, dI) vwCl [(h0, .inr (5, [.ref g_row, .int 0, .int 2, .int 1, .ref g_many, .ref g_loss, .ref g_less, .ref g_voteValue, .ref g_voteNumber, .ref g_allValue, .ref g_allNumber, .int 0, .ref g_nodeL, .ref g_nodeR, .int 0, .ref g_part, .int 0, .ref g_wasMany, .ref g_wasLoss, .ref g_wasValue, .ref g_wasNumber, .ref g_path, .int 0, .ref g_heavyValue, .ref g_heavyTimes, .int 0, .ref g_fewest, .ref g_which, .ref g_met, .int 0]))] H := hP
  have hD : va_D A [(h0, .inr (5, [.ref g_row, .int 0, .int 2, .int 1, .ref g_many, .ref g_loss, .ref g_less, .ref g_voteValue, .ref g_voteNumber, .ref g_allValue, .ref g_allNumber, .int 0, .ref g_nodeL, .ref g_nodeR, .int 0, .ref g_part, .int 0, .ref g_wasMany, .ref g_wasLoss, .ref g_wasValue, .ref g_wasNumber, .ref g_path, .int 0, .ref g_heavyValue, .ref g_heavyTimes, .int 0, .ref g_fewest, .ref g_which, .ref g_met, .int 0]))] := hD
  refine lv_aload_n hx hb dX5_candidate_5 rfl (lv_at hl 0 rfl) ?_
  refine lv_iload_n hx hb dX5_candidate_6 rfl (lv_at hl 1 rfl) ?_
  refine lv_iload_n hx hb dX5_candidate_7 rfl (lv_at hl 2 rfl) ?_
  have hPc := hP.sub (ws' := [(h0, .inr (5, [.ref g_row, .int 0, .int 2, .int 1, .ref g_many, .ref g_loss, .ref g_less, .ref g_voteValue, .ref g_voteNumber, .ref g_allValue, .ref g_allNumber, .int 0, .ref g_nodeL, .ref g_nodeR, .int 0, .ref g_part, .int 0, .ref g_wasMany, .ref g_wasLoss, .ref g_wasValue, .ref g_wasNumber, .ref g_path, .int 0, .ref g_heavyValue, .ref g_heavyTimes, .int 0, .ref g_fewest, .ref g_which, .ref g_met, .int 0]))]) [0] rfl
  have hKc := hK.sub (tys' := []) [] rfl
  refine vp_callSi (W.runV (As := [.int p0, .int p1]) (rest := []) ⟨hx, hb, hml, hown, hts⟩ (c_X5_isRange l dC dI h0 g_row g_many g_loss g_less g_voteValue g_voteNumber g_allValue g_allNumber g_nodeL g_nodeR g_part g_wasMany g_wasLoss g_wasValue g_wasNumber g_path g_heavyValue g_heavyTimes g_fewest g_which g_met 1 p0 p1) (cwV 2 hts gX5_candidate_X5_isRange rfl rfl rfl (by decide +kernel) ⟨Nat.le_of_ble_eq_true rfl, Nat.le_of_ble_eq_true rfl⟩) ⟨fun a U g mk q => by obtain ⟨q0, qP, qK⟩ := q; exact ⟨q0, qP, va_K.moved (u := U) (U := U.calling g mk a) (Vm.Alike.refl U.vm) qK⟩, va_recv hKc hPc (ci := 5) (q0 := 0) rfl rfl, fun U hU hW => ⟨rfl, by rw [hU]; exact hPc, va_K.moved hW.alike hKc⟩⟩ rfl rfl hl.1 rfl (lv_room (Nat.le_of_ble_eq_true rfl)) dX5_candidate_8 ⟨Nat.le_of_ble_eq_true rfl, Nat.le_of_ble_eq_true rfl⟩) (fun r_1 w_1 => ?_)
  rcases w_1 with ⟨rfl, w_1⟩
  · have w_1 : True := w_1
    refine lv_if_eq (tgt := 24) hx hb dX5_candidate_11 (by decide) (fun c_2 => ?_) (fun c_2 => ?_)
    · refine lv_iconst (v := 0) hx hb dX5_candidate_24 (by decide) ?_
      have hP9 := hP.sub (ws' := [(h0, .inr (5, [.ref g_row, .int 0, .int 2, .int 1, .ref g_many, .ref g_loss, .ref g_less, .ref g_voteValue, .ref g_voteNumber, .ref g_allValue, .ref g_allNumber, .int 0, .ref g_nodeL, .ref g_nodeR, .int 0, .ref g_part, .int 0, .ref g_wasMany, .ref g_wasLoss, .ref g_wasValue, .ref g_wasNumber, .ref g_path, .int 0, .ref g_heavyValue, .ref g_heavyTimes, .int 0, .ref g_fewest, .ref g_which, .ref g_met, .int 0]))]) [0] rfl
      have hD9 := hD.sub (ws' := [(h0, .inr (5, [.ref g_row, .int 0, .int 2, .int 1, .ref g_many, .ref g_loss, .ref g_less, .ref g_voteValue, .ref g_voteNumber, .ref g_allValue, .ref g_allNumber, .int 0, .ref g_nodeL, .ref g_nodeR, .int 0, .ref g_part, .int 0, .ref g_wasMany, .ref g_wasLoss, .ref g_wasValue, .ref g_wasNumber, .ref g_path, .int 0, .ref g_heavyValue, .ref g_heavyTimes, .int 0, .ref g_fewest, .ref g_which, .ref g_met, .int 0]))]) [0] (by decide) rfl
      have hK9 := hK.sub (tys' := []) [] rfl
      exact W.iret (v := 0) hx hb hr (fun t ht hW => ⟨⟨0, (), rfl, rfl, by rw [ht]; exact hP9, va_K.moved hW.alike hK9, hD9⟩, hS.F ht⟩) hS.2.2 dX5_candidate_25
    · exact absurd c_2 (by decide)

set_option maxHeartbeats 4000000 in
set_option maxRecDepth 100000 in
/-- heavyAt of the reference, fresh -/
theorem c_X5_heavyAt (l : Launch) (dC : Nat → ClassId) (dI : Nat → Nat → Nat) (h0 : Nat) (g_row : Nat) (g_many : Nat) (g_loss : Nat) (g_less : Nat) (g_voteValue : Nat) (g_voteNumber : Nat) (g_allValue : Nat) (g_allNumber : Nat) (g_nodeL : Nat) (g_nodeR : Nat) (g_part : Nat) (g_wasMany : Nat) (g_wasLoss : Nat) (g_wasValue : Nat) (g_wasNumber : Nat) (g_path : Nat) (g_heavyValue : Nat) (g_heavyTimes : Nat) (g_fewest : Nat) (g_which : Nat) (g_met : Nat) (p0 : Int32) (p1 : Int32) (p2 : Int32) (p3 : Int32) (p4 : Int32) (p5 : Int32) (sz : Nat) : Met l yX5_heavyAt wsX5_heavyAt ({ frames := 1, cells := 0, slots := 0, locals := 45 }) (va_Pc [.ref h0, .int p0, .int p1, .int p2, .int p3, .int p4, .int p5] (fun U => U.heap.size = sz ∧ va_P (dC, dI) vwCl [(h0, .inr (5, [.ref g_row, .int 0, .int 2, .int 0, .ref g_many, .ref g_loss, .ref g_less, .ref g_voteValue, .ref g_voteNumber, .ref g_allValue, .ref g_allNumber, .int 0, .ref g_nodeL, .ref g_nodeR, .int 0, .ref g_part, .int 0, .ref g_wasMany, .ref g_wasLoss, .ref g_wasValue, .ref g_wasNumber, .ref g_path, .int 0, .ref g_heavyValue, .ref g_heavyTimes, .int 0, .ref g_fewest, .ref g_which, .ref g_met, .int 0]))] U.heap ∧ va_K (dC, dI) vwCl [] U ∧ va_D (fun _ => True) [(h0, .inr (5, [.ref g_row, .int 0, .int 2, .int 0, .ref g_many, .ref g_loss, .ref g_less, .ref g_voteValue, .ref g_voteNumber, .ref g_allValue, .ref g_allNumber, .int 0, .ref g_nodeL, .ref g_nodeR, .int 0, .ref g_part, .int 0, .ref g_wasMany, .ref g_wasLoss, .ref g_wasValue, .ref g_wasNumber, .ref g_path, .int 0, .ref g_heavyValue, .ref g_heavyTimes, .int 0, .ref g_fewest, .ref g_which, .ref g_met, .int 0]))])) (va_Qi (fun (r : Int32) (_ : Unit) => r = 0) (fun (_ : Unit) (t : State) => va_P (dC, dI) vwCl [(h0, .inr (5, [.ref g_row, .int 0, .int 2, .int 1, .ref g_many, .ref g_loss, .ref g_less, .ref g_voteValue, .ref g_voteNumber, .ref g_allValue, .ref g_allNumber, .int 0, .ref g_nodeL, .ref g_nodeR, .int 0, .ref g_part, .int 0, .ref g_wasMany, .ref g_wasLoss, .ref g_wasValue, .ref g_wasNumber, .ref g_path, .int 0, .ref g_heavyValue, .ref g_heavyTimes, .int 0, .ref g_fewest, .ref g_which, .ref g_met, .int 0]))] t.heap ∧ va_K (dC, dI) vwCl [] t ∧ va_D (va_A [(h0, .inr (5, [.ref g_row, .int 0, .int 2, .int 0, .ref g_many, .ref g_loss, .ref g_less, .ref g_voteValue, .ref g_voteNumber, .ref g_allValue, .ref g_allNumber, .int 0, .ref g_nodeL, .ref g_nodeR, .int 0, .ref g_part, .int 0, .ref g_wasMany, .ref g_wasLoss, .ref g_wasValue, .ref g_wasNumber, .ref g_path, .int 0, .ref g_heavyValue, .ref g_heavyTimes, .int 0, .ref g_fewest, .ref g_which, .ref g_met, .int 0]))] sz) [(h0, .inr (5, [.ref g_row, .int 0, .int 2, .int 1, .ref g_many, .ref g_loss, .ref g_less, .ref g_voteValue, .ref g_voteNumber, .ref g_allValue, .ref g_allNumber, .int 0, .ref g_nodeL, .ref g_nodeR, .int 0, .ref g_part, .int 0, .ref g_wasMany, .ref g_wasLoss, .ref g_wasValue, .ref g_wasNumber, .ref g_path, .int 0, .ref g_heavyValue, .ref g_heavyTimes, .int 0, .ref g_fewest, .ref g_which, .ref g_met, .int 0]))]) (va_A [(h0, .inr (5, [.ref g_row, .int 0, .int 2, .int 0, .ref g_many, .ref g_loss, .ref g_less, .ref g_voteValue, .ref g_voteNumber, .ref g_allValue, .ref g_allNumber, .int 0, .ref g_nodeL, .ref g_nodeR, .int 0, .ref g_part, .int 0, .ref g_wasMany, .ref g_wasLoss, .ref g_wasValue, .ref g_wasNumber, .ref g_path, .int 0, .ref g_heavyValue, .ref g_heavyTimes, .int 0, .ref g_fewest, .ref g_which, .ref g_met, .int 0]))] sz)) 0 0 (va_A [(h0, .inr (5, [.ref g_row, .int 0, .int 2, .int 0, .ref g_many, .ref g_loss, .ref g_less, .ref g_voteValue, .ref g_voteNumber, .ref g_allValue, .ref g_allNumber, .int 0, .ref g_nodeL, .ref g_nodeR, .int 0, .ref g_part, .int 0, .ref g_wasMany, .ref g_wasLoss, .ref g_wasValue, .ref g_wasNumber, .ref g_path, .int 0, .ref g_heavyValue, .ref g_heavyTimes, .int 0, .ref g_fewest, .ref g_which, .ref g_met, .int 0]))] sz) := by
  refine Met.ofW (cc := cX5_heavyAt) (maxL := 7) (ret := (some .int)) (by decide) rfl ?_
  intro p e s m args below meth c s₁ B hml hv
  obtain ⟨rfl, hsz, hP, hK, hD0⟩ := hv
  have hx := B.exec
  have hb := B.bytes
  have hr := B.returns
  have hts := atoms_spec (ws := wsX5_heavyAt) B.pre
  have hown : s.vm.findClass RX5 = some m.cls := findClass_of_methodNamed B.named
  have hlocks := B.notSynchronized
  subst hsz
  have hD := hD0.self (sz := s.heap.size)
  generalize hAe : va_A [(h0, .inr (5, [.ref g_row, .int 0, .int 2, .int 0, .ref g_many, .ref g_loss, .ref g_less, .ref g_voteValue, .ref g_voteNumber, .ref g_allValue, .ref g_allNumber, .int 0, .ref g_nodeL, .ref g_nodeR, .int 0, .ref g_part, .int 0, .ref g_wasMany, .ref g_wasLoss, .ref g_wasValue, .ref g_wasNumber, .ref g_path, .int 0, .ref g_heavyValue, .ref g_heavyTimes, .int 0, .ref g_fewest, .ref g_which, .ref g_met, .int 0]))] s.heap.size = A at hD ⊢
  have hA : ∀ q : Nat, s.heap.size ≤ q → A q := fun q h => by rw [← hAe]; exact Or.inr h
  have hS : va_S A s.heap s.heap [] := va_S.rf
  have hP : va_P (dC, dI) vwCl [(h0, .inr (5, [.ref g_row, .int 0, .int 2, .int 0, .ref g_many, .ref g_loss, .ref g_less, .ref g_voteValue, .ref g_voteNumber, .ref g_allValue, .ref g_allNumber, .int 0, .ref g_nodeL, .ref g_nodeR, .int 0, .ref g_part, .int 0, .ref g_wasMany, .ref g_wasLoss, .ref g_wasValue, .ref g_wasNumber, .ref g_path, .int 0, .ref g_heavyValue, .ref g_heavyTimes, .int 0, .ref g_fewest, .ref g_which, .ref g_met, .int 0]))] s.heap := hP
  have hl := lv_entry ([.ref h0, .int p0, .int p1, .int p2, .int p3, .int p4, .int p5]) (n := 7) (Nat.le_of_ble_eq_true rfl)
  rw [lg_entry_eq]
  generalize (lg_sl ([.ref h0, .int p0, .int p1, .int p2, .int p3, .int p4, .int p5]) ++ List.replicate (7 - (lg_sl ([.ref h0, .int p0, .int p1, .int p2, .int p3, .int p4, .int p5])).length) Slot.unset).toArray = ls at hl ⊢
  have hl : lv_has ls 7 [(0, .ref h0), (1, .int p0), (2, .int p1), (3, .int p2), (4, .int p3), (5, .int p4), (6, .int p5)] := hl
  have hf_77 := hts (.fieldLink RX5 77 "MajorityIndexModel" "thrown" "I") (by decide +kernel)
  have hi_5 : ∀ w ∈ u_ws RX5 TX5 30, w ∈ wsX5_heavyAt := by decide +kernel
  refine lv_aload_n hx hb dX5_heavyAt_0 rfl (lv_at hl 0 rfl) ?_
  refine lv_iconst (v := 1) hx hb dX5_heavyAt_1 (by decide) ?_
  refine va_put (D := (dC, dI)) (ci := 5) (v := .int 1) (ty := .int) (C := RX5) (T := TX5) (N := 30) hx hb hts hi_5 tyX5 tyX5_ok nmX5 hown hK hP hD hS 0 rfl rfl 3 (by decide) hf_77 (fun _ h9 => h9) rfl (by decide +kernel) rfl rfl (Nat.le_of_ble_eq_true rfl) dX5_heavyAt_2 (fun H locs hP hD hS => ?_)
  have hP : va_P (dC, dI) vwCl [(h0, .inr (5, [.ref g_row, .int 0, .int 2, .int 1, .ref g_many, .ref g_loss, .ref g_less, .ref g_voteValue, .ref g_voteNumber, .ref g_allValue, .ref g_allNumber, .int 0, .ref g_nodeL, .ref g_nodeR, .int 0, .ref g_part, .int 0, .ref g_wasMany, .ref g_wasLoss, .ref g_wasValue, .ref g_wasNumber, .ref g_path, .int 0, .ref g_heavyValue, .ref g_heavyTimes, .int 0, .ref g_fewest, .ref g_which, .ref g_met, .int 0]))] H := hP
  have hD : va_D A [(h0, .inr (5, [.ref g_row, .int 0, .int 2, .int 1, .ref g_many, .ref g_loss, .ref g_less, .ref g_voteValue, .ref g_voteNumber, .ref g_allValue, .ref g_allNumber, .int 0, .ref g_nodeL, .ref g_nodeR, .int 0, .ref g_part, .int 0, .ref g_wasMany, .ref g_wasLoss, .ref g_wasValue, .ref g_wasNumber, .ref g_path, .int 0, .ref g_heavyValue, .ref g_heavyTimes, .int 0, .ref g_fewest, .ref g_which, .ref g_met, .int 0]))] := hD
  refine lv_aload_n hx hb dX5_heavyAt_5 rfl (lv_at hl 0 rfl) ?_
  refine lv_iload_n hx hb dX5_heavyAt_6 rfl (lv_at hl 1 rfl) ?_
  refine lv_iload_n hx hb dX5_heavyAt_7 rfl (lv_at hl 2 rfl) ?_
  have hPc := hP.sub (ws' := [(h0, .inr (5, [.ref g_row, .int 0, .int 2, .int 1, .ref g_many, .ref g_loss, .ref g_less, .ref g_voteValue, .ref g_voteNumber, .ref g_allValue, .ref g_allNumber, .int 0, .ref g_nodeL, .ref g_nodeR, .int 0, .ref g_part, .int 0, .ref g_wasMany, .ref g_wasLoss, .ref g_wasValue, .ref g_wasNumber, .ref g_path, .int 0, .ref g_heavyValue, .ref g_heavyTimes, .int 0, .ref g_fewest, .ref g_which, .ref g_met, .int 0]))]) [0] rfl
  have hKc := hK.sub (tys' := []) [] rfl
  refine vp_callSi (W.runV (As := [.int p0, .int p1]) (rest := []) ⟨hx, hb, hml, hown, hts⟩ (c_X5_isRange l dC dI h0 g_row g_many g_loss g_less g_voteValue g_voteNumber g_allValue g_allNumber g_nodeL g_nodeR g_part g_wasMany g_wasLoss g_wasValue g_wasNumber g_path g_heavyValue g_heavyTimes g_fewest g_which g_met 1 p0 p1) (cwV 2 hts gX5_heavyAt_X5_isRange rfl rfl rfl (by decide +kernel) ⟨Nat.le_of_ble_eq_true rfl, Nat.le_of_ble_eq_true rfl⟩) ⟨fun a U g mk q => by obtain ⟨q0, qP, qK⟩ := q; exact ⟨q0, qP, va_K.moved (u := U) (U := U.calling g mk a) (Vm.Alike.refl U.vm) qK⟩, va_recv hKc hPc (ci := 5) (q0 := 0) rfl rfl, fun U hU hW => ⟨rfl, by rw [hU]; exact hPc, va_K.moved hW.alike hKc⟩⟩ rfl rfl hl.1 rfl (lv_room (Nat.le_of_ble_eq_true rfl)) dX5_heavyAt_8 ⟨Nat.le_of_ble_eq_true rfl, Nat.le_of_ble_eq_true rfl⟩) (fun r_1 w_1 => ?_)
  rcases w_1 with ⟨rfl, w_1⟩
  · have w_1 : True := w_1
    refine lv_if_eq (tgt := 43) hx hb dX5_heavyAt_11 (by decide) (fun c_2 => ?_) (fun c_2 => ?_)
    · refine lv_iconst (v := 0) hx hb dX5_heavyAt_43 (by decide) ?_
      have hP9 := hP.sub (ws' := [(h0, .inr (5, [.ref g_row, .int 0, .int 2, .int 1, .ref g_many, .ref g_loss, .ref g_less, .ref g_voteValue, .ref g_voteNumber, .ref g_allValue, .ref g_allNumber, .int 0, .ref g_nodeL, .ref g_nodeR, .int 0, .ref g_part, .int 0, .ref g_wasMany, .ref g_wasLoss, .ref g_wasValue, .ref g_wasNumber, .ref g_path, .int 0, .ref g_heavyValue, .ref g_heavyTimes, .int 0, .ref g_fewest, .ref g_which, .ref g_met, .int 0]))]) [0] rfl
      have hD9 := hD.sub (ws' := [(h0, .inr (5, [.ref g_row, .int 0, .int 2, .int 1, .ref g_many, .ref g_loss, .ref g_less, .ref g_voteValue, .ref g_voteNumber, .ref g_allValue, .ref g_allNumber, .int 0, .ref g_nodeL, .ref g_nodeR, .int 0, .ref g_part, .int 0, .ref g_wasMany, .ref g_wasLoss, .ref g_wasValue, .ref g_wasNumber, .ref g_path, .int 0, .ref g_heavyValue, .ref g_heavyTimes, .int 0, .ref g_fewest, .ref g_which, .ref g_met, .int 0]))]) [0] (by decide) rfl
      have hK9 := hK.sub (tys' := []) [] rfl
      exact W.iret (v := 0) hx hb hr (fun t ht hW => ⟨⟨0, (), rfl, rfl, by rw [ht]; exact hP9, va_K.moved hW.alike hK9, hD9⟩, hS.F ht⟩) hS.2.2 dX5_heavyAt_44
    · exact absurd c_2 (by decide)

set_option maxHeartbeats 4000000 in
set_option maxRecDepth 100000 in
theorem c_X5_thrown (l : Launch) (dC : Nat → ClassId) (dI : Nat → Nat → Nat) (h0 : Nat) (g_row : Nat) (g_many : Nat) (g_loss : Nat) (g_less : Nat) (g_voteValue : Nat) (g_voteNumber : Nat) (g_allValue : Nat) (g_allNumber : Nat) (g_nodeL : Nat) (g_nodeR : Nat) (g_part : Nat) (g_wasMany : Nat) (g_wasLoss : Nat) (g_wasValue : Nat) (g_wasNumber : Nat) (g_path : Nat) (g_heavyValue : Nat) (g_heavyTimes : Nat) (g_fewest : Nat) (g_which : Nat) (g_met : Nat) (th : Int32) : Met l yX5_thrown wsX5_thrown ({ frames := 0, cells := 0, slots := 0, locals := 0 }) (va_Pc [.ref h0] (fun U => va_P (dC, dI) vwCl [(h0, .inr (5, [.ref g_row, .int 0, .int 2, .int th, .ref g_many, .ref g_loss, .ref g_less, .ref g_voteValue, .ref g_voteNumber, .ref g_allValue, .ref g_allNumber, .int 0, .ref g_nodeL, .ref g_nodeR, .int 0, .ref g_part, .int 0, .ref g_wasMany, .ref g_wasLoss, .ref g_wasValue, .ref g_wasNumber, .ref g_path, .int 0, .ref g_heavyValue, .ref g_heavyTimes, .int 0, .ref g_fewest, .ref g_which, .ref g_met, .int 0]))] U.heap ∧ va_K (dC, dI) vwCl [] U)) (vp_Si (fun r : Int32 => r = th)) 0 0 (fun _ => False) := by
  refine Met.ofW (cc := cX5_thrown) (maxL := 1) (ret := (some .int)) (by decide) rfl ?_
  intro p e s m args below meth c s₁ B hml hv
  obtain ⟨rfl, hP, hK⟩ := hv
  have hx := B.exec
  have hb := B.bytes
  have hr := B.returns
  have hts := atoms_spec (ws := wsX5_thrown) B.pre
  have hown : s.vm.findClass RX5 = some m.cls := findClass_of_methodNamed B.named
  have hlocks := B.notSynchronized
  have hP : va_P (dC, dI) vwCl [(h0, .inr (5, [.ref g_row, .int 0, .int 2, .int th, .ref g_many, .ref g_loss, .ref g_less, .ref g_voteValue, .ref g_voteNumber, .ref g_allValue, .ref g_allNumber, .int 0, .ref g_nodeL, .ref g_nodeR, .int 0, .ref g_part, .int 0, .ref g_wasMany, .ref g_wasLoss, .ref g_wasValue, .ref g_wasNumber, .ref g_path, .int 0, .ref g_heavyValue, .ref g_heavyTimes, .int 0, .ref g_fewest, .ref g_which, .ref g_met, .int 0]))] s.heap := hP
  have hl := lv_entry ([.ref h0]) (n := 1) (Nat.le_of_ble_eq_true rfl)
  rw [lg_entry_eq]
  generalize (lg_sl ([.ref h0]) ++ List.replicate (1 - (lg_sl ([.ref h0])).length) Slot.unset).toArray = ls at hl ⊢
  have hl : lv_has ls 1 [(0, .ref h0)] := hl
  have hf_77 := hts (.fieldLink RX5 77 "MajorityIndexModel" "thrown" "I") (by decide +kernel)
  have hi_5 : ∀ w ∈ u_ws RX5 TX5 30, w ∈ wsX5_thrown := by decide +kernel
  refine lv_aload_n hx hb dX5_thrown_0 rfl (lv_at hl 0 rfl) ?_
  refine va_get (D := (dC, dI)) (ci := 5) (v := .int th) (C := RX5) (T := TX5) (N := 30) hx hb hts hi_5 hown hK hP 0 rfl rfl 3 (by decide) hf_77 (fun _ h9 => h9) rfl dX5_thrown_1 ?_
  exact W.iret (v := th) hx hb hr (fun t ht hW => ⟨th, rfl, rfl, ht⟩) (fun q hq => by cases hq) dX5_thrown_4
