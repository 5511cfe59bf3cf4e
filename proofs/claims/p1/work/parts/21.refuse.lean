set_option maxHeartbeats 4000000 in
set_option maxRecDepth 100000 in
theorem c_X4_refusalOfBoth (l : Launch) (dC : Nat → ClassId) (dI : Nat → Nat → Nat) (h0 : Nat) (h_row : Nat) (h_tree : Nat) (h_tally : Nat) (h_votes : Nat) (h_otherVotes : Nat) (h_wins : Nat) (h_fewest : Nat) (h_cell : Nat) (p0 : Int32) (p1 : Int32) (p2 : Int32) (p3 : Int32) (p4 : Int32) (p5 : Int32) : Met l yX4_refusalOfBoth wsX4_refusalOfBoth ({ frames := 1, cells := 0, slots := 0, locals := 45 }) (va_Pc [.ref h0, .int p0, .int p1, .int p2, .int p3, .int p4, .int p5] (fun U => va_P (dC, dI) vwCl [(h0, .inr (4, [.ref h_row, .ref h_tree, .ref h_tally, .ref h_votes, .ref h_otherVotes, .ref h_wins, .ref h_fewest, .int 2, .int 1])), (h_row, .inr (0, [.ref h_cell, .int 0]))] U.heap ∧ va_K (dC, dI) vwCl [] U)) (vp_Si (fun r : Int32 => r = -1)) 0 0 (fun _ => False) := by
  refine Met.ofW (cc := cX4_refusalOfBoth) (maxL := 7) (ret := (some .int)) (by decide) rfl ?_
  intro p e s m args below meth c s₁ B hml hv
  obtain ⟨rfl, hP, hK⟩ := hv
  have hx := B.exec
  have hb := B.bytes
  have hr := B.returns
  have hts := atoms_spec (ws := wsX4_refusalOfBoth) B.pre
  have hown : s.vm.findClass RX4 = some m.cls := findClass_of_methodNamed B.named
  have hlocks := B.notSynchronized
  have hP : va_P (dC, dI) vwCl [(h0, .inr (4, [.ref h_row, .ref h_tree, .ref h_tally, .ref h_votes, .ref h_otherVotes, .ref h_wins, .ref h_fewest, .int 2, .int 1])), (h_row, .inr (0, [.ref h_cell, .int 0]))] s.heap := hP
  have hl := lv_entry ([.ref h0, .int p0, .int p1, .int p2, .int p3, .int p4, .int p5]) (n := 7) (Nat.le_of_ble_eq_true rfl)
  rw [lg_entry_eq]
  generalize (lg_sl ([.ref h0, .int p0, .int p1, .int p2, .int p3, .int p4, .int p5]) ++ List.replicate (7 - (lg_sl ([.ref h0, .int p0, .int p1, .int p2, .int p3, .int p4, .int p5])).length) Slot.unset).toArray = ls at hl ⊢
  have hl : lv_has ls 7 [(0, .ref h0), (1, .int p0), (2, .int p1), (3, .int p2), (4, .int p3), (5, .int p4), (6, .int p5)] := hl
  have hf_12 := hts (.fieldLink RX4 12 "MajorityIndex" "row" "LMajorityIndex$Row;") (by decide +kernel)
  have hi_4 : ∀ w ∈ u_ws RX4 TX4 9, w ∈ wsX4_refusalOfBoth := by decide +kernel
  refine lv_aload_n hx hb dX4_refusalOfBoth_0 rfl (lv_at hl 0 rfl) ?_
  refine va_get (D := (dC, dI)) (ci := 4) (v := .ref h_row) (C := RX4) (T := TX4) (N := 9) hx hb hts hi_4 hown hK hP 0 rfl rfl 0 (by decide) hf_12 (fun _ h9 => h9) rfl dX4_refusalOfBoth_1 ?_
  refine lv_iload_n hx hb dX4_refusalOfBoth_4 rfl (lv_at hl 1 rfl) ?_
  refine lv_iload_n hx hb dX4_refusalOfBoth_5 rfl (lv_at hl 2 rfl) ?_
  have hPc := hP.sub (ws' := [(h_row, .inr (0, [.ref h_cell, .int 0]))]) [1] rfl
  have hKc := hK.sub (tys' := []) [] rfl
  refine vp_callSi (W.runV (As := [.int p0, .int p1]) (rest := []) ⟨hx, hb, hml, hown, hts⟩ (c_X0_hasRange l dC dI h_row h_cell 0 p0 p1) (cwV 2 hts gX4_refusalOfBoth_X0_hasRange rfl rfl rfl (by decide +kernel) ⟨Nat.le_of_ble_eq_true rfl, Nat.le_of_ble_eq_true rfl⟩) ⟨fun a U g mk q => by obtain ⟨q0, qP, qK⟩ := q; exact ⟨q0, qP, va_K.moved (u := U) (U := U.calling g mk a) (Vm.Alike.refl U.vm) qK⟩, va_recv hKc hPc (ci := 0) (q0 := 0) rfl rfl, fun U hU hW => ⟨rfl, by rw [hU]; exact hPc, va_K.moved hW.alike hKc⟩⟩ rfl rfl hl.1 rfl (lv_room (Nat.le_of_ble_eq_true rfl)) dX4_refusalOfBoth_6 ⟨Nat.le_of_ble_eq_true rfl, Nat.le_of_ble_eq_true rfl⟩) (fun r_1 w_1 => ?_)
  rcases w_1 with ⟨rfl, w_1⟩ | ⟨rfl, w_1⟩
  · have w_1 : (0 ≤ p0.toInt ∧ p0.toInt < p1.toInt ∧ p1.toInt ≤ 0) := w_1
    exfalso; omega
  · have w_1 : (p0.toInt < 0 ∨ p1.toInt ≤ p0.toInt ∨ 0 < p1.toInt) := w_1
    refine lv_if_eq (tgt := 35) hx hb dX4_refusalOfBoth_9 (by decide) (fun c_2 => ?_) (fun c_2 => ?_)
    · refine lv_iconst (v := (-1)) hx hb dX4_refusalOfBoth_35 (by decide) ?_
      exact W.iret (v := (-1)) hx hb hr (fun t ht hW => ⟨(-1), rfl, rfl, ht⟩) (fun q hq => by cases hq) dX4_refusalOfBoth_36
    · exact absurd c_2 (by decide)

set_option maxHeartbeats 4000000 in
set_option maxRecDepth 100000 in
/-- set on a fresh object -/
theorem c_X4_set (l : Launch) (dC : Nat → ClassId) (dI : Nat → Nat → Nat) (h0 : Nat) (h_row : Nat) (h_tree : Nat) (h_tally : Nat) (h_votes : Nat) (h_otherVotes : Nat) (h_wins : Nat) (h_fewest : Nat) (h_cell : Nat) (p0 : Int32) (p1 : Int32) : Met l yX4_set wsX4_set ({ frames := 1, cells := 0, slots := 0, locals := 45 }) (va_Pc [.ref h0, .int p0, .int p1] (fun U => va_P (dC, dI) vwCl [(h0, .inr (4, [.ref h_row, .ref h_tree, .ref h_tally, .ref h_votes, .ref h_otherVotes, .ref h_wins, .ref h_fewest, .int 2, .int 1])), (h_row, .inr (0, [.ref h_cell, .int 0]))] U.heap ∧ va_K (dC, dI) vwCl [] U)) (vp_Si (fun r : Int32 => r = (-1))) 0 0 (fun _ => False) := by
  refine Met.ofW (cc := cX4_set) (maxL := 3) (ret := (some .int)) (by decide) rfl ?_
  intro p e s m args below meth c s₁ B hml hv
  obtain ⟨rfl, hP, hK⟩ := hv
  have hx := B.exec
  have hb := B.bytes
  have hr := B.returns
  have hts := atoms_spec (ws := wsX4_set) B.pre
  have hown : s.vm.findClass RX4 = some m.cls := findClass_of_methodNamed B.named
  have hlocks := B.notSynchronized
  have hP : va_P (dC, dI) vwCl [(h0, .inr (4, [.ref h_row, .ref h_tree, .ref h_tally, .ref h_votes, .ref h_otherVotes, .ref h_wins, .ref h_fewest, .int 2, .int 1])), (h_row, .inr (0, [.ref h_cell, .int 0]))] s.heap := hP
  have hl := lv_entry ([.ref h0, .int p0, .int p1]) (n := 3) (Nat.le_of_ble_eq_true rfl)
  rw [lg_entry_eq]
  generalize (lg_sl ([.ref h0, .int p0, .int p1]) ++ List.replicate (3 - (lg_sl ([.ref h0, .int p0, .int p1])).length) Slot.unset).toArray = ls at hl ⊢
  have hl : lv_has ls 3 [(0, .ref h0), (1, .int p0), (2, .int p1)] := hl
  have hf_12 := hts (.fieldLink RX4 12 "MajorityIndex" "row" "LMajorityIndex$Row;") (by decide +kernel)
  have hi_4 : ∀ w ∈ u_ws RX4 TX4 9, w ∈ wsX4_set := by decide +kernel
  refine lv_aload_n hx hb dX4_set_0 rfl (lv_at hl 0 rfl) ?_
  refine va_get (D := (dC, dI)) (ci := 4) (v := .ref h_row) (C := RX4) (T := TX4) (N := 9) hx hb hts hi_4 hown hK hP 0 rfl rfl 0 (by decide) hf_12 (fun _ h9 => h9) rfl dX4_set_1 ?_
  refine lv_iload_n hx hb dX4_set_4 rfl (lv_at hl 1 rfl) ?_
  have hPc := hP.sub (ws' := [(h_row, .inr (0, [.ref h_cell, .int 0]))]) [1] rfl
  have hKc := hK.sub (tys' := []) [] rfl
  refine vp_callSi (W.runV (As := [.int p0]) (rest := []) ⟨hx, hb, hml, hown, hts⟩ (c_X0_hasPlace l dC dI h_row h_cell 0 p0) (cwV 1 hts gX4_set_X0_hasPlace rfl rfl rfl (by decide +kernel) ⟨Nat.le_of_ble_eq_true rfl, Nat.le_of_ble_eq_true rfl⟩) ⟨fun a U g mk q => by obtain ⟨q0, qP, qK⟩ := q; exact ⟨q0, qP, va_K.moved (u := U) (U := U.calling g mk a) (Vm.Alike.refl U.vm) qK⟩, va_recv hKc hPc (ci := 0) (q0 := 0) rfl rfl, fun U hU hW => ⟨rfl, by rw [hU]; exact hPc, va_K.moved hW.alike hKc⟩⟩ rfl rfl hl.1 rfl (lv_room (Nat.le_of_ble_eq_true rfl)) dX4_set_5 ⟨Nat.le_of_ble_eq_true rfl, Nat.le_of_ble_eq_true rfl⟩) (fun r_1 w_1 => ?_)
  rcases w_1 with ⟨rfl, w_1⟩ | ⟨rfl, w_1⟩
  · have w_1 : (0 ≤ p0.toInt ∧ p0.toInt < 0) := w_1
    exfalso; omega
  · have w_1 : (p0.toInt < 0 ∨ 0 ≤ p0.toInt) := w_1
    refine lv_if_eq (tgt := 18) hx hb dX4_set_8 (by decide) (fun c_2 => ?_) (fun c_2 => ?_)
    · refine lv_iconst (v := (-1)) hx hb dX4_set_18 (by decide) ?_
      exact W.iret (v := (-1)) hx hb hr (fun t ht hW => ⟨(-1), rfl, rfl, ht⟩) (fun q hq => by cases hq) dX4_set_19
    · exact absurd c_2 (by decide)

set_option maxHeartbeats 4000000 in
set_option maxRecDepth 100000 in
/-- fill on a fresh object -/
theorem c_X4_fill (l : Launch) (dC : Nat → ClassId) (dI : Nat → Nat → Nat) (h0 : Nat) (h_row : Nat) (h_tree : Nat) (h_tally : Nat) (h_votes : Nat) (h_otherVotes : Nat) (h_wins : Nat) (h_fewest : Nat) (h_cell : Nat) (p0 : Int32) (p1 : Int32) (p2 : Int32) : Met l yX4_fill wsX4_fill ({ frames := 1, cells := 0, slots := 0, locals := 45 }) (va_Pc [.ref h0, .int p0, .int p1, .int p2] (fun U => va_P (dC, dI) vwCl [(h0, .inr (4, [.ref h_row, .ref h_tree, .ref h_tally, .ref h_votes, .ref h_otherVotes, .ref h_wins, .ref h_fewest, .int 2, .int 1])), (h_row, .inr (0, [.ref h_cell, .int 0]))] U.heap ∧ va_K (dC, dI) vwCl [] U)) (vp_Si (fun r : Int32 => r = (-1))) 0 0 (fun _ => False) := by
  refine Met.ofW (cc := cX4_fill) (maxL := 4) (ret := (some .int)) (by decide) rfl ?_
  intro p e s m args below meth c s₁ B hml hv
  obtain ⟨rfl, hP, hK⟩ := hv
  have hx := B.exec
  have hb := B.bytes
  have hr := B.returns
  have hts := atoms_spec (ws := wsX4_fill) B.pre
  have hown : s.vm.findClass RX4 = some m.cls := findClass_of_methodNamed B.named
  have hlocks := B.notSynchronized
  have hP : va_P (dC, dI) vwCl [(h0, .inr (4, [.ref h_row, .ref h_tree, .ref h_tally, .ref h_votes, .ref h_otherVotes, .ref h_wins, .ref h_fewest, .int 2, .int 1])), (h_row, .inr (0, [.ref h_cell, .int 0]))] s.heap := hP
  have hl := lv_entry ([.ref h0, .int p0, .int p1, .int p2]) (n := 4) (Nat.le_of_ble_eq_true rfl)
  rw [lg_entry_eq]
  generalize (lg_sl ([.ref h0, .int p0, .int p1, .int p2]) ++ List.replicate (4 - (lg_sl ([.ref h0, .int p0, .int p1, .int p2])).length) Slot.unset).toArray = ls at hl ⊢
  have hl : lv_has ls 4 [(0, .ref h0), (1, .int p0), (2, .int p1), (3, .int p2)] := hl
  have hf_12 := hts (.fieldLink RX4 12 "MajorityIndex" "row" "LMajorityIndex$Row;") (by decide +kernel)
  have hi_4 : ∀ w ∈ u_ws RX4 TX4 9, w ∈ wsX4_fill := by decide +kernel
  refine lv_aload_n hx hb dX4_fill_0 rfl (lv_at hl 0 rfl) ?_
  refine va_get (D := (dC, dI)) (ci := 4) (v := .ref h_row) (C := RX4) (T := TX4) (N := 9) hx hb hts hi_4 hown hK hP 0 rfl rfl 0 (by decide) hf_12 (fun _ h9 => h9) rfl dX4_fill_1 ?_
  refine lv_iload_n hx hb dX4_fill_4 rfl (lv_at hl 1 rfl) ?_
  refine lv_iload_n hx hb dX4_fill_5 rfl (lv_at hl 2 rfl) ?_
  have hPc := hP.sub (ws' := [(h_row, .inr (0, [.ref h_cell, .int 0]))]) [1] rfl
  have hKc := hK.sub (tys' := []) [] rfl
  refine vp_callSi (W.runV (As := [.int p0, .int p1]) (rest := []) ⟨hx, hb, hml, hown, hts⟩ (c_X0_hasRange l dC dI h_row h_cell 0 p0 p1) (cwV 2 hts gX4_fill_X0_hasRange rfl rfl rfl (by decide +kernel) ⟨Nat.le_of_ble_eq_true rfl, Nat.le_of_ble_eq_true rfl⟩) ⟨fun a U g mk q => by obtain ⟨q0, qP, qK⟩ := q; exact ⟨q0, qP, va_K.moved (u := U) (U := U.calling g mk a) (Vm.Alike.refl U.vm) qK⟩, va_recv hKc hPc (ci := 0) (q0 := 0) rfl rfl, fun U hU hW => ⟨rfl, by rw [hU]; exact hPc, va_K.moved hW.alike hKc⟩⟩ rfl rfl hl.1 rfl (lv_room (Nat.le_of_ble_eq_true rfl)) dX4_fill_6 ⟨Nat.le_of_ble_eq_true rfl, Nat.le_of_ble_eq_true rfl⟩) (fun r_1 w_1 => ?_)
  rcases w_1 with ⟨rfl, w_1⟩ | ⟨rfl, w_1⟩
  · have w_1 : (0 ≤ p0.toInt ∧ p0.toInt < p1.toInt ∧ p1.toInt ≤ 0) := w_1
    exfalso; omega
  · have w_1 : (p0.toInt < 0 ∨ p1.toInt ≤ p0.toInt ∨ 0 < p1.toInt) := w_1
    refine lv_if_eq (tgt := 19) hx hb dX4_fill_9 (by decide) (fun c_2 => ?_) (fun c_2 => ?_)
    · refine lv_iconst (v := (-1)) hx hb dX4_fill_19 (by decide) ?_
      exact W.iret (v := (-1)) hx hb hr (fun t ht hW => ⟨(-1), rfl, rfl, ht⟩) (fun q hq => by cases hq) dX4_fill_20
    · exact absurd c_2 (by decide)

set_option maxHeartbeats 4000000 in
set_option maxRecDepth 100000 in
/-- turn on a fresh object -/
theorem c_X4_turn (l : Launch) (dC : Nat → ClassId) (dI : Nat → Nat → Nat) (h0 : Nat) (h_row : Nat) (h_tree : Nat) (h_tally : Nat) (h_votes : Nat) (h_otherVotes : Nat) (h_wins : Nat) (h_fewest : Nat) (h_cell : Nat) (p0 : Int32) (p1 : Int32) : Met l yX4_turn wsX4_turn ({ frames := 1, cells := 0, slots := 0, locals := 45 }) (va_Pc [.ref h0, .int p0, .int p1] (fun U => va_P (dC, dI) vwCl [(h0, .inr (4, [.ref h_row, .ref h_tree, .ref h_tally, .ref h_votes, .ref h_otherVotes, .ref h_wins, .ref h_fewest, .int 2, .int 1])), (h_row, .inr (0, [.ref h_cell, .int 0]))] U.heap ∧ va_K (dC, dI) vwCl [] U)) (vp_Si (fun r : Int32 => r = (-1))) 0 0 (fun _ => False) := by
  refine Met.ofW (cc := cX4_turn) (maxL := 6) (ret := (some .int)) (by decide) rfl ?_
  intro p e s m args below meth c s₁ B hml hv
  obtain ⟨rfl, hP, hK⟩ := hv
  have hx := B.exec
  have hb := B.bytes
  have hr := B.returns
  have hts := atoms_spec (ws := wsX4_turn) B.pre
  have hown : s.vm.findClass RX4 = some m.cls := findClass_of_methodNamed B.named
  have hlocks := B.notSynchronized
  have hP : va_P (dC, dI) vwCl [(h0, .inr (4, [.ref h_row, .ref h_tree, .ref h_tally, .ref h_votes, .ref h_otherVotes, .ref h_wins, .ref h_fewest, .int 2, .int 1])), (h_row, .inr (0, [.ref h_cell, .int 0]))] s.heap := hP
  have hl := lv_entry ([.ref h0, .int p0, .int p1]) (n := 6) (Nat.le_of_ble_eq_true rfl)
  rw [lg_entry_eq]
  generalize (lg_sl ([.ref h0, .int p0, .int p1]) ++ List.replicate (6 - (lg_sl ([.ref h0, .int p0, .int p1])).length) Slot.unset).toArray = ls at hl ⊢
  have hl : lv_has ls 6 [(0, .ref h0), (1, .int p0), (2, .int p1)] := hl
  have hf_12 := hts (.fieldLink RX4 12 "MajorityIndex" "row" "LMajorityIndex$Row;") (by decide +kernel)
  have hi_4 : ∀ w ∈ u_ws RX4 TX4 9, w ∈ wsX4_turn := by decide +kernel
  refine lv_aload_n hx hb dX4_turn_0 rfl (lv_at hl 0 rfl) ?_
  refine va_get (D := (dC, dI)) (ci := 4) (v := .ref h_row) (C := RX4) (T := TX4) (N := 9) hx hb hts hi_4 hown hK hP 0 rfl rfl 0 (by decide) hf_12 (fun _ h9 => h9) rfl dX4_turn_1 ?_
  refine lv_iload_n hx hb dX4_turn_4 rfl (lv_at hl 1 rfl) ?_
  refine lv_iload_n hx hb dX4_turn_5 rfl (lv_at hl 2 rfl) ?_
  have hPc := hP.sub (ws' := [(h_row, .inr (0, [.ref h_cell, .int 0]))]) [1] rfl
  have hKc := hK.sub (tys' := []) [] rfl
  refine vp_callSi (W.runV (As := [.int p0, .int p1]) (rest := []) ⟨hx, hb, hml, hown, hts⟩ (c_X0_hasRange l dC dI h_row h_cell 0 p0 p1) (cwV 2 hts gX4_turn_X0_hasRange rfl rfl rfl (by decide +kernel) ⟨Nat.le_of_ble_eq_true rfl, Nat.le_of_ble_eq_true rfl⟩) ⟨fun a U g mk q => by obtain ⟨q0, qP, qK⟩ := q; exact ⟨q0, qP, va_K.moved (u := U) (U := U.calling g mk a) (Vm.Alike.refl U.vm) qK⟩, va_recv hKc hPc (ci := 0) (q0 := 0) rfl rfl, fun U hU hW => ⟨rfl, by rw [hU]; exact hPc, va_K.moved hW.alike hKc⟩⟩ rfl rfl hl.1 rfl (lv_room (Nat.le_of_ble_eq_true rfl)) dX4_turn_6 ⟨Nat.le_of_ble_eq_true rfl, Nat.le_of_ble_eq_true rfl⟩) (fun r_1 w_1 => ?_)
  rcases w_1 with ⟨rfl, w_1⟩ | ⟨rfl, w_1⟩
  · have w_1 : (0 ≤ p0.toInt ∧ p0.toInt < p1.toInt ∧ p1.toInt ≤ 0) := w_1
    exfalso; omega
  · have w_1 : (p0.toInt < 0 ∨ p1.toInt ≤ p0.toInt ∨ 0 < p1.toInt) := w_1
    refine lv_if_ne (tgt := 14) hx hb dX4_turn_9 (by decide) (fun c_2 => ?_) (fun c_2 => ?_)
    · exact absurd c_2 (by decide)
    · refine lv_iconst (v := (-1)) hx hb dX4_turn_12 (by decide) ?_
      exact W.iret (v := (-1)) hx hb hr (fun t ht hW => ⟨(-1), rfl, rfl, ht⟩) (fun q hq => by cases hq) dX4_turn_13

set_option maxHeartbeats 4000000 in
set_option maxRecDepth 100000 in
/-- swap on a fresh object -/
theorem c_X4_swap (l : Launch) (dC : Nat → ClassId) (dI : Nat → Nat → Nat) (h0 : Nat) (h_row : Nat) (h_tree : Nat) (h_tally : Nat) (h_votes : Nat) (h_otherVotes : Nat) (h_wins : Nat) (h_fewest : Nat) (h_cell : Nat) (p0 : Int32) (p1 : Int32) : Met l yX4_swap wsX4_swap ({ frames := 1, cells := 0, slots := 0, locals := 45 }) (va_Pc [.ref h0, .int p0, .int p1] (fun U => va_P (dC, dI) vwCl [(h0, .inr (4, [.ref h_row, .ref h_tree, .ref h_tally, .ref h_votes, .ref h_otherVotes, .ref h_wins, .ref h_fewest, .int 2, .int 1])), (h_row, .inr (0, [.ref h_cell, .int 0]))] U.heap ∧ va_K (dC, dI) vwCl [] U)) (vp_Si (fun r : Int32 => r = (-1))) 0 0 (fun _ => False) := by
  refine Met.ofW (cc := cX4_swap) (maxL := 4) (ret := (some .int)) (by decide) rfl ?_
  intro p e s m args below meth c s₁ B hml hv
  obtain ⟨rfl, hP, hK⟩ := hv
  have hx := B.exec
  have hb := B.bytes
  have hr := B.returns
  have hts := atoms_spec (ws := wsX4_swap) B.pre
  have hown : s.vm.findClass RX4 = some m.cls := findClass_of_methodNamed B.named
  have hlocks := B.notSynchronized
  have hP : va_P (dC, dI) vwCl [(h0, .inr (4, [.ref h_row, .ref h_tree, .ref h_tally, .ref h_votes, .ref h_otherVotes, .ref h_wins, .ref h_fewest, .int 2, .int 1])), (h_row, .inr (0, [.ref h_cell, .int 0]))] s.heap := hP
  have hl := lv_entry ([.ref h0, .int p0, .int p1]) (n := 4) (Nat.le_of_ble_eq_true rfl)
  rw [lg_entry_eq]
  generalize (lg_sl ([.ref h0, .int p0, .int p1]) ++ List.replicate (4 - (lg_sl ([.ref h0, .int p0, .int p1])).length) Slot.unset).toArray = ls at hl ⊢
  have hl : lv_has ls 4 [(0, .ref h0), (1, .int p0), (2, .int p1)] := hl
  have hf_12 := hts (.fieldLink RX4 12 "MajorityIndex" "row" "LMajorityIndex$Row;") (by decide +kernel)
  have hi_4 : ∀ w ∈ u_ws RX4 TX4 9, w ∈ wsX4_swap := by decide +kernel
  refine lv_aload_n hx hb dX4_swap_0 rfl (lv_at hl 0 rfl) ?_
  refine va_get (D := (dC, dI)) (ci := 4) (v := .ref h_row) (C := RX4) (T := TX4) (N := 9) hx hb hts hi_4 hown hK hP 0 rfl rfl 0 (by decide) hf_12 (fun _ h9 => h9) rfl dX4_swap_1 ?_
  refine lv_iload_n hx hb dX4_swap_4 rfl (lv_at hl 1 rfl) ?_
  have hPc := hP.sub (ws' := [(h_row, .inr (0, [.ref h_cell, .int 0]))]) [1] rfl
  have hKc := hK.sub (tys' := []) [] rfl
  refine vp_callSi (W.runV (As := [.int p0]) (rest := []) ⟨hx, hb, hml, hown, hts⟩ (c_X0_hasPlace l dC dI h_row h_cell 0 p0) (cwV 1 hts gX4_swap_X0_hasPlace rfl rfl rfl (by decide +kernel) ⟨Nat.le_of_ble_eq_true rfl, Nat.le_of_ble_eq_true rfl⟩) ⟨fun a U g mk q => by obtain ⟨q0, qP, qK⟩ := q; exact ⟨q0, qP, va_K.moved (u := U) (U := U.calling g mk a) (Vm.Alike.refl U.vm) qK⟩, va_recv hKc hPc (ci := 0) (q0 := 0) rfl rfl, fun U hU hW => ⟨rfl, by rw [hU]; exact hPc, va_K.moved hW.alike hKc⟩⟩ rfl rfl hl.1 rfl (lv_room (Nat.le_of_ble_eq_true rfl)) dX4_swap_5 ⟨Nat.le_of_ble_eq_true rfl, Nat.le_of_ble_eq_true rfl⟩) (fun r_1 w_1 => ?_)
  rcases w_1 with ⟨rfl, w_1⟩ | ⟨rfl, w_1⟩
  · have w_1 : (0 ≤ p0.toInt ∧ p0.toInt < 0) := w_1
    exfalso; omega
  · have w_1 : (p0.toInt < 0 ∨ 0 ≤ p0.toInt) := w_1
    refine lv_if_eq (tgt := 22) hx hb dX4_swap_8 (by decide) (fun c_2 => ?_) (fun c_2 => ?_)
    · refine lv_iconst (v := (-1)) hx hb dX4_swap_22 (by decide) ?_
      exact W.iret (v := (-1)) hx hb hr (fun t ht hW => ⟨(-1), rfl, rfl, ht⟩) (fun q hq => by cases hq) dX4_swap_23
    · exact absurd c_2 (by decide)

set_option maxHeartbeats 4000000 in
set_option maxRecDepth 100000 in
/-- remove on a fresh object -/
theorem c_X4_remove (l : Launch) (dC : Nat → ClassId) (dI : Nat → Nat → Nat) (h0 : Nat) (h_row : Nat) (h_tree : Nat) (h_tally : Nat) (h_votes : Nat) (h_otherVotes : Nat) (h_wins : Nat) (h_fewest : Nat) (h_cell : Nat) (p0 : Int32) : Met l yX4_remove wsX4_remove ({ frames := 1, cells := 0, slots := 0, locals := 45 }) (va_Pc [.ref h0, .int p0] (fun U => va_P (dC, dI) vwCl [(h0, .inr (4, [.ref h_row, .ref h_tree, .ref h_tally, .ref h_votes, .ref h_otherVotes, .ref h_wins, .ref h_fewest, .int 2, .int 1])), (h_row, .inr (0, [.ref h_cell, .int 0]))] U.heap ∧ va_K (dC, dI) vwCl [] U)) (vp_Si (fun r : Int32 => r = (-40000))) 0 0 (fun _ => False) := by
  refine Met.ofW (cc := cX4_remove) (maxL := 3) (ret := (some .int)) (by decide) rfl ?_
  intro p e s m args below meth c s₁ B hml hv
  obtain ⟨rfl, hP, hK⟩ := hv
  have hx := B.exec
  have hb := B.bytes
  have hr := B.returns
  have hts := atoms_spec (ws := wsX4_remove) B.pre
  have hown : s.vm.findClass RX4 = some m.cls := findClass_of_methodNamed B.named
  have hlocks := B.notSynchronized
  have hP : va_P (dC, dI) vwCl [(h0, .inr (4, [.ref h_row, .ref h_tree, .ref h_tally, .ref h_votes, .ref h_otherVotes, .ref h_wins, .ref h_fewest, .int 2, .int 1])), (h_row, .inr (0, [.ref h_cell, .int 0]))] s.heap := hP
  have hl := lv_entry ([.ref h0, .int p0]) (n := 3) (Nat.le_of_ble_eq_true rfl)
  rw [lg_entry_eq]
  generalize (lg_sl ([.ref h0, .int p0]) ++ List.replicate (3 - (lg_sl ([.ref h0, .int p0])).length) Slot.unset).toArray = ls at hl ⊢
  have hl : lv_has ls 3 [(0, .ref h0), (1, .int p0)] := hl
  have hf_12 := hts (.fieldLink RX4 12 "MajorityIndex" "row" "LMajorityIndex$Row;") (by decide +kernel)
  have hi_4 : ∀ w ∈ u_ws RX4 TX4 9, w ∈ wsX4_remove := by decide +kernel
  have hk_102 := hts (.constant RX4 102 (-40000)) (by decide +kernel)
  refine lv_aload_n hx hb dX4_remove_0 rfl (lv_at hl 0 rfl) ?_
  refine va_get (D := (dC, dI)) (ci := 4) (v := .ref h_row) (C := RX4) (T := TX4) (N := 9) hx hb hts hi_4 hown hK hP 0 rfl rfl 0 (by decide) hf_12 (fun _ h9 => h9) rfl dX4_remove_1 ?_
  refine lv_iload_n hx hb dX4_remove_4 rfl (lv_at hl 1 rfl) ?_
  have hPc := hP.sub (ws' := [(h_row, .inr (0, [.ref h_cell, .int 0]))]) [1] rfl
  have hKc := hK.sub (tys' := []) [] rfl
  refine vp_callSi (W.runV (As := [.int p0]) (rest := []) ⟨hx, hb, hml, hown, hts⟩ (c_X0_hasPlace l dC dI h_row h_cell 0 p0) (cwV 1 hts gX4_remove_X0_hasPlace rfl rfl rfl (by decide +kernel) ⟨Nat.le_of_ble_eq_true rfl, Nat.le_of_ble_eq_true rfl⟩) ⟨fun a U g mk q => by obtain ⟨q0, qP, qK⟩ := q; exact ⟨q0, qP, va_K.moved (u := U) (U := U.calling g mk a) (Vm.Alike.refl U.vm) qK⟩, va_recv hKc hPc (ci := 0) (q0 := 0) rfl rfl, fun U hU hW => ⟨rfl, by rw [hU]; exact hPc, va_K.moved hW.alike hKc⟩⟩ rfl rfl hl.1 rfl (lv_room (Nat.le_of_ble_eq_true rfl)) dX4_remove_5 ⟨Nat.le_of_ble_eq_true rfl, Nat.le_of_ble_eq_true rfl⟩) (fun r_1 w_1 => ?_)
  rcases w_1 with ⟨rfl, w_1⟩ | ⟨rfl, w_1⟩
  · have w_1 : (0 ≤ p0.toInt ∧ p0.toInt < 0) := w_1
    exfalso; omega
  · have w_1 : (p0.toInt < 0 ∨ 0 ≤ p0.toInt) := w_1
    refine lv_if_ne (tgt := 14) hx hb dX4_remove_8 (by decide) (fun c_2 => ?_) (fun c_2 => ?_)
    · exact absurd c_2 (by decide)
    · refine lv_ldc (v := (-40000)) hx hb hown hk_102 dX4_remove_11 ?_
      exact W.iret (v := (-40000)) hx hb hr (fun t ht hW => ⟨(-40000), rfl, rfl, ht⟩) (fun q hq => by cases hq) dX4_remove_13

set_option maxHeartbeats 4000000 in
set_option maxRecDepth 100000 in
/-- count on a fresh object -/
theorem c_X4_count (l : Launch) (dC : Nat → ClassId) (dI : Nat → Nat → Nat) (h0 : Nat) (h_row : Nat) (h_tree : Nat) (h_tally : Nat) (h_votes : Nat) (h_otherVotes : Nat) (h_wins : Nat) (h_fewest : Nat) (h_cell : Nat) (p0 : Int32) (p1 : Int32) (p2 : Int32) : Met l yX4_count wsX4_count ({ frames := 1, cells := 0, slots := 0, locals := 45 }) (va_Pc [.ref h0, .int p0, .int p1, .int p2] (fun U => va_P (dC, dI) vwCl [(h0, .inr (4, [.ref h_row, .ref h_tree, .ref h_tally, .ref h_votes, .ref h_otherVotes, .ref h_wins, .ref h_fewest, .int 2, .int 1])), (h_row, .inr (0, [.ref h_cell, .int 0]))] U.heap ∧ va_K (dC, dI) vwCl [] U)) (vp_Si (fun r : Int32 => r = (-1))) 0 0 (fun _ => False) := by
  refine Met.ofW (cc := cX4_count) (maxL := 4) (ret := (some .int)) (by decide) rfl ?_
  intro p e s m args below meth c s₁ B hml hv
  obtain ⟨rfl, hP, hK⟩ := hv
  have hx := B.exec
  have hb := B.bytes
  have hr := B.returns
  have hts := atoms_spec (ws := wsX4_count) B.pre
  have hown : s.vm.findClass RX4 = some m.cls := findClass_of_methodNamed B.named
  have hlocks := B.notSynchronized
  have hP : va_P (dC, dI) vwCl [(h0, .inr (4, [.ref h_row, .ref h_tree, .ref h_tally, .ref h_votes, .ref h_otherVotes, .ref h_wins, .ref h_fewest, .int 2, .int 1])), (h_row, .inr (0, [.ref h_cell, .int 0]))] s.heap := hP
  have hl := lv_entry ([.ref h0, .int p0, .int p1, .int p2]) (n := 4) (Nat.le_of_ble_eq_true rfl)
  rw [lg_entry_eq]
  generalize (lg_sl ([.ref h0, .int p0, .int p1, .int p2]) ++ List.replicate (4 - (lg_sl ([.ref h0, .int p0, .int p1, .int p2])).length) Slot.unset).toArray = ls at hl ⊢
  have hl : lv_has ls 4 [(0, .ref h0), (1, .int p0), (2, .int p1), (3, .int p2)] := hl
  have hf_12 := hts (.fieldLink RX4 12 "MajorityIndex" "row" "LMajorityIndex$Row;") (by decide +kernel)
  have hi_4 : ∀ w ∈ u_ws RX4 TX4 9, w ∈ wsX4_count := by decide +kernel
  refine lv_iload_n hx hb dX4_count_0 rfl (lv_at hl 1 rfl) ?_
  have hPc := hP.sub (ws' := []) [] rfl
  have hKc := hK.sub (tys' := []) [] rfl
  refine vp_callSi (W.runS (As := [.int p0]) (rest := []) ⟨hx, hb, hml, hown, hts⟩ (c_X4_isValue l dC dI p0) (va_cwS 1 hts gX4_count_X4_isValue rfl rfl rfl (by decide +kernel) ⟨Nat.le_of_ble_eq_true rfl, Nat.le_of_ble_eq_true rfl⟩) ⟨fun a U g mk q => by obtain ⟨q0, qP, qK⟩ := q; exact ⟨q0, qP, va_K.moved (u := U) (U := U.calling g mk a) (Vm.Alike.refl U.vm) qK⟩, fun U hU hW => ⟨rfl, by rw [hU]; exact hPc, va_K.moved hW.alike hKc⟩⟩ rfl rfl hl.1 rfl (lv_room (Nat.le_of_ble_eq_true rfl)) dX4_count_1 ⟨Nat.le_of_ble_eq_true rfl, Nat.le_of_ble_eq_true rfl⟩) (fun r_1 w_1 => ?_)
  rcases w_1 with ⟨rfl, w_1⟩ | ⟨rfl, w_1⟩
  · have w_1 : (-32768 ≤ p0.toInt ∧ p0.toInt ≤ 32767) := w_1
    refine lv_if_eq (tgt := 19) hx hb dX4_count_4 (by decide) (fun c_2 => ?_) (fun c_2 => ?_)
    · exact absurd c_2 (by decide)
    · refine lv_aload_n hx hb dX4_count_7 rfl (lv_at hl 0 rfl) ?_
      refine va_get (D := (dC, dI)) (ci := 4) (v := .ref h_row) (C := RX4) (T := TX4) (N := 9) hx hb hts hi_4 hown hK hP 0 rfl rfl 0 (by decide) hf_12 (fun _ h9 => h9) rfl dX4_count_8 ?_
      refine lv_iload_n hx hb dX4_count_11 rfl (lv_at hl 2 rfl) ?_
      refine lv_iload_n hx hb dX4_count_12 rfl (lv_at hl 3 rfl) ?_
      have hPc := hP.sub (ws' := [(h_row, .inr (0, [.ref h_cell, .int 0]))]) [1] rfl
      have hKc := hK.sub (tys' := []) [] rfl
      refine vp_callSi (W.runV (As := [.int p1, .int p2]) (rest := []) ⟨hx, hb, hml, hown, hts⟩ (c_X0_hasRange l dC dI h_row h_cell 0 p1 p2) (cwV 2 hts gX4_count_X0_hasRange rfl rfl rfl (by decide +kernel) ⟨Nat.le_of_ble_eq_true rfl, Nat.le_of_ble_eq_true rfl⟩) ⟨fun a U g mk q => by obtain ⟨q0, qP, qK⟩ := q; exact ⟨q0, qP, va_K.moved (u := U) (U := U.calling g mk a) (Vm.Alike.refl U.vm) qK⟩, va_recv hKc hPc (ci := 0) (q0 := 0) rfl rfl, fun U hU hW => ⟨rfl, by rw [hU]; exact hPc, va_K.moved hW.alike hKc⟩⟩ rfl rfl hl.1 rfl (lv_room (Nat.le_of_ble_eq_true rfl)) dX4_count_13 ⟨Nat.le_of_ble_eq_true rfl, Nat.le_of_ble_eq_true rfl⟩) (fun r_3 w_3 => ?_)
      rcases w_3 with ⟨rfl, w_3⟩ | ⟨rfl, w_3⟩
      · have w_3 : (0 ≤ p1.toInt ∧ p1.toInt < p2.toInt ∧ p2.toInt ≤ 0) := w_3
        exfalso; omega
      · have w_3 : (p1.toInt < 0 ∨ p2.toInt ≤ p1.toInt ∨ 0 < p2.toInt) := w_3
        refine lv_if_ne (tgt := 21) hx hb dX4_count_16 (by decide) (fun c_4 => ?_) (fun c_4 => ?_)
        · exact absurd c_4 (by decide)
        · refine lv_iconst (v := (-1)) hx hb dX4_count_19 (by decide) ?_
          exact W.iret (v := (-1)) hx hb hr (fun t ht hW => ⟨(-1), rfl, rfl, ht⟩) (fun q hq => by cases hq) dX4_count_20
  · have w_1 : (p0.toInt < -32768 ∨ 32767 < p0.toInt) := w_1
    refine lv_if_eq (tgt := 19) hx hb dX4_count_4 (by decide) (fun c_5 => ?_) (fun c_5 => ?_)
    · refine lv_iconst (v := (-1)) hx hb dX4_count_19 (by decide) ?_
      exact W.iret (v := (-1)) hx hb hr (fun t ht hW => ⟨(-1), rfl, rfl, ht⟩) (fun q hq => by cases hq) dX4_count_20
    · exact absurd c_5 (by decide)

set_option maxHeartbeats 4000000 in
set_option maxRecDepth 100000 in
/-- place on a fresh object -/
theorem c_X4_place (l : Launch) (dC : Nat → ClassId) (dI : Nat → Nat → Nat) (h0 : Nat) (h_row : Nat) (h_tree : Nat) (h_tally : Nat) (h_votes : Nat) (h_otherVotes : Nat) (h_wins : Nat) (h_fewest : Nat) (h_cell : Nat) (p0 : Int32) (p1 : Int32) : Met l yX4_place wsX4_place ({ frames := 0, cells := 0, slots := 0, locals := 0 }) (va_Pc [.ref h0, .int p0, .int p1] (fun U => va_P (dC, dI) vwCl [(h0, .inr (4, [.ref h_row, .ref h_tree, .ref h_tally, .ref h_votes, .ref h_otherVotes, .ref h_wins, .ref h_fewest, .int 2, .int 1])), (h_row, .inr (0, [.ref h_cell, .int 0]))] U.heap ∧ va_K (dC, dI) vwCl [] U)) (vp_Si (fun r : Int32 => r = (-1))) 0 0 (fun _ => False) := by
  refine Met.ofW (cc := cX4_place) (maxL := 5) (ret := (some .int)) (by decide) rfl ?_
  intro p e s m args below meth c s₁ B hml hv
  obtain ⟨rfl, hP, hK⟩ := hv
  have hx := B.exec
  have hb := B.bytes
  have hr := B.returns
  have hts := atoms_spec (ws := wsX4_place) B.pre
  have hown : s.vm.findClass RX4 = some m.cls := findClass_of_methodNamed B.named
  have hlocks := B.notSynchronized
  have hP : va_P (dC, dI) vwCl [(h0, .inr (4, [.ref h_row, .ref h_tree, .ref h_tally, .ref h_votes, .ref h_otherVotes, .ref h_wins, .ref h_fewest, .int 2, .int 1])), (h_row, .inr (0, [.ref h_cell, .int 0]))] s.heap := hP
  have hl := lv_entry ([.ref h0, .int p0, .int p1]) (n := 5) (Nat.le_of_ble_eq_true rfl)
  rw [lg_entry_eq]
  generalize (lg_sl ([.ref h0, .int p0, .int p1]) ++ List.replicate (5 - (lg_sl ([.ref h0, .int p0, .int p1])).length) Slot.unset).toArray = ls at hl ⊢
  have hl : lv_has ls 5 [(0, .ref h0), (1, .int p0), (2, .int p1)] := hl
  have hf_12 := hts (.fieldLink RX4 12 "MajorityIndex" "row" "LMajorityIndex$Row;") (by decide +kernel)
  have hi_4 : ∀ w ∈ u_ws RX4 TX4 9, w ∈ wsX4_place := by decide +kernel
  have hf_57 := hts (.fieldLink RX4 57 "MajorityIndex$Row" "length" "I") (by decide +kernel)
  have hi_0 : ∀ w ∈ u_ws RX0 TX0 2, w ∈ wsX4_place := by decide +kernel
  refine lv_iload_n hx hb dX4_place_0 rfl (lv_at hl 2 rfl) ?_
  refine lv_if_ge (tgt := 6) hx hb dX4_place_1 (by decide) (fun c_1 => ?_) (fun c_1 => ?_)
  · have i_1 : 0 ≤ p1.toInt := kc_le c_1
    refine lv_iconst (v := 0) hx hb dX4_place_6 (by decide) ?_
    refine lv_istore_n (lv' := [(3, .int 0), (0, .ref h0), (1, .int p0), (2, .int p1)]) hx hb dX4_place_7 rfl hl (by decide) rfl (fun ls hl => ?_)
    refine lv_iconst (v := 0) hx hb dX4_place_8 (by decide) ?_
    refine lv_istore (lv' := [(4, .int 0), (3, .int 0), (0, .ref h0), (1, .int p0), (2, .int p1)]) hx hb dX4_place_9 hl (by decide) rfl (fun ls hl => ?_)
    refine lv_iload hx hb dX4_place_11 (lv_at hl 0 rfl) ?_
    refine lv_aload_n hx hb dX4_place_13 rfl (lv_at hl 2 rfl) ?_
    refine va_get (D := (dC, dI)) (ci := 4) (v := .ref h_row) (C := RX4) (T := TX4) (N := 9) hx hb hts hi_4 hown hK hP 0 rfl rfl 0 (by decide) hf_12 (fun _ h9 => h9) rfl dX4_place_14 ?_
    refine va_get (D := (dC, dI)) (ci := 0) (v := .int 0) (C := RX0) (T := TX0) (N := 2) hx hb hts hi_0 hown hK hP 1 rfl rfl 1 (by decide) hf_57 (fun _ h9 => h9) rfl dX4_place_17 ?_
    refine lv_icmp_ge (tgt := 54) hx hb dX4_place_20 (by decide) (fun c_2 => ?_) (fun c_2 => ?_)
    · refine lv_iconst (v := (-1)) hx hb dX4_place_54 (by decide) ?_
      exact W.iret (v := (-1)) hx hb hr (fun t ht hW => ⟨(-1), rfl, rfl, ht⟩) (fun q hq => by cases hq) dX4_place_55
    · exact absurd c_2 (by decide)
  · have i_1 : p1.toInt < 0 := kc_nle c_1
    refine lv_iconst (v := (-1)) hx hb dX4_place_4 (by decide) ?_
    exact W.iret (v := (-1)) hx hb hr (fun t ht hW => ⟨(-1), rfl, rfl, ht⟩) (fun q hq => by cases hq) dX4_place_5

set_option maxHeartbeats 4000000 in
set_option maxRecDepth 100000 in
/-- node on a fresh object -/
theorem c_X4_node (l : Launch) (dC : Nat → ClassId) (dI : Nat → Nat → Nat) (h0 : Nat) (h_row : Nat) (h_tree : Nat) (h_tally : Nat) (h_votes : Nat) (h_otherVotes : Nat) (h_wins : Nat) (h_fewest : Nat) (h_cell : Nat) (p0 : Int32) (p1 : Int32) : Met l yX4_node wsX4_node ({ frames := 1, cells := 0, slots := 0, locals := 45 }) (va_Pc [.ref h0, .int p0, .int p1] (fun U => va_P (dC, dI) vwCl [(h0, .inr (4, [.ref h_row, .ref h_tree, .ref h_tally, .ref h_votes, .ref h_otherVotes, .ref h_wins, .ref h_fewest, .int 2, .int 1])), (h_row, .inr (0, [.ref h_cell, .int 0]))] U.heap ∧ va_K (dC, dI) vwCl [] U)) (vp_Si (fun r : Int32 => r = (-1))) 0 0 (fun _ => False) := by
  refine Met.ofW (cc := cX4_node) (maxL := 5) (ret := (some .int)) (by decide) rfl ?_
  intro p e s m args below meth c s₁ B hml hv
  obtain ⟨rfl, hP, hK⟩ := hv
  have hx := B.exec
  have hb := B.bytes
  have hr := B.returns
  have hts := atoms_spec (ws := wsX4_node) B.pre
  have hown : s.vm.findClass RX4 = some m.cls := findClass_of_methodNamed B.named
  have hlocks := B.notSynchronized
  have hP : va_P (dC, dI) vwCl [(h0, .inr (4, [.ref h_row, .ref h_tree, .ref h_tally, .ref h_votes, .ref h_otherVotes, .ref h_wins, .ref h_fewest, .int 2, .int 1])), (h_row, .inr (0, [.ref h_cell, .int 0]))] s.heap := hP
  have hl := lv_entry ([.ref h0, .int p0, .int p1]) (n := 5) (Nat.le_of_ble_eq_true rfl)
  rw [lg_entry_eq]
  generalize (lg_sl ([.ref h0, .int p0, .int p1]) ++ List.replicate (5 - (lg_sl ([.ref h0, .int p0, .int p1])).length) Slot.unset).toArray = ls at hl ⊢
  have hl : lv_has ls 5 [(0, .ref h0), (1, .int p0), (2, .int p1)] := hl
  have hf_12 := hts (.fieldLink RX4 12 "MajorityIndex" "row" "LMajorityIndex$Row;") (by decide +kernel)
  have hi_4 : ∀ w ∈ u_ws RX4 TX4 9, w ∈ wsX4_node := by decide +kernel
  refine lv_aload_n hx hb dX4_node_0 rfl (lv_at hl 0 rfl) ?_
  refine va_get (D := (dC, dI)) (ci := 4) (v := .ref h_row) (C := RX4) (T := TX4) (N := 9) hx hb hts hi_4 hown hK hP 0 rfl rfl 0 (by decide) hf_12 (fun _ h9 => h9) rfl dX4_node_1 ?_
  refine lv_iload_n hx hb dX4_node_4 rfl (lv_at hl 1 rfl) ?_
  refine lv_iload_n hx hb dX4_node_5 rfl (lv_at hl 2 rfl) ?_
  have hPc := hP.sub (ws' := [(h_row, .inr (0, [.ref h_cell, .int 0]))]) [1] rfl
  have hKc := hK.sub (tys' := []) [] rfl
  refine vp_callSi (W.runV (As := [.int p0, .int p1]) (rest := []) ⟨hx, hb, hml, hown, hts⟩ (c_X0_hasRange l dC dI h_row h_cell 0 p0 p1) (cwV 2 hts gX4_node_X0_hasRange rfl rfl rfl (by decide +kernel) ⟨Nat.le_of_ble_eq_true rfl, Nat.le_of_ble_eq_true rfl⟩) ⟨fun a U g mk q => by obtain ⟨q0, qP, qK⟩ := q; exact ⟨q0, qP, va_K.moved (u := U) (U := U.calling g mk a) (Vm.Alike.refl U.vm) qK⟩, va_recv hKc hPc (ci := 0) (q0 := 0) rfl rfl, fun U hU hW => ⟨rfl, by rw [hU]; exact hPc, va_K.moved hW.alike hKc⟩⟩ rfl rfl hl.1 rfl (lv_room (Nat.le_of_ble_eq_true rfl)) dX4_node_6 ⟨Nat.le_of_ble_eq_true rfl, Nat.le_of_ble_eq_true rfl⟩) (fun r_1 w_1 => ?_)
  rcases w_1 with ⟨rfl, w_1⟩ | ⟨rfl, w_1⟩
  · have w_1 : (0 ≤ p0.toInt ∧ p0.toInt < p1.toInt ∧ p1.toInt ≤ 0) := w_1
    exfalso; omega
  · have w_1 : (p0.toInt < 0 ∨ p1.toInt ≤ p0.toInt ∨ 0 < p1.toInt) := w_1
    refine lv_if_ne (tgt := 14) hx hb dX4_node_9 (by decide) (fun c_2 => ?_) (fun c_2 => ?_)
    · exact absurd c_2 (by decide)
    · refine lv_iconst (v := (-1)) hx hb dX4_node_12 (by decide) ?_
      exact W.iret (v := (-1)) hx hb hr (fun t ht hW => ⟨(-1), rfl, rfl, ht⟩) (fun q hq => by cases hq) dX4_node_13

set_option maxHeartbeats 4000000 in
set_option maxRecDepth 100000 in
/-- loss on a fresh object -/
theorem c_X4_loss (l : Launch) (dC : Nat → ClassId) (dI : Nat → Nat → Nat) (h0 : Nat) (h_row : Nat) (h_tree : Nat) (h_tally : Nat) (h_votes : Nat) (h_otherVotes : Nat) (h_wins : Nat) (h_fewest : Nat) (h_cell : Nat) (p0 : Int32) (p1 : Int32) : Met l yX4_loss wsX4_loss ({ frames := 1, cells := 0, slots := 0, locals := 45 }) (va_Pc [.ref h0, .int p0, .int p1] (fun U => va_P (dC, dI) vwCl [(h0, .inr (4, [.ref h_row, .ref h_tree, .ref h_tally, .ref h_votes, .ref h_otherVotes, .ref h_wins, .ref h_fewest, .int 2, .int 1])), (h_row, .inr (0, [.ref h_cell, .int 0]))] U.heap ∧ va_K (dC, dI) vwCl [] U)) (vp_Si (fun r : Int32 => r = (-1))) 0 0 (fun _ => False) := by
  refine Met.ofW (cc := cX4_loss) (maxL := 5) (ret := (some .int)) (by decide) rfl ?_
  intro p e s m args below meth c s₁ B hml hv
  obtain ⟨rfl, hP, hK⟩ := hv
  have hx := B.exec
  have hb := B.bytes
  have hr := B.returns
  have hts := atoms_spec (ws := wsX4_loss) B.pre
  have hown : s.vm.findClass RX4 = some m.cls := findClass_of_methodNamed B.named
  have hlocks := B.notSynchronized
  have hP : va_P (dC, dI) vwCl [(h0, .inr (4, [.ref h_row, .ref h_tree, .ref h_tally, .ref h_votes, .ref h_otherVotes, .ref h_wins, .ref h_fewest, .int 2, .int 1])), (h_row, .inr (0, [.ref h_cell, .int 0]))] s.heap := hP
  have hl := lv_entry ([.ref h0, .int p0, .int p1]) (n := 5) (Nat.le_of_ble_eq_true rfl)
  rw [lg_entry_eq]
  generalize (lg_sl ([.ref h0, .int p0, .int p1]) ++ List.replicate (5 - (lg_sl ([.ref h0, .int p0, .int p1])).length) Slot.unset).toArray = ls at hl ⊢
  have hl : lv_has ls 5 [(0, .ref h0), (1, .int p0), (2, .int p1)] := hl
  have hf_12 := hts (.fieldLink RX4 12 "MajorityIndex" "row" "LMajorityIndex$Row;") (by decide +kernel)
  have hi_4 : ∀ w ∈ u_ws RX4 TX4 9, w ∈ wsX4_loss := by decide +kernel
  refine lv_aload_n hx hb dX4_loss_0 rfl (lv_at hl 0 rfl) ?_
  refine va_get (D := (dC, dI)) (ci := 4) (v := .ref h_row) (C := RX4) (T := TX4) (N := 9) hx hb hts hi_4 hown hK hP 0 rfl rfl 0 (by decide) hf_12 (fun _ h9 => h9) rfl dX4_loss_1 ?_
  refine lv_iload_n hx hb dX4_loss_4 rfl (lv_at hl 1 rfl) ?_
  refine lv_iload_n hx hb dX4_loss_5 rfl (lv_at hl 2 rfl) ?_
  have hPc := hP.sub (ws' := [(h_row, .inr (0, [.ref h_cell, .int 0]))]) [1] rfl
  have hKc := hK.sub (tys' := []) [] rfl
  refine vp_callSi (W.runV (As := [.int p0, .int p1]) (rest := []) ⟨hx, hb, hml, hown, hts⟩ (c_X0_hasRange l dC dI h_row h_cell 0 p0 p1) (cwV 2 hts gX4_loss_X0_hasRange rfl rfl rfl (by decide +kernel) ⟨Nat.le_of_ble_eq_true rfl, Nat.le_of_ble_eq_true rfl⟩) ⟨fun a U g mk q => by obtain ⟨q0, qP, qK⟩ := q; exact ⟨q0, qP, va_K.moved (u := U) (U := U.calling g mk a) (Vm.Alike.refl U.vm) qK⟩, va_recv hKc hPc (ci := 0) (q0 := 0) rfl rfl, fun U hU hW => ⟨rfl, by rw [hU]; exact hPc, va_K.moved hW.alike hKc⟩⟩ rfl rfl hl.1 rfl (lv_room (Nat.le_of_ble_eq_true rfl)) dX4_loss_6 ⟨Nat.le_of_ble_eq_true rfl, Nat.le_of_ble_eq_true rfl⟩) (fun r_1 w_1 => ?_)
  rcases w_1 with ⟨rfl, w_1⟩ | ⟨rfl, w_1⟩
  · have w_1 : (0 ≤ p0.toInt ∧ p0.toInt < p1.toInt ∧ p1.toInt ≤ 0) := w_1
    exfalso; omega
  · have w_1 : (p0.toInt < 0 ∨ p1.toInt ≤ p0.toInt ∨ 0 < p1.toInt) := w_1
    refine lv_if_ne (tgt := 14) hx hb dX4_loss_9 (by decide) (fun c_2 => ?_) (fun c_2 => ?_)
    · exact absurd c_2 (by decide)
    · refine lv_iconst (v := (-1)) hx hb dX4_loss_12 (by decide) ?_
      exact W.iret (v := (-1)) hx hb hr (fun t ht hW => ⟨(-1), rfl, rfl, ht⟩) (fun q hq => by cases hq) dX4_loss_13

set_option maxHeartbeats 4000000 in
set_option maxRecDepth 100000 in
/-- cancelled on a fresh object -/
theorem c_X4_cancelled (l : Launch) (dC : Nat → ClassId) (dI : Nat → Nat → Nat) (h0 : Nat) (h_row : Nat) (h_tree : Nat) (h_tally : Nat) (h_votes : Nat) (h_otherVotes : Nat) (h_wins : Nat) (h_fewest : Nat) (h_cell : Nat) (p0 : Int32) (p1 : Int32) : Met l yX4_cancelled wsX4_cancelled ({ frames := 1, cells := 0, slots := 0, locals := 45 }) (va_Pc [.ref h0, .int p0, .int p1] (fun U => va_P (dC, dI) vwCl [(h0, .inr (4, [.ref h_row, .ref h_tree, .ref h_tally, .ref h_votes, .ref h_otherVotes, .ref h_wins, .ref h_fewest, .int 2, .int 1])), (h_row, .inr (0, [.ref h_cell, .int 0]))] U.heap ∧ va_K (dC, dI) vwCl [] U)) (vp_Si (fun r : Int32 => r = (-1))) 0 0 (fun _ => False) := by
  refine Met.ofW (cc := cX4_cancelled) (maxL := 5) (ret := (some .int)) (by decide) rfl ?_
  intro p e s m args below meth c s₁ B hml hv
  obtain ⟨rfl, hP, hK⟩ := hv
  have hx := B.exec
  have hb := B.bytes
  have hr := B.returns
  have hts := atoms_spec (ws := wsX4_cancelled) B.pre
  have hown : s.vm.findClass RX4 = some m.cls := findClass_of_methodNamed B.named
  have hlocks := B.notSynchronized
  have hP : va_P (dC, dI) vwCl [(h0, .inr (4, [.ref h_row, .ref h_tree, .ref h_tally, .ref h_votes, .ref h_otherVotes, .ref h_wins, .ref h_fewest, .int 2, .int 1])), (h_row, .inr (0, [.ref h_cell, .int 0]))] s.heap := hP
  have hl := lv_entry ([.ref h0, .int p0, .int p1]) (n := 5) (Nat.le_of_ble_eq_true rfl)
  rw [lg_entry_eq]
  generalize (lg_sl ([.ref h0, .int p0, .int p1]) ++ List.replicate (5 - (lg_sl ([.ref h0, .int p0, .int p1])).length) Slot.unset).toArray = ls at hl ⊢
  have hl : lv_has ls 5 [(0, .ref h0), (1, .int p0), (2, .int p1)] := hl
  have hf_12 := hts (.fieldLink RX4 12 "MajorityIndex" "row" "LMajorityIndex$Row;") (by decide +kernel)
  have hi_4 : ∀ w ∈ u_ws RX4 TX4 9, w ∈ wsX4_cancelled := by decide +kernel
  refine lv_aload_n hx hb dX4_cancelled_0 rfl (lv_at hl 0 rfl) ?_
  refine va_get (D := (dC, dI)) (ci := 4) (v := .ref h_row) (C := RX4) (T := TX4) (N := 9) hx hb hts hi_4 hown hK hP 0 rfl rfl 0 (by decide) hf_12 (fun _ h9 => h9) rfl dX4_cancelled_1 ?_
  refine lv_iload_n hx hb dX4_cancelled_4 rfl (lv_at hl 1 rfl) ?_
  refine lv_iload_n hx hb dX4_cancelled_5 rfl (lv_at hl 2 rfl) ?_
  have hPc := hP.sub (ws' := [(h_row, .inr (0, [.ref h_cell, .int 0]))]) [1] rfl
  have hKc := hK.sub (tys' := []) [] rfl
  refine vp_callSi (W.runV (As := [.int p0, .int p1]) (rest := []) ⟨hx, hb, hml, hown, hts⟩ (c_X0_hasRange l dC dI h_row h_cell 0 p0 p1) (cwV 2 hts gX4_cancelled_X0_hasRange rfl rfl rfl (by decide +kernel) ⟨Nat.le_of_ble_eq_true rfl, Nat.le_of_ble_eq_true rfl⟩) ⟨fun a U g mk q => by obtain ⟨q0, qP, qK⟩ := q; exact ⟨q0, qP, va_K.moved (u := U) (U := U.calling g mk a) (Vm.Alike.refl U.vm) qK⟩, va_recv hKc hPc (ci := 0) (q0 := 0) rfl rfl, fun U hU hW => ⟨rfl, by rw [hU]; exact hPc, va_K.moved hW.alike hKc⟩⟩ rfl rfl hl.1 rfl (lv_room (Nat.le_of_ble_eq_true rfl)) dX4_cancelled_6 ⟨Nat.le_of_ble_eq_true rfl, Nat.le_of_ble_eq_true rfl⟩) (fun r_1 w_1 => ?_)
  rcases w_1 with ⟨rfl, w_1⟩ | ⟨rfl, w_1⟩
  · have w_1 : (0 ≤ p0.toInt ∧ p0.toInt < p1.toInt ∧ p1.toInt ≤ 0) := w_1
    exfalso; omega
  · have w_1 : (p0.toInt < 0 ∨ p1.toInt ≤ p0.toInt ∨ 0 < p1.toInt) := w_1
    refine lv_if_ne (tgt := 14) hx hb dX4_cancelled_9 (by decide) (fun c_2 => ?_) (fun c_2 => ?_)
    · exact absurd c_2 (by decide)
    · refine lv_iconst (v := (-1)) hx hb dX4_cancelled_12 (by decide) ?_
      exact W.iret (v := (-1)) hx hb hr (fun t ht hW => ⟨(-1), rfl, rfl, ht⟩) (fun q hq => by cases hq) dX4_cancelled_13

set_option maxHeartbeats 4000000 in
set_option maxRecDepth 100000 in
/-- above on a fresh object -/
theorem c_X4_above (l : Launch) (dC : Nat → ClassId) (dI : Nat → Nat → Nat) (h0 : Nat) (h_row : Nat) (h_tree : Nat) (h_tally : Nat) (h_votes : Nat) (h_otherVotes : Nat) (h_wins : Nat) (h_fewest : Nat) (h_cell : Nat) (p0 : Int32) (p1 : Int32) (p2 : Int32) : Met l yX4_above wsX4_above ({ frames := 1, cells := 0, slots := 0, locals := 45 }) (va_Pc [.ref h0, .int p0, .int p1, .int p2] (fun U => va_P (dC, dI) vwCl [(h0, .inr (4, [.ref h_row, .ref h_tree, .ref h_tally, .ref h_votes, .ref h_otherVotes, .ref h_wins, .ref h_fewest, .int 2, .int 1])), (h_row, .inr (0, [.ref h_cell, .int 0]))] U.heap ∧ va_K (dC, dI) vwCl [] U)) (vp_Si (fun r : Int32 => r = (-1))) 0 0 (fun _ => False) := by
  refine Met.ofW (cc := cX4_above) (maxL := 6) (ret := (some .int)) (by decide) rfl ?_
  intro p e s m args below meth c s₁ B hml hv
  obtain ⟨rfl, hP, hK⟩ := hv
  have hx := B.exec
  have hb := B.bytes
  have hr := B.returns
  have hts := atoms_spec (ws := wsX4_above) B.pre
  have hown : s.vm.findClass RX4 = some m.cls := findClass_of_methodNamed B.named
  have hlocks := B.notSynchronized
  have hP : va_P (dC, dI) vwCl [(h0, .inr (4, [.ref h_row, .ref h_tree, .ref h_tally, .ref h_votes, .ref h_otherVotes, .ref h_wins, .ref h_fewest, .int 2, .int 1])), (h_row, .inr (0, [.ref h_cell, .int 0]))] s.heap := hP
  have hl := lv_entry ([.ref h0, .int p0, .int p1, .int p2]) (n := 6) (Nat.le_of_ble_eq_true rfl)
  rw [lg_entry_eq]
  generalize (lg_sl ([.ref h0, .int p0, .int p1, .int p2]) ++ List.replicate (6 - (lg_sl ([.ref h0, .int p0, .int p1, .int p2])).length) Slot.unset).toArray = ls at hl ⊢
  have hl : lv_has ls 6 [(0, .ref h0), (1, .int p0), (2, .int p1), (3, .int p2)] := hl
  have hf_12 := hts (.fieldLink RX4 12 "MajorityIndex" "row" "LMajorityIndex$Row;") (by decide +kernel)
  have hi_4 : ∀ w ∈ u_ws RX4 TX4 9, w ∈ wsX4_above := by decide +kernel
  refine lv_aload_n hx hb dX4_above_0 rfl (lv_at hl 0 rfl) ?_
  refine va_get (D := (dC, dI)) (ci := 4) (v := .ref h_row) (C := RX4) (T := TX4) (N := 9) hx hb hts hi_4 hown hK hP 0 rfl rfl 0 (by decide) hf_12 (fun _ h9 => h9) rfl dX4_above_1 ?_
  refine lv_iload_n hx hb dX4_above_4 rfl (lv_at hl 1 rfl) ?_
  have hPc := hP.sub (ws' := [(h_row, .inr (0, [.ref h_cell, .int 0]))]) [1] rfl
  have hKc := hK.sub (tys' := []) [] rfl
  refine vp_callSi (W.runV (As := [.int p0]) (rest := []) ⟨hx, hb, hml, hown, hts⟩ (c_X0_hasPlace l dC dI h_row h_cell 0 p0) (cwV 1 hts gX4_above_X0_hasPlace rfl rfl rfl (by decide +kernel) ⟨Nat.le_of_ble_eq_true rfl, Nat.le_of_ble_eq_true rfl⟩) ⟨fun a U g mk q => by obtain ⟨q0, qP, qK⟩ := q; exact ⟨q0, qP, va_K.moved (u := U) (U := U.calling g mk a) (Vm.Alike.refl U.vm) qK⟩, va_recv hKc hPc (ci := 0) (q0 := 0) rfl rfl, fun U hU hW => ⟨rfl, by rw [hU]; exact hPc, va_K.moved hW.alike hKc⟩⟩ rfl rfl hl.1 rfl (lv_room (Nat.le_of_ble_eq_true rfl)) dX4_above_5 ⟨Nat.le_of_ble_eq_true rfl, Nat.le_of_ble_eq_true rfl⟩) (fun r_1 w_1 => ?_)
  rcases w_1 with ⟨rfl, w_1⟩ | ⟨rfl, w_1⟩
  · have w_1 : (0 ≤ p0.toInt ∧ p0.toInt < 0) := w_1
    exfalso; omega
  · have w_1 : (p0.toInt < 0 ∨ 0 ≤ p0.toInt) := w_1
    refine lv_if_ne (tgt := 13) hx hb dX4_above_8 (by decide) (fun c_2 => ?_) (fun c_2 => ?_)
    · exact absurd c_2 (by decide)
    · refine lv_iconst (v := (-1)) hx hb dX4_above_11 (by decide) ?_
      exact W.iret (v := (-1)) hx hb hr (fun t ht hW => ⟨(-1), rfl, rfl, ht⟩) (fun q hq => by cases hq) dX4_above_12

set_option maxHeartbeats 4000000 in
set_option maxRecDepth 100000 in
/-- holds on a fresh object -/
theorem c_X4_holds (l : Launch) (dC : Nat → ClassId) (dI : Nat → Nat → Nat) (h0 : Nat) (h_row : Nat) (h_tree : Nat) (h_tally : Nat) (h_votes : Nat) (h_otherVotes : Nat) (h_wins : Nat) (h_fewest : Nat) (h_cell : Nat) (p0 : Int32) : Met l yX4_holds wsX4_holds ({ frames := 1, cells := 0, slots := 0, locals := 45 }) (va_Pc [.ref h0, .int p0] (fun U => va_P (dC, dI) vwCl [(h0, .inr (4, [.ref h_row, .ref h_tree, .ref h_tally, .ref h_votes, .ref h_otherVotes, .ref h_wins, .ref h_fewest, .int 2, .int 1])), (h_row, .inr (0, [.ref h_cell, .int 0]))] U.heap ∧ va_K (dC, dI) vwCl [] U)) (vp_Si (fun r : Int32 => r = (-1))) 0 0 (fun _ => False) := by
  refine Met.ofW (cc := cX4_holds) (maxL := 2) (ret := (some .int)) (by decide) rfl ?_
  intro p e s m args below meth c s₁ B hml hv
  obtain ⟨rfl, hP, hK⟩ := hv
  have hx := B.exec
  have hb := B.bytes
  have hr := B.returns
  have hts := atoms_spec (ws := wsX4_holds) B.pre
  have hown : s.vm.findClass RX4 = some m.cls := findClass_of_methodNamed B.named
  have hlocks := B.notSynchronized
  have hP : va_P (dC, dI) vwCl [(h0, .inr (4, [.ref h_row, .ref h_tree, .ref h_tally, .ref h_votes, .ref h_otherVotes, .ref h_wins, .ref h_fewest, .int 2, .int 1])), (h_row, .inr (0, [.ref h_cell, .int 0]))] s.heap := hP
  have hl := lv_entry ([.ref h0, .int p0]) (n := 2) (Nat.le_of_ble_eq_true rfl)
  rw [lg_entry_eq]
  generalize (lg_sl ([.ref h0, .int p0]) ++ List.replicate (2 - (lg_sl ([.ref h0, .int p0])).length) Slot.unset).toArray = ls at hl ⊢
  have hl : lv_has ls 2 [(0, .ref h0), (1, .int p0)] := hl
  have hf_12 := hts (.fieldLink RX4 12 "MajorityIndex" "row" "LMajorityIndex$Row;") (by decide +kernel)
  have hi_4 : ∀ w ∈ u_ws RX4 TX4 9, w ∈ wsX4_holds := by decide +kernel
  refine lv_aload_n hx hb dX4_holds_0 rfl (lv_at hl 0 rfl) ?_
  refine va_get (D := (dC, dI)) (ci := 4) (v := .ref h_row) (C := RX4) (T := TX4) (N := 9) hx hb hts hi_4 hown hK hP 0 rfl rfl 0 (by decide) hf_12 (fun _ h9 => h9) rfl dX4_holds_1 ?_
  refine lv_iload_n hx hb dX4_holds_4 rfl (lv_at hl 1 rfl) ?_
  have hPc := hP.sub (ws' := [(h_row, .inr (0, [.ref h_cell, .int 0]))]) [1] rfl
  have hKc := hK.sub (tys' := []) [] rfl
  refine vp_callSi (W.runV (As := [.int p0]) (rest := []) ⟨hx, hb, hml, hown, hts⟩ (c_X0_hasPlace l dC dI h_row h_cell 0 p0) (cwV 1 hts gX4_holds_X0_hasPlace rfl rfl rfl (by decide +kernel) ⟨Nat.le_of_ble_eq_true rfl, Nat.le_of_ble_eq_true rfl⟩) ⟨fun a U g mk q => by obtain ⟨q0, qP, qK⟩ := q; exact ⟨q0, qP, va_K.moved (u := U) (U := U.calling g mk a) (Vm.Alike.refl U.vm) qK⟩, va_recv hKc hPc (ci := 0) (q0 := 0) rfl rfl, fun U hU hW => ⟨rfl, by rw [hU]; exact hPc, va_K.moved hW.alike hKc⟩⟩ rfl rfl hl.1 rfl (lv_room (Nat.le_of_ble_eq_true rfl)) dX4_holds_5 ⟨Nat.le_of_ble_eq_true rfl, Nat.le_of_ble_eq_true rfl⟩) (fun r_1 w_1 => ?_)
  rcases w_1 with ⟨rfl, w_1⟩ | ⟨rfl, w_1⟩
  · have w_1 : (0 ≤ p0.toInt ∧ p0.toInt < 0) := w_1
    exfalso; omega
  · have w_1 : (p0.toInt < 0 ∨ 0 ≤ p0.toInt) := w_1
    refine lv_if_ne (tgt := 13) hx hb dX4_holds_8 (by decide) (fun c_2 => ?_) (fun c_2 => ?_)
    · exact absurd c_2 (by decide)
    · refine lv_iconst (v := (-1)) hx hb dX4_holds_11 (by decide) ?_
      exact W.iret (v := (-1)) hx hb hr (fun t ht hW => ⟨(-1), rfl, rfl, ht⟩) (fun q hq => by cases hq) dX4_holds_12

set_option maxHeartbeats 4000000 in
set_option maxRecDepth 100000 in
/-- parts on a fresh object -/
theorem c_X4_parts (l : Launch) (dC : Nat → ClassId) (dI : Nat → Nat → Nat) (h0 : Nat) (h_row : Nat) (h_tree : Nat) (h_tally : Nat) (h_votes : Nat) (h_otherVotes : Nat) (h_wins : Nat) (h_fewest : Nat) (h_cell : Nat) (p0 : Int32) (p1 : Int32) : Met l yX4_parts wsX4_parts ({ frames := 1, cells := 0, slots := 0, locals := 45 }) (va_Pc [.ref h0, .int p0, .int p1] (fun U => va_P (dC, dI) vwCl [(h0, .inr (4, [.ref h_row, .ref h_tree, .ref h_tally, .ref h_votes, .ref h_otherVotes, .ref h_wins, .ref h_fewest, .int 2, .int 1])), (h_row, .inr (0, [.ref h_cell, .int 0]))] U.heap ∧ va_K (dC, dI) vwCl [] U)) (vp_Si (fun r : Int32 => r = (-1))) 0 0 (fun _ => False) := by
  refine Met.ofW (cc := cX4_parts) (maxL := 7) (ret := (some .int)) (by decide) rfl ?_
  intro p e s m args below meth c s₁ B hml hv
  obtain ⟨rfl, hP, hK⟩ := hv
  have hx := B.exec
  have hb := B.bytes
  have hr := B.returns
  have hts := atoms_spec (ws := wsX4_parts) B.pre
  have hown : s.vm.findClass RX4 = some m.cls := findClass_of_methodNamed B.named
  have hlocks := B.notSynchronized
  have hP : va_P (dC, dI) vwCl [(h0, .inr (4, [.ref h_row, .ref h_tree, .ref h_tally, .ref h_votes, .ref h_otherVotes, .ref h_wins, .ref h_fewest, .int 2, .int 1])), (h_row, .inr (0, [.ref h_cell, .int 0]))] s.heap := hP
  have hl := lv_entry ([.ref h0, .int p0, .int p1]) (n := 7) (Nat.le_of_ble_eq_true rfl)
  rw [lg_entry_eq]
  generalize (lg_sl ([.ref h0, .int p0, .int p1]) ++ List.replicate (7 - (lg_sl ([.ref h0, .int p0, .int p1])).length) Slot.unset).toArray = ls at hl ⊢
  have hl : lv_has ls 7 [(0, .ref h0), (1, .int p0), (2, .int p1)] := hl
  have hf_12 := hts (.fieldLink RX4 12 "MajorityIndex" "row" "LMajorityIndex$Row;") (by decide +kernel)
  have hi_4 : ∀ w ∈ u_ws RX4 TX4 9, w ∈ wsX4_parts := by decide +kernel
  refine lv_aload_n hx hb dX4_parts_0 rfl (lv_at hl 0 rfl) ?_
  refine va_get (D := (dC, dI)) (ci := 4) (v := .ref h_row) (C := RX4) (T := TX4) (N := 9) hx hb hts hi_4 hown hK hP 0 rfl rfl 0 (by decide) hf_12 (fun _ h9 => h9) rfl dX4_parts_1 ?_
  refine lv_iload_n hx hb dX4_parts_4 rfl (lv_at hl 1 rfl) ?_
  refine lv_iload_n hx hb dX4_parts_5 rfl (lv_at hl 2 rfl) ?_
  have hPc := hP.sub (ws' := [(h_row, .inr (0, [.ref h_cell, .int 0]))]) [1] rfl
  have hKc := hK.sub (tys' := []) [] rfl
  refine vp_callSi (W.runV (As := [.int p0, .int p1]) (rest := []) ⟨hx, hb, hml, hown, hts⟩ (c_X0_hasRange l dC dI h_row h_cell 0 p0 p1) (cwV 2 hts gX4_parts_X0_hasRange rfl rfl rfl (by decide +kernel) ⟨Nat.le_of_ble_eq_true rfl, Nat.le_of_ble_eq_true rfl⟩) ⟨fun a U g mk q => by obtain ⟨q0, qP, qK⟩ := q; exact ⟨q0, qP, va_K.moved (u := U) (U := U.calling g mk a) (Vm.Alike.refl U.vm) qK⟩, va_recv hKc hPc (ci := 0) (q0 := 0) rfl rfl, fun U hU hW => ⟨rfl, by rw [hU]; exact hPc, va_K.moved hW.alike hKc⟩⟩ rfl rfl hl.1 rfl (lv_room (Nat.le_of_ble_eq_true rfl)) dX4_parts_6 ⟨Nat.le_of_ble_eq_true rfl, Nat.le_of_ble_eq_true rfl⟩) (fun r_1 w_1 => ?_)
  rcases w_1 with ⟨rfl, w_1⟩ | ⟨rfl, w_1⟩
  · have w_1 : (0 ≤ p0.toInt ∧ p0.toInt < p1.toInt ∧ p1.toInt ≤ 0) := w_1
    exfalso; omega
  · have w_1 : (p0.toInt < 0 ∨ p1.toInt ≤ p0.toInt ∨ 0 < p1.toInt) := w_1
    refine lv_if_ne (tgt := 14) hx hb dX4_parts_9 (by decide) (fun c_2 => ?_) (fun c_2 => ?_)
    · exact absurd c_2 (by decide)
    · refine lv_iconst (v := (-1)) hx hb dX4_parts_12 (by decide) ?_
      exact W.iret (v := (-1)) hx hb hr (fun t ht hW => ⟨(-1), rfl, rfl, ht⟩) (fun q hq => by cases hq) dX4_parts_13

set_option maxHeartbeats 4000000 in
set_option maxRecDepth 100000 in
/-- part on a fresh object -/
theorem c_X4_part (l : Launch) (dC : Nat → ClassId) (dI : Nat → Nat → Nat) (h0 : Nat) (h_row : Nat) (h_tree : Nat) (h_tally : Nat) (h_votes : Nat) (h_otherVotes : Nat) (h_wins : Nat) (h_fewest : Nat) (h_cell : Nat) (p0 : Int32) (p1 : Int32) (p2 : Int32) (p3 : Int32) : Met l yX4_part wsX4_part ({ frames := 1, cells := 0, slots := 0, locals := 45 }) (va_Pc [.ref h0, .int p0, .int p1, .int p2, .int p3] (fun U => va_P (dC, dI) vwCl [(h0, .inr (4, [.ref h_row, .ref h_tree, .ref h_tally, .ref h_votes, .ref h_otherVotes, .ref h_wins, .ref h_fewest, .int 2, .int 1])), (h_row, .inr (0, [.ref h_cell, .int 0]))] U.heap ∧ va_K (dC, dI) vwCl [] U)) (vp_Si (fun r : Int32 => r = (-1))) 0 0 (fun _ => False) := by
  refine Met.ofW (cc := cX4_part) (maxL := 9) (ret := (some .int)) (by decide) rfl ?_
  intro p e s m args below meth c s₁ B hml hv
  obtain ⟨rfl, hP, hK⟩ := hv
  have hx := B.exec
  have hb := B.bytes
  have hr := B.returns
  have hts := atoms_spec (ws := wsX4_part) B.pre
  have hown : s.vm.findClass RX4 = some m.cls := findClass_of_methodNamed B.named
  have hlocks := B.notSynchronized
  have hP : va_P (dC, dI) vwCl [(h0, .inr (4, [.ref h_row, .ref h_tree, .ref h_tally, .ref h_votes, .ref h_otherVotes, .ref h_wins, .ref h_fewest, .int 2, .int 1])), (h_row, .inr (0, [.ref h_cell, .int 0]))] s.heap := hP
  have hl := lv_entry ([.ref h0, .int p0, .int p1, .int p2, .int p3]) (n := 9) (Nat.le_of_ble_eq_true rfl)
  rw [lg_entry_eq]
  generalize (lg_sl ([.ref h0, .int p0, .int p1, .int p2, .int p3]) ++ List.replicate (9 - (lg_sl ([.ref h0, .int p0, .int p1, .int p2, .int p3])).length) Slot.unset).toArray = ls at hl ⊢
  have hl : lv_has ls 9 [(0, .ref h0), (1, .int p0), (2, .int p1), (3, .int p2), (4, .int p3)] := hl
  have hf_12 := hts (.fieldLink RX4 12 "MajorityIndex" "row" "LMajorityIndex$Row;") (by decide +kernel)
  have hi_4 : ∀ w ∈ u_ws RX4 TX4 9, w ∈ wsX4_part := by decide +kernel
  refine lv_aload_n hx hb dX4_part_0 rfl (lv_at hl 0 rfl) ?_
  refine va_get (D := (dC, dI)) (ci := 4) (v := .ref h_row) (C := RX4) (T := TX4) (N := 9) hx hb hts hi_4 hown hK hP 0 rfl rfl 0 (by decide) hf_12 (fun _ h9 => h9) rfl dX4_part_1 ?_
  refine lv_iload_n hx hb dX4_part_4 rfl (lv_at hl 1 rfl) ?_
  refine lv_iload_n hx hb dX4_part_5 rfl (lv_at hl 2 rfl) ?_
  have hPc := hP.sub (ws' := [(h_row, .inr (0, [.ref h_cell, .int 0]))]) [1] rfl
  have hKc := hK.sub (tys' := []) [] rfl
  refine vp_callSi (W.runV (As := [.int p0, .int p1]) (rest := []) ⟨hx, hb, hml, hown, hts⟩ (c_X0_hasRange l dC dI h_row h_cell 0 p0 p1) (cwV 2 hts gX4_part_X0_hasRange rfl rfl rfl (by decide +kernel) ⟨Nat.le_of_ble_eq_true rfl, Nat.le_of_ble_eq_true rfl⟩) ⟨fun a U g mk q => by obtain ⟨q0, qP, qK⟩ := q; exact ⟨q0, qP, va_K.moved (u := U) (U := U.calling g mk a) (Vm.Alike.refl U.vm) qK⟩, va_recv hKc hPc (ci := 0) (q0 := 0) rfl rfl, fun U hU hW => ⟨rfl, by rw [hU]; exact hPc, va_K.moved hW.alike hKc⟩⟩ rfl rfl hl.1 rfl (lv_room (Nat.le_of_ble_eq_true rfl)) dX4_part_6 ⟨Nat.le_of_ble_eq_true rfl, Nat.le_of_ble_eq_true rfl⟩) (fun r_1 w_1 => ?_)
  rcases w_1 with ⟨rfl, w_1⟩ | ⟨rfl, w_1⟩
  · have w_1 : (0 ≤ p0.toInt ∧ p0.toInt < p1.toInt ∧ p1.toInt ≤ 0) := w_1
    exfalso; omega
  · have w_1 : (p0.toInt < 0 ∨ p1.toInt ≤ p0.toInt ∨ 0 < p1.toInt) := w_1
    refine lv_if_eq (tgt := 27) hx hb dX4_part_9 (by decide) (fun c_2 => ?_) (fun c_2 => ?_)
    · refine lv_iconst (v := (-1)) hx hb dX4_part_27 (by decide) ?_
      exact W.iret (v := (-1)) hx hb hr (fun t ht hW => ⟨(-1), rfl, rfl, ht⟩) (fun q hq => by cases hq) dX4_part_28
    · exact absurd c_2 (by decide)

set_option maxHeartbeats 4000000 in
set_option maxRecDepth 100000 in
/-- summary on a fresh object -/
theorem c_X4_summary (l : Launch) (dC : Nat → ClassId) (dI : Nat → Nat → Nat) (h0 : Nat) (h_row : Nat) (h_tree : Nat) (h_tally : Nat) (h_votes : Nat) (h_otherVotes : Nat) (h_wins : Nat) (h_fewest : Nat) (h_cell : Nat) (p0 : Int32) (p1 : Int32) (p2 : Int32) : Met l yX4_summary wsX4_summary ({ frames := 1, cells := 0, slots := 0, locals := 45 }) (va_Pc [.ref h0, .int p0, .int p1, .int p2] (fun U => va_P (dC, dI) vwCl [(h0, .inr (4, [.ref h_row, .ref h_tree, .ref h_tally, .ref h_votes, .ref h_otherVotes, .ref h_wins, .ref h_fewest, .int 2, .int 1])), (h_row, .inr (0, [.ref h_cell, .int 0]))] U.heap ∧ va_K (dC, dI) vwCl [] U)) (vp_Si (fun r : Int32 => r = (-1))) 0 0 (fun _ => False) := by
  refine Met.ofW (cc := cX4_summary) (maxL := 4) (ret := (some .int)) (by decide) rfl ?_
  intro p e s m args below meth c s₁ B hml hv
  obtain ⟨rfl, hP, hK⟩ := hv
  have hx := B.exec
  have hb := B.bytes
  have hr := B.returns
  have hts := atoms_spec (ws := wsX4_summary) B.pre
  have hown : s.vm.findClass RX4 = some m.cls := findClass_of_methodNamed B.named
  have hlocks := B.notSynchronized
  have hP : va_P (dC, dI) vwCl [(h0, .inr (4, [.ref h_row, .ref h_tree, .ref h_tally, .ref h_votes, .ref h_otherVotes, .ref h_wins, .ref h_fewest, .int 2, .int 1])), (h_row, .inr (0, [.ref h_cell, .int 0]))] s.heap := hP
  have hl := lv_entry ([.ref h0, .int p0, .int p1, .int p2]) (n := 4) (Nat.le_of_ble_eq_true rfl)
  rw [lg_entry_eq]
  generalize (lg_sl ([.ref h0, .int p0, .int p1, .int p2]) ++ List.replicate (4 - (lg_sl ([.ref h0, .int p0, .int p1, .int p2])).length) Slot.unset).toArray = ls at hl ⊢
  have hl : lv_has ls 4 [(0, .ref h0), (1, .int p0), (2, .int p1), (3, .int p2)] := hl
  have hf_12 := hts (.fieldLink RX4 12 "MajorityIndex" "row" "LMajorityIndex$Row;") (by decide +kernel)
  have hi_4 : ∀ w ∈ u_ws RX4 TX4 9, w ∈ wsX4_summary := by decide +kernel
  refine lv_aload_n hx hb dX4_summary_0 rfl (lv_at hl 0 rfl) ?_
  refine va_get (D := (dC, dI)) (ci := 4) (v := .ref h_row) (C := RX4) (T := TX4) (N := 9) hx hb hts hi_4 hown hK hP 0 rfl rfl 0 (by decide) hf_12 (fun _ h9 => h9) rfl dX4_summary_1 ?_
  refine lv_iload_n hx hb dX4_summary_4 rfl (lv_at hl 1 rfl) ?_
  refine lv_iload_n hx hb dX4_summary_5 rfl (lv_at hl 2 rfl) ?_
  have hPc := hP.sub (ws' := [(h_row, .inr (0, [.ref h_cell, .int 0]))]) [1] rfl
  have hKc := hK.sub (tys' := []) [] rfl
  refine vp_callSi (W.runV (As := [.int p0, .int p1]) (rest := []) ⟨hx, hb, hml, hown, hts⟩ (c_X0_hasRange l dC dI h_row h_cell 0 p0 p1) (cwV 2 hts gX4_summary_X0_hasRange rfl rfl rfl (by decide +kernel) ⟨Nat.le_of_ble_eq_true rfl, Nat.le_of_ble_eq_true rfl⟩) ⟨fun a U g mk q => by obtain ⟨q0, qP, qK⟩ := q; exact ⟨q0, qP, va_K.moved (u := U) (U := U.calling g mk a) (Vm.Alike.refl U.vm) qK⟩, va_recv hKc hPc (ci := 0) (q0 := 0) rfl rfl, fun U hU hW => ⟨rfl, by rw [hU]; exact hPc, va_K.moved hW.alike hKc⟩⟩ rfl rfl hl.1 rfl (lv_room (Nat.le_of_ble_eq_true rfl)) dX4_summary_6 ⟨Nat.le_of_ble_eq_true rfl, Nat.le_of_ble_eq_true rfl⟩) (fun r_1 w_1 => ?_)
  rcases w_1 with ⟨rfl, w_1⟩ | ⟨rfl, w_1⟩
  · have w_1 : (0 ≤ p0.toInt ∧ p0.toInt < p1.toInt ∧ p1.toInt ≤ 0) := w_1
    exfalso; omega
  · have w_1 : (p0.toInt < 0 ∨ p1.toInt ≤ p0.toInt ∨ 0 < p1.toInt) := w_1
    refine lv_if_eq (tgt := 21) hx hb dX4_summary_9 (by decide) (fun c_2 => ?_) (fun c_2 => ?_)
    · refine lv_iconst (v := (-1)) hx hb dX4_summary_21 (by decide) ?_
      exact W.iret (v := (-1)) hx hb hr (fun t ht hW => ⟨(-1), rfl, rfl, ht⟩) (fun q hq => by cases hq) dX4_summary_22
    · exact absurd c_2 (by decide)

set_option maxHeartbeats 4000000 in
set_option maxRecDepth 100000 in
/-- lost on a fresh object -/
theorem c_X4_lost (l : Launch) (dC : Nat → ClassId) (dI : Nat → Nat → Nat) (h0 : Nat) (h_row : Nat) (h_tree : Nat) (h_tally : Nat) (h_votes : Nat) (h_otherVotes : Nat) (h_wins : Nat) (h_fewest : Nat) (h_cell : Nat) (p0 : Int32) (p1 : Int32) (p2 : Int32) : Met l yX4_lost wsX4_lost ({ frames := 1, cells := 0, slots := 0, locals := 45 }) (va_Pc [.ref h0, .int p0, .int p1, .int p2] (fun U => va_P (dC, dI) vwCl [(h0, .inr (4, [.ref h_row, .ref h_tree, .ref h_tally, .ref h_votes, .ref h_otherVotes, .ref h_wins, .ref h_fewest, .int 2, .int 1])), (h_row, .inr (0, [.ref h_cell, .int 0]))] U.heap ∧ va_K (dC, dI) vwCl [] U)) (vp_Si (fun r : Int32 => r = (-1))) 0 0 (fun _ => False) := by
  refine Met.ofW (cc := cX4_lost) (maxL := 4) (ret := (some .int)) (by decide) rfl ?_
  intro p e s m args below meth c s₁ B hml hv
  obtain ⟨rfl, hP, hK⟩ := hv
  have hx := B.exec
  have hb := B.bytes
  have hr := B.returns
  have hts := atoms_spec (ws := wsX4_lost) B.pre
  have hown : s.vm.findClass RX4 = some m.cls := findClass_of_methodNamed B.named
  have hlocks := B.notSynchronized
  have hP : va_P (dC, dI) vwCl [(h0, .inr (4, [.ref h_row, .ref h_tree, .ref h_tally, .ref h_votes, .ref h_otherVotes, .ref h_wins, .ref h_fewest, .int 2, .int 1])), (h_row, .inr (0, [.ref h_cell, .int 0]))] s.heap := hP
  have hl := lv_entry ([.ref h0, .int p0, .int p1, .int p2]) (n := 4) (Nat.le_of_ble_eq_true rfl)
  rw [lg_entry_eq]
  generalize (lg_sl ([.ref h0, .int p0, .int p1, .int p2]) ++ List.replicate (4 - (lg_sl ([.ref h0, .int p0, .int p1, .int p2])).length) Slot.unset).toArray = ls at hl ⊢
  have hl : lv_has ls 4 [(0, .ref h0), (1, .int p0), (2, .int p1), (3, .int p2)] := hl
  have hf_12 := hts (.fieldLink RX4 12 "MajorityIndex" "row" "LMajorityIndex$Row;") (by decide +kernel)
  have hi_4 : ∀ w ∈ u_ws RX4 TX4 9, w ∈ wsX4_lost := by decide +kernel
  refine lv_iload_n hx hb dX4_lost_0 rfl (lv_at hl 1 rfl) ?_
  have hPc := hP.sub (ws' := []) [] rfl
  have hKc := hK.sub (tys' := []) [] rfl
  refine vp_callSi (W.runS (As := [.int p0]) (rest := []) ⟨hx, hb, hml, hown, hts⟩ (c_X4_isValue l dC dI p0) (va_cwS 1 hts gX4_lost_X4_isValue rfl rfl rfl (by decide +kernel) ⟨Nat.le_of_ble_eq_true rfl, Nat.le_of_ble_eq_true rfl⟩) ⟨fun a U g mk q => by obtain ⟨q0, qP, qK⟩ := q; exact ⟨q0, qP, va_K.moved (u := U) (U := U.calling g mk a) (Vm.Alike.refl U.vm) qK⟩, fun U hU hW => ⟨rfl, by rw [hU]; exact hPc, va_K.moved hW.alike hKc⟩⟩ rfl rfl hl.1 rfl (lv_room (Nat.le_of_ble_eq_true rfl)) dX4_lost_1 ⟨Nat.le_of_ble_eq_true rfl, Nat.le_of_ble_eq_true rfl⟩) (fun r_1 w_1 => ?_)
  rcases w_1 with ⟨rfl, w_1⟩ | ⟨rfl, w_1⟩
  · have w_1 : (-32768 ≤ p0.toInt ∧ p0.toInt ≤ 32767) := w_1
    refine lv_if_eq (tgt := 19) hx hb dX4_lost_4 (by decide) (fun c_2 => ?_) (fun c_2 => ?_)
    · exact absurd c_2 (by decide)
    · refine lv_aload_n hx hb dX4_lost_7 rfl (lv_at hl 0 rfl) ?_
      refine va_get (D := (dC, dI)) (ci := 4) (v := .ref h_row) (C := RX4) (T := TX4) (N := 9) hx hb hts hi_4 hown hK hP 0 rfl rfl 0 (by decide) hf_12 (fun _ h9 => h9) rfl dX4_lost_8 ?_
      refine lv_iload_n hx hb dX4_lost_11 rfl (lv_at hl 2 rfl) ?_
      refine lv_iload_n hx hb dX4_lost_12 rfl (lv_at hl 3 rfl) ?_
      have hPc := hP.sub (ws' := [(h_row, .inr (0, [.ref h_cell, .int 0]))]) [1] rfl
      have hKc := hK.sub (tys' := []) [] rfl
      refine vp_callSi (W.runV (As := [.int p1, .int p2]) (rest := []) ⟨hx, hb, hml, hown, hts⟩ (c_X0_hasRange l dC dI h_row h_cell 0 p1 p2) (cwV 2 hts gX4_lost_X0_hasRange rfl rfl rfl (by decide +kernel) ⟨Nat.le_of_ble_eq_true rfl, Nat.le_of_ble_eq_true rfl⟩) ⟨fun a U g mk q => by obtain ⟨q0, qP, qK⟩ := q; exact ⟨q0, qP, va_K.moved (u := U) (U := U.calling g mk a) (Vm.Alike.refl U.vm) qK⟩, va_recv hKc hPc (ci := 0) (q0 := 0) rfl rfl, fun U hU hW => ⟨rfl, by rw [hU]; exact hPc, va_K.moved hW.alike hKc⟩⟩ rfl rfl hl.1 rfl (lv_room (Nat.le_of_ble_eq_true rfl)) dX4_lost_13 ⟨Nat.le_of_ble_eq_true rfl, Nat.le_of_ble_eq_true rfl⟩) (fun r_3 w_3 => ?_)
      rcases w_3 with ⟨rfl, w_3⟩ | ⟨rfl, w_3⟩
      · have w_3 : (0 ≤ p1.toInt ∧ p1.toInt < p2.toInt ∧ p2.toInt ≤ 0) := w_3
        exfalso; omega
      · have w_3 : (p1.toInt < 0 ∨ p2.toInt ≤ p1.toInt ∨ 0 < p2.toInt) := w_3
        refine lv_if_ne (tgt := 21) hx hb dX4_lost_16 (by decide) (fun c_4 => ?_) (fun c_4 => ?_)
        · exact absurd c_4 (by decide)
        · refine lv_iconst (v := (-1)) hx hb dX4_lost_19 (by decide) ?_
          exact W.iret (v := (-1)) hx hb hr (fun t ht hW => ⟨(-1), rfl, rfl, ht⟩) (fun q hq => by cases hq) dX4_lost_20
  · have w_1 : (p0.toInt < -32768 ∨ 32767 < p0.toInt) := w_1
    refine lv_if_eq (tgt := 19) hx hb dX4_lost_4 (by decide) (fun c_5 => ?_) (fun c_5 => ?_)
    · refine lv_iconst (v := (-1)) hx hb dX4_lost_19 (by decide) ?_
      exact W.iret (v := (-1)) hx hb hr (fun t ht hW => ⟨(-1), rfl, rfl, ht⟩) (fun q hq => by cases hq) dX4_lost_20
    · exact absurd c_5 (by decide)

set_option maxHeartbeats 4000000 in
set_option maxRecDepth 100000 in
/-- surely on a fresh object -/
theorem c_X4_surely (l : Launch) (dC : Nat → ClassId) (dI : Nat → Nat → Nat) (h0 : Nat) (h_row : Nat) (h_tree : Nat) (h_tally : Nat) (h_votes : Nat) (h_otherVotes : Nat) (h_wins : Nat) (h_fewest : Nat) (h_cell : Nat) (p0 : Int32) (p1 : Int32) : Met l yX4_surely wsX4_surely ({ frames := 1, cells := 0, slots := 0, locals := 45 }) (va_Pc [.ref h0, .int p0, .int p1] (fun U => va_P (dC, dI) vwCl [(h0, .inr (4, [.ref h_row, .ref h_tree, .ref h_tally, .ref h_votes, .ref h_otherVotes, .ref h_wins, .ref h_fewest, .int 2, .int 1])), (h_row, .inr (0, [.ref h_cell, .int 0]))] U.heap ∧ va_K (dC, dI) vwCl [] U)) (vp_Si (fun r : Int32 => r = (-40000))) 0 0 (fun _ => False) := by
  refine Met.ofW (cc := cX4_surely) (maxL := 4) (ret := (some .int)) (by decide) rfl ?_
  intro p e s m args below meth c s₁ B hml hv
  obtain ⟨rfl, hP, hK⟩ := hv
  have hx := B.exec
  have hb := B.bytes
  have hr := B.returns
  have hts := atoms_spec (ws := wsX4_surely) B.pre
  have hown : s.vm.findClass RX4 = some m.cls := findClass_of_methodNamed B.named
  have hlocks := B.notSynchronized
  have hP : va_P (dC, dI) vwCl [(h0, .inr (4, [.ref h_row, .ref h_tree, .ref h_tally, .ref h_votes, .ref h_otherVotes, .ref h_wins, .ref h_fewest, .int 2, .int 1])), (h_row, .inr (0, [.ref h_cell, .int 0]))] s.heap := hP
  have hl := lv_entry ([.ref h0, .int p0, .int p1]) (n := 4) (Nat.le_of_ble_eq_true rfl)
  rw [lg_entry_eq]
  generalize (lg_sl ([.ref h0, .int p0, .int p1]) ++ List.replicate (4 - (lg_sl ([.ref h0, .int p0, .int p1])).length) Slot.unset).toArray = ls at hl ⊢
  have hl : lv_has ls 4 [(0, .ref h0), (1, .int p0), (2, .int p1)] := hl
  have hf_12 := hts (.fieldLink RX4 12 "MajorityIndex" "row" "LMajorityIndex$Row;") (by decide +kernel)
  have hi_4 : ∀ w ∈ u_ws RX4 TX4 9, w ∈ wsX4_surely := by decide +kernel
  have hk_102 := hts (.constant RX4 102 (-40000)) (by decide +kernel)
  refine lv_aload_n hx hb dX4_surely_0 rfl (lv_at hl 0 rfl) ?_
  refine va_get (D := (dC, dI)) (ci := 4) (v := .ref h_row) (C := RX4) (T := TX4) (N := 9) hx hb hts hi_4 hown hK hP 0 rfl rfl 0 (by decide) hf_12 (fun _ h9 => h9) rfl dX4_surely_1 ?_
  refine lv_iload_n hx hb dX4_surely_4 rfl (lv_at hl 1 rfl) ?_
  refine lv_iload_n hx hb dX4_surely_5 rfl (lv_at hl 2 rfl) ?_
  have hPc := hP.sub (ws' := [(h_row, .inr (0, [.ref h_cell, .int 0]))]) [1] rfl
  have hKc := hK.sub (tys' := []) [] rfl
  refine vp_callSi (W.runV (As := [.int p0, .int p1]) (rest := []) ⟨hx, hb, hml, hown, hts⟩ (c_X0_hasRange l dC dI h_row h_cell 0 p0 p1) (cwV 2 hts gX4_surely_X0_hasRange rfl rfl rfl (by decide +kernel) ⟨Nat.le_of_ble_eq_true rfl, Nat.le_of_ble_eq_true rfl⟩) ⟨fun a U g mk q => by obtain ⟨q0, qP, qK⟩ := q; exact ⟨q0, qP, va_K.moved (u := U) (U := U.calling g mk a) (Vm.Alike.refl U.vm) qK⟩, va_recv hKc hPc (ci := 0) (q0 := 0) rfl rfl, fun U hU hW => ⟨rfl, by rw [hU]; exact hPc, va_K.moved hW.alike hKc⟩⟩ rfl rfl hl.1 rfl (lv_room (Nat.le_of_ble_eq_true rfl)) dX4_surely_6 ⟨Nat.le_of_ble_eq_true rfl, Nat.le_of_ble_eq_true rfl⟩) (fun r_1 w_1 => ?_)
  rcases w_1 with ⟨rfl, w_1⟩ | ⟨rfl, w_1⟩
  · have w_1 : (0 ≤ p0.toInt ∧ p0.toInt < p1.toInt ∧ p1.toInt ≤ 0) := w_1
    exfalso; omega
  · have w_1 : (p0.toInt < 0 ∨ p1.toInt ≤ p0.toInt ∨ 0 < p1.toInt) := w_1
    refine lv_if_ne (tgt := 15) hx hb dX4_surely_9 (by decide) (fun c_2 => ?_) (fun c_2 => ?_)
    · exact absurd c_2 (by decide)
    · refine lv_ldc (v := (-40000)) hx hb hown hk_102 dX4_surely_12 ?_
      exact W.iret (v := (-40000)) hx hb hr (fun t ht hW => ⟨(-40000), rfl, rfl, ht⟩) (fun q hq => by cases hq) dX4_surely_14

set_option maxHeartbeats 4000000 in
set_option maxRecDepth 100000 in
/-- heavy on a fresh object -/
theorem c_X4_heavy (l : Launch) (dC : Nat → ClassId) (dI : Nat → Nat → Nat) (h0 : Nat) (h_row : Nat) (h_tree : Nat) (h_tally : Nat) (h_votes : Nat) (h_otherVotes : Nat) (h_wins : Nat) (h_fewest : Nat) (h_cell : Nat) (p0 : Int32) (p1 : Int32) (p2 : Int32) (p3 : Int32) : Met l yX4_heavy wsX4_heavy ({ frames := 1, cells := 0, slots := 0, locals := 45 }) (va_Pc [.ref h0, .int p0, .int p1, .int p2, .int p3] (fun U => va_P (dC, dI) vwCl [(h0, .inr (4, [.ref h_row, .ref h_tree, .ref h_tally, .ref h_votes, .ref h_otherVotes, .ref h_wins, .ref h_fewest, .int 2, .int 1])), (h_row, .inr (0, [.ref h_cell, .int 0]))] U.heap ∧ va_K (dC, dI) vwCl [] U)) (vp_Si (fun r : Int32 => r = (-1))) 0 0 (fun _ => False) := by
  refine Met.ofW (cc := cX4_heavy) (maxL := 5) (ret := (some .int)) (by decide) rfl ?_
  intro p e s m args below meth c s₁ B hml hv
  obtain ⟨rfl, hP, hK⟩ := hv
  have hx := B.exec
  have hb := B.bytes
  have hr := B.returns
  have hts := atoms_spec (ws := wsX4_heavy) B.pre
  have hown : s.vm.findClass RX4 = some m.cls := findClass_of_methodNamed B.named
  have hlocks := B.notSynchronized
  have hP : va_P (dC, dI) vwCl [(h0, .inr (4, [.ref h_row, .ref h_tree, .ref h_tally, .ref h_votes, .ref h_otherVotes, .ref h_wins, .ref h_fewest, .int 2, .int 1])), (h_row, .inr (0, [.ref h_cell, .int 0]))] s.heap := hP
  have hl := lv_entry ([.ref h0, .int p0, .int p1, .int p2, .int p3]) (n := 5) (Nat.le_of_ble_eq_true rfl)
  rw [lg_entry_eq]
  generalize (lg_sl ([.ref h0, .int p0, .int p1, .int p2, .int p3]) ++ List.replicate (5 - (lg_sl ([.ref h0, .int p0, .int p1, .int p2, .int p3])).length) Slot.unset).toArray = ls at hl ⊢
  have hl : lv_has ls 5 [(0, .ref h0), (1, .int p0), (2, .int p1), (3, .int p2), (4, .int p3)] := hl
  have hf_12 := hts (.fieldLink RX4 12 "MajorityIndex" "row" "LMajorityIndex$Row;") (by decide +kernel)
  have hi_4 : ∀ w ∈ u_ws RX4 TX4 9, w ∈ wsX4_heavy := by decide +kernel
  refine lv_aload_n hx hb dX4_heavy_0 rfl (lv_at hl 0 rfl) ?_
  refine va_get (D := (dC, dI)) (ci := 4) (v := .ref h_row) (C := RX4) (T := TX4) (N := 9) hx hb hts hi_4 hown hK hP 0 rfl rfl 0 (by decide) hf_12 (fun _ h9 => h9) rfl dX4_heavy_1 ?_
  refine lv_iload_n hx hb dX4_heavy_4 rfl (lv_at hl 1 rfl) ?_
  refine lv_iload_n hx hb dX4_heavy_5 rfl (lv_at hl 2 rfl) ?_
  have hPc := hP.sub (ws' := [(h_row, .inr (0, [.ref h_cell, .int 0]))]) [1] rfl
  have hKc := hK.sub (tys' := []) [] rfl
  refine vp_callSi (W.runV (As := [.int p0, .int p1]) (rest := []) ⟨hx, hb, hml, hown, hts⟩ (c_X0_hasRange l dC dI h_row h_cell 0 p0 p1) (cwV 2 hts gX4_heavy_X0_hasRange rfl rfl rfl (by decide +kernel) ⟨Nat.le_of_ble_eq_true rfl, Nat.le_of_ble_eq_true rfl⟩) ⟨fun a U g mk q => by obtain ⟨q0, qP, qK⟩ := q; exact ⟨q0, qP, va_K.moved (u := U) (U := U.calling g mk a) (Vm.Alike.refl U.vm) qK⟩, va_recv hKc hPc (ci := 0) (q0 := 0) rfl rfl, fun U hU hW => ⟨rfl, by rw [hU]; exact hPc, va_K.moved hW.alike hKc⟩⟩ rfl rfl hl.1 rfl (lv_room (Nat.le_of_ble_eq_true rfl)) dX4_heavy_6 ⟨Nat.le_of_ble_eq_true rfl, Nat.le_of_ble_eq_true rfl⟩) (fun r_1 w_1 => ?_)
  rcases w_1 with ⟨rfl, w_1⟩ | ⟨rfl, w_1⟩
  · have w_1 : (0 ≤ p0.toInt ∧ p0.toInt < p1.toInt ∧ p1.toInt ≤ 0) := w_1
    exfalso; omega
  · have w_1 : (p0.toInt < 0 ∨ p1.toInt ≤ p0.toInt ∨ 0 < p1.toInt) := w_1
    refine lv_if_eq (tgt := 21) hx hb dX4_heavy_9 (by decide) (fun c_2 => ?_) (fun c_2 => ?_)
    · refine lv_iconst (v := (-1)) hx hb dX4_heavy_21 (by decide) ?_
      exact W.iret (v := (-1)) hx hb hr (fun t ht hW => ⟨(-1), rfl, rfl, ht⟩) (fun q hq => by cases hq) dX4_heavy_22
    · exact absurd c_2 (by decide)

set_option maxHeartbeats 4000000 in
set_option maxRecDepth 100000 in
/-- failed on a fresh object -/
theorem c_X4_failed (l : Launch) (dC : Nat → ClassId) (dI : Nat → Nat → Nat) (h0 : Nat) (h_row : Nat) (h_tree : Nat) (h_tally : Nat) (h_votes : Nat) (h_otherVotes : Nat) (h_wins : Nat) (h_fewest : Nat) (h_cell : Nat) (p0 : Int32) (p1 : Int32) (p2 : Int32) (p3 : Int32) : Met l yX4_failed wsX4_failed ({ frames := 1, cells := 0, slots := 0, locals := 45 }) (va_Pc [.ref h0, .int p0, .int p1, .int p2, .int p3] (fun U => va_P (dC, dI) vwCl [(h0, .inr (4, [.ref h_row, .ref h_tree, .ref h_tally, .ref h_votes, .ref h_otherVotes, .ref h_wins, .ref h_fewest, .int 2, .int 1])), (h_row, .inr (0, [.ref h_cell, .int 0]))] U.heap ∧ va_K (dC, dI) vwCl [] U)) (vp_Si (fun r : Int32 => r = (-1))) 0 0 (fun _ => False) := by
  refine Met.ofW (cc := cX4_failed) (maxL := 7) (ret := (some .int)) (by decide) rfl ?_
  intro p e s m args below meth c s₁ B hml hv
  obtain ⟨rfl, hP, hK⟩ := hv
  have hx := B.exec
  have hb := B.bytes
  have hr := B.returns
  have hts := atoms_spec (ws := wsX4_failed) B.pre
  have hown : s.vm.findClass RX4 = some m.cls := findClass_of_methodNamed B.named
  have hlocks := B.notSynchronized
  have hP : va_P (dC, dI) vwCl [(h0, .inr (4, [.ref h_row, .ref h_tree, .ref h_tally, .ref h_votes, .ref h_otherVotes, .ref h_wins, .ref h_fewest, .int 2, .int 1])), (h_row, .inr (0, [.ref h_cell, .int 0]))] s.heap := hP
  have hl := lv_entry ([.ref h0, .int p0, .int p1, .int p2, .int p3]) (n := 7) (Nat.le_of_ble_eq_true rfl)
  rw [lg_entry_eq]
  generalize (lg_sl ([.ref h0, .int p0, .int p1, .int p2, .int p3]) ++ List.replicate (7 - (lg_sl ([.ref h0, .int p0, .int p1, .int p2, .int p3])).length) Slot.unset).toArray = ls at hl ⊢
  have hl : lv_has ls 7 [(0, .ref h0), (1, .int p0), (2, .int p1), (3, .int p2), (4, .int p3)] := hl
  have hf_12 := hts (.fieldLink RX4 12 "MajorityIndex" "row" "LMajorityIndex$Row;") (by decide +kernel)
  have hi_4 : ∀ w ∈ u_ws RX4 TX4 9, w ∈ wsX4_failed := by decide +kernel
  refine lv_aload_n hx hb dX4_failed_0 rfl (lv_at hl 0 rfl) ?_
  refine va_get (D := (dC, dI)) (ci := 4) (v := .ref h_row) (C := RX4) (T := TX4) (N := 9) hx hb hts hi_4 hown hK hP 0 rfl rfl 0 (by decide) hf_12 (fun _ h9 => h9) rfl dX4_failed_1 ?_
  refine lv_iload_n hx hb dX4_failed_4 rfl (lv_at hl 1 rfl) ?_
  refine lv_iload_n hx hb dX4_failed_5 rfl (lv_at hl 2 rfl) ?_
  have hPc := hP.sub (ws' := [(h_row, .inr (0, [.ref h_cell, .int 0]))]) [1] rfl
  have hKc := hK.sub (tys' := []) [] rfl
  refine vp_callSi (W.runV (As := [.int p0, .int p1]) (rest := []) ⟨hx, hb, hml, hown, hts⟩ (c_X0_hasRange l dC dI h_row h_cell 0 p0 p1) (cwV 2 hts gX4_failed_X0_hasRange rfl rfl rfl (by decide +kernel) ⟨Nat.le_of_ble_eq_true rfl, Nat.le_of_ble_eq_true rfl⟩) ⟨fun a U g mk q => by obtain ⟨q0, qP, qK⟩ := q; exact ⟨q0, qP, va_K.moved (u := U) (U := U.calling g mk a) (Vm.Alike.refl U.vm) qK⟩, va_recv hKc hPc (ci := 0) (q0 := 0) rfl rfl, fun U hU hW => ⟨rfl, by rw [hU]; exact hPc, va_K.moved hW.alike hKc⟩⟩ rfl rfl hl.1 rfl (lv_room (Nat.le_of_ble_eq_true rfl)) dX4_failed_6 ⟨Nat.le_of_ble_eq_true rfl, Nat.le_of_ble_eq_true rfl⟩) (fun r_1 w_1 => ?_)
  rcases w_1 with ⟨rfl, w_1⟩ | ⟨rfl, w_1⟩
  · have w_1 : (0 ≤ p0.toInt ∧ p0.toInt < p1.toInt ∧ p1.toInt ≤ 0) := w_1
    exfalso; omega
  · have w_1 : (p0.toInt < 0 ∨ p1.toInt ≤ p0.toInt ∨ 0 < p1.toInt) := w_1
    refine lv_if_eq (tgt := 21) hx hb dX4_failed_9 (by decide) (fun c_2 => ?_) (fun c_2 => ?_)
    · refine lv_iconst (v := (-1)) hx hb dX4_failed_21 (by decide) ?_
      exact W.iret (v := (-1)) hx hb hr (fun t ht hW => ⟨(-1), rfl, rfl, ht⟩) (fun q hq => by cases hq) dX4_failed_22
    · exact absurd c_2 (by decide)

set_option maxHeartbeats 4000000 in
set_option maxRecDepth 100000 in
/-- least on a fresh object -/
theorem c_X4_least (l : Launch) (dC : Nat → ClassId) (dI : Nat → Nat → Nat) (h0 : Nat) (h_row : Nat) (h_tree : Nat) (h_tally : Nat) (h_votes : Nat) (h_otherVotes : Nat) (h_wins : Nat) (h_fewest : Nat) (h_cell : Nat) (p0 : Int32) (p1 : Int32) (p2 : Int32) (p3 : Int32) : Met l yX4_least wsX4_least ({ frames := 1, cells := 0, slots := 0, locals := 45 }) (va_Pc [.ref h0, .int p0, .int p1, .int p2, .int p3] (fun U => va_P (dC, dI) vwCl [(h0, .inr (4, [.ref h_row, .ref h_tree, .ref h_tally, .ref h_votes, .ref h_otherVotes, .ref h_wins, .ref h_fewest, .int 2, .int 1])), (h_row, .inr (0, [.ref h_cell, .int 0]))] U.heap ∧ va_K (dC, dI) vwCl [] U)) (vp_Si (fun r : Int32 => r = (-1))) 0 0 (fun _ => False) := by
  refine Met.ofW (cc := cX4_least) (maxL := 9) (ret := (some .int)) (by decide) rfl ?_
  intro p e s m args below meth c s₁ B hml hv
  obtain ⟨rfl, hP, hK⟩ := hv
  have hx := B.exec
  have hb := B.bytes
  have hr := B.returns
  have hts := atoms_spec (ws := wsX4_least) B.pre
  have hown : s.vm.findClass RX4 = some m.cls := findClass_of_methodNamed B.named
  have hlocks := B.notSynchronized
  have hP : va_P (dC, dI) vwCl [(h0, .inr (4, [.ref h_row, .ref h_tree, .ref h_tally, .ref h_votes, .ref h_otherVotes, .ref h_wins, .ref h_fewest, .int 2, .int 1])), (h_row, .inr (0, [.ref h_cell, .int 0]))] s.heap := hP
  have hl := lv_entry ([.ref h0, .int p0, .int p1, .int p2, .int p3]) (n := 9) (Nat.le_of_ble_eq_true rfl)
  rw [lg_entry_eq]
  generalize (lg_sl ([.ref h0, .int p0, .int p1, .int p2, .int p3]) ++ List.replicate (9 - (lg_sl ([.ref h0, .int p0, .int p1, .int p2, .int p3])).length) Slot.unset).toArray = ls at hl ⊢
  have hl : lv_has ls 9 [(0, .ref h0), (1, .int p0), (2, .int p1), (3, .int p2), (4, .int p3)] := hl
  have hf_12 := hts (.fieldLink RX4 12 "MajorityIndex" "row" "LMajorityIndex$Row;") (by decide +kernel)
  have hi_4 : ∀ w ∈ u_ws RX4 TX4 9, w ∈ wsX4_least := by decide +kernel
  refine lv_aload_n hx hb dX4_least_0 rfl (lv_at hl 0 rfl) ?_
  refine va_get (D := (dC, dI)) (ci := 4) (v := .ref h_row) (C := RX4) (T := TX4) (N := 9) hx hb hts hi_4 hown hK hP 0 rfl rfl 0 (by decide) hf_12 (fun _ h9 => h9) rfl dX4_least_1 ?_
  refine lv_iload_n hx hb dX4_least_4 rfl (lv_at hl 1 rfl) ?_
  refine lv_iload_n hx hb dX4_least_5 rfl (lv_at hl 2 rfl) ?_
  have hPc := hP.sub (ws' := [(h_row, .inr (0, [.ref h_cell, .int 0]))]) [1] rfl
  have hKc := hK.sub (tys' := []) [] rfl
  refine vp_callSi (W.runV (As := [.int p0, .int p1]) (rest := []) ⟨hx, hb, hml, hown, hts⟩ (c_X0_hasRange l dC dI h_row h_cell 0 p0 p1) (cwV 2 hts gX4_least_X0_hasRange rfl rfl rfl (by decide +kernel) ⟨Nat.le_of_ble_eq_true rfl, Nat.le_of_ble_eq_true rfl⟩) ⟨fun a U g mk q => by obtain ⟨q0, qP, qK⟩ := q; exact ⟨q0, qP, va_K.moved (u := U) (U := U.calling g mk a) (Vm.Alike.refl U.vm) qK⟩, va_recv hKc hPc (ci := 0) (q0 := 0) rfl rfl, fun U hU hW => ⟨rfl, by rw [hU]; exact hPc, va_K.moved hW.alike hKc⟩⟩ rfl rfl hl.1 rfl (lv_room (Nat.le_of_ble_eq_true rfl)) dX4_least_6 ⟨Nat.le_of_ble_eq_true rfl, Nat.le_of_ble_eq_true rfl⟩) (fun r_1 w_1 => ?_)
  rcases w_1 with ⟨rfl, w_1⟩ | ⟨rfl, w_1⟩
  · have w_1 : (0 ≤ p0.toInt ∧ p0.toInt < p1.toInt ∧ p1.toInt ≤ 0) := w_1
    exfalso; omega
  · have w_1 : (p0.toInt < 0 ∨ p1.toInt ≤ p0.toInt ∨ 0 < p1.toInt) := w_1
    refine lv_if_eq (tgt := 29) hx hb dX4_least_9 (by decide) (fun c_2 => ?_) (fun c_2 => ?_)
    · refine lv_iconst (v := (-1)) hx hb dX4_least_29 (by decide) ?_
      exact W.iret (v := (-1)) hx hb hr (fun t ht hW => ⟨(-1), rfl, rfl, ht⟩) (fun q hq => by cases hq) dX4_least_30
    · exact absurd c_2 (by decide)

set_option maxHeartbeats 4000000 in
set_option maxRecDepth 100000 in
/-- majority on a fresh object -/
theorem c_X4_majority (l : Launch) (dC : Nat → ClassId) (dI : Nat → Nat → Nat) (h0 : Nat) (h_row : Nat) (h_tree : Nat) (h_tally : Nat) (h_votes : Nat) (h_otherVotes : Nat) (h_wins : Nat) (h_fewest : Nat) (h_cell : Nat) (p0 : Int32) (p1 : Int32) : Met l yX4_majority wsX4_majority ({ frames := 1, cells := 0, slots := 0, locals := 45 }) (va_Pc [.ref h0, .int p0, .int p1] (fun U => va_P (dC, dI) vwCl [(h0, .inr (4, [.ref h_row, .ref h_tree, .ref h_tally, .ref h_votes, .ref h_otherVotes, .ref h_wins, .ref h_fewest, .int 2, .int 1])), (h_row, .inr (0, [.ref h_cell, .int 0]))] U.heap ∧ va_K (dC, dI) vwCl [] U)) (vp_Si (fun r : Int32 => r = (-40000))) 0 0 (fun _ => False) := by
  refine Met.ofW (cc := cX4_majority) (maxL := 3) (ret := (some .int)) (by decide) rfl ?_
  intro p e s m args below meth c s₁ B hml hv
  obtain ⟨rfl, hP, hK⟩ := hv
  have hx := B.exec
  have hb := B.bytes
  have hr := B.returns
  have hts := atoms_spec (ws := wsX4_majority) B.pre
  have hown : s.vm.findClass RX4 = some m.cls := findClass_of_methodNamed B.named
  have hlocks := B.notSynchronized
  have hP : va_P (dC, dI) vwCl [(h0, .inr (4, [.ref h_row, .ref h_tree, .ref h_tally, .ref h_votes, .ref h_otherVotes, .ref h_wins, .ref h_fewest, .int 2, .int 1])), (h_row, .inr (0, [.ref h_cell, .int 0]))] s.heap := hP
  have hl := lv_entry ([.ref h0, .int p0, .int p1]) (n := 3) (Nat.le_of_ble_eq_true rfl)
  rw [lg_entry_eq]
  generalize (lg_sl ([.ref h0, .int p0, .int p1]) ++ List.replicate (3 - (lg_sl ([.ref h0, .int p0, .int p1])).length) Slot.unset).toArray = ls at hl ⊢
  have hl : lv_has ls 3 [(0, .ref h0), (1, .int p0), (2, .int p1)] := hl
  have hf_12 := hts (.fieldLink RX4 12 "MajorityIndex" "row" "LMajorityIndex$Row;") (by decide +kernel)
  have hi_4 : ∀ w ∈ u_ws RX4 TX4 9, w ∈ wsX4_majority := by decide +kernel
  have hk_102 := hts (.constant RX4 102 (-40000)) (by decide +kernel)
  refine lv_aload_n hx hb dX4_majority_0 rfl (lv_at hl 0 rfl) ?_
  refine va_get (D := (dC, dI)) (ci := 4) (v := .ref h_row) (C := RX4) (T := TX4) (N := 9) hx hb hts hi_4 hown hK hP 0 rfl rfl 0 (by decide) hf_12 (fun _ h9 => h9) rfl dX4_majority_1 ?_
  refine lv_iload_n hx hb dX4_majority_4 rfl (lv_at hl 1 rfl) ?_
  refine lv_iload_n hx hb dX4_majority_5 rfl (lv_at hl 2 rfl) ?_
  have hPc := hP.sub (ws' := [(h_row, .inr (0, [.ref h_cell, .int 0]))]) [1] rfl
  have hKc := hK.sub (tys' := []) [] rfl
  refine vp_callSi (W.runV (As := [.int p0, .int p1]) (rest := []) ⟨hx, hb, hml, hown, hts⟩ (c_X0_hasRange l dC dI h_row h_cell 0 p0 p1) (cwV 2 hts gX4_majority_X0_hasRange rfl rfl rfl (by decide +kernel) ⟨Nat.le_of_ble_eq_true rfl, Nat.le_of_ble_eq_true rfl⟩) ⟨fun a U g mk q => by obtain ⟨q0, qP, qK⟩ := q; exact ⟨q0, qP, va_K.moved (u := U) (U := U.calling g mk a) (Vm.Alike.refl U.vm) qK⟩, va_recv hKc hPc (ci := 0) (q0 := 0) rfl rfl, fun U hU hW => ⟨rfl, by rw [hU]; exact hPc, va_K.moved hW.alike hKc⟩⟩ rfl rfl hl.1 rfl (lv_room (Nat.le_of_ble_eq_true rfl)) dX4_majority_6 ⟨Nat.le_of_ble_eq_true rfl, Nat.le_of_ble_eq_true rfl⟩) (fun r_1 w_1 => ?_)
  rcases w_1 with ⟨rfl, w_1⟩ | ⟨rfl, w_1⟩
  · have w_1 : (0 ≤ p0.toInt ∧ p0.toInt < p1.toInt ∧ p1.toInt ≤ 0) := w_1
    exfalso; omega
  · have w_1 : (p0.toInt < 0 ∨ p1.toInt ≤ p0.toInt ∨ 0 < p1.toInt) := w_1
    refine lv_if_eq (tgt := 24) hx hb dX4_majority_9 (by decide) (fun c_2 => ?_) (fun c_2 => ?_)
    · refine lv_ldc (v := (-40000)) hx hb hown hk_102 dX4_majority_24 ?_
      exact W.iret (v := (-40000)) hx hb hr (fun t ht hW => ⟨(-40000), rfl, rfl, ht⟩) (fun q hq => by cases hq) dX4_majority_26
    · exact absurd c_2 (by decide)

set_option maxHeartbeats 4000000 in
set_option maxRecDepth 100000 in
/-- margin on a fresh object -/
theorem c_X4_margin (l : Launch) (dC : Nat → ClassId) (dI : Nat → Nat → Nat) (h0 : Nat) (h_row : Nat) (h_tree : Nat) (h_tally : Nat) (h_votes : Nat) (h_otherVotes : Nat) (h_wins : Nat) (h_fewest : Nat) (h_cell : Nat) (p0 : Int32) (p1 : Int32) (p2 : Int32) : Met l yX4_margin wsX4_margin ({ frames := 1, cells := 0, slots := 0, locals := 45 }) (va_Pc [.ref h0, .int p0, .int p1, .int p2] (fun U => va_P (dC, dI) vwCl [(h0, .inr (4, [.ref h_row, .ref h_tree, .ref h_tally, .ref h_votes, .ref h_otherVotes, .ref h_wins, .ref h_fewest, .int 2, .int 1])), (h_row, .inr (0, [.ref h_cell, .int 0]))] U.heap ∧ va_K (dC, dI) vwCl [] U)) (vp_Si (fun r : Int32 => r = (-40000))) 0 0 (fun _ => False) := by
  refine Met.ofW (cc := cX4_margin) (maxL := 4) (ret := (some .int)) (by decide) rfl ?_
  intro p e s m args below meth c s₁ B hml hv
  obtain ⟨rfl, hP, hK⟩ := hv
  have hx := B.exec
  have hb := B.bytes
  have hr := B.returns
  have hts := atoms_spec (ws := wsX4_margin) B.pre
  have hown : s.vm.findClass RX4 = some m.cls := findClass_of_methodNamed B.named
  have hlocks := B.notSynchronized
  have hP : va_P (dC, dI) vwCl [(h0, .inr (4, [.ref h_row, .ref h_tree, .ref h_tally, .ref h_votes, .ref h_otherVotes, .ref h_wins, .ref h_fewest, .int 2, .int 1])), (h_row, .inr (0, [.ref h_cell, .int 0]))] s.heap := hP
  have hl := lv_entry ([.ref h0, .int p0, .int p1, .int p2]) (n := 4) (Nat.le_of_ble_eq_true rfl)
  rw [lg_entry_eq]
  generalize (lg_sl ([.ref h0, .int p0, .int p1, .int p2]) ++ List.replicate (4 - (lg_sl ([.ref h0, .int p0, .int p1, .int p2])).length) Slot.unset).toArray = ls at hl ⊢
  have hl : lv_has ls 4 [(0, .ref h0), (1, .int p0), (2, .int p1), (3, .int p2)] := hl
  have hf_12 := hts (.fieldLink RX4 12 "MajorityIndex" "row" "LMajorityIndex$Row;") (by decide +kernel)
  have hi_4 : ∀ w ∈ u_ws RX4 TX4 9, w ∈ wsX4_margin := by decide +kernel
  have hk_102 := hts (.constant RX4 102 (-40000)) (by decide +kernel)
  refine lv_iload_n hx hb dX4_margin_0 rfl (lv_at hl 1 rfl) ?_
  have hPc := hP.sub (ws' := []) [] rfl
  have hKc := hK.sub (tys' := []) [] rfl
  refine vp_callSi (W.runS (As := [.int p0]) (rest := []) ⟨hx, hb, hml, hown, hts⟩ (c_X4_isValue l dC dI p0) (va_cwS 1 hts gX4_margin_X4_isValue rfl rfl rfl (by decide +kernel) ⟨Nat.le_of_ble_eq_true rfl, Nat.le_of_ble_eq_true rfl⟩) ⟨fun a U g mk q => by obtain ⟨q0, qP, qK⟩ := q; exact ⟨q0, qP, va_K.moved (u := U) (U := U.calling g mk a) (Vm.Alike.refl U.vm) qK⟩, fun U hU hW => ⟨rfl, by rw [hU]; exact hPc, va_K.moved hW.alike hKc⟩⟩ rfl rfl hl.1 rfl (lv_room (Nat.le_of_ble_eq_true rfl)) dX4_margin_1 ⟨Nat.le_of_ble_eq_true rfl, Nat.le_of_ble_eq_true rfl⟩) (fun r_1 w_1 => ?_)
  rcases w_1 with ⟨rfl, w_1⟩ | ⟨rfl, w_1⟩
  · have w_1 : (-32768 ≤ p0.toInt ∧ p0.toInt ≤ 32767) := w_1
    refine lv_if_eq (tgt := 19) hx hb dX4_margin_4 (by decide) (fun c_2 => ?_) (fun c_2 => ?_)
    · exact absurd c_2 (by decide)
    · refine lv_aload_n hx hb dX4_margin_7 rfl (lv_at hl 0 rfl) ?_
      refine va_get (D := (dC, dI)) (ci := 4) (v := .ref h_row) (C := RX4) (T := TX4) (N := 9) hx hb hts hi_4 hown hK hP 0 rfl rfl 0 (by decide) hf_12 (fun _ h9 => h9) rfl dX4_margin_8 ?_
      refine lv_iload_n hx hb dX4_margin_11 rfl (lv_at hl 2 rfl) ?_
      refine lv_iload_n hx hb dX4_margin_12 rfl (lv_at hl 3 rfl) ?_
      have hPc := hP.sub (ws' := [(h_row, .inr (0, [.ref h_cell, .int 0]))]) [1] rfl
      have hKc := hK.sub (tys' := []) [] rfl
      refine vp_callSi (W.runV (As := [.int p1, .int p2]) (rest := []) ⟨hx, hb, hml, hown, hts⟩ (c_X0_hasRange l dC dI h_row h_cell 0 p1 p2) (cwV 2 hts gX4_margin_X0_hasRange rfl rfl rfl (by decide +kernel) ⟨Nat.le_of_ble_eq_true rfl, Nat.le_of_ble_eq_true rfl⟩) ⟨fun a U g mk q => by obtain ⟨q0, qP, qK⟩ := q; exact ⟨q0, qP, va_K.moved (u := U) (U := U.calling g mk a) (Vm.Alike.refl U.vm) qK⟩, va_recv hKc hPc (ci := 0) (q0 := 0) rfl rfl, fun U hU hW => ⟨rfl, by rw [hU]; exact hPc, va_K.moved hW.alike hKc⟩⟩ rfl rfl hl.1 rfl (lv_room (Nat.le_of_ble_eq_true rfl)) dX4_margin_13 ⟨Nat.le_of_ble_eq_true rfl, Nat.le_of_ble_eq_true rfl⟩) (fun r_3 w_3 => ?_)
      rcases w_3 with ⟨rfl, w_3⟩ | ⟨rfl, w_3⟩
      · have w_3 : (0 ≤ p1.toInt ∧ p1.toInt < p2.toInt ∧ p2.toInt ≤ 0) := w_3
        exfalso; omega
      · have w_3 : (p1.toInt < 0 ∨ p2.toInt ≤ p1.toInt ∨ 0 < p2.toInt) := w_3
        refine lv_if_ne (tgt := 22) hx hb dX4_margin_16 (by decide) (fun c_4 => ?_) (fun c_4 => ?_)
        · exact absurd c_4 (by decide)
        · refine lv_ldc (v := (-40000)) hx hb hown hk_102 dX4_margin_19 ?_
          exact W.iret (v := (-40000)) hx hb hr (fun t ht hW => ⟨(-40000), rfl, rfl, ht⟩) (fun q hq => by cases hq) dX4_margin_21
  · have w_1 : (p0.toInt < -32768 ∨ 32767 < p0.toInt) := w_1
    refine lv_if_eq (tgt := 19) hx hb dX4_margin_4 (by decide) (fun c_5 => ?_) (fun c_5 => ?_)
    · refine lv_ldc (v := (-40000)) hx hb hown hk_102 dX4_margin_19 ?_
      exact W.iret (v := (-40000)) hx hb hr (fun t ht hW => ⟨(-40000), rfl, rfl, ht⟩) (fun q hq => by cases hq) dX4_margin_21
    · exact absurd c_5 (by decide)

set_option maxHeartbeats 4000000 in
set_option maxRecDepth 100000 in
/-- both on a fresh object -/
theorem c_X4_both (l : Launch) (dC : Nat → ClassId) (dI : Nat → Nat → Nat) (h0 : Nat) (h_row : Nat) (h_tree : Nat) (h_tally : Nat) (h_votes : Nat) (h_otherVotes : Nat) (h_wins : Nat) (h_fewest : Nat) (h_cell : Nat) (p0 : Int32) (p1 : Int32) (p2 : Int32) (p3 : Int32) (p4 : Int32) (p5 : Int32) : Met l yX4_both wsX4_both ({ frames := 2, cells := 0, slots := 0, locals := 90 }) (va_Pc [.ref h0, .int p0, .int p1, .int p2, .int p3, .int p4, .int p5] (fun U => va_P (dC, dI) vwCl [(h0, .inr (4, [.ref h_row, .ref h_tree, .ref h_tally, .ref h_votes, .ref h_otherVotes, .ref h_wins, .ref h_fewest, .int 2, .int 1])), (h_row, .inr (0, [.ref h_cell, .int 0]))] U.heap ∧ va_K (dC, dI) vwCl [] U)) (vp_Si (fun r : Int32 => r = (-1))) 0 0 (fun _ => False) := by
  refine Met.ofW (cc := cX4_both) (maxL := 8) (ret := (some .int)) (by decide) rfl ?_
  intro p e s m args below meth c s₁ B hml hv
  obtain ⟨rfl, hP, hK⟩ := hv
  have hx := B.exec
  have hb := B.bytes
  have hr := B.returns
  have hts := atoms_spec (ws := wsX4_both) B.pre
  have hown : s.vm.findClass RX4 = some m.cls := findClass_of_methodNamed B.named
  have hlocks := B.notSynchronized
  have hP : va_P (dC, dI) vwCl [(h0, .inr (4, [.ref h_row, .ref h_tree, .ref h_tally, .ref h_votes, .ref h_otherVotes, .ref h_wins, .ref h_fewest, .int 2, .int 1])), (h_row, .inr (0, [.ref h_cell, .int 0]))] s.heap := hP
  have hl := lv_entry ([.ref h0, .int p0, .int p1, .int p2, .int p3, .int p4, .int p5]) (n := 8) (Nat.le_of_ble_eq_true rfl)
  rw [lg_entry_eq]
  generalize (lg_sl ([.ref h0, .int p0, .int p1, .int p2, .int p3, .int p4, .int p5]) ++ List.replicate (8 - (lg_sl ([.ref h0, .int p0, .int p1, .int p2, .int p3, .int p4, .int p5])).length) Slot.unset).toArray = ls at hl ⊢
  have hl : lv_has ls 8 [(0, .ref h0), (1, .int p0), (2, .int p1), (3, .int p2), (4, .int p3), (5, .int p4), (6, .int p5)] := hl
  refine lv_aload_n hx hb dX4_both_0 rfl (lv_at hl 0 rfl) ?_
  refine lv_iload_n hx hb dX4_both_1 rfl (lv_at hl 1 rfl) ?_
  refine lv_iload_n hx hb dX4_both_2 rfl (lv_at hl 2 rfl) ?_
  refine lv_iload_n hx hb dX4_both_3 rfl (lv_at hl 3 rfl) ?_
  refine lv_iload hx hb dX4_both_4 (lv_at hl 4 rfl) ?_
  refine lv_iload hx hb dX4_both_6 (lv_at hl 5 rfl) ?_
  refine lv_iload hx hb dX4_both_8 (lv_at hl 6 rfl) ?_
  have hPc := hP.sub (ws' := [(h0, .inr (4, [.ref h_row, .ref h_tree, .ref h_tally, .ref h_votes, .ref h_otherVotes, .ref h_wins, .ref h_fewest, .int 2, .int 1])), (h_row, .inr (0, [.ref h_cell, .int 0]))]) [0, 1] rfl
  have hKc := hK.sub (tys' := []) [] rfl
  refine vp_callSi (W.runV (As := [.int p0, .int p1, .int p2, .int p3, .int p4, .int p5]) (rest := []) ⟨hx, hb, hml, hown, hts⟩ (c_X4_refusalOfBoth l dC dI h0 h_row h_tree h_tally h_votes h_otherVotes h_wins h_fewest h_cell p0 p1 p2 p3 p4 p5) (cwV 6 hts gX4_both_X4_refusalOfBoth rfl rfl rfl (by decide +kernel) ⟨Nat.le_of_ble_eq_true rfl, Nat.le_of_ble_eq_true rfl⟩) ⟨fun a U g mk q => by obtain ⟨q0, qP, qK⟩ := q; exact ⟨q0, qP, va_K.moved (u := U) (U := U.calling g mk a) (Vm.Alike.refl U.vm) qK⟩, va_recv hKc hPc (ci := 4) (q0 := 0) rfl rfl, fun U hU hW => ⟨rfl, by rw [hU]; exact hPc, va_K.moved hW.alike hKc⟩⟩ rfl rfl hl.1 rfl (lv_room (Nat.le_of_ble_eq_true rfl)) dX4_both_10 ⟨Nat.le_of_ble_eq_true rfl, Nat.le_of_ble_eq_true rfl⟩) (fun r_1 w_1 => ?_)
  subst w_1
  refine lv_istore (lv' := [(7, .int (-1)), (0, .ref h0), (1, .int p0), (2, .int p1), (3, .int p2), (4, .int p3), (5, .int p4), (6, .int p5)]) hx hb dX4_both_13 hl (by decide) rfl (fun ls hl => ?_)
  refine lv_iload hx hb dX4_both_15 (lv_at hl 0 rfl) ?_
  refine lv_if_eq (tgt := 23) hx hb dX4_both_17 (by decide) (fun c_2 => ?_) (fun c_2 => ?_)
  · exact absurd c_2 (by decide)
  · refine lv_iload hx hb dX4_both_20 (lv_at hl 0 rfl) ?_
    exact W.iret (v := (-1)) hx hb hr (fun t ht hW => ⟨(-1), rfl, rfl, ht⟩) (fun q hq => by cases hq) dX4_both_22

set_option maxHeartbeats 4000000 in
set_option maxRecDepth 100000 in
/-- bothAt on a fresh object -/
theorem c_X4_bothAt (l : Launch) (dC : Nat → ClassId) (dI : Nat → Nat → Nat) (h0 : Nat) (h_row : Nat) (h_tree : Nat) (h_tally : Nat) (h_votes : Nat) (h_otherVotes : Nat) (h_wins : Nat) (h_fewest : Nat) (h_cell : Nat) (p0 : Int32) (p1 : Int32) (p2 : Int32) (p3 : Int32) (p4 : Int32) (p5 : Int32) (p6 : Int32) : Met l yX4_bothAt wsX4_bothAt ({ frames := 2, cells := 0, slots := 0, locals := 90 }) (va_Pc [.ref h0, .int p0, .int p1, .int p2, .int p3, .int p4, .int p5, .int p6] (fun U => va_P (dC, dI) vwCl [(h0, .inr (4, [.ref h_row, .ref h_tree, .ref h_tally, .ref h_votes, .ref h_otherVotes, .ref h_wins, .ref h_fewest, .int 2, .int 1])), (h_row, .inr (0, [.ref h_cell, .int 0]))] U.heap ∧ va_K (dC, dI) vwCl [] U)) (vp_Si (fun r : Int32 => r = (-40000))) 0 0 (fun _ => False) := by
  refine Met.ofW (cc := cX4_bothAt) (maxL := 8) (ret := (some .int)) (by decide) rfl ?_
  intro p e s m args below meth c s₁ B hml hv
  obtain ⟨rfl, hP, hK⟩ := hv
  have hx := B.exec
  have hb := B.bytes
  have hr := B.returns
  have hts := atoms_spec (ws := wsX4_bothAt) B.pre
  have hown : s.vm.findClass RX4 = some m.cls := findClass_of_methodNamed B.named
  have hlocks := B.notSynchronized
  have hP : va_P (dC, dI) vwCl [(h0, .inr (4, [.ref h_row, .ref h_tree, .ref h_tally, .ref h_votes, .ref h_otherVotes, .ref h_wins, .ref h_fewest, .int 2, .int 1])), (h_row, .inr (0, [.ref h_cell, .int 0]))] s.heap := hP
  have hl := lv_entry ([.ref h0, .int p0, .int p1, .int p2, .int p3, .int p4, .int p5, .int p6]) (n := 8) (Nat.le_of_ble_eq_true rfl)
  rw [lg_entry_eq]
  generalize (lg_sl ([.ref h0, .int p0, .int p1, .int p2, .int p3, .int p4, .int p5, .int p6]) ++ List.replicate (8 - (lg_sl ([.ref h0, .int p0, .int p1, .int p2, .int p3, .int p4, .int p5, .int p6])).length) Slot.unset).toArray = ls at hl ⊢
  have hl : lv_has ls 8 [(0, .ref h0), (1, .int p0), (2, .int p1), (3, .int p2), (4, .int p3), (5, .int p4), (6, .int p5), (7, .int p6)] := hl
  have hk_102 := hts (.constant RX4 102 (-40000)) (by decide +kernel)
  refine lv_iload hx hb dX4_bothAt_0 (lv_at hl 7 rfl) ?_
  refine lv_if_lt (tgt := 21) hx hb dX4_bothAt_2 (by decide) (fun c_1 => ?_) (fun c_1 => ?_)
  · have i_1 : p6.toInt < 0 := kc_lt c_1
    refine lv_ldc (v := (-40000)) hx hb hown hk_102 dX4_bothAt_21 ?_
    exact W.iret (v := (-40000)) hx hb hr (fun t ht hW => ⟨(-40000), rfl, rfl, ht⟩) (fun q hq => by cases hq) dX4_bothAt_23
  · have i_1 : 0 ≤ p6.toInt := kc_nlt c_1
    refine lv_aload_n hx hb dX4_bothAt_5 rfl (lv_at hl 0 rfl) ?_
    refine lv_iload_n hx hb dX4_bothAt_6 rfl (lv_at hl 1 rfl) ?_
    refine lv_iload_n hx hb dX4_bothAt_7 rfl (lv_at hl 2 rfl) ?_
    refine lv_iload_n hx hb dX4_bothAt_8 rfl (lv_at hl 3 rfl) ?_
    refine lv_iload hx hb dX4_bothAt_9 (lv_at hl 4 rfl) ?_
    refine lv_iload hx hb dX4_bothAt_11 (lv_at hl 5 rfl) ?_
    refine lv_iload hx hb dX4_bothAt_13 (lv_at hl 6 rfl) ?_
    have hPc := hP.sub (ws' := [(h0, .inr (4, [.ref h_row, .ref h_tree, .ref h_tally, .ref h_votes, .ref h_otherVotes, .ref h_wins, .ref h_fewest, .int 2, .int 1])), (h_row, .inr (0, [.ref h_cell, .int 0]))]) [0, 1] rfl
    have hKc := hK.sub (tys' := []) [] rfl
    refine vp_callSi (W.runV (As := [.int p0, .int p1, .int p2, .int p3, .int p4, .int p5]) (rest := []) ⟨hx, hb, hml, hown, hts⟩ (c_X4_refusalOfBoth l dC dI h0 h_row h_tree h_tally h_votes h_otherVotes h_wins h_fewest h_cell p0 p1 p2 p3 p4 p5) (cwV 6 hts gX4_bothAt_X4_refusalOfBoth rfl rfl rfl (by decide +kernel) ⟨Nat.le_of_ble_eq_true rfl, Nat.le_of_ble_eq_true rfl⟩) ⟨fun a U g mk q => by obtain ⟨q0, qP, qK⟩ := q; exact ⟨q0, qP, va_K.moved (u := U) (U := U.calling g mk a) (Vm.Alike.refl U.vm) qK⟩, va_recv hKc hPc (ci := 4) (q0 := 0) rfl rfl, fun U hU hW => ⟨rfl, by rw [hU]; exact hPc, va_K.moved hW.alike hKc⟩⟩ rfl rfl hl.1 rfl (lv_room (Nat.le_of_ble_eq_true rfl)) dX4_bothAt_15 ⟨Nat.le_of_ble_eq_true rfl, Nat.le_of_ble_eq_true rfl⟩) (fun r_2 w_2 => ?_)
    subst w_2
    refine lv_if_eq (tgt := 24) hx hb dX4_bothAt_18 (by decide) (fun c_3 => ?_) (fun c_3 => ?_)
    · exact absurd c_3 (by decide)
    · refine lv_ldc (v := (-40000)) hx hb hown hk_102 dX4_bothAt_21 ?_
      exact W.iret (v := (-40000)) hx hb hr (fun t ht hW => ⟨(-40000), rfl, rfl, ht⟩) (fun q hq => by cases hq) dX4_bothAt_23

set_option maxHeartbeats 4000000 in
set_option maxRecDepth 100000 in
/-- longest on a fresh object -/
theorem c_X4_longest (l : Launch) (dC : Nat → ClassId) (dI : Nat → Nat → Nat) (h0 : Nat) (h_row : Nat) (h_tree : Nat) (h_tally : Nat) (h_votes : Nat) (h_otherVotes : Nat) (h_wins : Nat) (h_fewest : Nat) (h_cell : Nat) (p0 : Int32) (p1 : Int32) (p2 : Int32) (p3 : Int32) : Met l yX4_longest wsX4_longest ({ frames := 1, cells := 0, slots := 0, locals := 45 }) (va_Pc [.ref h0, .int p0, .int p1, .int p2, .int p3] (fun U => va_P (dC, dI) vwCl [(h0, .inr (4, [.ref h_row, .ref h_tree, .ref h_tally, .ref h_votes, .ref h_otherVotes, .ref h_wins, .ref h_fewest, .int 2, .int 1])), (h_row, .inr (0, [.ref h_cell, .int 0]))] U.heap ∧ va_K (dC, dI) vwCl [] U)) (vp_Si (fun r : Int32 => r = (-1))) 0 0 (fun _ => False) := by
  refine Met.ofW (cc := cX4_longest) (maxL := 9) (ret := (some .int)) (by decide) rfl ?_
  intro p e s m args below meth c s₁ B hml hv
  obtain ⟨rfl, hP, hK⟩ := hv
  have hx := B.exec
  have hb := B.bytes
  have hr := B.returns
  have hts := atoms_spec (ws := wsX4_longest) B.pre
  have hown : s.vm.findClass RX4 = some m.cls := findClass_of_methodNamed B.named
  have hlocks := B.notSynchronized
  have hP : va_P (dC, dI) vwCl [(h0, .inr (4, [.ref h_row, .ref h_tree, .ref h_tally, .ref h_votes, .ref h_otherVotes, .ref h_wins, .ref h_fewest, .int 2, .int 1])), (h_row, .inr (0, [.ref h_cell, .int 0]))] s.heap := hP
  have hl := lv_entry ([.ref h0, .int p0, .int p1, .int p2, .int p3]) (n := 9) (Nat.le_of_ble_eq_true rfl)
  rw [lg_entry_eq]
  generalize (lg_sl ([.ref h0, .int p0, .int p1, .int p2, .int p3]) ++ List.replicate (9 - (lg_sl ([.ref h0, .int p0, .int p1, .int p2, .int p3])).length) Slot.unset).toArray = ls at hl ⊢
  have hl : lv_has ls 9 [(0, .ref h0), (1, .int p0), (2, .int p1), (3, .int p2), (4, .int p3)] := hl
  have hf_12 := hts (.fieldLink RX4 12 "MajorityIndex" "row" "LMajorityIndex$Row;") (by decide +kernel)
  have hi_4 : ∀ w ∈ u_ws RX4 TX4 9, w ∈ wsX4_longest := by decide +kernel
  have hf_57 := hts (.fieldLink RX4 57 "MajorityIndex$Row" "length" "I") (by decide +kernel)
  have hi_0 : ∀ w ∈ u_ws RX0 TX0 2, w ∈ wsX4_longest := by decide +kernel
  refine lv_iload_n hx hb dX4_longest_0 rfl (lv_at hl 1 rfl) ?_
  have hPc := hP.sub (ws' := []) [] rfl
  have hKc := hK.sub (tys' := []) [] rfl
  refine vp_callSi (W.runS (As := [.int p0]) (rest := []) ⟨hx, hb, hml, hown, hts⟩ (c_X4_isValue l dC dI p0) (va_cwS 1 hts gX4_longest_X4_isValue rfl rfl rfl (by decide +kernel) ⟨Nat.le_of_ble_eq_true rfl, Nat.le_of_ble_eq_true rfl⟩) ⟨fun a U g mk q => by obtain ⟨q0, qP, qK⟩ := q; exact ⟨q0, qP, va_K.moved (u := U) (U := U.calling g mk a) (Vm.Alike.refl U.vm) qK⟩, fun U hU hW => ⟨rfl, by rw [hU]; exact hPc, va_K.moved hW.alike hKc⟩⟩ rfl rfl hl.1 rfl (lv_room (Nat.le_of_ble_eq_true rfl)) dX4_longest_1 ⟨Nat.le_of_ble_eq_true rfl, Nat.le_of_ble_eq_true rfl⟩) (fun r_1 w_1 => ?_)
  rcases w_1 with ⟨rfl, w_1⟩ | ⟨rfl, w_1⟩
  · have w_1 : (-32768 ≤ p0.toInt ∧ p0.toInt ≤ 32767) := w_1
    refine lv_if_eq (tgt := 26) hx hb dX4_longest_4 (by decide) (fun c_2 => ?_) (fun c_2 => ?_)
    · exact absurd c_2 (by decide)
    · refine lv_iload_n hx hb dX4_longest_7 rfl (lv_at hl 2 rfl) ?_
      refine lv_iload_n hx hb dX4_longest_8 rfl (lv_at hl 3 rfl) ?_
      have hPc := hP.sub (ws' := []) [] rfl
      have hKc := hK.sub (tys' := []) [] rfl
      refine vp_callSi (W.runS (As := [.int p1, .int p2]) (rest := []) ⟨hx, hb, hml, hown, hts⟩ (c_X4_isShare l dC dI p1 p2) (va_cwS 2 hts gX4_longest_X4_isShare rfl rfl rfl (by decide +kernel) ⟨Nat.le_of_ble_eq_true rfl, Nat.le_of_ble_eq_true rfl⟩) ⟨fun a U g mk q => by obtain ⟨q0, qP, qK⟩ := q; exact ⟨q0, qP, va_K.moved (u := U) (U := U.calling g mk a) (Vm.Alike.refl U.vm) qK⟩, fun U hU hW => ⟨rfl, by rw [hU]; exact hPc, va_K.moved hW.alike hKc⟩⟩ rfl rfl hl.1 rfl (lv_room (Nat.le_of_ble_eq_true rfl)) dX4_longest_9 ⟨Nat.le_of_ble_eq_true rfl, Nat.le_of_ble_eq_true rfl⟩) (fun r_3 w_3 => ?_)
      rcases w_3 with ⟨rfl, w_3⟩ | ⟨rfl, w_3⟩
      · have w_3 : (1 ≤ p1.toInt ∧ p1.toInt ≤ p2.toInt ∧ p2.toInt ≤ 999) := w_3
        refine lv_if_eq (tgt := 26) hx hb dX4_longest_12 (by decide) (fun c_4 => ?_) (fun c_4 => ?_)
        · exact absurd c_4 (by decide)
        · refine lv_iload hx hb dX4_longest_15 (lv_at hl 4 rfl) ?_
          refine lv_if_lt (tgt := 26) hx hb dX4_longest_17 (by decide) (fun c_5 => ?_) (fun c_5 => ?_)
          · have i_5 : p3.toInt < 0 := kc_lt c_5
            refine lv_iconst (v := (-1)) hx hb dX4_longest_26 (by decide) ?_
            exact W.iret (v := (-1)) hx hb hr (fun t ht hW => ⟨(-1), rfl, rfl, ht⟩) (fun q hq => by cases hq) dX4_longest_27
          · have i_5 : 0 ≤ p3.toInt := kc_nlt c_5
            refine lv_iload hx hb dX4_longest_20 (lv_at hl 4 rfl) ?_
            refine lv_iconst (v := 1) hx hb dX4_longest_22 (by decide) ?_
            refine lv_icmp_le (tgt := 28) hx hb dX4_longest_23 (by decide) (fun c_6 => ?_) (fun c_6 => ?_)
            · have i_6 : p3.toInt ≤ 1 := kc_le c_6
              refine lv_iconst (v := (-1)) hx hb dX4_longest_28 (by decide) ?_
              refine lv_istore (lv' := [(5, .int (-1)), (0, .ref h0), (1, .int p0), (2, .int p1), (3, .int p2), (4, .int p3)]) hx hb dX4_longest_29 hl (by decide) rfl (fun ls hl => ?_)
              refine lv_iconst (v := (-1)) hx hb dX4_longest_31 (by decide) ?_
              refine lv_istore (lv' := [(6, .int (-1)), (5, .int (-1)), (0, .ref h0), (1, .int p0), (2, .int p1), (3, .int p2), (4, .int p3)]) hx hb dX4_longest_32 hl (by decide) rfl (fun ls hl => ?_)
              refine lv_iconst (v := 0) hx hb dX4_longest_34 (by decide) ?_
              refine lv_istore (lv' := [(7, .int 0), (6, .int (-1)), (5, .int (-1)), (0, .ref h0), (1, .int p0), (2, .int p1), (3, .int p2), (4, .int p3)]) hx hb dX4_longest_35 hl (by decide) rfl (fun ls hl => ?_)
              refine lv_iload hx hb dX4_longest_37 (lv_at hl 0 rfl) ?_
              refine lv_aload_n hx hb dX4_longest_39 rfl (lv_at hl 3 rfl) ?_
              refine va_get (D := (dC, dI)) (ci := 4) (v := .ref h_row) (C := RX4) (T := TX4) (N := 9) hx hb hts hi_4 hown hK hP 0 rfl rfl 0 (by decide) hf_12 (fun _ h9 => h9) rfl dX4_longest_40 ?_
              refine va_get (D := (dC, dI)) (ci := 0) (v := .int 0) (C := RX0) (T := TX0) (N := 2) hx hb hts hi_0 hown hK hP 1 rfl rfl 1 (by decide) hf_57 (fun _ h9 => h9) rfl dX4_longest_43 ?_
              refine lv_icmp_ge (tgt := 93) hx hb dX4_longest_46 (by decide) (fun c_7 => ?_) (fun c_7 => ?_)
              · refine lv_iload hx hb dX4_longest_93 (lv_at hl 7 rfl) ?_
                refine lv_if_ne (tgt := 103) hx hb dX4_longest_95 (by decide) (fun c_8 => ?_) (fun c_8 => ?_)
                · have i_8 : ¬ p3.toInt = 0 := kc_ne c_8
                  refine lv_iload hx hb dX4_longest_103 (lv_at hl 1 rfl) ?_
                  exact W.iret (v := (-1)) hx hb hr (fun t ht hW => ⟨(-1), rfl, rfl, ht⟩) (fun q hq => by cases hq) dX4_longest_105
                · have i_8 : p3.toInt = 0 := kc_eq c_8
                  refine lv_iload hx hb dX4_longest_98 (lv_at hl 2 rfl) ?_
                  refine lv_goto (tgt := 105) hx hb dX4_longest_100 (by decide) ?_
                  exact W.iret (v := (-1)) hx hb hr (fun t ht hW => ⟨(-1), rfl, rfl, ht⟩) (fun q hq => by cases hq) dX4_longest_105
              · exact absurd c_7 (by decide)
            · have i_6 : 1 < p3.toInt := kc_nle c_6
              refine lv_iconst (v := (-1)) hx hb dX4_longest_26 (by decide) ?_
              exact W.iret (v := (-1)) hx hb hr (fun t ht hW => ⟨(-1), rfl, rfl, ht⟩) (fun q hq => by cases hq) dX4_longest_27
      · have w_3 : (p1.toInt < 1 ∨ p2.toInt < p1.toInt ∨ 999 < p2.toInt) := w_3
        refine lv_if_eq (tgt := 26) hx hb dX4_longest_12 (by decide) (fun c_9 => ?_) (fun c_9 => ?_)
        · refine lv_iconst (v := (-1)) hx hb dX4_longest_26 (by decide) ?_
          exact W.iret (v := (-1)) hx hb hr (fun t ht hW => ⟨(-1), rfl, rfl, ht⟩) (fun q hq => by cases hq) dX4_longest_27
        · exact absurd c_9 (by decide)
  · have w_1 : (p0.toInt < -32768 ∨ 32767 < p0.toInt) := w_1
    refine lv_if_eq (tgt := 26) hx hb dX4_longest_4 (by decide) (fun c_10 => ?_) (fun c_10 => ?_)
    · refine lv_iconst (v := (-1)) hx hb dX4_longest_26 (by decide) ?_
      exact W.iret (v := (-1)) hx hb hr (fun t ht hW => ⟨(-1), rfl, rfl, ht⟩) (fun q hq => by cases hq) dX4_longest_27
    · exact absurd c_10 (by decide)

set_option maxHeartbeats 4000000 in
set_option maxRecDepth 100000 in
/-- reach on a fresh object -/
theorem c_X4_reach (l : Launch) (dC : Nat → ClassId) (dI : Nat → Nat → Nat) (h0 : Nat) (h_row : Nat) (h_tree : Nat) (h_tally : Nat) (h_votes : Nat) (h_otherVotes : Nat) (h_wins : Nat) (h_fewest : Nat) (h_cell : Nat) (p0 : Int32) : Met l yX4_reach wsX4_reach ({ frames := 1, cells := 0, slots := 0, locals := 45 }) (va_Pc [.ref h0, .int p0] (fun U => va_P (dC, dI) vwCl [(h0, .inr (4, [.ref h_row, .ref h_tree, .ref h_tally, .ref h_votes, .ref h_otherVotes, .ref h_wins, .ref h_fewest, .int 2, .int 1])), (h_row, .inr (0, [.ref h_cell, .int 0]))] U.heap ∧ va_K (dC, dI) vwCl [] U)) (vp_Si (fun r : Int32 => r = (-1))) 0 0 (fun _ => False) := by
  refine Met.ofW (cc := cX4_reach) (maxL := 4) (ret := (some .int)) (by decide) rfl ?_
  intro p e s m args below meth c s₁ B hml hv
  obtain ⟨rfl, hP, hK⟩ := hv
  have hx := B.exec
  have hb := B.bytes
  have hr := B.returns
  have hts := atoms_spec (ws := wsX4_reach) B.pre
  have hown : s.vm.findClass RX4 = some m.cls := findClass_of_methodNamed B.named
  have hlocks := B.notSynchronized
  have hP : va_P (dC, dI) vwCl [(h0, .inr (4, [.ref h_row, .ref h_tree, .ref h_tally, .ref h_votes, .ref h_otherVotes, .ref h_wins, .ref h_fewest, .int 2, .int 1])), (h_row, .inr (0, [.ref h_cell, .int 0]))] s.heap := hP
  have hl := lv_entry ([.ref h0, .int p0]) (n := 4) (Nat.le_of_ble_eq_true rfl)
  rw [lg_entry_eq]
  generalize (lg_sl ([.ref h0, .int p0]) ++ List.replicate (4 - (lg_sl ([.ref h0, .int p0])).length) Slot.unset).toArray = ls at hl ⊢
  have hl : lv_has ls 4 [(0, .ref h0), (1, .int p0)] := hl
  have hf_12 := hts (.fieldLink RX4 12 "MajorityIndex" "row" "LMajorityIndex$Row;") (by decide +kernel)
  have hi_4 : ∀ w ∈ u_ws RX4 TX4 9, w ∈ wsX4_reach := by decide +kernel
  refine lv_aload_n hx hb dX4_reach_0 rfl (lv_at hl 0 rfl) ?_
  refine va_get (D := (dC, dI)) (ci := 4) (v := .ref h_row) (C := RX4) (T := TX4) (N := 9) hx hb hts hi_4 hown hK hP 0 rfl rfl 0 (by decide) hf_12 (fun _ h9 => h9) rfl dX4_reach_1 ?_
  refine lv_iload_n hx hb dX4_reach_4 rfl (lv_at hl 1 rfl) ?_
  have hPc := hP.sub (ws' := [(h_row, .inr (0, [.ref h_cell, .int 0]))]) [1] rfl
  have hKc := hK.sub (tys' := []) [] rfl
  refine vp_callSi (W.runV (As := [.int p0]) (rest := []) ⟨hx, hb, hml, hown, hts⟩ (c_X0_hasPlace l dC dI h_row h_cell 0 p0) (cwV 1 hts gX4_reach_X0_hasPlace rfl rfl rfl (by decide +kernel) ⟨Nat.le_of_ble_eq_true rfl, Nat.le_of_ble_eq_true rfl⟩) ⟨fun a U g mk q => by obtain ⟨q0, qP, qK⟩ := q; exact ⟨q0, qP, va_K.moved (u := U) (U := U.calling g mk a) (Vm.Alike.refl U.vm) qK⟩, va_recv hKc hPc (ci := 0) (q0 := 0) rfl rfl, fun U hU hW => ⟨rfl, by rw [hU]; exact hPc, va_K.moved hW.alike hKc⟩⟩ rfl rfl hl.1 rfl (lv_room (Nat.le_of_ble_eq_true rfl)) dX4_reach_5 ⟨Nat.le_of_ble_eq_true rfl, Nat.le_of_ble_eq_true rfl⟩) (fun r_1 w_1 => ?_)
  rcases w_1 with ⟨rfl, w_1⟩ | ⟨rfl, w_1⟩
  · have w_1 : (0 ≤ p0.toInt ∧ p0.toInt < 0) := w_1
    exfalso; omega
  · have w_1 : (p0.toInt < 0 ∨ 0 ≤ p0.toInt) := w_1
    refine lv_if_ne (tgt := 13) hx hb dX4_reach_8 (by decide) (fun c_2 => ?_) (fun c_2 => ?_)
    · exact absurd c_2 (by decide)
    · refine lv_iconst (v := (-1)) hx hb dX4_reach_11 (by decide) ?_
      exact W.iret (v := (-1)) hx hb hr (fun t ht hW => ⟨(-1), rfl, rfl, ht⟩) (fun q hq => by cases hq) dX4_reach_12

set_option maxHeartbeats 4000000 in
set_option maxRecDepth 100000 in
/-- parted on a fresh object -/
theorem c_X4_parted (l : Launch) (dC : Nat → ClassId) (dI : Nat → Nat → Nat) (h0 : Nat) (h_row : Nat) (h_tree : Nat) (h_tally : Nat) (h_votes : Nat) (h_otherVotes : Nat) (h_wins : Nat) (h_fewest : Nat) (h_cell : Nat) (p0 : Int32) (p1 : Int32) : Met l yX4_parted wsX4_parted ({ frames := 1, cells := 0, slots := 0, locals := 45 }) (va_Pc [.ref h0, .int p0, .int p1] (fun U => va_P (dC, dI) vwCl [(h0, .inr (4, [.ref h_row, .ref h_tree, .ref h_tally, .ref h_votes, .ref h_otherVotes, .ref h_wins, .ref h_fewest, .int 2, .int 1])), (h_row, .inr (0, [.ref h_cell, .int 0]))] U.heap ∧ va_K (dC, dI) vwCl [] U)) (vp_Si (fun r : Int32 => r = (-1))) 0 0 (fun _ => False) := by
  refine Met.ofW (cc := cX4_parted) (maxL := 5) (ret := (some .int)) (by decide) rfl ?_
  intro p e s m args below meth c s₁ B hml hv
  obtain ⟨rfl, hP, hK⟩ := hv
  have hx := B.exec
  have hb := B.bytes
  have hr := B.returns
  have hts := atoms_spec (ws := wsX4_parted) B.pre
  have hown : s.vm.findClass RX4 = some m.cls := findClass_of_methodNamed B.named
  have hlocks := B.notSynchronized
  have hP : va_P (dC, dI) vwCl [(h0, .inr (4, [.ref h_row, .ref h_tree, .ref h_tally, .ref h_votes, .ref h_otherVotes, .ref h_wins, .ref h_fewest, .int 2, .int 1])), (h_row, .inr (0, [.ref h_cell, .int 0]))] s.heap := hP
  have hl := lv_entry ([.ref h0, .int p0, .int p1]) (n := 5) (Nat.le_of_ble_eq_true rfl)
  rw [lg_entry_eq]
  generalize (lg_sl ([.ref h0, .int p0, .int p1]) ++ List.replicate (5 - (lg_sl ([.ref h0, .int p0, .int p1])).length) Slot.unset).toArray = ls at hl ⊢
  have hl : lv_has ls 5 [(0, .ref h0), (1, .int p0), (2, .int p1)] := hl
  have hf_12 := hts (.fieldLink RX4 12 "MajorityIndex" "row" "LMajorityIndex$Row;") (by decide +kernel)
  have hi_4 : ∀ w ∈ u_ws RX4 TX4 9, w ∈ wsX4_parted := by decide +kernel
  refine lv_aload_n hx hb dX4_parted_0 rfl (lv_at hl 0 rfl) ?_
  refine va_get (D := (dC, dI)) (ci := 4) (v := .ref h_row) (C := RX4) (T := TX4) (N := 9) hx hb hts hi_4 hown hK hP 0 rfl rfl 0 (by decide) hf_12 (fun _ h9 => h9) rfl dX4_parted_1 ?_
  refine lv_iload_n hx hb dX4_parted_4 rfl (lv_at hl 1 rfl) ?_
  refine lv_iload_n hx hb dX4_parted_5 rfl (lv_at hl 2 rfl) ?_
  have hPc := hP.sub (ws' := [(h_row, .inr (0, [.ref h_cell, .int 0]))]) [1] rfl
  have hKc := hK.sub (tys' := []) [] rfl
  refine vp_callSi (W.runV (As := [.int p0, .int p1]) (rest := []) ⟨hx, hb, hml, hown, hts⟩ (c_X0_hasRange l dC dI h_row h_cell 0 p0 p1) (cwV 2 hts gX4_parted_X0_hasRange rfl rfl rfl (by decide +kernel) ⟨Nat.le_of_ble_eq_true rfl, Nat.le_of_ble_eq_true rfl⟩) ⟨fun a U g mk q => by obtain ⟨q0, qP, qK⟩ := q; exact ⟨q0, qP, va_K.moved (u := U) (U := U.calling g mk a) (Vm.Alike.refl U.vm) qK⟩, va_recv hKc hPc (ci := 0) (q0 := 0) rfl rfl, fun U hU hW => ⟨rfl, by rw [hU]; exact hPc, va_K.moved hW.alike hKc⟩⟩ rfl rfl hl.1 rfl (lv_room (Nat.le_of_ble_eq_true rfl)) dX4_parted_6 ⟨Nat.le_of_ble_eq_true rfl, Nat.le_of_ble_eq_true rfl⟩) (fun r_1 w_1 => ?_)
  rcases w_1 with ⟨rfl, w_1⟩ | ⟨rfl, w_1⟩
  · have w_1 : (0 ≤ p0.toInt ∧ p0.toInt < p1.toInt ∧ p1.toInt ≤ 0) := w_1
    exfalso; omega
  · have w_1 : (p0.toInt < 0 ∨ p1.toInt ≤ p0.toInt ∨ 0 < p1.toInt) := w_1
    refine lv_if_ne (tgt := 14) hx hb dX4_parted_9 (by decide) (fun c_2 => ?_) (fun c_2 => ?_)
    · exact absurd c_2 (by decide)
    · refine lv_iconst (v := (-1)) hx hb dX4_parted_12 (by decide) ?_
      exact W.iret (v := (-1)) hx hb hr (fun t ht hW => ⟨(-1), rfl, rfl, ht⟩) (fun q hq => by cases hq) dX4_parted_13

set_option maxHeartbeats 4000000 in
set_option maxRecDepth 100000 in
/-- cut on a fresh object -/
theorem c_X4_cut (l : Launch) (dC : Nat → ClassId) (dI : Nat → Nat → Nat) (h0 : Nat) (h_row : Nat) (h_tree : Nat) (h_tally : Nat) (h_votes : Nat) (h_otherVotes : Nat) (h_wins : Nat) (h_fewest : Nat) (h_cell : Nat) (p0 : Int32) (p1 : Int32) : Met l yX4_cut wsX4_cut ({ frames := 1, cells := 0, slots := 0, locals := 45 }) (va_Pc [.ref h0, .int p0, .int p1] (fun U => va_P (dC, dI) vwCl [(h0, .inr (4, [.ref h_row, .ref h_tree, .ref h_tally, .ref h_votes, .ref h_otherVotes, .ref h_wins, .ref h_fewest, .int 2, .int 1])), (h_row, .inr (0, [.ref h_cell, .int 0]))] U.heap ∧ va_K (dC, dI) vwCl [] U)) (vp_Si (fun r : Int32 => r = (-1))) 0 0 (fun _ => False) := by
  refine Met.ofW (cc := cX4_cut) (maxL := 6) (ret := (some .int)) (by decide) rfl ?_
  intro p e s m args below meth c s₁ B hml hv
  obtain ⟨rfl, hP, hK⟩ := hv
  have hx := B.exec
  have hb := B.bytes
  have hr := B.returns
  have hts := atoms_spec (ws := wsX4_cut) B.pre
  have hown : s.vm.findClass RX4 = some m.cls := findClass_of_methodNamed B.named
  have hlocks := B.notSynchronized
  have hP : va_P (dC, dI) vwCl [(h0, .inr (4, [.ref h_row, .ref h_tree, .ref h_tally, .ref h_votes, .ref h_otherVotes, .ref h_wins, .ref h_fewest, .int 2, .int 1])), (h_row, .inr (0, [.ref h_cell, .int 0]))] s.heap := hP
  have hl := lv_entry ([.ref h0, .int p0, .int p1]) (n := 6) (Nat.le_of_ble_eq_true rfl)
  rw [lg_entry_eq]
  generalize (lg_sl ([.ref h0, .int p0, .int p1]) ++ List.replicate (6 - (lg_sl ([.ref h0, .int p0, .int p1])).length) Slot.unset).toArray = ls at hl ⊢
  have hl : lv_has ls 6 [(0, .ref h0), (1, .int p0), (2, .int p1)] := hl
  have hf_12 := hts (.fieldLink RX4 12 "MajorityIndex" "row" "LMajorityIndex$Row;") (by decide +kernel)
  have hi_4 : ∀ w ∈ u_ws RX4 TX4 9, w ∈ wsX4_cut := by decide +kernel
  refine lv_aload_n hx hb dX4_cut_0 rfl (lv_at hl 0 rfl) ?_
  refine va_get (D := (dC, dI)) (ci := 4) (v := .ref h_row) (C := RX4) (T := TX4) (N := 9) hx hb hts hi_4 hown hK hP 0 rfl rfl 0 (by decide) hf_12 (fun _ h9 => h9) rfl dX4_cut_1 ?_
  refine lv_iload_n hx hb dX4_cut_4 rfl (lv_at hl 1 rfl) ?_
  refine lv_iload_n hx hb dX4_cut_5 rfl (lv_at hl 2 rfl) ?_
  have hPc := hP.sub (ws' := [(h_row, .inr (0, [.ref h_cell, .int 0]))]) [1] rfl
  have hKc := hK.sub (tys' := []) [] rfl
  refine vp_callSi (W.runV (As := [.int p0, .int p1]) (rest := []) ⟨hx, hb, hml, hown, hts⟩ (c_X0_hasRange l dC dI h_row h_cell 0 p0 p1) (cwV 2 hts gX4_cut_X0_hasRange rfl rfl rfl (by decide +kernel) ⟨Nat.le_of_ble_eq_true rfl, Nat.le_of_ble_eq_true rfl⟩) ⟨fun a U g mk q => by obtain ⟨q0, qP, qK⟩ := q; exact ⟨q0, qP, va_K.moved (u := U) (U := U.calling g mk a) (Vm.Alike.refl U.vm) qK⟩, va_recv hKc hPc (ci := 0) (q0 := 0) rfl rfl, fun U hU hW => ⟨rfl, by rw [hU]; exact hPc, va_K.moved hW.alike hKc⟩⟩ rfl rfl hl.1 rfl (lv_room (Nat.le_of_ble_eq_true rfl)) dX4_cut_6 ⟨Nat.le_of_ble_eq_true rfl, Nat.le_of_ble_eq_true rfl⟩) (fun r_1 w_1 => ?_)
  rcases w_1 with ⟨rfl, w_1⟩ | ⟨rfl, w_1⟩
  · have w_1 : (0 ≤ p0.toInt ∧ p0.toInt < p1.toInt ∧ p1.toInt ≤ 0) := w_1
    exfalso; omega
  · have w_1 : (p0.toInt < 0 ∨ p1.toInt ≤ p0.toInt ∨ 0 < p1.toInt) := w_1
    refine lv_if_ne (tgt := 14) hx hb dX4_cut_9 (by decide) (fun c_2 => ?_) (fun c_2 => ?_)
    · exact absurd c_2 (by decide)
    · refine lv_iconst (v := (-1)) hx hb dX4_cut_12 (by decide) ?_
      exact W.iret (v := (-1)) hx hb hr (fun t ht hW => ⟨(-1), rfl, rfl, ht⟩) (fun q hq => by cases hq) dX4_cut_13

set_option maxHeartbeats 4000000 in
set_option maxRecDepth 100000 in
/-- needs on a fresh object -/
theorem c_X4_needs (l : Launch) (dC : Nat → ClassId) (dI : Nat → Nat → Nat) (h0 : Nat) (h_row : Nat) (h_tree : Nat) (h_tally : Nat) (h_votes : Nat) (h_otherVotes : Nat) (h_wins : Nat) (h_fewest : Nat) (h_cell : Nat) (p0 : Int32) (p1 : Int32) (p2 : Int32) (p3 : Int32) (p4 : Int32) : Met l yX4_needs wsX4_needs ({ frames := 1, cells := 0, slots := 0, locals := 45 }) (va_Pc [.ref h0, .int p0, .int p1, .int p2, .int p3, .int p4] (fun U => va_P (dC, dI) vwCl [(h0, .inr (4, [.ref h_row, .ref h_tree, .ref h_tally, .ref h_votes, .ref h_otherVotes, .ref h_wins, .ref h_fewest, .int 2, .int 1])), (h_row, .inr (0, [.ref h_cell, .int 0]))] U.heap ∧ va_K (dC, dI) vwCl [] U)) (vp_Si (fun r : Int32 => r = (-1))) 0 0 (fun _ => False) := by
  refine Met.ofW (cc := cX4_needs) (maxL := 7) (ret := (some .int)) (by decide) rfl ?_
  intro p e s m args below meth c s₁ B hml hv
  obtain ⟨rfl, hP, hK⟩ := hv
  have hx := B.exec
  have hb := B.bytes
  have hr := B.returns
  have hts := atoms_spec (ws := wsX4_needs) B.pre
  have hown : s.vm.findClass RX4 = some m.cls := findClass_of_methodNamed B.named
  have hlocks := B.notSynchronized
  have hP : va_P (dC, dI) vwCl [(h0, .inr (4, [.ref h_row, .ref h_tree, .ref h_tally, .ref h_votes, .ref h_otherVotes, .ref h_wins, .ref h_fewest, .int 2, .int 1])), (h_row, .inr (0, [.ref h_cell, .int 0]))] s.heap := hP
  have hl := lv_entry ([.ref h0, .int p0, .int p1, .int p2, .int p3, .int p4]) (n := 7) (Nat.le_of_ble_eq_true rfl)
  rw [lg_entry_eq]
  generalize (lg_sl ([.ref h0, .int p0, .int p1, .int p2, .int p3, .int p4]) ++ List.replicate (7 - (lg_sl ([.ref h0, .int p0, .int p1, .int p2, .int p3, .int p4])).length) Slot.unset).toArray = ls at hl ⊢
  have hl : lv_has ls 7 [(0, .ref h0), (1, .int p0), (2, .int p1), (3, .int p2), (4, .int p3), (5, .int p4)] := hl
  have hf_12 := hts (.fieldLink RX4 12 "MajorityIndex" "row" "LMajorityIndex$Row;") (by decide +kernel)
  have hi_4 : ∀ w ∈ u_ws RX4 TX4 9, w ∈ wsX4_needs := by decide +kernel
  refine lv_iload_n hx hb dX4_needs_0 rfl (lv_at hl 1 rfl) ?_
  have hPc := hP.sub (ws' := []) [] rfl
  have hKc := hK.sub (tys' := []) [] rfl
  refine vp_callSi (W.runS (As := [.int p0]) (rest := []) ⟨hx, hb, hml, hown, hts⟩ (c_X4_isValue l dC dI p0) (va_cwS 1 hts gX4_needs_X4_isValue rfl rfl rfl (by decide +kernel) ⟨Nat.le_of_ble_eq_true rfl, Nat.le_of_ble_eq_true rfl⟩) ⟨fun a U g mk q => by obtain ⟨q0, qP, qK⟩ := q; exact ⟨q0, qP, va_K.moved (u := U) (U := U.calling g mk a) (Vm.Alike.refl U.vm) qK⟩, fun U hU hW => ⟨rfl, by rw [hU]; exact hPc, va_K.moved hW.alike hKc⟩⟩ rfl rfl hl.1 rfl (lv_room (Nat.le_of_ble_eq_true rfl)) dX4_needs_1 ⟨Nat.le_of_ble_eq_true rfl, Nat.le_of_ble_eq_true rfl⟩) (fun r_1 w_1 => ?_)
  rcases w_1 with ⟨rfl, w_1⟩ | ⟨rfl, w_1⟩
  · have w_1 : (-32768 ≤ p0.toInt ∧ p0.toInt ≤ 32767) := w_1
    refine lv_if_eq (tgt := 29) hx hb dX4_needs_4 (by decide) (fun c_2 => ?_) (fun c_2 => ?_)
    · exact absurd c_2 (by decide)
    · refine lv_aload_n hx hb dX4_needs_7 rfl (lv_at hl 0 rfl) ?_
      refine va_get (D := (dC, dI)) (ci := 4) (v := .ref h_row) (C := RX4) (T := TX4) (N := 9) hx hb hts hi_4 hown hK hP 0 rfl rfl 0 (by decide) hf_12 (fun _ h9 => h9) rfl dX4_needs_8 ?_
      refine lv_iload_n hx hb dX4_needs_11 rfl (lv_at hl 2 rfl) ?_
      refine lv_iload_n hx hb dX4_needs_12 rfl (lv_at hl 3 rfl) ?_
      have hPc := hP.sub (ws' := [(h_row, .inr (0, [.ref h_cell, .int 0]))]) [1] rfl
      have hKc := hK.sub (tys' := []) [] rfl
      refine vp_callSi (W.runV (As := [.int p1, .int p2]) (rest := []) ⟨hx, hb, hml, hown, hts⟩ (c_X0_hasRange l dC dI h_row h_cell 0 p1 p2) (cwV 2 hts gX4_needs_X0_hasRange rfl rfl rfl (by decide +kernel) ⟨Nat.le_of_ble_eq_true rfl, Nat.le_of_ble_eq_true rfl⟩) ⟨fun a U g mk q => by obtain ⟨q0, qP, qK⟩ := q; exact ⟨q0, qP, va_K.moved (u := U) (U := U.calling g mk a) (Vm.Alike.refl U.vm) qK⟩, va_recv hKc hPc (ci := 0) (q0 := 0) rfl rfl, fun U hU hW => ⟨rfl, by rw [hU]; exact hPc, va_K.moved hW.alike hKc⟩⟩ rfl rfl hl.1 rfl (lv_room (Nat.le_of_ble_eq_true rfl)) dX4_needs_13 ⟨Nat.le_of_ble_eq_true rfl, Nat.le_of_ble_eq_true rfl⟩) (fun r_3 w_3 => ?_)
      rcases w_3 with ⟨rfl, w_3⟩ | ⟨rfl, w_3⟩
      · have w_3 : (0 ≤ p1.toInt ∧ p1.toInt < p2.toInt ∧ p2.toInt ≤ 0) := w_3
        exfalso; omega
      · have w_3 : (p1.toInt < 0 ∨ p2.toInt ≤ p1.toInt ∨ 0 < p2.toInt) := w_3
        refine lv_if_eq (tgt := 29) hx hb dX4_needs_16 (by decide) (fun c_4 => ?_) (fun c_4 => ?_)
        · refine lv_iconst (v := (-1)) hx hb dX4_needs_29 (by decide) ?_
          exact W.iret (v := (-1)) hx hb hr (fun t ht hW => ⟨(-1), rfl, rfl, ht⟩) (fun q hq => by cases hq) dX4_needs_30
        · exact absurd c_4 (by decide)
  · have w_1 : (p0.toInt < -32768 ∨ 32767 < p0.toInt) := w_1
    refine lv_if_eq (tgt := 29) hx hb dX4_needs_4 (by decide) (fun c_5 => ?_) (fun c_5 => ?_)
    · refine lv_iconst (v := (-1)) hx hb dX4_needs_29 (by decide) ?_
      exact W.iret (v := (-1)) hx hb hr (fun t ht hW => ⟨(-1), rfl, rfl, ht⟩) (fun q hq => by cases hq) dX4_needs_30
    · exact absurd c_5 (by decide)

set_option maxHeartbeats 4000000 in
set_option maxRecDepth 100000 in
/-- spares on a fresh object -/
theorem c_X4_spares (l : Launch) (dC : Nat → ClassId) (dI : Nat → Nat → Nat) (h0 : Nat) (h_row : Nat) (h_tree : Nat) (h_tally : Nat) (h_votes : Nat) (h_otherVotes : Nat) (h_wins : Nat) (h_fewest : Nat) (h_cell : Nat) (p0 : Int32) (p1 : Int32) (p2 : Int32) (p3 : Int32) (p4 : Int32) : Met l yX4_spares wsX4_spares ({ frames := 1, cells := 0, slots := 0, locals := 45 }) (va_Pc [.ref h0, .int p0, .int p1, .int p2, .int p3, .int p4] (fun U => va_P (dC, dI) vwCl [(h0, .inr (4, [.ref h_row, .ref h_tree, .ref h_tally, .ref h_votes, .ref h_otherVotes, .ref h_wins, .ref h_fewest, .int 2, .int 1])), (h_row, .inr (0, [.ref h_cell, .int 0]))] U.heap ∧ va_K (dC, dI) vwCl [] U)) (vp_Si (fun r : Int32 => r = (-1))) 0 0 (fun _ => False) := by
  refine Met.ofW (cc := cX4_spares) (maxL := 6) (ret := (some .int)) (by decide) rfl ?_
  intro p e s m args below meth c s₁ B hml hv
  obtain ⟨rfl, hP, hK⟩ := hv
  have hx := B.exec
  have hb := B.bytes
  have hr := B.returns
  have hts := atoms_spec (ws := wsX4_spares) B.pre
  have hown : s.vm.findClass RX4 = some m.cls := findClass_of_methodNamed B.named
  have hlocks := B.notSynchronized
  have hP : va_P (dC, dI) vwCl [(h0, .inr (4, [.ref h_row, .ref h_tree, .ref h_tally, .ref h_votes, .ref h_otherVotes, .ref h_wins, .ref h_fewest, .int 2, .int 1])), (h_row, .inr (0, [.ref h_cell, .int 0]))] s.heap := hP
  have hl := lv_entry ([.ref h0, .int p0, .int p1, .int p2, .int p3, .int p4]) (n := 6) (Nat.le_of_ble_eq_true rfl)
  rw [lg_entry_eq]
  generalize (lg_sl ([.ref h0, .int p0, .int p1, .int p2, .int p3, .int p4]) ++ List.replicate (6 - (lg_sl ([.ref h0, .int p0, .int p1, .int p2, .int p3, .int p4])).length) Slot.unset).toArray = ls at hl ⊢
  have hl : lv_has ls 6 [(0, .ref h0), (1, .int p0), (2, .int p1), (3, .int p2), (4, .int p3), (5, .int p4)] := hl
  have hf_12 := hts (.fieldLink RX4 12 "MajorityIndex" "row" "LMajorityIndex$Row;") (by decide +kernel)
  have hi_4 : ∀ w ∈ u_ws RX4 TX4 9, w ∈ wsX4_spares := by decide +kernel
  refine lv_iload_n hx hb dX4_spares_0 rfl (lv_at hl 1 rfl) ?_
  have hPc := hP.sub (ws' := []) [] rfl
  have hKc := hK.sub (tys' := []) [] rfl
  refine vp_callSi (W.runS (As := [.int p0]) (rest := []) ⟨hx, hb, hml, hown, hts⟩ (c_X4_isValue l dC dI p0) (va_cwS 1 hts gX4_spares_X4_isValue rfl rfl rfl (by decide +kernel) ⟨Nat.le_of_ble_eq_true rfl, Nat.le_of_ble_eq_true rfl⟩) ⟨fun a U g mk q => by obtain ⟨q0, qP, qK⟩ := q; exact ⟨q0, qP, va_K.moved (u := U) (U := U.calling g mk a) (Vm.Alike.refl U.vm) qK⟩, fun U hU hW => ⟨rfl, by rw [hU]; exact hPc, va_K.moved hW.alike hKc⟩⟩ rfl rfl hl.1 rfl (lv_room (Nat.le_of_ble_eq_true rfl)) dX4_spares_1 ⟨Nat.le_of_ble_eq_true rfl, Nat.le_of_ble_eq_true rfl⟩) (fun r_1 w_1 => ?_)
  rcases w_1 with ⟨rfl, w_1⟩ | ⟨rfl, w_1⟩
  · have w_1 : (-32768 ≤ p0.toInt ∧ p0.toInt ≤ 32767) := w_1
    refine lv_if_eq (tgt := 29) hx hb dX4_spares_4 (by decide) (fun c_2 => ?_) (fun c_2 => ?_)
    · exact absurd c_2 (by decide)
    · refine lv_aload_n hx hb dX4_spares_7 rfl (lv_at hl 0 rfl) ?_
      refine va_get (D := (dC, dI)) (ci := 4) (v := .ref h_row) (C := RX4) (T := TX4) (N := 9) hx hb hts hi_4 hown hK hP 0 rfl rfl 0 (by decide) hf_12 (fun _ h9 => h9) rfl dX4_spares_8 ?_
      refine lv_iload_n hx hb dX4_spares_11 rfl (lv_at hl 2 rfl) ?_
      refine lv_iload_n hx hb dX4_spares_12 rfl (lv_at hl 3 rfl) ?_
      have hPc := hP.sub (ws' := [(h_row, .inr (0, [.ref h_cell, .int 0]))]) [1] rfl
      have hKc := hK.sub (tys' := []) [] rfl
      refine vp_callSi (W.runV (As := [.int p1, .int p2]) (rest := []) ⟨hx, hb, hml, hown, hts⟩ (c_X0_hasRange l dC dI h_row h_cell 0 p1 p2) (cwV 2 hts gX4_spares_X0_hasRange rfl rfl rfl (by decide +kernel) ⟨Nat.le_of_ble_eq_true rfl, Nat.le_of_ble_eq_true rfl⟩) ⟨fun a U g mk q => by obtain ⟨q0, qP, qK⟩ := q; exact ⟨q0, qP, va_K.moved (u := U) (U := U.calling g mk a) (Vm.Alike.refl U.vm) qK⟩, va_recv hKc hPc (ci := 0) (q0 := 0) rfl rfl, fun U hU hW => ⟨rfl, by rw [hU]; exact hPc, va_K.moved hW.alike hKc⟩⟩ rfl rfl hl.1 rfl (lv_room (Nat.le_of_ble_eq_true rfl)) dX4_spares_13 ⟨Nat.le_of_ble_eq_true rfl, Nat.le_of_ble_eq_true rfl⟩) (fun r_3 w_3 => ?_)
      rcases w_3 with ⟨rfl, w_3⟩ | ⟨rfl, w_3⟩
      · have w_3 : (0 ≤ p1.toInt ∧ p1.toInt < p2.toInt ∧ p2.toInt ≤ 0) := w_3
        exfalso; omega
      · have w_3 : (p1.toInt < 0 ∨ p2.toInt ≤ p1.toInt ∨ 0 < p2.toInt) := w_3
        refine lv_if_eq (tgt := 29) hx hb dX4_spares_16 (by decide) (fun c_4 => ?_) (fun c_4 => ?_)
        · refine lv_iconst (v := (-1)) hx hb dX4_spares_29 (by decide) ?_
          exact W.iret (v := (-1)) hx hb hr (fun t ht hW => ⟨(-1), rfl, rfl, ht⟩) (fun q hq => by cases hq) dX4_spares_30
        · exact absurd c_4 (by decide)
  · have w_1 : (p0.toInt < -32768 ∨ 32767 < p0.toInt) := w_1
    refine lv_if_eq (tgt := 29) hx hb dX4_spares_4 (by decide) (fun c_5 => ?_) (fun c_5 => ?_)
    · refine lv_iconst (v := (-1)) hx hb dX4_spares_29 (by decide) ?_
      exact W.iret (v := (-1)) hx hb hr (fun t ht hW => ⟨(-1), rfl, rfl, ht⟩) (fun q hq => by cases hq) dX4_spares_30
    · exact absurd c_5 (by decide)

set_option maxHeartbeats 4000000 in
set_option maxRecDepth 100000 in
/-- would on a fresh object -/
theorem c_X4_would (l : Launch) (dC : Nat → ClassId) (dI : Nat → Nat → Nat) (h0 : Nat) (h_row : Nat) (h_tree : Nat) (h_tally : Nat) (h_votes : Nat) (h_otherVotes : Nat) (h_wins : Nat) (h_fewest : Nat) (h_cell : Nat) (p0 : Int32) (p1 : Int32) (p2 : Int32) (p3 : Int32) : Met l yX4_would wsX4_would ({ frames := 1, cells := 0, slots := 0, locals := 45 }) (va_Pc [.ref h0, .int p0, .int p1, .int p2, .int p3] (fun U => va_P (dC, dI) vwCl [(h0, .inr (4, [.ref h_row, .ref h_tree, .ref h_tally, .ref h_votes, .ref h_otherVotes, .ref h_wins, .ref h_fewest, .int 2, .int 1])), (h_row, .inr (0, [.ref h_cell, .int 0]))] U.heap ∧ va_K (dC, dI) vwCl [] U)) (vp_Si (fun r : Int32 => r = (-40000))) 0 0 (fun _ => False) := by
  refine Met.ofW (cc := cX4_would) (maxL := 7) (ret := (some .int)) (by decide) rfl ?_
  intro p e s m args below meth c s₁ B hml hv
  obtain ⟨rfl, hP, hK⟩ := hv
  have hx := B.exec
  have hb := B.bytes
  have hr := B.returns
  have hts := atoms_spec (ws := wsX4_would) B.pre
  have hown : s.vm.findClass RX4 = some m.cls := findClass_of_methodNamed B.named
  have hlocks := B.notSynchronized
  have hP : va_P (dC, dI) vwCl [(h0, .inr (4, [.ref h_row, .ref h_tree, .ref h_tally, .ref h_votes, .ref h_otherVotes, .ref h_wins, .ref h_fewest, .int 2, .int 1])), (h_row, .inr (0, [.ref h_cell, .int 0]))] s.heap := hP
  have hl := lv_entry ([.ref h0, .int p0, .int p1, .int p2, .int p3]) (n := 7) (Nat.le_of_ble_eq_true rfl)
  rw [lg_entry_eq]
  generalize (lg_sl ([.ref h0, .int p0, .int p1, .int p2, .int p3]) ++ List.replicate (7 - (lg_sl ([.ref h0, .int p0, .int p1, .int p2, .int p3])).length) Slot.unset).toArray = ls at hl ⊢
  have hl : lv_has ls 7 [(0, .ref h0), (1, .int p0), (2, .int p1), (3, .int p2), (4, .int p3)] := hl
  have hf_12 := hts (.fieldLink RX4 12 "MajorityIndex" "row" "LMajorityIndex$Row;") (by decide +kernel)
  have hi_4 : ∀ w ∈ u_ws RX4 TX4 9, w ∈ wsX4_would := by decide +kernel
  have hk_102 := hts (.constant RX4 102 (-40000)) (by decide +kernel)
  refine lv_aload_n hx hb dX4_would_0 rfl (lv_at hl 0 rfl) ?_
  refine va_get (D := (dC, dI)) (ci := 4) (v := .ref h_row) (C := RX4) (T := TX4) (N := 9) hx hb hts hi_4 hown hK hP 0 rfl rfl 0 (by decide) hf_12 (fun _ h9 => h9) rfl dX4_would_1 ?_
  refine lv_iload_n hx hb dX4_would_4 rfl (lv_at hl 1 rfl) ?_
  have hPc := hP.sub (ws' := [(h_row, .inr (0, [.ref h_cell, .int 0]))]) [1] rfl
  have hKc := hK.sub (tys' := []) [] rfl
  refine vp_callSi (W.runV (As := [.int p0]) (rest := []) ⟨hx, hb, hml, hown, hts⟩ (c_X0_hasPlace l dC dI h_row h_cell 0 p0) (cwV 1 hts gX4_would_X0_hasPlace rfl rfl rfl (by decide +kernel) ⟨Nat.le_of_ble_eq_true rfl, Nat.le_of_ble_eq_true rfl⟩) ⟨fun a U g mk q => by obtain ⟨q0, qP, qK⟩ := q; exact ⟨q0, qP, va_K.moved (u := U) (U := U.calling g mk a) (Vm.Alike.refl U.vm) qK⟩, va_recv hKc hPc (ci := 0) (q0 := 0) rfl rfl, fun U hU hW => ⟨rfl, by rw [hU]; exact hPc, va_K.moved hW.alike hKc⟩⟩ rfl rfl hl.1 rfl (lv_room (Nat.le_of_ble_eq_true rfl)) dX4_would_5 ⟨Nat.le_of_ble_eq_true rfl, Nat.le_of_ble_eq_true rfl⟩) (fun r_1 w_1 => ?_)
  rcases w_1 with ⟨rfl, w_1⟩ | ⟨rfl, w_1⟩
  · have w_1 : (0 ≤ p0.toInt ∧ p0.toInt < 0) := w_1
    exfalso; omega
  · have w_1 : (p0.toInt < 0 ∨ 0 ≤ p0.toInt) := w_1
    refine lv_if_eq (tgt := 31) hx hb dX4_would_8 (by decide) (fun c_2 => ?_) (fun c_2 => ?_)
    · refine lv_ldc (v := (-40000)) hx hb hown hk_102 dX4_would_31 ?_
      exact W.iret (v := (-40000)) hx hb hr (fun t ht hW => ⟨(-40000), rfl, rfl, ht⟩) (fun q hq => by cases hq) dX4_would_33
    · exact absurd c_2 (by decide)

set_option maxHeartbeats 4000000 in
set_option maxRecDepth 100000 in
/-- swings on a fresh object -/
theorem c_X4_swings (l : Launch) (dC : Nat → ClassId) (dI : Nat → Nat → Nat) (h0 : Nat) (h_row : Nat) (h_tree : Nat) (h_tally : Nat) (h_votes : Nat) (h_otherVotes : Nat) (h_wins : Nat) (h_fewest : Nat) (h_cell : Nat) (p0 : Int32) (p1 : Int32) (p2 : Int32) (p3 : Int32) : Met l yX4_swings wsX4_swings ({ frames := 1, cells := 0, slots := 0, locals := 45 }) (va_Pc [.ref h0, .int p0, .int p1, .int p2, .int p3] (fun U => va_P (dC, dI) vwCl [(h0, .inr (4, [.ref h_row, .ref h_tree, .ref h_tally, .ref h_votes, .ref h_otherVotes, .ref h_wins, .ref h_fewest, .int 2, .int 1])), (h_row, .inr (0, [.ref h_cell, .int 0]))] U.heap ∧ va_K (dC, dI) vwCl [] U)) (vp_Si (fun r : Int32 => r = (-1))) 0 0 (fun _ => False) := by
  refine Met.ofW (cc := cX4_swings) (maxL := 10) (ret := (some .int)) (by decide) rfl ?_
  intro p e s m args below meth c s₁ B hml hv
  obtain ⟨rfl, hP, hK⟩ := hv
  have hx := B.exec
  have hb := B.bytes
  have hr := B.returns
  have hts := atoms_spec (ws := wsX4_swings) B.pre
  have hown : s.vm.findClass RX4 = some m.cls := findClass_of_methodNamed B.named
  have hlocks := B.notSynchronized
  have hP : va_P (dC, dI) vwCl [(h0, .inr (4, [.ref h_row, .ref h_tree, .ref h_tally, .ref h_votes, .ref h_otherVotes, .ref h_wins, .ref h_fewest, .int 2, .int 1])), (h_row, .inr (0, [.ref h_cell, .int 0]))] s.heap := hP
  have hl := lv_entry ([.ref h0, .int p0, .int p1, .int p2, .int p3]) (n := 10) (Nat.le_of_ble_eq_true rfl)
  rw [lg_entry_eq]
  generalize (lg_sl ([.ref h0, .int p0, .int p1, .int p2, .int p3]) ++ List.replicate (10 - (lg_sl ([.ref h0, .int p0, .int p1, .int p2, .int p3])).length) Slot.unset).toArray = ls at hl ⊢
  have hl : lv_has ls 10 [(0, .ref h0), (1, .int p0), (2, .int p1), (3, .int p2), (4, .int p3)] := hl
  have hf_12 := hts (.fieldLink RX4 12 "MajorityIndex" "row" "LMajorityIndex$Row;") (by decide +kernel)
  have hi_4 : ∀ w ∈ u_ws RX4 TX4 9, w ∈ wsX4_swings := by decide +kernel
  refine lv_aload_n hx hb dX4_swings_0 rfl (lv_at hl 0 rfl) ?_
  refine va_get (D := (dC, dI)) (ci := 4) (v := .ref h_row) (C := RX4) (T := TX4) (N := 9) hx hb hts hi_4 hown hK hP 0 rfl rfl 0 (by decide) hf_12 (fun _ h9 => h9) rfl dX4_swings_1 ?_
  refine lv_iload_n hx hb dX4_swings_4 rfl (lv_at hl 1 rfl) ?_
  refine lv_iload_n hx hb dX4_swings_5 rfl (lv_at hl 2 rfl) ?_
  have hPc := hP.sub (ws' := [(h_row, .inr (0, [.ref h_cell, .int 0]))]) [1] rfl
  have hKc := hK.sub (tys' := []) [] rfl
  refine vp_callSi (W.runV (As := [.int p0, .int p1]) (rest := []) ⟨hx, hb, hml, hown, hts⟩ (c_X0_hasRange l dC dI h_row h_cell 0 p0 p1) (cwV 2 hts gX4_swings_X0_hasRange rfl rfl rfl (by decide +kernel) ⟨Nat.le_of_ble_eq_true rfl, Nat.le_of_ble_eq_true rfl⟩) ⟨fun a U g mk q => by obtain ⟨q0, qP, qK⟩ := q; exact ⟨q0, qP, va_K.moved (u := U) (U := U.calling g mk a) (Vm.Alike.refl U.vm) qK⟩, va_recv hKc hPc (ci := 0) (q0 := 0) rfl rfl, fun U hU hW => ⟨rfl, by rw [hU]; exact hPc, va_K.moved hW.alike hKc⟩⟩ rfl rfl hl.1 rfl (lv_room (Nat.le_of_ble_eq_true rfl)) dX4_swings_6 ⟨Nat.le_of_ble_eq_true rfl, Nat.le_of_ble_eq_true rfl⟩) (fun r_1 w_1 => ?_)
  rcases w_1 with ⟨rfl, w_1⟩ | ⟨rfl, w_1⟩
  · have w_1 : (0 ≤ p0.toInt ∧ p0.toInt < p1.toInt ∧ p1.toInt ≤ 0) := w_1
    exfalso; omega
  · have w_1 : (p0.toInt < 0 ∨ p1.toInt ≤ p0.toInt ∨ 0 < p1.toInt) := w_1
    refine lv_if_eq (tgt := 38) hx hb dX4_swings_9 (by decide) (fun c_2 => ?_) (fun c_2 => ?_)
    · refine lv_iconst (v := (-1)) hx hb dX4_swings_38 (by decide) ?_
      exact W.iret (v := (-1)) hx hb hr (fun t ht hW => ⟨(-1), rfl, rfl, ht⟩) (fun q hq => by cases hq) dX4_swings_39
    · exact absurd c_2 (by decide)

set_option maxHeartbeats 4000000 in
set_option maxRecDepth 100000 in
/-- windows on a fresh object -/
theorem c_X4_windows (l : Launch) (dC : Nat → ClassId) (dI : Nat → Nat → Nat) (h0 : Nat) (h_row : Nat) (h_tree : Nat) (h_tally : Nat) (h_votes : Nat) (h_otherVotes : Nat) (h_wins : Nat) (h_fewest : Nat) (h_cell : Nat) (p0 : Int32) (p1 : Int32) (p2 : Int32) (p3 : Int32) : Met l yX4_windows wsX4_windows ({ frames := 0, cells := 0, slots := 0, locals := 0 }) (va_Pc [.ref h0, .int p0, .int p1, .int p2, .int p3] (fun U => va_P (dC, dI) vwCl [(h0, .inr (4, [.ref h_row, .ref h_tree, .ref h_tally, .ref h_votes, .ref h_otherVotes, .ref h_wins, .ref h_fewest, .int 2, .int 1])), (h_row, .inr (0, [.ref h_cell, .int 0]))] U.heap ∧ va_K (dC, dI) vwCl [] U)) (vp_Si (fun r : Int32 => (r = (-40000) ∧ p3.toInt = 1) ∨ (r = (-1) ∧ ¬ p3.toInt = 1))) 0 0 (fun _ => False) := by
  refine Met.ofW (cc := cX4_windows) (maxL := 7) (ret := (some .int)) (by decide) rfl ?_
  intro p e s m args below meth c s₁ B hml hv
  obtain ⟨rfl, hP, hK⟩ := hv
  have hx := B.exec
  have hb := B.bytes
  have hr := B.returns
  have hts := atoms_spec (ws := wsX4_windows) B.pre
  have hown : s.vm.findClass RX4 = some m.cls := findClass_of_methodNamed B.named
  have hlocks := B.notSynchronized
  have hP : va_P (dC, dI) vwCl [(h0, .inr (4, [.ref h_row, .ref h_tree, .ref h_tally, .ref h_votes, .ref h_otherVotes, .ref h_wins, .ref h_fewest, .int 2, .int 1])), (h_row, .inr (0, [.ref h_cell, .int 0]))] s.heap := hP
  have hl := lv_entry ([.ref h0, .int p0, .int p1, .int p2, .int p3]) (n := 7) (Nat.le_of_ble_eq_true rfl)
  rw [lg_entry_eq]
  generalize (lg_sl ([.ref h0, .int p0, .int p1, .int p2, .int p3]) ++ List.replicate (7 - (lg_sl ([.ref h0, .int p0, .int p1, .int p2, .int p3])).length) Slot.unset).toArray = ls at hl ⊢
  have hl : lv_has ls 7 [(0, .ref h0), (1, .int p0), (2, .int p1), (3, .int p2), (4, .int p3)] := hl
  have hk_102 := hts (.constant RX4 102 (-40000)) (by decide +kernel)
  have hf_12 := hts (.fieldLink RX4 12 "MajorityIndex" "row" "LMajorityIndex$Row;") (by decide +kernel)
  have hi_4 : ∀ w ∈ u_ws RX4 TX4 9, w ∈ wsX4_windows := by decide +kernel
  have hf_57 := hts (.fieldLink RX4 57 "MajorityIndex$Row" "length" "I") (by decide +kernel)
  have hi_0 : ∀ w ∈ u_ws RX0 TX0 2, w ∈ wsX4_windows := by decide +kernel
  refine lv_iload hx hb dX4_windows_0 (lv_at hl 4 rfl) ?_
  refine lv_if_lt (tgt := 11) hx hb dX4_windows_2 (by decide) (fun c_1 => ?_) (fun c_1 => ?_)
  · have i_1 : p3.toInt < 0 := kc_lt c_1
    refine lv_iconst (v := (-1)) hx hb dX4_windows_11 (by decide) ?_
    exact W.iret (v := (-1)) hx hb hr (fun t ht hW => ⟨(-1), rfl, Or.inr (⟨rfl, by omega⟩), ht⟩) (fun q hq => by cases hq) dX4_windows_12
  · have i_1 : 0 ≤ p3.toInt := kc_nlt c_1
    refine lv_iload hx hb dX4_windows_5 (lv_at hl 4 rfl) ?_
    refine lv_iconst (v := 2) hx hb dX4_windows_7 (by decide) ?_
    refine lv_icmp_le (tgt := 13) hx hb dX4_windows_8 (by decide) (fun c_2 => ?_) (fun c_2 => ?_)
    · have i_2 : p3.toInt ≤ 2 := kc_le c_2
      refine lv_iload_n hx hb dX4_windows_13 rfl (lv_at hl 1 rfl) ?_
      refine lv_iconst (v := 1) hx hb dX4_windows_14 (by decide) ?_
      refine lv_icmp_lt (tgt := 37) hx hb dX4_windows_15 (by decide) (fun c_3 => ?_) (fun c_3 => ?_)
      · have i_3 : p0.toInt < 1 := kc_lt c_3
        refine lv_iload hx hb dX4_windows_37 (lv_at hl 4 rfl) ?_
        refine lv_iconst (v := 1) hx hb dX4_windows_39 (by decide) ?_
        refine lv_icmp_ne (tgt := 48) hx hb dX4_windows_40 (by decide) (fun c_4 => ?_) (fun c_4 => ?_)
        · have i_4 : ¬ p3.toInt = 1 := kc_ne c_4
          refine lv_iconst (v := (-1)) hx hb dX4_windows_48 (by decide) ?_
          exact W.iret (v := (-1)) hx hb hr (fun t ht hW => ⟨(-1), rfl, Or.inr (⟨rfl, by omega⟩), ht⟩) (fun q hq => by cases hq) dX4_windows_49
        · have i_4 : p3.toInt = 1 := kc_eq c_4
          refine lv_ldc (v := (-40000)) hx hb hown hk_102 dX4_windows_43 ?_
          refine lv_goto (tgt := 49) hx hb dX4_windows_45 (by decide) ?_
          exact W.iret (v := (-40000)) hx hb hr (fun t ht hW => ⟨(-40000), rfl, Or.inl ⟨rfl, by omega⟩, ht⟩) (fun q hq => by cases hq) dX4_windows_49
      · have i_3 : 1 ≤ p0.toInt := kc_nlt c_3
        refine lv_iload_n hx hb dX4_windows_18 rfl (lv_at hl 1 rfl) ?_
        refine lv_aload_n hx hb dX4_windows_19 rfl (lv_at hl 0 rfl) ?_
        refine va_get (D := (dC, dI)) (ci := 4) (v := .ref h_row) (C := RX4) (T := TX4) (N := 9) hx hb hts hi_4 hown hK hP 0 rfl rfl 0 (by decide) hf_12 (fun _ h9 => h9) rfl dX4_windows_20 ?_
        refine va_get (D := (dC, dI)) (ci := 0) (v := .int 0) (C := RX0) (T := TX0) (N := 2) hx hb hts hi_0 hown hK hP 1 rfl rfl 1 (by decide) hf_57 (fun _ h9 => h9) rfl dX4_windows_23 ?_
        refine lv_icmp_gt (tgt := 37) hx hb dX4_windows_26 (by decide) (fun c_5 => ?_) (fun c_5 => ?_)
        · have i_5 : 0 < p0.toInt := kc_lt c_5
          refine lv_iload hx hb dX4_windows_37 (lv_at hl 4 rfl) ?_
          refine lv_iconst (v := 1) hx hb dX4_windows_39 (by decide) ?_
          refine lv_icmp_ne (tgt := 48) hx hb dX4_windows_40 (by decide) (fun c_6 => ?_) (fun c_6 => ?_)
          · have i_6 : ¬ p3.toInt = 1 := kc_ne c_6
            refine lv_iconst (v := (-1)) hx hb dX4_windows_48 (by decide) ?_
            exact W.iret (v := (-1)) hx hb hr (fun t ht hW => ⟨(-1), rfl, Or.inr (⟨rfl, by omega⟩), ht⟩) (fun q hq => by cases hq) dX4_windows_49
          · have i_6 : p3.toInt = 1 := kc_eq c_6
            refine lv_ldc (v := (-40000)) hx hb hown hk_102 dX4_windows_43 ?_
            refine lv_goto (tgt := 49) hx hb dX4_windows_45 (by decide) ?_
            exact W.iret (v := (-40000)) hx hb hr (fun t ht hW => ⟨(-40000), rfl, Or.inl ⟨rfl, by omega⟩, ht⟩) (fun q hq => by cases hq) dX4_windows_49
        · have i_5 : p0.toInt ≤ 0 := kc_nlt c_5
          exfalso; omega
    · have i_2 : 2 < p3.toInt := kc_nle c_2
      refine lv_iconst (v := (-1)) hx hb dX4_windows_11 (by decide) ?_
      exact W.iret (v := (-1)) hx hb hr (fun t ht hW => ⟨(-1), rfl, Or.inr (⟨rfl, by omega⟩), ht⟩) (fun q hq => by cases hq) dX4_windows_12
