set_option maxHeartbeats 4000000 in
set_option maxRecDepth 100000 in
theorem c_X0_append_0 (l : Launch) (dC : Nat → ClassId) (dI : Nat → Nat → Nat) (h_row : Nat) (h_cell : Nat) (cyI : ClassId) (ff : Nat → Int32) (p0 : Int32) (sz : Nat) : Met l yX0_append wsX0_append ({ frames := 0, cells := 0, slots := 0, locals := 0 }) (va_Pc [.ref h_row, .int p0] (fun U => U.heap.size = sz ∧ va_P (dC, dI) vwCl [(h_row, .inr (0, [.ref h_cell, .int 0])), (h_cell, .inl (cyI, 160, .inl ff))] U.heap ∧ va_K (dC, dI) vwCl [(cyI, .int)] U ∧ va_D (fun _ => True) [(h_row, .inr (0, [.ref h_cell, .int 0])), (h_cell, .inl (cyI, 160, .inl ff))])) (va_Qv (fun _ : Unit => True) (fun (_ : Unit) (t : State) => va_P (dC, dI) vwCl [(h_row, .inr (0, [.ref h_cell, .int 1])), (h_cell, .inl (cyI, 160, .inl (upd ff (0 : Int32).toNatClampNeg p0)))] t.heap ∧ va_K (dC, dI) vwCl [(cyI, .int)] t ∧ va_D (va_A [(h_row, .inr (0, [.ref h_cell, .int 0])), (h_cell, .inl (cyI, 160, .inl ff))] sz) [(h_row, .inr (0, [.ref h_cell, .int 1])), (h_cell, .inl (cyI, 160, .inl (upd ff (0 : Int32).toNatClampNeg p0)))]) (va_A [(h_row, .inr (0, [.ref h_cell, .int 0])), (h_cell, .inl (cyI, 160, .inl ff))] sz)) 0 0 (va_A [(h_row, .inr (0, [.ref h_cell, .int 0])), (h_cell, .inl (cyI, 160, .inl ff))] sz) := by
  refine Met.ofW (cc := cX0_append) (maxL := 2) (ret := none) (by decide) rfl ?_
  intro p e s m args below meth c s₁ B hml hv
  obtain ⟨rfl, hsz, hP, hK, hD0⟩ := hv
  have hx := B.exec
  have hb := B.bytes
  have hr := B.returns
  have hts := atoms_spec (ws := wsX0_append) B.pre
  have hown : s.vm.findClass RX0 = some m.cls := findClass_of_methodNamed B.named
  have hlocks := B.notSynchronized
  subst hsz
  have hD := hD0.self (sz := s.heap.size)
  generalize hAe : va_A [(h_row, .inr (0, [.ref h_cell, .int 0])), (h_cell, .inl (cyI, 160, .inl ff))] s.heap.size = A at hD ⊢
  have hA : ∀ q : Nat, s.heap.size ≤ q → A q := fun q h => by rw [← hAe]; exact Or.inr h
  have hS : va_S A s.heap s.heap [] := va_S.rf
  have hP : va_P (dC, dI) vwCl [(h_row, .inr (0, [.ref h_cell, .int 0])), (h_cell, .inl (cyI, 160, .inl ff))] s.heap := hP
  have hl := lv_entry ([.ref h_row, .int p0]) (n := 2) (Nat.le_of_ble_eq_true rfl)
  rw [lg_entry_eq]
  generalize (lg_sl ([.ref h_row, .int p0]) ++ List.replicate (2 - (lg_sl ([.ref h_row, .int p0])).length) Slot.unset).toArray = ls at hl ⊢
  have hl : lv_has ls 2 [(0, .ref h_row), (1, .int p0)] := hl
  have hf_15 := hts (.fieldLink RX0 15 "MajorityIndex$Row" "length" "I") (by decide +kernel)
  have hi_0 : ∀ w ∈ u_ws RX0 TX0 2, w ∈ wsX0_append := by decide +kernel
  have hf_9 := hts (.fieldLink RX0 9 "MajorityIndex$Row" "cell" "[I") (by decide +kernel)
  refine lv_aload_n hx hb dX0_append_0 rfl (lv_at hl 0 rfl) ?_
  refine va_get (D := (dC, dI)) (ci := 0) (v := .int 0) (C := RX0) (T := TX0) (N := 2) hx hb hts hi_0 hown hK hP 0 rfl rfl 1 (by decide) hf_15 (fun _ h9 => h9) rfl dX0_append_1 ?_
  refine lv_sipush (v := 160) hx hb dX0_append_4 (by decide) ?_
  refine lv_icmp_ge (tgt := 30) hx hb dX0_append_7 (by decide) (fun c_1 => ?_) (fun c_1 => ?_)
  · exact absurd c_1 (by decide)
  · refine lv_aload_n hx hb dX0_append_10 rfl (lv_at hl 0 rfl) ?_
    refine va_get (D := (dC, dI)) (ci := 0) (v := .ref h_cell) (C := RX0) (T := TX0) (N := 2) hx hb hts hi_0 hown hK hP 0 rfl rfl 0 (by decide) hf_9 (fun _ h9 => h9) rfl dX0_append_11 ?_
    refine lv_aload_n hx hb dX0_append_14 rfl (lv_at hl 0 rfl) ?_
    refine va_get (D := (dC, dI)) (ci := 0) (v := .int 0) (C := RX0) (T := TX0) (N := 2) hx hb hts hi_0 hown hK hP 0 rfl rfl 1 (by decide) hf_15 (fun _ h9 => h9) rfl dX0_append_15 ?_
    refine lv_iload_n hx hb dX0_append_18 rfl (lv_at hl 1 rfl) ?_
    refine va_iast hx hb hK hP hD hS 1 0 rfl rfl (ki_inl (by decide)) dX0_append_19 (fun H locs hP hD hS => ?_)
    have hP : va_P (dC, dI) vwCl [(h_row, .inr (0, [.ref h_cell, .int 0])), (h_cell, .inl (cyI, 160, .inl (upd ff (0 : Int32).toNatClampNeg p0)))] H := hP
    have hD : va_D A [(h_row, .inr (0, [.ref h_cell, .int 0])), (h_cell, .inl (cyI, 160, .inl (upd ff (0 : Int32).toNatClampNeg p0)))] := hD
    refine lv_aload_n hx hb dX0_append_20 rfl (lv_at hl 0 rfl) ?_
    refine lv_dup hx hb dX0_append_21 rfl ?_
    refine va_get (D := (dC, dI)) (ci := 0) (v := .int 0) (C := RX0) (T := TX0) (N := 2) hx hb hts hi_0 hown hK hP 0 rfl rfl 1 (by decide) hf_15 (fun _ h9 => h9) rfl dX0_append_22 ?_
    refine lv_iconst (v := 1) hx hb dX0_append_25 (by decide) ?_
    refine lv_iadd hx hb dX0_append_26 ?_
    refine W.eq (g2 := F0 m 27 ls [.int 1, .ref h_row]) (by first | rfl | (congr 2; decide)) ?_
    refine va_put (D := (dC, dI)) (ci := 0) (v := .int 1) (ty := .int) (C := RX0) (T := TX0) (N := 2) hx hb hts hi_0 tyX0 tyX0_ok nmX0 hown hK hP hD hS 0 rfl rfl 1 (by decide) hf_15 (fun _ h9 => h9) rfl (by decide +kernel) rfl rfl (Nat.le_of_ble_eq_true rfl) dX0_append_27 (fun H locs hP hD hS => ?_)
    have hP : va_P (dC, dI) vwCl [(h_row, .inr (0, [.ref h_cell, .int 1])), (h_cell, .inl (cyI, 160, .inl (upd ff (0 : Int32).toNatClampNeg p0)))] H := hP
    have hD : va_D A [(h_row, .inr (0, [.ref h_cell, .int 1])), (h_cell, .inl (cyI, 160, .inl (upd ff (0 : Int32).toNatClampNeg p0)))] := hD
    have hP9 := hP.sub (ws' := [(h_row, .inr (0, [.ref h_cell, .int 1])), (h_cell, .inl (cyI, 160, .inl (upd ff (0 : Int32).toNatClampNeg p0)))]) [0, 1] rfl
    have hD9 := hD.sub (ws' := [(h_row, .inr (0, [.ref h_cell, .int 1])), (h_cell, .inl (cyI, 160, .inl (upd ff (0 : Int32).toNatClampNeg p0)))]) [0, 1] (by decide) rfl
    have hK9 := hK.sub (tys' := [(cyI, .int)]) [0] rfl
    exact W.vret hx hb hr (fun t ht hW => ⟨⟨(), rfl, trivial, by rw [ht]; exact hP9, va_K.moved hW.alike hK9, hD9⟩, hS.F ht⟩) hS.2.2 dX0_append_30

set_option maxHeartbeats 4000000 in
set_option maxRecDepth 100000 in
theorem c_X0_append_1 (l : Launch) (dC : Nat → ClassId) (dI : Nat → Nat → Nat) (h_row : Nat) (h_cell : Nat) (cyI : ClassId) (ff : Nat → Int32) (p0 : Int32) (sz : Nat) : Met l yX0_append wsX0_append ({ frames := 0, cells := 0, slots := 0, locals := 0 }) (va_Pc [.ref h_row, .int p0] (fun U => U.heap.size = sz ∧ va_P (dC, dI) vwCl [(h_row, .inr (0, [.ref h_cell, .int 1])), (h_cell, .inl (cyI, 160, .inl ff))] U.heap ∧ va_K (dC, dI) vwCl [(cyI, .int)] U ∧ va_D (fun _ => True) [(h_row, .inr (0, [.ref h_cell, .int 1])), (h_cell, .inl (cyI, 160, .inl ff))])) (va_Qv (fun _ : Unit => True) (fun (_ : Unit) (t : State) => va_P (dC, dI) vwCl [(h_row, .inr (0, [.ref h_cell, .int 2])), (h_cell, .inl (cyI, 160, .inl (upd ff (1 : Int32).toNatClampNeg p0)))] t.heap ∧ va_K (dC, dI) vwCl [(cyI, .int)] t ∧ va_D (va_A [(h_row, .inr (0, [.ref h_cell, .int 1])), (h_cell, .inl (cyI, 160, .inl ff))] sz) [(h_row, .inr (0, [.ref h_cell, .int 2])), (h_cell, .inl (cyI, 160, .inl (upd ff (1 : Int32).toNatClampNeg p0)))]) (va_A [(h_row, .inr (0, [.ref h_cell, .int 1])), (h_cell, .inl (cyI, 160, .inl ff))] sz)) 0 0 (va_A [(h_row, .inr (0, [.ref h_cell, .int 1])), (h_cell, .inl (cyI, 160, .inl ff))] sz) := by
  refine Met.ofW (cc := cX0_append) (maxL := 2) (ret := none) (by decide) rfl ?_
  intro p e s m args below meth c s₁ B hml hv
  obtain ⟨rfl, hsz, hP, hK, hD0⟩ := hv
  have hx := B.exec
  have hb := B.bytes
  have hr := B.returns
  have hts := atoms_spec (ws := wsX0_append) B.pre
  have hown : s.vm.findClass RX0 = some m.cls := findClass_of_methodNamed B.named
  have hlocks := B.notSynchronized
  subst hsz
  have hD := hD0.self (sz := s.heap.size)
  generalize hAe : va_A [(h_row, .inr (0, [.ref h_cell, .int 1])), (h_cell, .inl (cyI, 160, .inl ff))] s.heap.size = A at hD ⊢
  have hA : ∀ q : Nat, s.heap.size ≤ q → A q := fun q h => by rw [← hAe]; exact Or.inr h
  have hS : va_S A s.heap s.heap [] := va_S.rf
  have hP : va_P (dC, dI) vwCl [(h_row, .inr (0, [.ref h_cell, .int 1])), (h_cell, .inl (cyI, 160, .inl ff))] s.heap := hP
  have hl := lv_entry ([.ref h_row, .int p0]) (n := 2) (Nat.le_of_ble_eq_true rfl)
  rw [lg_entry_eq]
  generalize (lg_sl ([.ref h_row, .int p0]) ++ List.replicate (2 - (lg_sl ([.ref h_row, .int p0])).length) Slot.unset).toArray = ls at hl ⊢
  have hl : lv_has ls 2 [(0, .ref h_row), (1, .int p0)] := hl
  have hf_15 := hts (.fieldLink RX0 15 "MajorityIndex$Row" "length" "I") (by decide +kernel)
  have hi_0 : ∀ w ∈ u_ws RX0 TX0 2, w ∈ wsX0_append := by decide +kernel
  have hf_9 := hts (.fieldLink RX0 9 "MajorityIndex$Row" "cell" "[I") (by decide +kernel)
  refine lv_aload_n hx hb dX0_append_0 rfl (lv_at hl 0 rfl) ?_
  refine va_get (D := (dC, dI)) (ci := 0) (v := .int 1) (C := RX0) (T := TX0) (N := 2) hx hb hts hi_0 hown hK hP 0 rfl rfl 1 (by decide) hf_15 (fun _ h9 => h9) rfl dX0_append_1 ?_
  refine lv_sipush (v := 160) hx hb dX0_append_4 (by decide) ?_
  refine lv_icmp_ge (tgt := 30) hx hb dX0_append_7 (by decide) (fun c_1 => ?_) (fun c_1 => ?_)
  · exact absurd c_1 (by decide)
  · refine lv_aload_n hx hb dX0_append_10 rfl (lv_at hl 0 rfl) ?_
    refine va_get (D := (dC, dI)) (ci := 0) (v := .ref h_cell) (C := RX0) (T := TX0) (N := 2) hx hb hts hi_0 hown hK hP 0 rfl rfl 0 (by decide) hf_9 (fun _ h9 => h9) rfl dX0_append_11 ?_
    refine lv_aload_n hx hb dX0_append_14 rfl (lv_at hl 0 rfl) ?_
    refine va_get (D := (dC, dI)) (ci := 0) (v := .int 1) (C := RX0) (T := TX0) (N := 2) hx hb hts hi_0 hown hK hP 0 rfl rfl 1 (by decide) hf_15 (fun _ h9 => h9) rfl dX0_append_15 ?_
    refine lv_iload_n hx hb dX0_append_18 rfl (lv_at hl 1 rfl) ?_
    refine va_iast hx hb hK hP hD hS 1 0 rfl rfl (ki_inl (by decide)) dX0_append_19 (fun H locs hP hD hS => ?_)
    have hP : va_P (dC, dI) vwCl [(h_row, .inr (0, [.ref h_cell, .int 1])), (h_cell, .inl (cyI, 160, .inl (upd ff (1 : Int32).toNatClampNeg p0)))] H := hP
    have hD : va_D A [(h_row, .inr (0, [.ref h_cell, .int 1])), (h_cell, .inl (cyI, 160, .inl (upd ff (1 : Int32).toNatClampNeg p0)))] := hD
    refine lv_aload_n hx hb dX0_append_20 rfl (lv_at hl 0 rfl) ?_
    refine lv_dup hx hb dX0_append_21 rfl ?_
    refine va_get (D := (dC, dI)) (ci := 0) (v := .int 1) (C := RX0) (T := TX0) (N := 2) hx hb hts hi_0 hown hK hP 0 rfl rfl 1 (by decide) hf_15 (fun _ h9 => h9) rfl dX0_append_22 ?_
    refine lv_iconst (v := 1) hx hb dX0_append_25 (by decide) ?_
    refine lv_iadd hx hb dX0_append_26 ?_
    refine W.eq (g2 := F0 m 27 ls [.int 2, .ref h_row]) (by first | rfl | (congr 2; decide)) ?_
    refine va_put (D := (dC, dI)) (ci := 0) (v := .int 2) (ty := .int) (C := RX0) (T := TX0) (N := 2) hx hb hts hi_0 tyX0 tyX0_ok nmX0 hown hK hP hD hS 0 rfl rfl 1 (by decide) hf_15 (fun _ h9 => h9) rfl (by decide +kernel) rfl rfl (Nat.le_of_ble_eq_true rfl) dX0_append_27 (fun H locs hP hD hS => ?_)
    have hP : va_P (dC, dI) vwCl [(h_row, .inr (0, [.ref h_cell, .int 2])), (h_cell, .inl (cyI, 160, .inl (upd ff (1 : Int32).toNatClampNeg p0)))] H := hP
    have hD : va_D A [(h_row, .inr (0, [.ref h_cell, .int 2])), (h_cell, .inl (cyI, 160, .inl (upd ff (1 : Int32).toNatClampNeg p0)))] := hD
    have hP9 := hP.sub (ws' := [(h_row, .inr (0, [.ref h_cell, .int 2])), (h_cell, .inl (cyI, 160, .inl (upd ff (1 : Int32).toNatClampNeg p0)))]) [0, 1] rfl
    have hD9 := hD.sub (ws' := [(h_row, .inr (0, [.ref h_cell, .int 2])), (h_cell, .inl (cyI, 160, .inl (upd ff (1 : Int32).toNatClampNeg p0)))]) [0, 1] (by decide) rfl
    have hK9 := hK.sub (tys' := [(cyI, .int)]) [0] rfl
    exact W.vret hx hb hr (fun t ht hW => ⟨⟨(), rfl, trivial, by rw [ht]; exact hP9, va_K.moved hW.alike hK9, hD9⟩, hS.F ht⟩) hS.2.2 dX0_append_30

set_option maxHeartbeats 4000000 in
set_option maxRecDepth 100000 in
theorem c_X0_append_2 (l : Launch) (dC : Nat → ClassId) (dI : Nat → Nat → Nat) (h_row : Nat) (h_cell : Nat) (cyI : ClassId) (ff : Nat → Int32) (p0 : Int32) (sz : Nat) : Met l yX0_append wsX0_append ({ frames := 0, cells := 0, slots := 0, locals := 0 }) (va_Pc [.ref h_row, .int p0] (fun U => U.heap.size = sz ∧ va_P (dC, dI) vwCl [(h_row, .inr (0, [.ref h_cell, .int 2])), (h_cell, .inl (cyI, 160, .inl ff))] U.heap ∧ va_K (dC, dI) vwCl [(cyI, .int)] U ∧ va_D (fun _ => True) [(h_row, .inr (0, [.ref h_cell, .int 2])), (h_cell, .inl (cyI, 160, .inl ff))])) (va_Qv (fun _ : Unit => True) (fun (_ : Unit) (t : State) => va_P (dC, dI) vwCl [(h_row, .inr (0, [.ref h_cell, .int 3])), (h_cell, .inl (cyI, 160, .inl (upd ff (2 : Int32).toNatClampNeg p0)))] t.heap ∧ va_K (dC, dI) vwCl [(cyI, .int)] t ∧ va_D (va_A [(h_row, .inr (0, [.ref h_cell, .int 2])), (h_cell, .inl (cyI, 160, .inl ff))] sz) [(h_row, .inr (0, [.ref h_cell, .int 3])), (h_cell, .inl (cyI, 160, .inl (upd ff (2 : Int32).toNatClampNeg p0)))]) (va_A [(h_row, .inr (0, [.ref h_cell, .int 2])), (h_cell, .inl (cyI, 160, .inl ff))] sz)) 0 0 (va_A [(h_row, .inr (0, [.ref h_cell, .int 2])), (h_cell, .inl (cyI, 160, .inl ff))] sz) := by
  refine Met.ofW (cc := cX0_append) (maxL := 2) (ret := none) (by decide) rfl ?_
  intro p e s m args below meth c s₁ B hml hv
  obtain ⟨rfl, hsz, hP, hK, hD0⟩ := hv
  have hx := B.exec
  have hb := B.bytes
  have hr := B.returns
  have hts := atoms_spec (ws := wsX0_append) B.pre
  have hown : s.vm.findClass RX0 = some m.cls := findClass_of_methodNamed B.named
  have hlocks := B.notSynchronized
  subst hsz
  have hD := hD0.self (sz := s.heap.size)
  generalize hAe : va_A [(h_row, .inr (0, [.ref h_cell, .int 2])), (h_cell, .inl (cyI, 160, .inl ff))] s.heap.size = A at hD ⊢
  have hA : ∀ q : Nat, s.heap.size ≤ q → A q := fun q h => by rw [← hAe]; exact Or.inr h
  have hS : va_S A s.heap s.heap [] := va_S.rf
  have hP : va_P (dC, dI) vwCl [(h_row, .inr (0, [.ref h_cell, .int 2])), (h_cell, .inl (cyI, 160, .inl ff))] s.heap := hP
  have hl := lv_entry ([.ref h_row, .int p0]) (n := 2) (Nat.le_of_ble_eq_true rfl)
  rw [lg_entry_eq]
  generalize (lg_sl ([.ref h_row, .int p0]) ++ List.replicate (2 - (lg_sl ([.ref h_row, .int p0])).length) Slot.unset).toArray = ls at hl ⊢
  have hl : lv_has ls 2 [(0, .ref h_row), (1, .int p0)] := hl
  have hf_15 := hts (.fieldLink RX0 15 "MajorityIndex$Row" "length" "I") (by decide +kernel)
  have hi_0 : ∀ w ∈ u_ws RX0 TX0 2, w ∈ wsX0_append := by decide +kernel
  have hf_9 := hts (.fieldLink RX0 9 "MajorityIndex$Row" "cell" "[I") (by decide +kernel)
  refine lv_aload_n hx hb dX0_append_0 rfl (lv_at hl 0 rfl) ?_
  refine va_get (D := (dC, dI)) (ci := 0) (v := .int 2) (C := RX0) (T := TX0) (N := 2) hx hb hts hi_0 hown hK hP 0 rfl rfl 1 (by decide) hf_15 (fun _ h9 => h9) rfl dX0_append_1 ?_
  refine lv_sipush (v := 160) hx hb dX0_append_4 (by decide) ?_
  refine lv_icmp_ge (tgt := 30) hx hb dX0_append_7 (by decide) (fun c_1 => ?_) (fun c_1 => ?_)
  · exact absurd c_1 (by decide)
  · refine lv_aload_n hx hb dX0_append_10 rfl (lv_at hl 0 rfl) ?_
    refine va_get (D := (dC, dI)) (ci := 0) (v := .ref h_cell) (C := RX0) (T := TX0) (N := 2) hx hb hts hi_0 hown hK hP 0 rfl rfl 0 (by decide) hf_9 (fun _ h9 => h9) rfl dX0_append_11 ?_
    refine lv_aload_n hx hb dX0_append_14 rfl (lv_at hl 0 rfl) ?_
    refine va_get (D := (dC, dI)) (ci := 0) (v := .int 2) (C := RX0) (T := TX0) (N := 2) hx hb hts hi_0 hown hK hP 0 rfl rfl 1 (by decide) hf_15 (fun _ h9 => h9) rfl dX0_append_15 ?_
    refine lv_iload_n hx hb dX0_append_18 rfl (lv_at hl 1 rfl) ?_
    refine va_iast hx hb hK hP hD hS 1 0 rfl rfl (ki_inl (by decide)) dX0_append_19 (fun H locs hP hD hS => ?_)
    have hP : va_P (dC, dI) vwCl [(h_row, .inr (0, [.ref h_cell, .int 2])), (h_cell, .inl (cyI, 160, .inl (upd ff (2 : Int32).toNatClampNeg p0)))] H := hP
    have hD : va_D A [(h_row, .inr (0, [.ref h_cell, .int 2])), (h_cell, .inl (cyI, 160, .inl (upd ff (2 : Int32).toNatClampNeg p0)))] := hD
    refine lv_aload_n hx hb dX0_append_20 rfl (lv_at hl 0 rfl) ?_
    refine lv_dup hx hb dX0_append_21 rfl ?_
    refine va_get (D := (dC, dI)) (ci := 0) (v := .int 2) (C := RX0) (T := TX0) (N := 2) hx hb hts hi_0 hown hK hP 0 rfl rfl 1 (by decide) hf_15 (fun _ h9 => h9) rfl dX0_append_22 ?_
    refine lv_iconst (v := 1) hx hb dX0_append_25 (by decide) ?_
    refine lv_iadd hx hb dX0_append_26 ?_
    refine W.eq (g2 := F0 m 27 ls [.int 3, .ref h_row]) (by first | rfl | (congr 2; decide)) ?_
    refine va_put (D := (dC, dI)) (ci := 0) (v := .int 3) (ty := .int) (C := RX0) (T := TX0) (N := 2) hx hb hts hi_0 tyX0 tyX0_ok nmX0 hown hK hP hD hS 0 rfl rfl 1 (by decide) hf_15 (fun _ h9 => h9) rfl (by decide +kernel) rfl rfl (Nat.le_of_ble_eq_true rfl) dX0_append_27 (fun H locs hP hD hS => ?_)
    have hP : va_P (dC, dI) vwCl [(h_row, .inr (0, [.ref h_cell, .int 3])), (h_cell, .inl (cyI, 160, .inl (upd ff (2 : Int32).toNatClampNeg p0)))] H := hP
    have hD : va_D A [(h_row, .inr (0, [.ref h_cell, .int 3])), (h_cell, .inl (cyI, 160, .inl (upd ff (2 : Int32).toNatClampNeg p0)))] := hD
    have hP9 := hP.sub (ws' := [(h_row, .inr (0, [.ref h_cell, .int 3])), (h_cell, .inl (cyI, 160, .inl (upd ff (2 : Int32).toNatClampNeg p0)))]) [0, 1] rfl
    have hD9 := hD.sub (ws' := [(h_row, .inr (0, [.ref h_cell, .int 3])), (h_cell, .inl (cyI, 160, .inl (upd ff (2 : Int32).toNatClampNeg p0)))]) [0, 1] (by decide) rfl
    have hK9 := hK.sub (tys' := [(cyI, .int)]) [0] rfl
    exact W.vret hx hb hr (fun t ht hW => ⟨⟨(), rfl, trivial, by rw [ht]; exact hP9, va_K.moved hW.alike hK9, hD9⟩, hS.F ht⟩) hS.2.2 dX0_append_30

set_option maxHeartbeats 4000000 in
set_option maxRecDepth 100000 in
theorem c_X0_append_3 (l : Launch) (dC : Nat → ClassId) (dI : Nat → Nat → Nat) (h_row : Nat) (h_cell : Nat) (cyI : ClassId) (ff : Nat → Int32) (p0 : Int32) (sz : Nat) : Met l yX0_append wsX0_append ({ frames := 0, cells := 0, slots := 0, locals := 0 }) (va_Pc [.ref h_row, .int p0] (fun U => U.heap.size = sz ∧ va_P (dC, dI) vwCl [(h_row, .inr (0, [.ref h_cell, .int 3])), (h_cell, .inl (cyI, 160, .inl ff))] U.heap ∧ va_K (dC, dI) vwCl [(cyI, .int)] U ∧ va_D (fun _ => True) [(h_row, .inr (0, [.ref h_cell, .int 3])), (h_cell, .inl (cyI, 160, .inl ff))])) (va_Qv (fun _ : Unit => True) (fun (_ : Unit) (t : State) => va_P (dC, dI) vwCl [(h_row, .inr (0, [.ref h_cell, .int 4])), (h_cell, .inl (cyI, 160, .inl (upd ff (3 : Int32).toNatClampNeg p0)))] t.heap ∧ va_K (dC, dI) vwCl [(cyI, .int)] t ∧ va_D (va_A [(h_row, .inr (0, [.ref h_cell, .int 3])), (h_cell, .inl (cyI, 160, .inl ff))] sz) [(h_row, .inr (0, [.ref h_cell, .int 4])), (h_cell, .inl (cyI, 160, .inl (upd ff (3 : Int32).toNatClampNeg p0)))]) (va_A [(h_row, .inr (0, [.ref h_cell, .int 3])), (h_cell, .inl (cyI, 160, .inl ff))] sz)) 0 0 (va_A [(h_row, .inr (0, [.ref h_cell, .int 3])), (h_cell, .inl (cyI, 160, .inl ff))] sz) := by
  refine Met.ofW (cc := cX0_append) (maxL := 2) (ret := none) (by decide) rfl ?_
  intro p e s m args below meth c s₁ B hml hv
  obtain ⟨rfl, hsz, hP, hK, hD0⟩ := hv
  have hx := B.exec
  have hb := B.bytes
  have hr := B.returns
  have hts := atoms_spec (ws := wsX0_append) B.pre
  have hown : s.vm.findClass RX0 = some m.cls := findClass_of_methodNamed B.named
  have hlocks := B.notSynchronized
  subst hsz
  have hD := hD0.self (sz := s.heap.size)
  generalize hAe : va_A [(h_row, .inr (0, [.ref h_cell, .int 3])), (h_cell, .inl (cyI, 160, .inl ff))] s.heap.size = A at hD ⊢
  have hA : ∀ q : Nat, s.heap.size ≤ q → A q := fun q h => by rw [← hAe]; exact Or.inr h
  have hS : va_S A s.heap s.heap [] := va_S.rf
  have hP : va_P (dC, dI) vwCl [(h_row, .inr (0, [.ref h_cell, .int 3])), (h_cell, .inl (cyI, 160, .inl ff))] s.heap := hP
  have hl := lv_entry ([.ref h_row, .int p0]) (n := 2) (Nat.le_of_ble_eq_true rfl)
  rw [lg_entry_eq]
  generalize (lg_sl ([.ref h_row, .int p0]) ++ List.replicate (2 - (lg_sl ([.ref h_row, .int p0])).length) Slot.unset).toArray = ls at hl ⊢
  have hl : lv_has ls 2 [(0, .ref h_row), (1, .int p0)] := hl
  have hf_15 := hts (.fieldLink RX0 15 "MajorityIndex$Row" "length" "I") (by decide +kernel)
  have hi_0 : ∀ w ∈ u_ws RX0 TX0 2, w ∈ wsX0_append := by decide +kernel
  have hf_9 := hts (.fieldLink RX0 9 "MajorityIndex$Row" "cell" "[I") (by decide +kernel)
  refine lv_aload_n hx hb dX0_append_0 rfl (lv_at hl 0 rfl) ?_
  refine va_get (D := (dC, dI)) (ci := 0) (v := .int 3) (C := RX0) (T := TX0) (N := 2) hx hb hts hi_0 hown hK hP 0 rfl rfl 1 (by decide) hf_15 (fun _ h9 => h9) rfl dX0_append_1 ?_
  refine lv_sipush (v := 160) hx hb dX0_append_4 (by decide) ?_
  refine lv_icmp_ge (tgt := 30) hx hb dX0_append_7 (by decide) (fun c_1 => ?_) (fun c_1 => ?_)
  · exact absurd c_1 (by decide)
  · refine lv_aload_n hx hb dX0_append_10 rfl (lv_at hl 0 rfl) ?_
    refine va_get (D := (dC, dI)) (ci := 0) (v := .ref h_cell) (C := RX0) (T := TX0) (N := 2) hx hb hts hi_0 hown hK hP 0 rfl rfl 0 (by decide) hf_9 (fun _ h9 => h9) rfl dX0_append_11 ?_
    refine lv_aload_n hx hb dX0_append_14 rfl (lv_at hl 0 rfl) ?_
    refine va_get (D := (dC, dI)) (ci := 0) (v := .int 3) (C := RX0) (T := TX0) (N := 2) hx hb hts hi_0 hown hK hP 0 rfl rfl 1 (by decide) hf_15 (fun _ h9 => h9) rfl dX0_append_15 ?_
    refine lv_iload_n hx hb dX0_append_18 rfl (lv_at hl 1 rfl) ?_
    refine va_iast hx hb hK hP hD hS 1 0 rfl rfl (ki_inl (by decide)) dX0_append_19 (fun H locs hP hD hS => ?_)
    have hP : va_P (dC, dI) vwCl [(h_row, .inr (0, [.ref h_cell, .int 3])), (h_cell, .inl (cyI, 160, .inl (upd ff (3 : Int32).toNatClampNeg p0)))] H := hP
    have hD : va_D A [(h_row, .inr (0, [.ref h_cell, .int 3])), (h_cell, .inl (cyI, 160, .inl (upd ff (3 : Int32).toNatClampNeg p0)))] := hD
    refine lv_aload_n hx hb dX0_append_20 rfl (lv_at hl 0 rfl) ?_
    refine lv_dup hx hb dX0_append_21 rfl ?_
    refine va_get (D := (dC, dI)) (ci := 0) (v := .int 3) (C := RX0) (T := TX0) (N := 2) hx hb hts hi_0 hown hK hP 0 rfl rfl 1 (by decide) hf_15 (fun _ h9 => h9) rfl dX0_append_22 ?_
    refine lv_iconst (v := 1) hx hb dX0_append_25 (by decide) ?_
    refine lv_iadd hx hb dX0_append_26 ?_
    refine W.eq (g2 := F0 m 27 ls [.int 4, .ref h_row]) (by first | rfl | (congr 2; decide)) ?_
    refine va_put (D := (dC, dI)) (ci := 0) (v := .int 4) (ty := .int) (C := RX0) (T := TX0) (N := 2) hx hb hts hi_0 tyX0 tyX0_ok nmX0 hown hK hP hD hS 0 rfl rfl 1 (by decide) hf_15 (fun _ h9 => h9) rfl (by decide +kernel) rfl rfl (Nat.le_of_ble_eq_true rfl) dX0_append_27 (fun H locs hP hD hS => ?_)
    have hP : va_P (dC, dI) vwCl [(h_row, .inr (0, [.ref h_cell, .int 4])), (h_cell, .inl (cyI, 160, .inl (upd ff (3 : Int32).toNatClampNeg p0)))] H := hP
    have hD : va_D A [(h_row, .inr (0, [.ref h_cell, .int 4])), (h_cell, .inl (cyI, 160, .inl (upd ff (3 : Int32).toNatClampNeg p0)))] := hD
    have hP9 := hP.sub (ws' := [(h_row, .inr (0, [.ref h_cell, .int 4])), (h_cell, .inl (cyI, 160, .inl (upd ff (3 : Int32).toNatClampNeg p0)))]) [0, 1] rfl
    have hD9 := hD.sub (ws' := [(h_row, .inr (0, [.ref h_cell, .int 4])), (h_cell, .inl (cyI, 160, .inl (upd ff (3 : Int32).toNatClampNeg p0)))]) [0, 1] (by decide) rfl
    have hK9 := hK.sub (tys' := [(cyI, .int)]) [0] rfl
    exact W.vret hx hb hr (fun t ht hW => ⟨⟨(), rfl, trivial, by rw [ht]; exact hP9, va_K.moved hW.alike hK9, hD9⟩, hS.F ht⟩) hS.2.2 dX0_append_30

set_option maxHeartbeats 4000000 in
set_option maxRecDepth 100000 in
/-- feed on a fresh object -/
theorem c_X4_feed (l : Launch) (dC : Nat → ClassId) (dI : Nat → Nat → Nat) (h0 : Nat) (h_row : Nat) (h_tree : Nat) (h_tally : Nat) (h_votes : Nat) (h_otherVotes : Nat) (h_wins : Nat) (h_fewest : Nat) (h_cell : Nat) (cyI : ClassId) (ff : Nat → Int32) (p0 : Int32) (p1 : Int32) (sz : Nat) : Met l yX4_feed wsX4_feed ({ frames := 1, cells := 0, slots := 0, locals := 45 }) (va_Pc [.ref h0, .int p0, .int p1] (fun U => U.heap.size = sz ∧ va_P (dC, dI) vwCl [(h0, .inr (4, [.ref h_row, .ref h_tree, .ref h_tally, .ref h_votes, .ref h_otherVotes, .ref h_wins, .ref h_fewest, .int 2, .int 1])), (h_row, .inr (0, [.ref h_cell, .int 0])), (h_cell, .inl (cyI, 160, .inl ff))] U.heap ∧ va_K (dC, dI) vwCl [(cyI, .int)] U ∧ va_D (fun _ => True) [(h0, .inr (4, [.ref h_row, .ref h_tree, .ref h_tally, .ref h_votes, .ref h_otherVotes, .ref h_wins, .ref h_fewest, .int 2, .int 1])), (h_row, .inr (0, [.ref h_cell, .int 0])), (h_cell, .inl (cyI, 160, .inl ff))])) (va_Qi (fun (r : Int32) (_ : Unit) => r = 4) (fun (_ : Unit) (t : State) => va_P (dC, dI) vwCl [] t.heap ∧ va_K (dC, dI) vwCl [(cyI, .int)] t ∧ va_D (va_A [(h0, .inr (4, [.ref h_row, .ref h_tree, .ref h_tally, .ref h_votes, .ref h_otherVotes, .ref h_wins, .ref h_fewest, .int 2, .int 1])), (h_row, .inr (0, [.ref h_cell, .int 0])), (h_cell, .inl (cyI, 160, .inl ff))] sz) []) (va_A [(h0, .inr (4, [.ref h_row, .ref h_tree, .ref h_tally, .ref h_votes, .ref h_otherVotes, .ref h_wins, .ref h_fewest, .int 2, .int 1])), (h_row, .inr (0, [.ref h_cell, .int 0])), (h_cell, .inl (cyI, 160, .inl ff))] sz)) 0 0 (va_A [(h0, .inr (4, [.ref h_row, .ref h_tree, .ref h_tally, .ref h_votes, .ref h_otherVotes, .ref h_wins, .ref h_fewest, .int 2, .int 1])), (h_row, .inr (0, [.ref h_cell, .int 0])), (h_cell, .inl (cyI, 160, .inl ff))] sz) := by
  refine Met.ofW (cc := cX4_feed) (maxL := 3) (ret := (some .int)) (by decide) rfl ?_
  intro p e s m args below meth c s₁ B hml hv
  obtain ⟨rfl, hsz, hP, hK, hD0⟩ := hv
  have hx := B.exec
  have hb := B.bytes
  have hr := B.returns
  have hts := atoms_spec (ws := wsX4_feed) B.pre
  have hown : s.vm.findClass RX4 = some m.cls := findClass_of_methodNamed B.named
  have hlocks := B.notSynchronized
  subst hsz
  have hD := hD0.self (sz := s.heap.size)
  generalize hAe : va_A [(h0, .inr (4, [.ref h_row, .ref h_tree, .ref h_tally, .ref h_votes, .ref h_otherVotes, .ref h_wins, .ref h_fewest, .int 2, .int 1])), (h_row, .inr (0, [.ref h_cell, .int 0])), (h_cell, .inl (cyI, 160, .inl ff))] s.heap.size = A at hD ⊢
  have hA : ∀ q : Nat, s.heap.size ≤ q → A q := fun q h => by rw [← hAe]; exact Or.inr h
  have hS : va_S A s.heap s.heap [] := va_S.rf
  have hP : va_P (dC, dI) vwCl [(h0, .inr (4, [.ref h_row, .ref h_tree, .ref h_tally, .ref h_votes, .ref h_otherVotes, .ref h_wins, .ref h_fewest, .int 2, .int 1])), (h_row, .inr (0, [.ref h_cell, .int 0])), (h_cell, .inl (cyI, 160, .inl ff))] s.heap := hP
  have hl := lv_entry ([.ref h0, .int p0, .int p1]) (n := 3) (Nat.le_of_ble_eq_true rfl)
  rw [lg_entry_eq]
  generalize (lg_sl ([.ref h0, .int p0, .int p1]) ++ List.replicate (3 - (lg_sl ([.ref h0, .int p0, .int p1])).length) Slot.unset).toArray = ls at hl ⊢
  have hl : lv_has ls 3 [(0, .ref h0), (1, .int p0), (2, .int p1)] := hl
  have hf_12 := hts (.fieldLink RX4 12 "MajorityIndex" "row" "LMajorityIndex$Row;") (by decide +kernel)
  have hi_4 : ∀ w ∈ u_ws RX4 TX4 9, w ∈ wsX4_feed := by decide +kernel
  have hf_57 := hts (.fieldLink RX4 57 "MajorityIndex$Row" "length" "I") (by decide +kernel)
  have hi_0 : ∀ w ∈ u_ws RX0 TX0 2, w ∈ wsX4_feed := by decide +kernel
  have hf_53 := hts (.fieldLink RX4 53 "MajorityIndex" "treeIsOld" "Z") (by decide +kernel)
  refine lv_aload_n hx hb dX4_feed_0 rfl (lv_at hl 0 rfl) ?_
  refine va_get (D := (dC, dI)) (ci := 4) (v := .ref h_row) (C := RX4) (T := TX4) (N := 9) hx hb hts hi_4 hown hK hP 0 rfl rfl 0 (by decide) hf_12 (fun _ h9 => h9) rfl dX4_feed_1 ?_
  refine va_get (D := (dC, dI)) (ci := 0) (v := .int 0) (C := RX0) (T := TX0) (N := 2) hx hb hts hi_0 hown hK hP 1 rfl rfl 1 (by decide) hf_57 (fun _ h9 => h9) rfl dX4_feed_4 ?_
  refine lv_iconst (v := 4) hx hb dX4_feed_7 (by decide) ?_
  refine lv_iadd hx hb dX4_feed_8 ?_
  refine W.eq (g2 := F0 m 9 ls [.int 4]) (by first | rfl | (congr 2; decide)) ?_
  refine lv_sipush (v := 160) hx hb dX4_feed_9 (by decide) ?_
  refine lv_icmp_le (tgt := 17) hx hb dX4_feed_12 (by decide) (fun c_1 => ?_) (fun c_1 => ?_)
  · refine lv_aload_n hx hb dX4_feed_17 rfl (lv_at hl 0 rfl) ?_
    refine va_get (D := (dC, dI)) (ci := 4) (v := .ref h_row) (C := RX4) (T := TX4) (N := 9) hx hb hts hi_4 hown hK hP 0 rfl rfl 0 (by decide) hf_12 (fun _ h9 => h9) rfl dX4_feed_18 ?_
    refine lv_iload_n hx hb dX4_feed_21 rfl (lv_at hl 1 rfl) ?_
    refine lv_bipush (v := 16) hx hb dX4_feed_22 (by decide) ?_
    refine lv_ishr hx hb dX4_feed_24 ?_
    have hPc := hP.sub (ws' := [(h_row, .inr (0, [.ref h_cell, .int 0])), (h_cell, .inl (cyI, 160, .inl ff))]) [1, 2] rfl
    have hKc := hK.sub (tys' := [(cyI, .int)]) [0] rfl
    have hDc := hD.sub (ws' := [(h_row, .inr (0, [.ref h_cell, .int 0])), (h_cell, .inl (cyI, 160, .inl ff))]) [1, 2] (by decide) rfl
    have hFc := va_free (wc := [(h_row, .inr (0, [.ref h_cell, .int 0])), (h_cell, .inl (cyI, 160, .inl ff))]) hD hS hA [1, 2] rfl
    refine va_callv (va_runV (As := [.int (p0 >>> (16 &&& 31))]) (rest := []) ⟨hx, hb, hml, hown, hts⟩ (c_X0_append_0 l dC dI h_row h_cell cyI ff (p0 >>> (16 &&& 31)) s.heap.size) (cwV 1 hts gX4_feed_X0_append rfl rfl rfl (by decide +kernel) ⟨Nat.le_of_ble_eq_true rfl, Nat.le_of_ble_eq_true rfl⟩) ⟨fun a U g mk q => by obtain ⟨q0, q1, qP, qK, qD⟩ := q; exact ⟨q0, q1, qP, va_K.moved (u := U) (U := U.calling g mk a) (Vm.Alike.refl U.vm) qK, qD⟩, va_recv hKc hPc (ci := 0) (q0 := 0) rfl rfl, fun U hU hW => ⟨rfl, by rw [hU], by rw [hU]; exact hPc, va_K.moved hW.alike hKc, hDc.weaken (fun _ _ _ _ => trivial)⟩⟩ rfl rfl hl.1 rfl (lv_room (Nat.le_of_ble_eq_true rfl)) dX4_feed_25 ⟨Nat.le_of_ble_eq_true rfl, Nat.le_of_ble_eq_true rfl⟩) hS (fun q _ h => hFc q h) hFc (fun u t H1 locs ht hvm w_2 hB hz1 hk1 hS => ?_)
    obtain ⟨hP1, hK1, hD1⟩ := hB
    rw [ht] at hP1
    have hK1 := va_K.moved hvm.symm hK1
    obtain ⟨hP, hD⟩ := va_join (wr := [(h0, .inr (4, [.ref h_row, .ref h_tree, .ref h_tally, .ref h_votes, .ref h_otherVotes, .ref h_wins, .ref h_fewest, .int 2, .int 1]))]) (w1 := [(h_row, .inr (0, [.ref h_cell, .int 1])), (h_cell, .inl (cyI, 160, .inl (upd ff (0 : Int32).toNatClampNeg (p0 >>> (16 &&& 31)))))]) hP hD [1, 2] [0] rfl rfl (by decide) (by decide) hk1 hFc hP1 hD1
    clear hP1 hD1 hK1 hk1 hz1 hFc hDc hPc hKc
    generalize H1 = H at hP hS ⊢
    have hP : va_P (dC, dI) vwCl [(h0, .inr (4, [.ref h_row, .ref h_tree, .ref h_tally, .ref h_votes, .ref h_otherVotes, .ref h_wins, .ref h_fewest, .int 2, .int 1])), (h_row, .inr (0, [.ref h_cell, .int 1])), (h_cell, .inl (cyI, 160, .inl (upd ff (0 : Int32).toNatClampNeg (p0 >>> (16 &&& 31)))))] H := hP
    have hD : va_D A [(h0, .inr (4, [.ref h_row, .ref h_tree, .ref h_tally, .ref h_votes, .ref h_otherVotes, .ref h_wins, .ref h_fewest, .int 2, .int 1])), (h_row, .inr (0, [.ref h_cell, .int 1])), (h_cell, .inl (cyI, 160, .inl (upd ff (0 : Int32).toNatClampNeg (p0 >>> (16 &&& 31)))))] := hD
    refine lv_aload_n hx hb dX4_feed_28 rfl (lv_at hl 0 rfl) ?_
    refine va_get (D := (dC, dI)) (ci := 4) (v := .ref h_row) (C := RX4) (T := TX4) (N := 9) hx hb hts hi_4 hown hK hP 0 rfl rfl 0 (by decide) hf_12 (fun _ h9 => h9) rfl dX4_feed_29 ?_
    refine lv_iload_n hx hb dX4_feed_32 rfl (lv_at hl 1 rfl) ?_
    refine lv_i2s hx hb dX4_feed_33 rfl ?_
    have hPc := hP.sub (ws' := [(h_row, .inr (0, [.ref h_cell, .int 1])), (h_cell, .inl (cyI, 160, .inl (upd ff (0 : Int32).toNatClampNeg (p0 >>> (16 &&& 31)))))]) [1, 2] rfl
    have hKc := hK.sub (tys' := [(cyI, .int)]) [0] rfl
    have hDc := hD.sub (ws' := [(h_row, .inr (0, [.ref h_cell, .int 1])), (h_cell, .inl (cyI, 160, .inl (upd ff (0 : Int32).toNatClampNeg (p0 >>> (16 &&& 31)))))]) [1, 2] (by decide) rfl
    have hFc := va_free (wc := [(h_row, .inr (0, [.ref h_cell, .int 1])), (h_cell, .inl (cyI, 160, .inl (upd ff (0 : Int32).toNatClampNeg (p0 >>> (16 &&& 31)))))]) hD hS hA [1, 2] rfl
    refine va_callv (va_runV (As := [.int p0.toInt16.toInt32]) (rest := []) ⟨hx, hb, hml, hown, hts⟩ (c_X0_append_1 l dC dI h_row h_cell cyI (upd ff (0 : Int32).toNatClampNeg (p0 >>> (16 &&& 31))) p0.toInt16.toInt32 H.size) (cwV 1 hts gX4_feed_X0_append rfl rfl rfl (by decide +kernel) ⟨Nat.le_of_ble_eq_true rfl, Nat.le_of_ble_eq_true rfl⟩) ⟨fun a U g mk q => by obtain ⟨q0, q1, qP, qK, qD⟩ := q; exact ⟨q0, q1, qP, va_K.moved (u := U) (U := U.calling g mk a) (Vm.Alike.refl U.vm) qK, qD⟩, va_recv hKc hPc (ci := 0) (q0 := 0) rfl rfl, fun U hU hW => ⟨rfl, by rw [hU], by rw [hU]; exact hPc, va_K.moved hW.alike hKc, hDc.weaken (fun _ _ _ _ => trivial)⟩⟩ rfl rfl hl.1 rfl (lv_room (Nat.le_of_ble_eq_true rfl)) dX4_feed_34 ⟨Nat.le_of_ble_eq_true rfl, Nat.le_of_ble_eq_true rfl⟩) hS (fun q _ h => hFc q h) hFc (fun u t H1 locs ht hvm w_3 hB hz1 hk1 hS => ?_)
    obtain ⟨hP1, hK1, hD1⟩ := hB
    rw [ht] at hP1
    have hK1 := va_K.moved hvm.symm hK1
    obtain ⟨hP, hD⟩ := va_join (wr := [(h0, .inr (4, [.ref h_row, .ref h_tree, .ref h_tally, .ref h_votes, .ref h_otherVotes, .ref h_wins, .ref h_fewest, .int 2, .int 1]))]) (w1 := [(h_row, .inr (0, [.ref h_cell, .int 2])), (h_cell, .inl (cyI, 160, .inl (upd (upd ff (0 : Int32).toNatClampNeg (p0 >>> (16 &&& 31))) (1 : Int32).toNatClampNeg p0.toInt16.toInt32)))]) hP hD [1, 2] [0] rfl rfl (by decide) (by decide) hk1 hFc hP1 hD1
    clear hP1 hD1 hK1 hk1 hz1 hFc hDc hPc hKc
    generalize H1 = H at hP hS ⊢
    have hP : va_P (dC, dI) vwCl [(h0, .inr (4, [.ref h_row, .ref h_tree, .ref h_tally, .ref h_votes, .ref h_otherVotes, .ref h_wins, .ref h_fewest, .int 2, .int 1])), (h_row, .inr (0, [.ref h_cell, .int 2])), (h_cell, .inl (cyI, 160, .inl (upd (upd ff (0 : Int32).toNatClampNeg (p0 >>> (16 &&& 31))) (1 : Int32).toNatClampNeg p0.toInt16.toInt32)))] H := hP
    have hD : va_D A [(h0, .inr (4, [.ref h_row, .ref h_tree, .ref h_tally, .ref h_votes, .ref h_otherVotes, .ref h_wins, .ref h_fewest, .int 2, .int 1])), (h_row, .inr (0, [.ref h_cell, .int 2])), (h_cell, .inl (cyI, 160, .inl (upd (upd ff (0 : Int32).toNatClampNeg (p0 >>> (16 &&& 31))) (1 : Int32).toNatClampNeg p0.toInt16.toInt32)))] := hD
    refine lv_aload_n hx hb dX4_feed_37 rfl (lv_at hl 0 rfl) ?_
    refine va_get (D := (dC, dI)) (ci := 4) (v := .ref h_row) (C := RX4) (T := TX4) (N := 9) hx hb hts hi_4 hown hK hP 0 rfl rfl 0 (by decide) hf_12 (fun _ h9 => h9) rfl dX4_feed_38 ?_
    refine lv_iload_n hx hb dX4_feed_41 rfl (lv_at hl 2 rfl) ?_
    refine lv_bipush (v := 16) hx hb dX4_feed_42 (by decide) ?_
    refine lv_ishr hx hb dX4_feed_44 ?_
    have hPc := hP.sub (ws' := [(h_row, .inr (0, [.ref h_cell, .int 2])), (h_cell, .inl (cyI, 160, .inl (upd (upd ff (0 : Int32).toNatClampNeg (p0 >>> (16 &&& 31))) (1 : Int32).toNatClampNeg p0.toInt16.toInt32)))]) [1, 2] rfl
    have hKc := hK.sub (tys' := [(cyI, .int)]) [0] rfl
    have hDc := hD.sub (ws' := [(h_row, .inr (0, [.ref h_cell, .int 2])), (h_cell, .inl (cyI, 160, .inl (upd (upd ff (0 : Int32).toNatClampNeg (p0 >>> (16 &&& 31))) (1 : Int32).toNatClampNeg p0.toInt16.toInt32)))]) [1, 2] (by decide) rfl
    have hFc := va_free (wc := [(h_row, .inr (0, [.ref h_cell, .int 2])), (h_cell, .inl (cyI, 160, .inl (upd (upd ff (0 : Int32).toNatClampNeg (p0 >>> (16 &&& 31))) (1 : Int32).toNatClampNeg p0.toInt16.toInt32)))]) hD hS hA [1, 2] rfl
    refine va_callv (va_runV (As := [.int (p1 >>> (16 &&& 31))]) (rest := []) ⟨hx, hb, hml, hown, hts⟩ (c_X0_append_2 l dC dI h_row h_cell cyI (upd (upd ff (0 : Int32).toNatClampNeg (p0 >>> (16 &&& 31))) (1 : Int32).toNatClampNeg p0.toInt16.toInt32) (p1 >>> (16 &&& 31)) H.size) (cwV 1 hts gX4_feed_X0_append rfl rfl rfl (by decide +kernel) ⟨Nat.le_of_ble_eq_true rfl, Nat.le_of_ble_eq_true rfl⟩) ⟨fun a U g mk q => by obtain ⟨q0, q1, qP, qK, qD⟩ := q; exact ⟨q0, q1, qP, va_K.moved (u := U) (U := U.calling g mk a) (Vm.Alike.refl U.vm) qK, qD⟩, va_recv hKc hPc (ci := 0) (q0 := 0) rfl rfl, fun U hU hW => ⟨rfl, by rw [hU], by rw [hU]; exact hPc, va_K.moved hW.alike hKc, hDc.weaken (fun _ _ _ _ => trivial)⟩⟩ rfl rfl hl.1 rfl (lv_room (Nat.le_of_ble_eq_true rfl)) dX4_feed_45 ⟨Nat.le_of_ble_eq_true rfl, Nat.le_of_ble_eq_true rfl⟩) hS (fun q _ h => hFc q h) hFc (fun u t H1 locs ht hvm w_4 hB hz1 hk1 hS => ?_)
    obtain ⟨hP1, hK1, hD1⟩ := hB
    rw [ht] at hP1
    have hK1 := va_K.moved hvm.symm hK1
    obtain ⟨hP, hD⟩ := va_join (wr := [(h0, .inr (4, [.ref h_row, .ref h_tree, .ref h_tally, .ref h_votes, .ref h_otherVotes, .ref h_wins, .ref h_fewest, .int 2, .int 1]))]) (w1 := [(h_row, .inr (0, [.ref h_cell, .int 3])), (h_cell, .inl (cyI, 160, .inl (upd (upd (upd ff (0 : Int32).toNatClampNeg (p0 >>> (16 &&& 31))) (1 : Int32).toNatClampNeg p0.toInt16.toInt32) (2 : Int32).toNatClampNeg (p1 >>> (16 &&& 31)))))]) hP hD [1, 2] [0] rfl rfl (by decide) (by decide) hk1 hFc hP1 hD1
    clear hP1 hD1 hK1 hk1 hz1 hFc hDc hPc hKc
    generalize H1 = H at hP hS ⊢
    have hP : va_P (dC, dI) vwCl [(h0, .inr (4, [.ref h_row, .ref h_tree, .ref h_tally, .ref h_votes, .ref h_otherVotes, .ref h_wins, .ref h_fewest, .int 2, .int 1])), (h_row, .inr (0, [.ref h_cell, .int 3])), (h_cell, .inl (cyI, 160, .inl (upd (upd (upd ff (0 : Int32).toNatClampNeg (p0 >>> (16 &&& 31))) (1 : Int32).toNatClampNeg p0.toInt16.toInt32) (2 : Int32).toNatClampNeg (p1 >>> (16 &&& 31)))))] H := hP
    have hD : va_D A [(h0, .inr (4, [.ref h_row, .ref h_tree, .ref h_tally, .ref h_votes, .ref h_otherVotes, .ref h_wins, .ref h_fewest, .int 2, .int 1])), (h_row, .inr (0, [.ref h_cell, .int 3])), (h_cell, .inl (cyI, 160, .inl (upd (upd (upd ff (0 : Int32).toNatClampNeg (p0 >>> (16 &&& 31))) (1 : Int32).toNatClampNeg p0.toInt16.toInt32) (2 : Int32).toNatClampNeg (p1 >>> (16 &&& 31)))))] := hD
    refine lv_aload_n hx hb dX4_feed_48 rfl (lv_at hl 0 rfl) ?_
    refine va_get (D := (dC, dI)) (ci := 4) (v := .ref h_row) (C := RX4) (T := TX4) (N := 9) hx hb hts hi_4 hown hK hP 0 rfl rfl 0 (by decide) hf_12 (fun _ h9 => h9) rfl dX4_feed_49 ?_
    refine lv_iload_n hx hb dX4_feed_52 rfl (lv_at hl 2 rfl) ?_
    refine lv_i2s hx hb dX4_feed_53 rfl ?_
    have hPc := hP.sub (ws' := [(h_row, .inr (0, [.ref h_cell, .int 3])), (h_cell, .inl (cyI, 160, .inl (upd (upd (upd ff (0 : Int32).toNatClampNeg (p0 >>> (16 &&& 31))) (1 : Int32).toNatClampNeg p0.toInt16.toInt32) (2 : Int32).toNatClampNeg (p1 >>> (16 &&& 31)))))]) [1, 2] rfl
    have hKc := hK.sub (tys' := [(cyI, .int)]) [0] rfl
    have hDc := hD.sub (ws' := [(h_row, .inr (0, [.ref h_cell, .int 3])), (h_cell, .inl (cyI, 160, .inl (upd (upd (upd ff (0 : Int32).toNatClampNeg (p0 >>> (16 &&& 31))) (1 : Int32).toNatClampNeg p0.toInt16.toInt32) (2 : Int32).toNatClampNeg (p1 >>> (16 &&& 31)))))]) [1, 2] (by decide) rfl
    have hFc := va_free (wc := [(h_row, .inr (0, [.ref h_cell, .int 3])), (h_cell, .inl (cyI, 160, .inl (upd (upd (upd ff (0 : Int32).toNatClampNeg (p0 >>> (16 &&& 31))) (1 : Int32).toNatClampNeg p0.toInt16.toInt32) (2 : Int32).toNatClampNeg (p1 >>> (16 &&& 31)))))]) hD hS hA [1, 2] rfl
    refine va_callv (va_runV (As := [.int p1.toInt16.toInt32]) (rest := []) ⟨hx, hb, hml, hown, hts⟩ (c_X0_append_3 l dC dI h_row h_cell cyI (upd (upd (upd ff (0 : Int32).toNatClampNeg (p0 >>> (16 &&& 31))) (1 : Int32).toNatClampNeg p0.toInt16.toInt32) (2 : Int32).toNatClampNeg (p1 >>> (16 &&& 31))) p1.toInt16.toInt32 H.size) (cwV 1 hts gX4_feed_X0_append rfl rfl rfl (by decide +kernel) ⟨Nat.le_of_ble_eq_true rfl, Nat.le_of_ble_eq_true rfl⟩) ⟨fun a U g mk q => by obtain ⟨q0, q1, qP, qK, qD⟩ := q; exact ⟨q0, q1, qP, va_K.moved (u := U) (U := U.calling g mk a) (Vm.Alike.refl U.vm) qK, qD⟩, va_recv hKc hPc (ci := 0) (q0 := 0) rfl rfl, fun U hU hW => ⟨rfl, by rw [hU], by rw [hU]; exact hPc, va_K.moved hW.alike hKc, hDc.weaken (fun _ _ _ _ => trivial)⟩⟩ rfl rfl hl.1 rfl (lv_room (Nat.le_of_ble_eq_true rfl)) dX4_feed_54 ⟨Nat.le_of_ble_eq_true rfl, Nat.le_of_ble_eq_true rfl⟩) hS (fun q _ h => hFc q h) hFc (fun u t H1 locs ht hvm w_5 hB hz1 hk1 hS => ?_)
    obtain ⟨hP1, hK1, hD1⟩ := hB
    rw [ht] at hP1
    have hK1 := va_K.moved hvm.symm hK1
    obtain ⟨hP, hD⟩ := va_join (wr := [(h0, .inr (4, [.ref h_row, .ref h_tree, .ref h_tally, .ref h_votes, .ref h_otherVotes, .ref h_wins, .ref h_fewest, .int 2, .int 1]))]) (w1 := [(h_row, .inr (0, [.ref h_cell, .int 4])), (h_cell, .inl (cyI, 160, .inl (upd (upd (upd (upd ff (0 : Int32).toNatClampNeg (p0 >>> (16 &&& 31))) (1 : Int32).toNatClampNeg p0.toInt16.toInt32) (2 : Int32).toNatClampNeg (p1 >>> (16 &&& 31))) (3 : Int32).toNatClampNeg p1.toInt16.toInt32)))]) hP hD [1, 2] [0] rfl rfl (by decide) (by decide) hk1 hFc hP1 hD1
    clear hP1 hD1 hK1 hk1 hz1 hFc hDc hPc hKc
    generalize H1 = H at hP hS ⊢
    have hP : va_P (dC, dI) vwCl [(h0, .inr (4, [.ref h_row, .ref h_tree, .ref h_tally, .ref h_votes, .ref h_otherVotes, .ref h_wins, .ref h_fewest, .int 2, .int 1])), (h_row, .inr (0, [.ref h_cell, .int 4])), (h_cell, .inl (cyI, 160, .inl (upd (upd (upd (upd ff (0 : Int32).toNatClampNeg (p0 >>> (16 &&& 31))) (1 : Int32).toNatClampNeg p0.toInt16.toInt32) (2 : Int32).toNatClampNeg (p1 >>> (16 &&& 31))) (3 : Int32).toNatClampNeg p1.toInt16.toInt32)))] H := hP
    have hD : va_D A [(h0, .inr (4, [.ref h_row, .ref h_tree, .ref h_tally, .ref h_votes, .ref h_otherVotes, .ref h_wins, .ref h_fewest, .int 2, .int 1])), (h_row, .inr (0, [.ref h_cell, .int 4])), (h_cell, .inl (cyI, 160, .inl (upd (upd (upd (upd ff (0 : Int32).toNatClampNeg (p0 >>> (16 &&& 31))) (1 : Int32).toNatClampNeg p0.toInt16.toInt32) (2 : Int32).toNatClampNeg (p1 >>> (16 &&& 31))) (3 : Int32).toNatClampNeg p1.toInt16.toInt32)))] := hD
    refine lv_aload_n hx hb dX4_feed_57 rfl (lv_at hl 0 rfl) ?_
    refine lv_iconst (v := 1) hx hb dX4_feed_58 (by decide) ?_
    refine va_put (D := (dC, dI)) (ci := 4) (v := .int 1) (ty := .boolean) (C := RX4) (T := TX4) (N := 9) hx hb hts hi_4 tyX4 tyX4_ok nmX4 hown hK hP hD hS 0 rfl rfl 8 (by decide) hf_53 (fun _ h9 => h9) rfl (by decide +kernel) (by decide) (by decide) (Nat.le_of_ble_eq_true rfl) dX4_feed_59 (fun H locs hP hD hS => ?_)
    have hP : va_P (dC, dI) vwCl [(h0, .inr (4, [.ref h_row, .ref h_tree, .ref h_tally, .ref h_votes, .ref h_otherVotes, .ref h_wins, .ref h_fewest, .int 2, .int 1])), (h_row, .inr (0, [.ref h_cell, .int 4])), (h_cell, .inl (cyI, 160, .inl (upd (upd (upd (upd ff (0 : Int32).toNatClampNeg (p0 >>> (16 &&& 31))) (1 : Int32).toNatClampNeg p0.toInt16.toInt32) (2 : Int32).toNatClampNeg (p1 >>> (16 &&& 31))) (3 : Int32).toNatClampNeg p1.toInt16.toInt32)))] H := hP
    have hD : va_D A [(h0, .inr (4, [.ref h_row, .ref h_tree, .ref h_tally, .ref h_votes, .ref h_otherVotes, .ref h_wins, .ref h_fewest, .int 2, .int 1])), (h_row, .inr (0, [.ref h_cell, .int 4])), (h_cell, .inl (cyI, 160, .inl (upd (upd (upd (upd ff (0 : Int32).toNatClampNeg (p0 >>> (16 &&& 31))) (1 : Int32).toNatClampNeg p0.toInt16.toInt32) (2 : Int32).toNatClampNeg (p1 >>> (16 &&& 31))) (3 : Int32).toNatClampNeg p1.toInt16.toInt32)))] := hD
    refine lv_aload_n hx hb dX4_feed_62 rfl (lv_at hl 0 rfl) ?_
    refine va_get (D := (dC, dI)) (ci := 4) (v := .ref h_row) (C := RX4) (T := TX4) (N := 9) hx hb hts hi_4 hown hK hP 0 rfl rfl 0 (by decide) hf_12 (fun _ h9 => h9) rfl dX4_feed_63 ?_
    refine va_get (D := (dC, dI)) (ci := 0) (v := .int 4) (C := RX0) (T := TX0) (N := 2) hx hb hts hi_0 hown hK hP 1 rfl rfl 1 (by decide) hf_57 (fun _ h9 => h9) rfl dX4_feed_66 ?_
    have hP9 := hP.sub (ws' := []) [] rfl
    have hD9 := hD.sub (ws' := []) [] (by decide) rfl
    have hK9 := hK.sub (tys' := [(cyI, .int)]) [0] rfl
    exact W.iret (v := 4) hx hb hr (fun t ht hW => ⟨⟨4, (), rfl, rfl, by rw [ht]; exact hP9, va_K.moved hW.alike hK9, hD9⟩, hS.F ht⟩) hS.2.2 dX4_feed_69
  · exact absurd c_1 (by decide)

set_option maxHeartbeats 4000000 in
set_option maxRecDepth 100000 in
/-- slots on a fresh object -/
theorem c_X4_slots (l : Launch) (dC : Nat → ClassId) (dI : Nat → Nat → Nat) (h0 : Nat) (h_row : Nat) (h_tree : Nat) (h_tally : Nat) (h_votes : Nat) (h_otherVotes : Nat) (h_wins : Nat) (h_fewest : Nat) (p0 : Int32) (sz : Nat) : Met l yX4_slots wsX4_slots ({ frames := 0, cells := 0, slots := 0, locals := 0 }) (va_Pc [.ref h0, .int p0] (fun U => U.heap.size = sz ∧ va_P (dC, dI) vwCl [(h0, .inr (4, [.ref h_row, .ref h_tree, .ref h_tally, .ref h_votes, .ref h_otherVotes, .ref h_wins, .ref h_fewest, .int 2, .int 1]))] U.heap ∧ va_K (dC, dI) vwCl [] U ∧ va_D (fun _ => True) [(h0, .inr (4, [.ref h_row, .ref h_tree, .ref h_tally, .ref h_votes, .ref h_otherVotes, .ref h_wins, .ref h_fewest, .int 2, .int 1]))])) (va_Qi (fun (r : Int32) (_ : Unit) => (r = 2 ∧ (1 ≤ p0.toInt ∧ p0.toInt ≤ 6)) ∨ (r = (-1) ∧ (p0.toInt < 1 ∨ 6 < p0.toInt))) (fun (_ : Unit) (t : State) => va_P (dC, dI) vwCl [] t.heap ∧ va_K (dC, dI) vwCl [] t ∧ va_D (va_A [(h0, .inr (4, [.ref h_row, .ref h_tree, .ref h_tally, .ref h_votes, .ref h_otherVotes, .ref h_wins, .ref h_fewest, .int 2, .int 1]))] sz) []) (va_A [(h0, .inr (4, [.ref h_row, .ref h_tree, .ref h_tally, .ref h_votes, .ref h_otherVotes, .ref h_wins, .ref h_fewest, .int 2, .int 1]))] sz)) 0 0 (va_A [(h0, .inr (4, [.ref h_row, .ref h_tree, .ref h_tally, .ref h_votes, .ref h_otherVotes, .ref h_wins, .ref h_fewest, .int 2, .int 1]))] sz) := by
  refine Met.ofW (cc := cX4_slots) (maxL := 3) (ret := (some .int)) (by decide) rfl ?_
  intro p e s m args below meth c s₁ B hml hv
  obtain ⟨rfl, hsz, hP, hK, hD0⟩ := hv
  have hx := B.exec
  have hb := B.bytes
  have hr := B.returns
  have hts := atoms_spec (ws := wsX4_slots) B.pre
  have hown : s.vm.findClass RX4 = some m.cls := findClass_of_methodNamed B.named
  have hlocks := B.notSynchronized
  subst hsz
  have hD := hD0.self (sz := s.heap.size)
  generalize hAe : va_A [(h0, .inr (4, [.ref h_row, .ref h_tree, .ref h_tally, .ref h_votes, .ref h_otherVotes, .ref h_wins, .ref h_fewest, .int 2, .int 1]))] s.heap.size = A at hD ⊢
  have hA : ∀ q : Nat, s.heap.size ≤ q → A q := fun q h => by rw [← hAe]; exact Or.inr h
  have hS : va_S A s.heap s.heap [] := va_S.rf
  have hP : va_P (dC, dI) vwCl [(h0, .inr (4, [.ref h_row, .ref h_tree, .ref h_tally, .ref h_votes, .ref h_otherVotes, .ref h_wins, .ref h_fewest, .int 2, .int 1]))] s.heap := hP
  have hl := lv_entry ([.ref h0, .int p0]) (n := 3) (Nat.le_of_ble_eq_true rfl)
  rw [lg_entry_eq]
  generalize (lg_sl ([.ref h0, .int p0]) ++ List.replicate (3 - (lg_sl ([.ref h0, .int p0])).length) Slot.unset).toArray = ls at hl ⊢
  have hl : lv_has ls 3 [(0, .ref h0), (1, .int p0)] := hl
  have hf_49 := hts (.fieldLink RX4 49 "MajorityIndex" "slotsNow" "I") (by decide +kernel)
  have hi_4 : ∀ w ∈ u_ws RX4 TX4 9, w ∈ wsX4_slots := by decide +kernel
  have hf_53 := hts (.fieldLink RX4 53 "MajorityIndex" "treeIsOld" "Z") (by decide +kernel)
  refine lv_iload_n hx hb dX4_slots_0 rfl (lv_at hl 1 rfl) ?_
  refine lv_iconst (v := 1) hx hb dX4_slots_1 (by decide) ?_
  refine lv_icmp_lt (tgt := 11) hx hb dX4_slots_2 (by decide) (fun c_1 => ?_) (fun c_1 => ?_)
  · have i_1 : p0.toInt < 1 := kc_lt c_1
    refine lv_iconst (v := (-1)) hx hb dX4_slots_11 (by decide) ?_
    have hP9 := hP.sub (ws' := []) [] rfl
    have hD9 := hD.sub (ws' := []) [] (by decide) rfl
    have hK9 := hK.sub (tys' := []) [] rfl
    exact W.iret (v := (-1)) hx hb hr (fun t ht hW => ⟨⟨(-1), (), rfl, Or.inr (⟨rfl, by omega⟩), by rw [ht]; exact hP9, va_K.moved hW.alike hK9, hD9⟩, hS.F ht⟩) hS.2.2 dX4_slots_12
  · have i_1 : 1 ≤ p0.toInt := kc_nlt c_1
    refine lv_iload_n hx hb dX4_slots_5 rfl (lv_at hl 1 rfl) ?_
    refine lv_bipush (v := 6) hx hb dX4_slots_6 (by decide) ?_
    refine lv_icmp_le (tgt := 13) hx hb dX4_slots_8 (by decide) (fun c_2 => ?_) (fun c_2 => ?_)
    · have i_2 : p0.toInt ≤ 6 := kc_le c_2
      refine lv_aload_n hx hb dX4_slots_13 rfl (lv_at hl 0 rfl) ?_
      refine va_get (D := (dC, dI)) (ci := 4) (v := .int 2) (C := RX4) (T := TX4) (N := 9) hx hb hts hi_4 hown hK hP 0 rfl rfl 7 (by decide) hf_49 (fun _ h9 => h9) rfl dX4_slots_14 ?_
      refine lv_istore_n (lv' := [(2, .int 2), (0, .ref h0), (1, .int p0)]) hx hb dX4_slots_17 rfl hl (by decide) rfl (fun ls hl => ?_)
      refine lv_aload_n hx hb dX4_slots_18 rfl (lv_at hl 1 rfl) ?_
      refine lv_iload_n hx hb dX4_slots_19 rfl (lv_at hl 2 rfl) ?_
      refine va_put (D := (dC, dI)) (ci := 4) (v := .int p0) (ty := .int) (C := RX4) (T := TX4) (N := 9) hx hb hts hi_4 tyX4 tyX4_ok nmX4 hown hK hP hD hS 0 rfl rfl 7 (by decide) hf_49 (fun _ h9 => h9) rfl (by decide +kernel) rfl rfl (Nat.le_of_ble_eq_true rfl) dX4_slots_20 (fun H locs hP hD hS => ?_)
      have hP : va_P (dC, dI) vwCl [(h0, .inr (4, [.ref h_row, .ref h_tree, .ref h_tally, .ref h_votes, .ref h_otherVotes, .ref h_wins, .ref h_fewest, .int p0, .int 1]))] H := hP
      have hD : va_D A [(h0, .inr (4, [.ref h_row, .ref h_tree, .ref h_tally, .ref h_votes, .ref h_otherVotes, .ref h_wins, .ref h_fewest, .int p0, .int 1]))] := hD
      refine lv_aload_n hx hb dX4_slots_23 rfl (lv_at hl 1 rfl) ?_
      refine lv_iconst (v := 1) hx hb dX4_slots_24 (by decide) ?_
      refine va_put (D := (dC, dI)) (ci := 4) (v := .int 1) (ty := .boolean) (C := RX4) (T := TX4) (N := 9) hx hb hts hi_4 tyX4 tyX4_ok nmX4 hown hK hP hD hS 0 rfl rfl 8 (by decide) hf_53 (fun _ h9 => h9) rfl (by decide +kernel) (by decide) (by decide) (Nat.le_of_ble_eq_true rfl) dX4_slots_25 (fun H locs hP hD hS => ?_)
      have hP : va_P (dC, dI) vwCl [(h0, .inr (4, [.ref h_row, .ref h_tree, .ref h_tally, .ref h_votes, .ref h_otherVotes, .ref h_wins, .ref h_fewest, .int p0, .int 1]))] H := hP
      have hD : va_D A [(h0, .inr (4, [.ref h_row, .ref h_tree, .ref h_tally, .ref h_votes, .ref h_otherVotes, .ref h_wins, .ref h_fewest, .int p0, .int 1]))] := hD
      refine lv_iload_n hx hb dX4_slots_28 rfl (lv_at hl 0 rfl) ?_
      have hP9 := hP.sub (ws' := []) [] rfl
      have hD9 := hD.sub (ws' := []) [] (by decide) rfl
      have hK9 := hK.sub (tys' := []) [] rfl
      exact W.iret (v := 2) hx hb hr (fun t ht hW => ⟨⟨2, (), rfl, Or.inl ⟨rfl, by omega⟩, by rw [ht]; exact hP9, va_K.moved hW.alike hK9, hD9⟩, hS.F ht⟩) hS.2.2 dX4_slots_29
    · have i_2 : 6 < p0.toInt := kc_nle c_2
      refine lv_iconst (v := (-1)) hx hb dX4_slots_11 (by decide) ?_
      have hP9 := hP.sub (ws' := []) [] rfl
      have hD9 := hD.sub (ws' := []) [] (by decide) rfl
      have hK9 := hK.sub (tys' := []) [] rfl
      exact W.iret (v := (-1)) hx hb hr (fun t ht hW => ⟨⟨(-1), (), rfl, Or.inr (⟨rfl, by omega⟩), by rw [ht]; exact hP9, va_K.moved hW.alike hK9, hD9⟩, hS.F ht⟩) hS.2.2 dX4_slots_12

set_option maxHeartbeats 4000000 in
set_option maxRecDepth 100000 in
/-- end on a fresh object -/
theorem c_X4_end (l : Launch) (dC : Nat → ClassId) (dI : Nat → Nat → Nat) (h0 : Nat) (h_row : Nat) (h_tree : Nat) (h_tally : Nat) (h_votes : Nat) (h_otherVotes : Nat) (h_wins : Nat) (h_fewest : Nat) (h_cell : Nat) (p0 : Int32) (sz : Nat) : Met l yX4_end wsX4_end ({ frames := 0, cells := 0, slots := 0, locals := 0 }) (va_Pc [.ref h0, .int p0] (fun U => U.heap.size = sz ∧ va_P (dC, dI) vwCl [(h0, .inr (4, [.ref h_row, .ref h_tree, .ref h_tally, .ref h_votes, .ref h_otherVotes, .ref h_wins, .ref h_fewest, .int 2, .int 1])), (h_row, .inr (0, [.ref h_cell, .int 0]))] U.heap ∧ va_K (dC, dI) vwCl [] U ∧ va_D (fun _ => True) [(h0, .inr (4, [.ref h_row, .ref h_tree, .ref h_tally, .ref h_votes, .ref h_otherVotes, .ref h_wins, .ref h_fewest, .int 2, .int 1])), (h_row, .inr (0, [.ref h_cell, .int 0]))])) (va_Qi (fun (r : Int32) (_ : Unit) => (r = -1 ∧ (p0.toInt < 0 ∨ 0 < p0.toInt)) ∨ (r = p0 ∧ p0.toInt = 0)) (fun (_ : Unit) (t : State) => va_P (dC, dI) vwCl [] t.heap ∧ va_K (dC, dI) vwCl [] t ∧ va_D (va_A [(h0, .inr (4, [.ref h_row, .ref h_tree, .ref h_tally, .ref h_votes, .ref h_otherVotes, .ref h_wins, .ref h_fewest, .int 2, .int 1])), (h_row, .inr (0, [.ref h_cell, .int 0]))] sz) []) (va_A [(h0, .inr (4, [.ref h_row, .ref h_tree, .ref h_tally, .ref h_votes, .ref h_otherVotes, .ref h_wins, .ref h_fewest, .int 2, .int 1])), (h_row, .inr (0, [.ref h_cell, .int 0]))] sz)) 0 0 (va_A [(h0, .inr (4, [.ref h_row, .ref h_tree, .ref h_tally, .ref h_votes, .ref h_otherVotes, .ref h_wins, .ref h_fewest, .int 2, .int 1])), (h_row, .inr (0, [.ref h_cell, .int 0]))] sz) := by
  refine Met.ofW (cc := cX4_end) (maxL := 2) (ret := (some .int)) (by decide) rfl ?_
  intro p e s m args below meth c s₁ B hml hv
  obtain ⟨rfl, hsz, hP, hK, hD0⟩ := hv
  have hx := B.exec
  have hb := B.bytes
  have hr := B.returns
  have hts := atoms_spec (ws := wsX4_end) B.pre
  have hown : s.vm.findClass RX4 = some m.cls := findClass_of_methodNamed B.named
  have hlocks := B.notSynchronized
  subst hsz
  have hD := hD0.self (sz := s.heap.size)
  generalize hAe : va_A [(h0, .inr (4, [.ref h_row, .ref h_tree, .ref h_tally, .ref h_votes, .ref h_otherVotes, .ref h_wins, .ref h_fewest, .int 2, .int 1])), (h_row, .inr (0, [.ref h_cell, .int 0]))] s.heap.size = A at hD ⊢
  have hA : ∀ q : Nat, s.heap.size ≤ q → A q := fun q h => by rw [← hAe]; exact Or.inr h
  have hS : va_S A s.heap s.heap [] := va_S.rf
  have hP : va_P (dC, dI) vwCl [(h0, .inr (4, [.ref h_row, .ref h_tree, .ref h_tally, .ref h_votes, .ref h_otherVotes, .ref h_wins, .ref h_fewest, .int 2, .int 1])), (h_row, .inr (0, [.ref h_cell, .int 0]))] s.heap := hP
  have hl := lv_entry ([.ref h0, .int p0]) (n := 2) (Nat.le_of_ble_eq_true rfl)
  rw [lg_entry_eq]
  generalize (lg_sl ([.ref h0, .int p0]) ++ List.replicate (2 - (lg_sl ([.ref h0, .int p0])).length) Slot.unset).toArray = ls at hl ⊢
  have hl : lv_has ls 2 [(0, .ref h0), (1, .int p0)] := hl
  have hf_12 := hts (.fieldLink RX4 12 "MajorityIndex" "row" "LMajorityIndex$Row;") (by decide +kernel)
  have hi_4 : ∀ w ∈ u_ws RX4 TX4 9, w ∈ wsX4_end := by decide +kernel
  have hf_57 := hts (.fieldLink RX4 57 "MajorityIndex$Row" "length" "I") (by decide +kernel)
  have hi_0 : ∀ w ∈ u_ws RX0 TX0 2, w ∈ wsX4_end := by decide +kernel
  have hf_53 := hts (.fieldLink RX4 53 "MajorityIndex" "treeIsOld" "Z") (by decide +kernel)
  refine lv_iload_n hx hb dX4_end_0 rfl (lv_at hl 1 rfl) ?_
  refine lv_if_lt (tgt := 15) hx hb dX4_end_1 (by decide) (fun c_1 => ?_) (fun c_1 => ?_)
  · have i_1 : p0.toInt < 0 := kc_lt c_1
    refine lv_iconst (v := (-1)) hx hb dX4_end_15 (by decide) ?_
    have hP9 := hP.sub (ws' := []) [] rfl
    have hD9 := hD.sub (ws' := []) [] (by decide) rfl
    have hK9 := hK.sub (tys' := []) [] rfl
    exact W.iret (v := (-1)) hx hb hr (fun t ht hW => ⟨⟨(-1), (), rfl, (by first | exact Or.inl ⟨rfl, by omega⟩ | exact Or.inr ⟨rfl, by omega⟩), by rw [ht]; exact hP9, va_K.moved hW.alike hK9, hD9⟩, hS.F ht⟩) hS.2.2 dX4_end_16
  · have i_1 : 0 ≤ p0.toInt := kc_nlt c_1
    refine lv_iload_n hx hb dX4_end_4 rfl (lv_at hl 1 rfl) ?_
    refine lv_aload_n hx hb dX4_end_5 rfl (lv_at hl 0 rfl) ?_
    refine va_get (D := (dC, dI)) (ci := 4) (v := .ref h_row) (C := RX4) (T := TX4) (N := 9) hx hb hts hi_4 hown hK hP 0 rfl rfl 0 (by decide) hf_12 (fun _ h9 => h9) rfl dX4_end_6 ?_
    refine va_get (D := (dC, dI)) (ci := 0) (v := .int 0) (C := RX0) (T := TX0) (N := 2) hx hb hts hi_0 hown hK hP 1 rfl rfl 1 (by decide) hf_57 (fun _ h9 => h9) rfl dX4_end_9 ?_
    refine lv_icmp_le (tgt := 17) hx hb dX4_end_12 (by decide) (fun c_2 => ?_) (fun c_2 => ?_)
    · have i_2 : p0.toInt ≤ 0 := kc_le c_2
      refine lv_aload_n hx hb dX4_end_17 rfl (lv_at hl 0 rfl) ?_
      refine va_get (D := (dC, dI)) (ci := 4) (v := .ref h_row) (C := RX4) (T := TX4) (N := 9) hx hb hts hi_4 hown hK hP 0 rfl rfl 0 (by decide) hf_12 (fun _ h9 => h9) rfl dX4_end_18 ?_
      refine lv_iload_n hx hb dX4_end_21 rfl (lv_at hl 1 rfl) ?_
      refine va_put (D := (dC, dI)) (ci := 0) (v := .int p0) (ty := .int) (C := RX0) (T := TX0) (N := 2) hx hb hts hi_0 tyX0 tyX0_ok nmX0 hown hK hP hD hS 1 rfl rfl 1 (by decide) hf_57 (fun _ h9 => h9) rfl (by decide +kernel) rfl rfl (Nat.le_of_ble_eq_true rfl) dX4_end_22 (fun H locs hP hD hS => ?_)
      have hP : va_P (dC, dI) vwCl [(h0, .inr (4, [.ref h_row, .ref h_tree, .ref h_tally, .ref h_votes, .ref h_otherVotes, .ref h_wins, .ref h_fewest, .int 2, .int 1])), (h_row, .inr (0, [.ref h_cell, .int p0]))] H := hP
      have hD : va_D A [(h0, .inr (4, [.ref h_row, .ref h_tree, .ref h_tally, .ref h_votes, .ref h_otherVotes, .ref h_wins, .ref h_fewest, .int 2, .int 1])), (h_row, .inr (0, [.ref h_cell, .int p0]))] := hD
      refine lv_aload_n hx hb dX4_end_25 rfl (lv_at hl 0 rfl) ?_
      refine lv_iconst (v := 1) hx hb dX4_end_26 (by decide) ?_
      refine va_put (D := (dC, dI)) (ci := 4) (v := .int 1) (ty := .boolean) (C := RX4) (T := TX4) (N := 9) hx hb hts hi_4 tyX4 tyX4_ok nmX4 hown hK hP hD hS 0 rfl rfl 8 (by decide) hf_53 (fun _ h9 => h9) rfl (by decide +kernel) (by decide) (by decide) (Nat.le_of_ble_eq_true rfl) dX4_end_27 (fun H locs hP hD hS => ?_)
      have hP : va_P (dC, dI) vwCl [(h0, .inr (4, [.ref h_row, .ref h_tree, .ref h_tally, .ref h_votes, .ref h_otherVotes, .ref h_wins, .ref h_fewest, .int 2, .int 1])), (h_row, .inr (0, [.ref h_cell, .int p0]))] H := hP
      have hD : va_D A [(h0, .inr (4, [.ref h_row, .ref h_tree, .ref h_tally, .ref h_votes, .ref h_otherVotes, .ref h_wins, .ref h_fewest, .int 2, .int 1])), (h_row, .inr (0, [.ref h_cell, .int p0]))] := hD
      refine lv_iload_n hx hb dX4_end_30 rfl (lv_at hl 1 rfl) ?_
      have hP9 := hP.sub (ws' := []) [] rfl
      have hD9 := hD.sub (ws' := []) [] (by decide) rfl
      have hK9 := hK.sub (tys' := []) [] rfl
      exact W.iret (v := p0) hx hb hr (fun t ht hW => ⟨⟨p0, (), rfl, (by first | exact Or.inl ⟨rfl, by omega⟩ | exact Or.inr ⟨rfl, by omega⟩), by rw [ht]; exact hP9, va_K.moved hW.alike hK9, hD9⟩, hS.F ht⟩) hS.2.2 dX4_end_31
    · have i_2 : 0 < p0.toInt := kc_nle c_2
      refine lv_iconst (v := (-1)) hx hb dX4_end_15 (by decide) ?_
      have hP9 := hP.sub (ws' := []) [] rfl
      have hD9 := hD.sub (ws' := []) [] (by decide) rfl
      have hK9 := hK.sub (tys' := []) [] rfl
      exact W.iret (v := (-1)) hx hb hr (fun t ht hW => ⟨⟨(-1), (), rfl, (by first | exact Or.inl ⟨rfl, by omega⟩ | exact Or.inr ⟨rfl, by omega⟩), by rw [ht]; exact hP9, va_K.moved hW.alike hK9, hD9⟩, hS.F ht⟩) hS.2.2 dX4_end_16

set_option maxHeartbeats 4000000 in
set_option maxRecDepth 100000 in
theorem c_X0_putIn (l : Launch) (dC : Nat → ClassId) (dI : Nat → Nat → Nat) (h_row : Nat) (h_cell : Nat) (cyI : ClassId) (ff : Nat → Int32) (p0 : Int32) (p1 : Int32) (sz : Nat) (e0 : p0.toInt = 0) : Met l yX0_putIn wsX0_putIn ({ frames := 0, cells := 0, slots := 0, locals := 0 }) (va_Pc [.ref h_row, .int p0, .int p1] (fun U => U.heap.size = sz ∧ va_P (dC, dI) vwCl [(h_row, .inr (0, [.ref h_cell, .int 0])), (h_cell, .inl (cyI, 160, .inl ff))] U.heap ∧ va_K (dC, dI) vwCl [(cyI, .int)] U ∧ va_D (fun _ => True) [(h_row, .inr (0, [.ref h_cell, .int 0])), (h_cell, .inl (cyI, 160, .inl ff))])) (va_Qv (fun _ : Unit => True) (fun (_ : Unit) (t : State) => va_P (dC, dI) vwCl [(h_row, .inr (0, [.ref h_cell, .int 1])), (h_cell, .inl (cyI, 160, .inl (upd ff p0.toNatClampNeg p1)))] t.heap ∧ va_K (dC, dI) vwCl [(cyI, .int)] t ∧ va_D (va_A [(h_row, .inr (0, [.ref h_cell, .int 0])), (h_cell, .inl (cyI, 160, .inl ff))] sz) [(h_row, .inr (0, [.ref h_cell, .int 1])), (h_cell, .inl (cyI, 160, .inl (upd ff p0.toNatClampNeg p1)))]) (va_A [(h_row, .inr (0, [.ref h_cell, .int 0])), (h_cell, .inl (cyI, 160, .inl ff))] sz)) 0 0 (va_A [(h_row, .inr (0, [.ref h_cell, .int 0])), (h_cell, .inl (cyI, 160, .inl ff))] sz) := by
  refine Met.ofW (cc := cX0_putIn) (maxL := 4) (ret := none) (by decide) rfl ?_
  intro p e s m args below meth c s₁ B hml hv
  obtain ⟨rfl, hsz, hP, hK, hD0⟩ := hv
  have hx := B.exec
  have hb := B.bytes
  have hr := B.returns
  have hts := atoms_spec (ws := wsX0_putIn) B.pre
  have hown : s.vm.findClass RX0 = some m.cls := findClass_of_methodNamed B.named
  have hlocks := B.notSynchronized
  subst hsz
  have hD := hD0.self (sz := s.heap.size)
  generalize hAe : va_A [(h_row, .inr (0, [.ref h_cell, .int 0])), (h_cell, .inl (cyI, 160, .inl ff))] s.heap.size = A at hD ⊢
  have hA : ∀ q : Nat, s.heap.size ≤ q → A q := fun q h => by rw [← hAe]; exact Or.inr h
  have hS : va_S A s.heap s.heap [] := va_S.rf
  have hP : va_P (dC, dI) vwCl [(h_row, .inr (0, [.ref h_cell, .int 0])), (h_cell, .inl (cyI, 160, .inl ff))] s.heap := hP
  have hl := lv_entry ([.ref h_row, .int p0, .int p1]) (n := 4) (Nat.le_of_ble_eq_true rfl)
  rw [lg_entry_eq]
  generalize (lg_sl ([.ref h_row, .int p0, .int p1]) ++ List.replicate (4 - (lg_sl ([.ref h_row, .int p0, .int p1])).length) Slot.unset).toArray = ls at hl ⊢
  have hl : lv_has ls 4 [(0, .ref h_row), (1, .int p0), (2, .int p1)] := hl
  have hf_15 := hts (.fieldLink RX0 15 "MajorityIndex$Row" "length" "I") (by decide +kernel)
  have hi_0 : ∀ w ∈ u_ws RX0 TX0 2, w ∈ wsX0_putIn := by decide +kernel
  have hf_9 := hts (.fieldLink RX0 9 "MajorityIndex$Row" "cell" "[I") (by decide +kernel)
  refine lv_iload_n hx hb dX0_putIn_0 rfl (lv_at hl 1 rfl) ?_
  refine lv_if_lt (tgt := 22) hx hb dX0_putIn_1 (by decide) (fun c_1 => ?_) (fun c_1 => ?_)
  · have i_1 : p0.toInt < 0 := kc_lt c_1
    exfalso; omega
  · have i_1 : 0 ≤ p0.toInt := kc_nlt c_1
    refine lv_iload_n hx hb dX0_putIn_4 rfl (lv_at hl 1 rfl) ?_
    refine lv_aload_n hx hb dX0_putIn_5 rfl (lv_at hl 0 rfl) ?_
    refine va_get (D := (dC, dI)) (ci := 0) (v := .int 0) (C := RX0) (T := TX0) (N := 2) hx hb hts hi_0 hown hK hP 0 rfl rfl 1 (by decide) hf_15 (fun _ h9 => h9) rfl dX0_putIn_6 ?_
    refine lv_icmp_gt (tgt := 22) hx hb dX0_putIn_9 (by decide) (fun c_2 => ?_) (fun c_2 => ?_)
    · have i_2 : 0 < p0.toInt := kc_lt c_2
      exfalso; omega
    · have i_2 : p0.toInt ≤ 0 := kc_nlt c_2
      refine lv_aload_n hx hb dX0_putIn_12 rfl (lv_at hl 0 rfl) ?_
      refine va_get (D := (dC, dI)) (ci := 0) (v := .int 0) (C := RX0) (T := TX0) (N := 2) hx hb hts hi_0 hown hK hP 0 rfl rfl 1 (by decide) hf_15 (fun _ h9 => h9) rfl dX0_putIn_13 ?_
      refine lv_sipush (v := 160) hx hb dX0_putIn_16 (by decide) ?_
      refine lv_icmp_lt (tgt := 23) hx hb dX0_putIn_19 (by decide) (fun c_3 => ?_) (fun c_3 => ?_)
      · refine lv_aload_n hx hb dX0_putIn_23 rfl (lv_at hl 0 rfl) ?_
        refine va_get (D := (dC, dI)) (ci := 0) (v := .int 0) (C := RX0) (T := TX0) (N := 2) hx hb hts hi_0 hown hK hP 0 rfl rfl 1 (by decide) hf_15 (fun _ h9 => h9) rfl dX0_putIn_24 ?_
        refine lv_istore_n (lv' := [(3, .int 0), (0, .ref h_row), (1, .int p0), (2, .int p1)]) hx hb dX0_putIn_27 rfl hl (by decide) rfl (fun ls hl => ?_)
        refine lv_iload_n hx hb dX0_putIn_28 rfl (lv_at hl 0 rfl) ?_
        refine lv_iload_n hx hb dX0_putIn_29 rfl (lv_at hl 2 rfl) ?_
        refine lv_icmp_le (tgt := 53) hx hb dX0_putIn_30 (by decide) (fun c_4 => ?_) (fun c_4 => ?_)
        · have i_4 : 0 ≤ p0.toInt := kc_le c_4
          refine lv_aload_n hx hb dX0_putIn_53 rfl (lv_at hl 1 rfl) ?_
          refine va_get (D := (dC, dI)) (ci := 0) (v := .ref h_cell) (C := RX0) (T := TX0) (N := 2) hx hb hts hi_0 hown hK hP 0 rfl rfl 0 (by decide) hf_9 (fun _ h9 => h9) rfl dX0_putIn_54 ?_
          refine lv_iload_n hx hb dX0_putIn_57 rfl (lv_at hl 2 rfl) ?_
          refine lv_iload_n hx hb dX0_putIn_58 rfl (lv_at hl 3 rfl) ?_
          refine va_iast hx hb hK hP hD hS 1 0 rfl rfl (ki_in (by omega) (by omega)) dX0_putIn_59 (fun H locs hP hD hS => ?_)
          have hP : va_P (dC, dI) vwCl [(h_row, .inr (0, [.ref h_cell, .int 0])), (h_cell, .inl (cyI, 160, .inl (upd ff p0.toNatClampNeg p1)))] H := hP
          have hD : va_D A [(h_row, .inr (0, [.ref h_cell, .int 0])), (h_cell, .inl (cyI, 160, .inl (upd ff p0.toNatClampNeg p1)))] := hD
          refine lv_aload_n hx hb dX0_putIn_60 rfl (lv_at hl 1 rfl) ?_
          refine lv_dup hx hb dX0_putIn_61 rfl ?_
          refine va_get (D := (dC, dI)) (ci := 0) (v := .int 0) (C := RX0) (T := TX0) (N := 2) hx hb hts hi_0 hown hK hP 0 rfl rfl 1 (by decide) hf_15 (fun _ h9 => h9) rfl dX0_putIn_62 ?_
          refine lv_iconst (v := 1) hx hb dX0_putIn_65 (by decide) ?_
          refine lv_iadd hx hb dX0_putIn_66 ?_
          refine W.eq (g2 := F0 m 67 ls [.int 1, .ref h_row]) (by first | rfl | (congr 2; decide)) ?_
          refine va_put (D := (dC, dI)) (ci := 0) (v := .int 1) (ty := .int) (C := RX0) (T := TX0) (N := 2) hx hb hts hi_0 tyX0 tyX0_ok nmX0 hown hK hP hD hS 0 rfl rfl 1 (by decide) hf_15 (fun _ h9 => h9) rfl (by decide +kernel) rfl rfl (Nat.le_of_ble_eq_true rfl) dX0_putIn_67 (fun H locs hP hD hS => ?_)
          have hP : va_P (dC, dI) vwCl [(h_row, .inr (0, [.ref h_cell, .int 1])), (h_cell, .inl (cyI, 160, .inl (upd ff p0.toNatClampNeg p1)))] H := hP
          have hD : va_D A [(h_row, .inr (0, [.ref h_cell, .int 1])), (h_cell, .inl (cyI, 160, .inl (upd ff p0.toNatClampNeg p1)))] := hD
          have hP9 := hP.sub (ws' := [(h_row, .inr (0, [.ref h_cell, .int 1])), (h_cell, .inl (cyI, 160, .inl (upd ff p0.toNatClampNeg p1)))]) [0, 1] rfl
          have hD9 := hD.sub (ws' := [(h_row, .inr (0, [.ref h_cell, .int 1])), (h_cell, .inl (cyI, 160, .inl (upd ff p0.toNatClampNeg p1)))]) [0, 1] (by decide) rfl
          have hK9 := hK.sub (tys' := [(cyI, .int)]) [0] rfl
          exact W.vret hx hb hr (fun t ht hW => ⟨⟨(), rfl, trivial, by rw [ht]; exact hP9, va_K.moved hW.alike hK9, hD9⟩, hS.F ht⟩) hS.2.2 dX0_putIn_70
        · have i_4 : p0.toInt < 0 := kc_nle c_4
          exfalso; omega
      · exact absurd c_3 (by decide)

set_option maxHeartbeats 4000000 in
set_option maxRecDepth 100000 in
/-- insert on a fresh object -/
theorem c_X4_insert (l : Launch) (dC : Nat → ClassId) (dI : Nat → Nat → Nat) (h0 : Nat) (h_row : Nat) (h_tree : Nat) (h_tally : Nat) (h_votes : Nat) (h_otherVotes : Nat) (h_wins : Nat) (h_fewest : Nat) (h_cell : Nat) (cyI : ClassId) (ff : Nat → Int32) (p0 : Int32) (p1 : Int32) (sz : Nat) : Met l yX4_insert wsX4_insert ({ frames := 1, cells := 0, slots := 0, locals := 45 }) (va_Pc [.ref h0, .int p0, .int p1] (fun U => U.heap.size = sz ∧ va_P (dC, dI) vwCl [(h0, .inr (4, [.ref h_row, .ref h_tree, .ref h_tally, .ref h_votes, .ref h_otherVotes, .ref h_wins, .ref h_fewest, .int 2, .int 1])), (h_row, .inr (0, [.ref h_cell, .int 0])), (h_cell, .inl (cyI, 160, .inl ff))] U.heap ∧ va_K (dC, dI) vwCl [(cyI, .int)] U ∧ va_D (fun _ => True) [(h0, .inr (4, [.ref h_row, .ref h_tree, .ref h_tally, .ref h_votes, .ref h_otherVotes, .ref h_wins, .ref h_fewest, .int 2, .int 1])), (h_row, .inr (0, [.ref h_cell, .int 0])), (h_cell, .inl (cyI, 160, .inl ff))])) (va_Qi (fun (r : Int32) (_ : Unit) => (r = 1 ∧ (p0.toInt = 0 ∧ -32768 ≤ p1.toInt ∧ p1.toInt ≤ 32767)) ∨ (r = (-1) ∧ (p0.toInt < 0 ∨ 0 < p0.toInt ∨ p1.toInt < -32768 ∨ 32767 < p1.toInt))) (fun (_ : Unit) (t : State) => va_P (dC, dI) vwCl [] t.heap ∧ va_K (dC, dI) vwCl [(cyI, .int)] t ∧ va_D (va_A [(h0, .inr (4, [.ref h_row, .ref h_tree, .ref h_tally, .ref h_votes, .ref h_otherVotes, .ref h_wins, .ref h_fewest, .int 2, .int 1])), (h_row, .inr (0, [.ref h_cell, .int 0])), (h_cell, .inl (cyI, 160, .inl ff))] sz) []) (va_A [(h0, .inr (4, [.ref h_row, .ref h_tree, .ref h_tally, .ref h_votes, .ref h_otherVotes, .ref h_wins, .ref h_fewest, .int 2, .int 1])), (h_row, .inr (0, [.ref h_cell, .int 0])), (h_cell, .inl (cyI, 160, .inl ff))] sz)) 0 0 (va_A [(h0, .inr (4, [.ref h_row, .ref h_tree, .ref h_tally, .ref h_votes, .ref h_otherVotes, .ref h_wins, .ref h_fewest, .int 2, .int 1])), (h_row, .inr (0, [.ref h_cell, .int 0])), (h_cell, .inl (cyI, 160, .inl ff))] sz) := by
  refine Met.ofW (cc := cX4_insert) (maxL := 3) (ret := (some .int)) (by decide) rfl ?_
  intro p e s m args below meth c s₁ B hml hv
  obtain ⟨rfl, hsz, hP, hK, hD0⟩ := hv
  have hx := B.exec
  have hb := B.bytes
  have hr := B.returns
  have hts := atoms_spec (ws := wsX4_insert) B.pre
  have hown : s.vm.findClass RX4 = some m.cls := findClass_of_methodNamed B.named
  have hlocks := B.notSynchronized
  subst hsz
  have hD := hD0.self (sz := s.heap.size)
  generalize hAe : va_A [(h0, .inr (4, [.ref h_row, .ref h_tree, .ref h_tally, .ref h_votes, .ref h_otherVotes, .ref h_wins, .ref h_fewest, .int 2, .int 1])), (h_row, .inr (0, [.ref h_cell, .int 0])), (h_cell, .inl (cyI, 160, .inl ff))] s.heap.size = A at hD ⊢
  have hA : ∀ q : Nat, s.heap.size ≤ q → A q := fun q h => by rw [← hAe]; exact Or.inr h
  have hS : va_S A s.heap s.heap [] := va_S.rf
  have hP : va_P (dC, dI) vwCl [(h0, .inr (4, [.ref h_row, .ref h_tree, .ref h_tally, .ref h_votes, .ref h_otherVotes, .ref h_wins, .ref h_fewest, .int 2, .int 1])), (h_row, .inr (0, [.ref h_cell, .int 0])), (h_cell, .inl (cyI, 160, .inl ff))] s.heap := hP
  have hl := lv_entry ([.ref h0, .int p0, .int p1]) (n := 3) (Nat.le_of_ble_eq_true rfl)
  rw [lg_entry_eq]
  generalize (lg_sl ([.ref h0, .int p0, .int p1]) ++ List.replicate (3 - (lg_sl ([.ref h0, .int p0, .int p1])).length) Slot.unset).toArray = ls at hl ⊢
  have hl : lv_has ls 3 [(0, .ref h0), (1, .int p0), (2, .int p1)] := hl
  have hf_12 := hts (.fieldLink RX4 12 "MajorityIndex" "row" "LMajorityIndex$Row;") (by decide +kernel)
  have hi_4 : ∀ w ∈ u_ws RX4 TX4 9, w ∈ wsX4_insert := by decide +kernel
  have hf_57 := hts (.fieldLink RX4 57 "MajorityIndex$Row" "length" "I") (by decide +kernel)
  have hi_0 : ∀ w ∈ u_ws RX0 TX0 2, w ∈ wsX4_insert := by decide +kernel
  have hf_53 := hts (.fieldLink RX4 53 "MajorityIndex" "treeIsOld" "Z") (by decide +kernel)
  refine lv_iload_n hx hb dX4_insert_0 rfl (lv_at hl 1 rfl) ?_
  refine lv_if_lt (tgt := 35) hx hb dX4_insert_1 (by decide) (fun c_1 => ?_) (fun c_1 => ?_)
  · have i_1 : p0.toInt < 0 := kc_lt c_1
    refine lv_iconst (v := (-1)) hx hb dX4_insert_35 (by decide) ?_
    have hP9 := hP.sub (ws' := []) [] rfl
    have hD9 := hD.sub (ws' := []) [] (by decide) rfl
    have hK9 := hK.sub (tys' := [(cyI, .int)]) [0] rfl
    exact W.iret (v := (-1)) hx hb hr (fun t ht hW => ⟨⟨(-1), (), rfl, Or.inr (⟨rfl, by omega⟩), by rw [ht]; exact hP9, va_K.moved hW.alike hK9, hD9⟩, hS.F ht⟩) hS.2.2 dX4_insert_36
  · have i_1 : 0 ≤ p0.toInt := kc_nlt c_1
    refine lv_iload_n hx hb dX4_insert_4 rfl (lv_at hl 1 rfl) ?_
    refine lv_aload_n hx hb dX4_insert_5 rfl (lv_at hl 0 rfl) ?_
    refine va_get (D := (dC, dI)) (ci := 4) (v := .ref h_row) (C := RX4) (T := TX4) (N := 9) hx hb hts hi_4 hown hK hP 0 rfl rfl 0 (by decide) hf_12 (fun _ h9 => h9) rfl dX4_insert_6 ?_
    refine va_get (D := (dC, dI)) (ci := 0) (v := .int 0) (C := RX0) (T := TX0) (N := 2) hx hb hts hi_0 hown hK hP 1 rfl rfl 1 (by decide) hf_57 (fun _ h9 => h9) rfl dX4_insert_9 ?_
    refine lv_icmp_gt (tgt := 35) hx hb dX4_insert_12 (by decide) (fun c_2 => ?_) (fun c_2 => ?_)
    · have i_2 : 0 < p0.toInt := kc_lt c_2
      refine lv_iconst (v := (-1)) hx hb dX4_insert_35 (by decide) ?_
      have hP9 := hP.sub (ws' := []) [] rfl
      have hD9 := hD.sub (ws' := []) [] (by decide) rfl
      have hK9 := hK.sub (tys' := [(cyI, .int)]) [0] rfl
      exact W.iret (v := (-1)) hx hb hr (fun t ht hW => ⟨⟨(-1), (), rfl, Or.inr (⟨rfl, by omega⟩), by rw [ht]; exact hP9, va_K.moved hW.alike hK9, hD9⟩, hS.F ht⟩) hS.2.2 dX4_insert_36
    · have i_2 : p0.toInt ≤ 0 := kc_nlt c_2
      refine lv_iload_n hx hb dX4_insert_15 rfl (lv_at hl 2 rfl) ?_
      have hPc := hP.sub (ws' := []) [] rfl
      have hKc := hK.sub (tys' := []) [] rfl
      refine vp_callSi (W.runS (As := [.int p1]) (rest := []) ⟨hx, hb, hml, hown, hts⟩ (c_X4_isValue l dC dI p1) (va_cwS 1 hts gX4_insert_X4_isValue rfl rfl rfl (by decide +kernel) ⟨Nat.le_of_ble_eq_true rfl, Nat.le_of_ble_eq_true rfl⟩) ⟨fun a U g mk q => by obtain ⟨q0, qP, qK⟩ := q; exact ⟨q0, qP, va_K.moved (u := U) (U := U.calling g mk a) (Vm.Alike.refl U.vm) qK⟩, fun U hU hW => ⟨rfl, by rw [hU]; exact hPc, va_K.moved hW.alike hKc⟩⟩ rfl rfl hl.1 rfl (lv_room (Nat.le_of_ble_eq_true rfl)) dX4_insert_16 ⟨Nat.le_of_ble_eq_true rfl, Nat.le_of_ble_eq_true rfl⟩) (fun r_3 w_3 => ?_)
      rcases w_3 with ⟨rfl, w_3⟩ | ⟨rfl, w_3⟩
      · have w_3 : (-32768 ≤ p1.toInt ∧ p1.toInt ≤ 32767) := w_3
        refine lv_if_eq (tgt := 35) hx hb dX4_insert_19 (by decide) (fun c_4 => ?_) (fun c_4 => ?_)
        · exact absurd c_4 (by decide)
        · refine lv_aload_n hx hb dX4_insert_22 rfl (lv_at hl 0 rfl) ?_
          refine va_get (D := (dC, dI)) (ci := 4) (v := .ref h_row) (C := RX4) (T := TX4) (N := 9) hx hb hts hi_4 hown hK hP 0 rfl rfl 0 (by decide) hf_12 (fun _ h9 => h9) rfl dX4_insert_23 ?_
          refine va_get (D := (dC, dI)) (ci := 0) (v := .int 0) (C := RX0) (T := TX0) (N := 2) hx hb hts hi_0 hown hK hP 1 rfl rfl 1 (by decide) hf_57 (fun _ h9 => h9) rfl dX4_insert_26 ?_
          refine lv_sipush (v := 160) hx hb dX4_insert_29 (by decide) ?_
          refine lv_icmp_lt (tgt := 37) hx hb dX4_insert_32 (by decide) (fun c_5 => ?_) (fun c_5 => ?_)
          · refine lv_aload_n hx hb dX4_insert_37 rfl (lv_at hl 0 rfl) ?_
            refine va_get (D := (dC, dI)) (ci := 4) (v := .ref h_row) (C := RX4) (T := TX4) (N := 9) hx hb hts hi_4 hown hK hP 0 rfl rfl 0 (by decide) hf_12 (fun _ h9 => h9) rfl dX4_insert_38 ?_
            refine lv_iload_n hx hb dX4_insert_41 rfl (lv_at hl 1 rfl) ?_
            refine lv_iload_n hx hb dX4_insert_42 rfl (lv_at hl 2 rfl) ?_
            have hPc := hP.sub (ws' := [(h_row, .inr (0, [.ref h_cell, .int 0])), (h_cell, .inl (cyI, 160, .inl ff))]) [1, 2] rfl
            have hKc := hK.sub (tys' := [(cyI, .int)]) [0] rfl
            have hDc := hD.sub (ws' := [(h_row, .inr (0, [.ref h_cell, .int 0])), (h_cell, .inl (cyI, 160, .inl ff))]) [1, 2] (by decide) rfl
            have hFc := va_free (wc := [(h_row, .inr (0, [.ref h_cell, .int 0])), (h_cell, .inl (cyI, 160, .inl ff))]) hD hS hA [1, 2] rfl
            refine va_callv (va_runV (As := [.int p0, .int p1]) (rest := []) ⟨hx, hb, hml, hown, hts⟩ (c_X0_putIn l dC dI h_row h_cell cyI ff p0 p1 s.heap.size (by omega)) (cwV 2 hts gX4_insert_X0_putIn rfl rfl rfl (by decide +kernel) ⟨Nat.le_of_ble_eq_true rfl, Nat.le_of_ble_eq_true rfl⟩) ⟨fun a U g mk q => by obtain ⟨q0, q1, qP, qK, qD⟩ := q; exact ⟨q0, q1, qP, va_K.moved (u := U) (U := U.calling g mk a) (Vm.Alike.refl U.vm) qK, qD⟩, va_recv hKc hPc (ci := 0) (q0 := 0) rfl rfl, fun U hU hW => ⟨rfl, by rw [hU], by rw [hU]; exact hPc, va_K.moved hW.alike hKc, hDc.weaken (fun _ _ _ _ => trivial)⟩⟩ rfl rfl hl.1 rfl (lv_room (Nat.le_of_ble_eq_true rfl)) dX4_insert_43 ⟨Nat.le_of_ble_eq_true rfl, Nat.le_of_ble_eq_true rfl⟩) hS (fun q _ h => hFc q h) hFc (fun u t H1 locs ht hvm w_6 hB hz1 hk1 hS => ?_)
            obtain ⟨hP1, hK1, hD1⟩ := hB
            rw [ht] at hP1
            have hK1 := va_K.moved hvm.symm hK1
            obtain ⟨hP, hD⟩ := va_join (wr := [(h0, .inr (4, [.ref h_row, .ref h_tree, .ref h_tally, .ref h_votes, .ref h_otherVotes, .ref h_wins, .ref h_fewest, .int 2, .int 1]))]) (w1 := [(h_row, .inr (0, [.ref h_cell, .int 1])), (h_cell, .inl (cyI, 160, .inl (upd ff p0.toNatClampNeg p1)))]) hP hD [1, 2] [0] rfl rfl (by decide) (by decide) hk1 hFc hP1 hD1
            clear hP1 hD1 hK1 hk1 hz1 hFc hDc hPc hKc
            generalize H1 = H at hP hS ⊢
            have hP : va_P (dC, dI) vwCl [(h0, .inr (4, [.ref h_row, .ref h_tree, .ref h_tally, .ref h_votes, .ref h_otherVotes, .ref h_wins, .ref h_fewest, .int 2, .int 1])), (h_row, .inr (0, [.ref h_cell, .int 1])), (h_cell, .inl (cyI, 160, .inl (upd ff p0.toNatClampNeg p1)))] H := hP
            have hD : va_D A [(h0, .inr (4, [.ref h_row, .ref h_tree, .ref h_tally, .ref h_votes, .ref h_otherVotes, .ref h_wins, .ref h_fewest, .int 2, .int 1])), (h_row, .inr (0, [.ref h_cell, .int 1])), (h_cell, .inl (cyI, 160, .inl (upd ff p0.toNatClampNeg p1)))] := hD
            refine lv_aload_n hx hb dX4_insert_46 rfl (lv_at hl 0 rfl) ?_
            refine lv_iconst (v := 1) hx hb dX4_insert_47 (by decide) ?_
            refine va_put (D := (dC, dI)) (ci := 4) (v := .int 1) (ty := .boolean) (C := RX4) (T := TX4) (N := 9) hx hb hts hi_4 tyX4 tyX4_ok nmX4 hown hK hP hD hS 0 rfl rfl 8 (by decide) hf_53 (fun _ h9 => h9) rfl (by decide +kernel) (by decide) (by decide) (Nat.le_of_ble_eq_true rfl) dX4_insert_48 (fun H locs hP hD hS => ?_)
            have hP : va_P (dC, dI) vwCl [(h0, .inr (4, [.ref h_row, .ref h_tree, .ref h_tally, .ref h_votes, .ref h_otherVotes, .ref h_wins, .ref h_fewest, .int 2, .int 1])), (h_row, .inr (0, [.ref h_cell, .int 1])), (h_cell, .inl (cyI, 160, .inl (upd ff p0.toNatClampNeg p1)))] H := hP
            have hD : va_D A [(h0, .inr (4, [.ref h_row, .ref h_tree, .ref h_tally, .ref h_votes, .ref h_otherVotes, .ref h_wins, .ref h_fewest, .int 2, .int 1])), (h_row, .inr (0, [.ref h_cell, .int 1])), (h_cell, .inl (cyI, 160, .inl (upd ff p0.toNatClampNeg p1)))] := hD
            refine lv_aload_n hx hb dX4_insert_51 rfl (lv_at hl 0 rfl) ?_
            refine va_get (D := (dC, dI)) (ci := 4) (v := .ref h_row) (C := RX4) (T := TX4) (N := 9) hx hb hts hi_4 hown hK hP 0 rfl rfl 0 (by decide) hf_12 (fun _ h9 => h9) rfl dX4_insert_52 ?_
            refine va_get (D := (dC, dI)) (ci := 0) (v := .int 1) (C := RX0) (T := TX0) (N := 2) hx hb hts hi_0 hown hK hP 1 rfl rfl 1 (by decide) hf_57 (fun _ h9 => h9) rfl dX4_insert_55 ?_
            have hP9 := hP.sub (ws' := []) [] rfl
            have hD9 := hD.sub (ws' := []) [] (by decide) rfl
            have hK9 := hK.sub (tys' := [(cyI, .int)]) [0] rfl
            exact W.iret (v := 1) hx hb hr (fun t ht hW => ⟨⟨1, (), rfl, Or.inl ⟨rfl, by omega⟩, by rw [ht]; exact hP9, va_K.moved hW.alike hK9, hD9⟩, hS.F ht⟩) hS.2.2 dX4_insert_58
          · exact absurd c_5 (by decide)
      · have w_3 : (p1.toInt < -32768 ∨ 32767 < p1.toInt) := w_3
        refine lv_if_eq (tgt := 35) hx hb dX4_insert_19 (by decide) (fun c_7 => ?_) (fun c_7 => ?_)
        · refine lv_iconst (v := (-1)) hx hb dX4_insert_35 (by decide) ?_
          have hP9 := hP.sub (ws' := []) [] rfl
          have hD9 := hD.sub (ws' := []) [] (by decide) rfl
          have hK9 := hK.sub (tys' := [(cyI, .int)]) [0] rfl
          exact W.iret (v := (-1)) hx hb hr (fun t ht hW => ⟨⟨(-1), (), rfl, Or.inr (⟨rfl, by omega⟩), by rw [ht]; exact hP9, va_K.moved hW.alike hK9, hD9⟩, hS.F ht⟩) hS.2.2 dX4_insert_36
        · exact absurd c_7 (by decide)

set_option maxHeartbeats 4000000 in
set_option maxRecDepth 100000 in
theorem c_X2_layRanges (l : Launch) (dC : Nat → ClassId) (dI : Nat → Nat → Nat) (h_tree : Nat) (h_row : Nat) (h_cell : Nat) (h_joined : Nat) (h_from : Nat) (h_to : Nat) (h_size : Nat) (h_lossOf : Nat) (h_lessBy : Nat) (h_tvalue : Nat) (h_tnumber : Nat) (cyI : ClassId) (ff : Nat → Int32) (ft : Nat → Int32) (sz : Nat) : Met l yX2_layRanges wsX2_layRanges ({ frames := 0, cells := 0, slots := 0, locals := 0 }) (va_Pc [.ref h_tree] (fun U => U.heap.size = sz ∧ va_P (dC, dI) vwCl [(h_tree, .inr (2, [.ref h_row, .ref h_joined, .ref h_from, .ref h_to, .ref h_size, .ref h_lossOf, .ref h_lessBy, .ref h_tvalue, .ref h_tnumber, .int 0, .int 0])), (h_row, .inr (0, [.ref h_cell, .int 0])), (h_from, .inl (cyI, 319, .inl ff)), (h_to, .inl (cyI, 319, .inl ft))] U.heap ∧ va_K (dC, dI) vwCl [(cyI, .int)] U ∧ va_D (fun _ => True) [(h_tree, .inr (2, [.ref h_row, .ref h_joined, .ref h_from, .ref h_to, .ref h_size, .ref h_lossOf, .ref h_lessBy, .ref h_tvalue, .ref h_tnumber, .int 0, .int 0])), (h_row, .inr (0, [.ref h_cell, .int 0])), (h_from, .inl (cyI, 319, .inl ff)), (h_to, .inl (cyI, 319, .inl ft))])) (va_Qv (fun _ : Unit => True) (fun (_ : Unit) (t : State) => va_P (dC, dI) vwCl [(h_tree, .inr (2, [.ref h_row, .ref h_joined, .ref h_from, .ref h_to, .ref h_size, .ref h_lossOf, .ref h_lessBy, .ref h_tvalue, .ref h_tnumber, .int 0, .int 0])), (h_row, .inr (0, [.ref h_cell, .int 0])), (h_from, .inl (cyI, 319, .inl (upd ff (0 : Int32).toNatClampNeg 0))), (h_to, .inl (cyI, 319, .inl (upd ft (0 : Int32).toNatClampNeg 0)))] t.heap ∧ va_K (dC, dI) vwCl [(cyI, .int)] t ∧ va_D (va_A [(h_tree, .inr (2, [.ref h_row, .ref h_joined, .ref h_from, .ref h_to, .ref h_size, .ref h_lossOf, .ref h_lessBy, .ref h_tvalue, .ref h_tnumber, .int 0, .int 0])), (h_row, .inr (0, [.ref h_cell, .int 0])), (h_from, .inl (cyI, 319, .inl ff)), (h_to, .inl (cyI, 319, .inl ft))] sz) [(h_tree, .inr (2, [.ref h_row, .ref h_joined, .ref h_from, .ref h_to, .ref h_size, .ref h_lossOf, .ref h_lessBy, .ref h_tvalue, .ref h_tnumber, .int 0, .int 0])), (h_row, .inr (0, [.ref h_cell, .int 0])), (h_from, .inl (cyI, 319, .inl (upd ff (0 : Int32).toNatClampNeg 0))), (h_to, .inl (cyI, 319, .inl (upd ft (0 : Int32).toNatClampNeg 0)))]) (va_A [(h_tree, .inr (2, [.ref h_row, .ref h_joined, .ref h_from, .ref h_to, .ref h_size, .ref h_lossOf, .ref h_lessBy, .ref h_tvalue, .ref h_tnumber, .int 0, .int 0])), (h_row, .inr (0, [.ref h_cell, .int 0])), (h_from, .inl (cyI, 319, .inl ff)), (h_to, .inl (cyI, 319, .inl ft))] sz)) 0 0 (va_A [(h_tree, .inr (2, [.ref h_row, .ref h_joined, .ref h_from, .ref h_to, .ref h_size, .ref h_lossOf, .ref h_lessBy, .ref h_tvalue, .ref h_tnumber, .int 0, .int 0])), (h_row, .inr (0, [.ref h_cell, .int 0])), (h_from, .inl (cyI, 319, .inl ff)), (h_to, .inl (cyI, 319, .inl ft))] sz) := by
  refine Met.ofW (cc := cX2_layRanges) (maxL := 2) (ret := none) (by decide) rfl ?_
  intro p e s m args below meth c s₁ B hml hv
  obtain ⟨rfl, hsz, hP, hK, hD0⟩ := hv
  have hx := B.exec
  have hb := B.bytes
  have hr := B.returns
  have hts := atoms_spec (ws := wsX2_layRanges) B.pre
  have hown : s.vm.findClass RX2 = some m.cls := findClass_of_methodNamed B.named
  have hlocks := B.notSynchronized
  subst hsz
  have hD := hD0.self (sz := s.heap.size)
  generalize hAe : va_A [(h_tree, .inr (2, [.ref h_row, .ref h_joined, .ref h_from, .ref h_to, .ref h_size, .ref h_lossOf, .ref h_lessBy, .ref h_tvalue, .ref h_tnumber, .int 0, .int 0])), (h_row, .inr (0, [.ref h_cell, .int 0])), (h_from, .inl (cyI, 319, .inl ff)), (h_to, .inl (cyI, 319, .inl ft))] s.heap.size = A at hD ⊢
  have hA : ∀ q : Nat, s.heap.size ≤ q → A q := fun q h => by rw [← hAe]; exact Or.inr h
  have hS : va_S A s.heap s.heap [] := va_S.rf
  have hP : va_P (dC, dI) vwCl [(h_tree, .inr (2, [.ref h_row, .ref h_joined, .ref h_from, .ref h_to, .ref h_size, .ref h_lossOf, .ref h_lessBy, .ref h_tvalue, .ref h_tnumber, .int 0, .int 0])), (h_row, .inr (0, [.ref h_cell, .int 0])), (h_from, .inl (cyI, 319, .inl ff)), (h_to, .inl (cyI, 319, .inl ft))] s.heap := hP
  have hl := lv_entry ([.ref h_tree]) (n := 2) (Nat.le_of_ble_eq_true rfl)
  rw [lg_entry_eq]
  generalize (lg_sl ([.ref h_tree]) ++ List.replicate (2 - (lg_sl ([.ref h_tree])).length) Slot.unset).toArray = ls at hl ⊢
  have hl : lv_has ls 2 [(0, .ref h_tree)] := hl
  have hf_40 := hts (.fieldLink RX2 40 "MajorityIndex$Tree" "row" "LMajorityIndex$Row;") (by decide +kernel)
  have hi_2 : ∀ w ∈ u_ws RX2 TX2 11, w ∈ wsX2_layRanges := by decide +kernel
  have hf_44 := hts (.fieldLink RX2 44 "MajorityIndex$Row" "length" "I") (by decide +kernel)
  have hi_0 : ∀ w ∈ u_ws RX0 TX0 2, w ∈ wsX2_layRanges := by decide +kernel
  have hf_50 := hts (.fieldLink RX2 50 "MajorityIndex$Tree" "nodes" "I") (by decide +kernel)
  have hf_18 := hts (.fieldLink RX2 18 "MajorityIndex$Tree" "from" "[I") (by decide +kernel)
  have hf_22 := hts (.fieldLink RX2 22 "MajorityIndex$Tree" "to" "[I") (by decide +kernel)
  refine lv_aload_n hx hb dX2_layRanges_0 rfl (lv_at hl 0 rfl) ?_
  refine lv_aload_n hx hb dX2_layRanges_1 rfl (lv_at hl 0 rfl) ?_
  refine va_get (D := (dC, dI)) (ci := 2) (v := .ref h_row) (C := RX2) (T := TX2) (N := 11) hx hb hts hi_2 hown hK hP 0 rfl rfl 0 (by decide) hf_40 (fun _ h9 => h9) rfl dX2_layRanges_2 ?_
  refine va_get (D := (dC, dI)) (ci := 0) (v := .int 0) (C := RX0) (T := TX0) (N := 2) hx hb hts hi_0 hown hK hP 1 rfl rfl 1 (by decide) hf_44 (fun _ h9 => h9) rfl dX2_layRanges_5 ?_
  refine lv_if_ne (tgt := 15) hx hb dX2_layRanges_8 (by decide) (fun c_1 => ?_) (fun c_1 => ?_)
  · exact absurd c_1 (by decide)
  · refine lv_iconst (v := 0) hx hb dX2_layRanges_11 (by decide) ?_
    refine lv_goto (tgt := 26) hx hb dX2_layRanges_12 (by decide) ?_
    refine va_put (D := (dC, dI)) (ci := 2) (v := .int 0) (ty := .int) (C := RX2) (T := TX2) (N := 11) hx hb hts hi_2 tyX2 tyX2_ok nmX2 hown hK hP hD hS 0 rfl rfl 9 (by decide) hf_50 (fun _ h9 => h9) rfl (by decide +kernel) rfl rfl (Nat.le_of_ble_eq_true rfl) dX2_layRanges_26 (fun H locs hP hD hS => ?_)
    have hP : va_P (dC, dI) vwCl [(h_tree, .inr (2, [.ref h_row, .ref h_joined, .ref h_from, .ref h_to, .ref h_size, .ref h_lossOf, .ref h_lessBy, .ref h_tvalue, .ref h_tnumber, .int 0, .int 0])), (h_row, .inr (0, [.ref h_cell, .int 0])), (h_from, .inl (cyI, 319, .inl ff)), (h_to, .inl (cyI, 319, .inl ft))] H := hP
    have hD : va_D A [(h_tree, .inr (2, [.ref h_row, .ref h_joined, .ref h_from, .ref h_to, .ref h_size, .ref h_lossOf, .ref h_lessBy, .ref h_tvalue, .ref h_tnumber, .int 0, .int 0])), (h_row, .inr (0, [.ref h_cell, .int 0])), (h_from, .inl (cyI, 319, .inl ff)), (h_to, .inl (cyI, 319, .inl ft))] := hD
    refine lv_aload_n hx hb dX2_layRanges_29 rfl (lv_at hl 0 rfl) ?_
    refine va_get (D := (dC, dI)) (ci := 2) (v := .ref h_from) (C := RX2) (T := TX2) (N := 11) hx hb hts hi_2 hown hK hP 0 rfl rfl 2 (by decide) hf_18 (fun _ h9 => h9) rfl dX2_layRanges_30 ?_
    refine lv_iconst (v := 0) hx hb dX2_layRanges_33 (by decide) ?_
    refine lv_iconst (v := 0) hx hb dX2_layRanges_34 (by decide) ?_
    refine va_iast hx hb hK hP hD hS 2 0 rfl rfl (ki_inl (by decide)) dX2_layRanges_35 (fun H locs hP hD hS => ?_)
    have hP : va_P (dC, dI) vwCl [(h_tree, .inr (2, [.ref h_row, .ref h_joined, .ref h_from, .ref h_to, .ref h_size, .ref h_lossOf, .ref h_lessBy, .ref h_tvalue, .ref h_tnumber, .int 0, .int 0])), (h_row, .inr (0, [.ref h_cell, .int 0])), (h_from, .inl (cyI, 319, .inl (upd ff (0 : Int32).toNatClampNeg 0))), (h_to, .inl (cyI, 319, .inl ft))] H := hP
    have hD : va_D A [(h_tree, .inr (2, [.ref h_row, .ref h_joined, .ref h_from, .ref h_to, .ref h_size, .ref h_lossOf, .ref h_lessBy, .ref h_tvalue, .ref h_tnumber, .int 0, .int 0])), (h_row, .inr (0, [.ref h_cell, .int 0])), (h_from, .inl (cyI, 319, .inl (upd ff (0 : Int32).toNatClampNeg 0))), (h_to, .inl (cyI, 319, .inl ft))] := hD
    refine lv_aload_n hx hb dX2_layRanges_36 rfl (lv_at hl 0 rfl) ?_
    refine va_get (D := (dC, dI)) (ci := 2) (v := .ref h_to) (C := RX2) (T := TX2) (N := 11) hx hb hts hi_2 hown hK hP 0 rfl rfl 3 (by decide) hf_22 (fun _ h9 => h9) rfl dX2_layRanges_37 ?_
    refine lv_iconst (v := 0) hx hb dX2_layRanges_40 (by decide) ?_
    refine lv_aload_n hx hb dX2_layRanges_41 rfl (lv_at hl 0 rfl) ?_
    refine va_get (D := (dC, dI)) (ci := 2) (v := .ref h_row) (C := RX2) (T := TX2) (N := 11) hx hb hts hi_2 hown hK hP 0 rfl rfl 0 (by decide) hf_40 (fun _ h9 => h9) rfl dX2_layRanges_42 ?_
    refine va_get (D := (dC, dI)) (ci := 0) (v := .int 0) (C := RX0) (T := TX0) (N := 2) hx hb hts hi_0 hown hK hP 1 rfl rfl 1 (by decide) hf_44 (fun _ h9 => h9) rfl dX2_layRanges_45 ?_
    refine va_iast hx hb hK hP hD hS 3 0 rfl rfl (ki_inl (by decide)) dX2_layRanges_48 (fun H locs hP hD hS => ?_)
    have hP : va_P (dC, dI) vwCl [(h_tree, .inr (2, [.ref h_row, .ref h_joined, .ref h_from, .ref h_to, .ref h_size, .ref h_lossOf, .ref h_lessBy, .ref h_tvalue, .ref h_tnumber, .int 0, .int 0])), (h_row, .inr (0, [.ref h_cell, .int 0])), (h_from, .inl (cyI, 319, .inl (upd ff (0 : Int32).toNatClampNeg 0))), (h_to, .inl (cyI, 319, .inl (upd ft (0 : Int32).toNatClampNeg 0)))] H := hP
    have hD : va_D A [(h_tree, .inr (2, [.ref h_row, .ref h_joined, .ref h_from, .ref h_to, .ref h_size, .ref h_lossOf, .ref h_lessBy, .ref h_tvalue, .ref h_tnumber, .int 0, .int 0])), (h_row, .inr (0, [.ref h_cell, .int 0])), (h_from, .inl (cyI, 319, .inl (upd ff (0 : Int32).toNatClampNeg 0))), (h_to, .inl (cyI, 319, .inl (upd ft (0 : Int32).toNatClampNeg 0)))] := hD
    refine lv_iconst (v := 0) hx hb dX2_layRanges_49 (by decide) ?_
    refine lv_istore_n (lv' := [(1, .int 0), (0, .ref h_tree)]) hx hb dX2_layRanges_50 rfl hl (by decide) rfl (fun ls hl => ?_)
    refine lv_iload_n hx hb dX2_layRanges_51 rfl (lv_at hl 0 rfl) ?_
    refine lv_aload_n hx hb dX2_layRanges_52 rfl (lv_at hl 1 rfl) ?_
    refine va_get (D := (dC, dI)) (ci := 2) (v := .int 0) (C := RX2) (T := TX2) (N := 11) hx hb hts hi_2 hown hK hP 0 rfl rfl 9 (by decide) hf_50 (fun _ h9 => h9) rfl dX2_layRanges_53 ?_
    refine lv_icmp_ge (tgt := 87) hx hb dX2_layRanges_56 (by decide) (fun c_2 => ?_) (fun c_2 => ?_)
    · have hP9 := hP.sub (ws' := [(h_tree, .inr (2, [.ref h_row, .ref h_joined, .ref h_from, .ref h_to, .ref h_size, .ref h_lossOf, .ref h_lessBy, .ref h_tvalue, .ref h_tnumber, .int 0, .int 0])), (h_row, .inr (0, [.ref h_cell, .int 0])), (h_from, .inl (cyI, 319, .inl (upd ff (0 : Int32).toNatClampNeg 0))), (h_to, .inl (cyI, 319, .inl (upd ft (0 : Int32).toNatClampNeg 0)))]) [0, 1, 2, 3] rfl
      have hD9 := hD.sub (ws' := [(h_tree, .inr (2, [.ref h_row, .ref h_joined, .ref h_from, .ref h_to, .ref h_size, .ref h_lossOf, .ref h_lessBy, .ref h_tvalue, .ref h_tnumber, .int 0, .int 0])), (h_row, .inr (0, [.ref h_cell, .int 0])), (h_from, .inl (cyI, 319, .inl (upd ff (0 : Int32).toNatClampNeg 0))), (h_to, .inl (cyI, 319, .inl (upd ft (0 : Int32).toNatClampNeg 0)))]) [0, 1, 2, 3] (by decide) rfl
      have hK9 := hK.sub (tys' := [(cyI, .int)]) [0] rfl
      exact W.vret hx hb hr (fun t ht hW => ⟨⟨(), rfl, trivial, by rw [ht]; exact hP9, va_K.moved hW.alike hK9, hD9⟩, hS.F ht⟩) hS.2.2 dX2_layRanges_87
    · exact absurd c_2 (by decide)

set_option maxHeartbeats 4000000 in
set_option maxRecDepth 100000 in
theorem c_X2_renew (l : Launch) (dC : Nat → ClassId) (dI : Nat → Nat → Nat) (h_tree : Nat) (h_row : Nat) (h_joined : Nat) (h_from : Nat) (h_to : Nat) (h_size : Nat) (h_lossOf : Nat) (h_lessBy : Nat) (h_tvalue : Nat) (h_tnumber : Nat) (p0 : Int32) (p1 : Int32) (sh : Int32) : Met l yX2_renew wsX2_renew ({ frames := 0, cells := 0, slots := 0, locals := 0 }) (va_Pc [.ref h_tree, .int p0, .int p1] (fun U => va_P (dC, dI) vwCl [(h_tree, .inr (2, [.ref h_row, .ref h_joined, .ref h_from, .ref h_to, .ref h_size, .ref h_lossOf, .ref h_lessBy, .ref h_tvalue, .ref h_tnumber, .int 0, .int sh]))] U.heap ∧ va_K (dC, dI) vwCl [] U)) (vp_Si (fun r : Int32 => r = 0)) 0 0 (fun _ => False) := by
  refine Met.ofW (cc := cX2_renew) (maxL := 5) (ret := (some .int)) (by decide) rfl ?_
  intro p e s m args below meth c s₁ B hml hv
  obtain ⟨rfl, hP, hK⟩ := hv
  have hx := B.exec
  have hb := B.bytes
  have hr := B.returns
  have hts := atoms_spec (ws := wsX2_renew) B.pre
  have hown : s.vm.findClass RX2 = some m.cls := findClass_of_methodNamed B.named
  have hlocks := B.notSynchronized
  have hP : va_P (dC, dI) vwCl [(h_tree, .inr (2, [.ref h_row, .ref h_joined, .ref h_from, .ref h_to, .ref h_size, .ref h_lossOf, .ref h_lessBy, .ref h_tvalue, .ref h_tnumber, .int 0, .int sh]))] s.heap := hP
  have hl := lv_entry ([.ref h_tree, .int p0, .int p1]) (n := 5) (Nat.le_of_ble_eq_true rfl)
  rw [lg_entry_eq]
  generalize (lg_sl ([.ref h_tree, .int p0, .int p1]) ++ List.replicate (5 - (lg_sl ([.ref h_tree, .int p0, .int p1])).length) Slot.unset).toArray = ls at hl ⊢
  have hl : lv_has ls 5 [(0, .ref h_tree), (1, .int p0), (2, .int p1)] := hl
  have hf_50 := hts (.fieldLink RX2 50 "MajorityIndex$Tree" "nodes" "I") (by decide +kernel)
  have hi_2 : ∀ w ∈ u_ws RX2 TX2 11, w ∈ wsX2_renew := by decide +kernel
  refine lv_iconst (v := 0) hx hb dX2_renew_0 (by decide) ?_
  refine lv_istore_n (lv' := [(3, .int 0), (0, .ref h_tree), (1, .int p0), (2, .int p1)]) hx hb dX2_renew_1 rfl hl (by decide) rfl (fun ls hl => ?_)
  refine lv_aload_n hx hb dX2_renew_2 rfl (lv_at hl 1 rfl) ?_
  refine va_get (D := (dC, dI)) (ci := 2) (v := .int 0) (C := RX2) (T := TX2) (N := 11) hx hb hts hi_2 hown hK hP 0 rfl rfl 9 (by decide) hf_50 (fun _ h9 => h9) rfl dX2_renew_3 ?_
  refine lv_iconst (v := 1) hx hb dX2_renew_6 (by decide) ?_
  refine lv_isub hx hb dX2_renew_7 ?_
  refine W.eq (g2 := F0 m 8 ls [.int (-1)]) (by first | rfl | (congr 2; decide)) ?_
  refine lv_istore (lv' := [(4, .int (-1)), (3, .int 0), (0, .ref h_tree), (1, .int p0), (2, .int p1)]) hx hb dX2_renew_8 hl (by decide) rfl (fun ls hl => ?_)
  refine lv_iload hx hb dX2_renew_10 (lv_at hl 0 rfl) ?_
  refine lv_if_lt (tgt := 67) hx hb dX2_renew_12 (by decide) (fun c_1 => ?_) (fun c_1 => ?_)
  · refine lv_iload_n hx hb dX2_renew_67 rfl (lv_at hl 1 rfl) ?_
    exact W.iret (v := 0) hx hb hr (fun t ht hW => ⟨0, rfl, rfl, ht⟩) (fun q hq => by cases hq) dX2_renew_68
  · exact absurd c_1 (by decide)

set_option maxHeartbeats 4000000 in
set_option maxRecDepth 100000 in
theorem c_X2_nodesWithMajority (l : Launch) (dC : Nat → ClassId) (dI : Nat → Nat → Nat) (h_tree : Nat) (h_row : Nat) (h_joined : Nat) (h_from : Nat) (h_to : Nat) (h_size : Nat) (h_lossOf : Nat) (h_lessBy : Nat) (h_tvalue : Nat) (h_tnumber : Nat) (sh : Int32) : Met l yX2_nodesWithMajority wsX2_nodesWithMajority ({ frames := 0, cells := 0, slots := 0, locals := 0 }) (va_Pc [.ref h_tree] (fun U => va_P (dC, dI) vwCl [(h_tree, .inr (2, [.ref h_row, .ref h_joined, .ref h_from, .ref h_to, .ref h_size, .ref h_lossOf, .ref h_lessBy, .ref h_tvalue, .ref h_tnumber, .int 0, .int sh]))] U.heap ∧ va_K (dC, dI) vwCl [] U)) (vp_Si (fun r : Int32 => r = 0)) 0 0 (fun _ => False) := by
  refine Met.ofW (cc := cX2_nodesWithMajority) (maxL := 3) (ret := (some .int)) (by decide) rfl ?_
  intro p e s m args below meth c s₁ B hml hv
  obtain ⟨rfl, hP, hK⟩ := hv
  have hx := B.exec
  have hb := B.bytes
  have hr := B.returns
  have hts := atoms_spec (ws := wsX2_nodesWithMajority) B.pre
  have hown : s.vm.findClass RX2 = some m.cls := findClass_of_methodNamed B.named
  have hlocks := B.notSynchronized
  have hP : va_P (dC, dI) vwCl [(h_tree, .inr (2, [.ref h_row, .ref h_joined, .ref h_from, .ref h_to, .ref h_size, .ref h_lossOf, .ref h_lessBy, .ref h_tvalue, .ref h_tnumber, .int 0, .int sh]))] s.heap := hP
  have hl := lv_entry ([.ref h_tree]) (n := 3) (Nat.le_of_ble_eq_true rfl)
  rw [lg_entry_eq]
  generalize (lg_sl ([.ref h_tree]) ++ List.replicate (3 - (lg_sl ([.ref h_tree])).length) Slot.unset).toArray = ls at hl ⊢
  have hl : lv_has ls 3 [(0, .ref h_tree)] := hl
  have hf_50 := hts (.fieldLink RX2 50 "MajorityIndex$Tree" "nodes" "I") (by decide +kernel)
  have hi_2 : ∀ w ∈ u_ws RX2 TX2 11, w ∈ wsX2_nodesWithMajority := by decide +kernel
  refine lv_iconst (v := 0) hx hb dX2_nodesWithMajority_0 (by decide) ?_
  refine lv_istore_n (lv' := [(1, .int 0), (0, .ref h_tree)]) hx hb dX2_nodesWithMajority_1 rfl hl (by decide) rfl (fun ls hl => ?_)
  refine lv_iconst (v := 0) hx hb dX2_nodesWithMajority_2 (by decide) ?_
  refine lv_istore_n (lv' := [(2, .int 0), (1, .int 0), (0, .ref h_tree)]) hx hb dX2_nodesWithMajority_3 rfl hl (by decide) rfl (fun ls hl => ?_)
  refine lv_iload_n hx hb dX2_nodesWithMajority_4 rfl (lv_at hl 0 rfl) ?_
  refine lv_aload_n hx hb dX2_nodesWithMajority_5 rfl (lv_at hl 2 rfl) ?_
  refine va_get (D := (dC, dI)) (ci := 2) (v := .int 0) (C := RX2) (T := TX2) (N := 11) hx hb hts hi_2 hown hK hP 0 rfl rfl 9 (by decide) hf_50 (fun _ h9 => h9) rfl dX2_nodesWithMajority_6 ?_
  refine lv_icmp_ge (tgt := 45) hx hb dX2_nodesWithMajority_9 (by decide) (fun c_1 => ?_) (fun c_1 => ?_)
  · refine lv_iload_n hx hb dX2_nodesWithMajority_45 rfl (lv_at hl 1 rfl) ?_
    exact W.iret (v := 0) hx hb hr (fun t ht hW => ⟨0, rfl, rfl, ht⟩) (fun q hq => by cases hq) dX2_nodesWithMajority_46
  · exact absurd c_1 (by decide)

set_option maxHeartbeats 4000000 in
set_option maxRecDepth 100000 in
theorem c_X2_allLosses (l : Launch) (dC : Nat → ClassId) (dI : Nat → Nat → Nat) (h_tree : Nat) (h_row : Nat) (h_joined : Nat) (h_from : Nat) (h_to : Nat) (h_size : Nat) (h_lossOf : Nat) (h_lessBy : Nat) (h_tvalue : Nat) (h_tnumber : Nat) (sh : Int32) : Met l yX2_allLosses wsX2_allLosses ({ frames := 0, cells := 0, slots := 0, locals := 0 }) (va_Pc [.ref h_tree] (fun U => va_P (dC, dI) vwCl [(h_tree, .inr (2, [.ref h_row, .ref h_joined, .ref h_from, .ref h_to, .ref h_size, .ref h_lossOf, .ref h_lessBy, .ref h_tvalue, .ref h_tnumber, .int 0, .int sh]))] U.heap ∧ va_K (dC, dI) vwCl [] U)) (vp_Si (fun r : Int32 => r = 0)) 0 0 (fun _ => False) := by
  refine Met.ofW (cc := cX2_allLosses) (maxL := 3) (ret := (some .int)) (by decide) rfl ?_
  intro p e s m args below meth c s₁ B hml hv
  obtain ⟨rfl, hP, hK⟩ := hv
  have hx := B.exec
  have hb := B.bytes
  have hr := B.returns
  have hts := atoms_spec (ws := wsX2_allLosses) B.pre
  have hown : s.vm.findClass RX2 = some m.cls := findClass_of_methodNamed B.named
  have hlocks := B.notSynchronized
  have hP : va_P (dC, dI) vwCl [(h_tree, .inr (2, [.ref h_row, .ref h_joined, .ref h_from, .ref h_to, .ref h_size, .ref h_lossOf, .ref h_lessBy, .ref h_tvalue, .ref h_tnumber, .int 0, .int sh]))] s.heap := hP
  have hl := lv_entry ([.ref h_tree]) (n := 3) (Nat.le_of_ble_eq_true rfl)
  rw [lg_entry_eq]
  generalize (lg_sl ([.ref h_tree]) ++ List.replicate (3 - (lg_sl ([.ref h_tree])).length) Slot.unset).toArray = ls at hl ⊢
  have hl : lv_has ls 3 [(0, .ref h_tree)] := hl
  have hf_50 := hts (.fieldLink RX2 50 "MajorityIndex$Tree" "nodes" "I") (by decide +kernel)
  have hi_2 : ∀ w ∈ u_ws RX2 TX2 11, w ∈ wsX2_allLosses := by decide +kernel
  refine lv_iconst (v := 0) hx hb dX2_allLosses_0 (by decide) ?_
  refine lv_istore_n (lv' := [(1, .int 0), (0, .ref h_tree)]) hx hb dX2_allLosses_1 rfl hl (by decide) rfl (fun ls hl => ?_)
  refine lv_iconst (v := 0) hx hb dX2_allLosses_2 (by decide) ?_
  refine lv_istore_n (lv' := [(2, .int 0), (1, .int 0), (0, .ref h_tree)]) hx hb dX2_allLosses_3 rfl hl (by decide) rfl (fun ls hl => ?_)
  refine lv_iload_n hx hb dX2_allLosses_4 rfl (lv_at hl 0 rfl) ?_
  refine lv_aload_n hx hb dX2_allLosses_5 rfl (lv_at hl 2 rfl) ?_
  refine va_get (D := (dC, dI)) (ci := 2) (v := .int 0) (C := RX2) (T := TX2) (N := 11) hx hb hts hi_2 hown hK hP 0 rfl rfl 9 (by decide) hf_50 (fun _ h9 => h9) rfl dX2_allLosses_6 ?_
  refine lv_icmp_ge (tgt := 27) hx hb dX2_allLosses_9 (by decide) (fun c_1 => ?_) (fun c_1 => ?_)
  · refine lv_iload_n hx hb dX2_allLosses_27 rfl (lv_at hl 1 rfl) ?_
    exact W.iret (v := 0) hx hb hr (fun t ht hW => ⟨0, rfl, rfl, ht⟩) (fun q hq => by cases hq) dX2_allLosses_28
  · exact absurd c_1 (by decide)

set_option maxHeartbeats 4000000 in
set_option maxRecDepth 100000 in
theorem c_X2_deepest (l : Launch) (dC : Nat → ClassId) (dI : Nat → Nat → Nat) (h_tree : Nat) (h_row : Nat) (h_cell : Nat) (h_joined : Nat) (h_from : Nat) (h_to : Nat) (h_size : Nat) (h_lossOf : Nat) (h_lessBy : Nat) (h_tvalue : Nat) (h_tnumber : Nat) (sh : Int32) : Met l yX2_deepest wsX2_deepest ({ frames := 0, cells := 0, slots := 0, locals := 0 }) (va_Pc [.ref h_tree] (fun U => va_P (dC, dI) vwCl [(h_tree, .inr (2, [.ref h_row, .ref h_joined, .ref h_from, .ref h_to, .ref h_size, .ref h_lossOf, .ref h_lessBy, .ref h_tvalue, .ref h_tnumber, .int 0, .int sh])), (h_row, .inr (0, [.ref h_cell, .int 0]))] U.heap ∧ va_K (dC, dI) vwCl [] U)) (vp_Si (fun r : Int32 => r = 0)) 0 0 (fun _ => False) := by
  refine Met.ofW (cc := cX2_deepest) (maxL := 3) (ret := (some .int)) (by decide) rfl ?_
  intro p e s m args below meth c s₁ B hml hv
  obtain ⟨rfl, hP, hK⟩ := hv
  have hx := B.exec
  have hb := B.bytes
  have hr := B.returns
  have hts := atoms_spec (ws := wsX2_deepest) B.pre
  have hown : s.vm.findClass RX2 = some m.cls := findClass_of_methodNamed B.named
  have hlocks := B.notSynchronized
  have hP : va_P (dC, dI) vwCl [(h_tree, .inr (2, [.ref h_row, .ref h_joined, .ref h_from, .ref h_to, .ref h_size, .ref h_lossOf, .ref h_lessBy, .ref h_tvalue, .ref h_tnumber, .int 0, .int sh])), (h_row, .inr (0, [.ref h_cell, .int 0]))] s.heap := hP
  have hl := lv_entry ([.ref h_tree]) (n := 3) (Nat.le_of_ble_eq_true rfl)
  rw [lg_entry_eq]
  generalize (lg_sl ([.ref h_tree]) ++ List.replicate (3 - (lg_sl ([.ref h_tree])).length) Slot.unset).toArray = ls at hl ⊢
  have hl : lv_has ls 3 [(0, .ref h_tree)] := hl
  have hf_50 := hts (.fieldLink RX2 50 "MajorityIndex$Tree" "nodes" "I") (by decide +kernel)
  have hi_2 : ∀ w ∈ u_ws RX2 TX2 11, w ∈ wsX2_deepest := by decide +kernel
  have hf_40 := hts (.fieldLink RX2 40 "MajorityIndex$Tree" "row" "LMajorityIndex$Row;") (by decide +kernel)
  have hf_44 := hts (.fieldLink RX2 44 "MajorityIndex$Row" "length" "I") (by decide +kernel)
  have hi_0 : ∀ w ∈ u_ws RX0 TX0 2, w ∈ wsX2_deepest := by decide +kernel
  refine lv_aload_n hx hb dX2_deepest_0 rfl (lv_at hl 0 rfl) ?_
  refine va_get (D := (dC, dI)) (ci := 2) (v := .int 0) (C := RX2) (T := TX2) (N := 11) hx hb hts hi_2 hown hK hP 0 rfl rfl 9 (by decide) hf_50 (fun _ h9 => h9) rfl dX2_deepest_1 ?_
  refine lv_if_ne (tgt := 11) hx hb dX2_deepest_4 (by decide) (fun c_1 => ?_) (fun c_1 => ?_)
  · exact absurd c_1 (by decide)
  · refine lv_iconst (v := 0) hx hb dX2_deepest_7 (by decide) ?_
    refine lv_goto (tgt := 12) hx hb dX2_deepest_8 (by decide) ?_
    refine lv_istore_n (lv' := [(1, .int 0), (0, .ref h_tree)]) hx hb dX2_deepest_12 rfl hl (by decide) rfl (fun ls hl => ?_)
    refine lv_aload_n hx hb dX2_deepest_13 rfl (lv_at hl 1 rfl) ?_
    refine va_get (D := (dC, dI)) (ci := 2) (v := .ref h_row) (C := RX2) (T := TX2) (N := 11) hx hb hts hi_2 hown hK hP 0 rfl rfl 0 (by decide) hf_40 (fun _ h9 => h9) rfl dX2_deepest_14 ?_
    refine va_get (D := (dC, dI)) (ci := 0) (v := .int 0) (C := RX0) (T := TX0) (N := 2) hx hb hts hi_0 hown hK hP 1 rfl rfl 1 (by decide) hf_44 (fun _ h9 => h9) rfl dX2_deepest_17 ?_
    refine lv_istore_n (lv' := [(2, .int 0), (1, .int 0), (0, .ref h_tree)]) hx hb dX2_deepest_20 rfl hl (by decide) rfl (fun ls hl => ?_)
    refine lv_iload_n hx hb dX2_deepest_21 rfl (lv_at hl 0 rfl) ?_
    refine lv_iconst (v := 1) hx hb dX2_deepest_22 (by decide) ?_
    refine lv_icmp_le (tgt := 38) hx hb dX2_deepest_23 (by decide) (fun c_2 => ?_) (fun c_2 => ?_)
    · refine lv_iload_n hx hb dX2_deepest_38 rfl (lv_at hl 1 rfl) ?_
      exact W.iret (v := 0) hx hb hr (fun t ht hW => ⟨0, rfl, rfl, ht⟩) (fun q hq => by cases hq) dX2_deepest_39
    · exact absurd c_2 (by decide)

set_option maxHeartbeats 4000000 in
set_option maxRecDepth 100000 in
theorem c_X4_laidTree (l : Launch) (dC : Nat → ClassId) (dI : Nat → Nat → Nat) (h0 : Nat) (h_row : Nat) (h_tree : Nat) (h_tally : Nat) (h_votes : Nat) (h_otherVotes : Nat) (h_wins : Nat) (h_fewest : Nat) (h_cell : Nat) (h_joined : Nat) (h_from : Nat) (h_to : Nat) (h_size : Nat) (h_lossOf : Nat) (h_lessBy : Nat) (h_tvalue : Nat) (h_tnumber : Nat) (cyI : ClassId) (ff : Nat → Int32) (ft : Nat → Int32) (sz : Nat) : Met l yX4_laidTree wsX4_laidTree ({ frames := 1, cells := 0, slots := 0, locals := 45 }) (va_Pc [.ref h0] (fun U => U.heap.size = sz ∧ va_P (dC, dI) vwCl [(h0, .inr (4, [.ref h_row, .ref h_tree, .ref h_tally, .ref h_votes, .ref h_otherVotes, .ref h_wins, .ref h_fewest, .int 2, .int 1])), (h_row, .inr (0, [.ref h_cell, .int 0])), (h_tree, .inr (2, [.ref h_row, .ref h_joined, .ref h_from, .ref h_to, .ref h_size, .ref h_lossOf, .ref h_lessBy, .ref h_tvalue, .ref h_tnumber, .int 0, .int 0])), (h_from, .inl (cyI, 319, .inl ff)), (h_to, .inl (cyI, 319, .inl ft))] U.heap ∧ va_K (dC, dI) vwCl [(cyI, .int)] U ∧ va_D (fun _ => True) [(h0, .inr (4, [.ref h_row, .ref h_tree, .ref h_tally, .ref h_votes, .ref h_otherVotes, .ref h_wins, .ref h_fewest, .int 2, .int 1])), (h_row, .inr (0, [.ref h_cell, .int 0])), (h_tree, .inr (2, [.ref h_row, .ref h_joined, .ref h_from, .ref h_to, .ref h_size, .ref h_lossOf, .ref h_lessBy, .ref h_tvalue, .ref h_tnumber, .int 0, .int 0])), (h_from, .inl (cyI, 319, .inl ff)), (h_to, .inl (cyI, 319, .inl ft))])) (va_Qr (fun _ : Unit => True) (fun (_ : Unit) (ra : Nat) (t : State) => ra = h_tree ∧ va_P (dC, dI) vwCl [(h0, .inr (4, [.ref h_row, .ref h_tree, .ref h_tally, .ref h_votes, .ref h_otherVotes, .ref h_wins, .ref h_fewest, .int 2, .int 0])), (h_row, .inr (0, [.ref h_cell, .int 0])), (h_tree, .inr (2, [.ref h_row, .ref h_joined, .ref h_from, .ref h_to, .ref h_size, .ref h_lossOf, .ref h_lessBy, .ref h_tvalue, .ref h_tnumber, .int 0, .int 2])), (h_from, .inl (cyI, 319, .inl (upd ff (0 : Int32).toNatClampNeg 0))), (h_to, .inl (cyI, 319, .inl (upd ft (0 : Int32).toNatClampNeg 0)))] t.heap ∧ va_K (dC, dI) vwCl [(cyI, .int)] t ∧ va_D (va_A [(h0, .inr (4, [.ref h_row, .ref h_tree, .ref h_tally, .ref h_votes, .ref h_otherVotes, .ref h_wins, .ref h_fewest, .int 2, .int 1])), (h_row, .inr (0, [.ref h_cell, .int 0])), (h_tree, .inr (2, [.ref h_row, .ref h_joined, .ref h_from, .ref h_to, .ref h_size, .ref h_lossOf, .ref h_lessBy, .ref h_tvalue, .ref h_tnumber, .int 0, .int 0])), (h_from, .inl (cyI, 319, .inl ff)), (h_to, .inl (cyI, 319, .inl ft))] sz) [(h0, .inr (4, [.ref h_row, .ref h_tree, .ref h_tally, .ref h_votes, .ref h_otherVotes, .ref h_wins, .ref h_fewest, .int 2, .int 0])), (h_row, .inr (0, [.ref h_cell, .int 0])), (h_tree, .inr (2, [.ref h_row, .ref h_joined, .ref h_from, .ref h_to, .ref h_size, .ref h_lossOf, .ref h_lessBy, .ref h_tvalue, .ref h_tnumber, .int 0, .int 2])), (h_from, .inl (cyI, 319, .inl (upd ff (0 : Int32).toNatClampNeg 0))), (h_to, .inl (cyI, 319, .inl (upd ft (0 : Int32).toNatClampNeg 0)))]) (va_A [(h0, .inr (4, [.ref h_row, .ref h_tree, .ref h_tally, .ref h_votes, .ref h_otherVotes, .ref h_wins, .ref h_fewest, .int 2, .int 1])), (h_row, .inr (0, [.ref h_cell, .int 0])), (h_tree, .inr (2, [.ref h_row, .ref h_joined, .ref h_from, .ref h_to, .ref h_size, .ref h_lossOf, .ref h_lessBy, .ref h_tvalue, .ref h_tnumber, .int 0, .int 0])), (h_from, .inl (cyI, 319, .inl ff)), (h_to, .inl (cyI, 319, .inl ft))] sz)) 0 0 (va_A [(h0, .inr (4, [.ref h_row, .ref h_tree, .ref h_tally, .ref h_votes, .ref h_otherVotes, .ref h_wins, .ref h_fewest, .int 2, .int 1])), (h_row, .inr (0, [.ref h_cell, .int 0])), (h_tree, .inr (2, [.ref h_row, .ref h_joined, .ref h_from, .ref h_to, .ref h_size, .ref h_lossOf, .ref h_lessBy, .ref h_tvalue, .ref h_tnumber, .int 0, .int 0])), (h_from, .inl (cyI, 319, .inl ff)), (h_to, .inl (cyI, 319, .inl ft))] sz) := by
  refine Met.ofW (cc := cX4_laidTree) (maxL := 1) (ret := (some (.object "MajorityIndex$Tree"))) (by decide) rfl ?_
  intro p e s m args below meth c s₁ B hml hv
  obtain ⟨rfl, hsz, hP, hK, hD0⟩ := hv
  have hx := B.exec
  have hb := B.bytes
  have hr := B.returns
  have hts := atoms_spec (ws := wsX4_laidTree) B.pre
  have hown : s.vm.findClass RX4 = some m.cls := findClass_of_methodNamed B.named
  have hlocks := B.notSynchronized
  subst hsz
  have hD := hD0.self (sz := s.heap.size)
  generalize hAe : va_A [(h0, .inr (4, [.ref h_row, .ref h_tree, .ref h_tally, .ref h_votes, .ref h_otherVotes, .ref h_wins, .ref h_fewest, .int 2, .int 1])), (h_row, .inr (0, [.ref h_cell, .int 0])), (h_tree, .inr (2, [.ref h_row, .ref h_joined, .ref h_from, .ref h_to, .ref h_size, .ref h_lossOf, .ref h_lessBy, .ref h_tvalue, .ref h_tnumber, .int 0, .int 0])), (h_from, .inl (cyI, 319, .inl ff)), (h_to, .inl (cyI, 319, .inl ft))] s.heap.size = A at hD ⊢
  have hA : ∀ q : Nat, s.heap.size ≤ q → A q := fun q h => by rw [← hAe]; exact Or.inr h
  have hS : va_S A s.heap s.heap [] := va_S.rf
  have hP : va_P (dC, dI) vwCl [(h0, .inr (4, [.ref h_row, .ref h_tree, .ref h_tally, .ref h_votes, .ref h_otherVotes, .ref h_wins, .ref h_fewest, .int 2, .int 1])), (h_row, .inr (0, [.ref h_cell, .int 0])), (h_tree, .inr (2, [.ref h_row, .ref h_joined, .ref h_from, .ref h_to, .ref h_size, .ref h_lossOf, .ref h_lessBy, .ref h_tvalue, .ref h_tnumber, .int 0, .int 0])), (h_from, .inl (cyI, 319, .inl ff)), (h_to, .inl (cyI, 319, .inl ft))] s.heap := hP
  have hl := lv_entry ([.ref h0]) (n := 1) (Nat.le_of_ble_eq_true rfl)
  rw [lg_entry_eq]
  generalize (lg_sl ([.ref h0]) ++ List.replicate (1 - (lg_sl ([.ref h0])).length) Slot.unset).toArray = ls at hl ⊢
  have hl : lv_has ls 1 [(0, .ref h0)] := hl
  have hf_53 := hts (.fieldLink RX4 53 "MajorityIndex" "treeIsOld" "Z") (by decide +kernel)
  have hi_4 : ∀ w ∈ u_ws RX4 TX4 9, w ∈ wsX4_laidTree := by decide +kernel
  have hf_21 := hts (.fieldLink RX4 21 "MajorityIndex" "tree" "LMajorityIndex$Tree;") (by decide +kernel)
  have hf_49 := hts (.fieldLink RX4 49 "MajorityIndex" "slotsNow" "I") (by decide +kernel)
  have hf_204 := hts (.fieldLink RX4 204 "MajorityIndex$Tree" "slotsHere" "I") (by decide +kernel)
  have hi_2 : ∀ w ∈ u_ws RX2 TX2 11, w ∈ wsX4_laidTree := by decide +kernel
  have hf_12 := hts (.fieldLink RX4 12 "MajorityIndex" "row" "LMajorityIndex$Row;") (by decide +kernel)
  have hf_57 := hts (.fieldLink RX4 57 "MajorityIndex$Row" "length" "I") (by decide +kernel)
  have hi_0 : ∀ w ∈ u_ws RX0 TX0 2, w ∈ wsX4_laidTree := by decide +kernel
  refine lv_aload_n hx hb dX4_laidTree_0 rfl (lv_at hl 0 rfl) ?_
  refine va_get (D := (dC, dI)) (ci := 4) (v := .int 1) (C := RX4) (T := TX4) (N := 9) hx hb hts hi_4 hown hK hP 0 rfl rfl 8 (by decide) hf_53 (fun _ h9 => h9) rfl dX4_laidTree_1 ?_
  refine lv_if_eq (tgt := 46) hx hb dX4_laidTree_4 (by decide) (fun c_1 => ?_) (fun c_1 => ?_)
  · exact absurd c_1 (by decide)
  · refine lv_aload_n hx hb dX4_laidTree_7 rfl (lv_at hl 0 rfl) ?_
    refine va_get (D := (dC, dI)) (ci := 4) (v := .ref h_tree) (C := RX4) (T := TX4) (N := 9) hx hb hts hi_4 hown hK hP 0 rfl rfl 1 (by decide) hf_21 (fun _ h9 => h9) rfl dX4_laidTree_8 ?_
    have hPc := hP.sub (ws' := [(h_tree, .inr (2, [.ref h_row, .ref h_joined, .ref h_from, .ref h_to, .ref h_size, .ref h_lossOf, .ref h_lessBy, .ref h_tvalue, .ref h_tnumber, .int 0, .int 0])), (h_row, .inr (0, [.ref h_cell, .int 0])), (h_from, .inl (cyI, 319, .inl ff)), (h_to, .inl (cyI, 319, .inl ft))]) [2, 1, 3, 4] rfl
    have hKc := hK.sub (tys' := [(cyI, .int)]) [0] rfl
    have hDc := hD.sub (ws' := [(h_tree, .inr (2, [.ref h_row, .ref h_joined, .ref h_from, .ref h_to, .ref h_size, .ref h_lossOf, .ref h_lessBy, .ref h_tvalue, .ref h_tnumber, .int 0, .int 0])), (h_row, .inr (0, [.ref h_cell, .int 0])), (h_from, .inl (cyI, 319, .inl ff)), (h_to, .inl (cyI, 319, .inl ft))]) [2, 1, 3, 4] (by decide) rfl
    have hFc := va_free (wc := [(h_tree, .inr (2, [.ref h_row, .ref h_joined, .ref h_from, .ref h_to, .ref h_size, .ref h_lossOf, .ref h_lessBy, .ref h_tvalue, .ref h_tnumber, .int 0, .int 0])), (h_row, .inr (0, [.ref h_cell, .int 0])), (h_from, .inl (cyI, 319, .inl ff)), (h_to, .inl (cyI, 319, .inl ft))]) hD hS hA [2, 1, 3, 4] rfl
    refine va_callv (va_runV (As := []) (rest := []) ⟨hx, hb, hml, hown, hts⟩ (c_X2_layRanges l dC dI h_tree h_row h_cell h_joined h_from h_to h_size h_lossOf h_lessBy h_tvalue h_tnumber cyI ff ft s.heap.size) (cwV 0 hts gX4_laidTree_X2_layRanges rfl rfl rfl (by decide +kernel) ⟨Nat.le_of_ble_eq_true rfl, Nat.le_of_ble_eq_true rfl⟩) ⟨fun a U g mk q => by obtain ⟨q0, q1, qP, qK, qD⟩ := q; exact ⟨q0, q1, qP, va_K.moved (u := U) (U := U.calling g mk a) (Vm.Alike.refl U.vm) qK, qD⟩, va_recv hKc hPc (ci := 2) (q0 := 0) rfl rfl, fun U hU hW => ⟨rfl, by rw [hU], by rw [hU]; exact hPc, va_K.moved hW.alike hKc, hDc.weaken (fun _ _ _ _ => trivial)⟩⟩ rfl rfl hl.1 rfl (lv_room (Nat.le_of_ble_eq_true rfl)) dX4_laidTree_11 ⟨Nat.le_of_ble_eq_true rfl, Nat.le_of_ble_eq_true rfl⟩) hS (fun q _ h => hFc q h) hFc (fun u t H1 locs ht hvm w_2 hB hz1 hk1 hS => ?_)
    obtain ⟨hP1, hK1, hD1⟩ := hB
    rw [ht] at hP1
    have hK1 := va_K.moved hvm.symm hK1
    obtain ⟨hP, hD⟩ := va_join (wr := [(h0, .inr (4, [.ref h_row, .ref h_tree, .ref h_tally, .ref h_votes, .ref h_otherVotes, .ref h_wins, .ref h_fewest, .int 2, .int 1]))]) (w1 := [(h_tree, .inr (2, [.ref h_row, .ref h_joined, .ref h_from, .ref h_to, .ref h_size, .ref h_lossOf, .ref h_lessBy, .ref h_tvalue, .ref h_tnumber, .int 0, .int 0])), (h_row, .inr (0, [.ref h_cell, .int 0])), (h_from, .inl (cyI, 319, .inl (upd ff (0 : Int32).toNatClampNeg 0))), (h_to, .inl (cyI, 319, .inl (upd ft (0 : Int32).toNatClampNeg 0)))]) hP hD [2, 1, 3, 4] [0] rfl rfl (by decide) (by decide) hk1 hFc hP1 hD1
    clear hP1 hD1 hK1 hk1 hz1 hFc hDc hPc hKc
    generalize H1 = H at hP hS ⊢
    have hP : va_P (dC, dI) vwCl [(h0, .inr (4, [.ref h_row, .ref h_tree, .ref h_tally, .ref h_votes, .ref h_otherVotes, .ref h_wins, .ref h_fewest, .int 2, .int 1])), (h_tree, .inr (2, [.ref h_row, .ref h_joined, .ref h_from, .ref h_to, .ref h_size, .ref h_lossOf, .ref h_lessBy, .ref h_tvalue, .ref h_tnumber, .int 0, .int 0])), (h_row, .inr (0, [.ref h_cell, .int 0])), (h_from, .inl (cyI, 319, .inl (upd ff (0 : Int32).toNatClampNeg 0))), (h_to, .inl (cyI, 319, .inl (upd ft (0 : Int32).toNatClampNeg 0)))] H := hP
    have hD : va_D A [(h0, .inr (4, [.ref h_row, .ref h_tree, .ref h_tally, .ref h_votes, .ref h_otherVotes, .ref h_wins, .ref h_fewest, .int 2, .int 1])), (h_tree, .inr (2, [.ref h_row, .ref h_joined, .ref h_from, .ref h_to, .ref h_size, .ref h_lossOf, .ref h_lessBy, .ref h_tvalue, .ref h_tnumber, .int 0, .int 0])), (h_row, .inr (0, [.ref h_cell, .int 0])), (h_from, .inl (cyI, 319, .inl (upd ff (0 : Int32).toNatClampNeg 0))), (h_to, .inl (cyI, 319, .inl (upd ft (0 : Int32).toNatClampNeg 0)))] := hD
    refine lv_aload_n hx hb dX4_laidTree_14 rfl (lv_at hl 0 rfl) ?_
    refine va_get (D := (dC, dI)) (ci := 4) (v := .ref h_tree) (C := RX4) (T := TX4) (N := 9) hx hb hts hi_4 hown hK hP 0 rfl rfl 1 (by decide) hf_21 (fun _ h9 => h9) rfl dX4_laidTree_15 ?_
    refine lv_aload_n hx hb dX4_laidTree_18 rfl (lv_at hl 0 rfl) ?_
    refine va_get (D := (dC, dI)) (ci := 4) (v := .int 2) (C := RX4) (T := TX4) (N := 9) hx hb hts hi_4 hown hK hP 0 rfl rfl 7 (by decide) hf_49 (fun _ h9 => h9) rfl dX4_laidTree_19 ?_
    refine va_put (D := (dC, dI)) (ci := 2) (v := .int 2) (ty := .int) (C := RX2) (T := TX2) (N := 11) hx hb hts hi_2 tyX2 tyX2_ok nmX2 hown hK hP hD hS 1 rfl rfl 10 (by decide) hf_204 (fun _ h9 => h9) rfl (by decide +kernel) rfl rfl (Nat.le_of_ble_eq_true rfl) dX4_laidTree_22 (fun H locs hP hD hS => ?_)
    have hP : va_P (dC, dI) vwCl [(h0, .inr (4, [.ref h_row, .ref h_tree, .ref h_tally, .ref h_votes, .ref h_otherVotes, .ref h_wins, .ref h_fewest, .int 2, .int 1])), (h_tree, .inr (2, [.ref h_row, .ref h_joined, .ref h_from, .ref h_to, .ref h_size, .ref h_lossOf, .ref h_lessBy, .ref h_tvalue, .ref h_tnumber, .int 0, .int 2])), (h_row, .inr (0, [.ref h_cell, .int 0])), (h_from, .inl (cyI, 319, .inl (upd ff (0 : Int32).toNatClampNeg 0))), (h_to, .inl (cyI, 319, .inl (upd ft (0 : Int32).toNatClampNeg 0)))] H := hP
    have hD : va_D A [(h0, .inr (4, [.ref h_row, .ref h_tree, .ref h_tally, .ref h_votes, .ref h_otherVotes, .ref h_wins, .ref h_fewest, .int 2, .int 1])), (h_tree, .inr (2, [.ref h_row, .ref h_joined, .ref h_from, .ref h_to, .ref h_size, .ref h_lossOf, .ref h_lessBy, .ref h_tvalue, .ref h_tnumber, .int 0, .int 2])), (h_row, .inr (0, [.ref h_cell, .int 0])), (h_from, .inl (cyI, 319, .inl (upd ff (0 : Int32).toNatClampNeg 0))), (h_to, .inl (cyI, 319, .inl (upd ft (0 : Int32).toNatClampNeg 0)))] := hD
    refine lv_aload_n hx hb dX4_laidTree_25 rfl (lv_at hl 0 rfl) ?_
    refine va_get (D := (dC, dI)) (ci := 4) (v := .ref h_tree) (C := RX4) (T := TX4) (N := 9) hx hb hts hi_4 hown hK hP 0 rfl rfl 1 (by decide) hf_21 (fun _ h9 => h9) rfl dX4_laidTree_26 ?_
    refine lv_iconst (v := 0) hx hb dX4_laidTree_29 (by decide) ?_
    refine lv_aload_n hx hb dX4_laidTree_30 rfl (lv_at hl 0 rfl) ?_
    refine va_get (D := (dC, dI)) (ci := 4) (v := .ref h_row) (C := RX4) (T := TX4) (N := 9) hx hb hts hi_4 hown hK hP 0 rfl rfl 0 (by decide) hf_12 (fun _ h9 => h9) rfl dX4_laidTree_31 ?_
    refine va_get (D := (dC, dI)) (ci := 0) (v := .int 0) (C := RX0) (T := TX0) (N := 2) hx hb hts hi_0 hown hK hP 2 rfl rfl 1 (by decide) hf_57 (fun _ h9 => h9) rfl dX4_laidTree_34 ?_
    have hPc := hP.sub (ws' := [(h_tree, .inr (2, [.ref h_row, .ref h_joined, .ref h_from, .ref h_to, .ref h_size, .ref h_lossOf, .ref h_lessBy, .ref h_tvalue, .ref h_tnumber, .int 0, .int 2]))]) [1] rfl
    have hKc := hK.sub (tys' := []) [] rfl
    refine vp_callSi (W.runV (As := [.int 0, .int 0]) (rest := []) ⟨hx, hb, hml, hown, hts⟩ (c_X2_renew l dC dI h_tree h_row h_joined h_from h_to h_size h_lossOf h_lessBy h_tvalue h_tnumber 0 0 2) (cwV 2 hts gX4_laidTree_X2_renew rfl rfl rfl (by decide +kernel) ⟨Nat.le_of_ble_eq_true rfl, Nat.le_of_ble_eq_true rfl⟩) ⟨fun a U g mk q => by obtain ⟨q0, qP, qK⟩ := q; exact ⟨q0, qP, va_K.moved (u := U) (U := U.calling g mk a) (Vm.Alike.refl U.vm) qK⟩, va_recv hKc hPc (ci := 2) (q0 := 0) rfl rfl, fun U hU hW => ⟨rfl, by rw [hU]; exact hPc, va_K.moved hW.alike hKc⟩⟩ rfl rfl hl.1 rfl (lv_room (Nat.le_of_ble_eq_true rfl)) dX4_laidTree_37 ⟨Nat.le_of_ble_eq_true rfl, Nat.le_of_ble_eq_true rfl⟩) (fun r_3 w_3 => ?_)
    subst w_3
    refine lv_pop hx hb dX4_laidTree_40 rfl ?_
    refine lv_aload_n hx hb dX4_laidTree_41 rfl (lv_at hl 0 rfl) ?_
    refine lv_iconst (v := 0) hx hb dX4_laidTree_42 (by decide) ?_
    refine va_put (D := (dC, dI)) (ci := 4) (v := .int 0) (ty := .boolean) (C := RX4) (T := TX4) (N := 9) hx hb hts hi_4 tyX4 tyX4_ok nmX4 hown hK hP hD hS 0 rfl rfl 8 (by decide) hf_53 (fun _ h9 => h9) rfl (by decide +kernel) (by decide) (by decide) (Nat.le_of_ble_eq_true rfl) dX4_laidTree_43 (fun H locs hP hD hS => ?_)
    have hP : va_P (dC, dI) vwCl [(h0, .inr (4, [.ref h_row, .ref h_tree, .ref h_tally, .ref h_votes, .ref h_otherVotes, .ref h_wins, .ref h_fewest, .int 2, .int 0])), (h_tree, .inr (2, [.ref h_row, .ref h_joined, .ref h_from, .ref h_to, .ref h_size, .ref h_lossOf, .ref h_lessBy, .ref h_tvalue, .ref h_tnumber, .int 0, .int 2])), (h_row, .inr (0, [.ref h_cell, .int 0])), (h_from, .inl (cyI, 319, .inl (upd ff (0 : Int32).toNatClampNeg 0))), (h_to, .inl (cyI, 319, .inl (upd ft (0 : Int32).toNatClampNeg 0)))] H := hP
    have hD : va_D A [(h0, .inr (4, [.ref h_row, .ref h_tree, .ref h_tally, .ref h_votes, .ref h_otherVotes, .ref h_wins, .ref h_fewest, .int 2, .int 0])), (h_tree, .inr (2, [.ref h_row, .ref h_joined, .ref h_from, .ref h_to, .ref h_size, .ref h_lossOf, .ref h_lessBy, .ref h_tvalue, .ref h_tnumber, .int 0, .int 2])), (h_row, .inr (0, [.ref h_cell, .int 0])), (h_from, .inl (cyI, 319, .inl (upd ff (0 : Int32).toNatClampNeg 0))), (h_to, .inl (cyI, 319, .inl (upd ft (0 : Int32).toNatClampNeg 0)))] := hD
    refine lv_aload_n hx hb dX4_laidTree_46 rfl (lv_at hl 0 rfl) ?_
    refine va_get (D := (dC, dI)) (ci := 4) (v := .ref h_tree) (C := RX4) (T := TX4) (N := 9) hx hb hts hi_4 hown hK hP 0 rfl rfl 1 (by decide) hf_21 (fun _ h9 => h9) rfl dX4_laidTree_47 ?_
    have hP9 := hP.sub (ws' := [(h0, .inr (4, [.ref h_row, .ref h_tree, .ref h_tally, .ref h_votes, .ref h_otherVotes, .ref h_wins, .ref h_fewest, .int 2, .int 0])), (h_row, .inr (0, [.ref h_cell, .int 0])), (h_tree, .inr (2, [.ref h_row, .ref h_joined, .ref h_from, .ref h_to, .ref h_size, .ref h_lossOf, .ref h_lessBy, .ref h_tvalue, .ref h_tnumber, .int 0, .int 2])), (h_from, .inl (cyI, 319, .inl (upd ff (0 : Int32).toNatClampNeg 0))), (h_to, .inl (cyI, 319, .inl (upd ft (0 : Int32).toNatClampNeg 0)))]) [0, 2, 1, 3, 4] rfl
    have hD9 := hD.sub (ws' := [(h0, .inr (4, [.ref h_row, .ref h_tree, .ref h_tally, .ref h_votes, .ref h_otherVotes, .ref h_wins, .ref h_fewest, .int 2, .int 0])), (h_row, .inr (0, [.ref h_cell, .int 0])), (h_tree, .inr (2, [.ref h_row, .ref h_joined, .ref h_from, .ref h_to, .ref h_size, .ref h_lossOf, .ref h_lessBy, .ref h_tvalue, .ref h_tnumber, .int 0, .int 2])), (h_from, .inl (cyI, 319, .inl (upd ff (0 : Int32).toNatClampNeg 0))), (h_to, .inl (cyI, 319, .inl (upd ft (0 : Int32).toNatClampNeg 0)))]) [0, 2, 1, 3, 4] (by decide) rfl
    have hK9 := hK.sub (tys' := [(cyI, .int)]) [0] rfl
    exact W.aret hx hb hr (Or.inl ⟨_, rfl⟩) (Or.inr ⟨_, rfl⟩) (fun t ht hW => ⟨⟨(), h_tree, rfl, trivial, rfl, by rw [ht]; exact hP9, va_K.moved hW.alike hK9, hD9⟩, hS.F ht⟩) hS.2.2 dX4_laidTree_50

set_option maxHeartbeats 4000000 in
set_option maxRecDepth 100000 in
/-- told on a fresh object -/
theorem c_X4_told (l : Launch) (dC : Nat → ClassId) (dI : Nat → Nat → Nat) (h0 : Nat) (h_row : Nat) (h_tree : Nat) (h_tally : Nat) (h_votes : Nat) (h_otherVotes : Nat) (h_wins : Nat) (h_fewest : Nat) (h_cell : Nat) (h_joined : Nat) (h_from : Nat) (h_to : Nat) (h_size : Nat) (h_lossOf : Nat) (h_lessBy : Nat) (h_tvalue : Nat) (h_tnumber : Nat) (cyI : ClassId) (ff : Nat → Int32) (ft : Nat → Int32) (p0 : Int32) (sz : Nat) : Met l yX4_told wsX4_told ({ frames := 2, cells := 0, slots := 0, locals := 90 }) (va_Pc [.ref h0, .int p0] (fun U => U.heap.size = sz ∧ va_P (dC, dI) vwCl [(h0, .inr (4, [.ref h_row, .ref h_tree, .ref h_tally, .ref h_votes, .ref h_otherVotes, .ref h_wins, .ref h_fewest, .int 2, .int 1])), (h_row, .inr (0, [.ref h_cell, .int 0])), (h_tree, .inr (2, [.ref h_row, .ref h_joined, .ref h_from, .ref h_to, .ref h_size, .ref h_lossOf, .ref h_lessBy, .ref h_tvalue, .ref h_tnumber, .int 0, .int 0])), (h_from, .inl (cyI, 319, .inl ff)), (h_to, .inl (cyI, 319, .inl ft))] U.heap ∧ va_K (dC, dI) vwCl [(cyI, .int)] U ∧ va_D (fun _ => True) [(h0, .inr (4, [.ref h_row, .ref h_tree, .ref h_tally, .ref h_votes, .ref h_otherVotes, .ref h_wins, .ref h_fewest, .int 2, .int 1])), (h_row, .inr (0, [.ref h_cell, .int 0])), (h_tree, .inr (2, [.ref h_row, .ref h_joined, .ref h_from, .ref h_to, .ref h_size, .ref h_lossOf, .ref h_lessBy, .ref h_tvalue, .ref h_tnumber, .int 0, .int 0])), (h_from, .inl (cyI, 319, .inl ff)), (h_to, .inl (cyI, 319, .inl ft))])) (va_Qi (fun (r : Int32) (_ : Unit) => (r = 2 ∧ p0.toInt = 1) ∨ (r = 0 ∧ (p0.toInt = 0 ∨ (2 ≤ p0.toInt ∧ p0.toInt ≤ 6))) ∨ (r = (-1) ∧ (p0.toInt < 0 ∨ 6 < p0.toInt))) (fun (_ : Unit) (t : State) => va_P (dC, dI) vwCl [] t.heap ∧ va_K (dC, dI) vwCl [(cyI, .int)] t ∧ va_D (va_A [(h0, .inr (4, [.ref h_row, .ref h_tree, .ref h_tally, .ref h_votes, .ref h_otherVotes, .ref h_wins, .ref h_fewest, .int 2, .int 1])), (h_row, .inr (0, [.ref h_cell, .int 0])), (h_tree, .inr (2, [.ref h_row, .ref h_joined, .ref h_from, .ref h_to, .ref h_size, .ref h_lossOf, .ref h_lessBy, .ref h_tvalue, .ref h_tnumber, .int 0, .int 0])), (h_from, .inl (cyI, 319, .inl ff)), (h_to, .inl (cyI, 319, .inl ft))] sz) []) (va_A [(h0, .inr (4, [.ref h_row, .ref h_tree, .ref h_tally, .ref h_votes, .ref h_otherVotes, .ref h_wins, .ref h_fewest, .int 2, .int 1])), (h_row, .inr (0, [.ref h_cell, .int 0])), (h_tree, .inr (2, [.ref h_row, .ref h_joined, .ref h_from, .ref h_to, .ref h_size, .ref h_lossOf, .ref h_lessBy, .ref h_tvalue, .ref h_tnumber, .int 0, .int 0])), (h_from, .inl (cyI, 319, .inl ff)), (h_to, .inl (cyI, 319, .inl ft))] sz)) 0 0 (va_A [(h0, .inr (4, [.ref h_row, .ref h_tree, .ref h_tally, .ref h_votes, .ref h_otherVotes, .ref h_wins, .ref h_fewest, .int 2, .int 1])), (h_row, .inr (0, [.ref h_cell, .int 0])), (h_tree, .inr (2, [.ref h_row, .ref h_joined, .ref h_from, .ref h_to, .ref h_size, .ref h_lossOf, .ref h_lessBy, .ref h_tvalue, .ref h_tnumber, .int 0, .int 0])), (h_from, .inl (cyI, 319, .inl ff)), (h_to, .inl (cyI, 319, .inl ft))] sz) := by
  refine Met.ofW (cc := cX4_told) (maxL := 2) (ret := (some .int)) (by decide) rfl ?_
  intro p e s m args below meth c s₁ B hml hv
  obtain ⟨rfl, hsz, hP, hK, hD0⟩ := hv
  have hx := B.exec
  have hb := B.bytes
  have hr := B.returns
  have hts := atoms_spec (ws := wsX4_told) B.pre
  have hown : s.vm.findClass RX4 = some m.cls := findClass_of_methodNamed B.named
  have hlocks := B.notSynchronized
  subst hsz
  have hD := hD0.self (sz := s.heap.size)
  generalize hAe : va_A [(h0, .inr (4, [.ref h_row, .ref h_tree, .ref h_tally, .ref h_votes, .ref h_otherVotes, .ref h_wins, .ref h_fewest, .int 2, .int 1])), (h_row, .inr (0, [.ref h_cell, .int 0])), (h_tree, .inr (2, [.ref h_row, .ref h_joined, .ref h_from, .ref h_to, .ref h_size, .ref h_lossOf, .ref h_lessBy, .ref h_tvalue, .ref h_tnumber, .int 0, .int 0])), (h_from, .inl (cyI, 319, .inl ff)), (h_to, .inl (cyI, 319, .inl ft))] s.heap.size = A at hD ⊢
  have hA : ∀ q : Nat, s.heap.size ≤ q → A q := fun q h => by rw [← hAe]; exact Or.inr h
  have hS : va_S A s.heap s.heap [] := va_S.rf
  have hP : va_P (dC, dI) vwCl [(h0, .inr (4, [.ref h_row, .ref h_tree, .ref h_tally, .ref h_votes, .ref h_otherVotes, .ref h_wins, .ref h_fewest, .int 2, .int 1])), (h_row, .inr (0, [.ref h_cell, .int 0])), (h_tree, .inr (2, [.ref h_row, .ref h_joined, .ref h_from, .ref h_to, .ref h_size, .ref h_lossOf, .ref h_lessBy, .ref h_tvalue, .ref h_tnumber, .int 0, .int 0])), (h_from, .inl (cyI, 319, .inl ff)), (h_to, .inl (cyI, 319, .inl ft))] s.heap := hP
  have hl := lv_entry ([.ref h0, .int p0]) (n := 2) (Nat.le_of_ble_eq_true rfl)
  rw [lg_entry_eq]
  generalize (lg_sl ([.ref h0, .int p0]) ++ List.replicate (2 - (lg_sl ([.ref h0, .int p0])).length) Slot.unset).toArray = ls at hl ⊢
  have hl : lv_has ls 2 [(0, .ref h0), (1, .int p0)] := hl
  have hf_12 := hts (.fieldLink RX4 12 "MajorityIndex" "row" "LMajorityIndex$Row;") (by decide +kernel)
  have hi_4 : ∀ w ∈ u_ws RX4 TX4 9, w ∈ wsX4_told := by decide +kernel
  have hf_57 := hts (.fieldLink RX4 57 "MajorityIndex$Row" "length" "I") (by decide +kernel)
  have hi_0 : ∀ w ∈ u_ws RX0 TX0 2, w ∈ wsX4_told := by decide +kernel
  have hf_49 := hts (.fieldLink RX4 49 "MajorityIndex" "slotsNow" "I") (by decide +kernel)
  have hf_163 := hts (.fieldLink RX4 163 "MajorityIndex$Tree" "nodes" "I") (by decide +kernel)
  have hi_2 : ∀ w ∈ u_ws RX2 TX2 11, w ∈ wsX4_told := by decide +kernel
  refine lv_iload_n hx hb dX4_told_0 rfl (lv_at hl 1 rfl) ?_
  by_cases s_1 : p0.toInt = 0
  · refine lv_tableIn (tgt := 44) (off := 43) hx hb dX4_told_1 (by omega) (by omega) (by rw [s_1]; rfl) (by decide) ?_
    refine lv_aload_n hx hb dX4_told_44 rfl (lv_at hl 0 rfl) ?_
    refine va_get (D := (dC, dI)) (ci := 4) (v := .ref h_row) (C := RX4) (T := TX4) (N := 9) hx hb hts hi_4 hown hK hP 0 rfl rfl 0 (by decide) hf_12 (fun _ h9 => h9) rfl dX4_told_45 ?_
    refine va_get (D := (dC, dI)) (ci := 0) (v := .int 0) (C := RX0) (T := TX0) (N := 2) hx hb hts hi_0 hown hK hP 1 rfl rfl 1 (by decide) hf_57 (fun _ h9 => h9) rfl dX4_told_48 ?_
    have hP9 := hP.sub (ws' := []) [] rfl
    have hD9 := hD.sub (ws' := []) [] (by decide) rfl
    have hK9 := hK.sub (tys' := [(cyI, .int)]) [0] rfl
    exact W.iret (v := 0) hx hb hr (fun t ht hW => ⟨⟨0, (), rfl, Or.inr (Or.inl ⟨rfl, by omega⟩), by rw [ht]; exact hP9, va_K.moved hW.alike hK9, hD9⟩, hS.F ht⟩) hS.2.2 dX4_told_51
  by_cases s_2 : p0.toInt = 1
  · refine lv_tableIn (tgt := 52) (off := 51) hx hb dX4_told_1 (by omega) (by omega) (by rw [s_2]; rfl) (by decide) ?_
    refine lv_aload_n hx hb dX4_told_52 rfl (lv_at hl 0 rfl) ?_
    refine va_get (D := (dC, dI)) (ci := 4) (v := .int 2) (C := RX4) (T := TX4) (N := 9) hx hb hts hi_4 hown hK hP 0 rfl rfl 7 (by decide) hf_49 (fun _ h9 => h9) rfl dX4_told_53 ?_
    have hP9 := hP.sub (ws' := []) [] rfl
    have hD9 := hD.sub (ws' := []) [] (by decide) rfl
    have hK9 := hK.sub (tys' := [(cyI, .int)]) [0] rfl
    exact W.iret (v := 2) hx hb hr (fun t ht hW => ⟨⟨2, (), rfl, Or.inl ⟨rfl, by omega⟩, by rw [ht]; exact hP9, va_K.moved hW.alike hK9, hD9⟩, hS.F ht⟩) hS.2.2 dX4_told_56
  by_cases s_3 : p0.toInt = 2
  · refine lv_tableIn (tgt := 57) (off := 56) hx hb dX4_told_1 (by omega) (by omega) (by rw [s_3]; rfl) (by decide) ?_
    refine lv_aload_n hx hb dX4_told_57 rfl (lv_at hl 0 rfl) ?_
    have hPc := hP.sub (ws' := [(h0, .inr (4, [.ref h_row, .ref h_tree, .ref h_tally, .ref h_votes, .ref h_otherVotes, .ref h_wins, .ref h_fewest, .int 2, .int 1])), (h_row, .inr (0, [.ref h_cell, .int 0])), (h_tree, .inr (2, [.ref h_row, .ref h_joined, .ref h_from, .ref h_to, .ref h_size, .ref h_lossOf, .ref h_lessBy, .ref h_tvalue, .ref h_tnumber, .int 0, .int 0])), (h_from, .inl (cyI, 319, .inl ff)), (h_to, .inl (cyI, 319, .inl ft))]) [0, 1, 2, 3, 4] rfl
    have hKc := hK.sub (tys' := [(cyI, .int)]) [0] rfl
    have hDc := hD.sub (ws' := [(h0, .inr (4, [.ref h_row, .ref h_tree, .ref h_tally, .ref h_votes, .ref h_otherVotes, .ref h_wins, .ref h_fewest, .int 2, .int 1])), (h_row, .inr (0, [.ref h_cell, .int 0])), (h_tree, .inr (2, [.ref h_row, .ref h_joined, .ref h_from, .ref h_to, .ref h_size, .ref h_lossOf, .ref h_lessBy, .ref h_tvalue, .ref h_tnumber, .int 0, .int 0])), (h_from, .inl (cyI, 319, .inl ff)), (h_to, .inl (cyI, 319, .inl ft))]) [0, 1, 2, 3, 4] (by decide) rfl
    have hFc := va_free (wc := [(h0, .inr (4, [.ref h_row, .ref h_tree, .ref h_tally, .ref h_votes, .ref h_otherVotes, .ref h_wins, .ref h_fewest, .int 2, .int 1])), (h_row, .inr (0, [.ref h_cell, .int 0])), (h_tree, .inr (2, [.ref h_row, .ref h_joined, .ref h_from, .ref h_to, .ref h_size, .ref h_lossOf, .ref h_lessBy, .ref h_tvalue, .ref h_tnumber, .int 0, .int 0])), (h_from, .inl (cyI, 319, .inl ff)), (h_to, .inl (cyI, 319, .inl ft))]) hD hS hA [0, 1, 2, 3, 4] rfl
    refine va_callr (va_runV (As := []) (rest := []) ⟨hx, hb, hml, hown, hts⟩ (c_X4_laidTree l dC dI h0 h_row h_tree h_tally h_votes h_otherVotes h_wins h_fewest h_cell h_joined h_from h_to h_size h_lossOf h_lessBy h_tvalue h_tnumber cyI ff ft s.heap.size) (cwV 0 hts gX4_told_X4_laidTree rfl rfl rfl (by decide +kernel) ⟨Nat.le_of_ble_eq_true rfl, Nat.le_of_ble_eq_true rfl⟩) ⟨fun a U g mk q => by obtain ⟨q0, q1, qP, qK, qD⟩ := q; exact ⟨q0, q1, qP, va_K.moved (u := U) (U := U.calling g mk a) (Vm.Alike.refl U.vm) qK, qD⟩, va_recv hKc hPc (ci := 4) (q0 := 0) rfl rfl, fun U hU hW => ⟨rfl, by rw [hU], by rw [hU]; exact hPc, va_K.moved hW.alike hKc, hDc.weaken (fun _ _ _ _ => trivial)⟩⟩ rfl rfl hl.1 rfl (lv_room (Nat.le_of_ble_eq_true rfl)) dX4_told_58 ⟨Nat.le_of_ble_eq_true rfl, Nat.le_of_ble_eq_true rfl⟩) hS (fun q _ h => hFc q h) hFc (fun u ra t H1 locs ht hvm w_4 hB hz1 hk1 hS => ?_)
    obtain ⟨er, hP1, hK1, hD1⟩ := hB
    rw [ht] at hP1
    have hK1 := va_K.moved hvm.symm hK1
    obtain ⟨hP, hD⟩ := va_join (wr := []) (w1 := [(h0, .inr (4, [.ref h_row, .ref h_tree, .ref h_tally, .ref h_votes, .ref h_otherVotes, .ref h_wins, .ref h_fewest, .int 2, .int 0])), (h_row, .inr (0, [.ref h_cell, .int 0])), (h_tree, .inr (2, [.ref h_row, .ref h_joined, .ref h_from, .ref h_to, .ref h_size, .ref h_lossOf, .ref h_lessBy, .ref h_tvalue, .ref h_tnumber, .int 0, .int 2])), (h_from, .inl (cyI, 319, .inl (upd ff (0 : Int32).toNatClampNeg 0))), (h_to, .inl (cyI, 319, .inl (upd ft (0 : Int32).toNatClampNeg 0)))]) hP hD [0, 1, 2, 3, 4] [] rfl rfl (by decide) (by decide) hk1 hFc hP1 hD1
    clear hP1 hD1 hK1 hk1 hz1 hFc hDc hPc hKc
    generalize H1 = H at hP hS ⊢
    have hP : va_P (dC, dI) vwCl [(h0, .inr (4, [.ref h_row, .ref h_tree, .ref h_tally, .ref h_votes, .ref h_otherVotes, .ref h_wins, .ref h_fewest, .int 2, .int 0])), (h_row, .inr (0, [.ref h_cell, .int 0])), (h_tree, .inr (2, [.ref h_row, .ref h_joined, .ref h_from, .ref h_to, .ref h_size, .ref h_lossOf, .ref h_lessBy, .ref h_tvalue, .ref h_tnumber, .int 0, .int 2])), (h_from, .inl (cyI, 319, .inl (upd ff (0 : Int32).toNatClampNeg 0))), (h_to, .inl (cyI, 319, .inl (upd ft (0 : Int32).toNatClampNeg 0)))] H := hP
    have hD : va_D A [(h0, .inr (4, [.ref h_row, .ref h_tree, .ref h_tally, .ref h_votes, .ref h_otherVotes, .ref h_wins, .ref h_fewest, .int 2, .int 0])), (h_row, .inr (0, [.ref h_cell, .int 0])), (h_tree, .inr (2, [.ref h_row, .ref h_joined, .ref h_from, .ref h_to, .ref h_size, .ref h_lossOf, .ref h_lessBy, .ref h_tvalue, .ref h_tnumber, .int 0, .int 2])), (h_from, .inl (cyI, 319, .inl (upd ff (0 : Int32).toNatClampNeg 0))), (h_to, .inl (cyI, 319, .inl (upd ft (0 : Int32).toNatClampNeg 0)))] := hD
    rw [er]
    refine va_get (D := (dC, dI)) (ci := 2) (v := .int 0) (C := RX2) (T := TX2) (N := 11) hx hb hts hi_2 hown hK hP 2 rfl rfl 9 (by decide) hf_163 (fun _ h9 => h9) rfl dX4_told_61 ?_
    have hP9 := hP.sub (ws' := []) [] rfl
    have hD9 := hD.sub (ws' := []) [] (by decide) rfl
    have hK9 := hK.sub (tys' := [(cyI, .int)]) [0] rfl
    exact W.iret (v := 0) hx hb hr (fun t ht hW => ⟨⟨0, (), rfl, Or.inr (Or.inl ⟨rfl, by omega⟩), by rw [ht]; exact hP9, va_K.moved hW.alike hK9, hD9⟩, hS.F ht⟩) hS.2.2 dX4_told_64
  by_cases s_5 : p0.toInt = 3
  · refine lv_tableIn (tgt := 65) (off := 64) hx hb dX4_told_1 (by omega) (by omega) (by rw [s_5]; rfl) (by decide) ?_
    refine lv_aload_n hx hb dX4_told_65 rfl (lv_at hl 0 rfl) ?_
    have hPc := hP.sub (ws' := [(h0, .inr (4, [.ref h_row, .ref h_tree, .ref h_tally, .ref h_votes, .ref h_otherVotes, .ref h_wins, .ref h_fewest, .int 2, .int 1])), (h_row, .inr (0, [.ref h_cell, .int 0])), (h_tree, .inr (2, [.ref h_row, .ref h_joined, .ref h_from, .ref h_to, .ref h_size, .ref h_lossOf, .ref h_lessBy, .ref h_tvalue, .ref h_tnumber, .int 0, .int 0])), (h_from, .inl (cyI, 319, .inl ff)), (h_to, .inl (cyI, 319, .inl ft))]) [0, 1, 2, 3, 4] rfl
    have hKc := hK.sub (tys' := [(cyI, .int)]) [0] rfl
    have hDc := hD.sub (ws' := [(h0, .inr (4, [.ref h_row, .ref h_tree, .ref h_tally, .ref h_votes, .ref h_otherVotes, .ref h_wins, .ref h_fewest, .int 2, .int 1])), (h_row, .inr (0, [.ref h_cell, .int 0])), (h_tree, .inr (2, [.ref h_row, .ref h_joined, .ref h_from, .ref h_to, .ref h_size, .ref h_lossOf, .ref h_lessBy, .ref h_tvalue, .ref h_tnumber, .int 0, .int 0])), (h_from, .inl (cyI, 319, .inl ff)), (h_to, .inl (cyI, 319, .inl ft))]) [0, 1, 2, 3, 4] (by decide) rfl
    have hFc := va_free (wc := [(h0, .inr (4, [.ref h_row, .ref h_tree, .ref h_tally, .ref h_votes, .ref h_otherVotes, .ref h_wins, .ref h_fewest, .int 2, .int 1])), (h_row, .inr (0, [.ref h_cell, .int 0])), (h_tree, .inr (2, [.ref h_row, .ref h_joined, .ref h_from, .ref h_to, .ref h_size, .ref h_lossOf, .ref h_lessBy, .ref h_tvalue, .ref h_tnumber, .int 0, .int 0])), (h_from, .inl (cyI, 319, .inl ff)), (h_to, .inl (cyI, 319, .inl ft))]) hD hS hA [0, 1, 2, 3, 4] rfl
    refine va_callr (va_runV (As := []) (rest := []) ⟨hx, hb, hml, hown, hts⟩ (c_X4_laidTree l dC dI h0 h_row h_tree h_tally h_votes h_otherVotes h_wins h_fewest h_cell h_joined h_from h_to h_size h_lossOf h_lessBy h_tvalue h_tnumber cyI ff ft s.heap.size) (cwV 0 hts gX4_told_X4_laidTree rfl rfl rfl (by decide +kernel) ⟨Nat.le_of_ble_eq_true rfl, Nat.le_of_ble_eq_true rfl⟩) ⟨fun a U g mk q => by obtain ⟨q0, q1, qP, qK, qD⟩ := q; exact ⟨q0, q1, qP, va_K.moved (u := U) (U := U.calling g mk a) (Vm.Alike.refl U.vm) qK, qD⟩, va_recv hKc hPc (ci := 4) (q0 := 0) rfl rfl, fun U hU hW => ⟨rfl, by rw [hU], by rw [hU]; exact hPc, va_K.moved hW.alike hKc, hDc.weaken (fun _ _ _ _ => trivial)⟩⟩ rfl rfl hl.1 rfl (lv_room (Nat.le_of_ble_eq_true rfl)) dX4_told_66 ⟨Nat.le_of_ble_eq_true rfl, Nat.le_of_ble_eq_true rfl⟩) hS (fun q _ h => hFc q h) hFc (fun u ra t H1 locs ht hvm w_6 hB hz1 hk1 hS => ?_)
    obtain ⟨er, hP1, hK1, hD1⟩ := hB
    rw [ht] at hP1
    have hK1 := va_K.moved hvm.symm hK1
    obtain ⟨hP, hD⟩ := va_join (wr := []) (w1 := [(h0, .inr (4, [.ref h_row, .ref h_tree, .ref h_tally, .ref h_votes, .ref h_otherVotes, .ref h_wins, .ref h_fewest, .int 2, .int 0])), (h_row, .inr (0, [.ref h_cell, .int 0])), (h_tree, .inr (2, [.ref h_row, .ref h_joined, .ref h_from, .ref h_to, .ref h_size, .ref h_lossOf, .ref h_lessBy, .ref h_tvalue, .ref h_tnumber, .int 0, .int 2])), (h_from, .inl (cyI, 319, .inl (upd ff (0 : Int32).toNatClampNeg 0))), (h_to, .inl (cyI, 319, .inl (upd ft (0 : Int32).toNatClampNeg 0)))]) hP hD [0, 1, 2, 3, 4] [] rfl rfl (by decide) (by decide) hk1 hFc hP1 hD1
    clear hP1 hD1 hK1 hk1 hz1 hFc hDc hPc hKc
    generalize H1 = H at hP hS ⊢
    have hP : va_P (dC, dI) vwCl [(h0, .inr (4, [.ref h_row, .ref h_tree, .ref h_tally, .ref h_votes, .ref h_otherVotes, .ref h_wins, .ref h_fewest, .int 2, .int 0])), (h_row, .inr (0, [.ref h_cell, .int 0])), (h_tree, .inr (2, [.ref h_row, .ref h_joined, .ref h_from, .ref h_to, .ref h_size, .ref h_lossOf, .ref h_lessBy, .ref h_tvalue, .ref h_tnumber, .int 0, .int 2])), (h_from, .inl (cyI, 319, .inl (upd ff (0 : Int32).toNatClampNeg 0))), (h_to, .inl (cyI, 319, .inl (upd ft (0 : Int32).toNatClampNeg 0)))] H := hP
    have hD : va_D A [(h0, .inr (4, [.ref h_row, .ref h_tree, .ref h_tally, .ref h_votes, .ref h_otherVotes, .ref h_wins, .ref h_fewest, .int 2, .int 0])), (h_row, .inr (0, [.ref h_cell, .int 0])), (h_tree, .inr (2, [.ref h_row, .ref h_joined, .ref h_from, .ref h_to, .ref h_size, .ref h_lossOf, .ref h_lessBy, .ref h_tvalue, .ref h_tnumber, .int 0, .int 2])), (h_from, .inl (cyI, 319, .inl (upd ff (0 : Int32).toNatClampNeg 0))), (h_to, .inl (cyI, 319, .inl (upd ft (0 : Int32).toNatClampNeg 0)))] := hD
    rw [er]
    have hPc := hP.sub (ws' := [(h_tree, .inr (2, [.ref h_row, .ref h_joined, .ref h_from, .ref h_to, .ref h_size, .ref h_lossOf, .ref h_lessBy, .ref h_tvalue, .ref h_tnumber, .int 0, .int 2]))]) [2] rfl
    have hKc := hK.sub (tys' := []) [] rfl
    refine vp_callSi (W.runV (As := []) (rest := []) ⟨hx, hb, hml, hown, hts⟩ (c_X2_nodesWithMajority l dC dI h_tree h_row h_joined h_from h_to h_size h_lossOf h_lessBy h_tvalue h_tnumber 2) (cwV 0 hts gX4_told_X2_nodesWithMajority rfl rfl rfl (by decide +kernel) ⟨Nat.le_of_ble_eq_true rfl, Nat.le_of_ble_eq_true rfl⟩) ⟨fun a U g mk q => by obtain ⟨q0, qP, qK⟩ := q; exact ⟨q0, qP, va_K.moved (u := U) (U := U.calling g mk a) (Vm.Alike.refl U.vm) qK⟩, va_recv hKc hPc (ci := 2) (q0 := 0) rfl rfl, fun U hU hW => ⟨rfl, by rw [hU]; exact hPc, va_K.moved hW.alike hKc⟩⟩ rfl rfl hl.1 rfl (lv_room (Nat.le_of_ble_eq_true rfl)) dX4_told_69 ⟨Nat.le_of_ble_eq_true rfl, Nat.le_of_ble_eq_true rfl⟩) (fun r_7 w_7 => ?_)
    subst w_7
    have hP9 := hP.sub (ws' := []) [] rfl
    have hD9 := hD.sub (ws' := []) [] (by decide) rfl
    have hK9 := hK.sub (tys' := [(cyI, .int)]) [0] rfl
    exact W.iret (v := 0) hx hb hr (fun t ht hW => ⟨⟨0, (), rfl, Or.inr (Or.inl ⟨rfl, by omega⟩), by rw [ht]; exact hP9, va_K.moved hW.alike hK9, hD9⟩, hS.F ht⟩) hS.2.2 dX4_told_72
  by_cases s_8 : p0.toInt = 4
  · refine lv_tableIn (tgt := 73) (off := 72) hx hb dX4_told_1 (by omega) (by omega) (by rw [s_8]; rfl) (by decide) ?_
    refine lv_aload_n hx hb dX4_told_73 rfl (lv_at hl 0 rfl) ?_
    have hPc := hP.sub (ws' := [(h0, .inr (4, [.ref h_row, .ref h_tree, .ref h_tally, .ref h_votes, .ref h_otherVotes, .ref h_wins, .ref h_fewest, .int 2, .int 1])), (h_row, .inr (0, [.ref h_cell, .int 0])), (h_tree, .inr (2, [.ref h_row, .ref h_joined, .ref h_from, .ref h_to, .ref h_size, .ref h_lossOf, .ref h_lessBy, .ref h_tvalue, .ref h_tnumber, .int 0, .int 0])), (h_from, .inl (cyI, 319, .inl ff)), (h_to, .inl (cyI, 319, .inl ft))]) [0, 1, 2, 3, 4] rfl
    have hKc := hK.sub (tys' := [(cyI, .int)]) [0] rfl
    have hDc := hD.sub (ws' := [(h0, .inr (4, [.ref h_row, .ref h_tree, .ref h_tally, .ref h_votes, .ref h_otherVotes, .ref h_wins, .ref h_fewest, .int 2, .int 1])), (h_row, .inr (0, [.ref h_cell, .int 0])), (h_tree, .inr (2, [.ref h_row, .ref h_joined, .ref h_from, .ref h_to, .ref h_size, .ref h_lossOf, .ref h_lessBy, .ref h_tvalue, .ref h_tnumber, .int 0, .int 0])), (h_from, .inl (cyI, 319, .inl ff)), (h_to, .inl (cyI, 319, .inl ft))]) [0, 1, 2, 3, 4] (by decide) rfl
    have hFc := va_free (wc := [(h0, .inr (4, [.ref h_row, .ref h_tree, .ref h_tally, .ref h_votes, .ref h_otherVotes, .ref h_wins, .ref h_fewest, .int 2, .int 1])), (h_row, .inr (0, [.ref h_cell, .int 0])), (h_tree, .inr (2, [.ref h_row, .ref h_joined, .ref h_from, .ref h_to, .ref h_size, .ref h_lossOf, .ref h_lessBy, .ref h_tvalue, .ref h_tnumber, .int 0, .int 0])), (h_from, .inl (cyI, 319, .inl ff)), (h_to, .inl (cyI, 319, .inl ft))]) hD hS hA [0, 1, 2, 3, 4] rfl
    refine va_callr (va_runV (As := []) (rest := []) ⟨hx, hb, hml, hown, hts⟩ (c_X4_laidTree l dC dI h0 h_row h_tree h_tally h_votes h_otherVotes h_wins h_fewest h_cell h_joined h_from h_to h_size h_lossOf h_lessBy h_tvalue h_tnumber cyI ff ft s.heap.size) (cwV 0 hts gX4_told_X4_laidTree rfl rfl rfl (by decide +kernel) ⟨Nat.le_of_ble_eq_true rfl, Nat.le_of_ble_eq_true rfl⟩) ⟨fun a U g mk q => by obtain ⟨q0, q1, qP, qK, qD⟩ := q; exact ⟨q0, q1, qP, va_K.moved (u := U) (U := U.calling g mk a) (Vm.Alike.refl U.vm) qK, qD⟩, va_recv hKc hPc (ci := 4) (q0 := 0) rfl rfl, fun U hU hW => ⟨rfl, by rw [hU], by rw [hU]; exact hPc, va_K.moved hW.alike hKc, hDc.weaken (fun _ _ _ _ => trivial)⟩⟩ rfl rfl hl.1 rfl (lv_room (Nat.le_of_ble_eq_true rfl)) dX4_told_74 ⟨Nat.le_of_ble_eq_true rfl, Nat.le_of_ble_eq_true rfl⟩) hS (fun q _ h => hFc q h) hFc (fun u ra t H1 locs ht hvm w_9 hB hz1 hk1 hS => ?_)
    obtain ⟨er, hP1, hK1, hD1⟩ := hB
    rw [ht] at hP1
    have hK1 := va_K.moved hvm.symm hK1
    obtain ⟨hP, hD⟩ := va_join (wr := []) (w1 := [(h0, .inr (4, [.ref h_row, .ref h_tree, .ref h_tally, .ref h_votes, .ref h_otherVotes, .ref h_wins, .ref h_fewest, .int 2, .int 0])), (h_row, .inr (0, [.ref h_cell, .int 0])), (h_tree, .inr (2, [.ref h_row, .ref h_joined, .ref h_from, .ref h_to, .ref h_size, .ref h_lossOf, .ref h_lessBy, .ref h_tvalue, .ref h_tnumber, .int 0, .int 2])), (h_from, .inl (cyI, 319, .inl (upd ff (0 : Int32).toNatClampNeg 0))), (h_to, .inl (cyI, 319, .inl (upd ft (0 : Int32).toNatClampNeg 0)))]) hP hD [0, 1, 2, 3, 4] [] rfl rfl (by decide) (by decide) hk1 hFc hP1 hD1
    clear hP1 hD1 hK1 hk1 hz1 hFc hDc hPc hKc
    generalize H1 = H at hP hS ⊢
    have hP : va_P (dC, dI) vwCl [(h0, .inr (4, [.ref h_row, .ref h_tree, .ref h_tally, .ref h_votes, .ref h_otherVotes, .ref h_wins, .ref h_fewest, .int 2, .int 0])), (h_row, .inr (0, [.ref h_cell, .int 0])), (h_tree, .inr (2, [.ref h_row, .ref h_joined, .ref h_from, .ref h_to, .ref h_size, .ref h_lossOf, .ref h_lessBy, .ref h_tvalue, .ref h_tnumber, .int 0, .int 2])), (h_from, .inl (cyI, 319, .inl (upd ff (0 : Int32).toNatClampNeg 0))), (h_to, .inl (cyI, 319, .inl (upd ft (0 : Int32).toNatClampNeg 0)))] H := hP
    have hD : va_D A [(h0, .inr (4, [.ref h_row, .ref h_tree, .ref h_tally, .ref h_votes, .ref h_otherVotes, .ref h_wins, .ref h_fewest, .int 2, .int 0])), (h_row, .inr (0, [.ref h_cell, .int 0])), (h_tree, .inr (2, [.ref h_row, .ref h_joined, .ref h_from, .ref h_to, .ref h_size, .ref h_lossOf, .ref h_lessBy, .ref h_tvalue, .ref h_tnumber, .int 0, .int 2])), (h_from, .inl (cyI, 319, .inl (upd ff (0 : Int32).toNatClampNeg 0))), (h_to, .inl (cyI, 319, .inl (upd ft (0 : Int32).toNatClampNeg 0)))] := hD
    rw [er]
    have hPc := hP.sub (ws' := [(h_tree, .inr (2, [.ref h_row, .ref h_joined, .ref h_from, .ref h_to, .ref h_size, .ref h_lossOf, .ref h_lessBy, .ref h_tvalue, .ref h_tnumber, .int 0, .int 2])), (h_row, .inr (0, [.ref h_cell, .int 0]))]) [2, 1] rfl
    have hKc := hK.sub (tys' := []) [] rfl
    refine vp_callSi (W.runV (As := []) (rest := []) ⟨hx, hb, hml, hown, hts⟩ (c_X2_deepest l dC dI h_tree h_row h_cell h_joined h_from h_to h_size h_lossOf h_lessBy h_tvalue h_tnumber 2) (cwV 0 hts gX4_told_X2_deepest rfl rfl rfl (by decide +kernel) ⟨Nat.le_of_ble_eq_true rfl, Nat.le_of_ble_eq_true rfl⟩) ⟨fun a U g mk q => by obtain ⟨q0, qP, qK⟩ := q; exact ⟨q0, qP, va_K.moved (u := U) (U := U.calling g mk a) (Vm.Alike.refl U.vm) qK⟩, va_recv hKc hPc (ci := 2) (q0 := 0) rfl rfl, fun U hU hW => ⟨rfl, by rw [hU]; exact hPc, va_K.moved hW.alike hKc⟩⟩ rfl rfl hl.1 rfl (lv_room (Nat.le_of_ble_eq_true rfl)) dX4_told_77 ⟨Nat.le_of_ble_eq_true rfl, Nat.le_of_ble_eq_true rfl⟩) (fun r_10 w_10 => ?_)
    subst w_10
    have hP9 := hP.sub (ws' := []) [] rfl
    have hD9 := hD.sub (ws' := []) [] (by decide) rfl
    have hK9 := hK.sub (tys' := [(cyI, .int)]) [0] rfl
    exact W.iret (v := 0) hx hb hr (fun t ht hW => ⟨⟨0, (), rfl, Or.inr (Or.inl ⟨rfl, by omega⟩), by rw [ht]; exact hP9, va_K.moved hW.alike hK9, hD9⟩, hS.F ht⟩) hS.2.2 dX4_told_80
  by_cases s_11 : p0.toInt = 5
  · refine lv_tableIn (tgt := 81) (off := 80) hx hb dX4_told_1 (by omega) (by omega) (by rw [s_11]; rfl) (by decide) ?_
    refine lv_aload_n hx hb dX4_told_81 rfl (lv_at hl 0 rfl) ?_
    refine va_get (D := (dC, dI)) (ci := 4) (v := .ref h_row) (C := RX4) (T := TX4) (N := 9) hx hb hts hi_4 hown hK hP 0 rfl rfl 0 (by decide) hf_12 (fun _ h9 => h9) rfl dX4_told_82 ?_
    refine va_get (D := (dC, dI)) (ci := 0) (v := .int 0) (C := RX0) (T := TX0) (N := 2) hx hb hts hi_0 hown hK hP 1 rfl rfl 1 (by decide) hf_57 (fun _ h9 => h9) rfl dX4_told_85 ?_
    refine lv_if_ne (tgt := 95) hx hb dX4_told_88 (by decide) (fun c_12 => ?_) (fun c_12 => ?_)
    · exact absurd c_12 (by decide)
    · refine lv_iconst (v := 0) hx hb dX4_told_91 (by decide) ?_
      refine lv_goto (tgt := 104) hx hb dX4_told_92 (by decide) ?_
      have hP9 := hP.sub (ws' := []) [] rfl
      have hD9 := hD.sub (ws' := []) [] (by decide) rfl
      have hK9 := hK.sub (tys' := [(cyI, .int)]) [0] rfl
      exact W.iret (v := 0) hx hb hr (fun t ht hW => ⟨⟨0, (), rfl, Or.inr (Or.inl ⟨rfl, by omega⟩), by rw [ht]; exact hP9, va_K.moved hW.alike hK9, hD9⟩, hS.F ht⟩) hS.2.2 dX4_told_104
  by_cases s_13 : p0.toInt = 6
  · refine lv_tableIn (tgt := 105) (off := 104) hx hb dX4_told_1 (by omega) (by omega) (by rw [s_13]; rfl) (by decide) ?_
    refine lv_aload_n hx hb dX4_told_105 rfl (lv_at hl 0 rfl) ?_
    have hPc := hP.sub (ws' := [(h0, .inr (4, [.ref h_row, .ref h_tree, .ref h_tally, .ref h_votes, .ref h_otherVotes, .ref h_wins, .ref h_fewest, .int 2, .int 1])), (h_row, .inr (0, [.ref h_cell, .int 0])), (h_tree, .inr (2, [.ref h_row, .ref h_joined, .ref h_from, .ref h_to, .ref h_size, .ref h_lossOf, .ref h_lessBy, .ref h_tvalue, .ref h_tnumber, .int 0, .int 0])), (h_from, .inl (cyI, 319, .inl ff)), (h_to, .inl (cyI, 319, .inl ft))]) [0, 1, 2, 3, 4] rfl
    have hKc := hK.sub (tys' := [(cyI, .int)]) [0] rfl
    have hDc := hD.sub (ws' := [(h0, .inr (4, [.ref h_row, .ref h_tree, .ref h_tally, .ref h_votes, .ref h_otherVotes, .ref h_wins, .ref h_fewest, .int 2, .int 1])), (h_row, .inr (0, [.ref h_cell, .int 0])), (h_tree, .inr (2, [.ref h_row, .ref h_joined, .ref h_from, .ref h_to, .ref h_size, .ref h_lossOf, .ref h_lessBy, .ref h_tvalue, .ref h_tnumber, .int 0, .int 0])), (h_from, .inl (cyI, 319, .inl ff)), (h_to, .inl (cyI, 319, .inl ft))]) [0, 1, 2, 3, 4] (by decide) rfl
    have hFc := va_free (wc := [(h0, .inr (4, [.ref h_row, .ref h_tree, .ref h_tally, .ref h_votes, .ref h_otherVotes, .ref h_wins, .ref h_fewest, .int 2, .int 1])), (h_row, .inr (0, [.ref h_cell, .int 0])), (h_tree, .inr (2, [.ref h_row, .ref h_joined, .ref h_from, .ref h_to, .ref h_size, .ref h_lossOf, .ref h_lessBy, .ref h_tvalue, .ref h_tnumber, .int 0, .int 0])), (h_from, .inl (cyI, 319, .inl ff)), (h_to, .inl (cyI, 319, .inl ft))]) hD hS hA [0, 1, 2, 3, 4] rfl
    refine va_callr (va_runV (As := []) (rest := []) ⟨hx, hb, hml, hown, hts⟩ (c_X4_laidTree l dC dI h0 h_row h_tree h_tally h_votes h_otherVotes h_wins h_fewest h_cell h_joined h_from h_to h_size h_lossOf h_lessBy h_tvalue h_tnumber cyI ff ft s.heap.size) (cwV 0 hts gX4_told_X4_laidTree rfl rfl rfl (by decide +kernel) ⟨Nat.le_of_ble_eq_true rfl, Nat.le_of_ble_eq_true rfl⟩) ⟨fun a U g mk q => by obtain ⟨q0, q1, qP, qK, qD⟩ := q; exact ⟨q0, q1, qP, va_K.moved (u := U) (U := U.calling g mk a) (Vm.Alike.refl U.vm) qK, qD⟩, va_recv hKc hPc (ci := 4) (q0 := 0) rfl rfl, fun U hU hW => ⟨rfl, by rw [hU], by rw [hU]; exact hPc, va_K.moved hW.alike hKc, hDc.weaken (fun _ _ _ _ => trivial)⟩⟩ rfl rfl hl.1 rfl (lv_room (Nat.le_of_ble_eq_true rfl)) dX4_told_106 ⟨Nat.le_of_ble_eq_true rfl, Nat.le_of_ble_eq_true rfl⟩) hS (fun q _ h => hFc q h) hFc (fun u ra t H1 locs ht hvm w_14 hB hz1 hk1 hS => ?_)
    obtain ⟨er, hP1, hK1, hD1⟩ := hB
    rw [ht] at hP1
    have hK1 := va_K.moved hvm.symm hK1
    obtain ⟨hP, hD⟩ := va_join (wr := []) (w1 := [(h0, .inr (4, [.ref h_row, .ref h_tree, .ref h_tally, .ref h_votes, .ref h_otherVotes, .ref h_wins, .ref h_fewest, .int 2, .int 0])), (h_row, .inr (0, [.ref h_cell, .int 0])), (h_tree, .inr (2, [.ref h_row, .ref h_joined, .ref h_from, .ref h_to, .ref h_size, .ref h_lossOf, .ref h_lessBy, .ref h_tvalue, .ref h_tnumber, .int 0, .int 2])), (h_from, .inl (cyI, 319, .inl (upd ff (0 : Int32).toNatClampNeg 0))), (h_to, .inl (cyI, 319, .inl (upd ft (0 : Int32).toNatClampNeg 0)))]) hP hD [0, 1, 2, 3, 4] [] rfl rfl (by decide) (by decide) hk1 hFc hP1 hD1
    clear hP1 hD1 hK1 hk1 hz1 hFc hDc hPc hKc
    generalize H1 = H at hP hS ⊢
    have hP : va_P (dC, dI) vwCl [(h0, .inr (4, [.ref h_row, .ref h_tree, .ref h_tally, .ref h_votes, .ref h_otherVotes, .ref h_wins, .ref h_fewest, .int 2, .int 0])), (h_row, .inr (0, [.ref h_cell, .int 0])), (h_tree, .inr (2, [.ref h_row, .ref h_joined, .ref h_from, .ref h_to, .ref h_size, .ref h_lossOf, .ref h_lessBy, .ref h_tvalue, .ref h_tnumber, .int 0, .int 2])), (h_from, .inl (cyI, 319, .inl (upd ff (0 : Int32).toNatClampNeg 0))), (h_to, .inl (cyI, 319, .inl (upd ft (0 : Int32).toNatClampNeg 0)))] H := hP
    have hD : va_D A [(h0, .inr (4, [.ref h_row, .ref h_tree, .ref h_tally, .ref h_votes, .ref h_otherVotes, .ref h_wins, .ref h_fewest, .int 2, .int 0])), (h_row, .inr (0, [.ref h_cell, .int 0])), (h_tree, .inr (2, [.ref h_row, .ref h_joined, .ref h_from, .ref h_to, .ref h_size, .ref h_lossOf, .ref h_lessBy, .ref h_tvalue, .ref h_tnumber, .int 0, .int 2])), (h_from, .inl (cyI, 319, .inl (upd ff (0 : Int32).toNatClampNeg 0))), (h_to, .inl (cyI, 319, .inl (upd ft (0 : Int32).toNatClampNeg 0)))] := hD
    rw [er]
    have hPc := hP.sub (ws' := [(h_tree, .inr (2, [.ref h_row, .ref h_joined, .ref h_from, .ref h_to, .ref h_size, .ref h_lossOf, .ref h_lessBy, .ref h_tvalue, .ref h_tnumber, .int 0, .int 2]))]) [2] rfl
    have hKc := hK.sub (tys' := []) [] rfl
    refine vp_callSi (W.runV (As := []) (rest := []) ⟨hx, hb, hml, hown, hts⟩ (c_X2_allLosses l dC dI h_tree h_row h_joined h_from h_to h_size h_lossOf h_lessBy h_tvalue h_tnumber 2) (cwV 0 hts gX4_told_X2_allLosses rfl rfl rfl (by decide +kernel) ⟨Nat.le_of_ble_eq_true rfl, Nat.le_of_ble_eq_true rfl⟩) ⟨fun a U g mk q => by obtain ⟨q0, qP, qK⟩ := q; exact ⟨q0, qP, va_K.moved (u := U) (U := U.calling g mk a) (Vm.Alike.refl U.vm) qK⟩, va_recv hKc hPc (ci := 2) (q0 := 0) rfl rfl, fun U hU hW => ⟨rfl, by rw [hU]; exact hPc, va_K.moved hW.alike hKc⟩⟩ rfl rfl hl.1 rfl (lv_room (Nat.le_of_ble_eq_true rfl)) dX4_told_109 ⟨Nat.le_of_ble_eq_true rfl, Nat.le_of_ble_eq_true rfl⟩) (fun r_15 w_15 => ?_)
    subst w_15
    have hP9 := hP.sub (ws' := []) [] rfl
    have hD9 := hD.sub (ws' := []) [] (by decide) rfl
    have hK9 := hK.sub (tys' := [(cyI, .int)]) [0] rfl
    exact W.iret (v := 0) hx hb hr (fun t ht hW => ⟨⟨0, (), rfl, Or.inr (Or.inl ⟨rfl, by omega⟩), by rw [ht]; exact hP9, va_K.moved hW.alike hK9, hD9⟩, hS.F ht⟩) hS.2.2 dX4_told_112
  refine lv_tableOut (tgt := 113) hx hb dX4_told_1 (by omega) (by decide) ?_
  refine lv_iconst (v := (-1)) hx hb dX4_told_113 (by decide) ?_
  have hP9 := hP.sub (ws' := []) [] rfl
  have hD9 := hD.sub (ws' := []) [] (by decide) rfl
  have hK9 := hK.sub (tys' := [(cyI, .int)]) [0] rfl
  exact W.iret (v := (-1)) hx hb hr (fun t ht hW => ⟨⟨(-1), (), rfl, Or.inr (Or.inr (⟨rfl, by omega⟩)), by rw [ht]; exact hP9, va_K.moved hW.alike hK9, hD9⟩, hS.F ht⟩) hS.2.2 dX4_told_114

set_option maxHeartbeats 4000000 in
set_option maxRecDepth 100000 in
theorem c_X1_learn (l : Launch) (dC : Nat → ClassId) (dI : Nat → Nat → Nat) (h_tally : Nat) (h_kind : Nat) (h_often : Nat) (tk : Int32) (mo : Int32) (h_row : Nat) (h_cell : Nat) : Met l yX1_learn wsX1_learn ({ frames := 0, cells := 0, slots := 0, locals := 0 }) (va_Pc [.ref h_tally, .ref h_row] (fun U => va_P (dC, dI) vwCl [(h_tally, .inr (1, [.ref h_kind, .ref h_often, .int tk, .int mo])), (h_row, .inr (0, [.ref h_cell, .int 0]))] U.heap ∧ va_K (dC, dI) vwCl [] U)) (va_Sv (fun _ => True)) 0 0 (fun _ => False) := by
  refine Met.ofW (cc := cX1_learn) (maxL := 3) (ret := none) (by decide) rfl ?_
  intro p e s m args below meth c s₁ B hml hv
  obtain ⟨rfl, hP, hK⟩ := hv
  have hx := B.exec
  have hb := B.bytes
  have hr := B.returns
  have hts := atoms_spec (ws := wsX1_learn) B.pre
  have hown : s.vm.findClass RX1 = some m.cls := findClass_of_methodNamed B.named
  have hlocks := B.notSynchronized
  have hP : va_P (dC, dI) vwCl [(h_tally, .inr (1, [.ref h_kind, .ref h_often, .int tk, .int mo])), (h_row, .inr (0, [.ref h_cell, .int 0]))] s.heap := hP
  have hl := lv_entry ([.ref h_tally, .ref h_row]) (n := 3) (Nat.le_of_ble_eq_true rfl)
  rw [lg_entry_eq]
  generalize (lg_sl ([.ref h_tally, .ref h_row]) ++ List.replicate (3 - (lg_sl ([.ref h_tally, .ref h_row])).length) Slot.unset).toArray = ls at hl ⊢
  have hl : lv_has ls 3 [(0, .ref h_tally), (1, .ref h_row)] := hl
  have hf_18 := hts (.fieldLink RX1 18 "MajorityIndex$Row" "length" "I") (by decide +kernel)
  have hi_0 : ∀ w ∈ u_ws RX0 TX0 2, w ∈ wsX1_learn := by decide +kernel
  refine lv_iconst (v := 0) hx hb dX1_learn_0 (by decide) ?_
  refine lv_istore_n (lv' := [(2, .int 0), (0, .ref h_tally), (1, .ref h_row)]) hx hb dX1_learn_1 rfl hl (by decide) rfl (fun ls hl => ?_)
  refine lv_iload_n hx hb dX1_learn_2 rfl (lv_at hl 0 rfl) ?_
  refine lv_aload_n hx hb dX1_learn_3 rfl (lv_at hl 2 rfl) ?_
  refine va_get (D := (dC, dI)) (ci := 0) (v := .int 0) (C := RX0) (T := TX0) (N := 2) hx hb hts hi_0 hown hK hP 1 rfl rfl 1 (by decide) hf_18 (fun _ h9 => h9) rfl dX1_learn_4 ?_
  refine lv_icmp_ge (tgt := 27) hx hb dX1_learn_7 (by decide) (fun c_1 => ?_) (fun c_1 => ?_)
  · exact W.vret hx hb hr (fun t ht hW => ⟨rfl, trivial, ht⟩) (fun q hq => by cases hq) dX1_learn_27
  · exact absurd c_1 (by decide)

set_option maxHeartbeats 4000000 in
set_option maxRecDepth 100000 in
/-- values on a fresh object -/
theorem c_X4_values (l : Launch) (dC : Nat → ClassId) (dI : Nat → Nat → Nat) (h0 : Nat) (h_row : Nat) (h_tree : Nat) (h_tally : Nat) (h_votes : Nat) (h_otherVotes : Nat) (h_wins : Nat) (h_fewest : Nat) (h_cell : Nat) (h_kind : Nat) (h_often : Nat) (tk : Int32) (mo : Int32) : Met l yX4_values wsX4_values ({ frames := 1, cells := 0, slots := 0, locals := 45 }) (va_Pc [.ref h0] (fun U => va_P (dC, dI) vwCl [(h0, .inr (4, [.ref h_row, .ref h_tree, .ref h_tally, .ref h_votes, .ref h_otherVotes, .ref h_wins, .ref h_fewest, .int 2, .int 1])), (h_row, .inr (0, [.ref h_cell, .int 0])), (h_tally, .inr (1, [.ref h_kind, .ref h_often, .int tk, .int mo]))] U.heap ∧ va_K (dC, dI) vwCl [] U)) (vp_Si (fun r : Int32 => r = 0)) 0 0 (fun _ => False) := by
  refine Met.ofW (cc := cX4_values) (maxL := 3) (ret := (some .int)) (by decide) rfl ?_
  intro p e s m args below meth c s₁ B hml hv
  obtain ⟨rfl, hP, hK⟩ := hv
  have hx := B.exec
  have hb := B.bytes
  have hr := B.returns
  have hts := atoms_spec (ws := wsX4_values) B.pre
  have hown : s.vm.findClass RX4 = some m.cls := findClass_of_methodNamed B.named
  have hlocks := B.notSynchronized
  have hP : va_P (dC, dI) vwCl [(h0, .inr (4, [.ref h_row, .ref h_tree, .ref h_tally, .ref h_votes, .ref h_otherVotes, .ref h_wins, .ref h_fewest, .int 2, .int 1])), (h_row, .inr (0, [.ref h_cell, .int 0])), (h_tally, .inr (1, [.ref h_kind, .ref h_often, .int tk, .int mo]))] s.heap := hP
  have hl := lv_entry ([.ref h0]) (n := 3) (Nat.le_of_ble_eq_true rfl)
  rw [lg_entry_eq]
  generalize (lg_sl ([.ref h0]) ++ List.replicate (3 - (lg_sl ([.ref h0])).length) Slot.unset).toArray = ls at hl ⊢
  have hl : lv_has ls 3 [(0, .ref h0)] := hl
  have hf_28 := hts (.fieldLink RX4 28 "MajorityIndex" "tally" "LMajorityIndex$Tally;") (by decide +kernel)
  have hi_4 : ∀ w ∈ u_ws RX4 TX4 9, w ∈ wsX4_values := by decide +kernel
  have hf_12 := hts (.fieldLink RX4 12 "MajorityIndex" "row" "LMajorityIndex$Row;") (by decide +kernel)
  have hf_57 := hts (.fieldLink RX4 57 "MajorityIndex$Row" "length" "I") (by decide +kernel)
  have hi_0 : ∀ w ∈ u_ws RX0 TX0 2, w ∈ wsX4_values := by decide +kernel
  refine lv_aload_n hx hb dX4_values_0 rfl (lv_at hl 0 rfl) ?_
  refine va_get (D := (dC, dI)) (ci := 4) (v := .ref h_tally) (C := RX4) (T := TX4) (N := 9) hx hb hts hi_4 hown hK hP 0 rfl rfl 2 (by decide) hf_28 (fun _ h9 => h9) rfl dX4_values_1 ?_
  refine lv_aload_n hx hb dX4_values_4 rfl (lv_at hl 0 rfl) ?_
  refine va_get (D := (dC, dI)) (ci := 4) (v := .ref h_row) (C := RX4) (T := TX4) (N := 9) hx hb hts hi_4 hown hK hP 0 rfl rfl 0 (by decide) hf_12 (fun _ h9 => h9) rfl dX4_values_5 ?_
  have hPc := hP.sub (ws' := [(h_tally, .inr (1, [.ref h_kind, .ref h_often, .int tk, .int mo])), (h_row, .inr (0, [.ref h_cell, .int 0]))]) [2, 1] rfl
  have hKc := hK.sub (tys' := []) [] rfl
  refine va_csv (W.runV (As := [.ref h_row]) (rest := []) ⟨hx, hb, hml, hown, hts⟩ (c_X1_learn l dC dI h_tally h_kind h_often tk mo h_row h_cell) (cwV 1 hts gX4_values_X1_learn rfl rfl rfl (by decide +kernel) ⟨Nat.le_of_ble_eq_true rfl, Nat.le_of_ble_eq_true rfl⟩) ⟨fun a U g mk q => by obtain ⟨q0, qP, qK⟩ := q; exact ⟨q0, qP, va_K.moved (u := U) (U := U.calling g mk a) (Vm.Alike.refl U.vm) qK⟩, va_recv hKc hPc (ci := 1) (q0 := 0) rfl rfl, fun U hU hW => ⟨rfl, by rw [hU]; exact hPc, va_K.moved hW.alike hKc⟩⟩ rfl rfl hl.1 rfl (lv_room (Nat.le_of_ble_eq_true rfl)) dX4_values_8 ⟨Nat.le_of_ble_eq_true rfl, Nat.le_of_ble_eq_true rfl⟩) (fun w_1 => ?_)
  refine lv_iconst (v := 0) hx hb dX4_values_11 (by decide) ?_
  refine lv_istore_n (lv' := [(1, .int 0), (0, .ref h0)]) hx hb dX4_values_12 rfl hl (by decide) rfl (fun ls hl => ?_)
  refine lv_iconst (v := 0) hx hb dX4_values_13 (by decide) ?_
  refine lv_istore_n (lv' := [(2, .int 0), (1, .int 0), (0, .ref h0)]) hx hb dX4_values_14 rfl hl (by decide) rfl (fun ls hl => ?_)
  refine lv_iload_n hx hb dX4_values_15 rfl (lv_at hl 0 rfl) ?_
  refine lv_aload_n hx hb dX4_values_16 rfl (lv_at hl 2 rfl) ?_
  refine va_get (D := (dC, dI)) (ci := 4) (v := .ref h_row) (C := RX4) (T := TX4) (N := 9) hx hb hts hi_4 hown hK hP 0 rfl rfl 0 (by decide) hf_12 (fun _ h9 => h9) rfl dX4_values_17 ?_
  refine va_get (D := (dC, dI)) (ci := 0) (v := .int 0) (C := RX0) (T := TX0) (N := 2) hx hb hts hi_0 hown hK hP 1 rfl rfl 1 (by decide) hf_57 (fun _ h9 => h9) rfl dX4_values_20 ?_
  refine lv_icmp_ge (tgt := 48) hx hb dX4_values_23 (by decide) (fun c_2 => ?_) (fun c_2 => ?_)
  · refine lv_iload_n hx hb dX4_values_48 rfl (lv_at hl 1 rfl) ?_
    exact W.iret (v := 0) hx hb hr (fun t ht hW => ⟨0, rfl, rfl, ht⟩) (fun q hq => by cases hq) dX4_values_49
  · exact absurd c_2 (by decide)

set_option maxHeartbeats 4000000 in
set_option maxRecDepth 100000 in
/-- majorities on a fresh object -/
theorem c_X4_majorities (l : Launch) (dC : Nat → ClassId) (dI : Nat → Nat → Nat) (h0 : Nat) (h_row : Nat) (h_tree : Nat) (h_tally : Nat) (h_votes : Nat) (h_otherVotes : Nat) (h_wins : Nat) (h_fewest : Nat) (h_cell : Nat) (h_kind : Nat) (h_often : Nat) (tk : Int32) (mo : Int32) : Met l yX4_majorities wsX4_majorities ({ frames := 1, cells := 0, slots := 0, locals := 45 }) (va_Pc [.ref h0] (fun U => va_P (dC, dI) vwCl [(h0, .inr (4, [.ref h_row, .ref h_tree, .ref h_tally, .ref h_votes, .ref h_otherVotes, .ref h_wins, .ref h_fewest, .int 2, .int 1])), (h_row, .inr (0, [.ref h_cell, .int 0])), (h_tally, .inr (1, [.ref h_kind, .ref h_often, .int tk, .int mo]))] U.heap ∧ va_K (dC, dI) vwCl [] U)) (vp_Si (fun r : Int32 => r = 0)) 0 0 (fun _ => False) := by
  refine Met.ofW (cc := cX4_majorities) (maxL := 4) (ret := (some .int)) (by decide) rfl ?_
  intro p e s m args below meth c s₁ B hml hv
  obtain ⟨rfl, hP, hK⟩ := hv
  have hx := B.exec
  have hb := B.bytes
  have hr := B.returns
  have hts := atoms_spec (ws := wsX4_majorities) B.pre
  have hown : s.vm.findClass RX4 = some m.cls := findClass_of_methodNamed B.named
  have hlocks := B.notSynchronized
  have hP : va_P (dC, dI) vwCl [(h0, .inr (4, [.ref h_row, .ref h_tree, .ref h_tally, .ref h_votes, .ref h_otherVotes, .ref h_wins, .ref h_fewest, .int 2, .int 1])), (h_row, .inr (0, [.ref h_cell, .int 0])), (h_tally, .inr (1, [.ref h_kind, .ref h_often, .int tk, .int mo]))] s.heap := hP
  have hl := lv_entry ([.ref h0]) (n := 4) (Nat.le_of_ble_eq_true rfl)
  rw [lg_entry_eq]
  generalize (lg_sl ([.ref h0]) ++ List.replicate (4 - (lg_sl ([.ref h0])).length) Slot.unset).toArray = ls at hl ⊢
  have hl : lv_has ls 4 [(0, .ref h0)] := hl
  have hf_28 := hts (.fieldLink RX4 28 "MajorityIndex" "tally" "LMajorityIndex$Tally;") (by decide +kernel)
  have hi_4 : ∀ w ∈ u_ws RX4 TX4 9, w ∈ wsX4_majorities := by decide +kernel
  have hf_12 := hts (.fieldLink RX4 12 "MajorityIndex" "row" "LMajorityIndex$Row;") (by decide +kernel)
  have hf_57 := hts (.fieldLink RX4 57 "MajorityIndex$Row" "length" "I") (by decide +kernel)
  have hi_0 : ∀ w ∈ u_ws RX0 TX0 2, w ∈ wsX4_majorities := by decide +kernel
  refine lv_aload_n hx hb dX4_majorities_0 rfl (lv_at hl 0 rfl) ?_
  refine va_get (D := (dC, dI)) (ci := 4) (v := .ref h_tally) (C := RX4) (T := TX4) (N := 9) hx hb hts hi_4 hown hK hP 0 rfl rfl 2 (by decide) hf_28 (fun _ h9 => h9) rfl dX4_majorities_1 ?_
  refine lv_aload_n hx hb dX4_majorities_4 rfl (lv_at hl 0 rfl) ?_
  refine va_get (D := (dC, dI)) (ci := 4) (v := .ref h_row) (C := RX4) (T := TX4) (N := 9) hx hb hts hi_4 hown hK hP 0 rfl rfl 0 (by decide) hf_12 (fun _ h9 => h9) rfl dX4_majorities_5 ?_
  have hPc := hP.sub (ws' := [(h_tally, .inr (1, [.ref h_kind, .ref h_often, .int tk, .int mo])), (h_row, .inr (0, [.ref h_cell, .int 0]))]) [2, 1] rfl
  have hKc := hK.sub (tys' := []) [] rfl
  refine va_csv (W.runV (As := [.ref h_row]) (rest := []) ⟨hx, hb, hml, hown, hts⟩ (c_X1_learn l dC dI h_tally h_kind h_often tk mo h_row h_cell) (cwV 1 hts gX4_majorities_X1_learn rfl rfl rfl (by decide +kernel) ⟨Nat.le_of_ble_eq_true rfl, Nat.le_of_ble_eq_true rfl⟩) ⟨fun a U g mk q => by obtain ⟨q0, qP, qK⟩ := q; exact ⟨q0, qP, va_K.moved (u := U) (U := U.calling g mk a) (Vm.Alike.refl U.vm) qK⟩, va_recv hKc hPc (ci := 1) (q0 := 0) rfl rfl, fun U hU hW => ⟨rfl, by rw [hU]; exact hPc, va_K.moved hW.alike hKc⟩⟩ rfl rfl hl.1 rfl (lv_room (Nat.le_of_ble_eq_true rfl)) dX4_majorities_8 ⟨Nat.le_of_ble_eq_true rfl, Nat.le_of_ble_eq_true rfl⟩) (fun w_1 => ?_)
  refine lv_iconst (v := 0) hx hb dX4_majorities_11 (by decide) ?_
  refine lv_istore_n (lv' := [(1, .int 0), (0, .ref h0)]) hx hb dX4_majorities_12 rfl hl (by decide) rfl (fun ls hl => ?_)
  refine lv_iconst (v := 0) hx hb dX4_majorities_13 (by decide) ?_
  refine lv_istore_n (lv' := [(2, .int 0), (1, .int 0), (0, .ref h0)]) hx hb dX4_majorities_14 rfl hl (by decide) rfl (fun ls hl => ?_)
  refine lv_iload_n hx hb dX4_majorities_15 rfl (lv_at hl 0 rfl) ?_
  refine lv_aload_n hx hb dX4_majorities_16 rfl (lv_at hl 2 rfl) ?_
  refine va_get (D := (dC, dI)) (ci := 4) (v := .ref h_row) (C := RX4) (T := TX4) (N := 9) hx hb hts hi_4 hown hK hP 0 rfl rfl 0 (by decide) hf_12 (fun _ h9 => h9) rfl dX4_majorities_17 ?_
  refine va_get (D := (dC, dI)) (ci := 0) (v := .int 0) (C := RX0) (T := TX0) (N := 2) hx hb hts hi_0 hown hK hP 1 rfl rfl 1 (by decide) hf_57 (fun _ h9 => h9) rfl dX4_majorities_20 ?_
  refine lv_icmp_ge (tgt := 79) hx hb dX4_majorities_23 (by decide) (fun c_2 => ?_) (fun c_2 => ?_)
  · refine lv_iload_n hx hb dX4_majorities_79 rfl (lv_at hl 1 rfl) ?_
    exact W.iret (v := 0) hx hb hr (fun t ht hW => ⟨0, rfl, rfl, ht⟩) (fun q hq => by cases hq) dX4_majorities_80
  · exact absurd c_2 (by decide)
