set_option maxHeartbeats 4000000 in
set_option maxRecDepth 100000 in
theorem c_X0_init (l : Launch) (dC : Nat → ClassId) (dI : Nat → Nat → Nat) (h0 : Nat) (cyI : ClassId) (sz : Nat) : Met l yX0_init wsX0_init ({ frames := 1, cells := 1, slots := 160, locals := 45 }) (va_Pc [.ref h0] (fun U => U.heap.size = sz ∧ va_P (dC, dI) vwCl [(h0, .inr (0, [.null, .int 0]))] U.heap ∧ va_K (dC, dI) vwCl [(cyI, .int)] U ∧ va_D (fun _ => True) [(h0, .inr (0, [.null, .int 0]))])) (va_Qv (fun _ : Unit => True) (fun (_ : Unit) (t : State) => ∃ (k1 : Nat), va_P (dC, dI) vwCl [kx_0 h0 k1 0, kx_a k1 cyI 160 (fun _ => 0)] t.heap ∧ va_K (dC, dI) vwCl [(cyI, .int)] t ∧ va_D (va_A [(h0, .inr (0, [.null, .int 0]))] sz) [kx_0 h0 k1 0, kx_a k1 cyI 160 (fun _ => 0)]) (va_A [(h0, .inr (0, [.null, .int 0]))] sz)) 1 160 (va_A [(h0, .inr (0, [.null, .int 0]))] sz) := by
  refine Met.ofW (cc := cX0_init) (maxL := 1) (ret := none) (by decide) rfl ?_
  intro p e s m args below meth c s₁ B hml hv
  obtain ⟨rfl, hsz, hP, hK, hD0⟩ := hv
  have hx := B.exec
  have hb := B.bytes
  have hr := B.returns
  have hts := atoms_spec (ws := wsX0_init) B.pre
  have hown : s.vm.findClass RX0 = some m.cls := findClass_of_methodNamed B.named
  have hlocks := B.notSynchronized
  have hin : meth.name = "<init>" := (name_of_methodNamed B.named B.method).1
  subst hsz
  have hD := hD0.self (sz := s.heap.size)
  generalize hAe : va_A [(h0, .inr (0, [.null, .int 0]))] s.heap.size = A at hD ⊢
  have hA : ∀ q : Nat, s.heap.size ≤ q → A q := fun q h => by rw [← hAe]; exact Or.inr h
  have hS : va_S A s.heap s.heap [] := va_S.rf
  have hP : va_P (dC, dI) vwCl [(h0, .inr (0, [.null, .int 0]))] s.heap := hP
  have hl := lv_entry ([.ref h0]) (n := 1) (Nat.le_of_ble_eq_true rfl)
  rw [lg_entry_eq]
  generalize (lg_sl ([.ref h0]) ++ List.replicate (1 - (lg_sl ([.ref h0])).length) Slot.unset).toArray = ls at hl ⊢
  have hl : lv_has ls 1 [(0, .ref h0)] := hl
  have hm_3 := hts (.methodLink RX0 3 objectInit) (List.mem_of_getElem? (i := 1) rfl)
  have ho_i := hts (.instanceMethod objectInit) (List.mem_of_getElem? (i := 2) rfl)
  have ho_c := hts (.code objectInit ⟨#[0xb1]⟩ 1 none) (List.mem_of_getElem? (i := 3) rfl)
  have ha_int := hts (.arrayClass .int) (List.mem_of_getElem? (i := 4) rfl)
  have hf_9 := hts (.fieldLink RX0 9 "MajorityIndex$Row" "cell" "[I") (List.mem_of_getElem? (i := 5) rfl)
  have hi_0 : ∀ w ∈ u_ws RX0 TX0 2, w ∈ wsX0_init := fun w h => List.mem_cons_of_mem _ (List.mem_append_right _ h)
  refine lv_aload_n hx hb dX0_init_0 rfl (lv_at hl 0 rfl) ?_
  refine W.objInit hx hb hown hm_3 ho_i ho_c rfl (by rw [hml]; exact hl.1) rfl dX0_init_1 (Nat.le_of_ble_eq_true rfl) (Nat.le_of_ble_eq_true rfl) ?_
  refine W.eq (g2 := F0 m 4 ls []) rfl ?_
  refine lv_aload_n hx hb dX0_init_4 rfl (lv_at hl 0 rfl) ?_
  refine lv_sipush (v := 160) hx hb dX0_init_5 (by decide) ?_
  refine va_newa (atype := .int) (a0 := (160, .inl (fun _ => 0))) hx hb ha_int rfl hK hP hD hS hA (N' := 160) (fun cA => ki_zi cA 160) (by decide) (by decide) (Nat.le_of_ble_eq_true rfl) (Nat.le_of_ble_eq_true rfl) (Nat.le_of_ble_eq_true rfl) dX0_init_8 (fun q_1 cA_2 H hK hP hD hS => ?_)
  obtain rfl : cyI = cA_2 := (ki_cA hK 0 1 rfl rfl).symm
  have hK : va_K (dC, dI) vwCl [(cyI, .int)] s := hK.sub [0] rfl
  refine W.widen (k := 1) (n := 160) (Nat.le_of_ble_eq_true rfl) (Nat.le_of_ble_eq_true rfl) ?_
  obtain ⟨hP, hD⟩ := kx_re (w2 := [(h0, .inr (0, [.null, .int 0])), kx_a q_1 cyI 160 (fun _ => 0)]) hP hD rfl
  refine va_putF (D := (dC, dI)) (ci := 0) (v := .ref q_1) (ty := .array .int) (C := RX0) (T := TX0) (N := 2) hx hb hts hi_0 tyX0 tyX0_ok nmX0 hown hK hP hD hS 0 rfl rfl 0 (by decide) hf_9 (fun _ h9 => h9) rfl hin rfl (by decide +kernel) rfl rfl (Nat.le_of_ble_eq_true rfl) dX0_init_10 (fun H locs hP hD hS => ?_)
  obtain ⟨hP, hD⟩ := kx_re (w2 := [kx_0 h0 q_1 0, kx_a q_1 cyI 160 (fun _ => 0)]) hP hD rfl
  have hP9 := hP
  have hD9 := hD
  have hK9 := hK
  exact W.vret hx hb hr (fun t ht hW => ⟨⟨(), rfl, trivial, q_1, by rw [ht]; exact hP9, va_K.moved hW.alike hK9, hD9⟩, hS.F ht⟩) hS.2.2 dX0_init_13

set_option maxHeartbeats 4000000 in
set_option maxRecDepth 100000 in
theorem c_X1_init (l : Launch) (dC : Nat → ClassId) (dI : Nat → Nat → Nat) (h0 : Nat) (cyI : ClassId) (sz : Nat) : Met l yX1_init wsX1_init ({ frames := 1, cells := 2, slots := 320, locals := 45 }) (va_Pc [.ref h0] (fun U => U.heap.size = sz ∧ va_P (dC, dI) vwCl [(h0, .inr (1, [.null, .null, .int 0, .int 0]))] U.heap ∧ va_K (dC, dI) vwCl [(cyI, .int)] U ∧ va_D (fun _ => True) [(h0, .inr (1, [.null, .null, .int 0, .int 0]))])) (va_Qv (fun _ : Unit => True) (fun (_ : Unit) (t : State) => ∃ (k1 : Nat) (k2 : Nat), va_P (dC, dI) vwCl [kx_1 h0 k1 k2 0 0, kx_a k1 cyI 160 (fun _ => 0), kx_a k2 cyI 160 (fun _ => 0)] t.heap ∧ va_K (dC, dI) vwCl [(cyI, .int)] t ∧ va_D (va_A [(h0, .inr (1, [.null, .null, .int 0, .int 0]))] sz) [kx_1 h0 k1 k2 0 0, kx_a k1 cyI 160 (fun _ => 0), kx_a k2 cyI 160 (fun _ => 0)]) (va_A [(h0, .inr (1, [.null, .null, .int 0, .int 0]))] sz)) 2 320 (va_A [(h0, .inr (1, [.null, .null, .int 0, .int 0]))] sz) := by
  refine Met.ofW (cc := cX1_init) (maxL := 1) (ret := none) (by decide) rfl ?_
  intro p e s m args below meth c s₁ B hml hv
  obtain ⟨rfl, hsz, hP, hK, hD0⟩ := hv
  have hx := B.exec
  have hb := B.bytes
  have hr := B.returns
  have hts := atoms_spec (ws := wsX1_init) B.pre
  have hown : s.vm.findClass RX1 = some m.cls := findClass_of_methodNamed B.named
  have hlocks := B.notSynchronized
  have hin : meth.name = "<init>" := (name_of_methodNamed B.named B.method).1
  subst hsz
  have hD := hD0.self (sz := s.heap.size)
  generalize hAe : va_A [(h0, .inr (1, [.null, .null, .int 0, .int 0]))] s.heap.size = A at hD ⊢
  have hA : ∀ q : Nat, s.heap.size ≤ q → A q := fun q h => by rw [← hAe]; exact Or.inr h
  have hS : va_S A s.heap s.heap [] := va_S.rf
  have hP : va_P (dC, dI) vwCl [(h0, .inr (1, [.null, .null, .int 0, .int 0]))] s.heap := hP
  have hl := lv_entry ([.ref h0]) (n := 1) (Nat.le_of_ble_eq_true rfl)
  rw [lg_entry_eq]
  generalize (lg_sl ([.ref h0]) ++ List.replicate (1 - (lg_sl ([.ref h0])).length) Slot.unset).toArray = ls at hl ⊢
  have hl : lv_has ls 1 [(0, .ref h0)] := hl
  have hm_3 := hts (.methodLink RX1 3 objectInit) (List.mem_of_getElem? (i := 1) rfl)
  have ho_i := hts (.instanceMethod objectInit) (List.mem_of_getElem? (i := 2) rfl)
  have ho_c := hts (.code objectInit ⟨#[0xb1]⟩ 1 none) (List.mem_of_getElem? (i := 3) rfl)
  have ha_int := hts (.arrayClass .int) (List.mem_of_getElem? (i := 4) rfl)
  have hf_9 := hts (.fieldLink RX1 9 "MajorityIndex$Tally" "kind" "[I") (List.mem_of_getElem? (i := 5) rfl)
  have hi_1 : ∀ w ∈ u_ws RX1 TX1 4, w ∈ wsX1_init := fun w h => List.mem_cons_of_mem _ (List.mem_append_right _ h)
  have hf_15 := hts (.fieldLink RX1 15 "MajorityIndex$Tally" "often" "[I") (List.mem_of_getElem? (i := 6) rfl)
  refine lv_aload_n hx hb dX1_init_0 rfl (lv_at hl 0 rfl) ?_
  refine W.objInit hx hb hown hm_3 ho_i ho_c rfl (by rw [hml]; exact hl.1) rfl dX1_init_1 (Nat.le_of_ble_eq_true rfl) (Nat.le_of_ble_eq_true rfl) ?_
  refine W.eq (g2 := F0 m 4 ls []) rfl ?_
  refine lv_aload_n hx hb dX1_init_4 rfl (lv_at hl 0 rfl) ?_
  refine lv_sipush (v := 160) hx hb dX1_init_5 (by decide) ?_
  refine va_newa (atype := .int) (a0 := (160, .inl (fun _ => 0))) hx hb ha_int rfl hK hP hD hS hA (N' := 160) (fun cA => ki_zi cA 160) (by decide) (by decide) (Nat.le_of_ble_eq_true rfl) (Nat.le_of_ble_eq_true rfl) (Nat.le_of_ble_eq_true rfl) dX1_init_8 (fun q_1 cA_2 H hK hP hD hS => ?_)
  obtain rfl : cyI = cA_2 := (ki_cA hK 0 1 rfl rfl).symm
  have hK : va_K (dC, dI) vwCl [(cyI, .int)] s := hK.sub [0] rfl
  refine W.widen (k := 1) (n := 160) (Nat.le_of_ble_eq_true rfl) (Nat.le_of_ble_eq_true rfl) ?_
  obtain ⟨hP, hD⟩ := kx_re (w2 := [(h0, .inr (1, [.null, .null, .int 0, .int 0])), kx_a q_1 cyI 160 (fun _ => 0)]) hP hD rfl
  refine va_putF (D := (dC, dI)) (ci := 1) (v := .ref q_1) (ty := .array .int) (C := RX1) (T := TX1) (N := 4) hx hb hts hi_1 tyX1 tyX1_ok nmX1 hown hK hP hD hS 0 rfl rfl 0 (by decide) hf_9 (fun _ h9 => h9) rfl hin rfl (by decide +kernel) rfl rfl (Nat.le_of_ble_eq_true rfl) dX1_init_10 (fun H locs hP hD hS => ?_)
  obtain ⟨hP, hD⟩ := kx_re (w2 := [(h0, .inr (1, [.ref q_1, .null, .int 0, .int 0])), kx_a q_1 cyI 160 (fun _ => 0)]) hP hD rfl
  refine lv_aload_n hx hb dX1_init_13 rfl (lv_at hl 0 rfl) ?_
  refine lv_sipush (v := 160) hx hb dX1_init_14 (by decide) ?_
  refine va_newa (atype := .int) (a0 := (160, .inl (fun _ => 0))) hx hb ha_int rfl hK hP hD hS hA (N' := 160) (fun cA => ki_zi cA 160) (by decide) (by decide) (Nat.le_of_ble_eq_true rfl) (Nat.le_of_ble_eq_true rfl) (Nat.le_of_ble_eq_true rfl) dX1_init_17 (fun q_3 cA_4 H hK hP hD hS => ?_)
  obtain rfl : cyI = cA_4 := (ki_cA hK 0 1 rfl rfl).symm
  have hK : va_K (dC, dI) vwCl [(cyI, .int)] s := hK.sub [0] rfl
  refine W.widen (k := 2) (n := 320) (Nat.le_of_ble_eq_true rfl) (Nat.le_of_ble_eq_true rfl) ?_
  obtain ⟨hP, hD⟩ := kx_re (w2 := [(h0, .inr (1, [.ref q_1, .null, .int 0, .int 0])), kx_a q_1 cyI 160 (fun _ => 0), kx_a q_3 cyI 160 (fun _ => 0)]) hP hD rfl
  refine va_putF (D := (dC, dI)) (ci := 1) (v := .ref q_3) (ty := .array .int) (C := RX1) (T := TX1) (N := 4) hx hb hts hi_1 tyX1 tyX1_ok nmX1 hown hK hP hD hS 0 rfl rfl 1 (by decide) hf_15 (fun _ h9 => h9) rfl hin rfl (by decide +kernel) rfl rfl (Nat.le_of_ble_eq_true rfl) dX1_init_19 (fun H locs hP hD hS => ?_)
  obtain ⟨hP, hD⟩ := kx_re (w2 := [kx_1 h0 q_1 q_3 0 0, kx_a q_1 cyI 160 (fun _ => 0), kx_a q_3 cyI 160 (fun _ => 0)]) hP hD rfl
  have hP9 := hP
  have hD9 := hD
  have hK9 := hK
  exact W.vret hx hb hr (fun t ht hW => ⟨⟨(), rfl, trivial, q_1, q_3, by rw [ht]; exact hP9, va_K.moved hW.alike hK9, hD9⟩, hS.F ht⟩) hS.2.2 dX1_init_22

set_option maxHeartbeats 4000000 in
set_option maxRecDepth 100000 in
theorem c_X3_init (l : Launch) (dC : Nat → ClassId) (dI : Nat → Nat → Nat) (h0 : Nat) (cyI : ClassId) (sz : Nat) : Met l yX3_init wsX3_init ({ frames := 1, cells := 2, slots := 24, locals := 45 }) (va_Pc [.ref h0] (fun U => U.heap.size = sz ∧ va_P (dC, dI) vwCl [(h0, .inr (3, [.null, .null, .int 0, .int 0, .int 0]))] U.heap ∧ va_K (dC, dI) vwCl [(cyI, .int)] U ∧ va_D (fun _ => True) [(h0, .inr (3, [.null, .null, .int 0, .int 0, .int 0]))])) (va_Qv (fun _ : Unit => True) (fun (_ : Unit) (t : State) => ∃ (k1 : Nat) (k2 : Nat), va_P (dC, dI) vwCl [kx_3 h0 k1 k2 0 0 0, kx_a k1 cyI 12 (fun _ => 0), kx_a k2 cyI 12 (fun _ => 0)] t.heap ∧ va_K (dC, dI) vwCl [(cyI, .int)] t ∧ va_D (va_A [(h0, .inr (3, [.null, .null, .int 0, .int 0, .int 0]))] sz) [kx_3 h0 k1 k2 0 0 0, kx_a k1 cyI 12 (fun _ => 0), kx_a k2 cyI 12 (fun _ => 0)]) (va_A [(h0, .inr (3, [.null, .null, .int 0, .int 0, .int 0]))] sz)) 2 24 (va_A [(h0, .inr (3, [.null, .null, .int 0, .int 0, .int 0]))] sz) := by
  refine Met.ofW (cc := cX3_init) (maxL := 1) (ret := none) (by decide) rfl ?_
  intro p e s m args below meth c s₁ B hml hv
  obtain ⟨rfl, hsz, hP, hK, hD0⟩ := hv
  have hx := B.exec
  have hb := B.bytes
  have hr := B.returns
  have hts := atoms_spec (ws := wsX3_init) B.pre
  have hown : s.vm.findClass RX3 = some m.cls := findClass_of_methodNamed B.named
  have hlocks := B.notSynchronized
  have hin : meth.name = "<init>" := (name_of_methodNamed B.named B.method).1
  subst hsz
  have hD := hD0.self (sz := s.heap.size)
  generalize hAe : va_A [(h0, .inr (3, [.null, .null, .int 0, .int 0, .int 0]))] s.heap.size = A at hD ⊢
  have hA : ∀ q : Nat, s.heap.size ≤ q → A q := fun q h => by rw [← hAe]; exact Or.inr h
  have hS : va_S A s.heap s.heap [] := va_S.rf
  have hP : va_P (dC, dI) vwCl [(h0, .inr (3, [.null, .null, .int 0, .int 0, .int 0]))] s.heap := hP
  have hl := lv_entry ([.ref h0]) (n := 1) (Nat.le_of_ble_eq_true rfl)
  rw [lg_entry_eq]
  generalize (lg_sl ([.ref h0]) ++ List.replicate (1 - (lg_sl ([.ref h0])).length) Slot.unset).toArray = ls at hl ⊢
  have hl : lv_has ls 1 [(0, .ref h0)] := hl
  have hm_3 := hts (.methodLink RX3 3 objectInit) (List.mem_of_getElem? (i := 1) rfl)
  have ho_i := hts (.instanceMethod objectInit) (List.mem_of_getElem? (i := 2) rfl)
  have ho_c := hts (.code objectInit ⟨#[0xb1]⟩ 1 none) (List.mem_of_getElem? (i := 3) rfl)
  have ha_int := hts (.arrayClass .int) (List.mem_of_getElem? (i := 4) rfl)
  have hf_9 := hts (.fieldLink RX3 9 "MajorityIndex$Votes" "value" "[I") (List.mem_of_getElem? (i := 5) rfl)
  have hi_3 : ∀ w ∈ u_ws RX3 TX3 5, w ∈ wsX3_init := fun w h => List.mem_cons_of_mem _ (List.mem_append_right _ h)
  have hf_15 := hts (.fieldLink RX3 15 "MajorityIndex$Votes" "number" "[I") (List.mem_of_getElem? (i := 6) rfl)
  refine lv_aload_n hx hb dX3_init_0 rfl (lv_at hl 0 rfl) ?_
  refine W.objInit hx hb hown hm_3 ho_i ho_c rfl (by rw [hml]; exact hl.1) rfl dX3_init_1 (Nat.le_of_ble_eq_true rfl) (Nat.le_of_ble_eq_true rfl) ?_
  refine W.eq (g2 := F0 m 4 ls []) rfl ?_
  refine lv_aload_n hx hb dX3_init_4 rfl (lv_at hl 0 rfl) ?_
  refine lv_bipush (v := 12) hx hb dX3_init_5 (by decide) ?_
  refine va_newa (atype := .int) (a0 := (12, .inl (fun _ => 0))) hx hb ha_int rfl hK hP hD hS hA (N' := 12) (fun cA => ki_zi cA 12) (by decide) (by decide) (Nat.le_of_ble_eq_true rfl) (Nat.le_of_ble_eq_true rfl) (Nat.le_of_ble_eq_true rfl) dX3_init_7 (fun q_1 cA_2 H hK hP hD hS => ?_)
  obtain rfl : cyI = cA_2 := (ki_cA hK 0 1 rfl rfl).symm
  have hK : va_K (dC, dI) vwCl [(cyI, .int)] s := hK.sub [0] rfl
  refine W.widen (k := 1) (n := 12) (Nat.le_of_ble_eq_true rfl) (Nat.le_of_ble_eq_true rfl) ?_
  obtain ⟨hP, hD⟩ := kx_re (w2 := [(h0, .inr (3, [.null, .null, .int 0, .int 0, .int 0])), kx_a q_1 cyI 12 (fun _ => 0)]) hP hD rfl
  refine va_putF (D := (dC, dI)) (ci := 3) (v := .ref q_1) (ty := .array .int) (C := RX3) (T := TX3) (N := 5) hx hb hts hi_3 tyX3 tyX3_ok nmX3 hown hK hP hD hS 0 rfl rfl 0 (by decide) hf_9 (fun _ h9 => h9) rfl hin rfl (by decide +kernel) rfl rfl (Nat.le_of_ble_eq_true rfl) dX3_init_9 (fun H locs hP hD hS => ?_)
  obtain ⟨hP, hD⟩ := kx_re (w2 := [(h0, .inr (3, [.ref q_1, .null, .int 0, .int 0, .int 0])), kx_a q_1 cyI 12 (fun _ => 0)]) hP hD rfl
  refine lv_aload_n hx hb dX3_init_12 rfl (lv_at hl 0 rfl) ?_
  refine lv_bipush (v := 12) hx hb dX3_init_13 (by decide) ?_
  refine va_newa (atype := .int) (a0 := (12, .inl (fun _ => 0))) hx hb ha_int rfl hK hP hD hS hA (N' := 12) (fun cA => ki_zi cA 12) (by decide) (by decide) (Nat.le_of_ble_eq_true rfl) (Nat.le_of_ble_eq_true rfl) (Nat.le_of_ble_eq_true rfl) dX3_init_15 (fun q_3 cA_4 H hK hP hD hS => ?_)
  obtain rfl : cyI = cA_4 := (ki_cA hK 0 1 rfl rfl).symm
  have hK : va_K (dC, dI) vwCl [(cyI, .int)] s := hK.sub [0] rfl
  refine W.widen (k := 2) (n := 24) (Nat.le_of_ble_eq_true rfl) (Nat.le_of_ble_eq_true rfl) ?_
  obtain ⟨hP, hD⟩ := kx_re (w2 := [(h0, .inr (3, [.ref q_1, .null, .int 0, .int 0, .int 0])), kx_a q_1 cyI 12 (fun _ => 0), kx_a q_3 cyI 12 (fun _ => 0)]) hP hD rfl
  refine va_putF (D := (dC, dI)) (ci := 3) (v := .ref q_3) (ty := .array .int) (C := RX3) (T := TX3) (N := 5) hx hb hts hi_3 tyX3 tyX3_ok nmX3 hown hK hP hD hS 0 rfl rfl 1 (by decide) hf_15 (fun _ h9 => h9) rfl hin rfl (by decide +kernel) rfl rfl (Nat.le_of_ble_eq_true rfl) dX3_init_17 (fun H locs hP hD hS => ?_)
  obtain ⟨hP, hD⟩ := kx_re (w2 := [kx_3 h0 q_1 q_3 0 0 0, kx_a q_1 cyI 12 (fun _ => 0), kx_a q_3 cyI 12 (fun _ => 0)]) hP hD rfl
  have hP9 := hP
  have hD9 := hD
  have hK9 := hK
  exact W.vret hx hb hr (fun t ht hW => ⟨⟨(), rfl, trivial, q_1, q_3, by rw [ht]; exact hP9, va_K.moved hW.alike hK9, hD9⟩, hS.F ht⟩) hS.2.2 dX3_init_20

set_option maxHeartbeats 4000000 in
set_option maxRecDepth 100000 in
theorem c_X2_init (l : Launch) (dC : Nat → ClassId) (dI : Nat → Nat → Nat) (h0 : Nat) (h1 : Nat) (cyI : ClassId) (sz : Nat) : Met l yX2_init wsX2_init ({ frames := 2, cells := 10, slots := 5452, locals := 90 }) (va_Pc [.ref h0, .ref h1] (fun U => U.heap.size = sz ∧ va_P (dC, dI) vwCl [(h0, .inr (2, [.null, .null, .null, .null, .null, .null, .null, .null, .null, .int 0, .int 0]))] U.heap ∧ va_K (dC, dI) vwCl [(cyI, .int)] U ∧ va_D (fun _ => True) [(h0, .inr (2, [.null, .null, .null, .null, .null, .null, .null, .null, .null, .int 0, .int 0]))] ∧ va_Nw (.methodLinkNest RX2 11 yX3_init RX4) U)) (va_Qv (fun _ : Unit => True) (fun (_ : Unit) (t : State) => ∃ (k_joined : Nat) (k_from : Nat) (k_to : Nat) (k_size : Nat) (k_lossOf : Nat) (k_lessBy : Nat) (k_value : Nat) (k_number : Nat) (k_jv : Nat) (k_jn : Nat), va_P (dC, dI) vwCl [kx_2 h0 h1 k_joined k_from k_to k_size k_lossOf k_lessBy k_value k_number 0 0, kx_3 k_joined k_jv k_jn 0 0 0, kx_a k_jv cyI 12 (fun _ => 0), kx_a k_jn cyI 12 (fun _ => 0), kx_a k_from cyI 319 (fun _ => 0), kx_a k_to cyI 319 (fun _ => 0), kx_a k_size cyI 319 (fun _ => 0), kx_a k_lossOf cyI 319 (fun _ => 0), kx_a k_lessBy cyI 319 (fun _ => 0), kx_a k_value cyI 1914 (fun _ => 0), kx_a k_number cyI 1914 (fun _ => 0)] t.heap ∧ va_K (dC, dI) vwCl [(cyI, .int)] t ∧ va_D (va_A [(h0, .inr (2, [.null, .null, .null, .null, .null, .null, .null, .null, .null, .int 0, .int 0]))] sz) [kx_2 h0 h1 k_joined k_from k_to k_size k_lossOf k_lessBy k_value k_number 0 0, kx_3 k_joined k_jv k_jn 0 0 0, kx_a k_jv cyI 12 (fun _ => 0), kx_a k_jn cyI 12 (fun _ => 0), kx_a k_from cyI 319 (fun _ => 0), kx_a k_to cyI 319 (fun _ => 0), kx_a k_size cyI 319 (fun _ => 0), kx_a k_lossOf cyI 319 (fun _ => 0), kx_a k_lessBy cyI 319 (fun _ => 0), kx_a k_value cyI 1914 (fun _ => 0), kx_a k_number cyI 1914 (fun _ => 0)]) (va_A [(h0, .inr (2, [.null, .null, .null, .null, .null, .null, .null, .null, .null, .int 0, .int 0]))] sz)) 10 5452 (va_A [(h0, .inr (2, [.null, .null, .null, .null, .null, .null, .null, .null, .null, .int 0, .int 0]))] sz) := by
  refine Met.ofW (cc := cX2_init) (maxL := 2) (ret := none) (by decide) rfl ?_
  intro p e s m args below meth c s₁ B hml hv
  obtain ⟨rfl, hsz, hP, hK, hD0, hN0⟩ := hv
  have hx := B.exec
  have hb := B.bytes
  have hr := B.returns
  have hts := atoms_spec (ws := wsX2_init) B.pre
  have hown : s.vm.findClass RX2 = some m.cls := findClass_of_methodNamed B.named
  have hlocks := B.notSynchronized
  have hin : meth.name = "<init>" := (name_of_methodNamed B.named B.method).1
  subst hsz
  have hD := hD0.self (sz := s.heap.size)
  generalize hAe : va_A [(h0, .inr (2, [.null, .null, .null, .null, .null, .null, .null, .null, .null, .int 0, .int 0]))] s.heap.size = A at hD ⊢
  have hA : ∀ q : Nat, s.heap.size ≤ q → A q := fun q h => by rw [← hAe]; exact Or.inr h
  have hS : va_S A s.heap s.heap [] := va_S.rf
  have hP : va_P (dC, dI) vwCl [(h0, .inr (2, [.null, .null, .null, .null, .null, .null, .null, .null, .null, .int 0, .int 0]))] s.heap := hP
  have hl := lv_entry ([.ref h0, .ref h1]) (n := 2) (Nat.le_of_ble_eq_true rfl)
  rw [lg_entry_eq]
  generalize (lg_sl ([.ref h0, .ref h1]) ++ List.replicate (2 - (lg_sl ([.ref h0, .ref h1])).length) Slot.unset).toArray = ls at hl ⊢
  have hl : lv_has ls 2 [(0, .ref h0), (1, .ref h1)] := hl
  have hm_3 := hts (.methodLink RX2 3 objectInit) (List.mem_of_getElem? (i := 1) rfl)
  have ho_i := hts (.instanceMethod objectInit) (List.mem_of_getElem? (i := 2) rfl)
  have ho_c := hts (.code objectInit ⟨#[0xb1]⟩ 1 none) (List.mem_of_getElem? (i := 3) rfl)
  have hc_9 := hts (.classLink RX2 9 RX3) (List.mem_of_getElem? (i := 4) rfl)
  have hj_3 := hts (.instantiable RX3 5) (List.mem_of_getElem? (i := 5) rfl)
  have hz_3 := hts (.initialized RX3) (List.mem_of_getElem? (i := 6) rfl)
  have hi_3 : ∀ w ∈ u_ws RX3 TX3 5, w ∈ wsX2_init := fun w h => List.mem_cons_of_mem _ (List.mem_append_left _ (List.mem_append_right _ h))
  have hz_RX3 := hts (.initialized RX3) (List.mem_of_getElem? (i := 6) rfl)
  have hq_X3_init := hts (.instanceMethod yX3_init) (List.mem_of_getElem? (i := 17) rfl)
  have hf_12 := hts (.fieldLink RX2 12 "MajorityIndex$Tree" "joined" "LMajorityIndex$Votes;") (List.mem_of_getElem? (i := 7) rfl)
  have hi_2 : ∀ w ∈ u_ws RX2 TX2 11, w ∈ wsX2_init := fun w h => List.mem_cons_of_mem _ (List.mem_append_right _ h)
  have ha_int := hts (.arrayClass .int) (List.mem_of_getElem? (i := 8) rfl)
  have hf_18 := hts (.fieldLink RX2 18 "MajorityIndex$Tree" "from" "[I") (List.mem_of_getElem? (i := 9) rfl)
  have hf_22 := hts (.fieldLink RX2 22 "MajorityIndex$Tree" "to" "[I") (List.mem_of_getElem? (i := 10) rfl)
  have hf_25 := hts (.fieldLink RX2 25 "MajorityIndex$Tree" "size" "[I") (List.mem_of_getElem? (i := 11) rfl)
  have hf_28 := hts (.fieldLink RX2 28 "MajorityIndex$Tree" "lossOf" "[I") (List.mem_of_getElem? (i := 12) rfl)
  have hf_31 := hts (.fieldLink RX2 31 "MajorityIndex$Tree" "lessBy" "[I") (List.mem_of_getElem? (i := 13) rfl)
  have hf_34 := hts (.fieldLink RX2 34 "MajorityIndex$Tree" "value" "[I") (List.mem_of_getElem? (i := 14) rfl)
  have hf_37 := hts (.fieldLink RX2 37 "MajorityIndex$Tree" "number" "[I") (List.mem_of_getElem? (i := 15) rfl)
  have hf_40 := hts (.fieldLink RX2 40 "MajorityIndex$Tree" "row" "LMajorityIndex$Row;") (List.mem_of_getElem? (i := 16) rfl)
  refine lv_aload_n hx hb dX2_init_0 rfl (lv_at hl 0 rfl) ?_
  refine W.objInit hx hb hown hm_3 ho_i ho_c rfl (by rw [hml]; exact hl.1) rfl dX2_init_1 (Nat.le_of_ble_eq_true rfl) (Nat.le_of_ble_eq_true rfl) ?_
  refine W.eq (g2 := F0 m 4 ls []) rfl ?_
  refine lv_aload_n hx hb dX2_init_4 rfl (lv_at hl 0 rfl) ?_
  refine va_new (ci := 3) (fs := [.null, .null, .int 0, .int 0, .int 0]) (C := RX3) (T := TX3) (N := 5) hx hb hts hi_3 tyX3 tyX3_ok hown hc_9 hj_3 hz_3 hK hP hD hS hA rfl (ki_z3) (Nat.le_of_ble_eq_true rfl) (Nat.le_of_ble_eq_true rfl) dX2_init_5 (fun q_1 H hP hD hS => ?_)
  refine W.widen (k := 1) (n := 5) (Nat.le_of_ble_eq_true rfl) (Nat.le_of_ble_eq_true rfl) ?_
  obtain ⟨hP, hD⟩ := kx_re (w2 := [(h0, .inr (2, [.null, .null, .null, .null, .null, .null, .null, .null, .null, .int 0, .int 0])), (q_1, .inr (3, [.null, .null, .int 0, .int 0, .int 0]))]) hP hD rfl
  refine lv_dup hx hb dX2_init_8 rfl ?_
  obtain ⟨hPc, hDc, hFc, hCc⟩ := kx_pre (wc := [(q_1, .inr (3, [.null, .null, .int 0, .int 0, .int 0]))]) hP hD hS hA [1] (by decide) rfl
  have hKc := hK
  refine va_callv (va_runIN (As := []) (rest := [.ref q_1, .ref h0]) ⟨hx, hb, hml, hown, hts⟩ (c_X3_init l dC dI q_1 cyI H.size) ⟨(va_cnB 0 hts ggX2_init_X3_init rfl rfl rfl hN0 hz_RX3 (by decide +kernel) ⟨Nat.le_of_ble_eq_true rfl, Nat.le_of_ble_eq_true rfl⟩), rfl, hq_X3_init⟩ ⟨fun a U g mk q => by obtain ⟨q0, q1, qP, qK, qD⟩ := q; exact ⟨q0, q1, qP, va_K.moved (u := U) (U := U.calling g mk a) (Vm.Alike.refl U.vm) qK, qD⟩, fun U hU hW => ⟨rfl, by rw [hU], by rw [hU]; exact hPc, va_K.moved hW.alike hKc, hDc.weaken (fun _ _ _ _ => trivial)⟩⟩ rfl rfl hl.1 rfl (lv_room (Nat.le_of_ble_eq_true rfl)) dX2_init_9 ⟨Nat.le_of_ble_eq_true rfl, Nat.le_of_ble_eq_true rfl⟩) hS (fun q _ h => hFc q h) hFc (fun u t H1 locs ht hvm w_2 hB hz1 hk1 hS => ?_)
  obtain ⟨q_3, q_4, hP1, hK1, hD1⟩ := hB
  rw [ht] at hP1
  have hK1 := va_K.moved hvm.symm hK1
  obtain ⟨hP, hD⟩ := kx_join (w2 := [(h0, .inr (2, [.null, .null, .null, .null, .null, .null, .null, .null, .null, .int 0, .int 0])), kx_3 q_1 q_3 q_4 0 0 0, kx_a q_3 cyI 12 (fun _ => 0), kx_a q_4 cyI 12 (fun _ => 0)]) hP hD hP1 hD1 hk1 hFc [1] [0] hCc rfl (by decide) (by decide)
  clear hP1 hD1 hK1 hk1 hz1 hFc hDc hPc hKc hCc
  generalize H1 = H at hP hS ⊢
  refine W.widen (k := 3) (n := 29) (Nat.le_of_ble_eq_true rfl) (Nat.le_of_ble_eq_true rfl) ?_
  refine va_putF (D := (dC, dI)) (ci := 2) (v := .ref q_1) (ty := .object "MajorityIndex$Votes") (C := RX2) (T := TX2) (N := 11) hx hb hts hi_2 tyX2 tyX2_ok nmX2 hown hK hP hD hS 0 rfl rfl 1 (by decide) hf_12 (fun _ h9 => h9) rfl hin rfl (by decide +kernel) rfl rfl (Nat.le_of_ble_eq_true rfl) dX2_init_12 (fun H locs hP hD hS => ?_)
  obtain ⟨hP, hD⟩ := kx_re (w2 := [(h0, .inr (2, [.null, .ref q_1, .null, .null, .null, .null, .null, .null, .null, .int 0, .int 0])), kx_3 q_1 q_3 q_4 0 0 0, kx_a q_3 cyI 12 (fun _ => 0), kx_a q_4 cyI 12 (fun _ => 0)]) hP hD rfl
  refine lv_aload_n hx hb dX2_init_15 rfl (lv_at hl 0 rfl) ?_
  refine lv_sipush (v := 319) hx hb dX2_init_16 (by decide) ?_
  refine va_newa (atype := .int) (a0 := (319, .inl (fun _ => 0))) hx hb ha_int rfl hK hP hD hS hA (N' := 319) (fun cA => ki_zi cA 319) (by decide) (by decide) (Nat.le_of_ble_eq_true rfl) (Nat.le_of_ble_eq_true rfl) (Nat.le_of_ble_eq_true rfl) dX2_init_19 (fun q_5 cA_6 H hK hP hD hS => ?_)
  obtain rfl : cyI = cA_6 := (ki_cA hK 0 1 rfl rfl).symm
  have hK : va_K (dC, dI) vwCl [(cyI, .int)] s := hK.sub [0] rfl
  refine W.widen (k := 4) (n := 348) (Nat.le_of_ble_eq_true rfl) (Nat.le_of_ble_eq_true rfl) ?_
  obtain ⟨hP, hD⟩ := kx_re (w2 := [(h0, .inr (2, [.null, .ref q_1, .null, .null, .null, .null, .null, .null, .null, .int 0, .int 0])), kx_3 q_1 q_3 q_4 0 0 0, kx_a q_3 cyI 12 (fun _ => 0), kx_a q_4 cyI 12 (fun _ => 0), kx_a q_5 cyI 319 (fun _ => 0)]) hP hD rfl
  refine va_putF (D := (dC, dI)) (ci := 2) (v := .ref q_5) (ty := .array .int) (C := RX2) (T := TX2) (N := 11) hx hb hts hi_2 tyX2 tyX2_ok nmX2 hown hK hP hD hS 0 rfl rfl 2 (by decide) hf_18 (fun _ h9 => h9) rfl hin rfl (by decide +kernel) rfl rfl (Nat.le_of_ble_eq_true rfl) dX2_init_21 (fun H locs hP hD hS => ?_)
  obtain ⟨hP, hD⟩ := kx_re (w2 := [(h0, .inr (2, [.null, .ref q_1, .ref q_5, .null, .null, .null, .null, .null, .null, .int 0, .int 0])), kx_3 q_1 q_3 q_4 0 0 0, kx_a q_3 cyI 12 (fun _ => 0), kx_a q_4 cyI 12 (fun _ => 0), kx_a q_5 cyI 319 (fun _ => 0)]) hP hD rfl
  refine lv_aload_n hx hb dX2_init_24 rfl (lv_at hl 0 rfl) ?_
  refine lv_sipush (v := 319) hx hb dX2_init_25 (by decide) ?_
  refine va_newa (atype := .int) (a0 := (319, .inl (fun _ => 0))) hx hb ha_int rfl hK hP hD hS hA (N' := 319) (fun cA => ki_zi cA 319) (by decide) (by decide) (Nat.le_of_ble_eq_true rfl) (Nat.le_of_ble_eq_true rfl) (Nat.le_of_ble_eq_true rfl) dX2_init_28 (fun q_7 cA_8 H hK hP hD hS => ?_)
  obtain rfl : cyI = cA_8 := (ki_cA hK 0 1 rfl rfl).symm
  have hK : va_K (dC, dI) vwCl [(cyI, .int)] s := hK.sub [0] rfl
  refine W.widen (k := 5) (n := 667) (Nat.le_of_ble_eq_true rfl) (Nat.le_of_ble_eq_true rfl) ?_
  obtain ⟨hP, hD⟩ := kx_re (w2 := [(h0, .inr (2, [.null, .ref q_1, .ref q_5, .null, .null, .null, .null, .null, .null, .int 0, .int 0])), kx_3 q_1 q_3 q_4 0 0 0, kx_a q_3 cyI 12 (fun _ => 0), kx_a q_4 cyI 12 (fun _ => 0), kx_a q_5 cyI 319 (fun _ => 0), kx_a q_7 cyI 319 (fun _ => 0)]) hP hD rfl
  refine va_putF (D := (dC, dI)) (ci := 2) (v := .ref q_7) (ty := .array .int) (C := RX2) (T := TX2) (N := 11) hx hb hts hi_2 tyX2 tyX2_ok nmX2 hown hK hP hD hS 0 rfl rfl 3 (by decide) hf_22 (fun _ h9 => h9) rfl hin rfl (by decide +kernel) rfl rfl (Nat.le_of_ble_eq_true rfl) dX2_init_30 (fun H locs hP hD hS => ?_)
  obtain ⟨hP, hD⟩ := kx_re (w2 := [(h0, .inr (2, [.null, .ref q_1, .ref q_5, .ref q_7, .null, .null, .null, .null, .null, .int 0, .int 0])), kx_3 q_1 q_3 q_4 0 0 0, kx_a q_3 cyI 12 (fun _ => 0), kx_a q_4 cyI 12 (fun _ => 0), kx_a q_5 cyI 319 (fun _ => 0), kx_a q_7 cyI 319 (fun _ => 0)]) hP hD rfl
  refine lv_aload_n hx hb dX2_init_33 rfl (lv_at hl 0 rfl) ?_
  refine lv_sipush (v := 319) hx hb dX2_init_34 (by decide) ?_
  refine va_newa (atype := .int) (a0 := (319, .inl (fun _ => 0))) hx hb ha_int rfl hK hP hD hS hA (N' := 319) (fun cA => ki_zi cA 319) (by decide) (by decide) (Nat.le_of_ble_eq_true rfl) (Nat.le_of_ble_eq_true rfl) (Nat.le_of_ble_eq_true rfl) dX2_init_37 (fun q_9 cA_10 H hK hP hD hS => ?_)
  obtain rfl : cyI = cA_10 := (ki_cA hK 0 1 rfl rfl).symm
  have hK : va_K (dC, dI) vwCl [(cyI, .int)] s := hK.sub [0] rfl
  refine W.widen (k := 6) (n := 986) (Nat.le_of_ble_eq_true rfl) (Nat.le_of_ble_eq_true rfl) ?_
  obtain ⟨hP, hD⟩ := kx_re (w2 := [(h0, .inr (2, [.null, .ref q_1, .ref q_5, .ref q_7, .null, .null, .null, .null, .null, .int 0, .int 0])), kx_3 q_1 q_3 q_4 0 0 0, kx_a q_3 cyI 12 (fun _ => 0), kx_a q_4 cyI 12 (fun _ => 0), kx_a q_5 cyI 319 (fun _ => 0), kx_a q_7 cyI 319 (fun _ => 0), kx_a q_9 cyI 319 (fun _ => 0)]) hP hD rfl
  refine va_putF (D := (dC, dI)) (ci := 2) (v := .ref q_9) (ty := .array .int) (C := RX2) (T := TX2) (N := 11) hx hb hts hi_2 tyX2 tyX2_ok nmX2 hown hK hP hD hS 0 rfl rfl 4 (by decide) hf_25 (fun _ h9 => h9) rfl hin rfl (by decide +kernel) rfl rfl (Nat.le_of_ble_eq_true rfl) dX2_init_39 (fun H locs hP hD hS => ?_)
  obtain ⟨hP, hD⟩ := kx_re (w2 := [(h0, .inr (2, [.null, .ref q_1, .ref q_5, .ref q_7, .ref q_9, .null, .null, .null, .null, .int 0, .int 0])), kx_3 q_1 q_3 q_4 0 0 0, kx_a q_3 cyI 12 (fun _ => 0), kx_a q_4 cyI 12 (fun _ => 0), kx_a q_5 cyI 319 (fun _ => 0), kx_a q_7 cyI 319 (fun _ => 0), kx_a q_9 cyI 319 (fun _ => 0)]) hP hD rfl
  refine lv_aload_n hx hb dX2_init_42 rfl (lv_at hl 0 rfl) ?_
  refine lv_sipush (v := 319) hx hb dX2_init_43 (by decide) ?_
  refine va_newa (atype := .int) (a0 := (319, .inl (fun _ => 0))) hx hb ha_int rfl hK hP hD hS hA (N' := 319) (fun cA => ki_zi cA 319) (by decide) (by decide) (Nat.le_of_ble_eq_true rfl) (Nat.le_of_ble_eq_true rfl) (Nat.le_of_ble_eq_true rfl) dX2_init_46 (fun q_11 cA_12 H hK hP hD hS => ?_)
  obtain rfl : cyI = cA_12 := (ki_cA hK 0 1 rfl rfl).symm
  have hK : va_K (dC, dI) vwCl [(cyI, .int)] s := hK.sub [0] rfl
  refine W.widen (k := 7) (n := 1305) (Nat.le_of_ble_eq_true rfl) (Nat.le_of_ble_eq_true rfl) ?_
  obtain ⟨hP, hD⟩ := kx_re (w2 := [(h0, .inr (2, [.null, .ref q_1, .ref q_5, .ref q_7, .ref q_9, .null, .null, .null, .null, .int 0, .int 0])), kx_3 q_1 q_3 q_4 0 0 0, kx_a q_3 cyI 12 (fun _ => 0), kx_a q_4 cyI 12 (fun _ => 0), kx_a q_5 cyI 319 (fun _ => 0), kx_a q_7 cyI 319 (fun _ => 0), kx_a q_9 cyI 319 (fun _ => 0), kx_a q_11 cyI 319 (fun _ => 0)]) hP hD rfl
  refine va_putF (D := (dC, dI)) (ci := 2) (v := .ref q_11) (ty := .array .int) (C := RX2) (T := TX2) (N := 11) hx hb hts hi_2 tyX2 tyX2_ok nmX2 hown hK hP hD hS 0 rfl rfl 5 (by decide) hf_28 (fun _ h9 => h9) rfl hin rfl (by decide +kernel) rfl rfl (Nat.le_of_ble_eq_true rfl) dX2_init_48 (fun H locs hP hD hS => ?_)
  obtain ⟨hP, hD⟩ := kx_re (w2 := [(h0, .inr (2, [.null, .ref q_1, .ref q_5, .ref q_7, .ref q_9, .ref q_11, .null, .null, .null, .int 0, .int 0])), kx_3 q_1 q_3 q_4 0 0 0, kx_a q_3 cyI 12 (fun _ => 0), kx_a q_4 cyI 12 (fun _ => 0), kx_a q_5 cyI 319 (fun _ => 0), kx_a q_7 cyI 319 (fun _ => 0), kx_a q_9 cyI 319 (fun _ => 0), kx_a q_11 cyI 319 (fun _ => 0)]) hP hD rfl
  refine lv_aload_n hx hb dX2_init_51 rfl (lv_at hl 0 rfl) ?_
  refine lv_sipush (v := 319) hx hb dX2_init_52 (by decide) ?_
  refine va_newa (atype := .int) (a0 := (319, .inl (fun _ => 0))) hx hb ha_int rfl hK hP hD hS hA (N' := 319) (fun cA => ki_zi cA 319) (by decide) (by decide) (Nat.le_of_ble_eq_true rfl) (Nat.le_of_ble_eq_true rfl) (Nat.le_of_ble_eq_true rfl) dX2_init_55 (fun q_13 cA_14 H hK hP hD hS => ?_)
  obtain rfl : cyI = cA_14 := (ki_cA hK 0 1 rfl rfl).symm
  have hK : va_K (dC, dI) vwCl [(cyI, .int)] s := hK.sub [0] rfl
  refine W.widen (k := 8) (n := 1624) (Nat.le_of_ble_eq_true rfl) (Nat.le_of_ble_eq_true rfl) ?_
  obtain ⟨hP, hD⟩ := kx_re (w2 := [(h0, .inr (2, [.null, .ref q_1, .ref q_5, .ref q_7, .ref q_9, .ref q_11, .null, .null, .null, .int 0, .int 0])), kx_3 q_1 q_3 q_4 0 0 0, kx_a q_3 cyI 12 (fun _ => 0), kx_a q_4 cyI 12 (fun _ => 0), kx_a q_5 cyI 319 (fun _ => 0), kx_a q_7 cyI 319 (fun _ => 0), kx_a q_9 cyI 319 (fun _ => 0), kx_a q_11 cyI 319 (fun _ => 0), kx_a q_13 cyI 319 (fun _ => 0)]) hP hD rfl
  refine va_putF (D := (dC, dI)) (ci := 2) (v := .ref q_13) (ty := .array .int) (C := RX2) (T := TX2) (N := 11) hx hb hts hi_2 tyX2 tyX2_ok nmX2 hown hK hP hD hS 0 rfl rfl 6 (by decide) hf_31 (fun _ h9 => h9) rfl hin rfl (by decide +kernel) rfl rfl (Nat.le_of_ble_eq_true rfl) dX2_init_57 (fun H locs hP hD hS => ?_)
  obtain ⟨hP, hD⟩ := kx_re (w2 := [(h0, .inr (2, [.null, .ref q_1, .ref q_5, .ref q_7, .ref q_9, .ref q_11, .ref q_13, .null, .null, .int 0, .int 0])), kx_3 q_1 q_3 q_4 0 0 0, kx_a q_3 cyI 12 (fun _ => 0), kx_a q_4 cyI 12 (fun _ => 0), kx_a q_5 cyI 319 (fun _ => 0), kx_a q_7 cyI 319 (fun _ => 0), kx_a q_9 cyI 319 (fun _ => 0), kx_a q_11 cyI 319 (fun _ => 0), kx_a q_13 cyI 319 (fun _ => 0)]) hP hD rfl
  refine lv_aload_n hx hb dX2_init_60 rfl (lv_at hl 0 rfl) ?_
  refine lv_sipush (v := 1914) hx hb dX2_init_61 (by decide) ?_
  refine va_newa (atype := .int) (a0 := (1914, .inl (fun _ => 0))) hx hb ha_int rfl hK hP hD hS hA (N' := 1914) (fun cA => ki_zi cA 1914) (by decide) (by decide) (Nat.le_of_ble_eq_true rfl) (Nat.le_of_ble_eq_true rfl) (Nat.le_of_ble_eq_true rfl) dX2_init_64 (fun q_15 cA_16 H hK hP hD hS => ?_)
  obtain rfl : cyI = cA_16 := (ki_cA hK 0 1 rfl rfl).symm
  have hK : va_K (dC, dI) vwCl [(cyI, .int)] s := hK.sub [0] rfl
  refine W.widen (k := 9) (n := 3538) (Nat.le_of_ble_eq_true rfl) (Nat.le_of_ble_eq_true rfl) ?_
  obtain ⟨hP, hD⟩ := kx_re (w2 := [(h0, .inr (2, [.null, .ref q_1, .ref q_5, .ref q_7, .ref q_9, .ref q_11, .ref q_13, .null, .null, .int 0, .int 0])), kx_3 q_1 q_3 q_4 0 0 0, kx_a q_3 cyI 12 (fun _ => 0), kx_a q_4 cyI 12 (fun _ => 0), kx_a q_5 cyI 319 (fun _ => 0), kx_a q_7 cyI 319 (fun _ => 0), kx_a q_9 cyI 319 (fun _ => 0), kx_a q_11 cyI 319 (fun _ => 0), kx_a q_13 cyI 319 (fun _ => 0), kx_a q_15 cyI 1914 (fun _ => 0)]) hP hD rfl
  refine va_putF (D := (dC, dI)) (ci := 2) (v := .ref q_15) (ty := .array .int) (C := RX2) (T := TX2) (N := 11) hx hb hts hi_2 tyX2 tyX2_ok nmX2 hown hK hP hD hS 0 rfl rfl 7 (by decide) hf_34 (fun _ h9 => h9) rfl hin rfl (by decide +kernel) rfl rfl (Nat.le_of_ble_eq_true rfl) dX2_init_66 (fun H locs hP hD hS => ?_)
  obtain ⟨hP, hD⟩ := kx_re (w2 := [(h0, .inr (2, [.null, .ref q_1, .ref q_5, .ref q_7, .ref q_9, .ref q_11, .ref q_13, .ref q_15, .null, .int 0, .int 0])), kx_3 q_1 q_3 q_4 0 0 0, kx_a q_3 cyI 12 (fun _ => 0), kx_a q_4 cyI 12 (fun _ => 0), kx_a q_5 cyI 319 (fun _ => 0), kx_a q_7 cyI 319 (fun _ => 0), kx_a q_9 cyI 319 (fun _ => 0), kx_a q_11 cyI 319 (fun _ => 0), kx_a q_13 cyI 319 (fun _ => 0), kx_a q_15 cyI 1914 (fun _ => 0)]) hP hD rfl
  refine lv_aload_n hx hb dX2_init_69 rfl (lv_at hl 0 rfl) ?_
  refine lv_sipush (v := 1914) hx hb dX2_init_70 (by decide) ?_
  refine va_newa (atype := .int) (a0 := (1914, .inl (fun _ => 0))) hx hb ha_int rfl hK hP hD hS hA (N' := 1914) (fun cA => ki_zi cA 1914) (by decide) (by decide) (Nat.le_of_ble_eq_true rfl) (Nat.le_of_ble_eq_true rfl) (Nat.le_of_ble_eq_true rfl) dX2_init_73 (fun q_17 cA_18 H hK hP hD hS => ?_)
  obtain rfl : cyI = cA_18 := (ki_cA hK 0 1 rfl rfl).symm
  have hK : va_K (dC, dI) vwCl [(cyI, .int)] s := hK.sub [0] rfl
  refine W.widen (k := 10) (n := 5452) (Nat.le_of_ble_eq_true rfl) (Nat.le_of_ble_eq_true rfl) ?_
  obtain ⟨hP, hD⟩ := kx_re (w2 := [(h0, .inr (2, [.null, .ref q_1, .ref q_5, .ref q_7, .ref q_9, .ref q_11, .ref q_13, .ref q_15, .null, .int 0, .int 0])), kx_3 q_1 q_3 q_4 0 0 0, kx_a q_3 cyI 12 (fun _ => 0), kx_a q_4 cyI 12 (fun _ => 0), kx_a q_5 cyI 319 (fun _ => 0), kx_a q_7 cyI 319 (fun _ => 0), kx_a q_9 cyI 319 (fun _ => 0), kx_a q_11 cyI 319 (fun _ => 0), kx_a q_13 cyI 319 (fun _ => 0), kx_a q_15 cyI 1914 (fun _ => 0), kx_a q_17 cyI 1914 (fun _ => 0)]) hP hD rfl
  refine va_putF (D := (dC, dI)) (ci := 2) (v := .ref q_17) (ty := .array .int) (C := RX2) (T := TX2) (N := 11) hx hb hts hi_2 tyX2 tyX2_ok nmX2 hown hK hP hD hS 0 rfl rfl 8 (by decide) hf_37 (fun _ h9 => h9) rfl hin rfl (by decide +kernel) rfl rfl (Nat.le_of_ble_eq_true rfl) dX2_init_75 (fun H locs hP hD hS => ?_)
  obtain ⟨hP, hD⟩ := kx_re (w2 := [(h0, .inr (2, [.null, .ref q_1, .ref q_5, .ref q_7, .ref q_9, .ref q_11, .ref q_13, .ref q_15, .ref q_17, .int 0, .int 0])), kx_3 q_1 q_3 q_4 0 0 0, kx_a q_3 cyI 12 (fun _ => 0), kx_a q_4 cyI 12 (fun _ => 0), kx_a q_5 cyI 319 (fun _ => 0), kx_a q_7 cyI 319 (fun _ => 0), kx_a q_9 cyI 319 (fun _ => 0), kx_a q_11 cyI 319 (fun _ => 0), kx_a q_13 cyI 319 (fun _ => 0), kx_a q_15 cyI 1914 (fun _ => 0), kx_a q_17 cyI 1914 (fun _ => 0)]) hP hD rfl
  refine lv_aload_n hx hb dX2_init_78 rfl (lv_at hl 0 rfl) ?_
  refine lv_aload_n hx hb dX2_init_79 rfl (lv_at hl 1 rfl) ?_
  refine va_putF (D := (dC, dI)) (ci := 2) (v := .ref h1) (ty := .object "MajorityIndex$Row") (C := RX2) (T := TX2) (N := 11) hx hb hts hi_2 tyX2 tyX2_ok nmX2 hown hK hP hD hS 0 rfl rfl 0 (by decide) hf_40 (fun _ h9 => h9) rfl hin rfl (by decide +kernel) rfl rfl (Nat.le_of_ble_eq_true rfl) dX2_init_80 (fun H locs hP hD hS => ?_)
  obtain ⟨hP, hD⟩ := kx_re (w2 := [kx_2 h0 h1 q_1 q_5 q_7 q_9 q_11 q_13 q_15 q_17 0 0, kx_3 q_1 q_3 q_4 0 0 0, kx_a q_3 cyI 12 (fun _ => 0), kx_a q_4 cyI 12 (fun _ => 0), kx_a q_5 cyI 319 (fun _ => 0), kx_a q_7 cyI 319 (fun _ => 0), kx_a q_9 cyI 319 (fun _ => 0), kx_a q_11 cyI 319 (fun _ => 0), kx_a q_13 cyI 319 (fun _ => 0), kx_a q_15 cyI 1914 (fun _ => 0), kx_a q_17 cyI 1914 (fun _ => 0)]) hP hD rfl
  have hP9 := hP
  have hD9 := hD
  have hK9 := hK
  exact W.vret hx hb hr (fun t ht hW => ⟨⟨(), rfl, trivial, q_1, q_5, q_7, q_9, q_11, q_13, q_15, q_17, q_3, q_4, by rw [ht]; exact hP9, va_K.moved hW.alike hK9, hD9⟩, hS.F ht⟩) hS.2.2 dX2_init_83

set_option maxHeartbeats 4000000 in
set_option maxRecDepth 100000 in
theorem c_X4_init (l : Launch) (dC : Nat → ClassId) (dI : Nat → Nat → Nat) (k_x : Nat) (cyI : ClassId) (sz : Nat) : Met l yX4_init wsX4_init ({ frames := 3, cells := 24, slots := 6328, locals := 135 }) (va_Pc [.ref k_x] (fun U => U.heap.size = sz ∧ va_P (dC, dI) vwCl [(k_x, .inr (4, [.null, .null, .null, .null, .null, .null, .null, .int 0, .int 0]))] U.heap ∧ va_K (dC, dI) vwCl [(cyI, .int)] U ∧ va_D (fun _ => True) [(k_x, .inr (4, [.null, .null, .null, .null, .null, .null, .null, .int 0, .int 0]))] ∧ va_Nw (.methodLinkNest RX4 11 yX0_init RX4) U ∧ va_Nw (.methodLinkNest RX4 27 yX1_init RX4) U ∧ va_Nw (.methodLinkNest RX4 34 yX3_init RX4) U ∧ va_Nw (.methodLinkNest RX2 11 yX3_init RX4) U)) (va_Qv (fun _ : Unit => True) (fun (_ : Unit) (t : State) => ∃ (k_row : Nat) (k_tree : Nat) (k_tally : Nat) (k_votes : Nat) (k_other : Nat) (k_wins : Nat) (k_fewest : Nat) (k_cell : Nat) (k_t_joined : Nat) (k_t_from : Nat) (k_t_to : Nat) (k_t_size : Nat) (k_t_lossOf : Nat) (k_t_lessBy : Nat) (k_t_value : Nat) (k_t_number : Nat) (k_t_jv : Nat) (k_t_jn : Nat) (k_kind : Nat) (k_often : Nat) (k_vv : Nat) (k_vn : Nat) (k_ov : Nat) (k_on : Nat), va_P (dC, dI) vwCl [kx_4 k_x k_row k_tree k_tally k_votes k_other k_wins k_fewest 2 1, kx_0 k_row k_cell 0, kx_a k_cell cyI 160 (fun _ => 0), kx_2 k_tree k_row k_t_joined k_t_from k_t_to k_t_size k_t_lossOf k_t_lessBy k_t_value k_t_number 0 0, kx_3 k_t_joined k_t_jv k_t_jn 0 0 0, kx_a k_t_jv cyI 12 (fun _ => 0), kx_a k_t_jn cyI 12 (fun _ => 0), kx_a k_t_from cyI 319 (fun _ => 0), kx_a k_t_to cyI 319 (fun _ => 0), kx_a k_t_size cyI 319 (fun _ => 0), kx_a k_t_lossOf cyI 319 (fun _ => 0), kx_a k_t_lessBy cyI 319 (fun _ => 0), kx_a k_t_value cyI 1914 (fun _ => 0), kx_a k_t_number cyI 1914 (fun _ => 0), kx_1 k_tally k_kind k_often 0 0, kx_a k_kind cyI 160 (fun _ => 0), kx_a k_often cyI 160 (fun _ => 0), kx_3 k_votes k_vv k_vn 0 0 0, kx_a k_vv cyI 12 (fun _ => 0), kx_a k_vn cyI 12 (fun _ => 0), kx_3 k_other k_ov k_on 0 0 0, kx_a k_ov cyI 12 (fun _ => 0), kx_a k_on cyI 12 (fun _ => 0), kx_a k_wins cyI 160 (fun _ => 0), kx_a k_fewest cyI 161 (fun _ => 0)] t.heap ∧ va_K (dC, dI) vwCl [(cyI, .int)] t ∧ va_D (va_A [(k_x, .inr (4, [.null, .null, .null, .null, .null, .null, .null, .int 0, .int 0]))] sz) [kx_4 k_x k_row k_tree k_tally k_votes k_other k_wins k_fewest 2 1, kx_0 k_row k_cell 0, kx_a k_cell cyI 160 (fun _ => 0), kx_2 k_tree k_row k_t_joined k_t_from k_t_to k_t_size k_t_lossOf k_t_lessBy k_t_value k_t_number 0 0, kx_3 k_t_joined k_t_jv k_t_jn 0 0 0, kx_a k_t_jv cyI 12 (fun _ => 0), kx_a k_t_jn cyI 12 (fun _ => 0), kx_a k_t_from cyI 319 (fun _ => 0), kx_a k_t_to cyI 319 (fun _ => 0), kx_a k_t_size cyI 319 (fun _ => 0), kx_a k_t_lossOf cyI 319 (fun _ => 0), kx_a k_t_lessBy cyI 319 (fun _ => 0), kx_a k_t_value cyI 1914 (fun _ => 0), kx_a k_t_number cyI 1914 (fun _ => 0), kx_1 k_tally k_kind k_often 0 0, kx_a k_kind cyI 160 (fun _ => 0), kx_a k_often cyI 160 (fun _ => 0), kx_3 k_votes k_vv k_vn 0 0 0, kx_a k_vv cyI 12 (fun _ => 0), kx_a k_vn cyI 12 (fun _ => 0), kx_3 k_other k_ov k_on 0 0 0, kx_a k_ov cyI 12 (fun _ => 0), kx_a k_on cyI 12 (fun _ => 0), kx_a k_wins cyI 160 (fun _ => 0), kx_a k_fewest cyI 161 (fun _ => 0)]) (va_A [(k_x, .inr (4, [.null, .null, .null, .null, .null, .null, .null, .int 0, .int 0]))] sz)) 24 6328 (va_A [(k_x, .inr (4, [.null, .null, .null, .null, .null, .null, .null, .int 0, .int 0]))] sz) := by
  refine Met.ofW (cc := cX4_init) (maxL := 1) (ret := none) (by decide) rfl ?_
  intro p e s m args below meth c s₁ B hml hv
  obtain ⟨rfl, hsz, hP, hK, hD0, hN0, hN1, hN2, hN3⟩ := hv
  have hx := B.exec
  have hb := B.bytes
  have hr := B.returns
  have hts := atoms_spec (ws := wsX4_init) B.pre
  have hown : s.vm.findClass RX4 = some m.cls := findClass_of_methodNamed B.named
  have hlocks := B.notSynchronized
  have hin : meth.name = "<init>" := (name_of_methodNamed B.named B.method).1
  subst hsz
  have hD := hD0.self (sz := s.heap.size)
  generalize hAe : va_A [(k_x, .inr (4, [.null, .null, .null, .null, .null, .null, .null, .int 0, .int 0]))] s.heap.size = A at hD ⊢
  have hA : ∀ q : Nat, s.heap.size ≤ q → A q := fun q h => by rw [← hAe]; exact Or.inr h
  have hS : va_S A s.heap s.heap [] := va_S.rf
  have hP : va_P (dC, dI) vwCl [(k_x, .inr (4, [.null, .null, .null, .null, .null, .null, .null, .int 0, .int 0]))] s.heap := hP
  have hl := lv_entry ([.ref k_x]) (n := 1) (Nat.le_of_ble_eq_true rfl)
  rw [lg_entry_eq]
  generalize (lg_sl ([.ref k_x]) ++ List.replicate (1 - (lg_sl ([.ref k_x])).length) Slot.unset).toArray = ls at hl ⊢
  have hl : lv_has ls 1 [(0, .ref k_x)] := hl
  have hm_3 := hts (.methodLink RX4 3 objectInit) (List.mem_of_getElem? (i := 1) rfl)
  have ho_i := hts (.instanceMethod objectInit) (List.mem_of_getElem? (i := 2) rfl)
  have ho_c := hts (.code objectInit ⟨#[0xb1]⟩ 1 none) (List.mem_of_getElem? (i := 3) rfl)
  have hc_9 := hts (.classLink RX4 9 RX0) (List.mem_of_getElem? (i := 4) rfl)
  have hj_0 := hts (.instantiable RX0 2) (List.mem_of_getElem? (i := 5) rfl)
  have hz_0 := hts (.initialized RX0) (List.mem_of_getElem? (i := 6) rfl)
  have hi_0 : ∀ w ∈ u_ws RX0 TX0 2, w ∈ wsX4_init := fun w h => List.mem_cons_of_mem _ (List.mem_append_left _ (List.mem_append_left _ (List.mem_append_left _ (List.mem_append_left _ (List.mem_append_right _ h)))))
  have hz_RX0 := hts (.initialized RX0) (List.mem_of_getElem? (i := 6) rfl)
  have hq_X0_init := hts (.instanceMethod yX0_init) (List.mem_of_getElem? (i := 26) rfl)
  have hf_12 := hts (.fieldLink RX4 12 "MajorityIndex" "row" "LMajorityIndex$Row;") (List.mem_of_getElem? (i := 7) rfl)
  have hi_4 : ∀ w ∈ u_ws RX4 TX4 9, w ∈ wsX4_init := fun w h => List.mem_cons_of_mem _ (List.mem_append_left _ (List.mem_append_left _ (List.mem_append_left _ (List.mem_append_right _ h))))
  have hc_16 := hts (.classLink RX4 16 RX2) (List.mem_of_getElem? (i := 8) rfl)
  have hj_2 := hts (.instantiable RX2 11) (List.mem_of_getElem? (i := 9) rfl)
  have hz_2 := hts (.initialized RX2) (List.mem_of_getElem? (i := 10) rfl)
  have hi_2 : ∀ w ∈ u_ws RX2 TX2 11, w ∈ wsX4_init := fun w h => List.mem_cons_of_mem _ (List.mem_append_left _ (List.mem_append_left _ (List.mem_append_right _ h)))
  have hz_RX2 := hts (.initialized RX2) (List.mem_of_getElem? (i := 10) rfl)
  have hm_18 := hts (.methodLink RX4 18 yX2_init) (List.mem_of_getElem? (i := 30) rfl)
  have hq_X2_init := hts (.instanceMethod yX2_init) (List.mem_of_getElem? (i := 31) rfl)
  have hf_21 := hts (.fieldLink RX4 21 "MajorityIndex" "tree" "LMajorityIndex$Tree;") (List.mem_of_getElem? (i := 11) rfl)
  have hc_25 := hts (.classLink RX4 25 RX1) (List.mem_of_getElem? (i := 12) rfl)
  have hj_1 := hts (.instantiable RX1 4) (List.mem_of_getElem? (i := 13) rfl)
  have hz_1 := hts (.initialized RX1) (List.mem_of_getElem? (i := 14) rfl)
  have hi_1 : ∀ w ∈ u_ws RX1 TX1 4, w ∈ wsX4_init := fun w h => List.mem_cons_of_mem _ (List.mem_append_left _ (List.mem_append_right _ h))
  have hz_RX1 := hts (.initialized RX1) (List.mem_of_getElem? (i := 14) rfl)
  have hq_X1_init := hts (.instanceMethod yX1_init) (List.mem_of_getElem? (i := 49) rfl)
  have hf_28 := hts (.fieldLink RX4 28 "MajorityIndex" "tally" "LMajorityIndex$Tally;") (List.mem_of_getElem? (i := 15) rfl)
  have hc_32 := hts (.classLink RX4 32 RX3) (List.mem_of_getElem? (i := 16) rfl)
  have hj_3 := hts (.instantiable RX3 5) (List.mem_of_getElem? (i := 17) rfl)
  have hz_3 := hts (.initialized RX3) (List.mem_of_getElem? (i := 18) rfl)
  have hi_3 : ∀ w ∈ u_ws RX3 TX3 5, w ∈ wsX4_init := fun w h => List.mem_cons_of_mem _ (List.mem_append_right _ h)
  have hz_RX3 := hts (.initialized RX3) (List.mem_of_getElem? (i := 18) rfl)
  have hq_X3_init := hts (.instanceMethod yX3_init) (List.mem_of_getElem? (i := 44) rfl)
  have hf_35 := hts (.fieldLink RX4 35 "MajorityIndex" "votes" "LMajorityIndex$Votes;") (List.mem_of_getElem? (i := 19) rfl)
  have hf_39 := hts (.fieldLink RX4 39 "MajorityIndex" "otherVotes" "LMajorityIndex$Votes;") (List.mem_of_getElem? (i := 20) rfl)
  have ha_int := hts (.arrayClass .int) (List.mem_of_getElem? (i := 21) rfl)
  have hf_42 := hts (.fieldLink RX4 42 "MajorityIndex" "wins" "[I") (List.mem_of_getElem? (i := 22) rfl)
  have hf_46 := hts (.fieldLink RX4 46 "MajorityIndex" "fewest" "[I") (List.mem_of_getElem? (i := 23) rfl)
  have hf_49 := hts (.fieldLink RX4 49 "MajorityIndex" "slotsNow" "I") (List.mem_of_getElem? (i := 24) rfl)
  have hf_53 := hts (.fieldLink RX4 53 "MajorityIndex" "treeIsOld" "Z") (List.mem_of_getElem? (i := 25) rfl)
  refine lv_aload_n hx hb dX4_init_0 rfl (lv_at hl 0 rfl) ?_
  refine W.objInit hx hb hown hm_3 ho_i ho_c rfl (by rw [hml]; exact hl.1) rfl dX4_init_1 (Nat.le_of_ble_eq_true rfl) (Nat.le_of_ble_eq_true rfl) ?_
  refine W.eq (g2 := F0 m 4 ls []) rfl ?_
  refine lv_aload_n hx hb dX4_init_4 rfl (lv_at hl 0 rfl) ?_
  refine va_new (ci := 0) (fs := [.null, .int 0]) (C := RX0) (T := TX0) (N := 2) hx hb hts hi_0 tyX0 tyX0_ok hown hc_9 hj_0 hz_0 hK hP hD hS hA rfl (ki_z0) (Nat.le_of_ble_eq_true rfl) (Nat.le_of_ble_eq_true rfl) dX4_init_5 (fun q_1 H hP hD hS => ?_)
  refine W.widen (k := 1) (n := 2) (Nat.le_of_ble_eq_true rfl) (Nat.le_of_ble_eq_true rfl) ?_
  obtain ⟨hP, hD⟩ := kx_re (w2 := [(k_x, .inr (4, [.null, .null, .null, .null, .null, .null, .null, .int 0, .int 0])), (q_1, .inr (0, [.null, .int 0]))]) hP hD rfl
  refine lv_dup hx hb dX4_init_8 rfl ?_
  obtain ⟨hPc, hDc, hFc, hCc⟩ := kx_pre (wc := [(q_1, .inr (0, [.null, .int 0]))]) hP hD hS hA [1] (by decide) rfl
  have hKc := hK
  refine va_callv (va_runIN (As := []) (rest := [.ref q_1, .ref k_x]) ⟨hx, hb, hml, hown, hts⟩ (c_X0_init l dC dI q_1 cyI H.size) ⟨(va_cnB 0 hts ggX4_init_X0_init rfl rfl rfl hN0 hz_RX0 (by decide +kernel) ⟨Nat.le_of_ble_eq_true rfl, Nat.le_of_ble_eq_true rfl⟩), rfl, hq_X0_init⟩ ⟨fun a U g mk q => by obtain ⟨q0, q1, qP, qK, qD⟩ := q; exact ⟨q0, q1, qP, va_K.moved (u := U) (U := U.calling g mk a) (Vm.Alike.refl U.vm) qK, qD⟩, fun U hU hW => ⟨rfl, by rw [hU], by rw [hU]; exact hPc, va_K.moved hW.alike hKc, hDc.weaken (fun _ _ _ _ => trivial)⟩⟩ rfl rfl hl.1 rfl (lv_room (Nat.le_of_ble_eq_true rfl)) dX4_init_9 ⟨Nat.le_of_ble_eq_true rfl, Nat.le_of_ble_eq_true rfl⟩) hS (fun q _ h => hFc q h) hFc (fun u t H1 locs ht hvm w_2 hB hz1 hk1 hS => ?_)
  obtain ⟨q_3, hP1, hK1, hD1⟩ := hB
  rw [ht] at hP1
  have hK1 := va_K.moved hvm.symm hK1
  obtain ⟨hP, hD⟩ := kx_join (w2 := [(k_x, .inr (4, [.null, .null, .null, .null, .null, .null, .null, .int 0, .int 0])), kx_0 q_1 q_3 0, kx_a q_3 cyI 160 (fun _ => 0)]) hP hD hP1 hD1 hk1 hFc [1] [0] hCc rfl (by decide) (by decide)
  clear hP1 hD1 hK1 hk1 hz1 hFc hDc hPc hKc hCc
  generalize H1 = H at hP hS ⊢
  refine W.widen (k := 2) (n := 162) (Nat.le_of_ble_eq_true rfl) (Nat.le_of_ble_eq_true rfl) ?_
  refine va_putF (D := (dC, dI)) (ci := 4) (v := .ref q_1) (ty := .object "MajorityIndex$Row") (C := RX4) (T := TX4) (N := 9) hx hb hts hi_4 tyX4 tyX4_ok nmX4 hown hK hP hD hS 0 rfl rfl 0 (by decide) hf_12 (fun _ h9 => h9) rfl hin rfl (by decide +kernel) rfl rfl (Nat.le_of_ble_eq_true rfl) dX4_init_12 (fun H locs hP hD hS => ?_)
  obtain ⟨hP, hD⟩ := kx_re (w2 := [(k_x, .inr (4, [.ref q_1, .null, .null, .null, .null, .null, .null, .int 0, .int 0])), kx_0 q_1 q_3 0, kx_a q_3 cyI 160 (fun _ => 0)]) hP hD rfl
  refine lv_aload_n hx hb dX4_init_15 rfl (lv_at hl 0 rfl) ?_
  refine va_new (ci := 2) (fs := [.null, .null, .null, .null, .null, .null, .null, .null, .null, .int 0, .int 0]) (C := RX2) (T := TX2) (N := 11) hx hb hts hi_2 tyX2 tyX2_ok hown hc_16 hj_2 hz_2 hK hP hD hS hA rfl (ki_z2) (Nat.le_of_ble_eq_true rfl) (Nat.le_of_ble_eq_true rfl) dX4_init_16 (fun q_4 H hP hD hS => ?_)
  refine W.widen (k := 3) (n := 173) (Nat.le_of_ble_eq_true rfl) (Nat.le_of_ble_eq_true rfl) ?_
  obtain ⟨hP, hD⟩ := kx_re (w2 := [(k_x, .inr (4, [.ref q_1, .null, .null, .null, .null, .null, .null, .int 0, .int 0])), kx_0 q_1 q_3 0, kx_a q_3 cyI 160 (fun _ => 0), (q_4, .inr (2, [.null, .null, .null, .null, .null, .null, .null, .null, .null, .int 0, .int 0]))]) hP hD rfl
  refine lv_dup hx hb dX4_init_19 rfl ?_
  refine lv_aload_n hx hb dX4_init_20 rfl (lv_at hl 0 rfl) ?_
  refine va_get (D := (dC, dI)) (ci := 4) (v := .ref q_1) (C := RX4) (T := TX4) (N := 9) hx hb hts hi_4 hown hK hP 0 rfl rfl 0 (by decide) hf_12 (fun _ h9 => h9) rfl dX4_init_21 ?_
  obtain ⟨hPc, hDc, hFc, hCc⟩ := kx_pre (wc := [(q_4, .inr (2, [.null, .null, .null, .null, .null, .null, .null, .null, .null, .int 0, .int 0]))]) hP hD hS hA [3] (by decide) rfl
  have hKc := hK
  refine va_callv (va_runI (As := [.ref q_1]) (rest := [.ref q_4, .ref k_x]) ⟨hx, hb, hml, hown, hts⟩ (c_X2_init l dC dI q_4 q_1 cyI H.size) (cwI 1 hts ggX4_init_X2_init rfl rfl rfl hz_RX2 hm_18 hq_X2_init rfl (by decide +kernel) ⟨Nat.le_of_ble_eq_true rfl, Nat.le_of_ble_eq_true rfl⟩) ⟨fun a U g mk q => by obtain ⟨q0, q1, qP, qK, qD, qn0⟩ := q; exact ⟨q0, q1, qP, va_K.moved (u := U) (U := U.calling g mk a) (Vm.Alike.refl U.vm) qK, qD, va_Nw.same (u := U) (U := U.calling g mk a) rfl rfl qn0⟩, fun U hU hW => ⟨rfl, by rw [hU], by rw [hU]; exact hPc, va_K.moved hW.alike hKc, hDc.weaken (fun _ _ _ _ => trivial), va_Nw.warmM hW hN3⟩⟩ rfl rfl hl.1 rfl (lv_room (Nat.le_of_ble_eq_true rfl)) dX4_init_24 ⟨Nat.le_of_ble_eq_true rfl, Nat.le_of_ble_eq_true rfl⟩) hS (fun q _ h => hFc q h) hFc (fun u t H1 locs ht hvm w_5 hB hz1 hk1 hS => ?_)
  obtain ⟨q_6, q_7, q_8, q_9, q_10, q_11, q_12, q_13, q_14, q_15, hP1, hK1, hD1⟩ := hB
  rw [ht] at hP1
  have hK1 := va_K.moved hvm.symm hK1
  obtain ⟨hP, hD⟩ := kx_join (w2 := [(k_x, .inr (4, [.ref q_1, .null, .null, .null, .null, .null, .null, .int 0, .int 0])), kx_0 q_1 q_3 0, kx_a q_3 cyI 160 (fun _ => 0), kx_2 q_4 q_1 q_6 q_7 q_8 q_9 q_10 q_11 q_12 q_13 0 0, kx_3 q_6 q_14 q_15 0 0 0, kx_a q_14 cyI 12 (fun _ => 0), kx_a q_15 cyI 12 (fun _ => 0), kx_a q_7 cyI 319 (fun _ => 0), kx_a q_8 cyI 319 (fun _ => 0), kx_a q_9 cyI 319 (fun _ => 0), kx_a q_10 cyI 319 (fun _ => 0), kx_a q_11 cyI 319 (fun _ => 0), kx_a q_12 cyI 1914 (fun _ => 0), kx_a q_13 cyI 1914 (fun _ => 0)]) hP hD hP1 hD1 hk1 hFc [3] [0, 1, 2] hCc rfl (by decide) (by decide)
  clear hP1 hD1 hK1 hk1 hz1 hFc hDc hPc hKc hCc
  generalize H1 = H at hP hS ⊢
  refine W.widen (k := 13) (n := 5625) (Nat.le_of_ble_eq_true rfl) (Nat.le_of_ble_eq_true rfl) ?_
  refine va_putF (D := (dC, dI)) (ci := 4) (v := .ref q_4) (ty := .object "MajorityIndex$Tree") (C := RX4) (T := TX4) (N := 9) hx hb hts hi_4 tyX4 tyX4_ok nmX4 hown hK hP hD hS 0 rfl rfl 1 (by decide) hf_21 (fun _ h9 => h9) rfl hin rfl (by decide +kernel) rfl rfl (Nat.le_of_ble_eq_true rfl) dX4_init_27 (fun H locs hP hD hS => ?_)
  obtain ⟨hP, hD⟩ := kx_re (w2 := [(k_x, .inr (4, [.ref q_1, .ref q_4, .null, .null, .null, .null, .null, .int 0, .int 0])), kx_0 q_1 q_3 0, kx_a q_3 cyI 160 (fun _ => 0), kx_2 q_4 q_1 q_6 q_7 q_8 q_9 q_10 q_11 q_12 q_13 0 0, kx_3 q_6 q_14 q_15 0 0 0, kx_a q_14 cyI 12 (fun _ => 0), kx_a q_15 cyI 12 (fun _ => 0), kx_a q_7 cyI 319 (fun _ => 0), kx_a q_8 cyI 319 (fun _ => 0), kx_a q_9 cyI 319 (fun _ => 0), kx_a q_10 cyI 319 (fun _ => 0), kx_a q_11 cyI 319 (fun _ => 0), kx_a q_12 cyI 1914 (fun _ => 0), kx_a q_13 cyI 1914 (fun _ => 0)]) hP hD rfl
  refine lv_aload_n hx hb dX4_init_30 rfl (lv_at hl 0 rfl) ?_
  refine va_new (ci := 1) (fs := [.null, .null, .int 0, .int 0]) (C := RX1) (T := TX1) (N := 4) hx hb hts hi_1 tyX1 tyX1_ok hown hc_25 hj_1 hz_1 hK hP hD hS hA rfl (ki_z1) (Nat.le_of_ble_eq_true rfl) (Nat.le_of_ble_eq_true rfl) dX4_init_31 (fun q_16 H hP hD hS => ?_)
  refine W.widen (k := 14) (n := 5629) (Nat.le_of_ble_eq_true rfl) (Nat.le_of_ble_eq_true rfl) ?_
  obtain ⟨hP, hD⟩ := kx_re (w2 := [(k_x, .inr (4, [.ref q_1, .ref q_4, .null, .null, .null, .null, .null, .int 0, .int 0])), kx_0 q_1 q_3 0, kx_a q_3 cyI 160 (fun _ => 0), kx_2 q_4 q_1 q_6 q_7 q_8 q_9 q_10 q_11 q_12 q_13 0 0, kx_3 q_6 q_14 q_15 0 0 0, kx_a q_14 cyI 12 (fun _ => 0), kx_a q_15 cyI 12 (fun _ => 0), kx_a q_7 cyI 319 (fun _ => 0), kx_a q_8 cyI 319 (fun _ => 0), kx_a q_9 cyI 319 (fun _ => 0), kx_a q_10 cyI 319 (fun _ => 0), kx_a q_11 cyI 319 (fun _ => 0), kx_a q_12 cyI 1914 (fun _ => 0), kx_a q_13 cyI 1914 (fun _ => 0), (q_16, .inr (1, [.null, .null, .int 0, .int 0]))]) hP hD rfl
  refine lv_dup hx hb dX4_init_34 rfl ?_
  obtain ⟨hPc, hDc, hFc, hCc⟩ := kx_pre (wc := [(q_16, .inr (1, [.null, .null, .int 0, .int 0]))]) hP hD hS hA [14] (by decide) rfl
  have hKc := hK
  refine va_callv (va_runIN (As := []) (rest := [.ref q_16, .ref k_x]) ⟨hx, hb, hml, hown, hts⟩ (c_X1_init l dC dI q_16 cyI H.size) ⟨(va_cnB 0 hts ggX4_init_X1_init rfl rfl rfl hN1 hz_RX1 (by decide +kernel) ⟨Nat.le_of_ble_eq_true rfl, Nat.le_of_ble_eq_true rfl⟩), rfl, hq_X1_init⟩ ⟨fun a U g mk q => by obtain ⟨q0, q1, qP, qK, qD⟩ := q; exact ⟨q0, q1, qP, va_K.moved (u := U) (U := U.calling g mk a) (Vm.Alike.refl U.vm) qK, qD⟩, fun U hU hW => ⟨rfl, by rw [hU], by rw [hU]; exact hPc, va_K.moved hW.alike hKc, hDc.weaken (fun _ _ _ _ => trivial)⟩⟩ rfl rfl hl.1 rfl (lv_room (Nat.le_of_ble_eq_true rfl)) dX4_init_35 ⟨Nat.le_of_ble_eq_true rfl, Nat.le_of_ble_eq_true rfl⟩) hS (fun q _ h => hFc q h) hFc (fun u t H1 locs ht hvm w_17 hB hz1 hk1 hS => ?_)
  obtain ⟨q_18, q_19, hP1, hK1, hD1⟩ := hB
  rw [ht] at hP1
  have hK1 := va_K.moved hvm.symm hK1
  obtain ⟨hP, hD⟩ := kx_join (w2 := [(k_x, .inr (4, [.ref q_1, .ref q_4, .null, .null, .null, .null, .null, .int 0, .int 0])), kx_0 q_1 q_3 0, kx_a q_3 cyI 160 (fun _ => 0), kx_2 q_4 q_1 q_6 q_7 q_8 q_9 q_10 q_11 q_12 q_13 0 0, kx_3 q_6 q_14 q_15 0 0 0, kx_a q_14 cyI 12 (fun _ => 0), kx_a q_15 cyI 12 (fun _ => 0), kx_a q_7 cyI 319 (fun _ => 0), kx_a q_8 cyI 319 (fun _ => 0), kx_a q_9 cyI 319 (fun _ => 0), kx_a q_10 cyI 319 (fun _ => 0), kx_a q_11 cyI 319 (fun _ => 0), kx_a q_12 cyI 1914 (fun _ => 0), kx_a q_13 cyI 1914 (fun _ => 0), kx_1 q_16 q_18 q_19 0 0, kx_a q_18 cyI 160 (fun _ => 0), kx_a q_19 cyI 160 (fun _ => 0)]) hP hD hP1 hD1 hk1 hFc [14] [0, 1, 2, 3, 4, 5, 6, 7, 8, 9, 10, 11, 12, 13] hCc rfl (by decide) (by decide)
  clear hP1 hD1 hK1 hk1 hz1 hFc hDc hPc hKc hCc
  generalize H1 = H at hP hS ⊢
  refine W.widen (k := 16) (n := 5949) (Nat.le_of_ble_eq_true rfl) (Nat.le_of_ble_eq_true rfl) ?_
  refine va_putF (D := (dC, dI)) (ci := 4) (v := .ref q_16) (ty := .object "MajorityIndex$Tally") (C := RX4) (T := TX4) (N := 9) hx hb hts hi_4 tyX4 tyX4_ok nmX4 hown hK hP hD hS 0 rfl rfl 2 (by decide) hf_28 (fun _ h9 => h9) rfl hin rfl (by decide +kernel) rfl rfl (Nat.le_of_ble_eq_true rfl) dX4_init_38 (fun H locs hP hD hS => ?_)
  obtain ⟨hP, hD⟩ := kx_re (w2 := [(k_x, .inr (4, [.ref q_1, .ref q_4, .ref q_16, .null, .null, .null, .null, .int 0, .int 0])), kx_0 q_1 q_3 0, kx_a q_3 cyI 160 (fun _ => 0), kx_2 q_4 q_1 q_6 q_7 q_8 q_9 q_10 q_11 q_12 q_13 0 0, kx_3 q_6 q_14 q_15 0 0 0, kx_a q_14 cyI 12 (fun _ => 0), kx_a q_15 cyI 12 (fun _ => 0), kx_a q_7 cyI 319 (fun _ => 0), kx_a q_8 cyI 319 (fun _ => 0), kx_a q_9 cyI 319 (fun _ => 0), kx_a q_10 cyI 319 (fun _ => 0), kx_a q_11 cyI 319 (fun _ => 0), kx_a q_12 cyI 1914 (fun _ => 0), kx_a q_13 cyI 1914 (fun _ => 0), kx_1 q_16 q_18 q_19 0 0, kx_a q_18 cyI 160 (fun _ => 0), kx_a q_19 cyI 160 (fun _ => 0)]) hP hD rfl
  refine lv_aload_n hx hb dX4_init_41 rfl (lv_at hl 0 rfl) ?_
  refine va_new (ci := 3) (fs := [.null, .null, .int 0, .int 0, .int 0]) (C := RX3) (T := TX3) (N := 5) hx hb hts hi_3 tyX3 tyX3_ok hown hc_32 hj_3 hz_3 hK hP hD hS hA rfl (ki_z3) (Nat.le_of_ble_eq_true rfl) (Nat.le_of_ble_eq_true rfl) dX4_init_42 (fun q_20 H hP hD hS => ?_)
  refine W.widen (k := 17) (n := 5954) (Nat.le_of_ble_eq_true rfl) (Nat.le_of_ble_eq_true rfl) ?_
  obtain ⟨hP, hD⟩ := kx_re (w2 := [(k_x, .inr (4, [.ref q_1, .ref q_4, .ref q_16, .null, .null, .null, .null, .int 0, .int 0])), kx_0 q_1 q_3 0, kx_a q_3 cyI 160 (fun _ => 0), kx_2 q_4 q_1 q_6 q_7 q_8 q_9 q_10 q_11 q_12 q_13 0 0, kx_3 q_6 q_14 q_15 0 0 0, kx_a q_14 cyI 12 (fun _ => 0), kx_a q_15 cyI 12 (fun _ => 0), kx_a q_7 cyI 319 (fun _ => 0), kx_a q_8 cyI 319 (fun _ => 0), kx_a q_9 cyI 319 (fun _ => 0), kx_a q_10 cyI 319 (fun _ => 0), kx_a q_11 cyI 319 (fun _ => 0), kx_a q_12 cyI 1914 (fun _ => 0), kx_a q_13 cyI 1914 (fun _ => 0), kx_1 q_16 q_18 q_19 0 0, kx_a q_18 cyI 160 (fun _ => 0), kx_a q_19 cyI 160 (fun _ => 0), (q_20, .inr (3, [.null, .null, .int 0, .int 0, .int 0]))]) hP hD rfl
  refine lv_dup hx hb dX4_init_45 rfl ?_
  obtain ⟨hPc, hDc, hFc, hCc⟩ := kx_pre (wc := [(q_20, .inr (3, [.null, .null, .int 0, .int 0, .int 0]))]) hP hD hS hA [17] (by decide) rfl
  have hKc := hK
  refine va_callv (va_runIN (As := []) (rest := [.ref q_20, .ref k_x]) ⟨hx, hb, hml, hown, hts⟩ (c_X3_init l dC dI q_20 cyI H.size) ⟨(va_cnB 0 hts ggX4_init_X3_init rfl rfl rfl hN2 hz_RX3 (by decide +kernel) ⟨Nat.le_of_ble_eq_true rfl, Nat.le_of_ble_eq_true rfl⟩), rfl, hq_X3_init⟩ ⟨fun a U g mk q => by obtain ⟨q0, q1, qP, qK, qD⟩ := q; exact ⟨q0, q1, qP, va_K.moved (u := U) (U := U.calling g mk a) (Vm.Alike.refl U.vm) qK, qD⟩, fun U hU hW => ⟨rfl, by rw [hU], by rw [hU]; exact hPc, va_K.moved hW.alike hKc, hDc.weaken (fun _ _ _ _ => trivial)⟩⟩ rfl rfl hl.1 rfl (lv_room (Nat.le_of_ble_eq_true rfl)) dX4_init_46 ⟨Nat.le_of_ble_eq_true rfl, Nat.le_of_ble_eq_true rfl⟩) hS (fun q _ h => hFc q h) hFc (fun u t H1 locs ht hvm w_21 hB hz1 hk1 hS => ?_)
  obtain ⟨q_22, q_23, hP1, hK1, hD1⟩ := hB
  rw [ht] at hP1
  have hK1 := va_K.moved hvm.symm hK1
  obtain ⟨hP, hD⟩ := kx_join (w2 := [(k_x, .inr (4, [.ref q_1, .ref q_4, .ref q_16, .null, .null, .null, .null, .int 0, .int 0])), kx_0 q_1 q_3 0, kx_a q_3 cyI 160 (fun _ => 0), kx_2 q_4 q_1 q_6 q_7 q_8 q_9 q_10 q_11 q_12 q_13 0 0, kx_3 q_6 q_14 q_15 0 0 0, kx_a q_14 cyI 12 (fun _ => 0), kx_a q_15 cyI 12 (fun _ => 0), kx_a q_7 cyI 319 (fun _ => 0), kx_a q_8 cyI 319 (fun _ => 0), kx_a q_9 cyI 319 (fun _ => 0), kx_a q_10 cyI 319 (fun _ => 0), kx_a q_11 cyI 319 (fun _ => 0), kx_a q_12 cyI 1914 (fun _ => 0), kx_a q_13 cyI 1914 (fun _ => 0), kx_1 q_16 q_18 q_19 0 0, kx_a q_18 cyI 160 (fun _ => 0), kx_a q_19 cyI 160 (fun _ => 0), kx_3 q_20 q_22 q_23 0 0 0, kx_a q_22 cyI 12 (fun _ => 0), kx_a q_23 cyI 12 (fun _ => 0)]) hP hD hP1 hD1 hk1 hFc [17] [0, 1, 2, 3, 4, 5, 6, 7, 8, 9, 10, 11, 12, 13, 14, 15, 16] hCc rfl (by decide) (by decide)
  clear hP1 hD1 hK1 hk1 hz1 hFc hDc hPc hKc hCc
  generalize H1 = H at hP hS ⊢
  refine W.widen (k := 19) (n := 5978) (Nat.le_of_ble_eq_true rfl) (Nat.le_of_ble_eq_true rfl) ?_
  refine va_putF (D := (dC, dI)) (ci := 4) (v := .ref q_20) (ty := .object "MajorityIndex$Votes") (C := RX4) (T := TX4) (N := 9) hx hb hts hi_4 tyX4 tyX4_ok nmX4 hown hK hP hD hS 0 rfl rfl 3 (by decide) hf_35 (fun _ h9 => h9) rfl hin rfl (by decide +kernel) rfl rfl (Nat.le_of_ble_eq_true rfl) dX4_init_49 (fun H locs hP hD hS => ?_)
  obtain ⟨hP, hD⟩ := kx_re (w2 := [(k_x, .inr (4, [.ref q_1, .ref q_4, .ref q_16, .ref q_20, .null, .null, .null, .int 0, .int 0])), kx_0 q_1 q_3 0, kx_a q_3 cyI 160 (fun _ => 0), kx_2 q_4 q_1 q_6 q_7 q_8 q_9 q_10 q_11 q_12 q_13 0 0, kx_3 q_6 q_14 q_15 0 0 0, kx_a q_14 cyI 12 (fun _ => 0), kx_a q_15 cyI 12 (fun _ => 0), kx_a q_7 cyI 319 (fun _ => 0), kx_a q_8 cyI 319 (fun _ => 0), kx_a q_9 cyI 319 (fun _ => 0), kx_a q_10 cyI 319 (fun _ => 0), kx_a q_11 cyI 319 (fun _ => 0), kx_a q_12 cyI 1914 (fun _ => 0), kx_a q_13 cyI 1914 (fun _ => 0), kx_1 q_16 q_18 q_19 0 0, kx_a q_18 cyI 160 (fun _ => 0), kx_a q_19 cyI 160 (fun _ => 0), kx_3 q_20 q_22 q_23 0 0 0, kx_a q_22 cyI 12 (fun _ => 0), kx_a q_23 cyI 12 (fun _ => 0)]) hP hD rfl
  refine lv_aload_n hx hb dX4_init_52 rfl (lv_at hl 0 rfl) ?_
  refine va_new (ci := 3) (fs := [.null, .null, .int 0, .int 0, .int 0]) (C := RX3) (T := TX3) (N := 5) hx hb hts hi_3 tyX3 tyX3_ok hown hc_32 hj_3 hz_3 hK hP hD hS hA rfl (ki_z3) (Nat.le_of_ble_eq_true rfl) (Nat.le_of_ble_eq_true rfl) dX4_init_53 (fun q_24 H hP hD hS => ?_)
  refine W.widen (k := 20) (n := 5983) (Nat.le_of_ble_eq_true rfl) (Nat.le_of_ble_eq_true rfl) ?_
  obtain ⟨hP, hD⟩ := kx_re (w2 := [(k_x, .inr (4, [.ref q_1, .ref q_4, .ref q_16, .ref q_20, .null, .null, .null, .int 0, .int 0])), kx_0 q_1 q_3 0, kx_a q_3 cyI 160 (fun _ => 0), kx_2 q_4 q_1 q_6 q_7 q_8 q_9 q_10 q_11 q_12 q_13 0 0, kx_3 q_6 q_14 q_15 0 0 0, kx_a q_14 cyI 12 (fun _ => 0), kx_a q_15 cyI 12 (fun _ => 0), kx_a q_7 cyI 319 (fun _ => 0), kx_a q_8 cyI 319 (fun _ => 0), kx_a q_9 cyI 319 (fun _ => 0), kx_a q_10 cyI 319 (fun _ => 0), kx_a q_11 cyI 319 (fun _ => 0), kx_a q_12 cyI 1914 (fun _ => 0), kx_a q_13 cyI 1914 (fun _ => 0), kx_1 q_16 q_18 q_19 0 0, kx_a q_18 cyI 160 (fun _ => 0), kx_a q_19 cyI 160 (fun _ => 0), kx_3 q_20 q_22 q_23 0 0 0, kx_a q_22 cyI 12 (fun _ => 0), kx_a q_23 cyI 12 (fun _ => 0), (q_24, .inr (3, [.null, .null, .int 0, .int 0, .int 0]))]) hP hD rfl
  refine lv_dup hx hb dX4_init_56 rfl ?_
  obtain ⟨hPc, hDc, hFc, hCc⟩ := kx_pre (wc := [(q_24, .inr (3, [.null, .null, .int 0, .int 0, .int 0]))]) hP hD hS hA [20] (by decide) rfl
  have hKc := hK
  refine va_callv (va_runIN (As := []) (rest := [.ref q_24, .ref k_x]) ⟨hx, hb, hml, hown, hts⟩ (c_X3_init l dC dI q_24 cyI H.size) ⟨(va_cnB 0 hts ggX4_init_X3_init rfl rfl rfl hN2 hz_RX3 (by decide +kernel) ⟨Nat.le_of_ble_eq_true rfl, Nat.le_of_ble_eq_true rfl⟩), rfl, hq_X3_init⟩ ⟨fun a U g mk q => by obtain ⟨q0, q1, qP, qK, qD⟩ := q; exact ⟨q0, q1, qP, va_K.moved (u := U) (U := U.calling g mk a) (Vm.Alike.refl U.vm) qK, qD⟩, fun U hU hW => ⟨rfl, by rw [hU], by rw [hU]; exact hPc, va_K.moved hW.alike hKc, hDc.weaken (fun _ _ _ _ => trivial)⟩⟩ rfl rfl hl.1 rfl (lv_room (Nat.le_of_ble_eq_true rfl)) dX4_init_57 ⟨Nat.le_of_ble_eq_true rfl, Nat.le_of_ble_eq_true rfl⟩) hS (fun q _ h => hFc q h) hFc (fun u t H1 locs ht hvm w_25 hB hz1 hk1 hS => ?_)
  obtain ⟨q_26, q_27, hP1, hK1, hD1⟩ := hB
  rw [ht] at hP1
  have hK1 := va_K.moved hvm.symm hK1
  obtain ⟨hP, hD⟩ := kx_join (w2 := [(k_x, .inr (4, [.ref q_1, .ref q_4, .ref q_16, .ref q_20, .null, .null, .null, .int 0, .int 0])), kx_0 q_1 q_3 0, kx_a q_3 cyI 160 (fun _ => 0), kx_2 q_4 q_1 q_6 q_7 q_8 q_9 q_10 q_11 q_12 q_13 0 0, kx_3 q_6 q_14 q_15 0 0 0, kx_a q_14 cyI 12 (fun _ => 0), kx_a q_15 cyI 12 (fun _ => 0), kx_a q_7 cyI 319 (fun _ => 0), kx_a q_8 cyI 319 (fun _ => 0), kx_a q_9 cyI 319 (fun _ => 0), kx_a q_10 cyI 319 (fun _ => 0), kx_a q_11 cyI 319 (fun _ => 0), kx_a q_12 cyI 1914 (fun _ => 0), kx_a q_13 cyI 1914 (fun _ => 0), kx_1 q_16 q_18 q_19 0 0, kx_a q_18 cyI 160 (fun _ => 0), kx_a q_19 cyI 160 (fun _ => 0), kx_3 q_20 q_22 q_23 0 0 0, kx_a q_22 cyI 12 (fun _ => 0), kx_a q_23 cyI 12 (fun _ => 0), kx_3 q_24 q_26 q_27 0 0 0, kx_a q_26 cyI 12 (fun _ => 0), kx_a q_27 cyI 12 (fun _ => 0)]) hP hD hP1 hD1 hk1 hFc [20] [0, 1, 2, 3, 4, 5, 6, 7, 8, 9, 10, 11, 12, 13, 14, 15, 16, 17, 18, 19] hCc rfl (by decide) (by decide)
  clear hP1 hD1 hK1 hk1 hz1 hFc hDc hPc hKc hCc
  generalize H1 = H at hP hS ⊢
  refine W.widen (k := 22) (n := 6007) (Nat.le_of_ble_eq_true rfl) (Nat.le_of_ble_eq_true rfl) ?_
  refine va_putF (D := (dC, dI)) (ci := 4) (v := .ref q_24) (ty := .object "MajorityIndex$Votes") (C := RX4) (T := TX4) (N := 9) hx hb hts hi_4 tyX4 tyX4_ok nmX4 hown hK hP hD hS 0 rfl rfl 4 (by decide) hf_39 (fun _ h9 => h9) rfl hin rfl (by decide +kernel) rfl rfl (Nat.le_of_ble_eq_true rfl) dX4_init_60 (fun H locs hP hD hS => ?_)
  obtain ⟨hP, hD⟩ := kx_re (w2 := [(k_x, .inr (4, [.ref q_1, .ref q_4, .ref q_16, .ref q_20, .ref q_24, .null, .null, .int 0, .int 0])), kx_0 q_1 q_3 0, kx_a q_3 cyI 160 (fun _ => 0), kx_2 q_4 q_1 q_6 q_7 q_8 q_9 q_10 q_11 q_12 q_13 0 0, kx_3 q_6 q_14 q_15 0 0 0, kx_a q_14 cyI 12 (fun _ => 0), kx_a q_15 cyI 12 (fun _ => 0), kx_a q_7 cyI 319 (fun _ => 0), kx_a q_8 cyI 319 (fun _ => 0), kx_a q_9 cyI 319 (fun _ => 0), kx_a q_10 cyI 319 (fun _ => 0), kx_a q_11 cyI 319 (fun _ => 0), kx_a q_12 cyI 1914 (fun _ => 0), kx_a q_13 cyI 1914 (fun _ => 0), kx_1 q_16 q_18 q_19 0 0, kx_a q_18 cyI 160 (fun _ => 0), kx_a q_19 cyI 160 (fun _ => 0), kx_3 q_20 q_22 q_23 0 0 0, kx_a q_22 cyI 12 (fun _ => 0), kx_a q_23 cyI 12 (fun _ => 0), kx_3 q_24 q_26 q_27 0 0 0, kx_a q_26 cyI 12 (fun _ => 0), kx_a q_27 cyI 12 (fun _ => 0)]) hP hD rfl
  refine lv_aload_n hx hb dX4_init_63 rfl (lv_at hl 0 rfl) ?_
  refine lv_sipush (v := 160) hx hb dX4_init_64 (by decide) ?_
  refine va_newa (atype := .int) (a0 := (160, .inl (fun _ => 0))) hx hb ha_int rfl hK hP hD hS hA (N' := 160) (fun cA => ki_zi cA 160) (by decide) (by decide) (Nat.le_of_ble_eq_true rfl) (Nat.le_of_ble_eq_true rfl) (Nat.le_of_ble_eq_true rfl) dX4_init_67 (fun q_28 cA_29 H hK hP hD hS => ?_)
  obtain rfl : cyI = cA_29 := (ki_cA hK 0 1 rfl rfl).symm
  have hK : va_K (dC, dI) vwCl [(cyI, .int)] s := hK.sub [0] rfl
  refine W.widen (k := 23) (n := 6167) (Nat.le_of_ble_eq_true rfl) (Nat.le_of_ble_eq_true rfl) ?_
  obtain ⟨hP, hD⟩ := kx_re (w2 := [(k_x, .inr (4, [.ref q_1, .ref q_4, .ref q_16, .ref q_20, .ref q_24, .null, .null, .int 0, .int 0])), kx_0 q_1 q_3 0, kx_a q_3 cyI 160 (fun _ => 0), kx_2 q_4 q_1 q_6 q_7 q_8 q_9 q_10 q_11 q_12 q_13 0 0, kx_3 q_6 q_14 q_15 0 0 0, kx_a q_14 cyI 12 (fun _ => 0), kx_a q_15 cyI 12 (fun _ => 0), kx_a q_7 cyI 319 (fun _ => 0), kx_a q_8 cyI 319 (fun _ => 0), kx_a q_9 cyI 319 (fun _ => 0), kx_a q_10 cyI 319 (fun _ => 0), kx_a q_11 cyI 319 (fun _ => 0), kx_a q_12 cyI 1914 (fun _ => 0), kx_a q_13 cyI 1914 (fun _ => 0), kx_1 q_16 q_18 q_19 0 0, kx_a q_18 cyI 160 (fun _ => 0), kx_a q_19 cyI 160 (fun _ => 0), kx_3 q_20 q_22 q_23 0 0 0, kx_a q_22 cyI 12 (fun _ => 0), kx_a q_23 cyI 12 (fun _ => 0), kx_3 q_24 q_26 q_27 0 0 0, kx_a q_26 cyI 12 (fun _ => 0), kx_a q_27 cyI 12 (fun _ => 0), kx_a q_28 cyI 160 (fun _ => 0)]) hP hD rfl
  refine va_putF (D := (dC, dI)) (ci := 4) (v := .ref q_28) (ty := .array .int) (C := RX4) (T := TX4) (N := 9) hx hb hts hi_4 tyX4 tyX4_ok nmX4 hown hK hP hD hS 0 rfl rfl 5 (by decide) hf_42 (fun _ h9 => h9) rfl hin rfl (by decide +kernel) rfl rfl (Nat.le_of_ble_eq_true rfl) dX4_init_69 (fun H locs hP hD hS => ?_)
  obtain ⟨hP, hD⟩ := kx_re (w2 := [(k_x, .inr (4, [.ref q_1, .ref q_4, .ref q_16, .ref q_20, .ref q_24, .ref q_28, .null, .int 0, .int 0])), kx_0 q_1 q_3 0, kx_a q_3 cyI 160 (fun _ => 0), kx_2 q_4 q_1 q_6 q_7 q_8 q_9 q_10 q_11 q_12 q_13 0 0, kx_3 q_6 q_14 q_15 0 0 0, kx_a q_14 cyI 12 (fun _ => 0), kx_a q_15 cyI 12 (fun _ => 0), kx_a q_7 cyI 319 (fun _ => 0), kx_a q_8 cyI 319 (fun _ => 0), kx_a q_9 cyI 319 (fun _ => 0), kx_a q_10 cyI 319 (fun _ => 0), kx_a q_11 cyI 319 (fun _ => 0), kx_a q_12 cyI 1914 (fun _ => 0), kx_a q_13 cyI 1914 (fun _ => 0), kx_1 q_16 q_18 q_19 0 0, kx_a q_18 cyI 160 (fun _ => 0), kx_a q_19 cyI 160 (fun _ => 0), kx_3 q_20 q_22 q_23 0 0 0, kx_a q_22 cyI 12 (fun _ => 0), kx_a q_23 cyI 12 (fun _ => 0), kx_3 q_24 q_26 q_27 0 0 0, kx_a q_26 cyI 12 (fun _ => 0), kx_a q_27 cyI 12 (fun _ => 0), kx_a q_28 cyI 160 (fun _ => 0)]) hP hD rfl
  refine lv_aload_n hx hb dX4_init_72 rfl (lv_at hl 0 rfl) ?_
  refine lv_sipush (v := 161) hx hb dX4_init_73 (by decide) ?_
  refine va_newa (atype := .int) (a0 := (161, .inl (fun _ => 0))) hx hb ha_int rfl hK hP hD hS hA (N' := 161) (fun cA => ki_zi cA 161) (by decide) (by decide) (Nat.le_of_ble_eq_true rfl) (Nat.le_of_ble_eq_true rfl) (Nat.le_of_ble_eq_true rfl) dX4_init_76 (fun q_30 cA_31 H hK hP hD hS => ?_)
  obtain rfl : cyI = cA_31 := (ki_cA hK 0 1 rfl rfl).symm
  have hK : va_K (dC, dI) vwCl [(cyI, .int)] s := hK.sub [0] rfl
  refine W.widen (k := 24) (n := 6328) (Nat.le_of_ble_eq_true rfl) (Nat.le_of_ble_eq_true rfl) ?_
  obtain ⟨hP, hD⟩ := kx_re (w2 := [(k_x, .inr (4, [.ref q_1, .ref q_4, .ref q_16, .ref q_20, .ref q_24, .ref q_28, .null, .int 0, .int 0])), kx_0 q_1 q_3 0, kx_a q_3 cyI 160 (fun _ => 0), kx_2 q_4 q_1 q_6 q_7 q_8 q_9 q_10 q_11 q_12 q_13 0 0, kx_3 q_6 q_14 q_15 0 0 0, kx_a q_14 cyI 12 (fun _ => 0), kx_a q_15 cyI 12 (fun _ => 0), kx_a q_7 cyI 319 (fun _ => 0), kx_a q_8 cyI 319 (fun _ => 0), kx_a q_9 cyI 319 (fun _ => 0), kx_a q_10 cyI 319 (fun _ => 0), kx_a q_11 cyI 319 (fun _ => 0), kx_a q_12 cyI 1914 (fun _ => 0), kx_a q_13 cyI 1914 (fun _ => 0), kx_1 q_16 q_18 q_19 0 0, kx_a q_18 cyI 160 (fun _ => 0), kx_a q_19 cyI 160 (fun _ => 0), kx_3 q_20 q_22 q_23 0 0 0, kx_a q_22 cyI 12 (fun _ => 0), kx_a q_23 cyI 12 (fun _ => 0), kx_3 q_24 q_26 q_27 0 0 0, kx_a q_26 cyI 12 (fun _ => 0), kx_a q_27 cyI 12 (fun _ => 0), kx_a q_28 cyI 160 (fun _ => 0), kx_a q_30 cyI 161 (fun _ => 0)]) hP hD rfl
  refine va_putF (D := (dC, dI)) (ci := 4) (v := .ref q_30) (ty := .array .int) (C := RX4) (T := TX4) (N := 9) hx hb hts hi_4 tyX4 tyX4_ok nmX4 hown hK hP hD hS 0 rfl rfl 6 (by decide) hf_46 (fun _ h9 => h9) rfl hin rfl (by decide +kernel) rfl rfl (Nat.le_of_ble_eq_true rfl) dX4_init_78 (fun H locs hP hD hS => ?_)
  obtain ⟨hP, hD⟩ := kx_re (w2 := [kx_4 k_x q_1 q_4 q_16 q_20 q_24 q_28 q_30 0 0, kx_0 q_1 q_3 0, kx_a q_3 cyI 160 (fun _ => 0), kx_2 q_4 q_1 q_6 q_7 q_8 q_9 q_10 q_11 q_12 q_13 0 0, kx_3 q_6 q_14 q_15 0 0 0, kx_a q_14 cyI 12 (fun _ => 0), kx_a q_15 cyI 12 (fun _ => 0), kx_a q_7 cyI 319 (fun _ => 0), kx_a q_8 cyI 319 (fun _ => 0), kx_a q_9 cyI 319 (fun _ => 0), kx_a q_10 cyI 319 (fun _ => 0), kx_a q_11 cyI 319 (fun _ => 0), kx_a q_12 cyI 1914 (fun _ => 0), kx_a q_13 cyI 1914 (fun _ => 0), kx_1 q_16 q_18 q_19 0 0, kx_a q_18 cyI 160 (fun _ => 0), kx_a q_19 cyI 160 (fun _ => 0), kx_3 q_20 q_22 q_23 0 0 0, kx_a q_22 cyI 12 (fun _ => 0), kx_a q_23 cyI 12 (fun _ => 0), kx_3 q_24 q_26 q_27 0 0 0, kx_a q_26 cyI 12 (fun _ => 0), kx_a q_27 cyI 12 (fun _ => 0), kx_a q_28 cyI 160 (fun _ => 0), kx_a q_30 cyI 161 (fun _ => 0)]) hP hD rfl
  refine lv_aload_n hx hb dX4_init_81 rfl (lv_at hl 0 rfl) ?_
  refine lv_iconst (v := 2) hx hb dX4_init_82 (by decide) ?_
  refine va_put (D := (dC, dI)) (ci := 4) (v := .int 2) (ty := .int) (C := RX4) (T := TX4) (N := 9) hx hb hts hi_4 tyX4 tyX4_ok nmX4 hown hK hP hD hS 0 rfl rfl 7 (by decide) hf_49 (fun _ h9 => h9) rfl (by decide +kernel) rfl rfl (Nat.le_of_ble_eq_true rfl) dX4_init_83 (fun H locs hP hD hS => ?_)
  obtain ⟨hP, hD⟩ := kx_re (w2 := [kx_4 k_x q_1 q_4 q_16 q_20 q_24 q_28 q_30 2 0, kx_0 q_1 q_3 0, kx_a q_3 cyI 160 (fun _ => 0), kx_2 q_4 q_1 q_6 q_7 q_8 q_9 q_10 q_11 q_12 q_13 0 0, kx_3 q_6 q_14 q_15 0 0 0, kx_a q_14 cyI 12 (fun _ => 0), kx_a q_15 cyI 12 (fun _ => 0), kx_a q_7 cyI 319 (fun _ => 0), kx_a q_8 cyI 319 (fun _ => 0), kx_a q_9 cyI 319 (fun _ => 0), kx_a q_10 cyI 319 (fun _ => 0), kx_a q_11 cyI 319 (fun _ => 0), kx_a q_12 cyI 1914 (fun _ => 0), kx_a q_13 cyI 1914 (fun _ => 0), kx_1 q_16 q_18 q_19 0 0, kx_a q_18 cyI 160 (fun _ => 0), kx_a q_19 cyI 160 (fun _ => 0), kx_3 q_20 q_22 q_23 0 0 0, kx_a q_22 cyI 12 (fun _ => 0), kx_a q_23 cyI 12 (fun _ => 0), kx_3 q_24 q_26 q_27 0 0 0, kx_a q_26 cyI 12 (fun _ => 0), kx_a q_27 cyI 12 (fun _ => 0), kx_a q_28 cyI 160 (fun _ => 0), kx_a q_30 cyI 161 (fun _ => 0)]) hP hD rfl
  refine lv_aload_n hx hb dX4_init_86 rfl (lv_at hl 0 rfl) ?_
  refine lv_iconst (v := 1) hx hb dX4_init_87 (by decide) ?_
  refine va_put (D := (dC, dI)) (ci := 4) (v := .int 1) (ty := .boolean) (C := RX4) (T := TX4) (N := 9) hx hb hts hi_4 tyX4 tyX4_ok nmX4 hown hK hP hD hS 0 rfl rfl 8 (by decide) hf_53 (fun _ h9 => h9) rfl (by decide +kernel) (by decide) (by decide) (Nat.le_of_ble_eq_true rfl) dX4_init_88 (fun H locs hP hD hS => ?_)
  obtain ⟨hP, hD⟩ := kx_re (w2 := [kx_4 k_x q_1 q_4 q_16 q_20 q_24 q_28 q_30 2 1, kx_0 q_1 q_3 0, kx_a q_3 cyI 160 (fun _ => 0), kx_2 q_4 q_1 q_6 q_7 q_8 q_9 q_10 q_11 q_12 q_13 0 0, kx_3 q_6 q_14 q_15 0 0 0, kx_a q_14 cyI 12 (fun _ => 0), kx_a q_15 cyI 12 (fun _ => 0), kx_a q_7 cyI 319 (fun _ => 0), kx_a q_8 cyI 319 (fun _ => 0), kx_a q_9 cyI 319 (fun _ => 0), kx_a q_10 cyI 319 (fun _ => 0), kx_a q_11 cyI 319 (fun _ => 0), kx_a q_12 cyI 1914 (fun _ => 0), kx_a q_13 cyI 1914 (fun _ => 0), kx_1 q_16 q_18 q_19 0 0, kx_a q_18 cyI 160 (fun _ => 0), kx_a q_19 cyI 160 (fun _ => 0), kx_3 q_20 q_22 q_23 0 0 0, kx_a q_22 cyI 12 (fun _ => 0), kx_a q_23 cyI 12 (fun _ => 0), kx_3 q_24 q_26 q_27 0 0 0, kx_a q_26 cyI 12 (fun _ => 0), kx_a q_27 cyI 12 (fun _ => 0), kx_a q_28 cyI 160 (fun _ => 0), kx_a q_30 cyI 161 (fun _ => 0)]) hP hD rfl
  have hP9 := hP
  have hD9 := hD
  have hK9 := hK
  exact W.vret hx hb hr (fun t ht hW => ⟨⟨(), rfl, trivial, q_1, q_4, q_16, q_20, q_24, q_28, q_30, q_3, q_6, q_7, q_8, q_9, q_10, q_11, q_12, q_13, q_14, q_15, q_18, q_19, q_22, q_23, q_26, q_27, by rw [ht]; exact hP9, va_K.moved hW.alike hK9, hD9⟩, hS.F ht⟩) hS.2.2 dX4_init_91

set_option maxHeartbeats 4000000 in
set_option maxRecDepth 100000 in
theorem c_X5_init (l : Launch) (dC : Nat → ClassId) (dI : Nat → Nat → Nat) (h0 : Nat) (cyI : ClassId) (sz : Nat) : Met l yX5_init wsX5_init ({ frames := 1, cells := 21, slots := 11297, locals := 45 }) (va_Pc [.ref h0] (fun U => U.heap.size = sz ∧ va_P (dC, dI) vwCl [(h0, .inr (5, [.null, .int 0, .int 0, .int 0, .null, .null, .null, .null, .null, .null, .null, .int 0, .null, .null, .int 0, .null, .int 0, .null, .null, .null, .null, .null, .int 0, .null, .null, .int 0, .null, .null, .null, .int 0]))] U.heap ∧ va_K (dC, dI) vwCl [(cyI, .int)] U ∧ va_D (fun _ => True) [(h0, .inr (5, [.null, .int 0, .int 0, .int 0, .null, .null, .null, .null, .null, .null, .null, .int 0, .null, .null, .int 0, .null, .int 0, .null, .null, .null, .null, .null, .int 0, .null, .null, .int 0, .null, .null, .null, .int 0]))])) (va_Qv (fun _ : Unit => True) (fun (_ : Unit) (t : State) => ∃ (k_row : Nat) (k_many : Nat) (k_loss : Nat) (k_less : Nat) (k_voteValue : Nat) (k_voteNumber : Nat) (k_allValue : Nat) (k_allNumber : Nat) (k_nodeL : Nat) (k_nodeR : Nat) (k_part : Nat) (k_wasMany : Nat) (k_wasLoss : Nat) (k_wasValue : Nat) (k_wasNumber : Nat) (k_path : Nat) (k_heavyValue : Nat) (k_heavyTimes : Nat) (k_fewest : Nat) (k_which : Nat) (k_met : Nat), va_P (dC, dI) vwCl [kx_5 h0 k_row 0 2 0 k_many k_loss k_less k_voteValue k_voteNumber k_allValue k_allNumber 0 k_nodeL k_nodeR 0 k_part 0 k_wasMany k_wasLoss k_wasValue k_wasNumber k_path 0 k_heavyValue k_heavyTimes 0 k_fewest k_which k_met 0, kx_a k_row cyI 160 (fun _ => 0), kx_a k_many cyI 324 (fun _ => 0), kx_a k_loss cyI 324 (fun _ => 0), kx_a k_less cyI 324 (fun _ => 0), kx_a k_voteValue cyI 1944 (fun _ => 0), kx_a k_voteNumber cyI 1944 (fun _ => 0), kx_a k_allValue cyI 12 (fun _ => 0), kx_a k_allNumber cyI 12 (fun _ => 0), kx_a k_nodeL cyI 320 (fun _ => 0), kx_a k_nodeR cyI 320 (fun _ => 0), kx_a k_part cyI 320 (fun _ => 0), kx_a k_wasMany cyI 320 (fun _ => 0), kx_a k_wasLoss cyI 320 (fun _ => 0), kx_a k_wasValue cyI 1920 (fun _ => 0), kx_a k_wasNumber cyI 1920 (fun _ => 0), kx_a k_path cyI 12 (fun _ => 0), kx_a k_heavyValue cyI 160 (fun _ => 0), kx_a k_heavyTimes cyI 160 (fun _ => 0), kx_a k_fewest cyI 161 (fun _ => 0), kx_a k_which cyI 160 (fun _ => 0), kx_a k_met cyI 160 (fun _ => 0)] t.heap ∧ va_K (dC, dI) vwCl [(cyI, .int)] t ∧ va_D (va_A [(h0, .inr (5, [.null, .int 0, .int 0, .int 0, .null, .null, .null, .null, .null, .null, .null, .int 0, .null, .null, .int 0, .null, .int 0, .null, .null, .null, .null, .null, .int 0, .null, .null, .int 0, .null, .null, .null, .int 0]))] sz) [kx_5 h0 k_row 0 2 0 k_many k_loss k_less k_voteValue k_voteNumber k_allValue k_allNumber 0 k_nodeL k_nodeR 0 k_part 0 k_wasMany k_wasLoss k_wasValue k_wasNumber k_path 0 k_heavyValue k_heavyTimes 0 k_fewest k_which k_met 0, kx_a k_row cyI 160 (fun _ => 0), kx_a k_many cyI 324 (fun _ => 0), kx_a k_loss cyI 324 (fun _ => 0), kx_a k_less cyI 324 (fun _ => 0), kx_a k_voteValue cyI 1944 (fun _ => 0), kx_a k_voteNumber cyI 1944 (fun _ => 0), kx_a k_allValue cyI 12 (fun _ => 0), kx_a k_allNumber cyI 12 (fun _ => 0), kx_a k_nodeL cyI 320 (fun _ => 0), kx_a k_nodeR cyI 320 (fun _ => 0), kx_a k_part cyI 320 (fun _ => 0), kx_a k_wasMany cyI 320 (fun _ => 0), kx_a k_wasLoss cyI 320 (fun _ => 0), kx_a k_wasValue cyI 1920 (fun _ => 0), kx_a k_wasNumber cyI 1920 (fun _ => 0), kx_a k_path cyI 12 (fun _ => 0), kx_a k_heavyValue cyI 160 (fun _ => 0), kx_a k_heavyTimes cyI 160 (fun _ => 0), kx_a k_fewest cyI 161 (fun _ => 0), kx_a k_which cyI 160 (fun _ => 0), kx_a k_met cyI 160 (fun _ => 0)]) (va_A [(h0, .inr (5, [.null, .int 0, .int 0, .int 0, .null, .null, .null, .null, .null, .null, .null, .int 0, .null, .null, .int 0, .null, .int 0, .null, .null, .null, .null, .null, .int 0, .null, .null, .int 0, .null, .null, .null, .int 0]))] sz)) 21 11297 (va_A [(h0, .inr (5, [.null, .int 0, .int 0, .int 0, .null, .null, .null, .null, .null, .null, .null, .int 0, .null, .null, .int 0, .null, .int 0, .null, .null, .null, .null, .null, .int 0, .null, .null, .int 0, .null, .null, .null, .int 0]))] sz) := by
  refine Met.ofW (cc := cX5_init) (maxL := 1) (ret := none) (by decide) rfl ?_
  intro p e s m args below meth c s₁ B hml hv
  obtain ⟨rfl, hsz, hP, hK, hD0⟩ := hv
  have hx := B.exec
  have hb := B.bytes
  have hr := B.returns
  have hts := atoms_spec (ws := wsX5_init) B.pre
  have hown : s.vm.findClass RX5 = some m.cls := findClass_of_methodNamed B.named
  have hlocks := B.notSynchronized
  have hin : meth.name = "<init>" := (name_of_methodNamed B.named B.method).1
  subst hsz
  have hD := hD0.self (sz := s.heap.size)
  generalize hAe : va_A [(h0, .inr (5, [.null, .int 0, .int 0, .int 0, .null, .null, .null, .null, .null, .null, .null, .int 0, .null, .null, .int 0, .null, .int 0, .null, .null, .null, .null, .null, .int 0, .null, .null, .int 0, .null, .null, .null, .int 0]))] s.heap.size = A at hD ⊢
  have hA : ∀ q : Nat, s.heap.size ≤ q → A q := fun q h => by rw [← hAe]; exact Or.inr h
  have hS : va_S A s.heap s.heap [] := va_S.rf
  have hP : va_P (dC, dI) vwCl [(h0, .inr (5, [.null, .int 0, .int 0, .int 0, .null, .null, .null, .null, .null, .null, .null, .int 0, .null, .null, .int 0, .null, .int 0, .null, .null, .null, .null, .null, .int 0, .null, .null, .int 0, .null, .null, .null, .int 0]))] s.heap := hP
  have hl := lv_entry ([.ref h0]) (n := 1) (Nat.le_of_ble_eq_true rfl)
  rw [lg_entry_eq]
  generalize (lg_sl ([.ref h0]) ++ List.replicate (1 - (lg_sl ([.ref h0])).length) Slot.unset).toArray = ls at hl ⊢
  have hl : lv_has ls 1 [(0, .ref h0)] := hl
  have hm_1 := hts (.methodLink RX5 1 objectInit) (List.mem_of_getElem? (i := 1) rfl)
  have ho_i := hts (.instanceMethod objectInit) (List.mem_of_getElem? (i := 2) rfl)
  have ho_c := hts (.code objectInit ⟨#[0xb1]⟩ 1 none) (List.mem_of_getElem? (i := 3) rfl)
  have ha_int := hts (.arrayClass .int) (List.mem_of_getElem? (i := 4) rfl)
  have hf_7 := hts (.fieldLink RX5 7 "MajorityIndexModel" "row" "[I") (List.mem_of_getElem? (i := 5) rfl)
  have hi_5 : ∀ w ∈ u_ws RX5 TX5 30, w ∈ wsX5_init := fun w h => List.mem_cons_of_mem _ (List.mem_append_right _ h)
  have hf_13 := hts (.fieldLink RX5 13 "MajorityIndexModel" "slots" "I") (List.mem_of_getElem? (i := 6) rfl)
  have hf_17 := hts (.fieldLink RX5 17 "MajorityIndexModel" "many" "[I") (List.mem_of_getElem? (i := 7) rfl)
  have hf_20 := hts (.fieldLink RX5 20 "MajorityIndexModel" "loss" "[I") (List.mem_of_getElem? (i := 8) rfl)
  have hf_23 := hts (.fieldLink RX5 23 "MajorityIndexModel" "less" "[I") (List.mem_of_getElem? (i := 9) rfl)
  have hf_26 := hts (.fieldLink RX5 26 "MajorityIndexModel" "voteValue" "[I") (List.mem_of_getElem? (i := 10) rfl)
  have hf_29 := hts (.fieldLink RX5 29 "MajorityIndexModel" "voteNumber" "[I") (List.mem_of_getElem? (i := 11) rfl)
  have hf_32 := hts (.fieldLink RX5 32 "MajorityIndexModel" "allValue" "[I") (List.mem_of_getElem? (i := 12) rfl)
  have hf_35 := hts (.fieldLink RX5 35 "MajorityIndexModel" "allNumber" "[I") (List.mem_of_getElem? (i := 13) rfl)
  have hf_38 := hts (.fieldLink RX5 38 "MajorityIndexModel" "nodeL" "[I") (List.mem_of_getElem? (i := 14) rfl)
  have hf_41 := hts (.fieldLink RX5 41 "MajorityIndexModel" "nodeR" "[I") (List.mem_of_getElem? (i := 15) rfl)
  have hf_44 := hts (.fieldLink RX5 44 "MajorityIndexModel" "part" "[I") (List.mem_of_getElem? (i := 16) rfl)
  have hf_47 := hts (.fieldLink RX5 47 "MajorityIndexModel" "wasMany" "[I") (List.mem_of_getElem? (i := 17) rfl)
  have hf_50 := hts (.fieldLink RX5 50 "MajorityIndexModel" "wasLoss" "[I") (List.mem_of_getElem? (i := 18) rfl)
  have hf_53 := hts (.fieldLink RX5 53 "MajorityIndexModel" "wasValue" "[I") (List.mem_of_getElem? (i := 19) rfl)
  have hf_56 := hts (.fieldLink RX5 56 "MajorityIndexModel" "wasNumber" "[I") (List.mem_of_getElem? (i := 20) rfl)
  have hf_59 := hts (.fieldLink RX5 59 "MajorityIndexModel" "path" "[I") (List.mem_of_getElem? (i := 21) rfl)
  have hf_62 := hts (.fieldLink RX5 62 "MajorityIndexModel" "heavyValue" "[I") (List.mem_of_getElem? (i := 22) rfl)
  have hf_65 := hts (.fieldLink RX5 65 "MajorityIndexModel" "heavyTimes" "[I") (List.mem_of_getElem? (i := 23) rfl)
  have hf_68 := hts (.fieldLink RX5 68 "MajorityIndexModel" "fewest" "[I") (List.mem_of_getElem? (i := 24) rfl)
  have hf_71 := hts (.fieldLink RX5 71 "MajorityIndexModel" "which" "[I") (List.mem_of_getElem? (i := 25) rfl)
  have hf_74 := hts (.fieldLink RX5 74 "MajorityIndexModel" "met" "[I") (List.mem_of_getElem? (i := 26) rfl)
  refine lv_aload_n hx hb dX5_init_0 rfl (lv_at hl 0 rfl) ?_
  refine W.objInit hx hb hown hm_1 ho_i ho_c rfl (by rw [hml]; exact hl.1) rfl dX5_init_1 (Nat.le_of_ble_eq_true rfl) (Nat.le_of_ble_eq_true rfl) ?_
  refine W.eq (g2 := F0 m 4 ls []) rfl ?_
  refine lv_aload_n hx hb dX5_init_4 rfl (lv_at hl 0 rfl) ?_
  refine lv_sipush (v := 160) hx hb dX5_init_5 (by decide) ?_
  refine va_newa (atype := .int) (a0 := (160, .inl (fun _ => 0))) hx hb ha_int rfl hK hP hD hS hA (N' := 160) (fun cA => ki_zi cA 160) (by decide) (by decide) (Nat.le_of_ble_eq_true rfl) (Nat.le_of_ble_eq_true rfl) (Nat.le_of_ble_eq_true rfl) dX5_init_8 (fun q_1 cA_2 H hK hP hD hS => ?_)
  obtain rfl : cyI = cA_2 := (ki_cA hK 0 1 rfl rfl).symm
  have hK : va_K (dC, dI) vwCl [(cyI, .int)] s := hK.sub [0] rfl
  refine W.widen (k := 1) (n := 160) (Nat.le_of_ble_eq_true rfl) (Nat.le_of_ble_eq_true rfl) ?_
  obtain ⟨hP, hD⟩ := kx_re (w2 := [(h0, .inr (5, [.null, .int 0, .int 0, .int 0, .null, .null, .null, .null, .null, .null, .null, .int 0, .null, .null, .int 0, .null, .int 0, .null, .null, .null, .null, .null, .int 0, .null, .null, .int 0, .null, .null, .null, .int 0])), kx_a q_1 cyI 160 (fun _ => 0)]) hP hD rfl
  refine va_putF (D := (dC, dI)) (ci := 5) (v := .ref q_1) (ty := .array .int) (C := RX5) (T := TX5) (N := 30) hx hb hts hi_5 tyX5 tyX5_ok nmX5 hown hK hP hD hS 0 rfl rfl 0 (by decide) hf_7 (fun _ h9 => h9) rfl hin rfl (by decide +kernel) rfl rfl (Nat.le_of_ble_eq_true rfl) dX5_init_10 (fun H locs hP hD hS => ?_)
  obtain ⟨hP, hD⟩ := kx_re (w2 := [(h0, .inr (5, [.ref q_1, .int 0, .int 0, .int 0, .null, .null, .null, .null, .null, .null, .null, .int 0, .null, .null, .int 0, .null, .int 0, .null, .null, .null, .null, .null, .int 0, .null, .null, .int 0, .null, .null, .null, .int 0])), kx_a q_1 cyI 160 (fun _ => 0)]) hP hD rfl
  refine lv_aload_n hx hb dX5_init_13 rfl (lv_at hl 0 rfl) ?_
  refine lv_iconst (v := 2) hx hb dX5_init_14 (by decide) ?_
  refine va_put (D := (dC, dI)) (ci := 5) (v := .int 2) (ty := .int) (C := RX5) (T := TX5) (N := 30) hx hb hts hi_5 tyX5 tyX5_ok nmX5 hown hK hP hD hS 0 rfl rfl 2 (by decide) hf_13 (fun _ h9 => h9) rfl (by decide +kernel) rfl rfl (Nat.le_of_ble_eq_true rfl) dX5_init_15 (fun H locs hP hD hS => ?_)
  obtain ⟨hP, hD⟩ := kx_re (w2 := [(h0, .inr (5, [.ref q_1, .int 0, .int 2, .int 0, .null, .null, .null, .null, .null, .null, .null, .int 0, .null, .null, .int 0, .null, .int 0, .null, .null, .null, .null, .null, .int 0, .null, .null, .int 0, .null, .null, .null, .int 0])), kx_a q_1 cyI 160 (fun _ => 0)]) hP hD rfl
  refine lv_aload_n hx hb dX5_init_18 rfl (lv_at hl 0 rfl) ?_
  refine lv_sipush (v := 324) hx hb dX5_init_19 (by decide) ?_
  refine va_newa (atype := .int) (a0 := (324, .inl (fun _ => 0))) hx hb ha_int rfl hK hP hD hS hA (N' := 324) (fun cA => ki_zi cA 324) (by decide) (by decide) (Nat.le_of_ble_eq_true rfl) (Nat.le_of_ble_eq_true rfl) (Nat.le_of_ble_eq_true rfl) dX5_init_22 (fun q_3 cA_4 H hK hP hD hS => ?_)
  obtain rfl : cyI = cA_4 := (ki_cA hK 0 1 rfl rfl).symm
  have hK : va_K (dC, dI) vwCl [(cyI, .int)] s := hK.sub [0] rfl
  refine W.widen (k := 2) (n := 484) (Nat.le_of_ble_eq_true rfl) (Nat.le_of_ble_eq_true rfl) ?_
  obtain ⟨hP, hD⟩ := kx_re (w2 := [(h0, .inr (5, [.ref q_1, .int 0, .int 2, .int 0, .null, .null, .null, .null, .null, .null, .null, .int 0, .null, .null, .int 0, .null, .int 0, .null, .null, .null, .null, .null, .int 0, .null, .null, .int 0, .null, .null, .null, .int 0])), kx_a q_1 cyI 160 (fun _ => 0), kx_a q_3 cyI 324 (fun _ => 0)]) hP hD rfl
  refine va_putF (D := (dC, dI)) (ci := 5) (v := .ref q_3) (ty := .array .int) (C := RX5) (T := TX5) (N := 30) hx hb hts hi_5 tyX5 tyX5_ok nmX5 hown hK hP hD hS 0 rfl rfl 4 (by decide) hf_17 (fun _ h9 => h9) rfl hin rfl (by decide +kernel) rfl rfl (Nat.le_of_ble_eq_true rfl) dX5_init_24 (fun H locs hP hD hS => ?_)
  obtain ⟨hP, hD⟩ := kx_re (w2 := [(h0, .inr (5, [.ref q_1, .int 0, .int 2, .int 0, .ref q_3, .null, .null, .null, .null, .null, .null, .int 0, .null, .null, .int 0, .null, .int 0, .null, .null, .null, .null, .null, .int 0, .null, .null, .int 0, .null, .null, .null, .int 0])), kx_a q_1 cyI 160 (fun _ => 0), kx_a q_3 cyI 324 (fun _ => 0)]) hP hD rfl
  refine lv_aload_n hx hb dX5_init_27 rfl (lv_at hl 0 rfl) ?_
  refine lv_sipush (v := 324) hx hb dX5_init_28 (by decide) ?_
  refine va_newa (atype := .int) (a0 := (324, .inl (fun _ => 0))) hx hb ha_int rfl hK hP hD hS hA (N' := 324) (fun cA => ki_zi cA 324) (by decide) (by decide) (Nat.le_of_ble_eq_true rfl) (Nat.le_of_ble_eq_true rfl) (Nat.le_of_ble_eq_true rfl) dX5_init_31 (fun q_5 cA_6 H hK hP hD hS => ?_)
  obtain rfl : cyI = cA_6 := (ki_cA hK 0 1 rfl rfl).symm
  have hK : va_K (dC, dI) vwCl [(cyI, .int)] s := hK.sub [0] rfl
  refine W.widen (k := 3) (n := 808) (Nat.le_of_ble_eq_true rfl) (Nat.le_of_ble_eq_true rfl) ?_
  obtain ⟨hP, hD⟩ := kx_re (w2 := [(h0, .inr (5, [.ref q_1, .int 0, .int 2, .int 0, .ref q_3, .null, .null, .null, .null, .null, .null, .int 0, .null, .null, .int 0, .null, .int 0, .null, .null, .null, .null, .null, .int 0, .null, .null, .int 0, .null, .null, .null, .int 0])), kx_a q_1 cyI 160 (fun _ => 0), kx_a q_3 cyI 324 (fun _ => 0), kx_a q_5 cyI 324 (fun _ => 0)]) hP hD rfl
  refine va_putF (D := (dC, dI)) (ci := 5) (v := .ref q_5) (ty := .array .int) (C := RX5) (T := TX5) (N := 30) hx hb hts hi_5 tyX5 tyX5_ok nmX5 hown hK hP hD hS 0 rfl rfl 5 (by decide) hf_20 (fun _ h9 => h9) rfl hin rfl (by decide +kernel) rfl rfl (Nat.le_of_ble_eq_true rfl) dX5_init_33 (fun H locs hP hD hS => ?_)
  obtain ⟨hP, hD⟩ := kx_re (w2 := [(h0, .inr (5, [.ref q_1, .int 0, .int 2, .int 0, .ref q_3, .ref q_5, .null, .null, .null, .null, .null, .int 0, .null, .null, .int 0, .null, .int 0, .null, .null, .null, .null, .null, .int 0, .null, .null, .int 0, .null, .null, .null, .int 0])), kx_a q_1 cyI 160 (fun _ => 0), kx_a q_3 cyI 324 (fun _ => 0), kx_a q_5 cyI 324 (fun _ => 0)]) hP hD rfl
  refine lv_aload_n hx hb dX5_init_36 rfl (lv_at hl 0 rfl) ?_
  refine lv_sipush (v := 324) hx hb dX5_init_37 (by decide) ?_
  refine va_newa (atype := .int) (a0 := (324, .inl (fun _ => 0))) hx hb ha_int rfl hK hP hD hS hA (N' := 324) (fun cA => ki_zi cA 324) (by decide) (by decide) (Nat.le_of_ble_eq_true rfl) (Nat.le_of_ble_eq_true rfl) (Nat.le_of_ble_eq_true rfl) dX5_init_40 (fun q_7 cA_8 H hK hP hD hS => ?_)
  obtain rfl : cyI = cA_8 := (ki_cA hK 0 1 rfl rfl).symm
  have hK : va_K (dC, dI) vwCl [(cyI, .int)] s := hK.sub [0] rfl
  refine W.widen (k := 4) (n := 1132) (Nat.le_of_ble_eq_true rfl) (Nat.le_of_ble_eq_true rfl) ?_
  obtain ⟨hP, hD⟩ := kx_re (w2 := [(h0, .inr (5, [.ref q_1, .int 0, .int 2, .int 0, .ref q_3, .ref q_5, .null, .null, .null, .null, .null, .int 0, .null, .null, .int 0, .null, .int 0, .null, .null, .null, .null, .null, .int 0, .null, .null, .int 0, .null, .null, .null, .int 0])), kx_a q_1 cyI 160 (fun _ => 0), kx_a q_3 cyI 324 (fun _ => 0), kx_a q_5 cyI 324 (fun _ => 0), kx_a q_7 cyI 324 (fun _ => 0)]) hP hD rfl
  refine va_putF (D := (dC, dI)) (ci := 5) (v := .ref q_7) (ty := .array .int) (C := RX5) (T := TX5) (N := 30) hx hb hts hi_5 tyX5 tyX5_ok nmX5 hown hK hP hD hS 0 rfl rfl 6 (by decide) hf_23 (fun _ h9 => h9) rfl hin rfl (by decide +kernel) rfl rfl (Nat.le_of_ble_eq_true rfl) dX5_init_42 (fun H locs hP hD hS => ?_)
  obtain ⟨hP, hD⟩ := kx_re (w2 := [(h0, .inr (5, [.ref q_1, .int 0, .int 2, .int 0, .ref q_3, .ref q_5, .ref q_7, .null, .null, .null, .null, .int 0, .null, .null, .int 0, .null, .int 0, .null, .null, .null, .null, .null, .int 0, .null, .null, .int 0, .null, .null, .null, .int 0])), kx_a q_1 cyI 160 (fun _ => 0), kx_a q_3 cyI 324 (fun _ => 0), kx_a q_5 cyI 324 (fun _ => 0), kx_a q_7 cyI 324 (fun _ => 0)]) hP hD rfl
  refine lv_aload_n hx hb dX5_init_45 rfl (lv_at hl 0 rfl) ?_
  refine lv_sipush (v := 1944) hx hb dX5_init_46 (by decide) ?_
  refine va_newa (atype := .int) (a0 := (1944, .inl (fun _ => 0))) hx hb ha_int rfl hK hP hD hS hA (N' := 1944) (fun cA => ki_zi cA 1944) (by decide) (by decide) (Nat.le_of_ble_eq_true rfl) (Nat.le_of_ble_eq_true rfl) (Nat.le_of_ble_eq_true rfl) dX5_init_49 (fun q_9 cA_10 H hK hP hD hS => ?_)
  obtain rfl : cyI = cA_10 := (ki_cA hK 0 1 rfl rfl).symm
  have hK : va_K (dC, dI) vwCl [(cyI, .int)] s := hK.sub [0] rfl
  refine W.widen (k := 5) (n := 3076) (Nat.le_of_ble_eq_true rfl) (Nat.le_of_ble_eq_true rfl) ?_
  obtain ⟨hP, hD⟩ := kx_re (w2 := [(h0, .inr (5, [.ref q_1, .int 0, .int 2, .int 0, .ref q_3, .ref q_5, .ref q_7, .null, .null, .null, .null, .int 0, .null, .null, .int 0, .null, .int 0, .null, .null, .null, .null, .null, .int 0, .null, .null, .int 0, .null, .null, .null, .int 0])), kx_a q_1 cyI 160 (fun _ => 0), kx_a q_3 cyI 324 (fun _ => 0), kx_a q_5 cyI 324 (fun _ => 0), kx_a q_7 cyI 324 (fun _ => 0), kx_a q_9 cyI 1944 (fun _ => 0)]) hP hD rfl
  refine va_putF (D := (dC, dI)) (ci := 5) (v := .ref q_9) (ty := .array .int) (C := RX5) (T := TX5) (N := 30) hx hb hts hi_5 tyX5 tyX5_ok nmX5 hown hK hP hD hS 0 rfl rfl 7 (by decide) hf_26 (fun _ h9 => h9) rfl hin rfl (by decide +kernel) rfl rfl (Nat.le_of_ble_eq_true rfl) dX5_init_51 (fun H locs hP hD hS => ?_)
  obtain ⟨hP, hD⟩ := kx_re (w2 := [(h0, .inr (5, [.ref q_1, .int 0, .int 2, .int 0, .ref q_3, .ref q_5, .ref q_7, .ref q_9, .null, .null, .null, .int 0, .null, .null, .int 0, .null, .int 0, .null, .null, .null, .null, .null, .int 0, .null, .null, .int 0, .null, .null, .null, .int 0])), kx_a q_1 cyI 160 (fun _ => 0), kx_a q_3 cyI 324 (fun _ => 0), kx_a q_5 cyI 324 (fun _ => 0), kx_a q_7 cyI 324 (fun _ => 0), kx_a q_9 cyI 1944 (fun _ => 0)]) hP hD rfl
  refine lv_aload_n hx hb dX5_init_54 rfl (lv_at hl 0 rfl) ?_
  refine lv_sipush (v := 1944) hx hb dX5_init_55 (by decide) ?_
  refine va_newa (atype := .int) (a0 := (1944, .inl (fun _ => 0))) hx hb ha_int rfl hK hP hD hS hA (N' := 1944) (fun cA => ki_zi cA 1944) (by decide) (by decide) (Nat.le_of_ble_eq_true rfl) (Nat.le_of_ble_eq_true rfl) (Nat.le_of_ble_eq_true rfl) dX5_init_58 (fun q_11 cA_12 H hK hP hD hS => ?_)
  obtain rfl : cyI = cA_12 := (ki_cA hK 0 1 rfl rfl).symm
  have hK : va_K (dC, dI) vwCl [(cyI, .int)] s := hK.sub [0] rfl
  refine W.widen (k := 6) (n := 5020) (Nat.le_of_ble_eq_true rfl) (Nat.le_of_ble_eq_true rfl) ?_
  obtain ⟨hP, hD⟩ := kx_re (w2 := [(h0, .inr (5, [.ref q_1, .int 0, .int 2, .int 0, .ref q_3, .ref q_5, .ref q_7, .ref q_9, .null, .null, .null, .int 0, .null, .null, .int 0, .null, .int 0, .null, .null, .null, .null, .null, .int 0, .null, .null, .int 0, .null, .null, .null, .int 0])), kx_a q_1 cyI 160 (fun _ => 0), kx_a q_3 cyI 324 (fun _ => 0), kx_a q_5 cyI 324 (fun _ => 0), kx_a q_7 cyI 324 (fun _ => 0), kx_a q_9 cyI 1944 (fun _ => 0), kx_a q_11 cyI 1944 (fun _ => 0)]) hP hD rfl
  refine va_putF (D := (dC, dI)) (ci := 5) (v := .ref q_11) (ty := .array .int) (C := RX5) (T := TX5) (N := 30) hx hb hts hi_5 tyX5 tyX5_ok nmX5 hown hK hP hD hS 0 rfl rfl 8 (by decide) hf_29 (fun _ h9 => h9) rfl hin rfl (by decide +kernel) rfl rfl (Nat.le_of_ble_eq_true rfl) dX5_init_60 (fun H locs hP hD hS => ?_)
  obtain ⟨hP, hD⟩ := kx_re (w2 := [(h0, .inr (5, [.ref q_1, .int 0, .int 2, .int 0, .ref q_3, .ref q_5, .ref q_7, .ref q_9, .ref q_11, .null, .null, .int 0, .null, .null, .int 0, .null, .int 0, .null, .null, .null, .null, .null, .int 0, .null, .null, .int 0, .null, .null, .null, .int 0])), kx_a q_1 cyI 160 (fun _ => 0), kx_a q_3 cyI 324 (fun _ => 0), kx_a q_5 cyI 324 (fun _ => 0), kx_a q_7 cyI 324 (fun _ => 0), kx_a q_9 cyI 1944 (fun _ => 0), kx_a q_11 cyI 1944 (fun _ => 0)]) hP hD rfl
  refine lv_aload_n hx hb dX5_init_63 rfl (lv_at hl 0 rfl) ?_
  refine lv_bipush (v := 12) hx hb dX5_init_64 (by decide) ?_
  refine va_newa (atype := .int) (a0 := (12, .inl (fun _ => 0))) hx hb ha_int rfl hK hP hD hS hA (N' := 12) (fun cA => ki_zi cA 12) (by decide) (by decide) (Nat.le_of_ble_eq_true rfl) (Nat.le_of_ble_eq_true rfl) (Nat.le_of_ble_eq_true rfl) dX5_init_66 (fun q_13 cA_14 H hK hP hD hS => ?_)
  obtain rfl : cyI = cA_14 := (ki_cA hK 0 1 rfl rfl).symm
  have hK : va_K (dC, dI) vwCl [(cyI, .int)] s := hK.sub [0] rfl
  refine W.widen (k := 7) (n := 5032) (Nat.le_of_ble_eq_true rfl) (Nat.le_of_ble_eq_true rfl) ?_
  obtain ⟨hP, hD⟩ := kx_re (w2 := [(h0, .inr (5, [.ref q_1, .int 0, .int 2, .int 0, .ref q_3, .ref q_5, .ref q_7, .ref q_9, .ref q_11, .null, .null, .int 0, .null, .null, .int 0, .null, .int 0, .null, .null, .null, .null, .null, .int 0, .null, .null, .int 0, .null, .null, .null, .int 0])), kx_a q_1 cyI 160 (fun _ => 0), kx_a q_3 cyI 324 (fun _ => 0), kx_a q_5 cyI 324 (fun _ => 0), kx_a q_7 cyI 324 (fun _ => 0), kx_a q_9 cyI 1944 (fun _ => 0), kx_a q_11 cyI 1944 (fun _ => 0), kx_a q_13 cyI 12 (fun _ => 0)]) hP hD rfl
  refine va_putF (D := (dC, dI)) (ci := 5) (v := .ref q_13) (ty := .array .int) (C := RX5) (T := TX5) (N := 30) hx hb hts hi_5 tyX5 tyX5_ok nmX5 hown hK hP hD hS 0 rfl rfl 9 (by decide) hf_32 (fun _ h9 => h9) rfl hin rfl (by decide +kernel) rfl rfl (Nat.le_of_ble_eq_true rfl) dX5_init_68 (fun H locs hP hD hS => ?_)
  obtain ⟨hP, hD⟩ := kx_re (w2 := [(h0, .inr (5, [.ref q_1, .int 0, .int 2, .int 0, .ref q_3, .ref q_5, .ref q_7, .ref q_9, .ref q_11, .ref q_13, .null, .int 0, .null, .null, .int 0, .null, .int 0, .null, .null, .null, .null, .null, .int 0, .null, .null, .int 0, .null, .null, .null, .int 0])), kx_a q_1 cyI 160 (fun _ => 0), kx_a q_3 cyI 324 (fun _ => 0), kx_a q_5 cyI 324 (fun _ => 0), kx_a q_7 cyI 324 (fun _ => 0), kx_a q_9 cyI 1944 (fun _ => 0), kx_a q_11 cyI 1944 (fun _ => 0), kx_a q_13 cyI 12 (fun _ => 0)]) hP hD rfl
  refine lv_aload_n hx hb dX5_init_71 rfl (lv_at hl 0 rfl) ?_
  refine lv_bipush (v := 12) hx hb dX5_init_72 (by decide) ?_
  refine va_newa (atype := .int) (a0 := (12, .inl (fun _ => 0))) hx hb ha_int rfl hK hP hD hS hA (N' := 12) (fun cA => ki_zi cA 12) (by decide) (by decide) (Nat.le_of_ble_eq_true rfl) (Nat.le_of_ble_eq_true rfl) (Nat.le_of_ble_eq_true rfl) dX5_init_74 (fun q_15 cA_16 H hK hP hD hS => ?_)
  obtain rfl : cyI = cA_16 := (ki_cA hK 0 1 rfl rfl).symm
  have hK : va_K (dC, dI) vwCl [(cyI, .int)] s := hK.sub [0] rfl
  refine W.widen (k := 8) (n := 5044) (Nat.le_of_ble_eq_true rfl) (Nat.le_of_ble_eq_true rfl) ?_
  obtain ⟨hP, hD⟩ := kx_re (w2 := [(h0, .inr (5, [.ref q_1, .int 0, .int 2, .int 0, .ref q_3, .ref q_5, .ref q_7, .ref q_9, .ref q_11, .ref q_13, .null, .int 0, .null, .null, .int 0, .null, .int 0, .null, .null, .null, .null, .null, .int 0, .null, .null, .int 0, .null, .null, .null, .int 0])), kx_a q_1 cyI 160 (fun _ => 0), kx_a q_3 cyI 324 (fun _ => 0), kx_a q_5 cyI 324 (fun _ => 0), kx_a q_7 cyI 324 (fun _ => 0), kx_a q_9 cyI 1944 (fun _ => 0), kx_a q_11 cyI 1944 (fun _ => 0), kx_a q_13 cyI 12 (fun _ => 0), kx_a q_15 cyI 12 (fun _ => 0)]) hP hD rfl
  refine va_putF (D := (dC, dI)) (ci := 5) (v := .ref q_15) (ty := .array .int) (C := RX5) (T := TX5) (N := 30) hx hb hts hi_5 tyX5 tyX5_ok nmX5 hown hK hP hD hS 0 rfl rfl 10 (by decide) hf_35 (fun _ h9 => h9) rfl hin rfl (by decide +kernel) rfl rfl (Nat.le_of_ble_eq_true rfl) dX5_init_76 (fun H locs hP hD hS => ?_)
  obtain ⟨hP, hD⟩ := kx_re (w2 := [(h0, .inr (5, [.ref q_1, .int 0, .int 2, .int 0, .ref q_3, .ref q_5, .ref q_7, .ref q_9, .ref q_11, .ref q_13, .ref q_15, .int 0, .null, .null, .int 0, .null, .int 0, .null, .null, .null, .null, .null, .int 0, .null, .null, .int 0, .null, .null, .null, .int 0])), kx_a q_1 cyI 160 (fun _ => 0), kx_a q_3 cyI 324 (fun _ => 0), kx_a q_5 cyI 324 (fun _ => 0), kx_a q_7 cyI 324 (fun _ => 0), kx_a q_9 cyI 1944 (fun _ => 0), kx_a q_11 cyI 1944 (fun _ => 0), kx_a q_13 cyI 12 (fun _ => 0), kx_a q_15 cyI 12 (fun _ => 0)]) hP hD rfl
  refine lv_aload_n hx hb dX5_init_79 rfl (lv_at hl 0 rfl) ?_
  refine lv_sipush (v := 320) hx hb dX5_init_80 (by decide) ?_
  refine va_newa (atype := .int) (a0 := (320, .inl (fun _ => 0))) hx hb ha_int rfl hK hP hD hS hA (N' := 320) (fun cA => ki_zi cA 320) (by decide) (by decide) (Nat.le_of_ble_eq_true rfl) (Nat.le_of_ble_eq_true rfl) (Nat.le_of_ble_eq_true rfl) dX5_init_83 (fun q_17 cA_18 H hK hP hD hS => ?_)
  obtain rfl : cyI = cA_18 := (ki_cA hK 0 1 rfl rfl).symm
  have hK : va_K (dC, dI) vwCl [(cyI, .int)] s := hK.sub [0] rfl
  refine W.widen (k := 9) (n := 5364) (Nat.le_of_ble_eq_true rfl) (Nat.le_of_ble_eq_true rfl) ?_
  obtain ⟨hP, hD⟩ := kx_re (w2 := [(h0, .inr (5, [.ref q_1, .int 0, .int 2, .int 0, .ref q_3, .ref q_5, .ref q_7, .ref q_9, .ref q_11, .ref q_13, .ref q_15, .int 0, .null, .null, .int 0, .null, .int 0, .null, .null, .null, .null, .null, .int 0, .null, .null, .int 0, .null, .null, .null, .int 0])), kx_a q_1 cyI 160 (fun _ => 0), kx_a q_3 cyI 324 (fun _ => 0), kx_a q_5 cyI 324 (fun _ => 0), kx_a q_7 cyI 324 (fun _ => 0), kx_a q_9 cyI 1944 (fun _ => 0), kx_a q_11 cyI 1944 (fun _ => 0), kx_a q_13 cyI 12 (fun _ => 0), kx_a q_15 cyI 12 (fun _ => 0), kx_a q_17 cyI 320 (fun _ => 0)]) hP hD rfl
  refine va_putF (D := (dC, dI)) (ci := 5) (v := .ref q_17) (ty := .array .int) (C := RX5) (T := TX5) (N := 30) hx hb hts hi_5 tyX5 tyX5_ok nmX5 hown hK hP hD hS 0 rfl rfl 12 (by decide) hf_38 (fun _ h9 => h9) rfl hin rfl (by decide +kernel) rfl rfl (Nat.le_of_ble_eq_true rfl) dX5_init_85 (fun H locs hP hD hS => ?_)
  obtain ⟨hP, hD⟩ := kx_re (w2 := [(h0, .inr (5, [.ref q_1, .int 0, .int 2, .int 0, .ref q_3, .ref q_5, .ref q_7, .ref q_9, .ref q_11, .ref q_13, .ref q_15, .int 0, .ref q_17, .null, .int 0, .null, .int 0, .null, .null, .null, .null, .null, .int 0, .null, .null, .int 0, .null, .null, .null, .int 0])), kx_a q_1 cyI 160 (fun _ => 0), kx_a q_3 cyI 324 (fun _ => 0), kx_a q_5 cyI 324 (fun _ => 0), kx_a q_7 cyI 324 (fun _ => 0), kx_a q_9 cyI 1944 (fun _ => 0), kx_a q_11 cyI 1944 (fun _ => 0), kx_a q_13 cyI 12 (fun _ => 0), kx_a q_15 cyI 12 (fun _ => 0), kx_a q_17 cyI 320 (fun _ => 0)]) hP hD rfl
  refine lv_aload_n hx hb dX5_init_88 rfl (lv_at hl 0 rfl) ?_
  refine lv_sipush (v := 320) hx hb dX5_init_89 (by decide) ?_
  refine va_newa (atype := .int) (a0 := (320, .inl (fun _ => 0))) hx hb ha_int rfl hK hP hD hS hA (N' := 320) (fun cA => ki_zi cA 320) (by decide) (by decide) (Nat.le_of_ble_eq_true rfl) (Nat.le_of_ble_eq_true rfl) (Nat.le_of_ble_eq_true rfl) dX5_init_92 (fun q_19 cA_20 H hK hP hD hS => ?_)
  obtain rfl : cyI = cA_20 := (ki_cA hK 0 1 rfl rfl).symm
  have hK : va_K (dC, dI) vwCl [(cyI, .int)] s := hK.sub [0] rfl
  refine W.widen (k := 10) (n := 5684) (Nat.le_of_ble_eq_true rfl) (Nat.le_of_ble_eq_true rfl) ?_
  obtain ⟨hP, hD⟩ := kx_re (w2 := [(h0, .inr (5, [.ref q_1, .int 0, .int 2, .int 0, .ref q_3, .ref q_5, .ref q_7, .ref q_9, .ref q_11, .ref q_13, .ref q_15, .int 0, .ref q_17, .null, .int 0, .null, .int 0, .null, .null, .null, .null, .null, .int 0, .null, .null, .int 0, .null, .null, .null, .int 0])), kx_a q_1 cyI 160 (fun _ => 0), kx_a q_3 cyI 324 (fun _ => 0), kx_a q_5 cyI 324 (fun _ => 0), kx_a q_7 cyI 324 (fun _ => 0), kx_a q_9 cyI 1944 (fun _ => 0), kx_a q_11 cyI 1944 (fun _ => 0), kx_a q_13 cyI 12 (fun _ => 0), kx_a q_15 cyI 12 (fun _ => 0), kx_a q_17 cyI 320 (fun _ => 0), kx_a q_19 cyI 320 (fun _ => 0)]) hP hD rfl
  refine va_putF (D := (dC, dI)) (ci := 5) (v := .ref q_19) (ty := .array .int) (C := RX5) (T := TX5) (N := 30) hx hb hts hi_5 tyX5 tyX5_ok nmX5 hown hK hP hD hS 0 rfl rfl 13 (by decide) hf_41 (fun _ h9 => h9) rfl hin rfl (by decide +kernel) rfl rfl (Nat.le_of_ble_eq_true rfl) dX5_init_94 (fun H locs hP hD hS => ?_)
  obtain ⟨hP, hD⟩ := kx_re (w2 := [(h0, .inr (5, [.ref q_1, .int 0, .int 2, .int 0, .ref q_3, .ref q_5, .ref q_7, .ref q_9, .ref q_11, .ref q_13, .ref q_15, .int 0, .ref q_17, .ref q_19, .int 0, .null, .int 0, .null, .null, .null, .null, .null, .int 0, .null, .null, .int 0, .null, .null, .null, .int 0])), kx_a q_1 cyI 160 (fun _ => 0), kx_a q_3 cyI 324 (fun _ => 0), kx_a q_5 cyI 324 (fun _ => 0), kx_a q_7 cyI 324 (fun _ => 0), kx_a q_9 cyI 1944 (fun _ => 0), kx_a q_11 cyI 1944 (fun _ => 0), kx_a q_13 cyI 12 (fun _ => 0), kx_a q_15 cyI 12 (fun _ => 0), kx_a q_17 cyI 320 (fun _ => 0), kx_a q_19 cyI 320 (fun _ => 0)]) hP hD rfl
  refine lv_aload_n hx hb dX5_init_97 rfl (lv_at hl 0 rfl) ?_
  refine lv_sipush (v := 320) hx hb dX5_init_98 (by decide) ?_
  refine va_newa (atype := .int) (a0 := (320, .inl (fun _ => 0))) hx hb ha_int rfl hK hP hD hS hA (N' := 320) (fun cA => ki_zi cA 320) (by decide) (by decide) (Nat.le_of_ble_eq_true rfl) (Nat.le_of_ble_eq_true rfl) (Nat.le_of_ble_eq_true rfl) dX5_init_101 (fun q_21 cA_22 H hK hP hD hS => ?_)
  obtain rfl : cyI = cA_22 := (ki_cA hK 0 1 rfl rfl).symm
  have hK : va_K (dC, dI) vwCl [(cyI, .int)] s := hK.sub [0] rfl
  refine W.widen (k := 11) (n := 6004) (Nat.le_of_ble_eq_true rfl) (Nat.le_of_ble_eq_true rfl) ?_
  obtain ⟨hP, hD⟩ := kx_re (w2 := [(h0, .inr (5, [.ref q_1, .int 0, .int 2, .int 0, .ref q_3, .ref q_5, .ref q_7, .ref q_9, .ref q_11, .ref q_13, .ref q_15, .int 0, .ref q_17, .ref q_19, .int 0, .null, .int 0, .null, .null, .null, .null, .null, .int 0, .null, .null, .int 0, .null, .null, .null, .int 0])), kx_a q_1 cyI 160 (fun _ => 0), kx_a q_3 cyI 324 (fun _ => 0), kx_a q_5 cyI 324 (fun _ => 0), kx_a q_7 cyI 324 (fun _ => 0), kx_a q_9 cyI 1944 (fun _ => 0), kx_a q_11 cyI 1944 (fun _ => 0), kx_a q_13 cyI 12 (fun _ => 0), kx_a q_15 cyI 12 (fun _ => 0), kx_a q_17 cyI 320 (fun _ => 0), kx_a q_19 cyI 320 (fun _ => 0), kx_a q_21 cyI 320 (fun _ => 0)]) hP hD rfl
  refine va_putF (D := (dC, dI)) (ci := 5) (v := .ref q_21) (ty := .array .int) (C := RX5) (T := TX5) (N := 30) hx hb hts hi_5 tyX5 tyX5_ok nmX5 hown hK hP hD hS 0 rfl rfl 15 (by decide) hf_44 (fun _ h9 => h9) rfl hin rfl (by decide +kernel) rfl rfl (Nat.le_of_ble_eq_true rfl) dX5_init_103 (fun H locs hP hD hS => ?_)
  obtain ⟨hP, hD⟩ := kx_re (w2 := [(h0, .inr (5, [.ref q_1, .int 0, .int 2, .int 0, .ref q_3, .ref q_5, .ref q_7, .ref q_9, .ref q_11, .ref q_13, .ref q_15, .int 0, .ref q_17, .ref q_19, .int 0, .ref q_21, .int 0, .null, .null, .null, .null, .null, .int 0, .null, .null, .int 0, .null, .null, .null, .int 0])), kx_a q_1 cyI 160 (fun _ => 0), kx_a q_3 cyI 324 (fun _ => 0), kx_a q_5 cyI 324 (fun _ => 0), kx_a q_7 cyI 324 (fun _ => 0), kx_a q_9 cyI 1944 (fun _ => 0), kx_a q_11 cyI 1944 (fun _ => 0), kx_a q_13 cyI 12 (fun _ => 0), kx_a q_15 cyI 12 (fun _ => 0), kx_a q_17 cyI 320 (fun _ => 0), kx_a q_19 cyI 320 (fun _ => 0), kx_a q_21 cyI 320 (fun _ => 0)]) hP hD rfl
  refine lv_aload_n hx hb dX5_init_106 rfl (lv_at hl 0 rfl) ?_
  refine lv_sipush (v := 320) hx hb dX5_init_107 (by decide) ?_
  refine va_newa (atype := .int) (a0 := (320, .inl (fun _ => 0))) hx hb ha_int rfl hK hP hD hS hA (N' := 320) (fun cA => ki_zi cA 320) (by decide) (by decide) (Nat.le_of_ble_eq_true rfl) (Nat.le_of_ble_eq_true rfl) (Nat.le_of_ble_eq_true rfl) dX5_init_110 (fun q_23 cA_24 H hK hP hD hS => ?_)
  obtain rfl : cyI = cA_24 := (ki_cA hK 0 1 rfl rfl).symm
  have hK : va_K (dC, dI) vwCl [(cyI, .int)] s := hK.sub [0] rfl
  refine W.widen (k := 12) (n := 6324) (Nat.le_of_ble_eq_true rfl) (Nat.le_of_ble_eq_true rfl) ?_
  obtain ⟨hP, hD⟩ := kx_re (w2 := [(h0, .inr (5, [.ref q_1, .int 0, .int 2, .int 0, .ref q_3, .ref q_5, .ref q_7, .ref q_9, .ref q_11, .ref q_13, .ref q_15, .int 0, .ref q_17, .ref q_19, .int 0, .ref q_21, .int 0, .null, .null, .null, .null, .null, .int 0, .null, .null, .int 0, .null, .null, .null, .int 0])), kx_a q_1 cyI 160 (fun _ => 0), kx_a q_3 cyI 324 (fun _ => 0), kx_a q_5 cyI 324 (fun _ => 0), kx_a q_7 cyI 324 (fun _ => 0), kx_a q_9 cyI 1944 (fun _ => 0), kx_a q_11 cyI 1944 (fun _ => 0), kx_a q_13 cyI 12 (fun _ => 0), kx_a q_15 cyI 12 (fun _ => 0), kx_a q_17 cyI 320 (fun _ => 0), kx_a q_19 cyI 320 (fun _ => 0), kx_a q_21 cyI 320 (fun _ => 0), kx_a q_23 cyI 320 (fun _ => 0)]) hP hD rfl
  refine va_putF (D := (dC, dI)) (ci := 5) (v := .ref q_23) (ty := .array .int) (C := RX5) (T := TX5) (N := 30) hx hb hts hi_5 tyX5 tyX5_ok nmX5 hown hK hP hD hS 0 rfl rfl 17 (by decide) hf_47 (fun _ h9 => h9) rfl hin rfl (by decide +kernel) rfl rfl (Nat.le_of_ble_eq_true rfl) dX5_init_112 (fun H locs hP hD hS => ?_)
  obtain ⟨hP, hD⟩ := kx_re (w2 := [(h0, .inr (5, [.ref q_1, .int 0, .int 2, .int 0, .ref q_3, .ref q_5, .ref q_7, .ref q_9, .ref q_11, .ref q_13, .ref q_15, .int 0, .ref q_17, .ref q_19, .int 0, .ref q_21, .int 0, .ref q_23, .null, .null, .null, .null, .int 0, .null, .null, .int 0, .null, .null, .null, .int 0])), kx_a q_1 cyI 160 (fun _ => 0), kx_a q_3 cyI 324 (fun _ => 0), kx_a q_5 cyI 324 (fun _ => 0), kx_a q_7 cyI 324 (fun _ => 0), kx_a q_9 cyI 1944 (fun _ => 0), kx_a q_11 cyI 1944 (fun _ => 0), kx_a q_13 cyI 12 (fun _ => 0), kx_a q_15 cyI 12 (fun _ => 0), kx_a q_17 cyI 320 (fun _ => 0), kx_a q_19 cyI 320 (fun _ => 0), kx_a q_21 cyI 320 (fun _ => 0), kx_a q_23 cyI 320 (fun _ => 0)]) hP hD rfl
  refine lv_aload_n hx hb dX5_init_115 rfl (lv_at hl 0 rfl) ?_
  refine lv_sipush (v := 320) hx hb dX5_init_116 (by decide) ?_
  refine va_newa (atype := .int) (a0 := (320, .inl (fun _ => 0))) hx hb ha_int rfl hK hP hD hS hA (N' := 320) (fun cA => ki_zi cA 320) (by decide) (by decide) (Nat.le_of_ble_eq_true rfl) (Nat.le_of_ble_eq_true rfl) (Nat.le_of_ble_eq_true rfl) dX5_init_119 (fun q_25 cA_26 H hK hP hD hS => ?_)
  obtain rfl : cyI = cA_26 := (ki_cA hK 0 1 rfl rfl).symm
  have hK : va_K (dC, dI) vwCl [(cyI, .int)] s := hK.sub [0] rfl
  refine W.widen (k := 13) (n := 6644) (Nat.le_of_ble_eq_true rfl) (Nat.le_of_ble_eq_true rfl) ?_
  obtain ⟨hP, hD⟩ := kx_re (w2 := [(h0, .inr (5, [.ref q_1, .int 0, .int 2, .int 0, .ref q_3, .ref q_5, .ref q_7, .ref q_9, .ref q_11, .ref q_13, .ref q_15, .int 0, .ref q_17, .ref q_19, .int 0, .ref q_21, .int 0, .ref q_23, .null, .null, .null, .null, .int 0, .null, .null, .int 0, .null, .null, .null, .int 0])), kx_a q_1 cyI 160 (fun _ => 0), kx_a q_3 cyI 324 (fun _ => 0), kx_a q_5 cyI 324 (fun _ => 0), kx_a q_7 cyI 324 (fun _ => 0), kx_a q_9 cyI 1944 (fun _ => 0), kx_a q_11 cyI 1944 (fun _ => 0), kx_a q_13 cyI 12 (fun _ => 0), kx_a q_15 cyI 12 (fun _ => 0), kx_a q_17 cyI 320 (fun _ => 0), kx_a q_19 cyI 320 (fun _ => 0), kx_a q_21 cyI 320 (fun _ => 0), kx_a q_23 cyI 320 (fun _ => 0), kx_a q_25 cyI 320 (fun _ => 0)]) hP hD rfl
  refine va_putF (D := (dC, dI)) (ci := 5) (v := .ref q_25) (ty := .array .int) (C := RX5) (T := TX5) (N := 30) hx hb hts hi_5 tyX5 tyX5_ok nmX5 hown hK hP hD hS 0 rfl rfl 18 (by decide) hf_50 (fun _ h9 => h9) rfl hin rfl (by decide +kernel) rfl rfl (Nat.le_of_ble_eq_true rfl) dX5_init_121 (fun H locs hP hD hS => ?_)
  obtain ⟨hP, hD⟩ := kx_re (w2 := [(h0, .inr (5, [.ref q_1, .int 0, .int 2, .int 0, .ref q_3, .ref q_5, .ref q_7, .ref q_9, .ref q_11, .ref q_13, .ref q_15, .int 0, .ref q_17, .ref q_19, .int 0, .ref q_21, .int 0, .ref q_23, .ref q_25, .null, .null, .null, .int 0, .null, .null, .int 0, .null, .null, .null, .int 0])), kx_a q_1 cyI 160 (fun _ => 0), kx_a q_3 cyI 324 (fun _ => 0), kx_a q_5 cyI 324 (fun _ => 0), kx_a q_7 cyI 324 (fun _ => 0), kx_a q_9 cyI 1944 (fun _ => 0), kx_a q_11 cyI 1944 (fun _ => 0), kx_a q_13 cyI 12 (fun _ => 0), kx_a q_15 cyI 12 (fun _ => 0), kx_a q_17 cyI 320 (fun _ => 0), kx_a q_19 cyI 320 (fun _ => 0), kx_a q_21 cyI 320 (fun _ => 0), kx_a q_23 cyI 320 (fun _ => 0), kx_a q_25 cyI 320 (fun _ => 0)]) hP hD rfl
  refine lv_aload_n hx hb dX5_init_124 rfl (lv_at hl 0 rfl) ?_
  refine lv_sipush (v := 1920) hx hb dX5_init_125 (by decide) ?_
  refine va_newa (atype := .int) (a0 := (1920, .inl (fun _ => 0))) hx hb ha_int rfl hK hP hD hS hA (N' := 1920) (fun cA => ki_zi cA 1920) (by decide) (by decide) (Nat.le_of_ble_eq_true rfl) (Nat.le_of_ble_eq_true rfl) (Nat.le_of_ble_eq_true rfl) dX5_init_128 (fun q_27 cA_28 H hK hP hD hS => ?_)
  obtain rfl : cyI = cA_28 := (ki_cA hK 0 1 rfl rfl).symm
  have hK : va_K (dC, dI) vwCl [(cyI, .int)] s := hK.sub [0] rfl
  refine W.widen (k := 14) (n := 8564) (Nat.le_of_ble_eq_true rfl) (Nat.le_of_ble_eq_true rfl) ?_
  obtain ⟨hP, hD⟩ := kx_re (w2 := [(h0, .inr (5, [.ref q_1, .int 0, .int 2, .int 0, .ref q_3, .ref q_5, .ref q_7, .ref q_9, .ref q_11, .ref q_13, .ref q_15, .int 0, .ref q_17, .ref q_19, .int 0, .ref q_21, .int 0, .ref q_23, .ref q_25, .null, .null, .null, .int 0, .null, .null, .int 0, .null, .null, .null, .int 0])), kx_a q_1 cyI 160 (fun _ => 0), kx_a q_3 cyI 324 (fun _ => 0), kx_a q_5 cyI 324 (fun _ => 0), kx_a q_7 cyI 324 (fun _ => 0), kx_a q_9 cyI 1944 (fun _ => 0), kx_a q_11 cyI 1944 (fun _ => 0), kx_a q_13 cyI 12 (fun _ => 0), kx_a q_15 cyI 12 (fun _ => 0), kx_a q_17 cyI 320 (fun _ => 0), kx_a q_19 cyI 320 (fun _ => 0), kx_a q_21 cyI 320 (fun _ => 0), kx_a q_23 cyI 320 (fun _ => 0), kx_a q_25 cyI 320 (fun _ => 0), kx_a q_27 cyI 1920 (fun _ => 0)]) hP hD rfl
  refine va_putF (D := (dC, dI)) (ci := 5) (v := .ref q_27) (ty := .array .int) (C := RX5) (T := TX5) (N := 30) hx hb hts hi_5 tyX5 tyX5_ok nmX5 hown hK hP hD hS 0 rfl rfl 19 (by decide) hf_53 (fun _ h9 => h9) rfl hin rfl (by decide +kernel) rfl rfl (Nat.le_of_ble_eq_true rfl) dX5_init_130 (fun H locs hP hD hS => ?_)
  obtain ⟨hP, hD⟩ := kx_re (w2 := [(h0, .inr (5, [.ref q_1, .int 0, .int 2, .int 0, .ref q_3, .ref q_5, .ref q_7, .ref q_9, .ref q_11, .ref q_13, .ref q_15, .int 0, .ref q_17, .ref q_19, .int 0, .ref q_21, .int 0, .ref q_23, .ref q_25, .ref q_27, .null, .null, .int 0, .null, .null, .int 0, .null, .null, .null, .int 0])), kx_a q_1 cyI 160 (fun _ => 0), kx_a q_3 cyI 324 (fun _ => 0), kx_a q_5 cyI 324 (fun _ => 0), kx_a q_7 cyI 324 (fun _ => 0), kx_a q_9 cyI 1944 (fun _ => 0), kx_a q_11 cyI 1944 (fun _ => 0), kx_a q_13 cyI 12 (fun _ => 0), kx_a q_15 cyI 12 (fun _ => 0), kx_a q_17 cyI 320 (fun _ => 0), kx_a q_19 cyI 320 (fun _ => 0), kx_a q_21 cyI 320 (fun _ => 0), kx_a q_23 cyI 320 (fun _ => 0), kx_a q_25 cyI 320 (fun _ => 0), kx_a q_27 cyI 1920 (fun _ => 0)]) hP hD rfl
  refine lv_aload_n hx hb dX5_init_133 rfl (lv_at hl 0 rfl) ?_
  refine lv_sipush (v := 1920) hx hb dX5_init_134 (by decide) ?_
  refine va_newa (atype := .int) (a0 := (1920, .inl (fun _ => 0))) hx hb ha_int rfl hK hP hD hS hA (N' := 1920) (fun cA => ki_zi cA 1920) (by decide) (by decide) (Nat.le_of_ble_eq_true rfl) (Nat.le_of_ble_eq_true rfl) (Nat.le_of_ble_eq_true rfl) dX5_init_137 (fun q_29 cA_30 H hK hP hD hS => ?_)
  obtain rfl : cyI = cA_30 := (ki_cA hK 0 1 rfl rfl).symm
  have hK : va_K (dC, dI) vwCl [(cyI, .int)] s := hK.sub [0] rfl
  refine W.widen (k := 15) (n := 10484) (Nat.le_of_ble_eq_true rfl) (Nat.le_of_ble_eq_true rfl) ?_
  obtain ⟨hP, hD⟩ := kx_re (w2 := [(h0, .inr (5, [.ref q_1, .int 0, .int 2, .int 0, .ref q_3, .ref q_5, .ref q_7, .ref q_9, .ref q_11, .ref q_13, .ref q_15, .int 0, .ref q_17, .ref q_19, .int 0, .ref q_21, .int 0, .ref q_23, .ref q_25, .ref q_27, .null, .null, .int 0, .null, .null, .int 0, .null, .null, .null, .int 0])), kx_a q_1 cyI 160 (fun _ => 0), kx_a q_3 cyI 324 (fun _ => 0), kx_a q_5 cyI 324 (fun _ => 0), kx_a q_7 cyI 324 (fun _ => 0), kx_a q_9 cyI 1944 (fun _ => 0), kx_a q_11 cyI 1944 (fun _ => 0), kx_a q_13 cyI 12 (fun _ => 0), kx_a q_15 cyI 12 (fun _ => 0), kx_a q_17 cyI 320 (fun _ => 0), kx_a q_19 cyI 320 (fun _ => 0), kx_a q_21 cyI 320 (fun _ => 0), kx_a q_23 cyI 320 (fun _ => 0), kx_a q_25 cyI 320 (fun _ => 0), kx_a q_27 cyI 1920 (fun _ => 0), kx_a q_29 cyI 1920 (fun _ => 0)]) hP hD rfl
  refine va_putF (D := (dC, dI)) (ci := 5) (v := .ref q_29) (ty := .array .int) (C := RX5) (T := TX5) (N := 30) hx hb hts hi_5 tyX5 tyX5_ok nmX5 hown hK hP hD hS 0 rfl rfl 20 (by decide) hf_56 (fun _ h9 => h9) rfl hin rfl (by decide +kernel) rfl rfl (Nat.le_of_ble_eq_true rfl) dX5_init_139 (fun H locs hP hD hS => ?_)
  obtain ⟨hP, hD⟩ := kx_re (w2 := [(h0, .inr (5, [.ref q_1, .int 0, .int 2, .int 0, .ref q_3, .ref q_5, .ref q_7, .ref q_9, .ref q_11, .ref q_13, .ref q_15, .int 0, .ref q_17, .ref q_19, .int 0, .ref q_21, .int 0, .ref q_23, .ref q_25, .ref q_27, .ref q_29, .null, .int 0, .null, .null, .int 0, .null, .null, .null, .int 0])), kx_a q_1 cyI 160 (fun _ => 0), kx_a q_3 cyI 324 (fun _ => 0), kx_a q_5 cyI 324 (fun _ => 0), kx_a q_7 cyI 324 (fun _ => 0), kx_a q_9 cyI 1944 (fun _ => 0), kx_a q_11 cyI 1944 (fun _ => 0), kx_a q_13 cyI 12 (fun _ => 0), kx_a q_15 cyI 12 (fun _ => 0), kx_a q_17 cyI 320 (fun _ => 0), kx_a q_19 cyI 320 (fun _ => 0), kx_a q_21 cyI 320 (fun _ => 0), kx_a q_23 cyI 320 (fun _ => 0), kx_a q_25 cyI 320 (fun _ => 0), kx_a q_27 cyI 1920 (fun _ => 0), kx_a q_29 cyI 1920 (fun _ => 0)]) hP hD rfl
  refine lv_aload_n hx hb dX5_init_142 rfl (lv_at hl 0 rfl) ?_
  refine lv_bipush (v := 12) hx hb dX5_init_143 (by decide) ?_
  refine va_newa (atype := .int) (a0 := (12, .inl (fun _ => 0))) hx hb ha_int rfl hK hP hD hS hA (N' := 12) (fun cA => ki_zi cA 12) (by decide) (by decide) (Nat.le_of_ble_eq_true rfl) (Nat.le_of_ble_eq_true rfl) (Nat.le_of_ble_eq_true rfl) dX5_init_145 (fun q_31 cA_32 H hK hP hD hS => ?_)
  obtain rfl : cyI = cA_32 := (ki_cA hK 0 1 rfl rfl).symm
  have hK : va_K (dC, dI) vwCl [(cyI, .int)] s := hK.sub [0] rfl
  refine W.widen (k := 16) (n := 10496) (Nat.le_of_ble_eq_true rfl) (Nat.le_of_ble_eq_true rfl) ?_
  obtain ⟨hP, hD⟩ := kx_re (w2 := [(h0, .inr (5, [.ref q_1, .int 0, .int 2, .int 0, .ref q_3, .ref q_5, .ref q_7, .ref q_9, .ref q_11, .ref q_13, .ref q_15, .int 0, .ref q_17, .ref q_19, .int 0, .ref q_21, .int 0, .ref q_23, .ref q_25, .ref q_27, .ref q_29, .null, .int 0, .null, .null, .int 0, .null, .null, .null, .int 0])), kx_a q_1 cyI 160 (fun _ => 0), kx_a q_3 cyI 324 (fun _ => 0), kx_a q_5 cyI 324 (fun _ => 0), kx_a q_7 cyI 324 (fun _ => 0), kx_a q_9 cyI 1944 (fun _ => 0), kx_a q_11 cyI 1944 (fun _ => 0), kx_a q_13 cyI 12 (fun _ => 0), kx_a q_15 cyI 12 (fun _ => 0), kx_a q_17 cyI 320 (fun _ => 0), kx_a q_19 cyI 320 (fun _ => 0), kx_a q_21 cyI 320 (fun _ => 0), kx_a q_23 cyI 320 (fun _ => 0), kx_a q_25 cyI 320 (fun _ => 0), kx_a q_27 cyI 1920 (fun _ => 0), kx_a q_29 cyI 1920 (fun _ => 0), kx_a q_31 cyI 12 (fun _ => 0)]) hP hD rfl
  refine va_putF (D := (dC, dI)) (ci := 5) (v := .ref q_31) (ty := .array .int) (C := RX5) (T := TX5) (N := 30) hx hb hts hi_5 tyX5 tyX5_ok nmX5 hown hK hP hD hS 0 rfl rfl 21 (by decide) hf_59 (fun _ h9 => h9) rfl hin rfl (by decide +kernel) rfl rfl (Nat.le_of_ble_eq_true rfl) dX5_init_147 (fun H locs hP hD hS => ?_)
  obtain ⟨hP, hD⟩ := kx_re (w2 := [(h0, .inr (5, [.ref q_1, .int 0, .int 2, .int 0, .ref q_3, .ref q_5, .ref q_7, .ref q_9, .ref q_11, .ref q_13, .ref q_15, .int 0, .ref q_17, .ref q_19, .int 0, .ref q_21, .int 0, .ref q_23, .ref q_25, .ref q_27, .ref q_29, .ref q_31, .int 0, .null, .null, .int 0, .null, .null, .null, .int 0])), kx_a q_1 cyI 160 (fun _ => 0), kx_a q_3 cyI 324 (fun _ => 0), kx_a q_5 cyI 324 (fun _ => 0), kx_a q_7 cyI 324 (fun _ => 0), kx_a q_9 cyI 1944 (fun _ => 0), kx_a q_11 cyI 1944 (fun _ => 0), kx_a q_13 cyI 12 (fun _ => 0), kx_a q_15 cyI 12 (fun _ => 0), kx_a q_17 cyI 320 (fun _ => 0), kx_a q_19 cyI 320 (fun _ => 0), kx_a q_21 cyI 320 (fun _ => 0), kx_a q_23 cyI 320 (fun _ => 0), kx_a q_25 cyI 320 (fun _ => 0), kx_a q_27 cyI 1920 (fun _ => 0), kx_a q_29 cyI 1920 (fun _ => 0), kx_a q_31 cyI 12 (fun _ => 0)]) hP hD rfl
  refine lv_aload_n hx hb dX5_init_150 rfl (lv_at hl 0 rfl) ?_
  refine lv_sipush (v := 160) hx hb dX5_init_151 (by decide) ?_
  refine va_newa (atype := .int) (a0 := (160, .inl (fun _ => 0))) hx hb ha_int rfl hK hP hD hS hA (N' := 160) (fun cA => ki_zi cA 160) (by decide) (by decide) (Nat.le_of_ble_eq_true rfl) (Nat.le_of_ble_eq_true rfl) (Nat.le_of_ble_eq_true rfl) dX5_init_154 (fun q_33 cA_34 H hK hP hD hS => ?_)
  obtain rfl : cyI = cA_34 := (ki_cA hK 0 1 rfl rfl).symm
  have hK : va_K (dC, dI) vwCl [(cyI, .int)] s := hK.sub [0] rfl
  refine W.widen (k := 17) (n := 10656) (Nat.le_of_ble_eq_true rfl) (Nat.le_of_ble_eq_true rfl) ?_
  obtain ⟨hP, hD⟩ := kx_re (w2 := [(h0, .inr (5, [.ref q_1, .int 0, .int 2, .int 0, .ref q_3, .ref q_5, .ref q_7, .ref q_9, .ref q_11, .ref q_13, .ref q_15, .int 0, .ref q_17, .ref q_19, .int 0, .ref q_21, .int 0, .ref q_23, .ref q_25, .ref q_27, .ref q_29, .ref q_31, .int 0, .null, .null, .int 0, .null, .null, .null, .int 0])), kx_a q_1 cyI 160 (fun _ => 0), kx_a q_3 cyI 324 (fun _ => 0), kx_a q_5 cyI 324 (fun _ => 0), kx_a q_7 cyI 324 (fun _ => 0), kx_a q_9 cyI 1944 (fun _ => 0), kx_a q_11 cyI 1944 (fun _ => 0), kx_a q_13 cyI 12 (fun _ => 0), kx_a q_15 cyI 12 (fun _ => 0), kx_a q_17 cyI 320 (fun _ => 0), kx_a q_19 cyI 320 (fun _ => 0), kx_a q_21 cyI 320 (fun _ => 0), kx_a q_23 cyI 320 (fun _ => 0), kx_a q_25 cyI 320 (fun _ => 0), kx_a q_27 cyI 1920 (fun _ => 0), kx_a q_29 cyI 1920 (fun _ => 0), kx_a q_31 cyI 12 (fun _ => 0), kx_a q_33 cyI 160 (fun _ => 0)]) hP hD rfl
  refine va_putF (D := (dC, dI)) (ci := 5) (v := .ref q_33) (ty := .array .int) (C := RX5) (T := TX5) (N := 30) hx hb hts hi_5 tyX5 tyX5_ok nmX5 hown hK hP hD hS 0 rfl rfl 23 (by decide) hf_62 (fun _ h9 => h9) rfl hin rfl (by decide +kernel) rfl rfl (Nat.le_of_ble_eq_true rfl) dX5_init_156 (fun H locs hP hD hS => ?_)
  obtain ⟨hP, hD⟩ := kx_re (w2 := [(h0, .inr (5, [.ref q_1, .int 0, .int 2, .int 0, .ref q_3, .ref q_5, .ref q_7, .ref q_9, .ref q_11, .ref q_13, .ref q_15, .int 0, .ref q_17, .ref q_19, .int 0, .ref q_21, .int 0, .ref q_23, .ref q_25, .ref q_27, .ref q_29, .ref q_31, .int 0, .ref q_33, .null, .int 0, .null, .null, .null, .int 0])), kx_a q_1 cyI 160 (fun _ => 0), kx_a q_3 cyI 324 (fun _ => 0), kx_a q_5 cyI 324 (fun _ => 0), kx_a q_7 cyI 324 (fun _ => 0), kx_a q_9 cyI 1944 (fun _ => 0), kx_a q_11 cyI 1944 (fun _ => 0), kx_a q_13 cyI 12 (fun _ => 0), kx_a q_15 cyI 12 (fun _ => 0), kx_a q_17 cyI 320 (fun _ => 0), kx_a q_19 cyI 320 (fun _ => 0), kx_a q_21 cyI 320 (fun _ => 0), kx_a q_23 cyI 320 (fun _ => 0), kx_a q_25 cyI 320 (fun _ => 0), kx_a q_27 cyI 1920 (fun _ => 0), kx_a q_29 cyI 1920 (fun _ => 0), kx_a q_31 cyI 12 (fun _ => 0), kx_a q_33 cyI 160 (fun _ => 0)]) hP hD rfl
  refine lv_aload_n hx hb dX5_init_159 rfl (lv_at hl 0 rfl) ?_
  refine lv_sipush (v := 160) hx hb dX5_init_160 (by decide) ?_
  refine va_newa (atype := .int) (a0 := (160, .inl (fun _ => 0))) hx hb ha_int rfl hK hP hD hS hA (N' := 160) (fun cA => ki_zi cA 160) (by decide) (by decide) (Nat.le_of_ble_eq_true rfl) (Nat.le_of_ble_eq_true rfl) (Nat.le_of_ble_eq_true rfl) dX5_init_163 (fun q_35 cA_36 H hK hP hD hS => ?_)
  obtain rfl : cyI = cA_36 := (ki_cA hK 0 1 rfl rfl).symm
  have hK : va_K (dC, dI) vwCl [(cyI, .int)] s := hK.sub [0] rfl
  refine W.widen (k := 18) (n := 10816) (Nat.le_of_ble_eq_true rfl) (Nat.le_of_ble_eq_true rfl) ?_
  obtain ⟨hP, hD⟩ := kx_re (w2 := [(h0, .inr (5, [.ref q_1, .int 0, .int 2, .int 0, .ref q_3, .ref q_5, .ref q_7, .ref q_9, .ref q_11, .ref q_13, .ref q_15, .int 0, .ref q_17, .ref q_19, .int 0, .ref q_21, .int 0, .ref q_23, .ref q_25, .ref q_27, .ref q_29, .ref q_31, .int 0, .ref q_33, .null, .int 0, .null, .null, .null, .int 0])), kx_a q_1 cyI 160 (fun _ => 0), kx_a q_3 cyI 324 (fun _ => 0), kx_a q_5 cyI 324 (fun _ => 0), kx_a q_7 cyI 324 (fun _ => 0), kx_a q_9 cyI 1944 (fun _ => 0), kx_a q_11 cyI 1944 (fun _ => 0), kx_a q_13 cyI 12 (fun _ => 0), kx_a q_15 cyI 12 (fun _ => 0), kx_a q_17 cyI 320 (fun _ => 0), kx_a q_19 cyI 320 (fun _ => 0), kx_a q_21 cyI 320 (fun _ => 0), kx_a q_23 cyI 320 (fun _ => 0), kx_a q_25 cyI 320 (fun _ => 0), kx_a q_27 cyI 1920 (fun _ => 0), kx_a q_29 cyI 1920 (fun _ => 0), kx_a q_31 cyI 12 (fun _ => 0), kx_a q_33 cyI 160 (fun _ => 0), kx_a q_35 cyI 160 (fun _ => 0)]) hP hD rfl
  refine va_putF (D := (dC, dI)) (ci := 5) (v := .ref q_35) (ty := .array .int) (C := RX5) (T := TX5) (N := 30) hx hb hts hi_5 tyX5 tyX5_ok nmX5 hown hK hP hD hS 0 rfl rfl 24 (by decide) hf_65 (fun _ h9 => h9) rfl hin rfl (by decide +kernel) rfl rfl (Nat.le_of_ble_eq_true rfl) dX5_init_165 (fun H locs hP hD hS => ?_)
  obtain ⟨hP, hD⟩ := kx_re (w2 := [(h0, .inr (5, [.ref q_1, .int 0, .int 2, .int 0, .ref q_3, .ref q_5, .ref q_7, .ref q_9, .ref q_11, .ref q_13, .ref q_15, .int 0, .ref q_17, .ref q_19, .int 0, .ref q_21, .int 0, .ref q_23, .ref q_25, .ref q_27, .ref q_29, .ref q_31, .int 0, .ref q_33, .ref q_35, .int 0, .null, .null, .null, .int 0])), kx_a q_1 cyI 160 (fun _ => 0), kx_a q_3 cyI 324 (fun _ => 0), kx_a q_5 cyI 324 (fun _ => 0), kx_a q_7 cyI 324 (fun _ => 0), kx_a q_9 cyI 1944 (fun _ => 0), kx_a q_11 cyI 1944 (fun _ => 0), kx_a q_13 cyI 12 (fun _ => 0), kx_a q_15 cyI 12 (fun _ => 0), kx_a q_17 cyI 320 (fun _ => 0), kx_a q_19 cyI 320 (fun _ => 0), kx_a q_21 cyI 320 (fun _ => 0), kx_a q_23 cyI 320 (fun _ => 0), kx_a q_25 cyI 320 (fun _ => 0), kx_a q_27 cyI 1920 (fun _ => 0), kx_a q_29 cyI 1920 (fun _ => 0), kx_a q_31 cyI 12 (fun _ => 0), kx_a q_33 cyI 160 (fun _ => 0), kx_a q_35 cyI 160 (fun _ => 0)]) hP hD rfl
  refine lv_aload_n hx hb dX5_init_168 rfl (lv_at hl 0 rfl) ?_
  refine lv_sipush (v := 161) hx hb dX5_init_169 (by decide) ?_
  refine va_newa (atype := .int) (a0 := (161, .inl (fun _ => 0))) hx hb ha_int rfl hK hP hD hS hA (N' := 161) (fun cA => ki_zi cA 161) (by decide) (by decide) (Nat.le_of_ble_eq_true rfl) (Nat.le_of_ble_eq_true rfl) (Nat.le_of_ble_eq_true rfl) dX5_init_172 (fun q_37 cA_38 H hK hP hD hS => ?_)
  obtain rfl : cyI = cA_38 := (ki_cA hK 0 1 rfl rfl).symm
  have hK : va_K (dC, dI) vwCl [(cyI, .int)] s := hK.sub [0] rfl
  refine W.widen (k := 19) (n := 10977) (Nat.le_of_ble_eq_true rfl) (Nat.le_of_ble_eq_true rfl) ?_
  obtain ⟨hP, hD⟩ := kx_re (w2 := [(h0, .inr (5, [.ref q_1, .int 0, .int 2, .int 0, .ref q_3, .ref q_5, .ref q_7, .ref q_9, .ref q_11, .ref q_13, .ref q_15, .int 0, .ref q_17, .ref q_19, .int 0, .ref q_21, .int 0, .ref q_23, .ref q_25, .ref q_27, .ref q_29, .ref q_31, .int 0, .ref q_33, .ref q_35, .int 0, .null, .null, .null, .int 0])), kx_a q_1 cyI 160 (fun _ => 0), kx_a q_3 cyI 324 (fun _ => 0), kx_a q_5 cyI 324 (fun _ => 0), kx_a q_7 cyI 324 (fun _ => 0), kx_a q_9 cyI 1944 (fun _ => 0), kx_a q_11 cyI 1944 (fun _ => 0), kx_a q_13 cyI 12 (fun _ => 0), kx_a q_15 cyI 12 (fun _ => 0), kx_a q_17 cyI 320 (fun _ => 0), kx_a q_19 cyI 320 (fun _ => 0), kx_a q_21 cyI 320 (fun _ => 0), kx_a q_23 cyI 320 (fun _ => 0), kx_a q_25 cyI 320 (fun _ => 0), kx_a q_27 cyI 1920 (fun _ => 0), kx_a q_29 cyI 1920 (fun _ => 0), kx_a q_31 cyI 12 (fun _ => 0), kx_a q_33 cyI 160 (fun _ => 0), kx_a q_35 cyI 160 (fun _ => 0), kx_a q_37 cyI 161 (fun _ => 0)]) hP hD rfl
  refine va_putF (D := (dC, dI)) (ci := 5) (v := .ref q_37) (ty := .array .int) (C := RX5) (T := TX5) (N := 30) hx hb hts hi_5 tyX5 tyX5_ok nmX5 hown hK hP hD hS 0 rfl rfl 26 (by decide) hf_68 (fun _ h9 => h9) rfl hin rfl (by decide +kernel) rfl rfl (Nat.le_of_ble_eq_true rfl) dX5_init_174 (fun H locs hP hD hS => ?_)
  obtain ⟨hP, hD⟩ := kx_re (w2 := [(h0, .inr (5, [.ref q_1, .int 0, .int 2, .int 0, .ref q_3, .ref q_5, .ref q_7, .ref q_9, .ref q_11, .ref q_13, .ref q_15, .int 0, .ref q_17, .ref q_19, .int 0, .ref q_21, .int 0, .ref q_23, .ref q_25, .ref q_27, .ref q_29, .ref q_31, .int 0, .ref q_33, .ref q_35, .int 0, .ref q_37, .null, .null, .int 0])), kx_a q_1 cyI 160 (fun _ => 0), kx_a q_3 cyI 324 (fun _ => 0), kx_a q_5 cyI 324 (fun _ => 0), kx_a q_7 cyI 324 (fun _ => 0), kx_a q_9 cyI 1944 (fun _ => 0), kx_a q_11 cyI 1944 (fun _ => 0), kx_a q_13 cyI 12 (fun _ => 0), kx_a q_15 cyI 12 (fun _ => 0), kx_a q_17 cyI 320 (fun _ => 0), kx_a q_19 cyI 320 (fun _ => 0), kx_a q_21 cyI 320 (fun _ => 0), kx_a q_23 cyI 320 (fun _ => 0), kx_a q_25 cyI 320 (fun _ => 0), kx_a q_27 cyI 1920 (fun _ => 0), kx_a q_29 cyI 1920 (fun _ => 0), kx_a q_31 cyI 12 (fun _ => 0), kx_a q_33 cyI 160 (fun _ => 0), kx_a q_35 cyI 160 (fun _ => 0), kx_a q_37 cyI 161 (fun _ => 0)]) hP hD rfl
  refine lv_aload_n hx hb dX5_init_177 rfl (lv_at hl 0 rfl) ?_
  refine lv_sipush (v := 160) hx hb dX5_init_178 (by decide) ?_
  refine va_newa (atype := .int) (a0 := (160, .inl (fun _ => 0))) hx hb ha_int rfl hK hP hD hS hA (N' := 160) (fun cA => ki_zi cA 160) (by decide) (by decide) (Nat.le_of_ble_eq_true rfl) (Nat.le_of_ble_eq_true rfl) (Nat.le_of_ble_eq_true rfl) dX5_init_181 (fun q_39 cA_40 H hK hP hD hS => ?_)
  obtain rfl : cyI = cA_40 := (ki_cA hK 0 1 rfl rfl).symm
  have hK : va_K (dC, dI) vwCl [(cyI, .int)] s := hK.sub [0] rfl
  refine W.widen (k := 20) (n := 11137) (Nat.le_of_ble_eq_true rfl) (Nat.le_of_ble_eq_true rfl) ?_
  obtain ⟨hP, hD⟩ := kx_re (w2 := [(h0, .inr (5, [.ref q_1, .int 0, .int 2, .int 0, .ref q_3, .ref q_5, .ref q_7, .ref q_9, .ref q_11, .ref q_13, .ref q_15, .int 0, .ref q_17, .ref q_19, .int 0, .ref q_21, .int 0, .ref q_23, .ref q_25, .ref q_27, .ref q_29, .ref q_31, .int 0, .ref q_33, .ref q_35, .int 0, .ref q_37, .null, .null, .int 0])), kx_a q_1 cyI 160 (fun _ => 0), kx_a q_3 cyI 324 (fun _ => 0), kx_a q_5 cyI 324 (fun _ => 0), kx_a q_7 cyI 324 (fun _ => 0), kx_a q_9 cyI 1944 (fun _ => 0), kx_a q_11 cyI 1944 (fun _ => 0), kx_a q_13 cyI 12 (fun _ => 0), kx_a q_15 cyI 12 (fun _ => 0), kx_a q_17 cyI 320 (fun _ => 0), kx_a q_19 cyI 320 (fun _ => 0), kx_a q_21 cyI 320 (fun _ => 0), kx_a q_23 cyI 320 (fun _ => 0), kx_a q_25 cyI 320 (fun _ => 0), kx_a q_27 cyI 1920 (fun _ => 0), kx_a q_29 cyI 1920 (fun _ => 0), kx_a q_31 cyI 12 (fun _ => 0), kx_a q_33 cyI 160 (fun _ => 0), kx_a q_35 cyI 160 (fun _ => 0), kx_a q_37 cyI 161 (fun _ => 0), kx_a q_39 cyI 160 (fun _ => 0)]) hP hD rfl
  refine va_putF (D := (dC, dI)) (ci := 5) (v := .ref q_39) (ty := .array .int) (C := RX5) (T := TX5) (N := 30) hx hb hts hi_5 tyX5 tyX5_ok nmX5 hown hK hP hD hS 0 rfl rfl 27 (by decide) hf_71 (fun _ h9 => h9) rfl hin rfl (by decide +kernel) rfl rfl (Nat.le_of_ble_eq_true rfl) dX5_init_183 (fun H locs hP hD hS => ?_)
  obtain ⟨hP, hD⟩ := kx_re (w2 := [(h0, .inr (5, [.ref q_1, .int 0, .int 2, .int 0, .ref q_3, .ref q_5, .ref q_7, .ref q_9, .ref q_11, .ref q_13, .ref q_15, .int 0, .ref q_17, .ref q_19, .int 0, .ref q_21, .int 0, .ref q_23, .ref q_25, .ref q_27, .ref q_29, .ref q_31, .int 0, .ref q_33, .ref q_35, .int 0, .ref q_37, .ref q_39, .null, .int 0])), kx_a q_1 cyI 160 (fun _ => 0), kx_a q_3 cyI 324 (fun _ => 0), kx_a q_5 cyI 324 (fun _ => 0), kx_a q_7 cyI 324 (fun _ => 0), kx_a q_9 cyI 1944 (fun _ => 0), kx_a q_11 cyI 1944 (fun _ => 0), kx_a q_13 cyI 12 (fun _ => 0), kx_a q_15 cyI 12 (fun _ => 0), kx_a q_17 cyI 320 (fun _ => 0), kx_a q_19 cyI 320 (fun _ => 0), kx_a q_21 cyI 320 (fun _ => 0), kx_a q_23 cyI 320 (fun _ => 0), kx_a q_25 cyI 320 (fun _ => 0), kx_a q_27 cyI 1920 (fun _ => 0), kx_a q_29 cyI 1920 (fun _ => 0), kx_a q_31 cyI 12 (fun _ => 0), kx_a q_33 cyI 160 (fun _ => 0), kx_a q_35 cyI 160 (fun _ => 0), kx_a q_37 cyI 161 (fun _ => 0), kx_a q_39 cyI 160 (fun _ => 0)]) hP hD rfl
  refine lv_aload_n hx hb dX5_init_186 rfl (lv_at hl 0 rfl) ?_
  refine lv_sipush (v := 160) hx hb dX5_init_187 (by decide) ?_
  refine va_newa (atype := .int) (a0 := (160, .inl (fun _ => 0))) hx hb ha_int rfl hK hP hD hS hA (N' := 160) (fun cA => ki_zi cA 160) (by decide) (by decide) (Nat.le_of_ble_eq_true rfl) (Nat.le_of_ble_eq_true rfl) (Nat.le_of_ble_eq_true rfl) dX5_init_190 (fun q_41 cA_42 H hK hP hD hS => ?_)
  obtain rfl : cyI = cA_42 := (ki_cA hK 0 1 rfl rfl).symm
  have hK : va_K (dC, dI) vwCl [(cyI, .int)] s := hK.sub [0] rfl
  refine W.widen (k := 21) (n := 11297) (Nat.le_of_ble_eq_true rfl) (Nat.le_of_ble_eq_true rfl) ?_
  obtain ⟨hP, hD⟩ := kx_re (w2 := [(h0, .inr (5, [.ref q_1, .int 0, .int 2, .int 0, .ref q_3, .ref q_5, .ref q_7, .ref q_9, .ref q_11, .ref q_13, .ref q_15, .int 0, .ref q_17, .ref q_19, .int 0, .ref q_21, .int 0, .ref q_23, .ref q_25, .ref q_27, .ref q_29, .ref q_31, .int 0, .ref q_33, .ref q_35, .int 0, .ref q_37, .ref q_39, .null, .int 0])), kx_a q_1 cyI 160 (fun _ => 0), kx_a q_3 cyI 324 (fun _ => 0), kx_a q_5 cyI 324 (fun _ => 0), kx_a q_7 cyI 324 (fun _ => 0), kx_a q_9 cyI 1944 (fun _ => 0), kx_a q_11 cyI 1944 (fun _ => 0), kx_a q_13 cyI 12 (fun _ => 0), kx_a q_15 cyI 12 (fun _ => 0), kx_a q_17 cyI 320 (fun _ => 0), kx_a q_19 cyI 320 (fun _ => 0), kx_a q_21 cyI 320 (fun _ => 0), kx_a q_23 cyI 320 (fun _ => 0), kx_a q_25 cyI 320 (fun _ => 0), kx_a q_27 cyI 1920 (fun _ => 0), kx_a q_29 cyI 1920 (fun _ => 0), kx_a q_31 cyI 12 (fun _ => 0), kx_a q_33 cyI 160 (fun _ => 0), kx_a q_35 cyI 160 (fun _ => 0), kx_a q_37 cyI 161 (fun _ => 0), kx_a q_39 cyI 160 (fun _ => 0), kx_a q_41 cyI 160 (fun _ => 0)]) hP hD rfl
  refine va_putF (D := (dC, dI)) (ci := 5) (v := .ref q_41) (ty := .array .int) (C := RX5) (T := TX5) (N := 30) hx hb hts hi_5 tyX5 tyX5_ok nmX5 hown hK hP hD hS 0 rfl rfl 28 (by decide) hf_74 (fun _ h9 => h9) rfl hin rfl (by decide +kernel) rfl rfl (Nat.le_of_ble_eq_true rfl) dX5_init_192 (fun H locs hP hD hS => ?_)
  obtain ⟨hP, hD⟩ := kx_re (w2 := [kx_5 h0 q_1 0 2 0 q_3 q_5 q_7 q_9 q_11 q_13 q_15 0 q_17 q_19 0 q_21 0 q_23 q_25 q_27 q_29 q_31 0 q_33 q_35 0 q_37 q_39 q_41 0, kx_a q_1 cyI 160 (fun _ => 0), kx_a q_3 cyI 324 (fun _ => 0), kx_a q_5 cyI 324 (fun _ => 0), kx_a q_7 cyI 324 (fun _ => 0), kx_a q_9 cyI 1944 (fun _ => 0), kx_a q_11 cyI 1944 (fun _ => 0), kx_a q_13 cyI 12 (fun _ => 0), kx_a q_15 cyI 12 (fun _ => 0), kx_a q_17 cyI 320 (fun _ => 0), kx_a q_19 cyI 320 (fun _ => 0), kx_a q_21 cyI 320 (fun _ => 0), kx_a q_23 cyI 320 (fun _ => 0), kx_a q_25 cyI 320 (fun _ => 0), kx_a q_27 cyI 1920 (fun _ => 0), kx_a q_29 cyI 1920 (fun _ => 0), kx_a q_31 cyI 12 (fun _ => 0), kx_a q_33 cyI 160 (fun _ => 0), kx_a q_35 cyI 160 (fun _ => 0), kx_a q_37 cyI 161 (fun _ => 0), kx_a q_39 cyI 160 (fun _ => 0), kx_a q_41 cyI 160 (fun _ => 0)]) hP hD rfl
  have hP9 := hP
  have hD9 := hD
  have hK9 := hK
  exact W.vret hx hb hr (fun t ht hW => ⟨⟨(), rfl, trivial, q_1, q_3, q_5, q_7, q_9, q_11, q_13, q_15, q_17, q_19, q_21, q_23, q_25, q_27, q_29, q_31, q_33, q_35, q_37, q_39, q_41, by rw [ht]; exact hP9, va_K.moved hW.alike hK9, hD9⟩, hS.F ht⟩) hS.2.2 dX5_init_195



abbrev cX4_at : ByteArray := prog_1_method_11_code
def yX4_at : MethodName := ⟨RX4, "at", "(I)I"⟩
abbrev cX4_vote : ByteArray := prog_1_method_16_code
def yX4_vote : MethodName := ⟨RX4, "vote", "(IIII)I"⟩
abbrev cX4_candidate : ByteArray := prog_1_method_24_code
def yX4_candidate : MethodName := ⟨RX4, "candidate", "(IIII)I"⟩
abbrev cX4_heavyAt : ByteArray := prog_1_method_28_code
def yX4_heavyAt : MethodName := ⟨RX4, "heavyAt", "(IIIIII)I"⟩
def wsX4_at : List Cond := .code yX4_at cX4_at 2 (some .int) :: ([.classLink RX4 107 "java/util/NoSuchElementException", .initialized "java/util/NoSuchElementException", .fieldLink RX4 12 "MajorityIndex" "row" "LMajorityIndex$Row;", .fieldLink RX4 110 "MajorityIndex$Row" "cell" "[I", .methodLink RX4 64 yX0_hasPlace, .instanceMethod yX0_hasPlace, .selects RX0 yX0_hasPlace yX0_hasPlace, .initialized RX0, .code yX0_hasPlace cX0_hasPlace 2 (some .boolean), .fieldLink RX0 15 "MajorityIndex$Row" "length" "I"] ++ wsX40 ++ wsX00 ++ (vx_at0 RX4 109 "java/util/NoSuchElementException" ["java/lang/RuntimeException", "java/lang/Exception"]).filter goodWord)
def wsX4_vote_r1 : List Cond := [Cond.classLink RX4 107 "java/util/NoSuchElementException", Cond.initialized "java/util/NoSuchElementException", Cond.fieldLink RX4 12 "MajorityIndex" "row" "LMajorityIndex$Row;", Cond.fieldLink RX4 126 "MajorityIndex$Tree" "size" "[I", Cond.fieldLink RX4 35 "MajorityIndex" "votes" "LMajorityIndex$Votes;", Cond.fieldLink RX4 133 "MajorityIndex$Votes" "value" "[I", Cond.fieldLink RX4 136 "MajorityIndex$Votes" "number" "[I", Cond.methodLink RX4 79 yX0_hasRange, Cond.instanceMethod yX0_hasRange, Cond.selects RX0 yX0_hasRange yX0_hasRange, Cond.initialized RX0, Cond.code yX0_hasRange cX0_hasRange 3 (some .boolean), Cond.fieldLink RX0 15 "MajorityIndex$Row" "length" "I", Cond.methodLink RX4 71 yX4_laidTree, Cond.instanceMethod yX4_laidTree, Cond.selects RX4 yX4_laidTree yX4_laidTree, Cond.initialized RX4, Cond.code yX4_laidTree cX4_laidTree 1 (some (.object "MajorityIndex$Tree")), Cond.fieldLink RX4 53 "MajorityIndex" "treeIsOld" "Z", Cond.fieldLink RX4 21 "MajorityIndex" "tree" "LMajorityIndex$Tree;", Cond.fieldLink RX4 49 "MajorityIndex" "slotsNow" "I", Cond.fieldLink RX4 204 "MajorityIndex$Tree" "slotsHere" "I", Cond.fieldLink RX4 57 "MajorityIndex$Row" "length" "I", Cond.methodLink RX4 259 yX2_layRanges]
def wsX4_vote_r2 : List Cond := [Cond.instanceMethod yX2_layRanges, Cond.selects RX2 yX2_layRanges yX2_layRanges, Cond.initialized RX2, Cond.code yX2_layRanges cX2_layRanges 2 none, Cond.fieldLink RX2 40 "MajorityIndex$Tree" "row" "LMajorityIndex$Row;", Cond.fieldLink RX2 44 "MajorityIndex$Row" "length" "I", Cond.fieldLink RX2 50 "MajorityIndex$Tree" "nodes" "I", Cond.fieldLink RX2 18 "MajorityIndex$Tree" "from" "[I", Cond.fieldLink RX2 22 "MajorityIndex$Tree" "to" "[I", Cond.methodLink RX2 53 yX2_layBelow, Cond.instanceMethod yX2_layBelow, Cond.selects RX2 yX2_layBelow yX2_layBelow, Cond.code yX2_layBelow cX2_layBelow 4 none, Cond.methodLink RX2 57 yX2_rightBelow, Cond.instanceMethod yX2_rightBelow, Cond.selects RX2 yX2_rightBelow yX2_rightBelow, Cond.code yX2_rightBelow cX2_rightBelow 3 (some .int), Cond.methodLink RX4 87 yX2_renew, Cond.instanceMethod yX2_renew, Cond.selects RX2 yX2_renew yX2_renew, Cond.code yX2_renew cX2_renew 5 (some .int), Cond.methodLink RX2 61 yX2_putTogether, Cond.instanceMethod yX2_putTogether, Cond.selects RX2 yX2_putTogether yX2_putTogether]
def wsX4_vote_r3 : List Cond := [Cond.code yX2_putTogether cX2_putTogether 2 none, Cond.fieldLink RX2 12 "MajorityIndex$Tree" "joined" "LMajorityIndex$Votes;", Cond.fieldLink RX2 74 "MajorityIndex$Row" "cell" "[I", Cond.fieldLink RX2 85 "MajorityIndex$Tree" "slotsHere" "I", Cond.methodLink RX2 71 yX3_clear, Cond.instanceMethod yX3_clear, Cond.selects RX3 yX3_clear yX3_clear, Cond.initialized RX3, Cond.code yX3_clear cX3_clear 1 none, Cond.fieldLink RX3 18 "MajorityIndex$Votes" "size" "I", Cond.fieldLink RX3 22 "MajorityIndex$Votes" "lost" "I", Cond.fieldLink RX3 25 "MajorityIndex$Votes" "lessBy" "I", Cond.methodLink RX2 77 yX3_add, Cond.instanceMethod yX3_add, Cond.selects RX3 yX3_add yX3_add, Cond.code yX3_add cX3_add 4 none, Cond.fieldLink RX3 9 "MajorityIndex$Votes" "value" "[I", Cond.fieldLink RX3 15 "MajorityIndex$Votes" "number" "[I", Cond.methodLink RX2 81 yX2_joinNode, Cond.instanceMethod yX2_joinNode, Cond.selects RX2 yX2_joinNode yX2_joinNode, Cond.code yX2_joinNode cX2_joinNode 5 none, Cond.fieldLink RX2 25 "MajorityIndex$Tree" "size" "[I", Cond.fieldLink RX2 34 "MajorityIndex$Tree" "value" "[I"]
def wsX4_vote_r4 : List Cond := [Cond.fieldLink RX2 37 "MajorityIndex$Tree" "number" "[I", Cond.fieldLink RX2 91 "MajorityIndex$Votes" "lost" "I", Cond.fieldLink RX2 28 "MajorityIndex$Tree" "lossOf" "[I", Cond.methodLink RX2 88 yX3_cancel, Cond.instanceMethod yX3_cancel, Cond.selects RX3 yX3_cancel yX3_cancel, Cond.code yX3_cancel cX3_cancel 4 none, Cond.methodLink RX3 32 yX3_order, Cond.instanceMethod yX3_order, Cond.selects RX3 yX3_order yX3_order, Cond.code yX3_order cX3_order 3 none, Cond.methodLink RX3 35 yX3_isAhead, Cond.instanceMethod yX3_isAhead, Cond.selects RX3 yX3_isAhead yX3_isAhead, Cond.code yX3_isAhead cX3_isAhead 3 (some .boolean), Cond.methodLink RX3 39 yX3_exchange, Cond.instanceMethod yX3_exchange, Cond.selects RX3 yX3_exchange yX3_exchange, Cond.code yX3_exchange cX3_exchange 5 none, Cond.methodLink RX2 64 yX2_isJoined, Cond.instanceMethod yX2_isJoined, Cond.selects RX2 yX2_isJoined yX2_isJoined, Cond.code yX2_isJoined cX2_isJoined 4 (some .boolean), Cond.fieldLink RX2 94 "MajorityIndex$Votes" "size" "I"]
def wsX4_vote_r5 : List Cond := [Cond.fieldLink RX2 96 "MajorityIndex$Votes" "value" "[I", Cond.fieldLink RX2 97 "MajorityIndex$Votes" "number" "[I", Cond.methodLink RX2 68 yX2_keepJoined, Cond.instanceMethod yX2_keepJoined, Cond.selects RX2 yX2_keepJoined yX2_keepJoined, Cond.code yX2_keepJoined cX2_keepJoined 4 none, Cond.methodLink RX2 98 Lib.Math.min.name, Cond.static Lib.Math.min.name, Cond.initialized "java/lang/Math", Cond.code Lib.Math.min.name Lib.Math.min.code 2 (some .int), Cond.fieldLink RX2 31 "MajorityIndex$Tree" "lessBy" "[I", Cond.fieldLink RX2 104 "MajorityIndex$Votes" "lessBy" "I", Cond.methodLink RX4 123 yX2_find, Cond.instanceMethod yX2_find, Cond.selects RX2 yX2_find yX2_find, Cond.code yX2_find cX2_find 4 (some .int), Cond.methodLink RX4 129 yX2_copyTo, Cond.instanceMethod yX2_copyTo, Cond.selects RX2 yX2_copyTo yX2_copyTo, Cond.code yX2_copyTo cX2_copyTo 3 none]
def wsX4_vote : List Cond := .code yX4_vote cX4_vote 7 (some .int) :: ((wsX4_vote_r1 ++ (wsX4_vote_r2 ++ (wsX4_vote_r3 ++ (wsX4_vote_r4 ++ wsX4_vote_r5)))) ++ wsX40 ++ wsX20 ++ wsX30 ++ wsX00 ++ (vx_at0 RX4 109 "java/util/NoSuchElementException" ["java/lang/RuntimeException", "java/lang/Exception"]).filter goodWord)
def wsX4_candidate_r1 : List Cond := [Cond.classLink RX4 107 "java/util/NoSuchElementException", Cond.initialized "java/util/NoSuchElementException", Cond.fieldLink RX4 12 "MajorityIndex" "row" "LMajorityIndex$Row;", Cond.fieldLink RX4 35 "MajorityIndex" "votes" "LMajorityIndex$Votes;", Cond.fieldLink RX4 174 "MajorityIndex$Votes" "size" "I", Cond.fieldLink RX4 133 "MajorityIndex$Votes" "value" "[I", Cond.fieldLink RX4 136 "MajorityIndex$Votes" "number" "[I", Cond.methodLink RX4 79 yX0_hasRange, Cond.instanceMethod yX0_hasRange, Cond.selects RX0 yX0_hasRange yX0_hasRange, Cond.initialized RX0, Cond.code yX0_hasRange cX0_hasRange 3 (some .boolean), Cond.fieldLink RX0 15 "MajorityIndex$Row" "length" "I", Cond.methodLink RX4 71 yX4_laidTree, Cond.instanceMethod yX4_laidTree, Cond.selects RX4 yX4_laidTree yX4_laidTree, Cond.initialized RX4, Cond.code yX4_laidTree cX4_laidTree 1 (some (.object "MajorityIndex$Tree")), Cond.fieldLink RX4 53 "MajorityIndex" "treeIsOld" "Z", Cond.fieldLink RX4 21 "MajorityIndex" "tree" "LMajorityIndex$Tree;", Cond.fieldLink RX4 49 "MajorityIndex" "slotsNow" "I", Cond.fieldLink RX4 204 "MajorityIndex$Tree" "slotsHere" "I", Cond.fieldLink RX4 57 "MajorityIndex$Row" "length" "I", Cond.methodLink RX4 259 yX2_layRanges]
def wsX4_candidate_r2 : List Cond := [Cond.instanceMethod yX2_layRanges, Cond.selects RX2 yX2_layRanges yX2_layRanges, Cond.initialized RX2, Cond.code yX2_layRanges cX2_layRanges 2 none, Cond.fieldLink RX2 40 "MajorityIndex$Tree" "row" "LMajorityIndex$Row;", Cond.fieldLink RX2 44 "MajorityIndex$Row" "length" "I", Cond.fieldLink RX2 50 "MajorityIndex$Tree" "nodes" "I", Cond.fieldLink RX2 18 "MajorityIndex$Tree" "from" "[I", Cond.fieldLink RX2 22 "MajorityIndex$Tree" "to" "[I", Cond.methodLink RX2 53 yX2_layBelow, Cond.instanceMethod yX2_layBelow, Cond.selects RX2 yX2_layBelow yX2_layBelow, Cond.code yX2_layBelow cX2_layBelow 4 none, Cond.methodLink RX2 57 yX2_rightBelow, Cond.instanceMethod yX2_rightBelow, Cond.selects RX2 yX2_rightBelow yX2_rightBelow, Cond.code yX2_rightBelow cX2_rightBelow 3 (some .int), Cond.methodLink RX4 87 yX2_renew, Cond.instanceMethod yX2_renew, Cond.selects RX2 yX2_renew yX2_renew, Cond.code yX2_renew cX2_renew 5 (some .int), Cond.methodLink RX2 61 yX2_putTogether, Cond.instanceMethod yX2_putTogether, Cond.selects RX2 yX2_putTogether yX2_putTogether]
def wsX4_candidate_r3 : List Cond := [Cond.code yX2_putTogether cX2_putTogether 2 none, Cond.fieldLink RX2 12 "MajorityIndex$Tree" "joined" "LMajorityIndex$Votes;", Cond.fieldLink RX2 74 "MajorityIndex$Row" "cell" "[I", Cond.fieldLink RX2 85 "MajorityIndex$Tree" "slotsHere" "I", Cond.methodLink RX2 71 yX3_clear, Cond.instanceMethod yX3_clear, Cond.selects RX3 yX3_clear yX3_clear, Cond.initialized RX3, Cond.code yX3_clear cX3_clear 1 none, Cond.fieldLink RX3 18 "MajorityIndex$Votes" "size" "I", Cond.fieldLink RX3 22 "MajorityIndex$Votes" "lost" "I", Cond.fieldLink RX3 25 "MajorityIndex$Votes" "lessBy" "I", Cond.methodLink RX2 77 yX3_add, Cond.instanceMethod yX3_add, Cond.selects RX3 yX3_add yX3_add, Cond.code yX3_add cX3_add 4 none, Cond.fieldLink RX3 9 "MajorityIndex$Votes" "value" "[I", Cond.fieldLink RX3 15 "MajorityIndex$Votes" "number" "[I", Cond.methodLink RX2 81 yX2_joinNode, Cond.instanceMethod yX2_joinNode, Cond.selects RX2 yX2_joinNode yX2_joinNode, Cond.code yX2_joinNode cX2_joinNode 5 none, Cond.fieldLink RX2 25 "MajorityIndex$Tree" "size" "[I", Cond.fieldLink RX2 34 "MajorityIndex$Tree" "value" "[I"]
def wsX4_candidate_r4 : List Cond := [Cond.fieldLink RX2 37 "MajorityIndex$Tree" "number" "[I", Cond.fieldLink RX2 91 "MajorityIndex$Votes" "lost" "I", Cond.fieldLink RX2 28 "MajorityIndex$Tree" "lossOf" "[I", Cond.methodLink RX2 88 yX3_cancel, Cond.instanceMethod yX3_cancel, Cond.selects RX3 yX3_cancel yX3_cancel, Cond.code yX3_cancel cX3_cancel 4 none, Cond.methodLink RX3 32 yX3_order, Cond.instanceMethod yX3_order, Cond.selects RX3 yX3_order yX3_order, Cond.code yX3_order cX3_order 3 none, Cond.methodLink RX3 35 yX3_isAhead, Cond.instanceMethod yX3_isAhead, Cond.selects RX3 yX3_isAhead yX3_isAhead, Cond.code yX3_isAhead cX3_isAhead 3 (some .boolean), Cond.methodLink RX3 39 yX3_exchange, Cond.instanceMethod yX3_exchange, Cond.selects RX3 yX3_exchange yX3_exchange, Cond.code yX3_exchange cX3_exchange 5 none, Cond.methodLink RX2 64 yX2_isJoined, Cond.instanceMethod yX2_isJoined, Cond.selects RX2 yX2_isJoined yX2_isJoined, Cond.code yX2_isJoined cX2_isJoined 4 (some .boolean), Cond.fieldLink RX2 94 "MajorityIndex$Votes" "size" "I"]
def wsX4_candidate_r5 : List Cond := [Cond.fieldLink RX2 96 "MajorityIndex$Votes" "value" "[I", Cond.fieldLink RX2 97 "MajorityIndex$Votes" "number" "[I", Cond.methodLink RX2 68 yX2_keepJoined, Cond.instanceMethod yX2_keepJoined, Cond.selects RX2 yX2_keepJoined yX2_keepJoined, Cond.code yX2_keepJoined cX2_keepJoined 4 none, Cond.methodLink RX2 98 Lib.Math.min.name, Cond.static Lib.Math.min.name, Cond.initialized "java/lang/Math", Cond.code Lib.Math.min.name Lib.Math.min.code 2 (some .int), Cond.fieldLink RX2 31 "MajorityIndex$Tree" "lessBy" "[I", Cond.fieldLink RX2 104 "MajorityIndex$Votes" "lessBy" "I", Cond.methodLink RX4 170 yX2_gather, Cond.instanceMethod yX2_gather, Cond.selects RX2 yX2_gather yX2_gather, Cond.code yX2_gather cX2_gather 6 none, Cond.methodLink RX2 106 yX2_isPart, Cond.instanceMethod yX2_isPart, Cond.selects RX2 yX2_isPart yX2_isPart, Cond.code yX2_isPart cX2_isPart 4 (some .boolean), Cond.methodLink RX4 113 yX0_oftenIn, Cond.instanceMethod yX0_oftenIn, Cond.selects RX0 yX0_oftenIn yX0_oftenIn, Cond.code yX0_oftenIn cX0_oftenIn 6 (some .int)]
def wsX4_candidate_r6 : List Cond := [Cond.fieldLink RX0 9 "MajorityIndex$Row" "cell" "[I"]
def wsX4_candidate : List Cond := .code yX4_candidate cX4_candidate 5 (some .int) :: ((wsX4_candidate_r1 ++ (wsX4_candidate_r2 ++ (wsX4_candidate_r3 ++ (wsX4_candidate_r4 ++ (wsX4_candidate_r5 ++ wsX4_candidate_r6))))) ++ wsX40 ++ wsX30 ++ wsX00 ++ wsX20 ++ (vx_at0 RX4 109 "java/util/NoSuchElementException" ["java/lang/RuntimeException", "java/lang/Exception"]).filter goodWord)
def wsX4_heavyAt_r1 : List Cond := [Cond.classLink RX4 107 "java/util/NoSuchElementException", Cond.initialized "java/util/NoSuchElementException", Cond.fieldLink RX4 12 "MajorityIndex" "row" "LMajorityIndex$Row;", Cond.fieldLink RX4 35 "MajorityIndex" "votes" "LMajorityIndex$Votes;", Cond.fieldLink RX4 174 "MajorityIndex$Votes" "size" "I", Cond.fieldLink RX4 133 "MajorityIndex$Votes" "value" "[I", Cond.fieldLink RX4 136 "MajorityIndex$Votes" "number" "[I", Cond.methodLink RX4 79 yX0_hasRange, Cond.instanceMethod yX0_hasRange, Cond.selects RX0 yX0_hasRange yX0_hasRange, Cond.initialized RX0, Cond.code yX0_hasRange cX0_hasRange 3 (some .boolean), Cond.fieldLink RX0 15 "MajorityIndex$Row" "length" "I", Cond.methodLink RX4 186 yX4_isShare, Cond.static yX4_isShare, Cond.initialized RX4, Cond.code yX4_isShare cX4_isShare 2 (some .boolean), Cond.methodLink RX4 189 yX4_isEnough, Cond.instanceMethod yX4_isEnough, Cond.selects RX4 yX4_isEnough yX4_isEnough, Cond.code yX4_isEnough cX4_isEnough 3 (some .boolean), Cond.fieldLink RX4 49 "MajorityIndex" "slotsNow" "I", Cond.methodLink RX4 71 yX4_laidTree, Cond.instanceMethod yX4_laidTree]
def wsX4_heavyAt_r2 : List Cond := [Cond.selects RX4 yX4_laidTree yX4_laidTree, Cond.code yX4_laidTree cX4_laidTree 1 (some (.object "MajorityIndex$Tree")), Cond.fieldLink RX4 53 "MajorityIndex" "treeIsOld" "Z", Cond.fieldLink RX4 21 "MajorityIndex" "tree" "LMajorityIndex$Tree;", Cond.fieldLink RX4 204 "MajorityIndex$Tree" "slotsHere" "I", Cond.fieldLink RX4 57 "MajorityIndex$Row" "length" "I", Cond.methodLink RX4 259 yX2_layRanges, Cond.instanceMethod yX2_layRanges, Cond.selects RX2 yX2_layRanges yX2_layRanges, Cond.initialized RX2, Cond.code yX2_layRanges cX2_layRanges 2 none, Cond.fieldLink RX2 40 "MajorityIndex$Tree" "row" "LMajorityIndex$Row;", Cond.fieldLink RX2 44 "MajorityIndex$Row" "length" "I", Cond.fieldLink RX2 50 "MajorityIndex$Tree" "nodes" "I", Cond.fieldLink RX2 18 "MajorityIndex$Tree" "from" "[I", Cond.fieldLink RX2 22 "MajorityIndex$Tree" "to" "[I", Cond.methodLink RX2 53 yX2_layBelow, Cond.instanceMethod yX2_layBelow, Cond.selects RX2 yX2_layBelow yX2_layBelow, Cond.code yX2_layBelow cX2_layBelow 4 none, Cond.methodLink RX2 57 yX2_rightBelow, Cond.instanceMethod yX2_rightBelow, Cond.selects RX2 yX2_rightBelow yX2_rightBelow, Cond.code yX2_rightBelow cX2_rightBelow 3 (some .int)]
def wsX4_heavyAt_r3 : List Cond := [Cond.methodLink RX4 87 yX2_renew, Cond.instanceMethod yX2_renew, Cond.selects RX2 yX2_renew yX2_renew, Cond.code yX2_renew cX2_renew 5 (some .int), Cond.methodLink RX2 61 yX2_putTogether, Cond.instanceMethod yX2_putTogether, Cond.selects RX2 yX2_putTogether yX2_putTogether, Cond.code yX2_putTogether cX2_putTogether 2 none, Cond.fieldLink RX2 12 "MajorityIndex$Tree" "joined" "LMajorityIndex$Votes;", Cond.fieldLink RX2 74 "MajorityIndex$Row" "cell" "[I", Cond.fieldLink RX2 85 "MajorityIndex$Tree" "slotsHere" "I", Cond.methodLink RX2 71 yX3_clear, Cond.instanceMethod yX3_clear, Cond.selects RX3 yX3_clear yX3_clear, Cond.initialized RX3, Cond.code yX3_clear cX3_clear 1 none, Cond.fieldLink RX3 18 "MajorityIndex$Votes" "size" "I", Cond.fieldLink RX3 22 "MajorityIndex$Votes" "lost" "I", Cond.fieldLink RX3 25 "MajorityIndex$Votes" "lessBy" "I", Cond.methodLink RX2 77 yX3_add, Cond.instanceMethod yX3_add, Cond.selects RX3 yX3_add yX3_add, Cond.code yX3_add cX3_add 4 none, Cond.fieldLink RX3 9 "MajorityIndex$Votes" "value" "[I"]
def wsX4_heavyAt_r4 : List Cond := [Cond.fieldLink RX3 15 "MajorityIndex$Votes" "number" "[I", Cond.methodLink RX2 81 yX2_joinNode, Cond.instanceMethod yX2_joinNode, Cond.selects RX2 yX2_joinNode yX2_joinNode, Cond.code yX2_joinNode cX2_joinNode 5 none, Cond.fieldLink RX2 25 "MajorityIndex$Tree" "size" "[I", Cond.fieldLink RX2 34 "MajorityIndex$Tree" "value" "[I", Cond.fieldLink RX2 37 "MajorityIndex$Tree" "number" "[I", Cond.fieldLink RX2 91 "MajorityIndex$Votes" "lost" "I", Cond.fieldLink RX2 28 "MajorityIndex$Tree" "lossOf" "[I", Cond.methodLink RX2 88 yX3_cancel, Cond.instanceMethod yX3_cancel, Cond.selects RX3 yX3_cancel yX3_cancel, Cond.code yX3_cancel cX3_cancel 4 none, Cond.methodLink RX3 32 yX3_order, Cond.instanceMethod yX3_order, Cond.selects RX3 yX3_order yX3_order, Cond.code yX3_order cX3_order 3 none, Cond.methodLink RX3 35 yX3_isAhead, Cond.instanceMethod yX3_isAhead, Cond.selects RX3 yX3_isAhead yX3_isAhead, Cond.code yX3_isAhead cX3_isAhead 3 (some .boolean), Cond.methodLink RX3 39 yX3_exchange, Cond.instanceMethod yX3_exchange]
def wsX4_heavyAt_r5 : List Cond := [Cond.selects RX3 yX3_exchange yX3_exchange, Cond.code yX3_exchange cX3_exchange 5 none, Cond.methodLink RX2 64 yX2_isJoined, Cond.instanceMethod yX2_isJoined, Cond.selects RX2 yX2_isJoined yX2_isJoined, Cond.code yX2_isJoined cX2_isJoined 4 (some .boolean), Cond.fieldLink RX2 94 "MajorityIndex$Votes" "size" "I", Cond.fieldLink RX2 96 "MajorityIndex$Votes" "value" "[I", Cond.fieldLink RX2 97 "MajorityIndex$Votes" "number" "[I", Cond.methodLink RX2 68 yX2_keepJoined, Cond.instanceMethod yX2_keepJoined, Cond.selects RX2 yX2_keepJoined yX2_keepJoined, Cond.code yX2_keepJoined cX2_keepJoined 4 none, Cond.methodLink RX2 98 Lib.Math.min.name, Cond.static Lib.Math.min.name, Cond.initialized "java/lang/Math", Cond.code Lib.Math.min.name Lib.Math.min.code 2 (some .int), Cond.fieldLink RX2 31 "MajorityIndex$Tree" "lessBy" "[I", Cond.fieldLink RX2 104 "MajorityIndex$Votes" "lessBy" "I", Cond.methodLink RX4 192 yX4_gatherHeavy, Cond.instanceMethod yX4_gatherHeavy, Cond.selects RX4 yX4_gatherHeavy yX4_gatherHeavy, Cond.code yX4_gatherHeavy cX4_gatherHeavy 7 none, Cond.methodLink RX4 170 yX2_gather]
def wsX4_heavyAt_r6 : List Cond := [Cond.instanceMethod yX2_gather, Cond.selects RX2 yX2_gather yX2_gather, Cond.code yX2_gather cX2_gather 6 none, Cond.methodLink RX2 106 yX2_isPart, Cond.instanceMethod yX2_isPart, Cond.selects RX2 yX2_isPart yX2_isPart, Cond.code yX2_isPart cX2_isPart 4 (some .boolean), Cond.methodLink RX4 113 yX0_oftenIn, Cond.instanceMethod yX0_oftenIn, Cond.selects RX0 yX0_oftenIn yX0_oftenIn, Cond.code yX0_oftenIn cX0_oftenIn 6 (some .int), Cond.fieldLink RX0 9 "MajorityIndex$Row" "cell" "[I", Cond.methodLink RX4 262 yX3_keepHeavy, Cond.instanceMethod yX3_keepHeavy, Cond.selects RX3 yX3_keepHeavy yX3_keepHeavy, Cond.code yX3_keepHeavy cX3_keepHeavy 6 none, Cond.static yX4_isHeavy, Cond.code yX4_isHeavy cX4_isHeavy 4 (some .boolean)]
def wsX4_heavyAt : List Cond := .code yX4_heavyAt cX4_heavyAt 7 (some .int) :: ((wsX4_heavyAt_r1 ++ (wsX4_heavyAt_r2 ++ (wsX4_heavyAt_r3 ++ (wsX4_heavyAt_r4 ++ (wsX4_heavyAt_r5 ++ wsX4_heavyAt_r6))))) ++ wsX40 ++ wsX30 ++ wsX00 ++ wsX20 ++ (vx_at0 RX4 109 "java/util/NoSuchElementException" ["java/lang/RuntimeException", "java/lang/Exception"]).filter goodWord)
set_option maxRecDepth 20000 in
theorem ggX4_at_X0_hasPlace : GoodIn wsX4_at wsX0_hasPlace := goodIn_r _ [9, 10, 20, 21] rfl (by decide +kernel)
set_option maxRecDepth 20000 in
theorem gX4_at_X0_hasPlace : GoodIn wsX4_at (wsV RX4 64 RX0 yX0_hasPlace wsX0_hasPlace) := goodIn_app (goodIn_r _ [5, 6, 7, 8] rfl (by decide +kernel)) ggX4_at_X0_hasPlace
def dt_cX4_at_0 : List (Nat × Nat × Nat × Nat) := [(0, 42, 0, 0), (1, 180, 2, 12), (4, 27, 0, 0), (5, 182, 2, 64), (8, 154, 2, 11), (11, 187, 2, 107), (14, 89, 0, 0), (15, 183, 2, 109), (18, 191, 0, 0), (19, 42, 0, 0), (20, 180, 2, 12), (23, 180, 2, 110), (26, 27, 0, 0), (27, 46, 0, 0), (28, 172, 0, 0)]
theorem da_cX4_at_0 : fw dt_cX4_at_0 0 cX4_at.data.toList = true := by decide +kernel
theorem dX4_at_0 : decode cX4_at 0 = .ok (.aload_n 0, 1) := fo_42 (fw_get da_cX4_at_0 0 rfl)
theorem dX4_at_1 : decode cX4_at 1 = .ok (.getfield 12, 3) := fo_180 (fw_get da_cX4_at_0 1 rfl)
theorem dX4_at_4 : decode cX4_at 4 = .ok (.iload_n 1, 1) := fo_27 (fw_get da_cX4_at_0 2 rfl)
theorem dX4_at_5 : decode cX4_at 5 = .ok (.invokevirtual 64, 3) := fo_182 (fw_get da_cX4_at_0 3 rfl)
theorem dX4_at_8 : decode cX4_at 8 = .ok (.ifCond .ne 11, 3) := fo_154 (fw_get da_cX4_at_0 4 rfl) (by decide +kernel)
theorem dX4_at_11 : decode cX4_at 11 = .ok (.new 107, 3) := fo_187 (fw_get da_cX4_at_0 5 rfl)
theorem dX4_at_14 : decode cX4_at 14 = .ok (.dup, 1) := fo_89 (fw_get da_cX4_at_0 6 rfl)
theorem dX4_at_15 : decode cX4_at 15 = .ok (.invokespecial 109, 3) := fo_183 (fw_get da_cX4_at_0 7 rfl)
theorem dX4_at_18 : decode cX4_at 18 = .ok (.athrow, 1) := fo_191 (fw_get da_cX4_at_0 8 rfl)
theorem dX4_at_19 : decode cX4_at 19 = .ok (.aload_n 0, 1) := fo_42 (fw_get da_cX4_at_0 9 rfl)
theorem dX4_at_20 : decode cX4_at 20 = .ok (.getfield 12, 3) := fo_180 (fw_get da_cX4_at_0 10 rfl)
theorem dX4_at_23 : decode cX4_at 23 = .ok (.getfield 110, 3) := fo_180 (fw_get da_cX4_at_0 11 rfl)
theorem dX4_at_26 : decode cX4_at 26 = .ok (.iload_n 1, 1) := fo_27 (fw_get da_cX4_at_0 12 rfl)
theorem dX4_at_27 : decode cX4_at 27 = .ok (.iaload, 1) := fo_46 (fw_get da_cX4_at_0 13 rfl)
theorem dX4_at_28 : decode cX4_at 28 = .ok (.ireturn, 1) := fo_172 (fw_get da_cX4_at_0 14 rfl)
set_option maxRecDepth 20000 in
theorem ggX4_vote_X0_hasRange : GoodIn wsX4_vote wsX0_hasRange := goodIn_r _ [12, 13, 142, 143] rfl (by decide +kernel)
set_option maxRecDepth 20000 in
theorem gX4_vote_X0_hasRange : GoodIn wsX4_vote (wsV RX4 79 RX0 yX0_hasRange wsX0_hasRange) := goodIn_app (goodIn_r _ [8, 9, 10, 11] rfl (by decide +kernel)) ggX4_vote_X0_hasRange
set_option maxRecDepth 20000 in
theorem ggX4_vote_X4_laidTree : GoodIn wsX4_vote wsX4_laidTree := goodIn_r _ [18, 19, 20, 21, 22, 3, 23, 24, 25, 26, 27, 28, 29, 30, 31, 32, 33, 34, 35, 36, 37, 38, 39, 40, 41, 42, 43, 44, 45, 46, 47, 48, 49, 50, 51, 52, 53, 54, 55, 56, 57, 58, 59, 60, 61, 62, 63, 64, 65, 66, 67, 68, 69, 70, 71, 72, 73, 74, 75, 76, 77, 78, 79, 80, 81, 82, 83, 84, 85, 86, 87, 88, 89, 90, 91, 92, 93, 94, 95, 96, 97, 98, 99, 100, 101, 102, 103, 104, 105, 106, 107, 108, 117, 118, 119, 120, 121, 122, 123, 124, 125, 126, 127, 128, 129, 130, 131, 132, 133, 134, 135, 136, 142, 143, 137, 138, 139, 140, 141] rfl (by decide +kernel)
set_option maxRecDepth 20000 in
theorem gX4_vote_X4_laidTree : GoodIn wsX4_vote (wsV RX4 71 RX4 yX4_laidTree wsX4_laidTree) := goodIn_app (goodIn_r _ [14, 15, 16, 17] rfl (by decide +kernel)) ggX4_vote_X4_laidTree
set_option maxRecDepth 20000 in
theorem ggX4_vote_X2_find : GoodIn wsX4_vote wsX2_find := goodIn_r _ [112, 31, 32, 33, 126, 127, 128, 129, 130, 131, 132, 133, 134, 135, 136] rfl (by decide +kernel)
set_option maxRecDepth 20000 in
theorem gX4_vote_X2_find : GoodIn wsX4_vote (wsV RX4 123 RX2 yX2_find wsX2_find) := goodIn_app (goodIn_r _ [109, 110, 111, 27] rfl (by decide +kernel)) ggX4_vote_X2_find
set_option maxRecDepth 20000 in
theorem ggX4_vote_X2_copyTo : GoodIn wsX4_vote wsX2_copyTo := goodIn_r _ [116, 53, 54, 55, 56, 57, 58, 59, 60, 67, 68, 69, 27, 70, 71, 72, 73, 74, 75, 61, 62, 63, 64, 65, 66, 137, 138, 139, 140, 141, 126, 127, 128, 129, 130, 131, 132, 133, 134, 135, 136] rfl (by decide +kernel)
set_option maxRecDepth 20000 in
theorem gX4_vote_X2_copyTo : GoodIn wsX4_vote (wsV RX4 129 RX2 yX2_copyTo wsX2_copyTo) := goodIn_app (goodIn_r _ [113, 114, 115, 27] rfl (by decide +kernel)) ggX4_vote_X2_copyTo
def dt_cX4_vote_0 : List (Nat × Nat × Nat × Nat) := [(0, 42, 0, 0), (1, 180, 2, 12), (4, 27, 0, 0), (5, 28, 0, 0), (6, 182, 2, 79), (9, 153, 2, 14), (12, 21, 1, 4), (14, 155, 2, 9), (17, 21, 1, 4), (19, 4, 0, 0), (20, 164, 2, 11), (23, 187, 2, 107), (26, 89, 0, 0), (27, 183, 2, 109), (30, 191, 0, 0), (31, 42, 0, 0), (32, 182, 2, 71), (35, 58, 1, 5), (37, 25, 1, 5), (39, 27, 0, 0)]
theorem da_cX4_vote_0 : fw dt_cX4_vote_0 0 cX4_vote.data.toList = true := by decide +kernel
theorem dX4_vote_0 : decode cX4_vote 0 = .ok (.aload_n 0, 1) := fo_42 (fw_get da_cX4_vote_0 0 rfl)
theorem dX4_vote_1 : decode cX4_vote 1 = .ok (.getfield 12, 3) := fo_180 (fw_get da_cX4_vote_0 1 rfl)
theorem dX4_vote_4 : decode cX4_vote 4 = .ok (.iload_n 1, 1) := fo_27 (fw_get da_cX4_vote_0 2 rfl)
theorem dX4_vote_5 : decode cX4_vote 5 = .ok (.iload_n 2, 1) := fo_28 (fw_get da_cX4_vote_0 3 rfl)
theorem dX4_vote_6 : decode cX4_vote 6 = .ok (.invokevirtual 79, 3) := fo_182 (fw_get da_cX4_vote_0 4 rfl)
theorem dX4_vote_9 : decode cX4_vote 9 = .ok (.ifCond .eq 14, 3) := fo_153 (fw_get da_cX4_vote_0 5 rfl) (by decide +kernel)
theorem dX4_vote_12 : decode cX4_vote 12 = .ok (.iload 4, 2) := fo_21 (fw_get da_cX4_vote_0 6 rfl)
theorem dX4_vote_14 : decode cX4_vote 14 = .ok (.ifCond .lt 9, 3) := fo_155 (fw_get da_cX4_vote_0 7 rfl) (by decide +kernel)
theorem dX4_vote_17 : decode cX4_vote 17 = .ok (.iload 4, 2) := fo_21 (fw_get da_cX4_vote_0 8 rfl)
theorem dX4_vote_19 : decode cX4_vote 19 = .ok (.iconst 1, 1) := fo_4 (fw_get da_cX4_vote_0 9 rfl)
theorem dX4_vote_20 : decode cX4_vote 20 = .ok (.if_icmp .le 11, 3) := fo_164 (fw_get da_cX4_vote_0 10 rfl) (by decide +kernel)
theorem dX4_vote_23 : decode cX4_vote 23 = .ok (.new 107, 3) := fo_187 (fw_get da_cX4_vote_0 11 rfl)
theorem dX4_vote_26 : decode cX4_vote 26 = .ok (.dup, 1) := fo_89 (fw_get da_cX4_vote_0 12 rfl)
theorem dX4_vote_27 : decode cX4_vote 27 = .ok (.invokespecial 109, 3) := fo_183 (fw_get da_cX4_vote_0 13 rfl)
theorem dX4_vote_30 : decode cX4_vote 30 = .ok (.athrow, 1) := fo_191 (fw_get da_cX4_vote_0 14 rfl)
theorem dX4_vote_31 : decode cX4_vote 31 = .ok (.aload_n 0, 1) := fo_42 (fw_get da_cX4_vote_0 15 rfl)
theorem dX4_vote_32 : decode cX4_vote 32 = .ok (.invokevirtual 71, 3) := fo_182 (fw_get da_cX4_vote_0 16 rfl)
theorem dX4_vote_35 : decode cX4_vote 35 = .ok (.astore 5, 2) := fo_58 (fw_get da_cX4_vote_0 17 rfl)
theorem dX4_vote_37 : decode cX4_vote 37 = .ok (.aload 5, 2) := fo_25 (fw_get da_cX4_vote_0 18 rfl)
theorem dX4_vote_39 : decode cX4_vote 39 = .ok (.iload_n 1, 1) := fo_27 (fw_get da_cX4_vote_0 19 rfl)
def dt_cX4_vote_1 : List (Nat × Nat × Nat × Nat) := [(40, 28, 0, 0), (41, 182, 2, 123), (44, 54, 1, 6), (46, 21, 1, 6), (48, 2, 0, 0), (49, 159, 2, 19), (52, 29, 0, 0), (53, 155, 2, 15), (56, 29, 0, 0), (57, 25, 1, 5), (59, 180, 2, 126), (62, 21, 1, 6), (64, 46, 0, 0), (65, 161, 2, 11), (68, 187, 2, 107), (71, 89, 0, 0), (72, 183, 2, 109), (75, 191, 0, 0), (76, 25, 1, 5), (78, 42, 0, 0)]
theorem da_cX4_vote_1 : fw dt_cX4_vote_1 0 cX4_vote.data.toList = true := by decide +kernel
theorem dX4_vote_40 : decode cX4_vote 40 = .ok (.iload_n 2, 1) := fo_28 (fw_get da_cX4_vote_1 0 rfl)
theorem dX4_vote_41 : decode cX4_vote 41 = .ok (.invokevirtual 123, 3) := fo_182 (fw_get da_cX4_vote_1 1 rfl)
theorem dX4_vote_44 : decode cX4_vote 44 = .ok (.istore 6, 2) := fo_54 (fw_get da_cX4_vote_1 2 rfl)
theorem dX4_vote_46 : decode cX4_vote 46 = .ok (.iload 6, 2) := fo_21 (fw_get da_cX4_vote_1 3 rfl)
theorem dX4_vote_48 : decode cX4_vote 48 = .ok (.iconst (-1), 1) := fo_2 (fw_get da_cX4_vote_1 4 rfl)
theorem dX4_vote_49 : decode cX4_vote 49 = .ok (.if_icmp .eq 19, 3) := fo_159 (fw_get da_cX4_vote_1 5 rfl) (by decide +kernel)
theorem dX4_vote_52 : decode cX4_vote 52 = .ok (.iload_n 3, 1) := fo_29 (fw_get da_cX4_vote_1 6 rfl)
theorem dX4_vote_53 : decode cX4_vote 53 = .ok (.ifCond .lt 15, 3) := fo_155 (fw_get da_cX4_vote_1 7 rfl) (by decide +kernel)
theorem dX4_vote_56 : decode cX4_vote 56 = .ok (.iload_n 3, 1) := fo_29 (fw_get da_cX4_vote_1 8 rfl)
theorem dX4_vote_57 : decode cX4_vote 57 = .ok (.aload 5, 2) := fo_25 (fw_get da_cX4_vote_1 9 rfl)
theorem dX4_vote_59 : decode cX4_vote 59 = .ok (.getfield 126, 3) := fo_180 (fw_get da_cX4_vote_1 10 rfl)
theorem dX4_vote_62 : decode cX4_vote 62 = .ok (.iload 6, 2) := fo_21 (fw_get da_cX4_vote_1 11 rfl)
theorem dX4_vote_64 : decode cX4_vote 64 = .ok (.iaload, 1) := fo_46 (fw_get da_cX4_vote_1 12 rfl)
theorem dX4_vote_65 : decode cX4_vote 65 = .ok (.if_icmp .lt 11, 3) := fo_161 (fw_get da_cX4_vote_1 13 rfl) (by decide +kernel)
theorem dX4_vote_68 : decode cX4_vote 68 = .ok (.new 107, 3) := fo_187 (fw_get da_cX4_vote_1 14 rfl)
theorem dX4_vote_71 : decode cX4_vote 71 = .ok (.dup, 1) := fo_89 (fw_get da_cX4_vote_1 15 rfl)
theorem dX4_vote_72 : decode cX4_vote 72 = .ok (.invokespecial 109, 3) := fo_183 (fw_get da_cX4_vote_1 16 rfl)
theorem dX4_vote_75 : decode cX4_vote 75 = .ok (.athrow, 1) := fo_191 (fw_get da_cX4_vote_1 17 rfl)
theorem dX4_vote_76 : decode cX4_vote 76 = .ok (.aload 5, 2) := fo_25 (fw_get da_cX4_vote_1 18 rfl)
theorem dX4_vote_78 : decode cX4_vote 78 = .ok (.aload_n 0, 1) := fo_42 (fw_get da_cX4_vote_1 19 rfl)
def dt_cX4_vote_2 : List (Nat × Nat × Nat × Nat) := [(79, 180, 2, 35), (82, 21, 1, 6), (84, 182, 2, 129), (87, 21, 1, 4), (89, 154, 2, 15), (92, 42, 0, 0), (93, 180, 2, 35), (96, 180, 2, 133), (99, 29, 0, 0), (100, 46, 0, 0), (101, 167, 2, 12), (104, 42, 0, 0), (105, 180, 2, 35), (108, 180, 2, 136), (111, 29, 0, 0), (112, 46, 0, 0), (113, 172, 0, 0)]
theorem da_cX4_vote_2 : fw dt_cX4_vote_2 0 cX4_vote.data.toList = true := by decide +kernel
theorem dX4_vote_79 : decode cX4_vote 79 = .ok (.getfield 35, 3) := fo_180 (fw_get da_cX4_vote_2 0 rfl)
theorem dX4_vote_82 : decode cX4_vote 82 = .ok (.iload 6, 2) := fo_21 (fw_get da_cX4_vote_2 1 rfl)
theorem dX4_vote_84 : decode cX4_vote 84 = .ok (.invokevirtual 129, 3) := fo_182 (fw_get da_cX4_vote_2 2 rfl)
theorem dX4_vote_87 : decode cX4_vote 87 = .ok (.iload 4, 2) := fo_21 (fw_get da_cX4_vote_2 3 rfl)
theorem dX4_vote_89 : decode cX4_vote 89 = .ok (.ifCond .ne 15, 3) := fo_154 (fw_get da_cX4_vote_2 4 rfl) (by decide +kernel)
theorem dX4_vote_92 : decode cX4_vote 92 = .ok (.aload_n 0, 1) := fo_42 (fw_get da_cX4_vote_2 5 rfl)
theorem dX4_vote_93 : decode cX4_vote 93 = .ok (.getfield 35, 3) := fo_180 (fw_get da_cX4_vote_2 6 rfl)
theorem dX4_vote_96 : decode cX4_vote 96 = .ok (.getfield 133, 3) := fo_180 (fw_get da_cX4_vote_2 7 rfl)
theorem dX4_vote_99 : decode cX4_vote 99 = .ok (.iload_n 3, 1) := fo_29 (fw_get da_cX4_vote_2 8 rfl)
theorem dX4_vote_100 : decode cX4_vote 100 = .ok (.iaload, 1) := fo_46 (fw_get da_cX4_vote_2 9 rfl)
theorem dX4_vote_101 : decode cX4_vote 101 = .ok (.goto 12, 3) := fo_167 (fw_get da_cX4_vote_2 10 rfl) (by decide +kernel)
theorem dX4_vote_104 : decode cX4_vote 104 = .ok (.aload_n 0, 1) := fo_42 (fw_get da_cX4_vote_2 11 rfl)
theorem dX4_vote_105 : decode cX4_vote 105 = .ok (.getfield 35, 3) := fo_180 (fw_get da_cX4_vote_2 12 rfl)
theorem dX4_vote_108 : decode cX4_vote 108 = .ok (.getfield 136, 3) := fo_180 (fw_get da_cX4_vote_2 13 rfl)
theorem dX4_vote_111 : decode cX4_vote 111 = .ok (.iload_n 3, 1) := fo_29 (fw_get da_cX4_vote_2 14 rfl)
theorem dX4_vote_112 : decode cX4_vote 112 = .ok (.iaload, 1) := fo_46 (fw_get da_cX4_vote_2 15 rfl)
theorem dX4_vote_113 : decode cX4_vote 113 = .ok (.ireturn, 1) := fo_172 (fw_get da_cX4_vote_2 16 rfl)
set_option maxRecDepth 20000 in
theorem ggX4_candidate_X0_hasRange : GoodIn wsX4_candidate wsX0_hasRange := goodIn_r _ [12, 13, 136, 137] rfl (by decide +kernel)
set_option maxRecDepth 20000 in
theorem gX4_candidate_X0_hasRange : GoodIn wsX4_candidate (wsV RX4 79 RX0 yX0_hasRange wsX0_hasRange) := goodIn_app (goodIn_r _ [8, 9, 10, 11] rfl (by decide +kernel)) ggX4_candidate_X0_hasRange
set_option maxRecDepth 20000 in
theorem ggX4_candidate_X4_laidTree : GoodIn wsX4_candidate wsX4_laidTree := goodIn_r _ [18, 19, 20, 21, 22, 3, 23, 24, 25, 26, 27, 28, 29, 30, 31, 32, 33, 34, 35, 36, 37, 38, 39, 40, 41, 42, 43, 44, 45, 46, 47, 48, 49, 50, 51, 52, 53, 54, 55, 56, 57, 58, 59, 60, 61, 62, 63, 64, 65, 66, 67, 68, 69, 70, 71, 72, 73, 74, 75, 76, 77, 78, 79, 80, 81, 82, 83, 84, 85, 86, 87, 88, 89, 90, 91, 92, 93, 94, 95, 96, 97, 98, 99, 100, 101, 102, 103, 104, 105, 106, 107, 108, 122, 123, 124, 125, 126, 127, 128, 129, 130, 138, 139, 140, 141, 142, 143, 144, 145, 146, 147, 148, 136, 137, 131, 132, 133, 134, 135] rfl (by decide +kernel)
set_option maxRecDepth 20000 in
theorem gX4_candidate_X4_laidTree : GoodIn wsX4_candidate (wsV RX4 71 RX4 yX4_laidTree wsX4_laidTree) := goodIn_app (goodIn_r _ [14, 15, 16, 17] rfl (by decide +kernel)) ggX4_candidate_X4_laidTree
set_option maxRecDepth 20000 in
theorem ggX4_candidate_X2_gather : GoodIn wsX4_candidate wsX2_gather := goodIn_r _ [112, 31, 33, 52, 53, 54, 55, 56, 57, 58, 59, 60, 113, 114, 115, 27, 116, 32, 67, 68, 69, 70, 71, 72, 73, 74, 75, 61, 62, 63, 64, 65, 66, 76, 77, 78, 79, 80, 81, 82, 83, 84, 85, 86, 87, 88, 89, 90, 91, 138, 139, 140, 141, 142, 143, 144, 145, 146, 147, 148, 131, 132, 133, 134, 135] rfl (by decide +kernel)
set_option maxRecDepth 20000 in
theorem gX4_candidate_X2_gather : GoodIn wsX4_candidate (wsV RX4 170 RX2 yX2_gather wsX2_gather) := goodIn_app (goodIn_r _ [109, 110, 111, 27] rfl (by decide +kernel)) ggX4_candidate_X2_gather
set_option maxRecDepth 20000 in
theorem ggX4_candidate_X0_oftenIn : GoodIn wsX4_candidate wsX0_oftenIn := goodIn_r _ [120, 121, 136, 137] rfl (by decide +kernel)
set_option maxRecDepth 20000 in
theorem gX4_candidate_X0_oftenIn : GoodIn wsX4_candidate (wsV RX4 113 RX0 yX0_oftenIn wsX0_oftenIn) := goodIn_app (goodIn_r _ [117, 118, 119, 11] rfl (by decide +kernel)) ggX4_candidate_X0_oftenIn
def dt_cX4_candidate_0 : List (Nat × Nat × Nat × Nat) := [(0, 42, 0, 0), (1, 180, 2, 12), (4, 27, 0, 0), (5, 28, 0, 0), (6, 182, 2, 79), (9, 153, 2, 18), (12, 29, 0, 0), (13, 155, 2, 14), (16, 21, 1, 4), (18, 155, 2, 9), (21, 21, 1, 4), (23, 5, 0, 0), (24, 164, 2, 11), (27, 187, 2, 107), (30, 89, 0, 0), (31, 183, 2, 109), (34, 191, 0, 0), (35, 42, 0, 0), (36, 182, 2, 71), (39, 42, 0, 0)]
theorem da_cX4_candidate_0 : fw dt_cX4_candidate_0 0 cX4_candidate.data.toList = true := by decide +kernel
theorem dX4_candidate_0 : decode cX4_candidate 0 = .ok (.aload_n 0, 1) := fo_42 (fw_get da_cX4_candidate_0 0 rfl)
theorem dX4_candidate_1 : decode cX4_candidate 1 = .ok (.getfield 12, 3) := fo_180 (fw_get da_cX4_candidate_0 1 rfl)
theorem dX4_candidate_4 : decode cX4_candidate 4 = .ok (.iload_n 1, 1) := fo_27 (fw_get da_cX4_candidate_0 2 rfl)
theorem dX4_candidate_5 : decode cX4_candidate 5 = .ok (.iload_n 2, 1) := fo_28 (fw_get da_cX4_candidate_0 3 rfl)
theorem dX4_candidate_6 : decode cX4_candidate 6 = .ok (.invokevirtual 79, 3) := fo_182 (fw_get da_cX4_candidate_0 4 rfl)
theorem dX4_candidate_9 : decode cX4_candidate 9 = .ok (.ifCond .eq 18, 3) := fo_153 (fw_get da_cX4_candidate_0 5 rfl) (by decide +kernel)
theorem dX4_candidate_12 : decode cX4_candidate 12 = .ok (.iload_n 3, 1) := fo_29 (fw_get da_cX4_candidate_0 6 rfl)
theorem dX4_candidate_13 : decode cX4_candidate 13 = .ok (.ifCond .lt 14, 3) := fo_155 (fw_get da_cX4_candidate_0 7 rfl) (by decide +kernel)
theorem dX4_candidate_16 : decode cX4_candidate 16 = .ok (.iload 4, 2) := fo_21 (fw_get da_cX4_candidate_0 8 rfl)
theorem dX4_candidate_18 : decode cX4_candidate 18 = .ok (.ifCond .lt 9, 3) := fo_155 (fw_get da_cX4_candidate_0 9 rfl) (by decide +kernel)
theorem dX4_candidate_21 : decode cX4_candidate 21 = .ok (.iload 4, 2) := fo_21 (fw_get da_cX4_candidate_0 10 rfl)
theorem dX4_candidate_23 : decode cX4_candidate 23 = .ok (.iconst 2, 1) := fo_5 (fw_get da_cX4_candidate_0 11 rfl)
theorem dX4_candidate_24 : decode cX4_candidate 24 = .ok (.if_icmp .le 11, 3) := fo_164 (fw_get da_cX4_candidate_0 12 rfl) (by decide +kernel)
theorem dX4_candidate_27 : decode cX4_candidate 27 = .ok (.new 107, 3) := fo_187 (fw_get da_cX4_candidate_0 13 rfl)
theorem dX4_candidate_30 : decode cX4_candidate 30 = .ok (.dup, 1) := fo_89 (fw_get da_cX4_candidate_0 14 rfl)
theorem dX4_candidate_31 : decode cX4_candidate 31 = .ok (.invokespecial 109, 3) := fo_183 (fw_get da_cX4_candidate_0 15 rfl)
theorem dX4_candidate_34 : decode cX4_candidate 34 = .ok (.athrow, 1) := fo_191 (fw_get da_cX4_candidate_0 16 rfl)
theorem dX4_candidate_35 : decode cX4_candidate 35 = .ok (.aload_n 0, 1) := fo_42 (fw_get da_cX4_candidate_0 17 rfl)
theorem dX4_candidate_36 : decode cX4_candidate 36 = .ok (.invokevirtual 71, 3) := fo_182 (fw_get da_cX4_candidate_0 18 rfl)
theorem dX4_candidate_39 : decode cX4_candidate 39 = .ok (.aload_n 0, 1) := fo_42 (fw_get da_cX4_candidate_0 19 rfl)
def dt_cX4_candidate_1 : List (Nat × Nat × Nat × Nat) := [(40, 180, 2, 35), (43, 27, 0, 0), (44, 28, 0, 0), (45, 182, 2, 170), (48, 29, 0, 0), (49, 42, 0, 0), (50, 180, 2, 35), (53, 180, 2, 174), (56, 161, 2, 11), (59, 187, 2, 107), (62, 89, 0, 0), (63, 183, 2, 109), (66, 191, 0, 0), (67, 21, 1, 4)]
theorem da_cX4_candidate_1 : fw dt_cX4_candidate_1 0 cX4_candidate.data.toList = true := by decide +kernel
theorem dX4_candidate_40 : decode cX4_candidate 40 = .ok (.getfield 35, 3) := fo_180 (fw_get da_cX4_candidate_1 0 rfl)
theorem dX4_candidate_43 : decode cX4_candidate 43 = .ok (.iload_n 1, 1) := fo_27 (fw_get da_cX4_candidate_1 1 rfl)
theorem dX4_candidate_44 : decode cX4_candidate 44 = .ok (.iload_n 2, 1) := fo_28 (fw_get da_cX4_candidate_1 2 rfl)
theorem dX4_candidate_45 : decode cX4_candidate 45 = .ok (.invokevirtual 170, 3) := fo_182 (fw_get da_cX4_candidate_1 3 rfl)
theorem dX4_candidate_48 : decode cX4_candidate 48 = .ok (.iload_n 3, 1) := fo_29 (fw_get da_cX4_candidate_1 4 rfl)
theorem dX4_candidate_49 : decode cX4_candidate 49 = .ok (.aload_n 0, 1) := fo_42 (fw_get da_cX4_candidate_1 5 rfl)
theorem dX4_candidate_50 : decode cX4_candidate 50 = .ok (.getfield 35, 3) := fo_180 (fw_get da_cX4_candidate_1 6 rfl)
theorem dX4_candidate_53 : decode cX4_candidate 53 = .ok (.getfield 174, 3) := fo_180 (fw_get da_cX4_candidate_1 7 rfl)
theorem dX4_candidate_56 : decode cX4_candidate 56 = .ok (.if_icmp .lt 11, 3) := fo_161 (fw_get da_cX4_candidate_1 8 rfl) (by decide +kernel)
theorem dX4_candidate_59 : decode cX4_candidate 59 = .ok (.new 107, 3) := fo_187 (fw_get da_cX4_candidate_1 9 rfl)
theorem dX4_candidate_62 : decode cX4_candidate 62 = .ok (.dup, 1) := fo_89 (fw_get da_cX4_candidate_1 10 rfl)
theorem dX4_candidate_63 : decode cX4_candidate 63 = .ok (.invokespecial 109, 3) := fo_183 (fw_get da_cX4_candidate_1 11 rfl)
theorem dX4_candidate_66 : decode cX4_candidate 66 = .ok (.athrow, 1) := fo_191 (fw_get da_cX4_candidate_1 12 rfl)
theorem dX4_candidate_67 : decode cX4_candidate 67 = .ok (.iload 4, 2) := fo_21 (fw_get da_cX4_candidate_1 13 rfl)
theorem dX4_candidate_69 : decode cX4_candidate 69 = .ok (.lookupswitch 47 #[(0, 27), (1, 37)], 27) := by decide +kernel
def dt_cX4_candidate_2 : List (Nat × Nat × Nat × Nat) := [(96, 42, 0, 0), (97, 180, 2, 35), (100, 180, 2, 133), (103, 29, 0, 0), (104, 46, 0, 0), (105, 172, 0, 0), (106, 42, 0, 0), (107, 180, 2, 35), (110, 180, 2, 136), (113, 29, 0, 0), (114, 46, 0, 0), (115, 172, 0, 0), (116, 42, 0, 0), (117, 180, 2, 12), (120, 42, 0, 0), (121, 180, 2, 35), (124, 180, 2, 133), (127, 29, 0, 0), (128, 46, 0, 0), (129, 27, 0, 0)]
theorem da_cX4_candidate_2 : fw dt_cX4_candidate_2 0 cX4_candidate.data.toList = true := by decide +kernel
theorem dX4_candidate_96 : decode cX4_candidate 96 = .ok (.aload_n 0, 1) := fo_42 (fw_get da_cX4_candidate_2 0 rfl)
theorem dX4_candidate_97 : decode cX4_candidate 97 = .ok (.getfield 35, 3) := fo_180 (fw_get da_cX4_candidate_2 1 rfl)
theorem dX4_candidate_100 : decode cX4_candidate 100 = .ok (.getfield 133, 3) := fo_180 (fw_get da_cX4_candidate_2 2 rfl)
theorem dX4_candidate_103 : decode cX4_candidate 103 = .ok (.iload_n 3, 1) := fo_29 (fw_get da_cX4_candidate_2 3 rfl)
theorem dX4_candidate_104 : decode cX4_candidate 104 = .ok (.iaload, 1) := fo_46 (fw_get da_cX4_candidate_2 4 rfl)
theorem dX4_candidate_105 : decode cX4_candidate 105 = .ok (.ireturn, 1) := fo_172 (fw_get da_cX4_candidate_2 5 rfl)
theorem dX4_candidate_106 : decode cX4_candidate 106 = .ok (.aload_n 0, 1) := fo_42 (fw_get da_cX4_candidate_2 6 rfl)
theorem dX4_candidate_107 : decode cX4_candidate 107 = .ok (.getfield 35, 3) := fo_180 (fw_get da_cX4_candidate_2 7 rfl)
theorem dX4_candidate_110 : decode cX4_candidate 110 = .ok (.getfield 136, 3) := fo_180 (fw_get da_cX4_candidate_2 8 rfl)
theorem dX4_candidate_113 : decode cX4_candidate 113 = .ok (.iload_n 3, 1) := fo_29 (fw_get da_cX4_candidate_2 9 rfl)
theorem dX4_candidate_114 : decode cX4_candidate 114 = .ok (.iaload, 1) := fo_46 (fw_get da_cX4_candidate_2 10 rfl)
theorem dX4_candidate_115 : decode cX4_candidate 115 = .ok (.ireturn, 1) := fo_172 (fw_get da_cX4_candidate_2 11 rfl)
theorem dX4_candidate_116 : decode cX4_candidate 116 = .ok (.aload_n 0, 1) := fo_42 (fw_get da_cX4_candidate_2 12 rfl)
theorem dX4_candidate_117 : decode cX4_candidate 117 = .ok (.getfield 12, 3) := fo_180 (fw_get da_cX4_candidate_2 13 rfl)
theorem dX4_candidate_120 : decode cX4_candidate 120 = .ok (.aload_n 0, 1) := fo_42 (fw_get da_cX4_candidate_2 14 rfl)
theorem dX4_candidate_121 : decode cX4_candidate 121 = .ok (.getfield 35, 3) := fo_180 (fw_get da_cX4_candidate_2 15 rfl)
theorem dX4_candidate_124 : decode cX4_candidate 124 = .ok (.getfield 133, 3) := fo_180 (fw_get da_cX4_candidate_2 16 rfl)
theorem dX4_candidate_127 : decode cX4_candidate 127 = .ok (.iload_n 3, 1) := fo_29 (fw_get da_cX4_candidate_2 17 rfl)
theorem dX4_candidate_128 : decode cX4_candidate 128 = .ok (.iaload, 1) := fo_46 (fw_get da_cX4_candidate_2 18 rfl)
theorem dX4_candidate_129 : decode cX4_candidate 129 = .ok (.iload_n 1, 1) := fo_27 (fw_get da_cX4_candidate_2 19 rfl)
def dt_cX4_candidate_3 : List (Nat × Nat × Nat × Nat) := [(130, 28, 0, 0), (131, 182, 2, 113), (134, 172, 0, 0)]
theorem da_cX4_candidate_3 : fw dt_cX4_candidate_3 0 cX4_candidate.data.toList = true := by decide +kernel
theorem dX4_candidate_130 : decode cX4_candidate 130 = .ok (.iload_n 2, 1) := fo_28 (fw_get da_cX4_candidate_3 0 rfl)
theorem dX4_candidate_131 : decode cX4_candidate 131 = .ok (.invokevirtual 113, 3) := fo_182 (fw_get da_cX4_candidate_3 1 rfl)
theorem dX4_candidate_134 : decode cX4_candidate 134 = .ok (.ireturn, 1) := fo_172 (fw_get da_cX4_candidate_3 2 rfl)
set_option maxRecDepth 20000 in
theorem ggX4_heavyAt_X0_hasRange : GoodIn wsX4_heavyAt wsX0_hasRange := goodIn_r _ [12, 13, 153, 154] rfl (by decide +kernel)
set_option maxRecDepth 20000 in
theorem gX4_heavyAt_X0_hasRange : GoodIn wsX4_heavyAt (wsV RX4 79 RX0 yX0_hasRange wsX0_hasRange) := goodIn_app (goodIn_r _ [8, 9, 10, 11] rfl (by decide +kernel)) ggX4_heavyAt_X0_hasRange
set_option maxRecDepth 20000 in
theorem ggX4_heavyAt_X4_isShare : GoodIn wsX4_heavyAt wsX4_isShare := goodIn_r _ [17] rfl (by decide +kernel)
set_option maxRecDepth 20000 in
theorem gX4_heavyAt_X4_isShare : GoodIn wsX4_heavyAt (va_wsS RX4 186 yX4_isShare wsX4_isShare) := goodIn_app (goodIn_r _ [14, 15, 16] rfl (by decide +kernel)) ggX4_heavyAt_X4_isShare
set_option maxRecDepth 20000 in
theorem ggX4_heavyAt_X4_isEnough : GoodIn wsX4_heavyAt wsX4_isEnough := goodIn_r _ [21, 22, 139, 140, 141, 142, 143, 144, 145, 146, 147] rfl (by decide +kernel)
set_option maxRecDepth 20000 in
theorem gX4_heavyAt_X4_isEnough : GoodIn wsX4_heavyAt (wsV RX4 189 RX4 yX4_isEnough wsX4_isEnough) := goodIn_app (goodIn_r _ [18, 19, 20, 16] rfl (by decide +kernel)) ggX4_heavyAt_X4_isEnough
set_option maxRecDepth 20000 in
theorem ggX4_heavyAt_X4_laidTree : GoodIn wsX4_heavyAt wsX4_laidTree := goodIn_r _ [26, 27, 28, 22, 29, 3, 30, 31, 32, 33, 34, 35, 36, 37, 38, 39, 40, 41, 42, 43, 44, 45, 46, 47, 48, 49, 50, 51, 52, 53, 54, 55, 56, 57, 58, 59, 60, 61, 62, 63, 64, 65, 66, 67, 68, 69, 70, 71, 72, 73, 74, 75, 76, 77, 78, 79, 80, 81, 82, 83, 84, 85, 86, 87, 88, 89, 90, 91, 92, 93, 94, 95, 96, 97, 98, 99, 100, 101, 102, 103, 104, 105, 106, 107, 108, 109, 110, 111, 112, 113, 114, 115, 139, 140, 141, 142, 143, 144, 145, 146, 147, 155, 156, 157, 158, 159, 160, 161, 162, 163, 164, 165, 153, 154, 148, 149, 150, 151, 152] rfl (by decide +kernel)
set_option maxRecDepth 20000 in
theorem gX4_heavyAt_X4_laidTree : GoodIn wsX4_heavyAt (wsV RX4 71 RX4 yX4_laidTree wsX4_laidTree) := goodIn_app (goodIn_r _ [23, 24, 25, 16] rfl (by decide +kernel)) ggX4_heavyAt_X4_laidTree
set_option maxRecDepth 20000 in
theorem ggX4_heavyAt_X4_gatherHeavy : GoodIn wsX4_heavyAt wsX4_gatherHeavy := goodIn_r _ [119, 4, 5, 7, 3, 6, 120, 121, 122, 34, 123, 38, 40, 59, 60, 61, 62, 63, 64, 65, 66, 67, 124, 125, 126, 127, 39, 74, 75, 76, 77, 78, 79, 80, 81, 82, 68, 69, 70, 71, 72, 73, 83, 84, 85, 86, 87, 88, 89, 90, 91, 92, 93, 94, 95, 96, 97, 98, 128, 129, 130, 11, 131, 132, 133, 134, 135, 136, 137, 16, 138, 139, 140, 141, 142, 143, 144, 145, 146, 147, 148, 149, 150, 151, 152, 155, 156, 157, 158, 159, 160, 161, 162, 163, 164, 165, 153, 154] rfl (by decide +kernel)
set_option maxRecDepth 20000 in
theorem gX4_heavyAt_X4_gatherHeavy : GoodIn wsX4_heavyAt (wsV RX4 192 RX4 yX4_gatherHeavy wsX4_gatherHeavy) := goodIn_app (goodIn_r _ [116, 117, 118, 16] rfl (by decide +kernel)) ggX4_heavyAt_X4_gatherHeavy
def dt_cX4_heavyAt_0 : List (Nat × Nat × Nat × Nat) := [(0, 42, 0, 0), (1, 180, 2, 12), (4, 27, 0, 0), (5, 28, 0, 0), (6, 182, 2, 79), (9, 153, 2, 28), (12, 29, 0, 0), (13, 21, 1, 4), (15, 184, 2, 186), (18, 153, 2, 19), (21, 21, 1, 5), (23, 155, 2, 14), (26, 21, 1, 6), (28, 155, 2, 9), (31, 21, 1, 6), (33, 4, 0, 0), (34, 164, 2, 11), (37, 187, 2, 107), (40, 89, 0, 0), (41, 183, 2, 109)]
theorem da_cX4_heavyAt_0 : fw dt_cX4_heavyAt_0 0 cX4_heavyAt.data.toList = true := by decide +kernel
theorem dX4_heavyAt_0 : decode cX4_heavyAt 0 = .ok (.aload_n 0, 1) := fo_42 (fw_get da_cX4_heavyAt_0 0 rfl)
theorem dX4_heavyAt_1 : decode cX4_heavyAt 1 = .ok (.getfield 12, 3) := fo_180 (fw_get da_cX4_heavyAt_0 1 rfl)
theorem dX4_heavyAt_4 : decode cX4_heavyAt 4 = .ok (.iload_n 1, 1) := fo_27 (fw_get da_cX4_heavyAt_0 2 rfl)
theorem dX4_heavyAt_5 : decode cX4_heavyAt 5 = .ok (.iload_n 2, 1) := fo_28 (fw_get da_cX4_heavyAt_0 3 rfl)
theorem dX4_heavyAt_6 : decode cX4_heavyAt 6 = .ok (.invokevirtual 79, 3) := fo_182 (fw_get da_cX4_heavyAt_0 4 rfl)
theorem dX4_heavyAt_9 : decode cX4_heavyAt 9 = .ok (.ifCond .eq 28, 3) := fo_153 (fw_get da_cX4_heavyAt_0 5 rfl) (by decide +kernel)
theorem dX4_heavyAt_12 : decode cX4_heavyAt 12 = .ok (.iload_n 3, 1) := fo_29 (fw_get da_cX4_heavyAt_0 6 rfl)
theorem dX4_heavyAt_13 : decode cX4_heavyAt 13 = .ok (.iload 4, 2) := fo_21 (fw_get da_cX4_heavyAt_0 7 rfl)
theorem dX4_heavyAt_15 : decode cX4_heavyAt 15 = .ok (.invokestatic 186, 3) := fo_184 (fw_get da_cX4_heavyAt_0 8 rfl)
theorem dX4_heavyAt_18 : decode cX4_heavyAt 18 = .ok (.ifCond .eq 19, 3) := fo_153 (fw_get da_cX4_heavyAt_0 9 rfl) (by decide +kernel)
theorem dX4_heavyAt_21 : decode cX4_heavyAt 21 = .ok (.iload 5, 2) := fo_21 (fw_get da_cX4_heavyAt_0 10 rfl)
theorem dX4_heavyAt_23 : decode cX4_heavyAt 23 = .ok (.ifCond .lt 14, 3) := fo_155 (fw_get da_cX4_heavyAt_0 11 rfl) (by decide +kernel)
theorem dX4_heavyAt_26 : decode cX4_heavyAt 26 = .ok (.iload 6, 2) := fo_21 (fw_get da_cX4_heavyAt_0 12 rfl)
theorem dX4_heavyAt_28 : decode cX4_heavyAt 28 = .ok (.ifCond .lt 9, 3) := fo_155 (fw_get da_cX4_heavyAt_0 13 rfl) (by decide +kernel)
theorem dX4_heavyAt_31 : decode cX4_heavyAt 31 = .ok (.iload 6, 2) := fo_21 (fw_get da_cX4_heavyAt_0 14 rfl)
theorem dX4_heavyAt_33 : decode cX4_heavyAt 33 = .ok (.iconst 1, 1) := fo_4 (fw_get da_cX4_heavyAt_0 15 rfl)
theorem dX4_heavyAt_34 : decode cX4_heavyAt 34 = .ok (.if_icmp .le 11, 3) := fo_164 (fw_get da_cX4_heavyAt_0 16 rfl) (by decide +kernel)
theorem dX4_heavyAt_37 : decode cX4_heavyAt 37 = .ok (.new 107, 3) := fo_187 (fw_get da_cX4_heavyAt_0 17 rfl)
theorem dX4_heavyAt_40 : decode cX4_heavyAt 40 = .ok (.dup, 1) := fo_89 (fw_get da_cX4_heavyAt_0 18 rfl)
theorem dX4_heavyAt_41 : decode cX4_heavyAt 41 = .ok (.invokespecial 109, 3) := fo_183 (fw_get da_cX4_heavyAt_0 19 rfl)
def dt_cX4_heavyAt_1 : List (Nat × Nat × Nat × Nat) := [(44, 191, 0, 0), (45, 42, 0, 0), (46, 29, 0, 0), (47, 21, 1, 4), (49, 182, 2, 189), (52, 154, 2, 11), (55, 187, 2, 107), (58, 89, 0, 0), (59, 183, 2, 109), (62, 191, 0, 0), (63, 42, 0, 0), (64, 42, 0, 0), (65, 182, 2, 71), (68, 27, 0, 0), (69, 28, 0, 0), (70, 29, 0, 0), (71, 21, 1, 4), (73, 182, 2, 192), (76, 21, 1, 5), (78, 42, 0, 0)]
theorem da_cX4_heavyAt_1 : fw dt_cX4_heavyAt_1 0 cX4_heavyAt.data.toList = true := by decide +kernel
theorem dX4_heavyAt_44 : decode cX4_heavyAt 44 = .ok (.athrow, 1) := fo_191 (fw_get da_cX4_heavyAt_1 0 rfl)
theorem dX4_heavyAt_45 : decode cX4_heavyAt 45 = .ok (.aload_n 0, 1) := fo_42 (fw_get da_cX4_heavyAt_1 1 rfl)
theorem dX4_heavyAt_46 : decode cX4_heavyAt 46 = .ok (.iload_n 3, 1) := fo_29 (fw_get da_cX4_heavyAt_1 2 rfl)
theorem dX4_heavyAt_47 : decode cX4_heavyAt 47 = .ok (.iload 4, 2) := fo_21 (fw_get da_cX4_heavyAt_1 3 rfl)
theorem dX4_heavyAt_49 : decode cX4_heavyAt 49 = .ok (.invokevirtual 189, 3) := fo_182 (fw_get da_cX4_heavyAt_1 4 rfl)
theorem dX4_heavyAt_52 : decode cX4_heavyAt 52 = .ok (.ifCond .ne 11, 3) := fo_154 (fw_get da_cX4_heavyAt_1 5 rfl) (by decide +kernel)
theorem dX4_heavyAt_55 : decode cX4_heavyAt 55 = .ok (.new 107, 3) := fo_187 (fw_get da_cX4_heavyAt_1 6 rfl)
theorem dX4_heavyAt_58 : decode cX4_heavyAt 58 = .ok (.dup, 1) := fo_89 (fw_get da_cX4_heavyAt_1 7 rfl)
theorem dX4_heavyAt_59 : decode cX4_heavyAt 59 = .ok (.invokespecial 109, 3) := fo_183 (fw_get da_cX4_heavyAt_1 8 rfl)
theorem dX4_heavyAt_62 : decode cX4_heavyAt 62 = .ok (.athrow, 1) := fo_191 (fw_get da_cX4_heavyAt_1 9 rfl)
theorem dX4_heavyAt_63 : decode cX4_heavyAt 63 = .ok (.aload_n 0, 1) := fo_42 (fw_get da_cX4_heavyAt_1 10 rfl)
theorem dX4_heavyAt_64 : decode cX4_heavyAt 64 = .ok (.aload_n 0, 1) := fo_42 (fw_get da_cX4_heavyAt_1 11 rfl)
theorem dX4_heavyAt_65 : decode cX4_heavyAt 65 = .ok (.invokevirtual 71, 3) := fo_182 (fw_get da_cX4_heavyAt_1 12 rfl)
theorem dX4_heavyAt_68 : decode cX4_heavyAt 68 = .ok (.iload_n 1, 1) := fo_27 (fw_get da_cX4_heavyAt_1 13 rfl)
theorem dX4_heavyAt_69 : decode cX4_heavyAt 69 = .ok (.iload_n 2, 1) := fo_28 (fw_get da_cX4_heavyAt_1 14 rfl)
theorem dX4_heavyAt_70 : decode cX4_heavyAt 70 = .ok (.iload_n 3, 1) := fo_29 (fw_get da_cX4_heavyAt_1 15 rfl)
theorem dX4_heavyAt_71 : decode cX4_heavyAt 71 = .ok (.iload 4, 2) := fo_21 (fw_get da_cX4_heavyAt_1 16 rfl)
theorem dX4_heavyAt_73 : decode cX4_heavyAt 73 = .ok (.invokevirtual 192, 3) := fo_182 (fw_get da_cX4_heavyAt_1 17 rfl)
theorem dX4_heavyAt_76 : decode cX4_heavyAt 76 = .ok (.iload 5, 2) := fo_21 (fw_get da_cX4_heavyAt_1 18 rfl)
theorem dX4_heavyAt_78 : decode cX4_heavyAt 78 = .ok (.aload_n 0, 1) := fo_42 (fw_get da_cX4_heavyAt_1 19 rfl)
def dt_cX4_heavyAt_2 : List (Nat × Nat × Nat × Nat) := [(79, 180, 2, 35), (82, 180, 2, 174), (85, 161, 2, 11), (88, 187, 2, 107), (91, 89, 0, 0), (92, 183, 2, 109), (95, 191, 0, 0), (96, 21, 1, 6), (98, 154, 2, 16), (101, 42, 0, 0), (102, 180, 2, 35), (105, 180, 2, 133), (108, 21, 1, 5), (110, 46, 0, 0), (111, 167, 2, 13), (114, 42, 0, 0), (115, 180, 2, 35), (118, 180, 2, 136), (121, 21, 1, 5), (123, 46, 0, 0)]
theorem da_cX4_heavyAt_2 : fw dt_cX4_heavyAt_2 0 cX4_heavyAt.data.toList = true := by decide +kernel
theorem dX4_heavyAt_79 : decode cX4_heavyAt 79 = .ok (.getfield 35, 3) := fo_180 (fw_get da_cX4_heavyAt_2 0 rfl)
theorem dX4_heavyAt_82 : decode cX4_heavyAt 82 = .ok (.getfield 174, 3) := fo_180 (fw_get da_cX4_heavyAt_2 1 rfl)
theorem dX4_heavyAt_85 : decode cX4_heavyAt 85 = .ok (.if_icmp .lt 11, 3) := fo_161 (fw_get da_cX4_heavyAt_2 2 rfl) (by decide +kernel)
theorem dX4_heavyAt_88 : decode cX4_heavyAt 88 = .ok (.new 107, 3) := fo_187 (fw_get da_cX4_heavyAt_2 3 rfl)
theorem dX4_heavyAt_91 : decode cX4_heavyAt 91 = .ok (.dup, 1) := fo_89 (fw_get da_cX4_heavyAt_2 4 rfl)
theorem dX4_heavyAt_92 : decode cX4_heavyAt 92 = .ok (.invokespecial 109, 3) := fo_183 (fw_get da_cX4_heavyAt_2 5 rfl)
theorem dX4_heavyAt_95 : decode cX4_heavyAt 95 = .ok (.athrow, 1) := fo_191 (fw_get da_cX4_heavyAt_2 6 rfl)
theorem dX4_heavyAt_96 : decode cX4_heavyAt 96 = .ok (.iload 6, 2) := fo_21 (fw_get da_cX4_heavyAt_2 7 rfl)
theorem dX4_heavyAt_98 : decode cX4_heavyAt 98 = .ok (.ifCond .ne 16, 3) := fo_154 (fw_get da_cX4_heavyAt_2 8 rfl) (by decide +kernel)
theorem dX4_heavyAt_101 : decode cX4_heavyAt 101 = .ok (.aload_n 0, 1) := fo_42 (fw_get da_cX4_heavyAt_2 9 rfl)
theorem dX4_heavyAt_102 : decode cX4_heavyAt 102 = .ok (.getfield 35, 3) := fo_180 (fw_get da_cX4_heavyAt_2 10 rfl)
theorem dX4_heavyAt_105 : decode cX4_heavyAt 105 = .ok (.getfield 133, 3) := fo_180 (fw_get da_cX4_heavyAt_2 11 rfl)
theorem dX4_heavyAt_108 : decode cX4_heavyAt 108 = .ok (.iload 5, 2) := fo_21 (fw_get da_cX4_heavyAt_2 12 rfl)
theorem dX4_heavyAt_110 : decode cX4_heavyAt 110 = .ok (.iaload, 1) := fo_46 (fw_get da_cX4_heavyAt_2 13 rfl)
theorem dX4_heavyAt_111 : decode cX4_heavyAt 111 = .ok (.goto 13, 3) := fo_167 (fw_get da_cX4_heavyAt_2 14 rfl) (by decide +kernel)
theorem dX4_heavyAt_114 : decode cX4_heavyAt 114 = .ok (.aload_n 0, 1) := fo_42 (fw_get da_cX4_heavyAt_2 15 rfl)
theorem dX4_heavyAt_115 : decode cX4_heavyAt 115 = .ok (.getfield 35, 3) := fo_180 (fw_get da_cX4_heavyAt_2 16 rfl)
theorem dX4_heavyAt_118 : decode cX4_heavyAt 118 = .ok (.getfield 136, 3) := fo_180 (fw_get da_cX4_heavyAt_2 17 rfl)
theorem dX4_heavyAt_121 : decode cX4_heavyAt 121 = .ok (.iload 5, 2) := fo_21 (fw_get da_cX4_heavyAt_2 18 rfl)
theorem dX4_heavyAt_123 : decode cX4_heavyAt 123 = .ok (.iaload, 1) := fo_46 (fw_get da_cX4_heavyAt_2 19 rfl)
def dt_cX4_heavyAt_3 : List (Nat × Nat × Nat × Nat) := [(124, 172, 0, 0)]
theorem da_cX4_heavyAt_3 : fw dt_cX4_heavyAt_3 0 cX4_heavyAt.data.toList = true := by decide +kernel
theorem dX4_heavyAt_124 : decode cX4_heavyAt 124 = .ok (.ireturn, 1) := fo_172 (fw_get da_cX4_heavyAt_3 0 rfl)


abbrev EXN : String := "java/util/NoSuchElementException"
abbrev EXC : List String := ["java/lang/RuntimeException", "java/lang/Exception"]
abbrev EXD : List Cond := [.declares (Bundle.init0 "java/lang/RuntimeException"), .declares (Bundle.init0 "java/lang/Exception"), .declares (Bundle.init0 Bundle.tN), .castable EXN EXN]
def ki_ThA (A : Nat → Prop) (U : State) : Prop := (va_Nw (.castable EXN EXN) U ∧ va_Nw (.declares (Bundle.init0 "java/lang/RuntimeException")) U ∧ va_Nw (.declares (Bundle.init0 "java/lang/Exception")) U ∧ va_Nw (.declares (Bundle.init0 Bundle.tN)) U) ∧ vx_Zq Bundle.tN "UNASSIGNED_STACK" Bundle.steD A U U.heap ∧ vx_Zq Bundle.tN "SUPPRESSED_SENTINEL" Bundle.listD A U U.heap
theorem ki_ThA.call {A : Nat → Prop} {U : State} (h : ki_ThA A U) (g : JFrame) (mk : MethodId) (a : Array Value) : ki_ThA A (U.calling g mk a) :=
  ⟨⟨va_Nw.same (u := U) (U := U.calling g mk a) rfl rfl h.1.1, va_Nw.same (u := U) (U := U.calling g mk a) rfl rfl h.1.2.1, va_Nw.same (u := U) (U := U.calling g mk a) rfl rfl h.1.2.2.1, va_Nw.same (u := U) (U := U.calling g mk a) rfl rfl h.1.2.2.2⟩, vx_Zq.moved (u := U) (U := U.calling g mk a) (Vm.Alike.refl U.vm) h.2.1, vx_Zq.moved (u := U) (U := U.calling g mk a) (Vm.Alike.refl U.vm) h.2.2⟩
theorem ki_ThA.from {A A2 : Nat → Prop} {s U : State} {H : Heap} {locs : List Loc} (h : ki_ThA A s) (hS : va_S A s.heap H locs) (hU : U.heap = H) (hW : s.WarmedH U.vm) (hn : ∀ q, A2 q → A q) : ki_ThA A2 U := by
  subst hU
  refine ⟨⟨va_Nw.warmC hW h.1.1, va_Nw.warmD hW h.1.2.1, va_Nw.warmD hW h.1.2.2.1, va_Nw.warmD hW h.1.2.2.2⟩, ?_, ?_⟩
  · exact vx_Zq.moved hW.alike ((h.2.1.kept (fun a h1 h2 => hS.2.1 a h1 h2)).narrow hn)
  · exact vx_Zq.moved hW.alike ((h.2.2.kept (fun a h1 h2 => hS.2.1 a h1 h2)).narrow hn)
theorem ki_ex {A : Nat → Prop} {args : Array Value} {s : State} (h : ki_ThA A s) : ∀ w ∈ EXD, w.before args s = true := vx_c (va_Nw.use rfl h.1.2.1) (vx_c (va_Nw.use rfl h.1.2.2.1) (vx_c (va_Nw.use rfl h.1.2.2.2) (vx_c (va_Nw.use rfl h.1.1) vx_n)))
theorem ki_bad : ∀ w ∈ (vx_at0 RX4 109 EXN EXC).filter (fun w => !goodWord w), w ∈ EXD := by decide +kernel
theorem ki_ot : ∀ w ∈ Cond.classLink RX4 107 EXN :: Cond.initialized EXN :: vx_at0 RX4 109 EXN EXC, vx_ot w = true := by decide +kernel
theorem ki_ints {args : Array Value} {s : State} {D : va_G} {cl : List vw_C} (h : (Cond.arrayClass .int).before args s = true) (hK : va_K D cl [] s) : ∃ cA : ClassId, va_K D cl [(cA, .int)] s := by
  obtain ⟨cA, kA, comp, h1, h2, h3⟩ := Cond.arrayClass_spec h
  refine ⟨cA, hK.1, fun k q hq => ?_⟩
  have hz : k < 1 := (List.getElem?_eq_some_iff.mp hq).1
  rw [show k = 0 by omega] at hq
  cases hq
  exact ⟨fun n z => ⟨fun k h => (by cases h), kA, h2, comp, h3⟩, h1⟩

set_option maxHeartbeats 4000000 in
set_option maxRecDepth 100000 in
theorem c_X4_at (l : Launch) (hl0 : l.stackTraces = false) (dC : Nat → ClassId) (dI : Nat → Nat → Nat) (m_ : Nat) (q_row : Nat) (q_t : Nat) (t_ : Nat) (h0 : Nat) (k0 : Nat) (w_ : Nat) (z_ : Nat) (slots : Int32) (old : Int32) (q_cell : Nat) (cyI : ClassId) (len : Int32) (f : Nat → Int32) (p0 : Int32) (sz : Nat) (a0 : 0 ≤ len.toInt) (a1 : len.toInt ≤ 160) : vx_Met l yX4_at wsX4_at ({ frames := 8, cells := 1, slots := 6, locals := 360 }) (va_Pc [.ref m_, .int p0] (fun U => U.heap.size = sz ∧ va_P (dC, dI) vwCl [kx_4 m_ q_row q_t t_ h0 k0 w_ z_ slots old, kx_0 q_row q_cell len, kx_a q_cell cyI 160 f] U.heap ∧ va_K (dC, dI) vwCl [(cyI, .int)] U ∧ va_D (fun _ => True) [kx_4 m_ q_row q_t t_ h0 k0 w_ z_ slots old, kx_0 q_row q_cell len, kx_a q_cell cyI 160 f] ∧ ki_ThA (va_A [kx_4 m_ q_row q_t t_ h0 k0 w_ z_ slots old, kx_0 q_row q_cell len, kx_a q_cell cyI 160 f] sz) U)) (va_Qi (fun (r : Int32) (_ : Unit) => 0 ≤ p0.toInt ∧ p0.toInt < len.toInt ∧ r = f p0.toNatClampNeg) (fun (_ : Unit) (t : State) => va_P (dC, dI) vwCl [kx_4 m_ q_row q_t t_ h0 k0 w_ z_ slots old, kx_0 q_row q_cell len, kx_a q_cell cyI 160 f] t.heap ∧ va_K (dC, dI) vwCl [(cyI, .int)] t ∧ va_D (va_A [kx_4 m_ q_row q_t t_ h0 k0 w_ z_ slots old, kx_0 q_row q_cell len, kx_a q_cell cyI 160 f] sz) [kx_4 m_ q_row q_t t_ h0 k0 w_ z_ slots old, kx_0 q_row q_cell len, kx_a q_cell cyI 160 f]) (va_A [kx_4 m_ q_row q_t t_ h0 k0 w_ z_ slots old, kx_0 q_row q_cell len, kx_a q_cell cyI 160 f] sz)) (vx_X (fun u : Unit => (p0.toInt < 0 ∨ len.toInt ≤ p0.toInt)) (fun (E : String) (u : Unit) (t : State) => E = EXN ∧ va_P (dC, dI) vwCl [kx_4 m_ q_row q_t t_ h0 k0 w_ z_ slots old, kx_0 q_row q_cell len, kx_a q_cell cyI 160 f] t.heap ∧ va_K (dC, dI) vwCl [(cyI, .int)] t ∧ va_D (va_A [kx_4 m_ q_row q_t t_ h0 k0 w_ z_ slots old, kx_0 q_row q_cell len, kx_a q_cell cyI 160 f] sz) [kx_4 m_ q_row q_t t_ h0 k0 w_ z_ slots old, kx_0 q_row q_cell len, kx_a q_cell cyI 160 f]) (va_A [kx_4 m_ q_row q_t t_ h0 k0 w_ z_ slots old, kx_0 q_row q_cell len, kx_a q_cell cyI 160 f] sz)) 1 6 (va_A [kx_4 m_ q_row q_t t_ h0 k0 w_ z_ slots old, kx_0 q_row q_cell len, kx_a q_cell cyI 160 f] sz) := by
  refine vx_ofW (cc := cX4_at) (maxL := 2) (ret := (some .int)) (by decide) rfl ?_
  intro p e s m args below meth c s₁ B hml htab hv
  obtain ⟨rfl, hsz, hP, hK, hD0, hth⟩ := hv
  have hx := B.exec
  have hb := B.bytes
  have hr := B.returns
  have hts := atoms_spec (ws := wsX4_at) B.pre
  have hown : s.vm.findClass RX4 = some m.cls := findClass_of_methodNamed B.named
  have hlocks := B.notSynchronized
  have hat : ∀ w ∈ vx_at0 RX4 109 EXN EXC, w.before _ s = true := vx_hat (B := EXD) (fun w h => hts w (List.mem_cons_of_mem _ (List.mem_append_right _ h))) ki_bad (ki_ex hth)
  subst hsz
  have hD := hD0.self (sz := s.heap.size)
  generalize hAe : va_A [kx_4 m_ q_row q_t t_ h0 k0 w_ z_ slots old, kx_0 q_row q_cell len, kx_a q_cell cyI 160 f] s.heap.size = A at hD hth ⊢
  have hA : ∀ q : Nat, s.heap.size ≤ q → A q := fun q h => by rw [← hAe]; exact Or.inr h
  have hS : va_S A s.heap s.heap [] := va_S.rf
  have hP : va_P (dC, dI) vwCl [kx_4 m_ q_row q_t t_ h0 k0 w_ z_ slots old, kx_0 q_row q_cell len, kx_a q_cell cyI 160 f] s.heap := hP
  have hl := lv_entry ([.ref m_, .int p0]) (n := 2) (Nat.le_of_ble_eq_true rfl)
  rw [lg_entry_eq]
  generalize (lg_sl ([.ref m_, .int p0]) ++ List.replicate (2 - (lg_sl ([.ref m_, .int p0])).length) Slot.unset).toArray = ls at hl ⊢
  have hl : lv_has ls 2 [(0, .ref m_), (1, .int p0)] := hl
  have hf_12 := hts (.fieldLink RX4 12 "MajorityIndex" "row" "LMajorityIndex$Row;") (List.mem_of_getElem? (i := 3) rfl)
  have hi_4 : ∀ w ∈ u_ws RX4 TX4 9, w ∈ wsX4_at := fun w h => List.mem_cons_of_mem _ (List.mem_append_left _ (List.mem_append_left _ (List.mem_append_right _ h)))
  have hf_110 := hts (.fieldLink RX4 110 "MajorityIndex$Row" "cell" "[I") (List.mem_of_getElem? (i := 4) rfl)
  have hi_0 : ∀ w ∈ u_ws RX0 TX0 2, w ∈ wsX4_at := fun w h => List.mem_cons_of_mem _ (List.mem_append_left _ (List.mem_append_right _ h))
  have hc_107 := hts (.classLink RX4 107 EXN) (by decide +kernel)
  have hz_ex := hts (.initialized EXN) (by decide +kernel)
  refine lv_aload_n hx hb dX4_at_0 rfl (lv_at hl 0 rfl) ?_
  refine va_get (D := (dC, dI)) (ci := 4) (v := .ref q_row) (C := RX4) (T := TX4) (N := 9) hx hb hts hi_4 hown hK hP 0 rfl rfl 0 (by decide) hf_12 (fun _ h9 => h9) rfl dX4_at_1 ?_
  refine lv_iload_n hx hb dX4_at_4 rfl (lv_at hl 1 rfl) ?_
  have hPc := hP.sub (ws' := [kx_0 q_row q_cell len]) [1] rfl
  have hKc := hK.sub (tys' := []) [] rfl
  refine vp_callSi (W.runV (As := [.int p0]) (rest := []) ⟨hx, hb, hml, hown, hts⟩ (c_X0_hasPlace l dC dI q_row q_cell len p0) (cwV 1 hts gX4_at_X0_hasPlace rfl rfl rfl (by decide +kernel) ⟨Nat.le_of_ble_eq_true rfl, Nat.le_of_ble_eq_true rfl⟩) ⟨fun a U g mk q => by obtain ⟨q0, qP, qK⟩ := q; exact ⟨q0, qP, va_K.moved (u := U) (U := U.calling g mk a) (Vm.Alike.refl U.vm) qK⟩, va_recv hKc hPc (ci := 0) (q0 := 0) rfl rfl, fun U hU hW => ⟨rfl, by rw [hU]; exact hPc, va_K.moved hW.alike hKc⟩⟩ rfl rfl hl.1 rfl (lv_room (Nat.le_of_ble_eq_true rfl)) dX4_at_5 ⟨Nat.le_of_ble_eq_true rfl, Nat.le_of_ble_eq_true rfl⟩) (fun r_1 w_1 => ?_)
  rcases w_1 with ⟨rfl, w_1⟩ | ⟨rfl, w_1⟩
  · have w_1 : (0 ≤ p0.toInt ∧ p0.toInt < len.toInt) := w_1
    refine lv_if_ne (tgt := 19) hx hb dX4_at_8 (by decide) (fun c_2 => ?_) (fun c_2 => ?_)
    · refine lv_aload_n hx hb dX4_at_19 rfl (lv_at hl 0 rfl) ?_
      refine va_get (D := (dC, dI)) (ci := 4) (v := .ref q_row) (C := RX4) (T := TX4) (N := 9) hx hb hts hi_4 hown hK hP 0 rfl rfl 0 (by decide) hf_12 (fun _ h9 => h9) rfl dX4_at_20 ?_
      refine va_get (D := (dC, dI)) (ci := 0) (v := .ref q_cell) (C := RX0) (T := TX0) (N := 2) hx hb hts hi_0 hown hK hP 1 rfl rfl 0 (by decide) hf_110 (fun _ h9 => h9) rfl dX4_at_23 ?_
      refine lv_iload_n hx hb dX4_at_26 rfl (lv_at hl 1 rfl) ?_
      refine va_iald hx hb hK hP 2 0 rfl rfl (ki_in (om_8 w_1.1) (om_1 a1 w_1.2)) dX4_at_27 ?_
      refine lv_topi (fun y_3 ey_3 => ?_)
      have j_3 : y_3.toInt = (f p0.toNatClampNeg).toInt := congrArg Int32.toInt ey_3
      refine vx_ret ?_
      have hP9 := hP
      have hD9 := hD
      have hK9 := hK
      refine W.widen (k := 1) (n := 6) (Nat.le_of_ble_eq_true rfl) (Nat.le_of_ble_eq_true rfl) ?_
      exact W.iret (v := y_3) hx hb hr (fun t ht hW => ⟨⟨y_3, (), rfl, ⟨by omega, by omega, ey_3⟩, by rw [ht]; exact hP9, va_K.moved hW.alike hK9, hD9⟩, hS.F ht⟩) hS.2.2 dX4_at_28
    · exact absurd c_2 (by decide)
  · have w_1 : (p0.toInt < 0 ∨ len.toInt ≤ p0.toInt) := w_1
    refine lv_if_ne (tgt := 19) hx hb dX4_at_8 (by decide) (fun c_4 => ?_) (fun c_4 => ?_)
    · exact absurd c_4 (by decide)
    · have hP9 := hP.sub (ws' := [kx_4 m_ q_row q_t t_ h0 k0 w_ z_ slots old, kx_0 q_row q_cell len, kx_a q_cell cyI 160 f]) [0, 1, 2] rfl
      have hD9 := hD.sub (ws' := [kx_4 m_ q_row q_t t_ h0 k0 w_ z_ slots old, kx_0 q_row q_cell len, kx_a q_cell cyI 160 f]) [0, 1, 2] (by decide) rfl
      have hK9 := hK.sub (tys' := [(cyI, .int)]) [0] rfl
      exact vx_throw0 (names := EXC) hx hb hl0 hown (by decide +kernel) (by decide +kernel) hc_107 hz_ex hat ki_ot hth.2.1 hth.2.2 hS (hl.1.trans hml.symm) dX4_at_11 dX4_at_14 dX4_at_15 dX4_at_18 (fun x h => (htab x h).elim) (Nat.le_of_ble_eq_true rfl) (Nat.le_of_ble_eq_true rfl) (Nat.le_of_ble_eq_true rfl) (Nat.le_of_ble_eq_true rfl) hlocks (fun t ha hz hk => ⟨(), (by omega), ⟨rfl, hP9.kept (fun k x hx => hk x.1 ((hP9 k x hx).lt)), va_K.moved ha hK9, hD9⟩, Nat.le_trans hS.1 hz, fun q h1 h2 => (hk q (Nat.lt_of_lt_of_le h1 hS.1)).trans (hS.2.1 q h1 h2)⟩) hS.2.2 (Nat.le_refl _) (Nat.le_refl _)

set_option maxHeartbeats 4000000 in
set_option maxRecDepth 100000 in
theorem c_X4_vote (l : Launch) (hl0 : l.stackTraces = false) (dC : Nat → ClassId) (dI : Nat → Nat → Nat) (m_ : Nat) (q_row : Nat) (q_t : Nat) (t_ : Nat) (h0 : Nat) (k0 : Nat) (w_ : Nat) (z_ : Nat) (slots : Int32) (old : Int32) (q_joined : Nat) (q_from : Nat) (q_to : Nat) (q_size : Nat) (q_lossOf : Nat) (q_lessBy : Nat) (q_value : Nat) (q_number : Nat) (nodes : Int32) (here : Int32) (q_cell : Nat) (cyI : ClassId) (len : Int32) (f : Nat → Int32) (ff : Nat → Int32) (ft : Nat → Int32) (fs : Nat → Int32) (fo : Nat → Int32) (uv : Nat → Int32) (un : Nat → Int32) (fe : Nat → Int32) (j_v : Nat) (j_n : Nat) (js : Int32) (jl : Int32) (je : Int32) (jv : Nat → Int32) (jn : Nat → Int32) (a_v : Nat) (a_n : Nat) (vs : Int32) (lo : Int32) (le : Int32) (fv : Nat → Int32) (fn : Nat → Int32) (p0 : Int32) (p1 : Int32) (p2 : Int32) (p3 : Int32) (sz : Nat) (a0 : 0 ≤ len.toInt) (a1 : len.toInt ≤ 160) (s0 : sixes fs) (l0 : laidP old ff ft nodes len) : vx_Met l yX4_vote wsX4_vote ({ frames := 8, cells := 1, slots := 6, locals := 360 }) (va_Pc [.ref m_, .int p0, .int p1, .int p2, .int p3] (fun U => U.heap.size = sz ∧ va_P (dC, dI) vwCl [kx_4 m_ q_row q_t t_ h0 k0 w_ z_ slots old, kx_2 q_t q_row q_joined q_from q_to q_size q_lossOf q_lessBy q_value q_number nodes here, kx_0 q_row q_cell len, kx_a q_cell cyI 160 f, kx_a q_from cyI 319 ff, kx_a q_to cyI 319 ft, kx_a q_size cyI 319 fs, kx_a q_lossOf cyI 319 fo, kx_a q_lessBy cyI 319 fe, kx_a q_value cyI 1914 uv, kx_a q_number cyI 1914 un, kx_3 q_joined j_v j_n js jl je, kx_a j_v cyI 12 jv, kx_a j_n cyI 12 jn, kx_3 h0 a_v a_n vs lo le, kx_a a_v cyI 12 fv, kx_a a_n cyI 12 fn] U.heap ∧ va_K (dC, dI) vwCl [(cyI, .int)] U ∧ va_D (fun _ => True) [kx_4 m_ q_row q_t t_ h0 k0 w_ z_ slots old, kx_2 q_t q_row q_joined q_from q_to q_size q_lossOf q_lessBy q_value q_number nodes here, kx_0 q_row q_cell len, kx_a q_cell cyI 160 f, kx_a q_from cyI 319 ff, kx_a q_to cyI 319 ft, kx_a q_size cyI 319 fs, kx_a q_lossOf cyI 319 fo, kx_a q_lessBy cyI 319 fe, kx_a q_value cyI 1914 uv, kx_a q_number cyI 1914 un, kx_3 q_joined j_v j_n js jl je, kx_a j_v cyI 12 jv, kx_a j_n cyI 12 jn, kx_3 h0 a_v a_n vs lo le, kx_a a_v cyI 12 fv, kx_a a_n cyI 12 fn] ∧ ki_ThA (va_A [kx_4 m_ q_row q_t t_ h0 k0 w_ z_ slots old, kx_2 q_t q_row q_joined q_from q_to q_size q_lossOf q_lessBy q_value q_number nodes here, kx_0 q_row q_cell len, kx_a q_cell cyI 160 f, kx_a q_from cyI 319 ff, kx_a q_to cyI 319 ft, kx_a q_size cyI 319 fs, kx_a q_lossOf cyI 319 fo, kx_a q_lessBy cyI 319 fe, kx_a q_value cyI 1914 uv, kx_a q_number cyI 1914 un, kx_3 q_joined j_v j_n js jl je, kx_a j_v cyI 12 jv, kx_a j_n cyI 12 jn, kx_3 h0 a_v a_n vs lo le, kx_a a_v cyI 12 fv, kx_a a_n cyI 12 fn] sz) U)) (va_Qi (fun (r : Int32) (u : Int32 × Int32 × Int32 × (Nat → Int32) × (Nat → Int32) × (Nat → Int32) × (Nat → Int32) × (Nat → Int32) × (Nat → Int32) × (Nat → Int32) × Int32 × Int32 × Int32 × (Nat → Int32) × (Nat → Int32) × Int32 × Int32 × Int32 × (Nat → Int32) × (Nat → Int32)) => (0 : Int) ≤ 1 ∧ laidP u.1 u.2.2.2.1 u.2.2.2.2.1 u.2.1 len ∧ sixes u.2.2.2.2.2.1) (fun (u : Int32 × Int32 × Int32 × (Nat → Int32) × (Nat → Int32) × (Nat → Int32) × (Nat → Int32) × (Nat → Int32) × (Nat → Int32) × (Nat → Int32) × Int32 × Int32 × Int32 × (Nat → Int32) × (Nat → Int32) × Int32 × Int32 × Int32 × (Nat → Int32) × (Nat → Int32)) (t : State) => va_P (dC, dI) vwCl [kx_4 m_ q_row q_t t_ h0 k0 w_ z_ slots u.1, kx_2 q_t q_row q_joined q_from q_to q_size q_lossOf q_lessBy q_value q_number u.2.1 u.2.2.1, kx_0 q_row q_cell len, kx_a q_cell cyI 160 f, kx_a q_from cyI 319 u.2.2.2.1, kx_a q_to cyI 319 u.2.2.2.2.1, kx_a q_size cyI 319 u.2.2.2.2.2.1, kx_a q_lossOf cyI 319 u.2.2.2.2.2.2.1, kx_a q_lessBy cyI 319 u.2.2.2.2.2.2.2.1, kx_a q_value cyI 1914 u.2.2.2.2.2.2.2.2.1, kx_a q_number cyI 1914 u.2.2.2.2.2.2.2.2.2.1, kx_3 q_joined j_v j_n u.2.2.2.2.2.2.2.2.2.2.1 u.2.2.2.2.2.2.2.2.2.2.2.1 u.2.2.2.2.2.2.2.2.2.2.2.2.1, kx_a j_v cyI 12 u.2.2.2.2.2.2.2.2.2.2.2.2.2.1, kx_a j_n cyI 12 u.2.2.2.2.2.2.2.2.2.2.2.2.2.2.1, kx_3 h0 a_v a_n u.2.2.2.2.2.2.2.2.2.2.2.2.2.2.2.1 u.2.2.2.2.2.2.2.2.2.2.2.2.2.2.2.2.1 u.2.2.2.2.2.2.2.2.2.2.2.2.2.2.2.2.2.1, kx_a a_v cyI 12 u.2.2.2.2.2.2.2.2.2.2.2.2.2.2.2.2.2.2.1, kx_a a_n cyI 12 u.2.2.2.2.2.2.2.2.2.2.2.2.2.2.2.2.2.2.2] t.heap ∧ va_K (dC, dI) vwCl [(cyI, .int)] t ∧ va_D (va_A [kx_4 m_ q_row q_t t_ h0 k0 w_ z_ slots old, kx_2 q_t q_row q_joined q_from q_to q_size q_lossOf q_lessBy q_value q_number nodes here, kx_0 q_row q_cell len, kx_a q_cell cyI 160 f, kx_a q_from cyI 319 ff, kx_a q_to cyI 319 ft, kx_a q_size cyI 319 fs, kx_a q_lossOf cyI 319 fo, kx_a q_lessBy cyI 319 fe, kx_a q_value cyI 1914 uv, kx_a q_number cyI 1914 un, kx_3 q_joined j_v j_n js jl je, kx_a j_v cyI 12 jv, kx_a j_n cyI 12 jn, kx_3 h0 a_v a_n vs lo le, kx_a a_v cyI 12 fv, kx_a a_n cyI 12 fn] sz) [kx_4 m_ q_row q_t t_ h0 k0 w_ z_ slots u.1, kx_2 q_t q_row q_joined q_from q_to q_size q_lossOf q_lessBy q_value q_number u.2.1 u.2.2.1, kx_0 q_row q_cell len, kx_a q_cell cyI 160 f, kx_a q_from cyI 319 u.2.2.2.1, kx_a q_to cyI 319 u.2.2.2.2.1, kx_a q_size cyI 319 u.2.2.2.2.2.1, kx_a q_lossOf cyI 319 u.2.2.2.2.2.2.1, kx_a q_lessBy cyI 319 u.2.2.2.2.2.2.2.1, kx_a q_value cyI 1914 u.2.2.2.2.2.2.2.2.1, kx_a q_number cyI 1914 u.2.2.2.2.2.2.2.2.2.1, kx_3 q_joined j_v j_n u.2.2.2.2.2.2.2.2.2.2.1 u.2.2.2.2.2.2.2.2.2.2.2.1 u.2.2.2.2.2.2.2.2.2.2.2.2.1, kx_a j_v cyI 12 u.2.2.2.2.2.2.2.2.2.2.2.2.2.1, kx_a j_n cyI 12 u.2.2.2.2.2.2.2.2.2.2.2.2.2.2.1, kx_3 h0 a_v a_n u.2.2.2.2.2.2.2.2.2.2.2.2.2.2.2.1 u.2.2.2.2.2.2.2.2.2.2.2.2.2.2.2.2.1 u.2.2.2.2.2.2.2.2.2.2.2.2.2.2.2.2.2.1, kx_a a_v cyI 12 u.2.2.2.2.2.2.2.2.2.2.2.2.2.2.2.2.2.2.1, kx_a a_n cyI 12 u.2.2.2.2.2.2.2.2.2.2.2.2.2.2.2.2.2.2.2]) (va_A [kx_4 m_ q_row q_t t_ h0 k0 w_ z_ slots old, kx_2 q_t q_row q_joined q_from q_to q_size q_lossOf q_lessBy q_value q_number nodes here, kx_0 q_row q_cell len, kx_a q_cell cyI 160 f, kx_a q_from cyI 319 ff, kx_a q_to cyI 319 ft, kx_a q_size cyI 319 fs, kx_a q_lossOf cyI 319 fo, kx_a q_lessBy cyI 319 fe, kx_a q_value cyI 1914 uv, kx_a q_number cyI 1914 un, kx_3 q_joined j_v j_n js jl je, kx_a j_v cyI 12 jv, kx_a j_n cyI 12 jn, kx_3 h0 a_v a_n vs lo le, kx_a a_v cyI 12 fv, kx_a a_n cyI 12 fn] sz)) (vx_X (fun u : Int32 × Int32 × Int32 × (Nat → Int32) × (Nat → Int32) × (Nat → Int32) × (Nat → Int32) × (Nat → Int32) × (Nat → Int32) × (Nat → Int32) × Int32 × Int32 × Int32 × (Nat → Int32) × (Nat → Int32) × Int32 × Int32 × Int32 × (Nat → Int32) × (Nat → Int32) => (0 : Int) ≤ 1 ∧ laidP u.1 u.2.2.2.1 u.2.2.2.2.1 u.2.1 len ∧ sixes u.2.2.2.2.2.1) (fun (E : String) (u : Int32 × Int32 × Int32 × (Nat → Int32) × (Nat → Int32) × (Nat → Int32) × (Nat → Int32) × (Nat → Int32) × (Nat → Int32) × (Nat → Int32) × Int32 × Int32 × Int32 × (Nat → Int32) × (Nat → Int32) × Int32 × Int32 × Int32 × (Nat → Int32) × (Nat → Int32)) (t : State) => E = EXN ∧ va_P (dC, dI) vwCl [kx_4 m_ q_row q_t t_ h0 k0 w_ z_ slots u.1, kx_2 q_t q_row q_joined q_from q_to q_size q_lossOf q_lessBy q_value q_number u.2.1 u.2.2.1, kx_0 q_row q_cell len, kx_a q_cell cyI 160 f, kx_a q_from cyI 319 u.2.2.2.1, kx_a q_to cyI 319 u.2.2.2.2.1, kx_a q_size cyI 319 u.2.2.2.2.2.1, kx_a q_lossOf cyI 319 u.2.2.2.2.2.2.1, kx_a q_lessBy cyI 319 u.2.2.2.2.2.2.2.1, kx_a q_value cyI 1914 u.2.2.2.2.2.2.2.2.1, kx_a q_number cyI 1914 u.2.2.2.2.2.2.2.2.2.1, kx_3 q_joined j_v j_n u.2.2.2.2.2.2.2.2.2.2.1 u.2.2.2.2.2.2.2.2.2.2.2.1 u.2.2.2.2.2.2.2.2.2.2.2.2.1, kx_a j_v cyI 12 u.2.2.2.2.2.2.2.2.2.2.2.2.2.1, kx_a j_n cyI 12 u.2.2.2.2.2.2.2.2.2.2.2.2.2.2.1, kx_3 h0 a_v a_n u.2.2.2.2.2.2.2.2.2.2.2.2.2.2.2.1 u.2.2.2.2.2.2.2.2.2.2.2.2.2.2.2.2.1 u.2.2.2.2.2.2.2.2.2.2.2.2.2.2.2.2.2.1, kx_a a_v cyI 12 u.2.2.2.2.2.2.2.2.2.2.2.2.2.2.2.2.2.2.1, kx_a a_n cyI 12 u.2.2.2.2.2.2.2.2.2.2.2.2.2.2.2.2.2.2.2] t.heap ∧ va_K (dC, dI) vwCl [(cyI, .int)] t ∧ va_D (va_A [kx_4 m_ q_row q_t t_ h0 k0 w_ z_ slots old, kx_2 q_t q_row q_joined q_from q_to q_size q_lossOf q_lessBy q_value q_number nodes here, kx_0 q_row q_cell len, kx_a q_cell cyI 160 f, kx_a q_from cyI 319 ff, kx_a q_to cyI 319 ft, kx_a q_size cyI 319 fs, kx_a q_lossOf cyI 319 fo, kx_a q_lessBy cyI 319 fe, kx_a q_value cyI 1914 uv, kx_a q_number cyI 1914 un, kx_3 q_joined j_v j_n js jl je, kx_a j_v cyI 12 jv, kx_a j_n cyI 12 jn, kx_3 h0 a_v a_n vs lo le, kx_a a_v cyI 12 fv, kx_a a_n cyI 12 fn] sz) [kx_4 m_ q_row q_t t_ h0 k0 w_ z_ slots u.1, kx_2 q_t q_row q_joined q_from q_to q_size q_lossOf q_lessBy q_value q_number u.2.1 u.2.2.1, kx_0 q_row q_cell len, kx_a q_cell cyI 160 f, kx_a q_from cyI 319 u.2.2.2.1, kx_a q_to cyI 319 u.2.2.2.2.1, kx_a q_size cyI 319 u.2.2.2.2.2.1, kx_a q_lossOf cyI 319 u.2.2.2.2.2.2.1, kx_a q_lessBy cyI 319 u.2.2.2.2.2.2.2.1, kx_a q_value cyI 1914 u.2.2.2.2.2.2.2.2.1, kx_a q_number cyI 1914 u.2.2.2.2.2.2.2.2.2.1, kx_3 q_joined j_v j_n u.2.2.2.2.2.2.2.2.2.2.1 u.2.2.2.2.2.2.2.2.2.2.2.1 u.2.2.2.2.2.2.2.2.2.2.2.2.1, kx_a j_v cyI 12 u.2.2.2.2.2.2.2.2.2.2.2.2.2.1, kx_a j_n cyI 12 u.2.2.2.2.2.2.2.2.2.2.2.2.2.2.1, kx_3 h0 a_v a_n u.2.2.2.2.2.2.2.2.2.2.2.2.2.2.2.1 u.2.2.2.2.2.2.2.2.2.2.2.2.2.2.2.2.1 u.2.2.2.2.2.2.2.2.2.2.2.2.2.2.2.2.2.1, kx_a a_v cyI 12 u.2.2.2.2.2.2.2.2.2.2.2.2.2.2.2.2.2.2.1, kx_a a_n cyI 12 u.2.2.2.2.2.2.2.2.2.2.2.2.2.2.2.2.2.2.2]) (va_A [kx_4 m_ q_row q_t t_ h0 k0 w_ z_ slots old, kx_2 q_t q_row q_joined q_from q_to q_size q_lossOf q_lessBy q_value q_number nodes here, kx_0 q_row q_cell len, kx_a q_cell cyI 160 f, kx_a q_from cyI 319 ff, kx_a q_to cyI 319 ft, kx_a q_size cyI 319 fs, kx_a q_lossOf cyI 319 fo, kx_a q_lessBy cyI 319 fe, kx_a q_value cyI 1914 uv, kx_a q_number cyI 1914 un, kx_3 q_joined j_v j_n js jl je, kx_a j_v cyI 12 jv, kx_a j_n cyI 12 jn, kx_3 h0 a_v a_n vs lo le, kx_a a_v cyI 12 fv, kx_a a_n cyI 12 fn] sz)) 1 6 (va_A [kx_4 m_ q_row q_t t_ h0 k0 w_ z_ slots old, kx_2 q_t q_row q_joined q_from q_to q_size q_lossOf q_lessBy q_value q_number nodes here, kx_0 q_row q_cell len, kx_a q_cell cyI 160 f, kx_a q_from cyI 319 ff, kx_a q_to cyI 319 ft, kx_a q_size cyI 319 fs, kx_a q_lossOf cyI 319 fo, kx_a q_lessBy cyI 319 fe, kx_a q_value cyI 1914 uv, kx_a q_number cyI 1914 un, kx_3 q_joined j_v j_n js jl je, kx_a j_v cyI 12 jv, kx_a j_n cyI 12 jn, kx_3 h0 a_v a_n vs lo le, kx_a a_v cyI 12 fv, kx_a a_n cyI 12 fn] sz) := by
  refine vx_ofW (cc := cX4_vote) (maxL := 7) (ret := (some .int)) (by decide) rfl ?_
  intro p e s m args below meth c s₁ B hml htab hv
  obtain ⟨rfl, hsz, hP, hK, hD0, hth⟩ := hv
  have hx := B.exec
  have hb := B.bytes
  have hr := B.returns
  have hts := atoms_spec (ws := wsX4_vote) B.pre
  have hown : s.vm.findClass RX4 = some m.cls := findClass_of_methodNamed B.named
  have hlocks := B.notSynchronized
  have hat : ∀ w ∈ vx_at0 RX4 109 EXN EXC, w.before _ s = true := vx_hat (B := EXD) (fun w h => hts w (List.mem_cons_of_mem _ (List.mem_append_right _ h))) ki_bad (ki_ex hth)
  subst hsz
  have hD := hD0.self (sz := s.heap.size)
  generalize hAe : va_A [kx_4 m_ q_row q_t t_ h0 k0 w_ z_ slots old, kx_2 q_t q_row q_joined q_from q_to q_size q_lossOf q_lessBy q_value q_number nodes here, kx_0 q_row q_cell len, kx_a q_cell cyI 160 f, kx_a q_from cyI 319 ff, kx_a q_to cyI 319 ft, kx_a q_size cyI 319 fs, kx_a q_lossOf cyI 319 fo, kx_a q_lessBy cyI 319 fe, kx_a q_value cyI 1914 uv, kx_a q_number cyI 1914 un, kx_3 q_joined j_v j_n js jl je, kx_a j_v cyI 12 jv, kx_a j_n cyI 12 jn, kx_3 h0 a_v a_n vs lo le, kx_a a_v cyI 12 fv, kx_a a_n cyI 12 fn] s.heap.size = A at hD hth ⊢
  have hA : ∀ q : Nat, s.heap.size ≤ q → A q := fun q h => by rw [← hAe]; exact Or.inr h
  have hS : va_S A s.heap s.heap [] := va_S.rf
  have hP : va_P (dC, dI) vwCl [kx_4 m_ q_row q_t t_ h0 k0 w_ z_ slots old, kx_2 q_t q_row q_joined q_from q_to q_size q_lossOf q_lessBy q_value q_number nodes here, kx_0 q_row q_cell len, kx_a q_cell cyI 160 f, kx_a q_from cyI 319 ff, kx_a q_to cyI 319 ft, kx_a q_size cyI 319 fs, kx_a q_lossOf cyI 319 fo, kx_a q_lessBy cyI 319 fe, kx_a q_value cyI 1914 uv, kx_a q_number cyI 1914 un, kx_3 q_joined j_v j_n js jl je, kx_a j_v cyI 12 jv, kx_a j_n cyI 12 jn, kx_3 h0 a_v a_n vs lo le, kx_a a_v cyI 12 fv, kx_a a_n cyI 12 fn] s.heap := hP
  have hl := lv_entry ([.ref m_, .int p0, .int p1, .int p2, .int p3]) (n := 7) (Nat.le_of_ble_eq_true rfl)
  rw [lg_entry_eq]
  generalize (lg_sl ([.ref m_, .int p0, .int p1, .int p2, .int p3]) ++ List.replicate (7 - (lg_sl ([.ref m_, .int p0, .int p1, .int p2, .int p3])).length) Slot.unset).toArray = ls at hl ⊢
  have hl : lv_has ls 7 [(0, .ref m_), (1, .int p0), (2, .int p1), (3, .int p2), (4, .int p3)] := hl
  have hf_12 := hts (.fieldLink RX4 12 "MajorityIndex" "row" "LMajorityIndex$Row;") (List.mem_of_getElem? (i := 3) rfl)
  have hi_4 : ∀ w ∈ u_ws RX4 TX4 9, w ∈ wsX4_vote := fun w h => List.mem_cons_of_mem _ (List.mem_append_left _ (List.mem_append_left _ (List.mem_append_left _ (List.mem_append_left _ (List.mem_append_right _ h)))))
  have hc_107 := hts (.classLink RX4 107 EXN) (by decide +kernel)
  have hz_ex := hts (.initialized EXN) (by decide +kernel)
  have hf_126 := hts (.fieldLink RX4 126 "MajorityIndex$Tree" "size" "[I") (List.mem_of_getElem? (i := 4) rfl)
  have hi_2 : ∀ w ∈ u_ws RX2 TX2 11, w ∈ wsX4_vote := fun w h => List.mem_cons_of_mem _ (List.mem_append_left _ (List.mem_append_left _ (List.mem_append_left _ (List.mem_append_right _ h))))
  have hf_35 := hts (.fieldLink RX4 35 "MajorityIndex" "votes" "LMajorityIndex$Votes;") (List.mem_of_getElem? (i := 5) rfl)
  have hf_136 := hts (.fieldLink RX4 136 "MajorityIndex$Votes" "number" "[I") (List.mem_of_getElem? (i := 7) rfl)
  have hi_3 : ∀ w ∈ u_ws RX3 TX3 5, w ∈ wsX4_vote := fun w h => List.mem_cons_of_mem _ (List.mem_append_left _ (List.mem_append_left _ (List.mem_append_right _ h)))
  have hf_133 := hts (.fieldLink RX4 133 "MajorityIndex$Votes" "value" "[I") (List.mem_of_getElem? (i := 6) rfl)
  refine lv_aload_n hx hb dX4_vote_0 rfl (lv_at hl 0 rfl) ?_
  refine va_get (D := (dC, dI)) (ci := 4) (v := .ref q_row) (C := RX4) (T := TX4) (N := 9) hx hb hts hi_4 hown hK hP 0 rfl rfl 0 (by decide) hf_12 (fun _ h9 => h9) rfl dX4_vote_1 ?_
  refine lv_iload_n hx hb dX4_vote_4 rfl (lv_at hl 1 rfl) ?_
  refine lv_iload_n hx hb dX4_vote_5 rfl (lv_at hl 2 rfl) ?_
  have hPc := hP.sub (ws' := [kx_0 q_row q_cell len]) [2] rfl
  have hKc := hK.sub (tys' := []) [] rfl
  refine vp_callSi (W.runV (As := [.int p0, .int p1]) (rest := []) ⟨hx, hb, hml, hown, hts⟩ (c_X0_hasRange l dC dI q_row q_cell len p0 p1) (cwV 2 hts gX4_vote_X0_hasRange rfl rfl rfl (by decide +kernel) ⟨Nat.le_of_ble_eq_true rfl, Nat.le_of_ble_eq_true rfl⟩) ⟨fun a U g mk q => by obtain ⟨q0, qP, qK⟩ := q; exact ⟨q0, qP, va_K.moved (u := U) (U := U.calling g mk a) (Vm.Alike.refl U.vm) qK⟩, va_recv hKc hPc (ci := 0) (q0 := 0) rfl rfl, fun U hU hW => ⟨rfl, by rw [hU]; exact hPc, va_K.moved hW.alike hKc⟩⟩ rfl rfl hl.1 rfl (lv_room (Nat.le_of_ble_eq_true rfl)) dX4_vote_6 ⟨Nat.le_of_ble_eq_true rfl, Nat.le_of_ble_eq_true rfl⟩) (fun r_1 w_1 => ?_)
  rcases w_1 with ⟨rfl, w_1⟩ | ⟨rfl, w_1⟩
  · have w_1 : (0 ≤ p0.toInt ∧ p0.toInt < p1.toInt ∧ p1.toInt ≤ len.toInt) := w_1
    refine lv_if_eq (tgt := 23) hx hb dX4_vote_9 (by decide) (fun c_2 => ?_) (fun c_2 => ?_)
    · exact absurd c_2 (by decide)
    · refine lv_iload hx hb dX4_vote_12 (lv_at hl 4 rfl) ?_
      refine lv_if_lt (tgt := 23) hx hb dX4_vote_14 (by decide) (fun c_3 => ?_) (fun c_3 => ?_)
      · have i_3 : p3.toInt < 0 := kc_lt c_3
        have hP9 := hP.sub (ws' := [kx_4 m_ q_row q_t t_ h0 k0 w_ z_ slots old, kx_2 q_t q_row q_joined q_from q_to q_size q_lossOf q_lessBy q_value q_number nodes here, kx_0 q_row q_cell len, kx_a q_cell cyI 160 f, kx_a q_from cyI 319 ff, kx_a q_to cyI 319 ft, kx_a q_size cyI 319 fs, kx_a q_lossOf cyI 319 fo, kx_a q_lessBy cyI 319 fe, kx_a q_value cyI 1914 uv, kx_a q_number cyI 1914 un, kx_3 q_joined j_v j_n js jl je, kx_a j_v cyI 12 jv, kx_a j_n cyI 12 jn, kx_3 h0 a_v a_n vs lo le, kx_a a_v cyI 12 fv, kx_a a_n cyI 12 fn]) [0, 1, 2, 3, 4, 5, 6, 7, 8, 9, 10, 11, 12, 13, 14, 15, 16] rfl
        have hD9 := hD.sub (ws' := [kx_4 m_ q_row q_t t_ h0 k0 w_ z_ slots old, kx_2 q_t q_row q_joined q_from q_to q_size q_lossOf q_lessBy q_value q_number nodes here, kx_0 q_row q_cell len, kx_a q_cell cyI 160 f, kx_a q_from cyI 319 ff, kx_a q_to cyI 319 ft, kx_a q_size cyI 319 fs, kx_a q_lossOf cyI 319 fo, kx_a q_lessBy cyI 319 fe, kx_a q_value cyI 1914 uv, kx_a q_number cyI 1914 un, kx_3 q_joined j_v j_n js jl je, kx_a j_v cyI 12 jv, kx_a j_n cyI 12 jn, kx_3 h0 a_v a_n vs lo le, kx_a a_v cyI 12 fv, kx_a a_n cyI 12 fn]) [0, 1, 2, 3, 4, 5, 6, 7, 8, 9, 10, 11, 12, 13, 14, 15, 16] (by decide) rfl
        have hK9 := hK.sub (tys' := [(cyI, .int)]) [0] rfl
        exact vx_throw0 (names := EXC) hx hb hl0 hown (by decide +kernel) (by decide +kernel) hc_107 hz_ex hat ki_ot hth.2.1 hth.2.2 hS (hl.1.trans hml.symm) dX4_vote_23 dX4_vote_26 dX4_vote_27 dX4_vote_30 (fun x h => (htab x h).elim) (Nat.le_of_ble_eq_true rfl) (Nat.le_of_ble_eq_true rfl) (Nat.le_of_ble_eq_true rfl) (Nat.le_of_ble_eq_true rfl) hlocks (fun t ha hz hk => ⟨(old, nodes, here, ff, ft, fs, fo, fe, uv, un, js, jl, je, jv, jn, vs, lo, le, fv, fn), ⟨(by decide), l0, s0⟩, ⟨rfl, hP9.kept (fun k x hx => hk x.1 ((hP9 k x hx).lt)), va_K.moved ha hK9, hD9⟩, Nat.le_trans hS.1 hz, fun q h1 h2 => (hk q (Nat.lt_of_lt_of_le h1 hS.1)).trans (hS.2.1 q h1 h2)⟩) hS.2.2 (Nat.le_refl _) (Nat.le_refl _)
      · have i_3 : 0 ≤ p3.toInt := kc_nlt c_3
        refine lv_iload hx hb dX4_vote_17 (lv_at hl 4 rfl) ?_
        refine lv_iconst (v := 1) hx hb dX4_vote_19 (by decide) ?_
        refine lv_icmp_le (tgt := 31) hx hb dX4_vote_20 (by decide) (fun c_4 => ?_) (fun c_4 => ?_)
        · have i_4 : p3.toInt ≤ 1 := kc_le c_4
          refine lv_aload_n hx hb dX4_vote_31 rfl (lv_at hl 0 rfl) ?_
          obtain ⟨hPc, hDc, hFc, hCc⟩ := kx_pre (wc := [kx_4 m_ q_row q_t t_ h0 k0 w_ z_ slots old, kx_2 q_t q_row q_joined q_from q_to q_size q_lossOf q_lessBy q_value q_number nodes here, kx_0 q_row q_cell len, kx_a q_cell cyI 160 f, kx_a q_from cyI 319 ff, kx_a q_to cyI 319 ft, kx_a q_size cyI 319 fs, kx_a q_lossOf cyI 319 fo, kx_a q_lessBy cyI 319 fe, kx_a q_value cyI 1914 uv, kx_a q_number cyI 1914 un, kx_3 q_joined j_v j_n js jl je, kx_a j_v cyI 12 jv, kx_a j_n cyI 12 jn]) hP hD hS hA [0, 1, 2, 3, 4, 5, 6, 7, 8, 9, 10, 11, 12, 13] (by decide) rfl
          have hKc := hK
          refine va_callr (va_runV (As := []) (rest := []) ⟨hx, hb, hml, hown, hts⟩ (c_X4_laidTree l dC dI m_ q_row q_t t_ h0 k0 w_ z_ slots old q_joined q_from q_to q_size q_lossOf q_lessBy q_value q_number nodes here q_cell cyI len f ff ft fs fo uv un fe j_v j_n js jl je jv jn s.heap.size a0 a1 s0 l0) (cwV 0 hts gX4_vote_X4_laidTree rfl rfl rfl (by decide +kernel) ⟨Nat.le_of_ble_eq_true rfl, Nat.le_of_ble_eq_true rfl⟩) ⟨fun a U g mk q => by obtain ⟨q0, q1, qP, qK, qD⟩ := q; exact ⟨q0, q1, qP, va_K.moved (u := U) (U := U.calling g mk a) (Vm.Alike.refl U.vm) qK, qD⟩, va_recv hKc hPc (ci := 4) (q0 := 0) rfl rfl, fun U hU hW => ⟨rfl, by rw [hU], by rw [hU]; exact hPc, va_K.moved hW.alike hKc, hDc.weaken (fun _ _ _ _ => trivial)⟩⟩ rfl rfl hl.1 rfl (lv_room (Nat.le_of_ble_eq_true rfl)) dX4_vote_32 ⟨Nat.le_of_ble_eq_true rfl, Nat.le_of_ble_eq_true rfl⟩) hS (fun q _ h => hFc q h) hFc (fun u ra t H1 locs ht hvm w_5 hB hz1 hk1 hS => ?_)
          obtain ⟨o_6, o_7, o_8, o_9, o_10, o_11, o_12, o_13, o_14, o_15, o_16, o_17, o_18, o_19, o_20⟩ := u
          dsimp only at w_5 hB
          obtain ⟨er, hP1, hK1, hD1⟩ := hB
          rw [ht] at hP1
          have hK1 := va_K.moved hvm.symm hK1
          obtain ⟨hP, hD⟩ := kx_join (w2 := [kx_3 h0 a_v a_n vs lo le, kx_a a_v cyI 12 fv, kx_a a_n cyI 12 fn, kx_4 m_ q_row q_t t_ h0 k0 w_ z_ slots o_6, kx_2 q_t q_row q_joined q_from q_to q_size q_lossOf q_lessBy q_value q_number o_7 o_8, kx_0 q_row q_cell len, kx_a q_cell cyI 160 f, kx_a q_from cyI 319 o_9, kx_a q_to cyI 319 o_10, kx_a q_size cyI 319 o_11, kx_a q_lossOf cyI 319 o_12, kx_a q_lessBy cyI 319 o_13, kx_a q_value cyI 1914 o_14, kx_a q_number cyI 1914 o_15, kx_3 q_joined j_v j_n o_16 o_17 o_18, kx_a j_v cyI 12 o_19, kx_a j_n cyI 12 o_20]) hP hD hP1 hD1 hk1 hFc [0, 1, 2, 3, 4, 5, 6, 7, 8, 9, 10, 11, 12, 13] [14, 15, 16] hCc rfl (by decide) (by decide)
          clear hP1 hD1 hK1 hk1 hz1 hFc hDc hPc hKc hCc
          generalize H1 = H at hP hS ⊢
          have w_5 : o_6.toInt = 0 ∧ 0 ≤ o_7.toInt ∧ o_7.toInt ≤ 319 ∧ sixes o_11 ∧ treeOk o_9 o_10 o_7.toInt len.toInt := w_5
          rw [er]
          refine lv_astore (lv' := [(5, .ref q_t), (0, .ref m_), (1, .int p0), (2, .int p1), (3, .int p2), (4, .int p3)]) hx hb dX4_vote_35 hl (by decide) rfl (fun ls hl => ?_)
          refine lv_aload hx hb dX4_vote_37 (lv_at hl 0 rfl) ?_
          refine lv_iload_n hx hb dX4_vote_39 rfl (lv_at hl 2 rfl) ?_
          refine lv_iload_n hx hb dX4_vote_40 rfl (lv_at hl 3 rfl) ?_
          have hPc := hP.sub (ws' := [kx_2 q_t q_row q_joined q_from q_to q_size q_lossOf q_lessBy q_value q_number o_7 o_8, kx_a q_from cyI 319 o_9, kx_a q_to cyI 319 o_10]) [4, 7, 8] rfl
          have hKc := hK
          refine vp_callSi (W.runV (As := [.int p0, .int p1]) (rest := []) ⟨hx, hb, hml, hown, hts⟩ (c_X2_find l dC dI q_t q_row q_joined q_from q_to q_size q_lossOf q_lessBy q_value q_number o_7 o_8 cyI o_9 o_10 p0 p1 w_5.2.1 w_5.2.2.1) (cwV 2 hts gX4_vote_X2_find rfl rfl rfl (by decide +kernel) ⟨Nat.le_of_ble_eq_true rfl, Nat.le_of_ble_eq_true rfl⟩) ⟨fun a U g mk q => by obtain ⟨q0, qP, qK⟩ := q; exact ⟨q0, qP, va_K.moved (u := U) (U := U.calling g mk a) (Vm.Alike.refl U.vm) qK⟩, va_recv hKc hPc (ci := 2) (q0 := 0) rfl rfl, fun U hU hW => ⟨rfl, by rw [hU]; exact hPc, va_K.moved hW.alike hKc⟩⟩ rfl rfl hl.1 rfl (lv_room (Nat.le_of_ble_eq_true rfl)) dX4_vote_41 ⟨Nat.le_of_ble_eq_true rfl, Nat.le_of_ble_eq_true rfl⟩) (fun r_21 w_21 => ?_)
          have w_21 : (r_21.toInt = -1 ∨ (0 ≤ r_21.toInt ∧ r_21.toInt < o_7.toInt)) := w_21
          refine lv_istore (lv' := [(6, .int r_21), (5, .ref q_t), (0, .ref m_), (1, .int p0), (2, .int p1), (3, .int p2), (4, .int p3)]) hx hb dX4_vote_44 hl (by decide) rfl (fun ls hl => ?_)
          refine lv_iload hx hb dX4_vote_46 (lv_at hl 0 rfl) ?_
          refine lv_iconst (v := (-1)) hx hb dX4_vote_48 (by decide) ?_
          refine lv_icmp_eq (tgt := 68) hx hb dX4_vote_49 (by decide) (fun c_22 => ?_) (fun c_22 => ?_)
          · have i_22 : r_21.toInt = (-1) := kc_eq c_22
            have hP9 := hP.sub (ws' := [kx_4 m_ q_row q_t t_ h0 k0 w_ z_ slots o_6, kx_2 q_t q_row q_joined q_from q_to q_size q_lossOf q_lessBy q_value q_number o_7 o_8, kx_0 q_row q_cell len, kx_a q_cell cyI 160 f, kx_a q_from cyI 319 o_9, kx_a q_to cyI 319 o_10, kx_a q_size cyI 319 o_11, kx_a q_lossOf cyI 319 o_12, kx_a q_lessBy cyI 319 o_13, kx_a q_value cyI 1914 o_14, kx_a q_number cyI 1914 o_15, kx_3 q_joined j_v j_n o_16 o_17 o_18, kx_a j_v cyI 12 o_19, kx_a j_n cyI 12 o_20, kx_3 h0 a_v a_n vs lo le, kx_a a_v cyI 12 fv, kx_a a_n cyI 12 fn]) [3, 4, 5, 6, 7, 8, 9, 10, 11, 12, 13, 14, 15, 16, 0, 1, 2] rfl
            have hD9 := hD.sub (ws' := [kx_4 m_ q_row q_t t_ h0 k0 w_ z_ slots o_6, kx_2 q_t q_row q_joined q_from q_to q_size q_lossOf q_lessBy q_value q_number o_7 o_8, kx_0 q_row q_cell len, kx_a q_cell cyI 160 f, kx_a q_from cyI 319 o_9, kx_a q_to cyI 319 o_10, kx_a q_size cyI 319 o_11, kx_a q_lossOf cyI 319 o_12, kx_a q_lessBy cyI 319 o_13, kx_a q_value cyI 1914 o_14, kx_a q_number cyI 1914 o_15, kx_3 q_joined j_v j_n o_16 o_17 o_18, kx_a j_v cyI 12 o_19, kx_a j_n cyI 12 o_20, kx_3 h0 a_v a_n vs lo le, kx_a a_v cyI 12 fv, kx_a a_n cyI 12 fn]) [3, 4, 5, 6, 7, 8, 9, 10, 11, 12, 13, 14, 15, 16, 0, 1, 2] (by decide) rfl
            have hK9 := hK.sub (tys' := [(cyI, .int)]) [0] rfl
            exact vx_throw0 (names := EXC) hx hb hl0 hown (by decide +kernel) (by decide +kernel) hc_107 hz_ex hat ki_ot hth.2.1 hth.2.2 hS (hl.1.trans hml.symm) dX4_vote_68 dX4_vote_71 dX4_vote_72 dX4_vote_75 (fun x h => (htab x h).elim) (Nat.le_of_ble_eq_true rfl) (Nat.le_of_ble_eq_true rfl) (Nat.le_of_ble_eq_true rfl) (Nat.le_of_ble_eq_true rfl) hlocks (fun t ha hz hk => ⟨(o_6, o_7, o_8, o_9, o_10, o_11, o_12, o_13, o_14, o_15, o_16, o_17, o_18, o_19, o_20, vs, lo, le, fv, fn), ⟨(by decide), (fun _ => ⟨(by (try dsimp only); omega), (by (try dsimp only); omega), w_5.2.2.2.2⟩), w_5.2.2.2.1⟩, ⟨rfl, hP9.kept (fun k x hx => hk x.1 ((hP9 k x hx).lt)), va_K.moved ha hK9, hD9⟩, Nat.le_trans hS.1 hz, fun q h1 h2 => (hk q (Nat.lt_of_lt_of_le h1 hS.1)).trans (hS.2.1 q h1 h2)⟩) hS.2.2 (Nat.le_refl _) (Nat.le_refl _)
          · have i_22 : ¬ r_21.toInt = (-1) := kc_ne c_22
            refine lv_iload_n hx hb dX4_vote_52 rfl (lv_at hl 5 rfl) ?_
            refine lv_if_lt (tgt := 68) hx hb dX4_vote_53 (by decide) (fun c_23 => ?_) (fun c_23 => ?_)
            · have i_23 : p2.toInt < 0 := kc_lt c_23
              have hP9 := hP.sub (ws' := [kx_4 m_ q_row q_t t_ h0 k0 w_ z_ slots o_6, kx_2 q_t q_row q_joined q_from q_to q_size q_lossOf q_lessBy q_value q_number o_7 o_8, kx_0 q_row q_cell len, kx_a q_cell cyI 160 f, kx_a q_from cyI 319 o_9, kx_a q_to cyI 319 o_10, kx_a q_size cyI 319 o_11, kx_a q_lossOf cyI 319 o_12, kx_a q_lessBy cyI 319 o_13, kx_a q_value cyI 1914 o_14, kx_a q_number cyI 1914 o_15, kx_3 q_joined j_v j_n o_16 o_17 o_18, kx_a j_v cyI 12 o_19, kx_a j_n cyI 12 o_20, kx_3 h0 a_v a_n vs lo le, kx_a a_v cyI 12 fv, kx_a a_n cyI 12 fn]) [3, 4, 5, 6, 7, 8, 9, 10, 11, 12, 13, 14, 15, 16, 0, 1, 2] rfl
              have hD9 := hD.sub (ws' := [kx_4 m_ q_row q_t t_ h0 k0 w_ z_ slots o_6, kx_2 q_t q_row q_joined q_from q_to q_size q_lossOf q_lessBy q_value q_number o_7 o_8, kx_0 q_row q_cell len, kx_a q_cell cyI 160 f, kx_a q_from cyI 319 o_9, kx_a q_to cyI 319 o_10, kx_a q_size cyI 319 o_11, kx_a q_lossOf cyI 319 o_12, kx_a q_lessBy cyI 319 o_13, kx_a q_value cyI 1914 o_14, kx_a q_number cyI 1914 o_15, kx_3 q_joined j_v j_n o_16 o_17 o_18, kx_a j_v cyI 12 o_19, kx_a j_n cyI 12 o_20, kx_3 h0 a_v a_n vs lo le, kx_a a_v cyI 12 fv, kx_a a_n cyI 12 fn]) [3, 4, 5, 6, 7, 8, 9, 10, 11, 12, 13, 14, 15, 16, 0, 1, 2] (by decide) rfl
              have hK9 := hK.sub (tys' := [(cyI, .int)]) [0] rfl
              exact vx_throw0 (names := EXC) hx hb hl0 hown (by decide +kernel) (by decide +kernel) hc_107 hz_ex hat ki_ot hth.2.1 hth.2.2 hS (hl.1.trans hml.symm) dX4_vote_68 dX4_vote_71 dX4_vote_72 dX4_vote_75 (fun x h => (htab x h).elim) (Nat.le_of_ble_eq_true rfl) (Nat.le_of_ble_eq_true rfl) (Nat.le_of_ble_eq_true rfl) (Nat.le_of_ble_eq_true rfl) hlocks (fun t ha hz hk => ⟨(o_6, o_7, o_8, o_9, o_10, o_11, o_12, o_13, o_14, o_15, o_16, o_17, o_18, o_19, o_20, vs, lo, le, fv, fn), ⟨(by decide), (fun _ => ⟨(by (try dsimp only); omega), (by (try dsimp only); omega), w_5.2.2.2.2⟩), w_5.2.2.2.1⟩, ⟨rfl, hP9.kept (fun k x hx => hk x.1 ((hP9 k x hx).lt)), va_K.moved ha hK9, hD9⟩, Nat.le_trans hS.1 hz, fun q h1 h2 => (hk q (Nat.lt_of_lt_of_le h1 hS.1)).trans (hS.2.1 q h1 h2)⟩) hS.2.2 (Nat.le_refl _) (Nat.le_refl _)
            · have i_23 : 0 ≤ p2.toInt := kc_nlt c_23
              refine lv_iload_n hx hb dX4_vote_56 rfl (lv_at hl 5 rfl) ?_
              refine lv_aload hx hb dX4_vote_57 (lv_at hl 1 rfl) ?_
              refine va_get (D := (dC, dI)) (ci := 2) (v := .ref q_size) (C := RX2) (T := TX2) (N := 11) hx hb hts hi_2 hown hK hP 4 rfl rfl 4 (by decide) hf_126 (fun _ h9 => h9) rfl dX4_vote_59 ?_
              refine lv_iload hx hb dX4_vote_62 (lv_at hl 0 rfl) ?_
              refine va_iald hx hb hK hP 9 0 rfl rfl (ki_in (by omega) (by omega)) dX4_vote_64 ?_
              refine lv_topi (fun y_24 ey_24 => ?_)
              have j_24 : y_24.toInt = (o_11 r_21.toNatClampNeg).toInt := congrArg Int32.toInt ey_24
              have n_25 : (r_21.toNatClampNeg : Int) = r_21.toInt := ki_nat _ rfl (by omega)
              have i_26 := w_5.2.2.2.1 r_21.toNatClampNeg (by omega)
              refine lv_icmp_lt (tgt := 76) hx hb dX4_vote_65 (by decide) (fun c_27 => ?_) (fun c_27 => ?_)
              · have i_27 : p2.toInt < y_24.toInt := kc_lt c_27
                refine lv_aload hx hb dX4_vote_76 (lv_at hl 1 rfl) ?_
                refine lv_aload_n hx hb dX4_vote_78 rfl (lv_at hl 2 rfl) ?_
                refine va_get (D := (dC, dI)) (ci := 4) (v := .ref h0) (C := RX4) (T := TX4) (N := 9) hx hb hts hi_4 hown hK hP 3 rfl rfl 3 (by decide) hf_35 (fun _ h9 => h9) rfl dX4_vote_79 ?_
                refine lv_iload hx hb dX4_vote_82 (lv_at hl 0 rfl) ?_
                obtain ⟨hPc, hDc, hFc, hCc⟩ := kx_pre (wc := [kx_2 q_t q_row q_joined q_from q_to q_size q_lossOf q_lessBy q_value q_number o_7 o_8, kx_a q_size cyI 319 o_11, kx_a q_lossOf cyI 319 o_12, kx_a q_value cyI 1914 o_14, kx_a q_number cyI 1914 o_15, kx_3 h0 a_v a_n vs lo le, kx_a a_v cyI 12 fv, kx_a a_n cyI 12 fn]) hP hD hS hA [4, 9, 10, 12, 13, 0, 1, 2] (by decide) rfl
                have hKc := hK
                refine va_callv (va_runV (As := [.ref h0, .int r_21]) (rest := []) ⟨hx, hb, hml, hown, hts⟩ (c_X2_copyTo l dC dI q_t q_row q_joined q_from q_to q_size q_lossOf q_lessBy q_value q_number o_7 o_8 h0 a_v a_n cyI vs lo le fv fn o_11 o_12 o_14 o_15 r_21 H.size (om_425 n_25 (Int.natCast_nonneg _)) (by omega) w_5.2.2.2.1) (cwV 2 hts gX4_vote_X2_copyTo rfl rfl rfl (by decide +kernel) ⟨Nat.le_of_ble_eq_true rfl, Nat.le_of_ble_eq_true rfl⟩) ⟨fun a U g mk q => by obtain ⟨q0, q1, qP, qK, qD⟩ := q; exact ⟨q0, q1, qP, va_K.moved (u := U) (U := U.calling g mk a) (Vm.Alike.refl U.vm) qK, qD⟩, va_recv hKc hPc (ci := 2) (q0 := 0) rfl rfl, fun U hU hW => ⟨rfl, by rw [hU], by rw [hU]; exact hPc, va_K.moved hW.alike hKc, hDc.weaken (fun _ _ _ _ => trivial)⟩⟩ rfl rfl hl.1 rfl (lv_room (Nat.le_of_ble_eq_true rfl)) dX4_vote_84 ⟨Nat.le_of_ble_eq_true rfl, Nat.le_of_ble_eq_true rfl⟩) hS (fun q _ h => hFc q h) hFc (fun u t H1 locs ht hvm w_28 hB hz1 hk1 hS => ?_)
                obtain ⟨o_29, o_30, o_31, o_32⟩ := u
                dsimp only at w_28 hB
                obtain ⟨hP1, hK1, hD1⟩ := hB
                rw [ht] at hP1
                have hK1 := va_K.moved hvm.symm hK1
                obtain ⟨hP, hD⟩ := kx_join (w2 := [kx_4 m_ q_row q_t t_ h0 k0 w_ z_ slots o_6, kx_0 q_row q_cell len, kx_a q_cell cyI 160 f, kx_a q_from cyI 319 o_9, kx_a q_to cyI 319 o_10, kx_a q_lessBy cyI 319 o_13, kx_3 q_joined j_v j_n o_16 o_17 o_18, kx_a j_v cyI 12 o_19, kx_a j_n cyI 12 o_20, kx_2 q_t q_row q_joined q_from q_to q_size q_lossOf q_lessBy q_value q_number o_7 o_8, kx_a q_size cyI 319 o_11, kx_a q_lossOf cyI 319 o_12, kx_a q_value cyI 1914 o_14, kx_a q_number cyI 1914 o_15, kx_3 h0 a_v a_n o_29 o_30 0, kx_a a_v cyI 12 o_31, kx_a a_n cyI 12 o_32]) hP hD hP1 hD1 hk1 hFc [4, 9, 10, 12, 13, 0, 1, 2] [3, 5, 6, 7, 8, 11, 14, 15, 16] hCc rfl (by decide) (by decide)
                clear hP1 hD1 hK1 hk1 hz1 hFc hDc hPc hKc hCc
                generalize H1 = H at hP hS ⊢
                have w_28 : 0 ≤ o_29.toInt ∧ o_29.toInt ≤ 12 := w_28
                refine lv_iload hx hb dX4_vote_87 (lv_at hl 6 rfl) ?_
                refine lv_if_ne (tgt := 104) hx hb dX4_vote_89 (by decide) (fun c_33 => ?_) (fun c_33 => ?_)
                · have i_33 : ¬ p3.toInt = 0 := kc_ne c_33
                  refine lv_aload_n hx hb dX4_vote_104 rfl (lv_at hl 2 rfl) ?_
                  refine va_get (D := (dC, dI)) (ci := 4) (v := .ref h0) (C := RX4) (T := TX4) (N := 9) hx hb hts hi_4 hown hK hP 0 rfl rfl 3 (by decide) hf_35 (fun _ h9 => h9) rfl dX4_vote_105 ?_
                  refine va_get (D := (dC, dI)) (ci := 3) (v := .ref a_n) (C := RX3) (T := TX3) (N := 5) hx hb hts hi_3 hown hK hP 14 rfl rfl 1 (by decide) hf_136 (fun _ h9 => h9) rfl dX4_vote_108 ?_
                  refine lv_iload_n hx hb dX4_vote_111 rfl (lv_at hl 5 rfl) ?_
                  refine va_iald hx hb hK hP 16 0 rfl rfl (ki_in (om_8 i_23) (om_426 j_24 i_26.2 i_27)) dX4_vote_112 ?_
                  refine lv_topi (fun y_34 ey_34 => ?_)
                  have j_34 : y_34.toInt = (o_32 p2.toNatClampNeg).toInt := congrArg Int32.toInt ey_34
                  refine vx_ret ?_
                  obtain ⟨hP9, hD9⟩ := kx_sub (w2 := [kx_4 m_ q_row q_t t_ h0 k0 w_ z_ slots o_6, kx_2 q_t q_row q_joined q_from q_to q_size q_lossOf q_lessBy q_value q_number o_7 o_8, kx_0 q_row q_cell len, kx_a q_cell cyI 160 f, kx_a q_from cyI 319 o_9, kx_a q_to cyI 319 o_10, kx_a q_size cyI 319 o_11, kx_a q_lossOf cyI 319 o_12, kx_a q_lessBy cyI 319 o_13, kx_a q_value cyI 1914 o_14, kx_a q_number cyI 1914 o_15, kx_3 q_joined j_v j_n o_16 o_17 o_18, kx_a j_v cyI 12 o_19, kx_a j_n cyI 12 o_20, kx_3 h0 a_v a_n o_29 o_30 0, kx_a a_v cyI 12 o_31, kx_a a_n cyI 12 o_32]) hP hD [0, 9, 1, 2, 3, 4, 10, 11, 5, 12, 13, 6, 7, 8, 14, 15, 16] (by decide) rfl
                  have hK9 := hK
                  refine W.widen (k := 1) (n := 6) (Nat.le_of_ble_eq_true rfl) (Nat.le_of_ble_eq_true rfl) ?_
                  exact W.iret (v := y_34) hx hb hr (fun t ht hW => ⟨⟨y_34, (o_6, o_7, o_8, o_9, o_10, o_11, o_12, o_13, o_14, o_15, o_16, o_17, o_18, o_19, o_20, o_29, o_30, 0, o_31, o_32), rfl, ⟨(by decide), (fun _ => ⟨(by (try dsimp only); omega), (by (try dsimp only); omega), w_5.2.2.2.2⟩), w_5.2.2.2.1⟩, by rw [ht]; exact hP9, va_K.moved hW.alike hK9, hD9⟩, hS.F ht⟩) hS.2.2 dX4_vote_113
                · have i_33 : p3.toInt = 0 := kc_eq c_33
                  refine lv_aload_n hx hb dX4_vote_92 rfl (lv_at hl 2 rfl) ?_
                  refine va_get (D := (dC, dI)) (ci := 4) (v := .ref h0) (C := RX4) (T := TX4) (N := 9) hx hb hts hi_4 hown hK hP 0 rfl rfl 3 (by decide) hf_35 (fun _ h9 => h9) rfl dX4_vote_93 ?_
                  refine va_get (D := (dC, dI)) (ci := 3) (v := .ref a_v) (C := RX3) (T := TX3) (N := 5) hx hb hts hi_3 hown hK hP 14 rfl rfl 0 (by decide) hf_133 (fun _ h9 => h9) rfl dX4_vote_96 ?_
                  refine lv_iload_n hx hb dX4_vote_99 rfl (lv_at hl 5 rfl) ?_
                  refine va_iald hx hb hK hP 15 0 rfl rfl (ki_in (om_8 i_23) (om_426 j_24 i_26.2 i_27)) dX4_vote_100 ?_
                  refine lv_topi (fun y_35 ey_35 => ?_)
                  have j_35 : y_35.toInt = (o_31 p2.toNatClampNeg).toInt := congrArg Int32.toInt ey_35
                  refine lv_goto (tgt := 113) hx hb dX4_vote_101 (by decide) ?_
                  refine vx_ret ?_
                  obtain ⟨hP9, hD9⟩ := kx_sub (w2 := [kx_4 m_ q_row q_t t_ h0 k0 w_ z_ slots o_6, kx_2 q_t q_row q_joined q_from q_to q_size q_lossOf q_lessBy q_value q_number o_7 o_8, kx_0 q_row q_cell len, kx_a q_cell cyI 160 f, kx_a q_from cyI 319 o_9, kx_a q_to cyI 319 o_10, kx_a q_size cyI 319 o_11, kx_a q_lossOf cyI 319 o_12, kx_a q_lessBy cyI 319 o_13, kx_a q_value cyI 1914 o_14, kx_a q_number cyI 1914 o_15, kx_3 q_joined j_v j_n o_16 o_17 o_18, kx_a j_v cyI 12 o_19, kx_a j_n cyI 12 o_20, kx_3 h0 a_v a_n o_29 o_30 0, kx_a a_v cyI 12 o_31, kx_a a_n cyI 12 o_32]) hP hD [0, 9, 1, 2, 3, 4, 10, 11, 5, 12, 13, 6, 7, 8, 14, 15, 16] (by decide) rfl
                  have hK9 := hK
                  refine W.widen (k := 1) (n := 6) (Nat.le_of_ble_eq_true rfl) (Nat.le_of_ble_eq_true rfl) ?_
                  exact W.iret (v := y_35) hx hb hr (fun t ht hW => ⟨⟨y_35, (o_6, o_7, o_8, o_9, o_10, o_11, o_12, o_13, o_14, o_15, o_16, o_17, o_18, o_19, o_20, o_29, o_30, 0, o_31, o_32), rfl, ⟨(by decide), (fun _ => ⟨(by (try dsimp only); omega), (by (try dsimp only); omega), w_5.2.2.2.2⟩), w_5.2.2.2.1⟩, by rw [ht]; exact hP9, va_K.moved hW.alike hK9, hD9⟩, hS.F ht⟩) hS.2.2 dX4_vote_113
              · have i_27 : y_24.toInt ≤ p2.toInt := kc_nlt c_27
                have hP9 := hP.sub (ws' := [kx_4 m_ q_row q_t t_ h0 k0 w_ z_ slots o_6, kx_2 q_t q_row q_joined q_from q_to q_size q_lossOf q_lessBy q_value q_number o_7 o_8, kx_0 q_row q_cell len, kx_a q_cell cyI 160 f, kx_a q_from cyI 319 o_9, kx_a q_to cyI 319 o_10, kx_a q_size cyI 319 o_11, kx_a q_lossOf cyI 319 o_12, kx_a q_lessBy cyI 319 o_13, kx_a q_value cyI 1914 o_14, kx_a q_number cyI 1914 o_15, kx_3 q_joined j_v j_n o_16 o_17 o_18, kx_a j_v cyI 12 o_19, kx_a j_n cyI 12 o_20, kx_3 h0 a_v a_n vs lo le, kx_a a_v cyI 12 fv, kx_a a_n cyI 12 fn]) [3, 4, 5, 6, 7, 8, 9, 10, 11, 12, 13, 14, 15, 16, 0, 1, 2] rfl
                have hD9 := hD.sub (ws' := [kx_4 m_ q_row q_t t_ h0 k0 w_ z_ slots o_6, kx_2 q_t q_row q_joined q_from q_to q_size q_lossOf q_lessBy q_value q_number o_7 o_8, kx_0 q_row q_cell len, kx_a q_cell cyI 160 f, kx_a q_from cyI 319 o_9, kx_a q_to cyI 319 o_10, kx_a q_size cyI 319 o_11, kx_a q_lossOf cyI 319 o_12, kx_a q_lessBy cyI 319 o_13, kx_a q_value cyI 1914 o_14, kx_a q_number cyI 1914 o_15, kx_3 q_joined j_v j_n o_16 o_17 o_18, kx_a j_v cyI 12 o_19, kx_a j_n cyI 12 o_20, kx_3 h0 a_v a_n vs lo le, kx_a a_v cyI 12 fv, kx_a a_n cyI 12 fn]) [3, 4, 5, 6, 7, 8, 9, 10, 11, 12, 13, 14, 15, 16, 0, 1, 2] (by decide) rfl
                have hK9 := hK.sub (tys' := [(cyI, .int)]) [0] rfl
                exact vx_throw0 (names := EXC) hx hb hl0 hown (by decide +kernel) (by decide +kernel) hc_107 hz_ex hat ki_ot hth.2.1 hth.2.2 hS (hl.1.trans hml.symm) dX4_vote_68 dX4_vote_71 dX4_vote_72 dX4_vote_75 (fun x h => (htab x h).elim) (Nat.le_of_ble_eq_true rfl) (Nat.le_of_ble_eq_true rfl) (Nat.le_of_ble_eq_true rfl) (Nat.le_of_ble_eq_true rfl) hlocks (fun t ha hz hk => ⟨(o_6, o_7, o_8, o_9, o_10, o_11, o_12, o_13, o_14, o_15, o_16, o_17, o_18, o_19, o_20, vs, lo, le, fv, fn), ⟨(by decide), (fun _ => ⟨(by (try dsimp only); omega), (by (try dsimp only); omega), w_5.2.2.2.2⟩), w_5.2.2.2.1⟩, ⟨rfl, hP9.kept (fun k x hx => hk x.1 ((hP9 k x hx).lt)), va_K.moved ha hK9, hD9⟩, Nat.le_trans hS.1 hz, fun q h1 h2 => (hk q (Nat.lt_of_lt_of_le h1 hS.1)).trans (hS.2.1 q h1 h2)⟩) hS.2.2 (Nat.le_refl _) (Nat.le_refl _)
        · have i_4 : 1 < p3.toInt := kc_nle c_4
          have hP9 := hP.sub (ws' := [kx_4 m_ q_row q_t t_ h0 k0 w_ z_ slots old, kx_2 q_t q_row q_joined q_from q_to q_size q_lossOf q_lessBy q_value q_number nodes here, kx_0 q_row q_cell len, kx_a q_cell cyI 160 f, kx_a q_from cyI 319 ff, kx_a q_to cyI 319 ft, kx_a q_size cyI 319 fs, kx_a q_lossOf cyI 319 fo, kx_a q_lessBy cyI 319 fe, kx_a q_value cyI 1914 uv, kx_a q_number cyI 1914 un, kx_3 q_joined j_v j_n js jl je, kx_a j_v cyI 12 jv, kx_a j_n cyI 12 jn, kx_3 h0 a_v a_n vs lo le, kx_a a_v cyI 12 fv, kx_a a_n cyI 12 fn]) [0, 1, 2, 3, 4, 5, 6, 7, 8, 9, 10, 11, 12, 13, 14, 15, 16] rfl
          have hD9 := hD.sub (ws' := [kx_4 m_ q_row q_t t_ h0 k0 w_ z_ slots old, kx_2 q_t q_row q_joined q_from q_to q_size q_lossOf q_lessBy q_value q_number nodes here, kx_0 q_row q_cell len, kx_a q_cell cyI 160 f, kx_a q_from cyI 319 ff, kx_a q_to cyI 319 ft, kx_a q_size cyI 319 fs, kx_a q_lossOf cyI 319 fo, kx_a q_lessBy cyI 319 fe, kx_a q_value cyI 1914 uv, kx_a q_number cyI 1914 un, kx_3 q_joined j_v j_n js jl je, kx_a j_v cyI 12 jv, kx_a j_n cyI 12 jn, kx_3 h0 a_v a_n vs lo le, kx_a a_v cyI 12 fv, kx_a a_n cyI 12 fn]) [0, 1, 2, 3, 4, 5, 6, 7, 8, 9, 10, 11, 12, 13, 14, 15, 16] (by decide) rfl
          have hK9 := hK.sub (tys' := [(cyI, .int)]) [0] rfl
          exact vx_throw0 (names := EXC) hx hb hl0 hown (by decide +kernel) (by decide +kernel) hc_107 hz_ex hat ki_ot hth.2.1 hth.2.2 hS (hl.1.trans hml.symm) dX4_vote_23 dX4_vote_26 dX4_vote_27 dX4_vote_30 (fun x h => (htab x h).elim) (Nat.le_of_ble_eq_true rfl) (Nat.le_of_ble_eq_true rfl) (Nat.le_of_ble_eq_true rfl) (Nat.le_of_ble_eq_true rfl) hlocks (fun t ha hz hk => ⟨(old, nodes, here, ff, ft, fs, fo, fe, uv, un, js, jl, je, jv, jn, vs, lo, le, fv, fn), ⟨(by decide), l0, s0⟩, ⟨rfl, hP9.kept (fun k x hx => hk x.1 ((hP9 k x hx).lt)), va_K.moved ha hK9, hD9⟩, Nat.le_trans hS.1 hz, fun q h1 h2 => (hk q (Nat.lt_of_lt_of_le h1 hS.1)).trans (hS.2.1 q h1 h2)⟩) hS.2.2 (Nat.le_refl _) (Nat.le_refl _)
  · have w_1 : (p0.toInt < 0 ∨ p1.toInt ≤ p0.toInt ∨ len.toInt < p1.toInt) := w_1
    refine lv_if_eq (tgt := 23) hx hb dX4_vote_9 (by decide) (fun c_36 => ?_) (fun c_36 => ?_)
    · have hP9 := hP.sub (ws' := [kx_4 m_ q_row q_t t_ h0 k0 w_ z_ slots old, kx_2 q_t q_row q_joined q_from q_to q_size q_lossOf q_lessBy q_value q_number nodes here, kx_0 q_row q_cell len, kx_a q_cell cyI 160 f, kx_a q_from cyI 319 ff, kx_a q_to cyI 319 ft, kx_a q_size cyI 319 fs, kx_a q_lossOf cyI 319 fo, kx_a q_lessBy cyI 319 fe, kx_a q_value cyI 1914 uv, kx_a q_number cyI 1914 un, kx_3 q_joined j_v j_n js jl je, kx_a j_v cyI 12 jv, kx_a j_n cyI 12 jn, kx_3 h0 a_v a_n vs lo le, kx_a a_v cyI 12 fv, kx_a a_n cyI 12 fn]) [0, 1, 2, 3, 4, 5, 6, 7, 8, 9, 10, 11, 12, 13, 14, 15, 16] rfl
      have hD9 := hD.sub (ws' := [kx_4 m_ q_row q_t t_ h0 k0 w_ z_ slots old, kx_2 q_t q_row q_joined q_from q_to q_size q_lossOf q_lessBy q_value q_number nodes here, kx_0 q_row q_cell len, kx_a q_cell cyI 160 f, kx_a q_from cyI 319 ff, kx_a q_to cyI 319 ft, kx_a q_size cyI 319 fs, kx_a q_lossOf cyI 319 fo, kx_a q_lessBy cyI 319 fe, kx_a q_value cyI 1914 uv, kx_a q_number cyI 1914 un, kx_3 q_joined j_v j_n js jl je, kx_a j_v cyI 12 jv, kx_a j_n cyI 12 jn, kx_3 h0 a_v a_n vs lo le, kx_a a_v cyI 12 fv, kx_a a_n cyI 12 fn]) [0, 1, 2, 3, 4, 5, 6, 7, 8, 9, 10, 11, 12, 13, 14, 15, 16] (by decide) rfl
      have hK9 := hK.sub (tys' := [(cyI, .int)]) [0] rfl
      exact vx_throw0 (names := EXC) hx hb hl0 hown (by decide +kernel) (by decide +kernel) hc_107 hz_ex hat ki_ot hth.2.1 hth.2.2 hS (hl.1.trans hml.symm) dX4_vote_23 dX4_vote_26 dX4_vote_27 dX4_vote_30 (fun x h => (htab x h).elim) (Nat.le_of_ble_eq_true rfl) (Nat.le_of_ble_eq_true rfl) (Nat.le_of_ble_eq_true rfl) (Nat.le_of_ble_eq_true rfl) hlocks (fun t ha hz hk => ⟨(old, nodes, here, ff, ft, fs, fo, fe, uv, un, js, jl, je, jv, jn, vs, lo, le, fv, fn), ⟨(by decide), l0, s0⟩, ⟨rfl, hP9.kept (fun k x hx => hk x.1 ((hP9 k x hx).lt)), va_K.moved ha hK9, hD9⟩, Nat.le_trans hS.1 hz, fun q h1 h2 => (hk q (Nat.lt_of_lt_of_le h1 hS.1)).trans (hS.2.1 q h1 h2)⟩) hS.2.2 (Nat.le_refl _) (Nat.le_refl _)
    · exact absurd c_36 (by decide)

set_option maxHeartbeats 4000000 in
set_option maxRecDepth 100000 in
theorem c_X4_candidate (l : Launch) (hl0 : l.stackTraces = false) (dC : Nat → ClassId) (dI : Nat → Nat → Nat) (m_ : Nat) (q_row : Nat) (q_t : Nat) (t_ : Nat) (h0 : Nat) (k0 : Nat) (w_ : Nat) (z_ : Nat) (slots : Int32) (old : Int32) (q_joined : Nat) (q_from : Nat) (q_to : Nat) (q_size : Nat) (q_lossOf : Nat) (q_lessBy : Nat) (q_value : Nat) (q_number : Nat) (nodes : Int32) (here : Int32) (q_cell : Nat) (cyI : ClassId) (len : Int32) (f : Nat → Int32) (ff : Nat → Int32) (ft : Nat → Int32) (fs : Nat → Int32) (fo : Nat → Int32) (uv : Nat → Int32) (un : Nat → Int32) (fe : Nat → Int32) (j_v : Nat) (j_n : Nat) (js : Int32) (jl : Int32) (je : Int32) (jv : Nat → Int32) (jn : Nat → Int32) (a_v : Nat) (a_n : Nat) (vs : Int32) (lo : Int32) (le : Int32) (fv : Nat → Int32) (fn : Nat → Int32) (p0 : Int32) (p1 : Int32) (p2 : Int32) (p3 : Int32) (sz : Nat) (a0 : 0 ≤ len.toInt) (a1 : len.toInt ≤ 160) (s0 : sixes fs) (l0 : laidP old ff ft nodes len) : vx_Met l yX4_candidate wsX4_candidate ({ frames := 8, cells := 1, slots := 6, locals := 360 }) (va_Pc [.ref m_, .int p0, .int p1, .int p2, .int p3] (fun U => U.heap.size = sz ∧ va_P (dC, dI) vwCl [kx_4 m_ q_row q_t t_ h0 k0 w_ z_ slots old, kx_2 q_t q_row q_joined q_from q_to q_size q_lossOf q_lessBy q_value q_number nodes here, kx_0 q_row q_cell len, kx_a q_cell cyI 160 f, kx_a q_from cyI 319 ff, kx_a q_to cyI 319 ft, kx_a q_size cyI 319 fs, kx_a q_lossOf cyI 319 fo, kx_a q_lessBy cyI 319 fe, kx_a q_value cyI 1914 uv, kx_a q_number cyI 1914 un, kx_3 q_joined j_v j_n js jl je, kx_a j_v cyI 12 jv, kx_a j_n cyI 12 jn, kx_3 h0 a_v a_n vs lo le, kx_a a_v cyI 12 fv, kx_a a_n cyI 12 fn] U.heap ∧ va_K (dC, dI) vwCl [(cyI, .int)] U ∧ va_D (fun _ => True) [kx_4 m_ q_row q_t t_ h0 k0 w_ z_ slots old, kx_2 q_t q_row q_joined q_from q_to q_size q_lossOf q_lessBy q_value q_number nodes here, kx_0 q_row q_cell len, kx_a q_cell cyI 160 f, kx_a q_from cyI 319 ff, kx_a q_to cyI 319 ft, kx_a q_size cyI 319 fs, kx_a q_lossOf cyI 319 fo, kx_a q_lessBy cyI 319 fe, kx_a q_value cyI 1914 uv, kx_a q_number cyI 1914 un, kx_3 q_joined j_v j_n js jl je, kx_a j_v cyI 12 jv, kx_a j_n cyI 12 jn, kx_3 h0 a_v a_n vs lo le, kx_a a_v cyI 12 fv, kx_a a_n cyI 12 fn] ∧ ki_ThA (va_A [kx_4 m_ q_row q_t t_ h0 k0 w_ z_ slots old, kx_2 q_t q_row q_joined q_from q_to q_size q_lossOf q_lessBy q_value q_number nodes here, kx_0 q_row q_cell len, kx_a q_cell cyI 160 f, kx_a q_from cyI 319 ff, kx_a q_to cyI 319 ft, kx_a q_size cyI 319 fs, kx_a q_lossOf cyI 319 fo, kx_a q_lessBy cyI 319 fe, kx_a q_value cyI 1914 uv, kx_a q_number cyI 1914 un, kx_3 q_joined j_v j_n js jl je, kx_a j_v cyI 12 jv, kx_a j_n cyI 12 jn, kx_3 h0 a_v a_n vs lo le, kx_a a_v cyI 12 fv, kx_a a_n cyI 12 fn] sz) U)) (va_Qi (fun (r : Int32) (u : Int32 × Int32 × Int32 × (Nat → Int32) × (Nat → Int32) × (Nat → Int32) × (Nat → Int32) × (Nat → Int32) × (Nat → Int32) × (Nat → Int32) × Int32 × Int32 × Int32 × (Nat → Int32) × (Nat → Int32) × Int32 × Int32 × Int32 × (Nat → Int32) × (Nat → Int32)) => (0 : Int) ≤ 1 ∧ laidP u.1 u.2.2.2.1 u.2.2.2.2.1 u.2.1 len ∧ sixes u.2.2.2.2.2.1) (fun (u : Int32 × Int32 × Int32 × (Nat → Int32) × (Nat → Int32) × (Nat → Int32) × (Nat → Int32) × (Nat → Int32) × (Nat → Int32) × (Nat → Int32) × Int32 × Int32 × Int32 × (Nat → Int32) × (Nat → Int32) × Int32 × Int32 × Int32 × (Nat → Int32) × (Nat → Int32)) (t : State) => va_P (dC, dI) vwCl [kx_4 m_ q_row q_t t_ h0 k0 w_ z_ slots u.1, kx_2 q_t q_row q_joined q_from q_to q_size q_lossOf q_lessBy q_value q_number u.2.1 u.2.2.1, kx_0 q_row q_cell len, kx_a q_cell cyI 160 f, kx_a q_from cyI 319 u.2.2.2.1, kx_a q_to cyI 319 u.2.2.2.2.1, kx_a q_size cyI 319 u.2.2.2.2.2.1, kx_a q_lossOf cyI 319 u.2.2.2.2.2.2.1, kx_a q_lessBy cyI 319 u.2.2.2.2.2.2.2.1, kx_a q_value cyI 1914 u.2.2.2.2.2.2.2.2.1, kx_a q_number cyI 1914 u.2.2.2.2.2.2.2.2.2.1, kx_3 q_joined j_v j_n u.2.2.2.2.2.2.2.2.2.2.1 u.2.2.2.2.2.2.2.2.2.2.2.1 u.2.2.2.2.2.2.2.2.2.2.2.2.1, kx_a j_v cyI 12 u.2.2.2.2.2.2.2.2.2.2.2.2.2.1, kx_a j_n cyI 12 u.2.2.2.2.2.2.2.2.2.2.2.2.2.2.1, kx_3 h0 a_v a_n u.2.2.2.2.2.2.2.2.2.2.2.2.2.2.2.1 u.2.2.2.2.2.2.2.2.2.2.2.2.2.2.2.2.1 u.2.2.2.2.2.2.2.2.2.2.2.2.2.2.2.2.2.1, kx_a a_v cyI 12 u.2.2.2.2.2.2.2.2.2.2.2.2.2.2.2.2.2.2.1, kx_a a_n cyI 12 u.2.2.2.2.2.2.2.2.2.2.2.2.2.2.2.2.2.2.2] t.heap ∧ va_K (dC, dI) vwCl [(cyI, .int)] t ∧ va_D (va_A [kx_4 m_ q_row q_t t_ h0 k0 w_ z_ slots old, kx_2 q_t q_row q_joined q_from q_to q_size q_lossOf q_lessBy q_value q_number nodes here, kx_0 q_row q_cell len, kx_a q_cell cyI 160 f, kx_a q_from cyI 319 ff, kx_a q_to cyI 319 ft, kx_a q_size cyI 319 fs, kx_a q_lossOf cyI 319 fo, kx_a q_lessBy cyI 319 fe, kx_a q_value cyI 1914 uv, kx_a q_number cyI 1914 un, kx_3 q_joined j_v j_n js jl je, kx_a j_v cyI 12 jv, kx_a j_n cyI 12 jn, kx_3 h0 a_v a_n vs lo le, kx_a a_v cyI 12 fv, kx_a a_n cyI 12 fn] sz) [kx_4 m_ q_row q_t t_ h0 k0 w_ z_ slots u.1, kx_2 q_t q_row q_joined q_from q_to q_size q_lossOf q_lessBy q_value q_number u.2.1 u.2.2.1, kx_0 q_row q_cell len, kx_a q_cell cyI 160 f, kx_a q_from cyI 319 u.2.2.2.1, kx_a q_to cyI 319 u.2.2.2.2.1, kx_a q_size cyI 319 u.2.2.2.2.2.1, kx_a q_lossOf cyI 319 u.2.2.2.2.2.2.1, kx_a q_lessBy cyI 319 u.2.2.2.2.2.2.2.1, kx_a q_value cyI 1914 u.2.2.2.2.2.2.2.2.1, kx_a q_number cyI 1914 u.2.2.2.2.2.2.2.2.2.1, kx_3 q_joined j_v j_n u.2.2.2.2.2.2.2.2.2.2.1 u.2.2.2.2.2.2.2.2.2.2.2.1 u.2.2.2.2.2.2.2.2.2.2.2.2.1, kx_a j_v cyI 12 u.2.2.2.2.2.2.2.2.2.2.2.2.2.1, kx_a j_n cyI 12 u.2.2.2.2.2.2.2.2.2.2.2.2.2.2.1, kx_3 h0 a_v a_n u.2.2.2.2.2.2.2.2.2.2.2.2.2.2.2.1 u.2.2.2.2.2.2.2.2.2.2.2.2.2.2.2.2.1 u.2.2.2.2.2.2.2.2.2.2.2.2.2.2.2.2.2.1, kx_a a_v cyI 12 u.2.2.2.2.2.2.2.2.2.2.2.2.2.2.2.2.2.2.1, kx_a a_n cyI 12 u.2.2.2.2.2.2.2.2.2.2.2.2.2.2.2.2.2.2.2]) (va_A [kx_4 m_ q_row q_t t_ h0 k0 w_ z_ slots old, kx_2 q_t q_row q_joined q_from q_to q_size q_lossOf q_lessBy q_value q_number nodes here, kx_0 q_row q_cell len, kx_a q_cell cyI 160 f, kx_a q_from cyI 319 ff, kx_a q_to cyI 319 ft, kx_a q_size cyI 319 fs, kx_a q_lossOf cyI 319 fo, kx_a q_lessBy cyI 319 fe, kx_a q_value cyI 1914 uv, kx_a q_number cyI 1914 un, kx_3 q_joined j_v j_n js jl je, kx_a j_v cyI 12 jv, kx_a j_n cyI 12 jn, kx_3 h0 a_v a_n vs lo le, kx_a a_v cyI 12 fv, kx_a a_n cyI 12 fn] sz)) (vx_X (fun u : Int32 × Int32 × Int32 × (Nat → Int32) × (Nat → Int32) × (Nat → Int32) × (Nat → Int32) × (Nat → Int32) × (Nat → Int32) × (Nat → Int32) × Int32 × Int32 × Int32 × (Nat → Int32) × (Nat → Int32) × Int32 × Int32 × Int32 × (Nat → Int32) × (Nat → Int32) => (0 : Int) ≤ 1 ∧ laidP u.1 u.2.2.2.1 u.2.2.2.2.1 u.2.1 len ∧ sixes u.2.2.2.2.2.1) (fun (E : String) (u : Int32 × Int32 × Int32 × (Nat → Int32) × (Nat → Int32) × (Nat → Int32) × (Nat → Int32) × (Nat → Int32) × (Nat → Int32) × (Nat → Int32) × Int32 × Int32 × Int32 × (Nat → Int32) × (Nat → Int32) × Int32 × Int32 × Int32 × (Nat → Int32) × (Nat → Int32)) (t : State) => E = EXN ∧ va_P (dC, dI) vwCl [kx_4 m_ q_row q_t t_ h0 k0 w_ z_ slots u.1, kx_2 q_t q_row q_joined q_from q_to q_size q_lossOf q_lessBy q_value q_number u.2.1 u.2.2.1, kx_0 q_row q_cell len, kx_a q_cell cyI 160 f, kx_a q_from cyI 319 u.2.2.2.1, kx_a q_to cyI 319 u.2.2.2.2.1, kx_a q_size cyI 319 u.2.2.2.2.2.1, kx_a q_lossOf cyI 319 u.2.2.2.2.2.2.1, kx_a q_lessBy cyI 319 u.2.2.2.2.2.2.2.1, kx_a q_value cyI 1914 u.2.2.2.2.2.2.2.2.1, kx_a q_number cyI 1914 u.2.2.2.2.2.2.2.2.2.1, kx_3 q_joined j_v j_n u.2.2.2.2.2.2.2.2.2.2.1 u.2.2.2.2.2.2.2.2.2.2.2.1 u.2.2.2.2.2.2.2.2.2.2.2.2.1, kx_a j_v cyI 12 u.2.2.2.2.2.2.2.2.2.2.2.2.2.1, kx_a j_n cyI 12 u.2.2.2.2.2.2.2.2.2.2.2.2.2.2.1, kx_3 h0 a_v a_n u.2.2.2.2.2.2.2.2.2.2.2.2.2.2.2.1 u.2.2.2.2.2.2.2.2.2.2.2.2.2.2.2.2.1 u.2.2.2.2.2.2.2.2.2.2.2.2.2.2.2.2.2.1, kx_a a_v cyI 12 u.2.2.2.2.2.2.2.2.2.2.2.2.2.2.2.2.2.2.1, kx_a a_n cyI 12 u.2.2.2.2.2.2.2.2.2.2.2.2.2.2.2.2.2.2.2] t.heap ∧ va_K (dC, dI) vwCl [(cyI, .int)] t ∧ va_D (va_A [kx_4 m_ q_row q_t t_ h0 k0 w_ z_ slots old, kx_2 q_t q_row q_joined q_from q_to q_size q_lossOf q_lessBy q_value q_number nodes here, kx_0 q_row q_cell len, kx_a q_cell cyI 160 f, kx_a q_from cyI 319 ff, kx_a q_to cyI 319 ft, kx_a q_size cyI 319 fs, kx_a q_lossOf cyI 319 fo, kx_a q_lessBy cyI 319 fe, kx_a q_value cyI 1914 uv, kx_a q_number cyI 1914 un, kx_3 q_joined j_v j_n js jl je, kx_a j_v cyI 12 jv, kx_a j_n cyI 12 jn, kx_3 h0 a_v a_n vs lo le, kx_a a_v cyI 12 fv, kx_a a_n cyI 12 fn] sz) [kx_4 m_ q_row q_t t_ h0 k0 w_ z_ slots u.1, kx_2 q_t q_row q_joined q_from q_to q_size q_lossOf q_lessBy q_value q_number u.2.1 u.2.2.1, kx_0 q_row q_cell len, kx_a q_cell cyI 160 f, kx_a q_from cyI 319 u.2.2.2.1, kx_a q_to cyI 319 u.2.2.2.2.1, kx_a q_size cyI 319 u.2.2.2.2.2.1, kx_a q_lossOf cyI 319 u.2.2.2.2.2.2.1, kx_a q_lessBy cyI 319 u.2.2.2.2.2.2.2.1, kx_a q_value cyI 1914 u.2.2.2.2.2.2.2.2.1, kx_a q_number cyI 1914 u.2.2.2.2.2.2.2.2.2.1, kx_3 q_joined j_v j_n u.2.2.2.2.2.2.2.2.2.2.1 u.2.2.2.2.2.2.2.2.2.2.2.1 u.2.2.2.2.2.2.2.2.2.2.2.2.1, kx_a j_v cyI 12 u.2.2.2.2.2.2.2.2.2.2.2.2.2.1, kx_a j_n cyI 12 u.2.2.2.2.2.2.2.2.2.2.2.2.2.2.1, kx_3 h0 a_v a_n u.2.2.2.2.2.2.2.2.2.2.2.2.2.2.2.1 u.2.2.2.2.2.2.2.2.2.2.2.2.2.2.2.2.1 u.2.2.2.2.2.2.2.2.2.2.2.2.2.2.2.2.2.1, kx_a a_v cyI 12 u.2.2.2.2.2.2.2.2.2.2.2.2.2.2.2.2.2.2.1, kx_a a_n cyI 12 u.2.2.2.2.2.2.2.2.2.2.2.2.2.2.2.2.2.2.2]) (va_A [kx_4 m_ q_row q_t t_ h0 k0 w_ z_ slots old, kx_2 q_t q_row q_joined q_from q_to q_size q_lossOf q_lessBy q_value q_number nodes here, kx_0 q_row q_cell len, kx_a q_cell cyI 160 f, kx_a q_from cyI 319 ff, kx_a q_to cyI 319 ft, kx_a q_size cyI 319 fs, kx_a q_lossOf cyI 319 fo, kx_a q_lessBy cyI 319 fe, kx_a q_value cyI 1914 uv, kx_a q_number cyI 1914 un, kx_3 q_joined j_v j_n js jl je, kx_a j_v cyI 12 jv, kx_a j_n cyI 12 jn, kx_3 h0 a_v a_n vs lo le, kx_a a_v cyI 12 fv, kx_a a_n cyI 12 fn] sz)) 1 6 (va_A [kx_4 m_ q_row q_t t_ h0 k0 w_ z_ slots old, kx_2 q_t q_row q_joined q_from q_to q_size q_lossOf q_lessBy q_value q_number nodes here, kx_0 q_row q_cell len, kx_a q_cell cyI 160 f, kx_a q_from cyI 319 ff, kx_a q_to cyI 319 ft, kx_a q_size cyI 319 fs, kx_a q_lossOf cyI 319 fo, kx_a q_lessBy cyI 319 fe, kx_a q_value cyI 1914 uv, kx_a q_number cyI 1914 un, kx_3 q_joined j_v j_n js jl je, kx_a j_v cyI 12 jv, kx_a j_n cyI 12 jn, kx_3 h0 a_v a_n vs lo le, kx_a a_v cyI 12 fv, kx_a a_n cyI 12 fn] sz) := by
  refine vx_ofW (cc := cX4_candidate) (maxL := 5) (ret := (some .int)) (by decide) rfl ?_
  intro p e s m args below meth c s₁ B hml htab hv
  obtain ⟨rfl, hsz, hP, hK, hD0, hth⟩ := hv
  have hx := B.exec
  have hb := B.bytes
  have hr := B.returns
  have hts := atoms_spec (ws := wsX4_candidate) B.pre
  have hown : s.vm.findClass RX4 = some m.cls := findClass_of_methodNamed B.named
  have hlocks := B.notSynchronized
  have hat : ∀ w ∈ vx_at0 RX4 109 EXN EXC, w.before _ s = true := vx_hat (B := EXD) (fun w h => hts w (List.mem_cons_of_mem _ (List.mem_append_right _ h))) ki_bad (ki_ex hth)
  subst hsz
  have hD := hD0.self (sz := s.heap.size)
  generalize hAe : va_A [kx_4 m_ q_row q_t t_ h0 k0 w_ z_ slots old, kx_2 q_t q_row q_joined q_from q_to q_size q_lossOf q_lessBy q_value q_number nodes here, kx_0 q_row q_cell len, kx_a q_cell cyI 160 f, kx_a q_from cyI 319 ff, kx_a q_to cyI 319 ft, kx_a q_size cyI 319 fs, kx_a q_lossOf cyI 319 fo, kx_a q_lessBy cyI 319 fe, kx_a q_value cyI 1914 uv, kx_a q_number cyI 1914 un, kx_3 q_joined j_v j_n js jl je, kx_a j_v cyI 12 jv, kx_a j_n cyI 12 jn, kx_3 h0 a_v a_n vs lo le, kx_a a_v cyI 12 fv, kx_a a_n cyI 12 fn] s.heap.size = A at hD hth ⊢
  have hA : ∀ q : Nat, s.heap.size ≤ q → A q := fun q h => by rw [← hAe]; exact Or.inr h
  have hS : va_S A s.heap s.heap [] := va_S.rf
  have hP : va_P (dC, dI) vwCl [kx_4 m_ q_row q_t t_ h0 k0 w_ z_ slots old, kx_2 q_t q_row q_joined q_from q_to q_size q_lossOf q_lessBy q_value q_number nodes here, kx_0 q_row q_cell len, kx_a q_cell cyI 160 f, kx_a q_from cyI 319 ff, kx_a q_to cyI 319 ft, kx_a q_size cyI 319 fs, kx_a q_lossOf cyI 319 fo, kx_a q_lessBy cyI 319 fe, kx_a q_value cyI 1914 uv, kx_a q_number cyI 1914 un, kx_3 q_joined j_v j_n js jl je, kx_a j_v cyI 12 jv, kx_a j_n cyI 12 jn, kx_3 h0 a_v a_n vs lo le, kx_a a_v cyI 12 fv, kx_a a_n cyI 12 fn] s.heap := hP
  have hl := lv_entry ([.ref m_, .int p0, .int p1, .int p2, .int p3]) (n := 5) (Nat.le_of_ble_eq_true rfl)
  rw [lg_entry_eq]
  generalize (lg_sl ([.ref m_, .int p0, .int p1, .int p2, .int p3]) ++ List.replicate (5 - (lg_sl ([.ref m_, .int p0, .int p1, .int p2, .int p3])).length) Slot.unset).toArray = ls at hl ⊢
  have hl : lv_has ls 5 [(0, .ref m_), (1, .int p0), (2, .int p1), (3, .int p2), (4, .int p3)] := hl
  have hf_12 := hts (.fieldLink RX4 12 "MajorityIndex" "row" "LMajorityIndex$Row;") (List.mem_of_getElem? (i := 3) rfl)
  have hi_4 : ∀ w ∈ u_ws RX4 TX4 9, w ∈ wsX4_candidate := fun w h => List.mem_cons_of_mem _ (List.mem_append_left _ (List.mem_append_left _ (List.mem_append_left _ (List.mem_append_left _ (List.mem_append_right _ h)))))
  have hc_107 := hts (.classLink RX4 107 EXN) (by decide +kernel)
  have hz_ex := hts (.initialized EXN) (by decide +kernel)
  have hf_35 := hts (.fieldLink RX4 35 "MajorityIndex" "votes" "LMajorityIndex$Votes;") (List.mem_of_getElem? (i := 4) rfl)
  have hf_174 := hts (.fieldLink RX4 174 "MajorityIndex$Votes" "size" "I") (List.mem_of_getElem? (i := 5) rfl)
  have hi_3 : ∀ w ∈ u_ws RX3 TX3 5, w ∈ wsX4_candidate := fun w h => List.mem_cons_of_mem _ (List.mem_append_left _ (List.mem_append_left _ (List.mem_append_left _ (List.mem_append_right _ h))))
  have hf_133 := hts (.fieldLink RX4 133 "MajorityIndex$Votes" "value" "[I") (List.mem_of_getElem? (i := 6) rfl)
  have hf_136 := hts (.fieldLink RX4 136 "MajorityIndex$Votes" "number" "[I") (List.mem_of_getElem? (i := 7) rfl)
  refine lv_aload_n hx hb dX4_candidate_0 rfl (lv_at hl 0 rfl) ?_
  refine va_get (D := (dC, dI)) (ci := 4) (v := .ref q_row) (C := RX4) (T := TX4) (N := 9) hx hb hts hi_4 hown hK hP 0 rfl rfl 0 (by decide) hf_12 (fun _ h9 => h9) rfl dX4_candidate_1 ?_
  refine lv_iload_n hx hb dX4_candidate_4 rfl (lv_at hl 1 rfl) ?_
  refine lv_iload_n hx hb dX4_candidate_5 rfl (lv_at hl 2 rfl) ?_
  have hPc := hP.sub (ws' := [kx_0 q_row q_cell len]) [2] rfl
  have hKc := hK.sub (tys' := []) [] rfl
  refine vp_callSi (W.runV (As := [.int p0, .int p1]) (rest := []) ⟨hx, hb, hml, hown, hts⟩ (c_X0_hasRange l dC dI q_row q_cell len p0 p1) (cwV 2 hts gX4_candidate_X0_hasRange rfl rfl rfl (by decide +kernel) ⟨Nat.le_of_ble_eq_true rfl, Nat.le_of_ble_eq_true rfl⟩) ⟨fun a U g mk q => by obtain ⟨q0, qP, qK⟩ := q; exact ⟨q0, qP, va_K.moved (u := U) (U := U.calling g mk a) (Vm.Alike.refl U.vm) qK⟩, va_recv hKc hPc (ci := 0) (q0 := 0) rfl rfl, fun U hU hW => ⟨rfl, by rw [hU]; exact hPc, va_K.moved hW.alike hKc⟩⟩ rfl rfl hl.1 rfl (lv_room (Nat.le_of_ble_eq_true rfl)) dX4_candidate_6 ⟨Nat.le_of_ble_eq_true rfl, Nat.le_of_ble_eq_true rfl⟩) (fun r_1 w_1 => ?_)
  rcases w_1 with ⟨rfl, w_1⟩ | ⟨rfl, w_1⟩
  · have w_1 : (0 ≤ p0.toInt ∧ p0.toInt < p1.toInt ∧ p1.toInt ≤ len.toInt) := w_1
    refine lv_if_eq (tgt := 27) hx hb dX4_candidate_9 (by decide) (fun c_2 => ?_) (fun c_2 => ?_)
    · exact absurd c_2 (by decide)
    · refine lv_iload_n hx hb dX4_candidate_12 rfl (lv_at hl 3 rfl) ?_
      refine lv_if_lt (tgt := 27) hx hb dX4_candidate_13 (by decide) (fun c_3 => ?_) (fun c_3 => ?_)
      · have i_3 : p2.toInt < 0 := kc_lt c_3
        have hP9 := hP.sub (ws' := [kx_4 m_ q_row q_t t_ h0 k0 w_ z_ slots old, kx_2 q_t q_row q_joined q_from q_to q_size q_lossOf q_lessBy q_value q_number nodes here, kx_0 q_row q_cell len, kx_a q_cell cyI 160 f, kx_a q_from cyI 319 ff, kx_a q_to cyI 319 ft, kx_a q_size cyI 319 fs, kx_a q_lossOf cyI 319 fo, kx_a q_lessBy cyI 319 fe, kx_a q_value cyI 1914 uv, kx_a q_number cyI 1914 un, kx_3 q_joined j_v j_n js jl je, kx_a j_v cyI 12 jv, kx_a j_n cyI 12 jn, kx_3 h0 a_v a_n vs lo le, kx_a a_v cyI 12 fv, kx_a a_n cyI 12 fn]) [0, 1, 2, 3, 4, 5, 6, 7, 8, 9, 10, 11, 12, 13, 14, 15, 16] rfl
        have hD9 := hD.sub (ws' := [kx_4 m_ q_row q_t t_ h0 k0 w_ z_ slots old, kx_2 q_t q_row q_joined q_from q_to q_size q_lossOf q_lessBy q_value q_number nodes here, kx_0 q_row q_cell len, kx_a q_cell cyI 160 f, kx_a q_from cyI 319 ff, kx_a q_to cyI 319 ft, kx_a q_size cyI 319 fs, kx_a q_lossOf cyI 319 fo, kx_a q_lessBy cyI 319 fe, kx_a q_value cyI 1914 uv, kx_a q_number cyI 1914 un, kx_3 q_joined j_v j_n js jl je, kx_a j_v cyI 12 jv, kx_a j_n cyI 12 jn, kx_3 h0 a_v a_n vs lo le, kx_a a_v cyI 12 fv, kx_a a_n cyI 12 fn]) [0, 1, 2, 3, 4, 5, 6, 7, 8, 9, 10, 11, 12, 13, 14, 15, 16] (by decide) rfl
        have hK9 := hK.sub (tys' := [(cyI, .int)]) [0] rfl
        exact vx_throw0 (names := EXC) hx hb hl0 hown (by decide +kernel) (by decide +kernel) hc_107 hz_ex hat ki_ot hth.2.1 hth.2.2 hS (hl.1.trans hml.symm) dX4_candidate_27 dX4_candidate_30 dX4_candidate_31 dX4_candidate_34 (fun x h => (htab x h).elim) (Nat.le_of_ble_eq_true rfl) (Nat.le_of_ble_eq_true rfl) (Nat.le_of_ble_eq_true rfl) (Nat.le_of_ble_eq_true rfl) hlocks (fun t ha hz hk => ⟨(old, nodes, here, ff, ft, fs, fo, fe, uv, un, js, jl, je, jv, jn, vs, lo, le, fv, fn), ⟨(by decide), l0, s0⟩, ⟨rfl, hP9.kept (fun k x hx => hk x.1 ((hP9 k x hx).lt)), va_K.moved ha hK9, hD9⟩, Nat.le_trans hS.1 hz, fun q h1 h2 => (hk q (Nat.lt_of_lt_of_le h1 hS.1)).trans (hS.2.1 q h1 h2)⟩) hS.2.2 (Nat.le_refl _) (Nat.le_refl _)
      · have i_3 : 0 ≤ p2.toInt := kc_nlt c_3
        refine lv_iload hx hb dX4_candidate_16 (lv_at hl 4 rfl) ?_
        refine lv_if_lt (tgt := 27) hx hb dX4_candidate_18 (by decide) (fun c_4 => ?_) (fun c_4 => ?_)
        · have i_4 : p3.toInt < 0 := kc_lt c_4
          have hP9 := hP.sub (ws' := [kx_4 m_ q_row q_t t_ h0 k0 w_ z_ slots old, kx_2 q_t q_row q_joined q_from q_to q_size q_lossOf q_lessBy q_value q_number nodes here, kx_0 q_row q_cell len, kx_a q_cell cyI 160 f, kx_a q_from cyI 319 ff, kx_a q_to cyI 319 ft, kx_a q_size cyI 319 fs, kx_a q_lossOf cyI 319 fo, kx_a q_lessBy cyI 319 fe, kx_a q_value cyI 1914 uv, kx_a q_number cyI 1914 un, kx_3 q_joined j_v j_n js jl je, kx_a j_v cyI 12 jv, kx_a j_n cyI 12 jn, kx_3 h0 a_v a_n vs lo le, kx_a a_v cyI 12 fv, kx_a a_n cyI 12 fn]) [0, 1, 2, 3, 4, 5, 6, 7, 8, 9, 10, 11, 12, 13, 14, 15, 16] rfl
          have hD9 := hD.sub (ws' := [kx_4 m_ q_row q_t t_ h0 k0 w_ z_ slots old, kx_2 q_t q_row q_joined q_from q_to q_size q_lossOf q_lessBy q_value q_number nodes here, kx_0 q_row q_cell len, kx_a q_cell cyI 160 f, kx_a q_from cyI 319 ff, kx_a q_to cyI 319 ft, kx_a q_size cyI 319 fs, kx_a q_lossOf cyI 319 fo, kx_a q_lessBy cyI 319 fe, kx_a q_value cyI 1914 uv, kx_a q_number cyI 1914 un, kx_3 q_joined j_v j_n js jl je, kx_a j_v cyI 12 jv, kx_a j_n cyI 12 jn, kx_3 h0 a_v a_n vs lo le, kx_a a_v cyI 12 fv, kx_a a_n cyI 12 fn]) [0, 1, 2, 3, 4, 5, 6, 7, 8, 9, 10, 11, 12, 13, 14, 15, 16] (by decide) rfl
          have hK9 := hK.sub (tys' := [(cyI, .int)]) [0] rfl
          exact vx_throw0 (names := EXC) hx hb hl0 hown (by decide +kernel) (by decide +kernel) hc_107 hz_ex hat ki_ot hth.2.1 hth.2.2 hS (hl.1.trans hml.symm) dX4_candidate_27 dX4_candidate_30 dX4_candidate_31 dX4_candidate_34 (fun x h => (htab x h).elim) (Nat.le_of_ble_eq_true rfl) (Nat.le_of_ble_eq_true rfl) (Nat.le_of_ble_eq_true rfl) (Nat.le_of_ble_eq_true rfl) hlocks (fun t ha hz hk => ⟨(old, nodes, here, ff, ft, fs, fo, fe, uv, un, js, jl, je, jv, jn, vs, lo, le, fv, fn), ⟨(by decide), l0, s0⟩, ⟨rfl, hP9.kept (fun k x hx => hk x.1 ((hP9 k x hx).lt)), va_K.moved ha hK9, hD9⟩, Nat.le_trans hS.1 hz, fun q h1 h2 => (hk q (Nat.lt_of_lt_of_le h1 hS.1)).trans (hS.2.1 q h1 h2)⟩) hS.2.2 (Nat.le_refl _) (Nat.le_refl _)
        · have i_4 : 0 ≤ p3.toInt := kc_nlt c_4
          refine lv_iload hx hb dX4_candidate_21 (lv_at hl 4 rfl) ?_
          refine lv_iconst (v := 2) hx hb dX4_candidate_23 (by decide) ?_
          refine lv_icmp_le (tgt := 35) hx hb dX4_candidate_24 (by decide) (fun c_5 => ?_) (fun c_5 => ?_)
          · have i_5 : p3.toInt ≤ 2 := kc_le c_5
            refine lv_aload_n hx hb dX4_candidate_35 rfl (lv_at hl 0 rfl) ?_
            obtain ⟨hPc, hDc, hFc, hCc⟩ := kx_pre (wc := [kx_4 m_ q_row q_t t_ h0 k0 w_ z_ slots old, kx_2 q_t q_row q_joined q_from q_to q_size q_lossOf q_lessBy q_value q_number nodes here, kx_0 q_row q_cell len, kx_a q_cell cyI 160 f, kx_a q_from cyI 319 ff, kx_a q_to cyI 319 ft, kx_a q_size cyI 319 fs, kx_a q_lossOf cyI 319 fo, kx_a q_lessBy cyI 319 fe, kx_a q_value cyI 1914 uv, kx_a q_number cyI 1914 un, kx_3 q_joined j_v j_n js jl je, kx_a j_v cyI 12 jv, kx_a j_n cyI 12 jn]) hP hD hS hA [0, 1, 2, 3, 4, 5, 6, 7, 8, 9, 10, 11, 12, 13] (by decide) rfl
            have hKc := hK
            refine va_callr (va_runV (As := []) (rest := []) ⟨hx, hb, hml, hown, hts⟩ (c_X4_laidTree l dC dI m_ q_row q_t t_ h0 k0 w_ z_ slots old q_joined q_from q_to q_size q_lossOf q_lessBy q_value q_number nodes here q_cell cyI len f ff ft fs fo uv un fe j_v j_n js jl je jv jn s.heap.size a0 a1 s0 l0) (cwV 0 hts gX4_candidate_X4_laidTree rfl rfl rfl (by decide +kernel) ⟨Nat.le_of_ble_eq_true rfl, Nat.le_of_ble_eq_true rfl⟩) ⟨fun a U g mk q => by obtain ⟨q0, q1, qP, qK, qD⟩ := q; exact ⟨q0, q1, qP, va_K.moved (u := U) (U := U.calling g mk a) (Vm.Alike.refl U.vm) qK, qD⟩, va_recv hKc hPc (ci := 4) (q0 := 0) rfl rfl, fun U hU hW => ⟨rfl, by rw [hU], by rw [hU]; exact hPc, va_K.moved hW.alike hKc, hDc.weaken (fun _ _ _ _ => trivial)⟩⟩ rfl rfl hl.1 rfl (lv_room (Nat.le_of_ble_eq_true rfl)) dX4_candidate_36 ⟨Nat.le_of_ble_eq_true rfl, Nat.le_of_ble_eq_true rfl⟩) hS (fun q _ h => hFc q h) hFc (fun u ra t H1 locs ht hvm w_6 hB hz1 hk1 hS => ?_)
            obtain ⟨o_7, o_8, o_9, o_10, o_11, o_12, o_13, o_14, o_15, o_16, o_17, o_18, o_19, o_20, o_21⟩ := u
            dsimp only at w_6 hB
            obtain ⟨er, hP1, hK1, hD1⟩ := hB
            rw [ht] at hP1
            have hK1 := va_K.moved hvm.symm hK1
            obtain ⟨hP, hD⟩ := kx_join (w2 := [kx_3 h0 a_v a_n vs lo le, kx_a a_v cyI 12 fv, kx_a a_n cyI 12 fn, kx_4 m_ q_row q_t t_ h0 k0 w_ z_ slots o_7, kx_2 q_t q_row q_joined q_from q_to q_size q_lossOf q_lessBy q_value q_number o_8 o_9, kx_0 q_row q_cell len, kx_a q_cell cyI 160 f, kx_a q_from cyI 319 o_10, kx_a q_to cyI 319 o_11, kx_a q_size cyI 319 o_12, kx_a q_lossOf cyI 319 o_13, kx_a q_lessBy cyI 319 o_14, kx_a q_value cyI 1914 o_15, kx_a q_number cyI 1914 o_16, kx_3 q_joined j_v j_n o_17 o_18 o_19, kx_a j_v cyI 12 o_20, kx_a j_n cyI 12 o_21]) hP hD hP1 hD1 hk1 hFc [0, 1, 2, 3, 4, 5, 6, 7, 8, 9, 10, 11, 12, 13] [14, 15, 16] hCc rfl (by decide) (by decide)
            clear hP1 hD1 hK1 hk1 hz1 hFc hDc hPc hKc hCc
            generalize H1 = H at hP hS ⊢
            have w_6 : o_7.toInt = 0 ∧ 0 ≤ o_8.toInt ∧ o_8.toInt ≤ 319 ∧ sixes o_12 ∧ treeOk o_10 o_11 o_8.toInt len.toInt := w_6
            rw [er]
            refine lv_aload_n hx hb dX4_candidate_39 rfl (lv_at hl 0 rfl) ?_
            refine va_get (D := (dC, dI)) (ci := 4) (v := .ref h0) (C := RX4) (T := TX4) (N := 9) hx hb hts hi_4 hown hK hP 3 rfl rfl 3 (by decide) hf_35 (fun _ h9 => h9) rfl dX4_candidate_40 ?_
            refine lv_iload_n hx hb dX4_candidate_43 rfl (lv_at hl 1 rfl) ?_
            refine lv_iload_n hx hb dX4_candidate_44 rfl (lv_at hl 2 rfl) ?_
            obtain ⟨hPc, hDc, hFc, hCc⟩ := kx_pre (wc := [kx_2 q_t q_row q_joined q_from q_to q_size q_lossOf q_lessBy q_value q_number o_8 o_9, kx_a q_from cyI 319 o_10, kx_a q_to cyI 319 o_11, kx_a q_size cyI 319 o_12, kx_a q_lossOf cyI 319 o_13, kx_a q_value cyI 1914 o_15, kx_a q_number cyI 1914 o_16, kx_3 h0 a_v a_n vs lo le, kx_a a_v cyI 12 fv, kx_a a_n cyI 12 fn]) hP hD hS hA [4, 7, 8, 9, 10, 12, 13, 0, 1, 2] (by decide) rfl
            have hKc := hK
            refine va_callv (va_runV (As := [.ref h0, .int p0, .int p1]) (rest := []) ⟨hx, hb, hml, hown, hts⟩ (c_X2_gather l dC dI q_t q_row q_joined q_from q_to q_size q_lossOf q_lessBy q_value q_number o_8 o_9 h0 a_v a_n cyI vs lo le fv fn o_10 o_11 o_12 o_13 o_15 o_16 p0 p1 H.size w_6.2.1 w_6.2.2.1 w_6.2.2.2.1) (cwV 3 hts gX4_candidate_X2_gather rfl rfl rfl (by decide +kernel) ⟨Nat.le_of_ble_eq_true rfl, Nat.le_of_ble_eq_true rfl⟩) ⟨fun a U g mk q => by obtain ⟨q0, q1, qP, qK, qD⟩ := q; exact ⟨q0, q1, qP, va_K.moved (u := U) (U := U.calling g mk a) (Vm.Alike.refl U.vm) qK, qD⟩, va_recv hKc hPc (ci := 2) (q0 := 0) rfl rfl, fun U hU hW => ⟨rfl, by rw [hU], by rw [hU]; exact hPc, va_K.moved hW.alike hKc, hDc.weaken (fun _ _ _ _ => trivial)⟩⟩ rfl rfl hl.1 rfl (lv_room (Nat.le_of_ble_eq_true rfl)) dX4_candidate_45 ⟨Nat.le_of_ble_eq_true rfl, Nat.le_of_ble_eq_true rfl⟩) hS (fun q _ h => hFc q h) hFc (fun u t H1 locs ht hvm w_22 hB hz1 hk1 hS => ?_)
            obtain ⟨o_23, o_24, o_25, o_26, o_27⟩ := u
            dsimp only at w_22 hB
            obtain ⟨hP1, hK1, hD1⟩ := hB
            rw [ht] at hP1
            have hK1 := va_K.moved hvm.symm hK1
            obtain ⟨hP, hD⟩ := kx_join (w2 := [kx_4 m_ q_row q_t t_ h0 k0 w_ z_ slots o_7, kx_0 q_row q_cell len, kx_a q_cell cyI 160 f, kx_a q_lessBy cyI 319 o_14, kx_3 q_joined j_v j_n o_17 o_18 o_19, kx_a j_v cyI 12 o_20, kx_a j_n cyI 12 o_21, kx_2 q_t q_row q_joined q_from q_to q_size q_lossOf q_lessBy q_value q_number o_8 o_9, kx_a q_from cyI 319 o_10, kx_a q_to cyI 319 o_11, kx_a q_size cyI 319 o_12, kx_a q_lossOf cyI 319 o_13, kx_a q_value cyI 1914 o_15, kx_a q_number cyI 1914 o_16, kx_3 h0 a_v a_n o_23 o_24 o_25, kx_a a_v cyI 12 o_26, kx_a a_n cyI 12 o_27]) hP hD hP1 hD1 hk1 hFc [4, 7, 8, 9, 10, 12, 13, 0, 1, 2] [3, 5, 6, 11, 14, 15, 16] hCc rfl (by decide) (by decide)
            clear hP1 hD1 hK1 hk1 hz1 hFc hDc hPc hKc hCc
            generalize H1 = H at hP hS ⊢
            have w_22 : 0 ≤ o_23.toInt ∧ o_23.toInt ≤ 12 := w_22
            refine lv_iload_n hx hb dX4_candidate_48 rfl (lv_at hl 3 rfl) ?_
            refine lv_aload_n hx hb dX4_candidate_49 rfl (lv_at hl 0 rfl) ?_
            refine va_get (D := (dC, dI)) (ci := 4) (v := .ref h0) (C := RX4) (T := TX4) (N := 9) hx hb hts hi_4 hown hK hP 0 rfl rfl 3 (by decide) hf_35 (fun _ h9 => h9) rfl dX4_candidate_50 ?_
            refine va_get (D := (dC, dI)) (ci := 3) (v := .int o_23) (C := RX3) (T := TX3) (N := 5) hx hb hts hi_3 hown hK hP 14 rfl rfl 2 (by decide) hf_174 (fun _ h9 => h9) rfl dX4_candidate_53 ?_
            refine lv_icmp_lt (tgt := 67) hx hb dX4_candidate_56 (by decide) (fun c_28 => ?_) (fun c_28 => ?_)
            · have i_28 : p2.toInt < o_23.toInt := kc_lt c_28
              refine lv_iload hx hb dX4_candidate_67 (lv_at hl 4 rfl) ?_
              by_cases s_29 : p3.toInt = 0
              · refine lv_lookup (tgt := 96) (off := 27) hx hb dX4_candidate_69 (by decide) (by rw [s_29]; rfl) (by decide) ?_
                refine lv_aload_n hx hb dX4_candidate_96 rfl (lv_at hl 0 rfl) ?_
                refine va_get (D := (dC, dI)) (ci := 4) (v := .ref h0) (C := RX4) (T := TX4) (N := 9) hx hb hts hi_4 hown hK hP 0 rfl rfl 3 (by decide) hf_35 (fun _ h9 => h9) rfl dX4_candidate_97 ?_
                refine va_get (D := (dC, dI)) (ci := 3) (v := .ref a_v) (C := RX3) (T := TX3) (N := 5) hx hb hts hi_3 hown hK hP 14 rfl rfl 0 (by decide) hf_133 (fun _ h9 => h9) rfl dX4_candidate_100 ?_
                refine lv_iload_n hx hb dX4_candidate_103 rfl (lv_at hl 3 rfl) ?_
                refine va_iald hx hb hK hP 15 0 rfl rfl (ki_in (om_8 i_3) (om_29 w_22.2 i_28)) dX4_candidate_104 ?_
                refine lv_topi (fun y_30 ey_30 => ?_)
                have j_30 : y_30.toInt = (o_26 p2.toNatClampNeg).toInt := congrArg Int32.toInt ey_30
                refine vx_ret ?_
                obtain ⟨hP9, hD9⟩ := kx_sub (w2 := [kx_4 m_ q_row q_t t_ h0 k0 w_ z_ slots o_7, kx_2 q_t q_row q_joined q_from q_to q_size q_lossOf q_lessBy q_value q_number o_8 o_9, kx_0 q_row q_cell len, kx_a q_cell cyI 160 f, kx_a q_from cyI 319 o_10, kx_a q_to cyI 319 o_11, kx_a q_size cyI 319 o_12, kx_a q_lossOf cyI 319 o_13, kx_a q_lessBy cyI 319 o_14, kx_a q_value cyI 1914 o_15, kx_a q_number cyI 1914 o_16, kx_3 q_joined j_v j_n o_17 o_18 o_19, kx_a j_v cyI 12 o_20, kx_a j_n cyI 12 o_21, kx_3 h0 a_v a_n o_23 o_24 o_25, kx_a a_v cyI 12 o_26, kx_a a_n cyI 12 o_27]) hP hD [0, 7, 1, 2, 8, 9, 10, 11, 3, 12, 13, 4, 5, 6, 14, 15, 16] (by decide) rfl
                have hK9 := hK
                refine W.widen (k := 1) (n := 6) (Nat.le_of_ble_eq_true rfl) (Nat.le_of_ble_eq_true rfl) ?_
                exact W.iret (v := y_30) hx hb hr (fun t ht hW => ⟨⟨y_30, (o_7, o_8, o_9, o_10, o_11, o_12, o_13, o_14, o_15, o_16, o_17, o_18, o_19, o_20, o_21, o_23, o_24, o_25, o_26, o_27), rfl, ⟨(by decide), (fun _ => ⟨(by (try dsimp only); omega), (by (try dsimp only); omega), w_6.2.2.2.2⟩), w_6.2.2.2.1⟩, by rw [ht]; exact hP9, va_K.moved hW.alike hK9, hD9⟩, hS.F ht⟩) hS.2.2 dX4_candidate_105
              by_cases s_31 : p3.toInt = 1
              · refine lv_lookup (tgt := 106) (off := 37) hx hb dX4_candidate_69 (by decide) (by rw [s_31]; rfl) (by decide) ?_
                refine lv_aload_n hx hb dX4_candidate_106 rfl (lv_at hl 0 rfl) ?_
                refine va_get (D := (dC, dI)) (ci := 4) (v := .ref h0) (C := RX4) (T := TX4) (N := 9) hx hb hts hi_4 hown hK hP 0 rfl rfl 3 (by decide) hf_35 (fun _ h9 => h9) rfl dX4_candidate_107 ?_
                refine va_get (D := (dC, dI)) (ci := 3) (v := .ref a_n) (C := RX3) (T := TX3) (N := 5) hx hb hts hi_3 hown hK hP 14 rfl rfl 1 (by decide) hf_136 (fun _ h9 => h9) rfl dX4_candidate_110 ?_
                refine lv_iload_n hx hb dX4_candidate_113 rfl (lv_at hl 3 rfl) ?_
                refine va_iald hx hb hK hP 16 0 rfl rfl (ki_in (om_8 i_3) (om_29 w_22.2 i_28)) dX4_candidate_114 ?_
                refine lv_topi (fun y_32 ey_32 => ?_)
                have j_32 : y_32.toInt = (o_27 p2.toNatClampNeg).toInt := congrArg Int32.toInt ey_32
                refine vx_ret ?_
                obtain ⟨hP9, hD9⟩ := kx_sub (w2 := [kx_4 m_ q_row q_t t_ h0 k0 w_ z_ slots o_7, kx_2 q_t q_row q_joined q_from q_to q_size q_lossOf q_lessBy q_value q_number o_8 o_9, kx_0 q_row q_cell len, kx_a q_cell cyI 160 f, kx_a q_from cyI 319 o_10, kx_a q_to cyI 319 o_11, kx_a q_size cyI 319 o_12, kx_a q_lossOf cyI 319 o_13, kx_a q_lessBy cyI 319 o_14, kx_a q_value cyI 1914 o_15, kx_a q_number cyI 1914 o_16, kx_3 q_joined j_v j_n o_17 o_18 o_19, kx_a j_v cyI 12 o_20, kx_a j_n cyI 12 o_21, kx_3 h0 a_v a_n o_23 o_24 o_25, kx_a a_v cyI 12 o_26, kx_a a_n cyI 12 o_27]) hP hD [0, 7, 1, 2, 8, 9, 10, 11, 3, 12, 13, 4, 5, 6, 14, 15, 16] (by decide) rfl
                have hK9 := hK
                refine W.widen (k := 1) (n := 6) (Nat.le_of_ble_eq_true rfl) (Nat.le_of_ble_eq_true rfl) ?_
                exact W.iret (v := y_32) hx hb hr (fun t ht hW => ⟨⟨y_32, (o_7, o_8, o_9, o_10, o_11, o_12, o_13, o_14, o_15, o_16, o_17, o_18, o_19, o_20, o_21, o_23, o_24, o_25, o_26, o_27), rfl, ⟨(by decide), (fun _ => ⟨(by (try dsimp only); omega), (by (try dsimp only); omega), w_6.2.2.2.2⟩), w_6.2.2.2.1⟩, by rw [ht]; exact hP9, va_K.moved hW.alike hK9, hD9⟩, hS.F ht⟩) hS.2.2 dX4_candidate_115
              have s_33 : p3.toInt = 2 := by omega
              refine lv_lookup (tgt := 116) (off := 47) hx hb dX4_candidate_69 (by decide) (by rw [s_33]; rfl) (by decide) ?_
              refine lv_aload_n hx hb dX4_candidate_116 rfl (lv_at hl 0 rfl) ?_
              refine va_get (D := (dC, dI)) (ci := 4) (v := .ref q_row) (C := RX4) (T := TX4) (N := 9) hx hb hts hi_4 hown hK hP 0 rfl rfl 0 (by decide) hf_12 (fun _ h9 => h9) rfl dX4_candidate_117 ?_
              refine lv_aload_n hx hb dX4_candidate_120 rfl (lv_at hl 0 rfl) ?_
              refine va_get (D := (dC, dI)) (ci := 4) (v := .ref h0) (C := RX4) (T := TX4) (N := 9) hx hb hts hi_4 hown hK hP 0 rfl rfl 3 (by decide) hf_35 (fun _ h9 => h9) rfl dX4_candidate_121 ?_
              refine va_get (D := (dC, dI)) (ci := 3) (v := .ref a_v) (C := RX3) (T := TX3) (N := 5) hx hb hts hi_3 hown hK hP 14 rfl rfl 0 (by decide) hf_133 (fun _ h9 => h9) rfl dX4_candidate_124 ?_
              refine lv_iload_n hx hb dX4_candidate_127 rfl (lv_at hl 3 rfl) ?_
              refine va_iald hx hb hK hP 15 0 rfl rfl (ki_in (om_8 i_3) (om_29 w_22.2 i_28)) dX4_candidate_128 ?_
              refine lv_topi (fun y_34 ey_34 => ?_)
              have j_34 : y_34.toInt = (o_26 p2.toNatClampNeg).toInt := congrArg Int32.toInt ey_34
              refine lv_iload_n hx hb dX4_candidate_129 rfl (lv_at hl 1 rfl) ?_
              refine lv_iload_n hx hb dX4_candidate_130 rfl (lv_at hl 2 rfl) ?_
              have hPc := hP.sub (ws' := [kx_0 q_row q_cell len, kx_a q_cell cyI 160 f]) [1, 2] rfl
              have hKc := hK
              refine vp_callSi (W.runV (As := [.int y_34, .int p0, .int p1]) (rest := []) ⟨hx, hb, hml, hown, hts⟩ (c_X0_oftenIn l dC dI q_row q_cell cyI len f y_34 p0 p1 (om_8 w_1.1) (om_141 a1 w_1.2.2)) (cwV 3 hts gX4_candidate_X0_oftenIn rfl rfl rfl (by decide +kernel) ⟨Nat.le_of_ble_eq_true rfl, Nat.le_of_ble_eq_true rfl⟩) ⟨fun a U g mk q => by obtain ⟨q0, qP, qK⟩ := q; exact ⟨q0, qP, va_K.moved (u := U) (U := U.calling g mk a) (Vm.Alike.refl U.vm) qK⟩, va_recv hKc hPc (ci := 0) (q0 := 0) rfl rfl, fun U hU hW => ⟨rfl, by rw [hU]; exact hPc, va_K.moved hW.alike hKc⟩⟩ rfl rfl hl.1 rfl (lv_room (Nat.le_of_ble_eq_true rfl)) dX4_candidate_131 ⟨Nat.le_of_ble_eq_true rfl, Nat.le_of_ble_eq_true rfl⟩) (fun r_35 w_35 => ?_)
              have w_35 : r_35.toInt = (cnt f y_34 p0.toNatClampNeg (p1.toInt - p0.toInt).toNat : Int) := w_35
              refine vx_ret ?_
              obtain ⟨hP9, hD9⟩ := kx_sub (w2 := [kx_4 m_ q_row q_t t_ h0 k0 w_ z_ slots o_7, kx_2 q_t q_row q_joined q_from q_to q_size q_lossOf q_lessBy q_value q_number o_8 o_9, kx_0 q_row q_cell len, kx_a q_cell cyI 160 f, kx_a q_from cyI 319 o_10, kx_a q_to cyI 319 o_11, kx_a q_size cyI 319 o_12, kx_a q_lossOf cyI 319 o_13, kx_a q_lessBy cyI 319 o_14, kx_a q_value cyI 1914 o_15, kx_a q_number cyI 1914 o_16, kx_3 q_joined j_v j_n o_17 o_18 o_19, kx_a j_v cyI 12 o_20, kx_a j_n cyI 12 o_21, kx_3 h0 a_v a_n o_23 o_24 o_25, kx_a a_v cyI 12 o_26, kx_a a_n cyI 12 o_27]) hP hD [0, 7, 1, 2, 8, 9, 10, 11, 3, 12, 13, 4, 5, 6, 14, 15, 16] (by decide) rfl
              have hK9 := hK
              refine W.widen (k := 1) (n := 6) (Nat.le_of_ble_eq_true rfl) (Nat.le_of_ble_eq_true rfl) ?_
              exact W.iret (v := r_35) hx hb hr (fun t ht hW => ⟨⟨r_35, (o_7, o_8, o_9, o_10, o_11, o_12, o_13, o_14, o_15, o_16, o_17, o_18, o_19, o_20, o_21, o_23, o_24, o_25, o_26, o_27), rfl, ⟨(by decide), (fun _ => ⟨(by (try dsimp only); omega), (by (try dsimp only); omega), w_6.2.2.2.2⟩), w_6.2.2.2.1⟩, by rw [ht]; exact hP9, va_K.moved hW.alike hK9, hD9⟩, hS.F ht⟩) hS.2.2 dX4_candidate_134
            · have i_28 : o_23.toInt ≤ p2.toInt := kc_nlt c_28
              have hP9 := hP.sub (ws' := [kx_4 m_ q_row q_t t_ h0 k0 w_ z_ slots o_7, kx_2 q_t q_row q_joined q_from q_to q_size q_lossOf q_lessBy q_value q_number o_8 o_9, kx_0 q_row q_cell len, kx_a q_cell cyI 160 f, kx_a q_from cyI 319 o_10, kx_a q_to cyI 319 o_11, kx_a q_size cyI 319 o_12, kx_a q_lossOf cyI 319 o_13, kx_a q_lessBy cyI 319 o_14, kx_a q_value cyI 1914 o_15, kx_a q_number cyI 1914 o_16, kx_3 q_joined j_v j_n o_17 o_18 o_19, kx_a j_v cyI 12 o_20, kx_a j_n cyI 12 o_21, kx_3 h0 a_v a_n o_23 o_24 o_25, kx_a a_v cyI 12 o_26, kx_a a_n cyI 12 o_27]) [0, 7, 1, 2, 8, 9, 10, 11, 3, 12, 13, 4, 5, 6, 14, 15, 16] rfl
              have hD9 := hD.sub (ws' := [kx_4 m_ q_row q_t t_ h0 k0 w_ z_ slots o_7, kx_2 q_t q_row q_joined q_from q_to q_size q_lossOf q_lessBy q_value q_number o_8 o_9, kx_0 q_row q_cell len, kx_a q_cell cyI 160 f, kx_a q_from cyI 319 o_10, kx_a q_to cyI 319 o_11, kx_a q_size cyI 319 o_12, kx_a q_lossOf cyI 319 o_13, kx_a q_lessBy cyI 319 o_14, kx_a q_value cyI 1914 o_15, kx_a q_number cyI 1914 o_16, kx_3 q_joined j_v j_n o_17 o_18 o_19, kx_a j_v cyI 12 o_20, kx_a j_n cyI 12 o_21, kx_3 h0 a_v a_n o_23 o_24 o_25, kx_a a_v cyI 12 o_26, kx_a a_n cyI 12 o_27]) [0, 7, 1, 2, 8, 9, 10, 11, 3, 12, 13, 4, 5, 6, 14, 15, 16] (by decide) rfl
              have hK9 := hK.sub (tys' := [(cyI, .int)]) [0] rfl
              exact vx_throw0 (names := EXC) hx hb hl0 hown (by decide +kernel) (by decide +kernel) hc_107 hz_ex hat ki_ot hth.2.1 hth.2.2 hS (hl.1.trans hml.symm) dX4_candidate_59 dX4_candidate_62 dX4_candidate_63 dX4_candidate_66 (fun x h => (htab x h).elim) (Nat.le_of_ble_eq_true rfl) (Nat.le_of_ble_eq_true rfl) (Nat.le_of_ble_eq_true rfl) (Nat.le_of_ble_eq_true rfl) hlocks (fun t ha hz hk => ⟨(o_7, o_8, o_9, o_10, o_11, o_12, o_13, o_14, o_15, o_16, o_17, o_18, o_19, o_20, o_21, o_23, o_24, o_25, o_26, o_27), ⟨(by decide), (fun _ => ⟨(by (try dsimp only); omega), (by (try dsimp only); omega), w_6.2.2.2.2⟩), w_6.2.2.2.1⟩, ⟨rfl, hP9.kept (fun k x hx => hk x.1 ((hP9 k x hx).lt)), va_K.moved ha hK9, hD9⟩, Nat.le_trans hS.1 hz, fun q h1 h2 => (hk q (Nat.lt_of_lt_of_le h1 hS.1)).trans (hS.2.1 q h1 h2)⟩) hS.2.2 (Nat.le_refl _) (Nat.le_refl _)
          · have i_5 : 2 < p3.toInt := kc_nle c_5
            have hP9 := hP.sub (ws' := [kx_4 m_ q_row q_t t_ h0 k0 w_ z_ slots old, kx_2 q_t q_row q_joined q_from q_to q_size q_lossOf q_lessBy q_value q_number nodes here, kx_0 q_row q_cell len, kx_a q_cell cyI 160 f, kx_a q_from cyI 319 ff, kx_a q_to cyI 319 ft, kx_a q_size cyI 319 fs, kx_a q_lossOf cyI 319 fo, kx_a q_lessBy cyI 319 fe, kx_a q_value cyI 1914 uv, kx_a q_number cyI 1914 un, kx_3 q_joined j_v j_n js jl je, kx_a j_v cyI 12 jv, kx_a j_n cyI 12 jn, kx_3 h0 a_v a_n vs lo le, kx_a a_v cyI 12 fv, kx_a a_n cyI 12 fn]) [0, 1, 2, 3, 4, 5, 6, 7, 8, 9, 10, 11, 12, 13, 14, 15, 16] rfl
            have hD9 := hD.sub (ws' := [kx_4 m_ q_row q_t t_ h0 k0 w_ z_ slots old, kx_2 q_t q_row q_joined q_from q_to q_size q_lossOf q_lessBy q_value q_number nodes here, kx_0 q_row q_cell len, kx_a q_cell cyI 160 f, kx_a q_from cyI 319 ff, kx_a q_to cyI 319 ft, kx_a q_size cyI 319 fs, kx_a q_lossOf cyI 319 fo, kx_a q_lessBy cyI 319 fe, kx_a q_value cyI 1914 uv, kx_a q_number cyI 1914 un, kx_3 q_joined j_v j_n js jl je, kx_a j_v cyI 12 jv, kx_a j_n cyI 12 jn, kx_3 h0 a_v a_n vs lo le, kx_a a_v cyI 12 fv, kx_a a_n cyI 12 fn]) [0, 1, 2, 3, 4, 5, 6, 7, 8, 9, 10, 11, 12, 13, 14, 15, 16] (by decide) rfl
            have hK9 := hK.sub (tys' := [(cyI, .int)]) [0] rfl
            exact vx_throw0 (names := EXC) hx hb hl0 hown (by decide +kernel) (by decide +kernel) hc_107 hz_ex hat ki_ot hth.2.1 hth.2.2 hS (hl.1.trans hml.symm) dX4_candidate_27 dX4_candidate_30 dX4_candidate_31 dX4_candidate_34 (fun x h => (htab x h).elim) (Nat.le_of_ble_eq_true rfl) (Nat.le_of_ble_eq_true rfl) (Nat.le_of_ble_eq_true rfl) (Nat.le_of_ble_eq_true rfl) hlocks (fun t ha hz hk => ⟨(old, nodes, here, ff, ft, fs, fo, fe, uv, un, js, jl, je, jv, jn, vs, lo, le, fv, fn), ⟨(by decide), l0, s0⟩, ⟨rfl, hP9.kept (fun k x hx => hk x.1 ((hP9 k x hx).lt)), va_K.moved ha hK9, hD9⟩, Nat.le_trans hS.1 hz, fun q h1 h2 => (hk q (Nat.lt_of_lt_of_le h1 hS.1)).trans (hS.2.1 q h1 h2)⟩) hS.2.2 (Nat.le_refl _) (Nat.le_refl _)
  · have w_1 : (p0.toInt < 0 ∨ p1.toInt ≤ p0.toInt ∨ len.toInt < p1.toInt) := w_1
    refine lv_if_eq (tgt := 27) hx hb dX4_candidate_9 (by decide) (fun c_36 => ?_) (fun c_36 => ?_)
    · have hP9 := hP.sub (ws' := [kx_4 m_ q_row q_t t_ h0 k0 w_ z_ slots old, kx_2 q_t q_row q_joined q_from q_to q_size q_lossOf q_lessBy q_value q_number nodes here, kx_0 q_row q_cell len, kx_a q_cell cyI 160 f, kx_a q_from cyI 319 ff, kx_a q_to cyI 319 ft, kx_a q_size cyI 319 fs, kx_a q_lossOf cyI 319 fo, kx_a q_lessBy cyI 319 fe, kx_a q_value cyI 1914 uv, kx_a q_number cyI 1914 un, kx_3 q_joined j_v j_n js jl je, kx_a j_v cyI 12 jv, kx_a j_n cyI 12 jn, kx_3 h0 a_v a_n vs lo le, kx_a a_v cyI 12 fv, kx_a a_n cyI 12 fn]) [0, 1, 2, 3, 4, 5, 6, 7, 8, 9, 10, 11, 12, 13, 14, 15, 16] rfl
      have hD9 := hD.sub (ws' := [kx_4 m_ q_row q_t t_ h0 k0 w_ z_ slots old, kx_2 q_t q_row q_joined q_from q_to q_size q_lossOf q_lessBy q_value q_number nodes here, kx_0 q_row q_cell len, kx_a q_cell cyI 160 f, kx_a q_from cyI 319 ff, kx_a q_to cyI 319 ft, kx_a q_size cyI 319 fs, kx_a q_lossOf cyI 319 fo, kx_a q_lessBy cyI 319 fe, kx_a q_value cyI 1914 uv, kx_a q_number cyI 1914 un, kx_3 q_joined j_v j_n js jl je, kx_a j_v cyI 12 jv, kx_a j_n cyI 12 jn, kx_3 h0 a_v a_n vs lo le, kx_a a_v cyI 12 fv, kx_a a_n cyI 12 fn]) [0, 1, 2, 3, 4, 5, 6, 7, 8, 9, 10, 11, 12, 13, 14, 15, 16] (by decide) rfl
      have hK9 := hK.sub (tys' := [(cyI, .int)]) [0] rfl
      exact vx_throw0 (names := EXC) hx hb hl0 hown (by decide +kernel) (by decide +kernel) hc_107 hz_ex hat ki_ot hth.2.1 hth.2.2 hS (hl.1.trans hml.symm) dX4_candidate_27 dX4_candidate_30 dX4_candidate_31 dX4_candidate_34 (fun x h => (htab x h).elim) (Nat.le_of_ble_eq_true rfl) (Nat.le_of_ble_eq_true rfl) (Nat.le_of_ble_eq_true rfl) (Nat.le_of_ble_eq_true rfl) hlocks (fun t ha hz hk => ⟨(old, nodes, here, ff, ft, fs, fo, fe, uv, un, js, jl, je, jv, jn, vs, lo, le, fv, fn), ⟨(by decide), l0, s0⟩, ⟨rfl, hP9.kept (fun k x hx => hk x.1 ((hP9 k x hx).lt)), va_K.moved ha hK9, hD9⟩, Nat.le_trans hS.1 hz, fun q h1 h2 => (hk q (Nat.lt_of_lt_of_le h1 hS.1)).trans (hS.2.1 q h1 h2)⟩) hS.2.2 (Nat.le_refl _) (Nat.le_refl _)
    · exact absurd c_36 (by decide)

set_option maxHeartbeats 4000000 in
set_option maxRecDepth 100000 in
theorem c_X4_heavyAt (l : Launch) (hl0 : l.stackTraces = false) (dC : Nat → ClassId) (dI : Nat → Nat → Nat) (m_ : Nat) (q_row : Nat) (q_t : Nat) (t_ : Nat) (h0 : Nat) (k0 : Nat) (w_ : Nat) (z_ : Nat) (slots : Int32) (old : Int32) (q_joined : Nat) (q_from : Nat) (q_to : Nat) (q_size : Nat) (q_lossOf : Nat) (q_lessBy : Nat) (q_value : Nat) (q_number : Nat) (nodes : Int32) (here : Int32) (q_cell : Nat) (cyI : ClassId) (len : Int32) (f : Nat → Int32) (ff : Nat → Int32) (ft : Nat → Int32) (fs : Nat → Int32) (fo : Nat → Int32) (uv : Nat → Int32) (un : Nat → Int32) (fe : Nat → Int32) (j_v : Nat) (j_n : Nat) (js : Int32) (jl : Int32) (je : Int32) (jv : Nat → Int32) (jn : Nat → Int32) (a_v : Nat) (a_n : Nat) (vs : Int32) (lo : Int32) (le : Int32) (fv : Nat → Int32) (fn : Nat → Int32) (p0 : Int32) (p1 : Int32) (p2 : Int32) (p3 : Int32) (p4 : Int32) (p5 : Int32) (sz : Nat) (a0 : 0 ≤ len.toInt) (a1 : len.toInt ≤ 160) (s0 : sixes fs) (l0 : laidP old ff ft nodes len) : vx_Met l yX4_heavyAt wsX4_heavyAt ({ frames := 8, cells := 1, slots := 6, locals := 360 }) (va_Pc [.ref m_, .int p0, .int p1, .int p2, .int p3, .int p4, .int p5] (fun U => U.heap.size = sz ∧ va_P (dC, dI) vwCl [kx_4 m_ q_row q_t t_ h0 k0 w_ z_ slots old, kx_2 q_t q_row q_joined q_from q_to q_size q_lossOf q_lessBy q_value q_number nodes here, kx_0 q_row q_cell len, kx_a q_cell cyI 160 f, kx_a q_from cyI 319 ff, kx_a q_to cyI 319 ft, kx_a q_size cyI 319 fs, kx_a q_lossOf cyI 319 fo, kx_a q_lessBy cyI 319 fe, kx_a q_value cyI 1914 uv, kx_a q_number cyI 1914 un, kx_3 q_joined j_v j_n js jl je, kx_a j_v cyI 12 jv, kx_a j_n cyI 12 jn, kx_3 h0 a_v a_n vs lo le, kx_a a_v cyI 12 fv, kx_a a_n cyI 12 fn] U.heap ∧ va_K (dC, dI) vwCl [(cyI, .int)] U ∧ va_D (fun _ => True) [kx_4 m_ q_row q_t t_ h0 k0 w_ z_ slots old, kx_2 q_t q_row q_joined q_from q_to q_size q_lossOf q_lessBy q_value q_number nodes here, kx_0 q_row q_cell len, kx_a q_cell cyI 160 f, kx_a q_from cyI 319 ff, kx_a q_to cyI 319 ft, kx_a q_size cyI 319 fs, kx_a q_lossOf cyI 319 fo, kx_a q_lessBy cyI 319 fe, kx_a q_value cyI 1914 uv, kx_a q_number cyI 1914 un, kx_3 q_joined j_v j_n js jl je, kx_a j_v cyI 12 jv, kx_a j_n cyI 12 jn, kx_3 h0 a_v a_n vs lo le, kx_a a_v cyI 12 fv, kx_a a_n cyI 12 fn] ∧ va_Nw (.methodLinkNest RX3 42 yX4_isHeavy RX4) U ∧ ki_ThA (va_A [kx_4 m_ q_row q_t t_ h0 k0 w_ z_ slots old, kx_2 q_t q_row q_joined q_from q_to q_size q_lossOf q_lessBy q_value q_number nodes here, kx_0 q_row q_cell len, kx_a q_cell cyI 160 f, kx_a q_from cyI 319 ff, kx_a q_to cyI 319 ft, kx_a q_size cyI 319 fs, kx_a q_lossOf cyI 319 fo, kx_a q_lessBy cyI 319 fe, kx_a q_value cyI 1914 uv, kx_a q_number cyI 1914 un, kx_3 q_joined j_v j_n js jl je, kx_a j_v cyI 12 jv, kx_a j_n cyI 12 jn, kx_3 h0 a_v a_n vs lo le, kx_a a_v cyI 12 fv, kx_a a_n cyI 12 fn] sz) U)) (va_Qi (fun (r : Int32) (u : Int32 × Int32 × Int32 × (Nat → Int32) × (Nat → Int32) × (Nat → Int32) × (Nat → Int32) × (Nat → Int32) × (Nat → Int32) × (Nat → Int32) × Int32 × Int32 × Int32 × (Nat → Int32) × (Nat → Int32) × Int32 × Int32 × Int32 × (Nat → Int32) × (Nat → Int32)) => (0 : Int) ≤ 1 ∧ laidP u.1 u.2.2.2.1 u.2.2.2.2.1 u.2.1 len ∧ sixes u.2.2.2.2.2.1) (fun (u : Int32 × Int32 × Int32 × (Nat → Int32) × (Nat → Int32) × (Nat → Int32) × (Nat → Int32) × (Nat → Int32) × (Nat → Int32) × (Nat → Int32) × Int32 × Int32 × Int32 × (Nat → Int32) × (Nat → Int32) × Int32 × Int32 × Int32 × (Nat → Int32) × (Nat → Int32)) (t : State) => va_P (dC, dI) vwCl [kx_4 m_ q_row q_t t_ h0 k0 w_ z_ slots u.1, kx_2 q_t q_row q_joined q_from q_to q_size q_lossOf q_lessBy q_value q_number u.2.1 u.2.2.1, kx_0 q_row q_cell len, kx_a q_cell cyI 160 f, kx_a q_from cyI 319 u.2.2.2.1, kx_a q_to cyI 319 u.2.2.2.2.1, kx_a q_size cyI 319 u.2.2.2.2.2.1, kx_a q_lossOf cyI 319 u.2.2.2.2.2.2.1, kx_a q_lessBy cyI 319 u.2.2.2.2.2.2.2.1, kx_a q_value cyI 1914 u.2.2.2.2.2.2.2.2.1, kx_a q_number cyI 1914 u.2.2.2.2.2.2.2.2.2.1, kx_3 q_joined j_v j_n u.2.2.2.2.2.2.2.2.2.2.1 u.2.2.2.2.2.2.2.2.2.2.2.1 u.2.2.2.2.2.2.2.2.2.2.2.2.1, kx_a j_v cyI 12 u.2.2.2.2.2.2.2.2.2.2.2.2.2.1, kx_a j_n cyI 12 u.2.2.2.2.2.2.2.2.2.2.2.2.2.2.1, kx_3 h0 a_v a_n u.2.2.2.2.2.2.2.2.2.2.2.2.2.2.2.1 u.2.2.2.2.2.2.2.2.2.2.2.2.2.2.2.2.1 u.2.2.2.2.2.2.2.2.2.2.2.2.2.2.2.2.2.1, kx_a a_v cyI 12 u.2.2.2.2.2.2.2.2.2.2.2.2.2.2.2.2.2.2.1, kx_a a_n cyI 12 u.2.2.2.2.2.2.2.2.2.2.2.2.2.2.2.2.2.2.2] t.heap ∧ va_K (dC, dI) vwCl [(cyI, .int)] t ∧ va_D (va_A [kx_4 m_ q_row q_t t_ h0 k0 w_ z_ slots old, kx_2 q_t q_row q_joined q_from q_to q_size q_lossOf q_lessBy q_value q_number nodes here, kx_0 q_row q_cell len, kx_a q_cell cyI 160 f, kx_a q_from cyI 319 ff, kx_a q_to cyI 319 ft, kx_a q_size cyI 319 fs, kx_a q_lossOf cyI 319 fo, kx_a q_lessBy cyI 319 fe, kx_a q_value cyI 1914 uv, kx_a q_number cyI 1914 un, kx_3 q_joined j_v j_n js jl je, kx_a j_v cyI 12 jv, kx_a j_n cyI 12 jn, kx_3 h0 a_v a_n vs lo le, kx_a a_v cyI 12 fv, kx_a a_n cyI 12 fn] sz) [kx_4 m_ q_row q_t t_ h0 k0 w_ z_ slots u.1, kx_2 q_t q_row q_joined q_from q_to q_size q_lossOf q_lessBy q_value q_number u.2.1 u.2.2.1, kx_0 q_row q_cell len, kx_a q_cell cyI 160 f, kx_a q_from cyI 319 u.2.2.2.1, kx_a q_to cyI 319 u.2.2.2.2.1, kx_a q_size cyI 319 u.2.2.2.2.2.1, kx_a q_lossOf cyI 319 u.2.2.2.2.2.2.1, kx_a q_lessBy cyI 319 u.2.2.2.2.2.2.2.1, kx_a q_value cyI 1914 u.2.2.2.2.2.2.2.2.1, kx_a q_number cyI 1914 u.2.2.2.2.2.2.2.2.2.1, kx_3 q_joined j_v j_n u.2.2.2.2.2.2.2.2.2.2.1 u.2.2.2.2.2.2.2.2.2.2.2.1 u.2.2.2.2.2.2.2.2.2.2.2.2.1, kx_a j_v cyI 12 u.2.2.2.2.2.2.2.2.2.2.2.2.2.1, kx_a j_n cyI 12 u.2.2.2.2.2.2.2.2.2.2.2.2.2.2.1, kx_3 h0 a_v a_n u.2.2.2.2.2.2.2.2.2.2.2.2.2.2.2.1 u.2.2.2.2.2.2.2.2.2.2.2.2.2.2.2.2.1 u.2.2.2.2.2.2.2.2.2.2.2.2.2.2.2.2.2.1, kx_a a_v cyI 12 u.2.2.2.2.2.2.2.2.2.2.2.2.2.2.2.2.2.2.1, kx_a a_n cyI 12 u.2.2.2.2.2.2.2.2.2.2.2.2.2.2.2.2.2.2.2]) (va_A [kx_4 m_ q_row q_t t_ h0 k0 w_ z_ slots old, kx_2 q_t q_row q_joined q_from q_to q_size q_lossOf q_lessBy q_value q_number nodes here, kx_0 q_row q_cell len, kx_a q_cell cyI 160 f, kx_a q_from cyI 319 ff, kx_a q_to cyI 319 ft, kx_a q_size cyI 319 fs, kx_a q_lossOf cyI 319 fo, kx_a q_lessBy cyI 319 fe, kx_a q_value cyI 1914 uv, kx_a q_number cyI 1914 un, kx_3 q_joined j_v j_n js jl je, kx_a j_v cyI 12 jv, kx_a j_n cyI 12 jn, kx_3 h0 a_v a_n vs lo le, kx_a a_v cyI 12 fv, kx_a a_n cyI 12 fn] sz)) (vx_X (fun u : Int32 × Int32 × Int32 × (Nat → Int32) × (Nat → Int32) × (Nat → Int32) × (Nat → Int32) × (Nat → Int32) × (Nat → Int32) × (Nat → Int32) × Int32 × Int32 × Int32 × (Nat → Int32) × (Nat → Int32) × Int32 × Int32 × Int32 × (Nat → Int32) × (Nat → Int32) => (0 : Int) ≤ 1 ∧ laidP u.1 u.2.2.2.1 u.2.2.2.2.1 u.2.1 len ∧ sixes u.2.2.2.2.2.1) (fun (E : String) (u : Int32 × Int32 × Int32 × (Nat → Int32) × (Nat → Int32) × (Nat → Int32) × (Nat → Int32) × (Nat → Int32) × (Nat → Int32) × (Nat → Int32) × Int32 × Int32 × Int32 × (Nat → Int32) × (Nat → Int32) × Int32 × Int32 × Int32 × (Nat → Int32) × (Nat → Int32)) (t : State) => E = EXN ∧ va_P (dC, dI) vwCl [kx_4 m_ q_row q_t t_ h0 k0 w_ z_ slots u.1, kx_2 q_t q_row q_joined q_from q_to q_size q_lossOf q_lessBy q_value q_number u.2.1 u.2.2.1, kx_0 q_row q_cell len, kx_a q_cell cyI 160 f, kx_a q_from cyI 319 u.2.2.2.1, kx_a q_to cyI 319 u.2.2.2.2.1, kx_a q_size cyI 319 u.2.2.2.2.2.1, kx_a q_lossOf cyI 319 u.2.2.2.2.2.2.1, kx_a q_lessBy cyI 319 u.2.2.2.2.2.2.2.1, kx_a q_value cyI 1914 u.2.2.2.2.2.2.2.2.1, kx_a q_number cyI 1914 u.2.2.2.2.2.2.2.2.2.1, kx_3 q_joined j_v j_n u.2.2.2.2.2.2.2.2.2.2.1 u.2.2.2.2.2.2.2.2.2.2.2.1 u.2.2.2.2.2.2.2.2.2.2.2.2.1, kx_a j_v cyI 12 u.2.2.2.2.2.2.2.2.2.2.2.2.2.1, kx_a j_n cyI 12 u.2.2.2.2.2.2.2.2.2.2.2.2.2.2.1, kx_3 h0 a_v a_n u.2.2.2.2.2.2.2.2.2.2.2.2.2.2.2.1 u.2.2.2.2.2.2.2.2.2.2.2.2.2.2.2.2.1 u.2.2.2.2.2.2.2.2.2.2.2.2.2.2.2.2.2.1, kx_a a_v cyI 12 u.2.2.2.2.2.2.2.2.2.2.2.2.2.2.2.2.2.2.1, kx_a a_n cyI 12 u.2.2.2.2.2.2.2.2.2.2.2.2.2.2.2.2.2.2.2] t.heap ∧ va_K (dC, dI) vwCl [(cyI, .int)] t ∧ va_D (va_A [kx_4 m_ q_row q_t t_ h0 k0 w_ z_ slots old, kx_2 q_t q_row q_joined q_from q_to q_size q_lossOf q_lessBy q_value q_number nodes here, kx_0 q_row q_cell len, kx_a q_cell cyI 160 f, kx_a q_from cyI 319 ff, kx_a q_to cyI 319 ft, kx_a q_size cyI 319 fs, kx_a q_lossOf cyI 319 fo, kx_a q_lessBy cyI 319 fe, kx_a q_value cyI 1914 uv, kx_a q_number cyI 1914 un, kx_3 q_joined j_v j_n js jl je, kx_a j_v cyI 12 jv, kx_a j_n cyI 12 jn, kx_3 h0 a_v a_n vs lo le, kx_a a_v cyI 12 fv, kx_a a_n cyI 12 fn] sz) [kx_4 m_ q_row q_t t_ h0 k0 w_ z_ slots u.1, kx_2 q_t q_row q_joined q_from q_to q_size q_lossOf q_lessBy q_value q_number u.2.1 u.2.2.1, kx_0 q_row q_cell len, kx_a q_cell cyI 160 f, kx_a q_from cyI 319 u.2.2.2.1, kx_a q_to cyI 319 u.2.2.2.2.1, kx_a q_size cyI 319 u.2.2.2.2.2.1, kx_a q_lossOf cyI 319 u.2.2.2.2.2.2.1, kx_a q_lessBy cyI 319 u.2.2.2.2.2.2.2.1, kx_a q_value cyI 1914 u.2.2.2.2.2.2.2.2.1, kx_a q_number cyI 1914 u.2.2.2.2.2.2.2.2.2.1, kx_3 q_joined j_v j_n u.2.2.2.2.2.2.2.2.2.2.1 u.2.2.2.2.2.2.2.2.2.2.2.1 u.2.2.2.2.2.2.2.2.2.2.2.2.1, kx_a j_v cyI 12 u.2.2.2.2.2.2.2.2.2.2.2.2.2.1, kx_a j_n cyI 12 u.2.2.2.2.2.2.2.2.2.2.2.2.2.2.1, kx_3 h0 a_v a_n u.2.2.2.2.2.2.2.2.2.2.2.2.2.2.2.1 u.2.2.2.2.2.2.2.2.2.2.2.2.2.2.2.2.1 u.2.2.2.2.2.2.2.2.2.2.2.2.2.2.2.2.2.1, kx_a a_v cyI 12 u.2.2.2.2.2.2.2.2.2.2.2.2.2.2.2.2.2.2.1, kx_a a_n cyI 12 u.2.2.2.2.2.2.2.2.2.2.2.2.2.2.2.2.2.2.2]) (va_A [kx_4 m_ q_row q_t t_ h0 k0 w_ z_ slots old, kx_2 q_t q_row q_joined q_from q_to q_size q_lossOf q_lessBy q_value q_number nodes here, kx_0 q_row q_cell len, kx_a q_cell cyI 160 f, kx_a q_from cyI 319 ff, kx_a q_to cyI 319 ft, kx_a q_size cyI 319 fs, kx_a q_lossOf cyI 319 fo, kx_a q_lessBy cyI 319 fe, kx_a q_value cyI 1914 uv, kx_a q_number cyI 1914 un, kx_3 q_joined j_v j_n js jl je, kx_a j_v cyI 12 jv, kx_a j_n cyI 12 jn, kx_3 h0 a_v a_n vs lo le, kx_a a_v cyI 12 fv, kx_a a_n cyI 12 fn] sz)) 1 6 (va_A [kx_4 m_ q_row q_t t_ h0 k0 w_ z_ slots old, kx_2 q_t q_row q_joined q_from q_to q_size q_lossOf q_lessBy q_value q_number nodes here, kx_0 q_row q_cell len, kx_a q_cell cyI 160 f, kx_a q_from cyI 319 ff, kx_a q_to cyI 319 ft, kx_a q_size cyI 319 fs, kx_a q_lossOf cyI 319 fo, kx_a q_lessBy cyI 319 fe, kx_a q_value cyI 1914 uv, kx_a q_number cyI 1914 un, kx_3 q_joined j_v j_n js jl je, kx_a j_v cyI 12 jv, kx_a j_n cyI 12 jn, kx_3 h0 a_v a_n vs lo le, kx_a a_v cyI 12 fv, kx_a a_n cyI 12 fn] sz) := by
  refine vx_ofW (cc := cX4_heavyAt) (maxL := 7) (ret := (some .int)) (by decide) rfl ?_
  intro p e s m args below meth c s₁ B hml htab hv
  obtain ⟨rfl, hsz, hP, hK, hD0, hN0, hth⟩ := hv
  have hx := B.exec
  have hb := B.bytes
  have hr := B.returns
  have hts := atoms_spec (ws := wsX4_heavyAt) B.pre
  have hown : s.vm.findClass RX4 = some m.cls := findClass_of_methodNamed B.named
  have hlocks := B.notSynchronized
  have hat : ∀ w ∈ vx_at0 RX4 109 EXN EXC, w.before _ s = true := vx_hat (B := EXD) (fun w h => hts w (List.mem_cons_of_mem _ (List.mem_append_right _ h))) ki_bad (ki_ex hth)
  subst hsz
  have hD := hD0.self (sz := s.heap.size)
  generalize hAe : va_A [kx_4 m_ q_row q_t t_ h0 k0 w_ z_ slots old, kx_2 q_t q_row q_joined q_from q_to q_size q_lossOf q_lessBy q_value q_number nodes here, kx_0 q_row q_cell len, kx_a q_cell cyI 160 f, kx_a q_from cyI 319 ff, kx_a q_to cyI 319 ft, kx_a q_size cyI 319 fs, kx_a q_lossOf cyI 319 fo, kx_a q_lessBy cyI 319 fe, kx_a q_value cyI 1914 uv, kx_a q_number cyI 1914 un, kx_3 q_joined j_v j_n js jl je, kx_a j_v cyI 12 jv, kx_a j_n cyI 12 jn, kx_3 h0 a_v a_n vs lo le, kx_a a_v cyI 12 fv, kx_a a_n cyI 12 fn] s.heap.size = A at hD hth ⊢
  have hA : ∀ q : Nat, s.heap.size ≤ q → A q := fun q h => by rw [← hAe]; exact Or.inr h
  have hS : va_S A s.heap s.heap [] := va_S.rf
  have hP : va_P (dC, dI) vwCl [kx_4 m_ q_row q_t t_ h0 k0 w_ z_ slots old, kx_2 q_t q_row q_joined q_from q_to q_size q_lossOf q_lessBy q_value q_number nodes here, kx_0 q_row q_cell len, kx_a q_cell cyI 160 f, kx_a q_from cyI 319 ff, kx_a q_to cyI 319 ft, kx_a q_size cyI 319 fs, kx_a q_lossOf cyI 319 fo, kx_a q_lessBy cyI 319 fe, kx_a q_value cyI 1914 uv, kx_a q_number cyI 1914 un, kx_3 q_joined j_v j_n js jl je, kx_a j_v cyI 12 jv, kx_a j_n cyI 12 jn, kx_3 h0 a_v a_n vs lo le, kx_a a_v cyI 12 fv, kx_a a_n cyI 12 fn] s.heap := hP
  have hl := lv_entry ([.ref m_, .int p0, .int p1, .int p2, .int p3, .int p4, .int p5]) (n := 7) (Nat.le_of_ble_eq_true rfl)
  rw [lg_entry_eq]
  generalize (lg_sl ([.ref m_, .int p0, .int p1, .int p2, .int p3, .int p4, .int p5]) ++ List.replicate (7 - (lg_sl ([.ref m_, .int p0, .int p1, .int p2, .int p3, .int p4, .int p5])).length) Slot.unset).toArray = ls at hl ⊢
  have hl : lv_has ls 7 [(0, .ref m_), (1, .int p0), (2, .int p1), (3, .int p2), (4, .int p3), (5, .int p4), (6, .int p5)] := hl
  have hf_12 := hts (.fieldLink RX4 12 "MajorityIndex" "row" "LMajorityIndex$Row;") (List.mem_of_getElem? (i := 3) rfl)
  have hi_4 : ∀ w ∈ u_ws RX4 TX4 9, w ∈ wsX4_heavyAt := fun w h => List.mem_cons_of_mem _ (List.mem_append_left _ (List.mem_append_left _ (List.mem_append_left _ (List.mem_append_left _ (List.mem_append_right _ h)))))
  have hc_107 := hts (.classLink RX4 107 EXN) (by decide +kernel)
  have hz_ex := hts (.initialized EXN) (by decide +kernel)
  have hf_35 := hts (.fieldLink RX4 35 "MajorityIndex" "votes" "LMajorityIndex$Votes;") (List.mem_of_getElem? (i := 4) rfl)
  have hf_174 := hts (.fieldLink RX4 174 "MajorityIndex$Votes" "size" "I") (List.mem_of_getElem? (i := 5) rfl)
  have hi_3 : ∀ w ∈ u_ws RX3 TX3 5, w ∈ wsX4_heavyAt := fun w h => List.mem_cons_of_mem _ (List.mem_append_left _ (List.mem_append_left _ (List.mem_append_left _ (List.mem_append_right _ h))))
  have hf_136 := hts (.fieldLink RX4 136 "MajorityIndex$Votes" "number" "[I") (List.mem_of_getElem? (i := 7) rfl)
  have hf_133 := hts (.fieldLink RX4 133 "MajorityIndex$Votes" "value" "[I") (List.mem_of_getElem? (i := 6) rfl)
  refine lv_aload_n hx hb dX4_heavyAt_0 rfl (lv_at hl 0 rfl) ?_
  refine va_get (D := (dC, dI)) (ci := 4) (v := .ref q_row) (C := RX4) (T := TX4) (N := 9) hx hb hts hi_4 hown hK hP 0 rfl rfl 0 (by decide) hf_12 (fun _ h9 => h9) rfl dX4_heavyAt_1 ?_
  refine lv_iload_n hx hb dX4_heavyAt_4 rfl (lv_at hl 1 rfl) ?_
  refine lv_iload_n hx hb dX4_heavyAt_5 rfl (lv_at hl 2 rfl) ?_
  have hPc := hP.sub (ws' := [kx_0 q_row q_cell len]) [2] rfl
  have hKc := hK.sub (tys' := []) [] rfl
  refine vp_callSi (W.runV (As := [.int p0, .int p1]) (rest := []) ⟨hx, hb, hml, hown, hts⟩ (c_X0_hasRange l dC dI q_row q_cell len p0 p1) (cwV 2 hts gX4_heavyAt_X0_hasRange rfl rfl rfl (by decide +kernel) ⟨Nat.le_of_ble_eq_true rfl, Nat.le_of_ble_eq_true rfl⟩) ⟨fun a U g mk q => by obtain ⟨q0, qP, qK⟩ := q; exact ⟨q0, qP, va_K.moved (u := U) (U := U.calling g mk a) (Vm.Alike.refl U.vm) qK⟩, va_recv hKc hPc (ci := 0) (q0 := 0) rfl rfl, fun U hU hW => ⟨rfl, by rw [hU]; exact hPc, va_K.moved hW.alike hKc⟩⟩ rfl rfl hl.1 rfl (lv_room (Nat.le_of_ble_eq_true rfl)) dX4_heavyAt_6 ⟨Nat.le_of_ble_eq_true rfl, Nat.le_of_ble_eq_true rfl⟩) (fun r_1 w_1 => ?_)
  rcases w_1 with ⟨rfl, w_1⟩ | ⟨rfl, w_1⟩
  · have w_1 : (0 ≤ p0.toInt ∧ p0.toInt < p1.toInt ∧ p1.toInt ≤ len.toInt) := w_1
    refine lv_if_eq (tgt := 37) hx hb dX4_heavyAt_9 (by decide) (fun c_2 => ?_) (fun c_2 => ?_)
    · exact absurd c_2 (by decide)
    · refine lv_iload_n hx hb dX4_heavyAt_12 rfl (lv_at hl 3 rfl) ?_
      refine lv_iload hx hb dX4_heavyAt_13 (lv_at hl 4 rfl) ?_
      have hPc := hP.sub (ws' := []) [] rfl
      have hKc := hK.sub (tys' := []) [] rfl
      refine vp_callSi (W.runS (As := [.int p2, .int p3]) (rest := []) ⟨hx, hb, hml, hown, hts⟩ (c_X4_isShare l dC dI p2 p3) (va_cwS 2 hts gX4_heavyAt_X4_isShare rfl rfl rfl (by decide +kernel) ⟨Nat.le_of_ble_eq_true rfl, Nat.le_of_ble_eq_true rfl⟩) ⟨fun a U g mk q => by obtain ⟨q0, qP, qK⟩ := q; exact ⟨q0, qP, va_K.moved (u := U) (U := U.calling g mk a) (Vm.Alike.refl U.vm) qK⟩, fun U hU hW => ⟨rfl, by rw [hU]; exact hPc, va_K.moved hW.alike hKc⟩⟩ rfl rfl hl.1 rfl (lv_room (Nat.le_of_ble_eq_true rfl)) dX4_heavyAt_15 ⟨Nat.le_of_ble_eq_true rfl, Nat.le_of_ble_eq_true rfl⟩) (fun r_3 w_3 => ?_)
      rcases w_3 with ⟨rfl, w_3⟩ | ⟨rfl, w_3⟩
      · have w_3 : (1 ≤ p2.toInt ∧ p2.toInt ≤ p3.toInt ∧ p3.toInt ≤ 999) := w_3
        refine lv_if_eq (tgt := 37) hx hb dX4_heavyAt_18 (by decide) (fun c_4 => ?_) (fun c_4 => ?_)
        · exact absurd c_4 (by decide)
        · refine lv_iload hx hb dX4_heavyAt_21 (lv_at hl 5 rfl) ?_
          refine lv_if_lt (tgt := 37) hx hb dX4_heavyAt_23 (by decide) (fun c_5 => ?_) (fun c_5 => ?_)
          · have i_5 : p4.toInt < 0 := kc_lt c_5
            have hP9 := hP.sub (ws' := [kx_4 m_ q_row q_t t_ h0 k0 w_ z_ slots old, kx_2 q_t q_row q_joined q_from q_to q_size q_lossOf q_lessBy q_value q_number nodes here, kx_0 q_row q_cell len, kx_a q_cell cyI 160 f, kx_a q_from cyI 319 ff, kx_a q_to cyI 319 ft, kx_a q_size cyI 319 fs, kx_a q_lossOf cyI 319 fo, kx_a q_lessBy cyI 319 fe, kx_a q_value cyI 1914 uv, kx_a q_number cyI 1914 un, kx_3 q_joined j_v j_n js jl je, kx_a j_v cyI 12 jv, kx_a j_n cyI 12 jn, kx_3 h0 a_v a_n vs lo le, kx_a a_v cyI 12 fv, kx_a a_n cyI 12 fn]) [0, 1, 2, 3, 4, 5, 6, 7, 8, 9, 10, 11, 12, 13, 14, 15, 16] rfl
            have hD9 := hD.sub (ws' := [kx_4 m_ q_row q_t t_ h0 k0 w_ z_ slots old, kx_2 q_t q_row q_joined q_from q_to q_size q_lossOf q_lessBy q_value q_number nodes here, kx_0 q_row q_cell len, kx_a q_cell cyI 160 f, kx_a q_from cyI 319 ff, kx_a q_to cyI 319 ft, kx_a q_size cyI 319 fs, kx_a q_lossOf cyI 319 fo, kx_a q_lessBy cyI 319 fe, kx_a q_value cyI 1914 uv, kx_a q_number cyI 1914 un, kx_3 q_joined j_v j_n js jl je, kx_a j_v cyI 12 jv, kx_a j_n cyI 12 jn, kx_3 h0 a_v a_n vs lo le, kx_a a_v cyI 12 fv, kx_a a_n cyI 12 fn]) [0, 1, 2, 3, 4, 5, 6, 7, 8, 9, 10, 11, 12, 13, 14, 15, 16] (by decide) rfl
            have hK9 := hK.sub (tys' := [(cyI, .int)]) [0] rfl
            exact vx_throw0 (names := EXC) hx hb hl0 hown (by decide +kernel) (by decide +kernel) hc_107 hz_ex hat ki_ot hth.2.1 hth.2.2 hS (hl.1.trans hml.symm) dX4_heavyAt_37 dX4_heavyAt_40 dX4_heavyAt_41 dX4_heavyAt_44 (fun x h => (htab x h).elim) (Nat.le_of_ble_eq_true rfl) (Nat.le_of_ble_eq_true rfl) (Nat.le_of_ble_eq_true rfl) (Nat.le_of_ble_eq_true rfl) hlocks (fun t ha hz hk => ⟨(old, nodes, here, ff, ft, fs, fo, fe, uv, un, js, jl, je, jv, jn, vs, lo, le, fv, fn), ⟨(by decide), l0, s0⟩, ⟨rfl, hP9.kept (fun k x hx => hk x.1 ((hP9 k x hx).lt)), va_K.moved ha hK9, hD9⟩, Nat.le_trans hS.1 hz, fun q h1 h2 => (hk q (Nat.lt_of_lt_of_le h1 hS.1)).trans (hS.2.1 q h1 h2)⟩) hS.2.2 (Nat.le_refl _) (Nat.le_refl _)
          · have i_5 : 0 ≤ p4.toInt := kc_nlt c_5
            refine lv_iload hx hb dX4_heavyAt_26 (lv_at hl 6 rfl) ?_
            refine lv_if_lt (tgt := 37) hx hb dX4_heavyAt_28 (by decide) (fun c_6 => ?_) (fun c_6 => ?_)
            · have i_6 : p5.toInt < 0 := kc_lt c_6
              have hP9 := hP.sub (ws' := [kx_4 m_ q_row q_t t_ h0 k0 w_ z_ slots old, kx_2 q_t q_row q_joined q_from q_to q_size q_lossOf q_lessBy q_value q_number nodes here, kx_0 q_row q_cell len, kx_a q_cell cyI 160 f, kx_a q_from cyI 319 ff, kx_a q_to cyI 319 ft, kx_a q_size cyI 319 fs, kx_a q_lossOf cyI 319 fo, kx_a q_lessBy cyI 319 fe, kx_a q_value cyI 1914 uv, kx_a q_number cyI 1914 un, kx_3 q_joined j_v j_n js jl je, kx_a j_v cyI 12 jv, kx_a j_n cyI 12 jn, kx_3 h0 a_v a_n vs lo le, kx_a a_v cyI 12 fv, kx_a a_n cyI 12 fn]) [0, 1, 2, 3, 4, 5, 6, 7, 8, 9, 10, 11, 12, 13, 14, 15, 16] rfl
              have hD9 := hD.sub (ws' := [kx_4 m_ q_row q_t t_ h0 k0 w_ z_ slots old, kx_2 q_t q_row q_joined q_from q_to q_size q_lossOf q_lessBy q_value q_number nodes here, kx_0 q_row q_cell len, kx_a q_cell cyI 160 f, kx_a q_from cyI 319 ff, kx_a q_to cyI 319 ft, kx_a q_size cyI 319 fs, kx_a q_lossOf cyI 319 fo, kx_a q_lessBy cyI 319 fe, kx_a q_value cyI 1914 uv, kx_a q_number cyI 1914 un, kx_3 q_joined j_v j_n js jl je, kx_a j_v cyI 12 jv, kx_a j_n cyI 12 jn, kx_3 h0 a_v a_n vs lo le, kx_a a_v cyI 12 fv, kx_a a_n cyI 12 fn]) [0, 1, 2, 3, 4, 5, 6, 7, 8, 9, 10, 11, 12, 13, 14, 15, 16] (by decide) rfl
              have hK9 := hK.sub (tys' := [(cyI, .int)]) [0] rfl
              exact vx_throw0 (names := EXC) hx hb hl0 hown (by decide +kernel) (by decide +kernel) hc_107 hz_ex hat ki_ot hth.2.1 hth.2.2 hS (hl.1.trans hml.symm) dX4_heavyAt_37 dX4_heavyAt_40 dX4_heavyAt_41 dX4_heavyAt_44 (fun x h => (htab x h).elim) (Nat.le_of_ble_eq_true rfl) (Nat.le_of_ble_eq_true rfl) (Nat.le_of_ble_eq_true rfl) (Nat.le_of_ble_eq_true rfl) hlocks (fun t ha hz hk => ⟨(old, nodes, here, ff, ft, fs, fo, fe, uv, un, js, jl, je, jv, jn, vs, lo, le, fv, fn), ⟨(by decide), l0, s0⟩, ⟨rfl, hP9.kept (fun k x hx => hk x.1 ((hP9 k x hx).lt)), va_K.moved ha hK9, hD9⟩, Nat.le_trans hS.1 hz, fun q h1 h2 => (hk q (Nat.lt_of_lt_of_le h1 hS.1)).trans (hS.2.1 q h1 h2)⟩) hS.2.2 (Nat.le_refl _) (Nat.le_refl _)
            · have i_6 : 0 ≤ p5.toInt := kc_nlt c_6
              refine lv_iload hx hb dX4_heavyAt_31 (lv_at hl 6 rfl) ?_
              refine lv_iconst (v := 1) hx hb dX4_heavyAt_33 (by decide) ?_
              refine lv_icmp_le (tgt := 45) hx hb dX4_heavyAt_34 (by decide) (fun c_7 => ?_) (fun c_7 => ?_)
              · have i_7 : p5.toInt ≤ 1 := kc_le c_7
                refine lv_aload_n hx hb dX4_heavyAt_45 rfl (lv_at hl 0 rfl) ?_
                refine lv_iload_n hx hb dX4_heavyAt_46 rfl (lv_at hl 3 rfl) ?_
                refine lv_iload hx hb dX4_heavyAt_47 (lv_at hl 4 rfl) ?_
                have hPc := hP.sub (ws' := [kx_4 m_ q_row q_t t_ h0 k0 w_ z_ slots old]) [0] rfl
                have hKc := hK.sub (tys' := []) [] rfl
                refine vp_callSi (W.runV (As := [.int p2, .int p3]) (rest := []) ⟨hx, hb, hml, hown, hts⟩ (c_X4_isEnough l dC dI m_ q_row q_t t_ h0 k0 w_ z_ slots old p2 p3) (cwV 2 hts gX4_heavyAt_X4_isEnough rfl rfl rfl (by decide +kernel) ⟨Nat.le_of_ble_eq_true rfl, Nat.le_of_ble_eq_true rfl⟩) ⟨fun a U g mk q => by obtain ⟨q0, qP, qK⟩ := q; exact ⟨q0, qP, va_K.moved (u := U) (U := U.calling g mk a) (Vm.Alike.refl U.vm) qK⟩, va_recv hKc hPc (ci := 4) (q0 := 0) rfl rfl, fun U hU hW => ⟨rfl, by rw [hU]; exact hPc, va_K.moved hW.alike hKc⟩⟩ rfl rfl hl.1 rfl (lv_room (Nat.le_of_ble_eq_true rfl)) dX4_heavyAt_49 ⟨Nat.le_of_ble_eq_true rfl, Nat.le_of_ble_eq_true rfl⟩) (fun r_8 w_8 => ?_)
                rcases w_8 with ⟨rfl, w_8⟩ | ⟨rfl, w_8⟩
                · have w_8 : (0 : Int) ≤ 1 := w_8
                  refine lv_if_ne (tgt := 63) hx hb dX4_heavyAt_52 (by decide) (fun c_9 => ?_) (fun c_9 => ?_)
                  · refine lv_aload_n hx hb dX4_heavyAt_63 rfl (lv_at hl 0 rfl) ?_
                    refine lv_aload_n hx hb dX4_heavyAt_64 rfl (lv_at hl 0 rfl) ?_
                    obtain ⟨hPc, hDc, hFc, hCc⟩ := kx_pre (wc := [kx_4 m_ q_row q_t t_ h0 k0 w_ z_ slots old, kx_2 q_t q_row q_joined q_from q_to q_size q_lossOf q_lessBy q_value q_number nodes here, kx_0 q_row q_cell len, kx_a q_cell cyI 160 f, kx_a q_from cyI 319 ff, kx_a q_to cyI 319 ft, kx_a q_size cyI 319 fs, kx_a q_lossOf cyI 319 fo, kx_a q_lessBy cyI 319 fe, kx_a q_value cyI 1914 uv, kx_a q_number cyI 1914 un, kx_3 q_joined j_v j_n js jl je, kx_a j_v cyI 12 jv, kx_a j_n cyI 12 jn]) hP hD hS hA [0, 1, 2, 3, 4, 5, 6, 7, 8, 9, 10, 11, 12, 13] (by decide) rfl
                    have hKc := hK
                    refine va_callr (va_runV (As := []) (rest := [.ref m_]) ⟨hx, hb, hml, hown, hts⟩ (c_X4_laidTree l dC dI m_ q_row q_t t_ h0 k0 w_ z_ slots old q_joined q_from q_to q_size q_lossOf q_lessBy q_value q_number nodes here q_cell cyI len f ff ft fs fo uv un fe j_v j_n js jl je jv jn s.heap.size a0 a1 s0 l0) (cwV 0 hts gX4_heavyAt_X4_laidTree rfl rfl rfl (by decide +kernel) ⟨Nat.le_of_ble_eq_true rfl, Nat.le_of_ble_eq_true rfl⟩) ⟨fun a U g mk q => by obtain ⟨q0, q1, qP, qK, qD⟩ := q; exact ⟨q0, q1, qP, va_K.moved (u := U) (U := U.calling g mk a) (Vm.Alike.refl U.vm) qK, qD⟩, va_recv hKc hPc (ci := 4) (q0 := 0) rfl rfl, fun U hU hW => ⟨rfl, by rw [hU], by rw [hU]; exact hPc, va_K.moved hW.alike hKc, hDc.weaken (fun _ _ _ _ => trivial)⟩⟩ rfl rfl hl.1 rfl (lv_room (Nat.le_of_ble_eq_true rfl)) dX4_heavyAt_65 ⟨Nat.le_of_ble_eq_true rfl, Nat.le_of_ble_eq_true rfl⟩) hS (fun q _ h => hFc q h) hFc (fun u ra t H1 locs ht hvm w_10 hB hz1 hk1 hS => ?_)
                    obtain ⟨o_11, o_12, o_13, o_14, o_15, o_16, o_17, o_18, o_19, o_20, o_21, o_22, o_23, o_24, o_25⟩ := u
                    dsimp only at w_10 hB
                    obtain ⟨er, hP1, hK1, hD1⟩ := hB
                    rw [ht] at hP1
                    have hK1 := va_K.moved hvm.symm hK1
                    obtain ⟨hP, hD⟩ := kx_join (w2 := [kx_3 h0 a_v a_n vs lo le, kx_a a_v cyI 12 fv, kx_a a_n cyI 12 fn, kx_4 m_ q_row q_t t_ h0 k0 w_ z_ slots o_11, kx_2 q_t q_row q_joined q_from q_to q_size q_lossOf q_lessBy q_value q_number o_12 o_13, kx_0 q_row q_cell len, kx_a q_cell cyI 160 f, kx_a q_from cyI 319 o_14, kx_a q_to cyI 319 o_15, kx_a q_size cyI 319 o_16, kx_a q_lossOf cyI 319 o_17, kx_a q_lessBy cyI 319 o_18, kx_a q_value cyI 1914 o_19, kx_a q_number cyI 1914 o_20, kx_3 q_joined j_v j_n o_21 o_22 o_23, kx_a j_v cyI 12 o_24, kx_a j_n cyI 12 o_25]) hP hD hP1 hD1 hk1 hFc [0, 1, 2, 3, 4, 5, 6, 7, 8, 9, 10, 11, 12, 13] [14, 15, 16] hCc rfl (by decide) (by decide)
                    clear hP1 hD1 hK1 hk1 hz1 hFc hDc hPc hKc hCc
                    generalize H1 = H at hP hS ⊢
                    have w_10 : o_11.toInt = 0 ∧ 0 ≤ o_12.toInt ∧ o_12.toInt ≤ 319 ∧ sixes o_16 ∧ treeOk o_14 o_15 o_12.toInt len.toInt := w_10
                    rw [er]
                    refine lv_iload_n hx hb dX4_heavyAt_68 rfl (lv_at hl 1 rfl) ?_
                    refine lv_iload_n hx hb dX4_heavyAt_69 rfl (lv_at hl 2 rfl) ?_
                    refine lv_iload_n hx hb dX4_heavyAt_70 rfl (lv_at hl 3 rfl) ?_
                    refine lv_iload hx hb dX4_heavyAt_71 (lv_at hl 4 rfl) ?_
                    obtain ⟨hPc, hDc, hFc, hCc⟩ := kx_pre (wc := [kx_4 m_ q_row q_t t_ h0 k0 w_ z_ slots o_11, kx_0 q_row q_cell len, kx_a q_cell cyI 160 f, kx_2 q_t q_row q_joined q_from q_to q_size q_lossOf q_lessBy q_value q_number o_12 o_13, kx_a q_from cyI 319 o_14, kx_a q_to cyI 319 o_15, kx_a q_size cyI 319 o_16, kx_a q_lossOf cyI 319 o_17, kx_a q_value cyI 1914 o_19, kx_a q_number cyI 1914 o_20, kx_3 h0 a_v a_n vs lo le, kx_a a_v cyI 12 fv, kx_a a_n cyI 12 fn]) hP hD hS hA [3, 5, 6, 4, 7, 8, 9, 10, 12, 13, 0, 1, 2] (by decide) rfl
                    have hKc := hK
                    refine va_callv (va_runV (As := [.ref q_t, .int p0, .int p1, .int p2, .int p3]) (rest := []) ⟨hx, hb, hml, hown, hts⟩ (c_X4_gatherHeavy l dC dI m_ q_row q_t t_ h0 k0 w_ z_ slots o_11 q_joined q_from q_to q_size q_lossOf q_lessBy q_value q_number o_12 o_13 q_cell cyI len f o_14 o_15 o_16 o_17 o_19 o_20 a_v a_n cyI vs lo le fv fn p0 p1 p2 p3 H.size w_10.2.1 w_10.2.2.1 w_10.2.2.2.1 (om_8 w_1.1) (om_141 a1 w_1.2.2)) (cwV 5 hts gX4_heavyAt_X4_gatherHeavy rfl rfl rfl (by decide +kernel) ⟨Nat.le_of_ble_eq_true rfl, Nat.le_of_ble_eq_true rfl⟩) ⟨fun a U g mk q => by obtain ⟨q0, q1, qP, qK, qD, qn0⟩ := q; exact ⟨q0, q1, qP, va_K.moved (u := U) (U := U.calling g mk a) (Vm.Alike.refl U.vm) qK, qD, va_Nw.same (u := U) (U := U.calling g mk a) rfl rfl qn0⟩, va_recv hKc hPc (ci := 4) (q0 := 0) rfl rfl, fun U hU hW => ⟨rfl, by rw [hU], by rw [hU]; exact hPc, va_K.moved hW.alike hKc, hDc.weaken (fun _ _ _ _ => trivial), va_Nw.warmM hW hN0⟩⟩ rfl rfl hl.1 rfl (lv_room (Nat.le_of_ble_eq_true rfl)) dX4_heavyAt_73 ⟨Nat.le_of_ble_eq_true rfl, Nat.le_of_ble_eq_true rfl⟩) hS (fun q _ h => hFc q h) hFc (fun u t H1 locs ht hvm w_26 hB hz1 hk1 hS => ?_)
                    obtain ⟨o_27, o_28, o_29, o_30, o_31⟩ := u
                    dsimp only at w_26 hB
                    obtain ⟨hP1, hK1, hD1⟩ := hB
                    rw [ht] at hP1
                    have hK1 := va_K.moved hvm.symm hK1
                    obtain ⟨hP, hD⟩ := kx_join (w2 := [kx_a q_lessBy cyI 319 o_18, kx_3 q_joined j_v j_n o_21 o_22 o_23, kx_a j_v cyI 12 o_24, kx_a j_n cyI 12 o_25, kx_4 m_ q_row q_t t_ h0 k0 w_ z_ slots o_11, kx_0 q_row q_cell len, kx_a q_cell cyI 160 f, kx_2 q_t q_row q_joined q_from q_to q_size q_lossOf q_lessBy q_value q_number o_12 o_13, kx_a q_from cyI 319 o_14, kx_a q_to cyI 319 o_15, kx_a q_size cyI 319 o_16, kx_a q_lossOf cyI 319 o_17, kx_a q_value cyI 1914 o_19, kx_a q_number cyI 1914 o_20, kx_3 h0 a_v a_n o_27 o_28 o_29, kx_a a_v cyI 12 o_30, kx_a a_n cyI 12 o_31]) hP hD hP1 hD1 hk1 hFc [3, 5, 6, 4, 7, 8, 9, 10, 12, 13, 0, 1, 2] [11, 14, 15, 16] hCc rfl (by decide) (by decide)
                    clear hP1 hD1 hK1 hk1 hz1 hFc hDc hPc hKc hCc
                    generalize H1 = H at hP hS ⊢
                    have w_26 : 0 ≤ o_27.toInt ∧ o_27.toInt ≤ 12 := w_26
                    refine lv_iload hx hb dX4_heavyAt_76 (lv_at hl 5 rfl) ?_
                    refine lv_aload_n hx hb dX4_heavyAt_78 rfl (lv_at hl 0 rfl) ?_
                    refine va_get (D := (dC, dI)) (ci := 4) (v := .ref h0) (C := RX4) (T := TX4) (N := 9) hx hb hts hi_4 hown hK hP 4 rfl rfl 3 (by decide) hf_35 (fun _ h9 => h9) rfl dX4_heavyAt_79 ?_
                    refine va_get (D := (dC, dI)) (ci := 3) (v := .int o_27) (C := RX3) (T := TX3) (N := 5) hx hb hts hi_3 hown hK hP 14 rfl rfl 2 (by decide) hf_174 (fun _ h9 => h9) rfl dX4_heavyAt_82 ?_
                    refine lv_icmp_lt (tgt := 96) hx hb dX4_heavyAt_85 (by decide) (fun c_32 => ?_) (fun c_32 => ?_)
                    · have i_32 : p4.toInt < o_27.toInt := kc_lt c_32
                      refine lv_iload hx hb dX4_heavyAt_96 (lv_at hl 6 rfl) ?_
                      refine lv_if_ne (tgt := 114) hx hb dX4_heavyAt_98 (by decide) (fun c_33 => ?_) (fun c_33 => ?_)
                      · have i_33 : ¬ p5.toInt = 0 := kc_ne c_33
                        refine lv_aload_n hx hb dX4_heavyAt_114 rfl (lv_at hl 0 rfl) ?_
                        refine va_get (D := (dC, dI)) (ci := 4) (v := .ref h0) (C := RX4) (T := TX4) (N := 9) hx hb hts hi_4 hown hK hP 4 rfl rfl 3 (by decide) hf_35 (fun _ h9 => h9) rfl dX4_heavyAt_115 ?_
                        refine va_get (D := (dC, dI)) (ci := 3) (v := .ref a_n) (C := RX3) (T := TX3) (N := 5) hx hb hts hi_3 hown hK hP 14 rfl rfl 1 (by decide) hf_136 (fun _ h9 => h9) rfl dX4_heavyAt_118 ?_
                        refine lv_iload hx hb dX4_heavyAt_121 (lv_at hl 5 rfl) ?_
                        refine va_iald hx hb hK hP 16 0 rfl rfl (ki_in (om_8 i_5) (om_29 w_26.2 i_32)) dX4_heavyAt_123 ?_
                        refine lv_topi (fun y_34 ey_34 => ?_)
                        have j_34 : y_34.toInt = (o_31 p4.toNatClampNeg).toInt := congrArg Int32.toInt ey_34
                        refine vx_ret ?_
                        obtain ⟨hP9, hD9⟩ := kx_sub (w2 := [kx_4 m_ q_row q_t t_ h0 k0 w_ z_ slots o_11, kx_2 q_t q_row q_joined q_from q_to q_size q_lossOf q_lessBy q_value q_number o_12 o_13, kx_0 q_row q_cell len, kx_a q_cell cyI 160 f, kx_a q_from cyI 319 o_14, kx_a q_to cyI 319 o_15, kx_a q_size cyI 319 o_16, kx_a q_lossOf cyI 319 o_17, kx_a q_lessBy cyI 319 o_18, kx_a q_value cyI 1914 o_19, kx_a q_number cyI 1914 o_20, kx_3 q_joined j_v j_n o_21 o_22 o_23, kx_a j_v cyI 12 o_24, kx_a j_n cyI 12 o_25, kx_3 h0 a_v a_n o_27 o_28 o_29, kx_a a_v cyI 12 o_30, kx_a a_n cyI 12 o_31]) hP hD [4, 7, 5, 6, 8, 9, 10, 11, 0, 12, 13, 1, 2, 3, 14, 15, 16] (by decide) rfl
                        have hK9 := hK
                        refine W.widen (k := 1) (n := 6) (Nat.le_of_ble_eq_true rfl) (Nat.le_of_ble_eq_true rfl) ?_
                        exact W.iret (v := y_34) hx hb hr (fun t ht hW => ⟨⟨y_34, (o_11, o_12, o_13, o_14, o_15, o_16, o_17, o_18, o_19, o_20, o_21, o_22, o_23, o_24, o_25, o_27, o_28, o_29, o_30, o_31), rfl, ⟨(by decide), (fun _ => ⟨(by (try dsimp only); omega), (by (try dsimp only); omega), w_10.2.2.2.2⟩), w_10.2.2.2.1⟩, by rw [ht]; exact hP9, va_K.moved hW.alike hK9, hD9⟩, hS.F ht⟩) hS.2.2 dX4_heavyAt_124
                      · have i_33 : p5.toInt = 0 := kc_eq c_33
                        refine lv_aload_n hx hb dX4_heavyAt_101 rfl (lv_at hl 0 rfl) ?_
                        refine va_get (D := (dC, dI)) (ci := 4) (v := .ref h0) (C := RX4) (T := TX4) (N := 9) hx hb hts hi_4 hown hK hP 4 rfl rfl 3 (by decide) hf_35 (fun _ h9 => h9) rfl dX4_heavyAt_102 ?_
                        refine va_get (D := (dC, dI)) (ci := 3) (v := .ref a_v) (C := RX3) (T := TX3) (N := 5) hx hb hts hi_3 hown hK hP 14 rfl rfl 0 (by decide) hf_133 (fun _ h9 => h9) rfl dX4_heavyAt_105 ?_
                        refine lv_iload hx hb dX4_heavyAt_108 (lv_at hl 5 rfl) ?_
                        refine va_iald hx hb hK hP 15 0 rfl rfl (ki_in (om_8 i_5) (om_29 w_26.2 i_32)) dX4_heavyAt_110 ?_
                        refine lv_topi (fun y_35 ey_35 => ?_)
                        have j_35 : y_35.toInt = (o_30 p4.toNatClampNeg).toInt := congrArg Int32.toInt ey_35
                        refine lv_goto (tgt := 124) hx hb dX4_heavyAt_111 (by decide) ?_
                        refine vx_ret ?_
                        obtain ⟨hP9, hD9⟩ := kx_sub (w2 := [kx_4 m_ q_row q_t t_ h0 k0 w_ z_ slots o_11, kx_2 q_t q_row q_joined q_from q_to q_size q_lossOf q_lessBy q_value q_number o_12 o_13, kx_0 q_row q_cell len, kx_a q_cell cyI 160 f, kx_a q_from cyI 319 o_14, kx_a q_to cyI 319 o_15, kx_a q_size cyI 319 o_16, kx_a q_lossOf cyI 319 o_17, kx_a q_lessBy cyI 319 o_18, kx_a q_value cyI 1914 o_19, kx_a q_number cyI 1914 o_20, kx_3 q_joined j_v j_n o_21 o_22 o_23, kx_a j_v cyI 12 o_24, kx_a j_n cyI 12 o_25, kx_3 h0 a_v a_n o_27 o_28 o_29, kx_a a_v cyI 12 o_30, kx_a a_n cyI 12 o_31]) hP hD [4, 7, 5, 6, 8, 9, 10, 11, 0, 12, 13, 1, 2, 3, 14, 15, 16] (by decide) rfl
                        have hK9 := hK
                        refine W.widen (k := 1) (n := 6) (Nat.le_of_ble_eq_true rfl) (Nat.le_of_ble_eq_true rfl) ?_
                        exact W.iret (v := y_35) hx hb hr (fun t ht hW => ⟨⟨y_35, (o_11, o_12, o_13, o_14, o_15, o_16, o_17, o_18, o_19, o_20, o_21, o_22, o_23, o_24, o_25, o_27, o_28, o_29, o_30, o_31), rfl, ⟨(by decide), (fun _ => ⟨(by (try dsimp only); omega), (by (try dsimp only); omega), w_10.2.2.2.2⟩), w_10.2.2.2.1⟩, by rw [ht]; exact hP9, va_K.moved hW.alike hK9, hD9⟩, hS.F ht⟩) hS.2.2 dX4_heavyAt_124
                    · have i_32 : o_27.toInt ≤ p4.toInt := kc_nlt c_32
                      have hP9 := hP.sub (ws' := [kx_4 m_ q_row q_t t_ h0 k0 w_ z_ slots o_11, kx_2 q_t q_row q_joined q_from q_to q_size q_lossOf q_lessBy q_value q_number o_12 o_13, kx_0 q_row q_cell len, kx_a q_cell cyI 160 f, kx_a q_from cyI 319 o_14, kx_a q_to cyI 319 o_15, kx_a q_size cyI 319 o_16, kx_a q_lossOf cyI 319 o_17, kx_a q_lessBy cyI 319 o_18, kx_a q_value cyI 1914 o_19, kx_a q_number cyI 1914 o_20, kx_3 q_joined j_v j_n o_21 o_22 o_23, kx_a j_v cyI 12 o_24, kx_a j_n cyI 12 o_25, kx_3 h0 a_v a_n o_27 o_28 o_29, kx_a a_v cyI 12 o_30, kx_a a_n cyI 12 o_31]) [4, 7, 5, 6, 8, 9, 10, 11, 0, 12, 13, 1, 2, 3, 14, 15, 16] rfl
                      have hD9 := hD.sub (ws' := [kx_4 m_ q_row q_t t_ h0 k0 w_ z_ slots o_11, kx_2 q_t q_row q_joined q_from q_to q_size q_lossOf q_lessBy q_value q_number o_12 o_13, kx_0 q_row q_cell len, kx_a q_cell cyI 160 f, kx_a q_from cyI 319 o_14, kx_a q_to cyI 319 o_15, kx_a q_size cyI 319 o_16, kx_a q_lossOf cyI 319 o_17, kx_a q_lessBy cyI 319 o_18, kx_a q_value cyI 1914 o_19, kx_a q_number cyI 1914 o_20, kx_3 q_joined j_v j_n o_21 o_22 o_23, kx_a j_v cyI 12 o_24, kx_a j_n cyI 12 o_25, kx_3 h0 a_v a_n o_27 o_28 o_29, kx_a a_v cyI 12 o_30, kx_a a_n cyI 12 o_31]) [4, 7, 5, 6, 8, 9, 10, 11, 0, 12, 13, 1, 2, 3, 14, 15, 16] (by decide) rfl
                      have hK9 := hK.sub (tys' := [(cyI, .int)]) [0] rfl
                      exact vx_throw0 (names := EXC) hx hb hl0 hown (by decide +kernel) (by decide +kernel) hc_107 hz_ex hat ki_ot hth.2.1 hth.2.2 hS (hl.1.trans hml.symm) dX4_heavyAt_88 dX4_heavyAt_91 dX4_heavyAt_92 dX4_heavyAt_95 (fun x h => (htab x h).elim) (Nat.le_of_ble_eq_true rfl) (Nat.le_of_ble_eq_true rfl) (Nat.le_of_ble_eq_true rfl) (Nat.le_of_ble_eq_true rfl) hlocks (fun t ha hz hk => ⟨(o_11, o_12, o_13, o_14, o_15, o_16, o_17, o_18, o_19, o_20, o_21, o_22, o_23, o_24, o_25, o_27, o_28, o_29, o_30, o_31), ⟨(by decide), (fun _ => ⟨(by (try dsimp only); omega), (by (try dsimp only); omega), w_10.2.2.2.2⟩), w_10.2.2.2.1⟩, ⟨rfl, hP9.kept (fun k x hx => hk x.1 ((hP9 k x hx).lt)), va_K.moved ha hK9, hD9⟩, Nat.le_trans hS.1 hz, fun q h1 h2 => (hk q (Nat.lt_of_lt_of_le h1 hS.1)).trans (hS.2.1 q h1 h2)⟩) hS.2.2 (Nat.le_refl _) (Nat.le_refl _)
                  · exact absurd c_9 (by decide)
                · have w_8 : (0 : Int) ≤ 1 := w_8
                  refine lv_if_ne (tgt := 63) hx hb dX4_heavyAt_52 (by decide) (fun c_36 => ?_) (fun c_36 => ?_)
                  · exact absurd c_36 (by decide)
                  · have hP9 := hP.sub (ws' := [kx_4 m_ q_row q_t t_ h0 k0 w_ z_ slots old, kx_2 q_t q_row q_joined q_from q_to q_size q_lossOf q_lessBy q_value q_number nodes here, kx_0 q_row q_cell len, kx_a q_cell cyI 160 f, kx_a q_from cyI 319 ff, kx_a q_to cyI 319 ft, kx_a q_size cyI 319 fs, kx_a q_lossOf cyI 319 fo, kx_a q_lessBy cyI 319 fe, kx_a q_value cyI 1914 uv, kx_a q_number cyI 1914 un, kx_3 q_joined j_v j_n js jl je, kx_a j_v cyI 12 jv, kx_a j_n cyI 12 jn, kx_3 h0 a_v a_n vs lo le, kx_a a_v cyI 12 fv, kx_a a_n cyI 12 fn]) [0, 1, 2, 3, 4, 5, 6, 7, 8, 9, 10, 11, 12, 13, 14, 15, 16] rfl
                    have hD9 := hD.sub (ws' := [kx_4 m_ q_row q_t t_ h0 k0 w_ z_ slots old, kx_2 q_t q_row q_joined q_from q_to q_size q_lossOf q_lessBy q_value q_number nodes here, kx_0 q_row q_cell len, kx_a q_cell cyI 160 f, kx_a q_from cyI 319 ff, kx_a q_to cyI 319 ft, kx_a q_size cyI 319 fs, kx_a q_lossOf cyI 319 fo, kx_a q_lessBy cyI 319 fe, kx_a q_value cyI 1914 uv, kx_a q_number cyI 1914 un, kx_3 q_joined j_v j_n js jl je, kx_a j_v cyI 12 jv, kx_a j_n cyI 12 jn, kx_3 h0 a_v a_n vs lo le, kx_a a_v cyI 12 fv, kx_a a_n cyI 12 fn]) [0, 1, 2, 3, 4, 5, 6, 7, 8, 9, 10, 11, 12, 13, 14, 15, 16] (by decide) rfl
                    have hK9 := hK.sub (tys' := [(cyI, .int)]) [0] rfl
                    exact vx_throw0 (names := EXC) hx hb hl0 hown (by decide +kernel) (by decide +kernel) hc_107 hz_ex hat ki_ot hth.2.1 hth.2.2 hS (hl.1.trans hml.symm) dX4_heavyAt_55 dX4_heavyAt_58 dX4_heavyAt_59 dX4_heavyAt_62 (fun x h => (htab x h).elim) (Nat.le_of_ble_eq_true rfl) (Nat.le_of_ble_eq_true rfl) (Nat.le_of_ble_eq_true rfl) (Nat.le_of_ble_eq_true rfl) hlocks (fun t ha hz hk => ⟨(old, nodes, here, ff, ft, fs, fo, fe, uv, un, js, jl, je, jv, jn, vs, lo, le, fv, fn), ⟨(by decide), l0, s0⟩, ⟨rfl, hP9.kept (fun k x hx => hk x.1 ((hP9 k x hx).lt)), va_K.moved ha hK9, hD9⟩, Nat.le_trans hS.1 hz, fun q h1 h2 => (hk q (Nat.lt_of_lt_of_le h1 hS.1)).trans (hS.2.1 q h1 h2)⟩) hS.2.2 (Nat.le_refl _) (Nat.le_refl _)
              · have i_7 : 1 < p5.toInt := kc_nle c_7
                have hP9 := hP.sub (ws' := [kx_4 m_ q_row q_t t_ h0 k0 w_ z_ slots old, kx_2 q_t q_row q_joined q_from q_to q_size q_lossOf q_lessBy q_value q_number nodes here, kx_0 q_row q_cell len, kx_a q_cell cyI 160 f, kx_a q_from cyI 319 ff, kx_a q_to cyI 319 ft, kx_a q_size cyI 319 fs, kx_a q_lossOf cyI 319 fo, kx_a q_lessBy cyI 319 fe, kx_a q_value cyI 1914 uv, kx_a q_number cyI 1914 un, kx_3 q_joined j_v j_n js jl je, kx_a j_v cyI 12 jv, kx_a j_n cyI 12 jn, kx_3 h0 a_v a_n vs lo le, kx_a a_v cyI 12 fv, kx_a a_n cyI 12 fn]) [0, 1, 2, 3, 4, 5, 6, 7, 8, 9, 10, 11, 12, 13, 14, 15, 16] rfl
                have hD9 := hD.sub (ws' := [kx_4 m_ q_row q_t t_ h0 k0 w_ z_ slots old, kx_2 q_t q_row q_joined q_from q_to q_size q_lossOf q_lessBy q_value q_number nodes here, kx_0 q_row q_cell len, kx_a q_cell cyI 160 f, kx_a q_from cyI 319 ff, kx_a q_to cyI 319 ft, kx_a q_size cyI 319 fs, kx_a q_lossOf cyI 319 fo, kx_a q_lessBy cyI 319 fe, kx_a q_value cyI 1914 uv, kx_a q_number cyI 1914 un, kx_3 q_joined j_v j_n js jl je, kx_a j_v cyI 12 jv, kx_a j_n cyI 12 jn, kx_3 h0 a_v a_n vs lo le, kx_a a_v cyI 12 fv, kx_a a_n cyI 12 fn]) [0, 1, 2, 3, 4, 5, 6, 7, 8, 9, 10, 11, 12, 13, 14, 15, 16] (by decide) rfl
                have hK9 := hK.sub (tys' := [(cyI, .int)]) [0] rfl
                exact vx_throw0 (names := EXC) hx hb hl0 hown (by decide +kernel) (by decide +kernel) hc_107 hz_ex hat ki_ot hth.2.1 hth.2.2 hS (hl.1.trans hml.symm) dX4_heavyAt_37 dX4_heavyAt_40 dX4_heavyAt_41 dX4_heavyAt_44 (fun x h => (htab x h).elim) (Nat.le_of_ble_eq_true rfl) (Nat.le_of_ble_eq_true rfl) (Nat.le_of_ble_eq_true rfl) (Nat.le_of_ble_eq_true rfl) hlocks (fun t ha hz hk => ⟨(old, nodes, here, ff, ft, fs, fo, fe, uv, un, js, jl, je, jv, jn, vs, lo, le, fv, fn), ⟨(by decide), l0, s0⟩, ⟨rfl, hP9.kept (fun k x hx => hk x.1 ((hP9 k x hx).lt)), va_K.moved ha hK9, hD9⟩, Nat.le_trans hS.1 hz, fun q h1 h2 => (hk q (Nat.lt_of_lt_of_le h1 hS.1)).trans (hS.2.1 q h1 h2)⟩) hS.2.2 (Nat.le_refl _) (Nat.le_refl _)
      · have w_3 : (p2.toInt < 1 ∨ p3.toInt < p2.toInt ∨ 999 < p3.toInt) := w_3
        refine lv_if_eq (tgt := 37) hx hb dX4_heavyAt_18 (by decide) (fun c_37 => ?_) (fun c_37 => ?_)
        · have hP9 := hP.sub (ws' := [kx_4 m_ q_row q_t t_ h0 k0 w_ z_ slots old, kx_2 q_t q_row q_joined q_from q_to q_size q_lossOf q_lessBy q_value q_number nodes here, kx_0 q_row q_cell len, kx_a q_cell cyI 160 f, kx_a q_from cyI 319 ff, kx_a q_to cyI 319 ft, kx_a q_size cyI 319 fs, kx_a q_lossOf cyI 319 fo, kx_a q_lessBy cyI 319 fe, kx_a q_value cyI 1914 uv, kx_a q_number cyI 1914 un, kx_3 q_joined j_v j_n js jl je, kx_a j_v cyI 12 jv, kx_a j_n cyI 12 jn, kx_3 h0 a_v a_n vs lo le, kx_a a_v cyI 12 fv, kx_a a_n cyI 12 fn]) [0, 1, 2, 3, 4, 5, 6, 7, 8, 9, 10, 11, 12, 13, 14, 15, 16] rfl
          have hD9 := hD.sub (ws' := [kx_4 m_ q_row q_t t_ h0 k0 w_ z_ slots old, kx_2 q_t q_row q_joined q_from q_to q_size q_lossOf q_lessBy q_value q_number nodes here, kx_0 q_row q_cell len, kx_a q_cell cyI 160 f, kx_a q_from cyI 319 ff, kx_a q_to cyI 319 ft, kx_a q_size cyI 319 fs, kx_a q_lossOf cyI 319 fo, kx_a q_lessBy cyI 319 fe, kx_a q_value cyI 1914 uv, kx_a q_number cyI 1914 un, kx_3 q_joined j_v j_n js jl je, kx_a j_v cyI 12 jv, kx_a j_n cyI 12 jn, kx_3 h0 a_v a_n vs lo le, kx_a a_v cyI 12 fv, kx_a a_n cyI 12 fn]) [0, 1, 2, 3, 4, 5, 6, 7, 8, 9, 10, 11, 12, 13, 14, 15, 16] (by decide) rfl
          have hK9 := hK.sub (tys' := [(cyI, .int)]) [0] rfl
          exact vx_throw0 (names := EXC) hx hb hl0 hown (by decide +kernel) (by decide +kernel) hc_107 hz_ex hat ki_ot hth.2.1 hth.2.2 hS (hl.1.trans hml.symm) dX4_heavyAt_37 dX4_heavyAt_40 dX4_heavyAt_41 dX4_heavyAt_44 (fun x h => (htab x h).elim) (Nat.le_of_ble_eq_true rfl) (Nat.le_of_ble_eq_true rfl) (Nat.le_of_ble_eq_true rfl) (Nat.le_of_ble_eq_true rfl) hlocks (fun t ha hz hk => ⟨(old, nodes, here, ff, ft, fs, fo, fe, uv, un, js, jl, je, jv, jn, vs, lo, le, fv, fn), ⟨(by decide), l0, s0⟩, ⟨rfl, hP9.kept (fun k x hx => hk x.1 ((hP9 k x hx).lt)), va_K.moved ha hK9, hD9⟩, Nat.le_trans hS.1 hz, fun q h1 h2 => (hk q (Nat.lt_of_lt_of_le h1 hS.1)).trans (hS.2.1 q h1 h2)⟩) hS.2.2 (Nat.le_refl _) (Nat.le_refl _)
        · exact absurd c_37 (by decide)
  · have w_1 : (p0.toInt < 0 ∨ p1.toInt ≤ p0.toInt ∨ len.toInt < p1.toInt) := w_1
    refine lv_if_eq (tgt := 37) hx hb dX4_heavyAt_9 (by decide) (fun c_38 => ?_) (fun c_38 => ?_)
    · have hP9 := hP.sub (ws' := [kx_4 m_ q_row q_t t_ h0 k0 w_ z_ slots old, kx_2 q_t q_row q_joined q_from q_to q_size q_lossOf q_lessBy q_value q_number nodes here, kx_0 q_row q_cell len, kx_a q_cell cyI 160 f, kx_a q_from cyI 319 ff, kx_a q_to cyI 319 ft, kx_a q_size cyI 319 fs, kx_a q_lossOf cyI 319 fo, kx_a q_lessBy cyI 319 fe, kx_a q_value cyI 1914 uv, kx_a q_number cyI 1914 un, kx_3 q_joined j_v j_n js jl je, kx_a j_v cyI 12 jv, kx_a j_n cyI 12 jn, kx_3 h0 a_v a_n vs lo le, kx_a a_v cyI 12 fv, kx_a a_n cyI 12 fn]) [0, 1, 2, 3, 4, 5, 6, 7, 8, 9, 10, 11, 12, 13, 14, 15, 16] rfl
      have hD9 := hD.sub (ws' := [kx_4 m_ q_row q_t t_ h0 k0 w_ z_ slots old, kx_2 q_t q_row q_joined q_from q_to q_size q_lossOf q_lessBy q_value q_number nodes here, kx_0 q_row q_cell len, kx_a q_cell cyI 160 f, kx_a q_from cyI 319 ff, kx_a q_to cyI 319 ft, kx_a q_size cyI 319 fs, kx_a q_lossOf cyI 319 fo, kx_a q_lessBy cyI 319 fe, kx_a q_value cyI 1914 uv, kx_a q_number cyI 1914 un, kx_3 q_joined j_v j_n js jl je, kx_a j_v cyI 12 jv, kx_a j_n cyI 12 jn, kx_3 h0 a_v a_n vs lo le, kx_a a_v cyI 12 fv, kx_a a_n cyI 12 fn]) [0, 1, 2, 3, 4, 5, 6, 7, 8, 9, 10, 11, 12, 13, 14, 15, 16] (by decide) rfl
      have hK9 := hK.sub (tys' := [(cyI, .int)]) [0] rfl
      exact vx_throw0 (names := EXC) hx hb hl0 hown (by decide +kernel) (by decide +kernel) hc_107 hz_ex hat ki_ot hth.2.1 hth.2.2 hS (hl.1.trans hml.symm) dX4_heavyAt_37 dX4_heavyAt_40 dX4_heavyAt_41 dX4_heavyAt_44 (fun x h => (htab x h).elim) (Nat.le_of_ble_eq_true rfl) (Nat.le_of_ble_eq_true rfl) (Nat.le_of_ble_eq_true rfl) (Nat.le_of_ble_eq_true rfl) hlocks (fun t ha hz hk => ⟨(old, nodes, here, ff, ft, fs, fo, fe, uv, un, js, jl, je, jv, jn, vs, lo, le, fv, fn), ⟨(by decide), l0, s0⟩, ⟨rfl, hP9.kept (fun k x hx => hk x.1 ((hP9 k x hx).lt)), va_K.moved ha hK9, hD9⟩, Nat.le_trans hS.1 hz, fun q h1 h2 => (hk q (Nat.lt_of_lt_of_le h1 hS.1)).trans (hS.2.1 q h1 h2)⟩) hS.2.2 (Nat.le_refl _) (Nat.le_refl _)
    · exact absurd c_38 (by decide)



def RL : String := "MajorityIndexLaw"
abbrev cL_at : ByteArray := method_3_code
def yL_at : MethodName := ⟨RL, "at", "(LMajorityIndex;I[J)I"⟩
abbrev cL_vote : ByteArray := method_4_code
def yL_vote : MethodName := ⟨RL, "vote", "(LMajorityIndex;IIII[J)I"⟩
abbrev cL_candidate : ByteArray := method_5_code
def yL_candidate : MethodName := ⟨RL, "candidate", "(LMajorityIndex;IIII[J)I"⟩
abbrev cL_heavyAt : ByteArray := method_6_code
def yL_heavyAt : MethodName := ⟨RL, "heavyAt", "(LMajorityIndex;IIIIII[J)I"⟩
def wsL_at : List Cond := .codeWith yL_at cL_at 4 (some .int) [(0, 9, 12, 13)] :: ([.classLink RL 13 "java/util/NoSuchElementException", .methodLink RL 7 yX4_at, .instanceMethod yX4_at, .selects RX4 yX4_at yX4_at, .initialized RX4, .code yX4_at cX4_at 2 (some .int), .classLink RX4 107 "java/util/NoSuchElementException", .initialized "java/util/NoSuchElementException", .fieldLink RX4 12 "MajorityIndex" "row" "LMajorityIndex$Row;", .fieldLink RX4 110 "MajorityIndex$Row" "cell" "[I", .methodLink RX4 64 yX0_hasPlace, .instanceMethod yX0_hasPlace, .selects RX0 yX0_hasPlace yX0_hasPlace, .initialized RX0, .code yX0_hasPlace cX0_hasPlace 2 (some .boolean), .fieldLink RX0 15 "MajorityIndex$Row" "length" "I"] ++ wsX40 ++ wsX00 ++ (vx_at0 RX4 109 "java/util/NoSuchElementException" ["java/lang/RuntimeException", "java/lang/Exception"]).filter goodWord)
def wsL_vote_r1 : List Cond := [Cond.classLink RL 13 "java/util/NoSuchElementException", Cond.methodLink RL 15 yX4_vote, Cond.instanceMethod yX4_vote, Cond.selects RX4 yX4_vote yX4_vote, Cond.initialized RX4, Cond.code yX4_vote cX4_vote 7 (some .int), Cond.classLink RX4 107 "java/util/NoSuchElementException", Cond.initialized "java/util/NoSuchElementException", Cond.fieldLink RX4 12 "MajorityIndex" "row" "LMajorityIndex$Row;", Cond.fieldLink RX4 126 "MajorityIndex$Tree" "size" "[I", Cond.fieldLink RX4 35 "MajorityIndex" "votes" "LMajorityIndex$Votes;", Cond.fieldLink RX4 133 "MajorityIndex$Votes" "value" "[I", Cond.fieldLink RX4 136 "MajorityIndex$Votes" "number" "[I", Cond.methodLink RX4 79 yX0_hasRange, Cond.instanceMethod yX0_hasRange, Cond.selects RX0 yX0_hasRange yX0_hasRange, Cond.initialized RX0, Cond.code yX0_hasRange cX0_hasRange 3 (some .boolean), Cond.fieldLink RX0 15 "MajorityIndex$Row" "length" "I", Cond.methodLink RX4 71 yX4_laidTree, Cond.instanceMethod yX4_laidTree, Cond.selects RX4 yX4_laidTree yX4_laidTree, Cond.code yX4_laidTree cX4_laidTree 1 (some (.object "MajorityIndex$Tree")), Cond.fieldLink RX4 53 "MajorityIndex" "treeIsOld" "Z"]
def wsL_vote_r2 : List Cond := [Cond.fieldLink RX4 21 "MajorityIndex" "tree" "LMajorityIndex$Tree;", Cond.fieldLink RX4 49 "MajorityIndex" "slotsNow" "I", Cond.fieldLink RX4 204 "MajorityIndex$Tree" "slotsHere" "I", Cond.fieldLink RX4 57 "MajorityIndex$Row" "length" "I", Cond.methodLink RX4 259 yX2_layRanges, Cond.instanceMethod yX2_layRanges, Cond.selects RX2 yX2_layRanges yX2_layRanges, Cond.initialized RX2, Cond.code yX2_layRanges cX2_layRanges 2 none, Cond.fieldLink RX2 40 "MajorityIndex$Tree" "row" "LMajorityIndex$Row;", Cond.fieldLink RX2 44 "MajorityIndex$Row" "length" "I", Cond.fieldLink RX2 50 "MajorityIndex$Tree" "nodes" "I", Cond.fieldLink RX2 18 "MajorityIndex$Tree" "from" "[I", Cond.fieldLink RX2 22 "MajorityIndex$Tree" "to" "[I", Cond.methodLink RX2 53 yX2_layBelow, Cond.instanceMethod yX2_layBelow, Cond.selects RX2 yX2_layBelow yX2_layBelow, Cond.code yX2_layBelow cX2_layBelow 4 none, Cond.methodLink RX2 57 yX2_rightBelow, Cond.instanceMethod yX2_rightBelow, Cond.selects RX2 yX2_rightBelow yX2_rightBelow, Cond.code yX2_rightBelow cX2_rightBelow 3 (some .int), Cond.methodLink RX4 87 yX2_renew, Cond.instanceMethod yX2_renew]
def wsL_vote_r3 : List Cond := [Cond.selects RX2 yX2_renew yX2_renew, Cond.code yX2_renew cX2_renew 5 (some .int), Cond.methodLink RX2 61 yX2_putTogether, Cond.instanceMethod yX2_putTogether, Cond.selects RX2 yX2_putTogether yX2_putTogether, Cond.code yX2_putTogether cX2_putTogether 2 none, Cond.fieldLink RX2 12 "MajorityIndex$Tree" "joined" "LMajorityIndex$Votes;", Cond.fieldLink RX2 74 "MajorityIndex$Row" "cell" "[I", Cond.fieldLink RX2 85 "MajorityIndex$Tree" "slotsHere" "I", Cond.methodLink RX2 71 yX3_clear, Cond.instanceMethod yX3_clear, Cond.selects RX3 yX3_clear yX3_clear, Cond.initialized RX3, Cond.code yX3_clear cX3_clear 1 none, Cond.fieldLink RX3 18 "MajorityIndex$Votes" "size" "I", Cond.fieldLink RX3 22 "MajorityIndex$Votes" "lost" "I", Cond.fieldLink RX3 25 "MajorityIndex$Votes" "lessBy" "I", Cond.methodLink RX2 77 yX3_add, Cond.instanceMethod yX3_add, Cond.selects RX3 yX3_add yX3_add, Cond.code yX3_add cX3_add 4 none, Cond.fieldLink RX3 9 "MajorityIndex$Votes" "value" "[I", Cond.fieldLink RX3 15 "MajorityIndex$Votes" "number" "[I", Cond.methodLink RX2 81 yX2_joinNode]
def wsL_vote_r4 : List Cond := [Cond.instanceMethod yX2_joinNode, Cond.selects RX2 yX2_joinNode yX2_joinNode, Cond.code yX2_joinNode cX2_joinNode 5 none, Cond.fieldLink RX2 25 "MajorityIndex$Tree" "size" "[I", Cond.fieldLink RX2 34 "MajorityIndex$Tree" "value" "[I", Cond.fieldLink RX2 37 "MajorityIndex$Tree" "number" "[I", Cond.fieldLink RX2 91 "MajorityIndex$Votes" "lost" "I", Cond.fieldLink RX2 28 "MajorityIndex$Tree" "lossOf" "[I", Cond.methodLink RX2 88 yX3_cancel, Cond.instanceMethod yX3_cancel, Cond.selects RX3 yX3_cancel yX3_cancel, Cond.code yX3_cancel cX3_cancel 4 none, Cond.methodLink RX3 32 yX3_order, Cond.instanceMethod yX3_order, Cond.selects RX3 yX3_order yX3_order, Cond.code yX3_order cX3_order 3 none, Cond.methodLink RX3 35 yX3_isAhead, Cond.instanceMethod yX3_isAhead, Cond.selects RX3 yX3_isAhead yX3_isAhead, Cond.code yX3_isAhead cX3_isAhead 3 (some .boolean), Cond.methodLink RX3 39 yX3_exchange, Cond.instanceMethod yX3_exchange, Cond.selects RX3 yX3_exchange yX3_exchange, Cond.code yX3_exchange cX3_exchange 5 none]
def wsL_vote_r5 : List Cond := [Cond.methodLink RX2 64 yX2_isJoined, Cond.instanceMethod yX2_isJoined, Cond.selects RX2 yX2_isJoined yX2_isJoined, Cond.code yX2_isJoined cX2_isJoined 4 (some .boolean), Cond.fieldLink RX2 94 "MajorityIndex$Votes" "size" "I", Cond.fieldLink RX2 96 "MajorityIndex$Votes" "value" "[I", Cond.fieldLink RX2 97 "MajorityIndex$Votes" "number" "[I", Cond.methodLink RX2 68 yX2_keepJoined, Cond.instanceMethod yX2_keepJoined, Cond.selects RX2 yX2_keepJoined yX2_keepJoined, Cond.code yX2_keepJoined cX2_keepJoined 4 none, Cond.methodLink RX2 98 Lib.Math.min.name, Cond.static Lib.Math.min.name, Cond.initialized "java/lang/Math", Cond.code Lib.Math.min.name Lib.Math.min.code 2 (some .int), Cond.fieldLink RX2 31 "MajorityIndex$Tree" "lessBy" "[I", Cond.fieldLink RX2 104 "MajorityIndex$Votes" "lessBy" "I", Cond.methodLink RX4 123 yX2_find, Cond.instanceMethod yX2_find, Cond.selects RX2 yX2_find yX2_find, Cond.code yX2_find cX2_find 4 (some .int), Cond.methodLink RX4 129 yX2_copyTo, Cond.instanceMethod yX2_copyTo, Cond.selects RX2 yX2_copyTo yX2_copyTo]
def wsL_vote_r6 : List Cond := [Cond.code yX2_copyTo cX2_copyTo 3 none]
def wsL_vote : List Cond := .codeWith yL_vote cL_vote 7 (some .int) [(0, 14, 17, 13)] :: ((wsL_vote_r1 ++ (wsL_vote_r2 ++ (wsL_vote_r3 ++ (wsL_vote_r4 ++ (wsL_vote_r5 ++ wsL_vote_r6))))) ++ wsX40 ++ wsX20 ++ wsX30 ++ wsX00 ++ (vx_at0 RX4 109 "java/util/NoSuchElementException" ["java/lang/RuntimeException", "java/lang/Exception"]).filter goodWord)
def wsL_candidate_r1 : List Cond := [Cond.classLink RL 13 "java/util/NoSuchElementException", Cond.methodLink RL 19 yX4_candidate, Cond.instanceMethod yX4_candidate, Cond.selects RX4 yX4_candidate yX4_candidate, Cond.initialized RX4, Cond.code yX4_candidate cX4_candidate 5 (some .int), Cond.classLink RX4 107 "java/util/NoSuchElementException", Cond.initialized "java/util/NoSuchElementException", Cond.fieldLink RX4 12 "MajorityIndex" "row" "LMajorityIndex$Row;", Cond.fieldLink RX4 35 "MajorityIndex" "votes" "LMajorityIndex$Votes;", Cond.fieldLink RX4 174 "MajorityIndex$Votes" "size" "I", Cond.fieldLink RX4 133 "MajorityIndex$Votes" "value" "[I", Cond.fieldLink RX4 136 "MajorityIndex$Votes" "number" "[I", Cond.methodLink RX4 79 yX0_hasRange, Cond.instanceMethod yX0_hasRange, Cond.selects RX0 yX0_hasRange yX0_hasRange, Cond.initialized RX0, Cond.code yX0_hasRange cX0_hasRange 3 (some .boolean), Cond.fieldLink RX0 15 "MajorityIndex$Row" "length" "I", Cond.methodLink RX4 71 yX4_laidTree, Cond.instanceMethod yX4_laidTree, Cond.selects RX4 yX4_laidTree yX4_laidTree, Cond.code yX4_laidTree cX4_laidTree 1 (some (.object "MajorityIndex$Tree")), Cond.fieldLink RX4 53 "MajorityIndex" "treeIsOld" "Z"]
def wsL_candidate_r2 : List Cond := [Cond.fieldLink RX4 21 "MajorityIndex" "tree" "LMajorityIndex$Tree;", Cond.fieldLink RX4 49 "MajorityIndex" "slotsNow" "I", Cond.fieldLink RX4 204 "MajorityIndex$Tree" "slotsHere" "I", Cond.fieldLink RX4 57 "MajorityIndex$Row" "length" "I", Cond.methodLink RX4 259 yX2_layRanges, Cond.instanceMethod yX2_layRanges, Cond.selects RX2 yX2_layRanges yX2_layRanges, Cond.initialized RX2, Cond.code yX2_layRanges cX2_layRanges 2 none, Cond.fieldLink RX2 40 "MajorityIndex$Tree" "row" "LMajorityIndex$Row;", Cond.fieldLink RX2 44 "MajorityIndex$Row" "length" "I", Cond.fieldLink RX2 50 "MajorityIndex$Tree" "nodes" "I", Cond.fieldLink RX2 18 "MajorityIndex$Tree" "from" "[I", Cond.fieldLink RX2 22 "MajorityIndex$Tree" "to" "[I", Cond.methodLink RX2 53 yX2_layBelow, Cond.instanceMethod yX2_layBelow, Cond.selects RX2 yX2_layBelow yX2_layBelow, Cond.code yX2_layBelow cX2_layBelow 4 none, Cond.methodLink RX2 57 yX2_rightBelow, Cond.instanceMethod yX2_rightBelow, Cond.selects RX2 yX2_rightBelow yX2_rightBelow, Cond.code yX2_rightBelow cX2_rightBelow 3 (some .int), Cond.methodLink RX4 87 yX2_renew, Cond.instanceMethod yX2_renew]
def wsL_candidate_r3 : List Cond := [Cond.selects RX2 yX2_renew yX2_renew, Cond.code yX2_renew cX2_renew 5 (some .int), Cond.methodLink RX2 61 yX2_putTogether, Cond.instanceMethod yX2_putTogether, Cond.selects RX2 yX2_putTogether yX2_putTogether, Cond.code yX2_putTogether cX2_putTogether 2 none, Cond.fieldLink RX2 12 "MajorityIndex$Tree" "joined" "LMajorityIndex$Votes;", Cond.fieldLink RX2 74 "MajorityIndex$Row" "cell" "[I", Cond.fieldLink RX2 85 "MajorityIndex$Tree" "slotsHere" "I", Cond.methodLink RX2 71 yX3_clear, Cond.instanceMethod yX3_clear, Cond.selects RX3 yX3_clear yX3_clear, Cond.initialized RX3, Cond.code yX3_clear cX3_clear 1 none, Cond.fieldLink RX3 18 "MajorityIndex$Votes" "size" "I", Cond.fieldLink RX3 22 "MajorityIndex$Votes" "lost" "I", Cond.fieldLink RX3 25 "MajorityIndex$Votes" "lessBy" "I", Cond.methodLink RX2 77 yX3_add, Cond.instanceMethod yX3_add, Cond.selects RX3 yX3_add yX3_add, Cond.code yX3_add cX3_add 4 none, Cond.fieldLink RX3 9 "MajorityIndex$Votes" "value" "[I", Cond.fieldLink RX3 15 "MajorityIndex$Votes" "number" "[I", Cond.methodLink RX2 81 yX2_joinNode]
def wsL_candidate_r4 : List Cond := [Cond.instanceMethod yX2_joinNode, Cond.selects RX2 yX2_joinNode yX2_joinNode, Cond.code yX2_joinNode cX2_joinNode 5 none, Cond.fieldLink RX2 25 "MajorityIndex$Tree" "size" "[I", Cond.fieldLink RX2 34 "MajorityIndex$Tree" "value" "[I", Cond.fieldLink RX2 37 "MajorityIndex$Tree" "number" "[I", Cond.fieldLink RX2 91 "MajorityIndex$Votes" "lost" "I", Cond.fieldLink RX2 28 "MajorityIndex$Tree" "lossOf" "[I", Cond.methodLink RX2 88 yX3_cancel, Cond.instanceMethod yX3_cancel, Cond.selects RX3 yX3_cancel yX3_cancel, Cond.code yX3_cancel cX3_cancel 4 none, Cond.methodLink RX3 32 yX3_order, Cond.instanceMethod yX3_order, Cond.selects RX3 yX3_order yX3_order, Cond.code yX3_order cX3_order 3 none, Cond.methodLink RX3 35 yX3_isAhead, Cond.instanceMethod yX3_isAhead, Cond.selects RX3 yX3_isAhead yX3_isAhead, Cond.code yX3_isAhead cX3_isAhead 3 (some .boolean), Cond.methodLink RX3 39 yX3_exchange, Cond.instanceMethod yX3_exchange, Cond.selects RX3 yX3_exchange yX3_exchange, Cond.code yX3_exchange cX3_exchange 5 none]
def wsL_candidate_r5 : List Cond := [Cond.methodLink RX2 64 yX2_isJoined, Cond.instanceMethod yX2_isJoined, Cond.selects RX2 yX2_isJoined yX2_isJoined, Cond.code yX2_isJoined cX2_isJoined 4 (some .boolean), Cond.fieldLink RX2 94 "MajorityIndex$Votes" "size" "I", Cond.fieldLink RX2 96 "MajorityIndex$Votes" "value" "[I", Cond.fieldLink RX2 97 "MajorityIndex$Votes" "number" "[I", Cond.methodLink RX2 68 yX2_keepJoined, Cond.instanceMethod yX2_keepJoined, Cond.selects RX2 yX2_keepJoined yX2_keepJoined, Cond.code yX2_keepJoined cX2_keepJoined 4 none, Cond.methodLink RX2 98 Lib.Math.min.name, Cond.static Lib.Math.min.name, Cond.initialized "java/lang/Math", Cond.code Lib.Math.min.name Lib.Math.min.code 2 (some .int), Cond.fieldLink RX2 31 "MajorityIndex$Tree" "lessBy" "[I", Cond.fieldLink RX2 104 "MajorityIndex$Votes" "lessBy" "I", Cond.methodLink RX4 170 yX2_gather, Cond.instanceMethod yX2_gather, Cond.selects RX2 yX2_gather yX2_gather, Cond.code yX2_gather cX2_gather 6 none, Cond.methodLink RX2 106 yX2_isPart, Cond.instanceMethod yX2_isPart, Cond.selects RX2 yX2_isPart yX2_isPart]
def wsL_candidate_r6 : List Cond := [Cond.code yX2_isPart cX2_isPart 4 (some .boolean), Cond.methodLink RX4 113 yX0_oftenIn, Cond.instanceMethod yX0_oftenIn, Cond.selects RX0 yX0_oftenIn yX0_oftenIn, Cond.code yX0_oftenIn cX0_oftenIn 6 (some .int), Cond.fieldLink RX0 9 "MajorityIndex$Row" "cell" "[I"]
def wsL_candidate : List Cond := .codeWith yL_candidate cL_candidate 7 (some .int) [(0, 14, 17, 13)] :: ((wsL_candidate_r1 ++ (wsL_candidate_r2 ++ (wsL_candidate_r3 ++ (wsL_candidate_r4 ++ (wsL_candidate_r5 ++ wsL_candidate_r6))))) ++ wsX40 ++ wsX30 ++ wsX00 ++ wsX20 ++ (vx_at0 RX4 109 "java/util/NoSuchElementException" ["java/lang/RuntimeException", "java/lang/Exception"]).filter goodWord)
def wsL_heavyAt_r1 : List Cond := [Cond.classLink RL 13 "java/util/NoSuchElementException", Cond.methodLink RL 22 yX4_heavyAt, Cond.instanceMethod yX4_heavyAt, Cond.selects RX4 yX4_heavyAt yX4_heavyAt, Cond.initialized RX4, Cond.code yX4_heavyAt cX4_heavyAt 7 (some .int), Cond.classLink RX4 107 "java/util/NoSuchElementException", Cond.initialized "java/util/NoSuchElementException", Cond.fieldLink RX4 12 "MajorityIndex" "row" "LMajorityIndex$Row;", Cond.fieldLink RX4 35 "MajorityIndex" "votes" "LMajorityIndex$Votes;", Cond.fieldLink RX4 174 "MajorityIndex$Votes" "size" "I", Cond.fieldLink RX4 133 "MajorityIndex$Votes" "value" "[I", Cond.fieldLink RX4 136 "MajorityIndex$Votes" "number" "[I", Cond.methodLink RX4 79 yX0_hasRange, Cond.instanceMethod yX0_hasRange, Cond.selects RX0 yX0_hasRange yX0_hasRange, Cond.initialized RX0, Cond.code yX0_hasRange cX0_hasRange 3 (some .boolean), Cond.fieldLink RX0 15 "MajorityIndex$Row" "length" "I", Cond.methodLink RX4 186 yX4_isShare, Cond.static yX4_isShare, Cond.code yX4_isShare cX4_isShare 2 (some .boolean), Cond.methodLink RX4 189 yX4_isEnough, Cond.instanceMethod yX4_isEnough]
def wsL_heavyAt_r2 : List Cond := [Cond.selects RX4 yX4_isEnough yX4_isEnough, Cond.code yX4_isEnough cX4_isEnough 3 (some .boolean), Cond.fieldLink RX4 49 "MajorityIndex" "slotsNow" "I", Cond.methodLink RX4 71 yX4_laidTree, Cond.instanceMethod yX4_laidTree, Cond.selects RX4 yX4_laidTree yX4_laidTree, Cond.code yX4_laidTree cX4_laidTree 1 (some (.object "MajorityIndex$Tree")), Cond.fieldLink RX4 53 "MajorityIndex" "treeIsOld" "Z", Cond.fieldLink RX4 21 "MajorityIndex" "tree" "LMajorityIndex$Tree;", Cond.fieldLink RX4 204 "MajorityIndex$Tree" "slotsHere" "I", Cond.fieldLink RX4 57 "MajorityIndex$Row" "length" "I", Cond.methodLink RX4 259 yX2_layRanges, Cond.instanceMethod yX2_layRanges, Cond.selects RX2 yX2_layRanges yX2_layRanges, Cond.initialized RX2, Cond.code yX2_layRanges cX2_layRanges 2 none, Cond.fieldLink RX2 40 "MajorityIndex$Tree" "row" "LMajorityIndex$Row;", Cond.fieldLink RX2 44 "MajorityIndex$Row" "length" "I", Cond.fieldLink RX2 50 "MajorityIndex$Tree" "nodes" "I", Cond.fieldLink RX2 18 "MajorityIndex$Tree" "from" "[I", Cond.fieldLink RX2 22 "MajorityIndex$Tree" "to" "[I", Cond.methodLink RX2 53 yX2_layBelow, Cond.instanceMethod yX2_layBelow, Cond.selects RX2 yX2_layBelow yX2_layBelow]
def wsL_heavyAt_r3 : List Cond := [Cond.code yX2_layBelow cX2_layBelow 4 none, Cond.methodLink RX2 57 yX2_rightBelow, Cond.instanceMethod yX2_rightBelow, Cond.selects RX2 yX2_rightBelow yX2_rightBelow, Cond.code yX2_rightBelow cX2_rightBelow 3 (some .int), Cond.methodLink RX4 87 yX2_renew, Cond.instanceMethod yX2_renew, Cond.selects RX2 yX2_renew yX2_renew, Cond.code yX2_renew cX2_renew 5 (some .int), Cond.methodLink RX2 61 yX2_putTogether, Cond.instanceMethod yX2_putTogether, Cond.selects RX2 yX2_putTogether yX2_putTogether, Cond.code yX2_putTogether cX2_putTogether 2 none, Cond.fieldLink RX2 12 "MajorityIndex$Tree" "joined" "LMajorityIndex$Votes;", Cond.fieldLink RX2 74 "MajorityIndex$Row" "cell" "[I", Cond.fieldLink RX2 85 "MajorityIndex$Tree" "slotsHere" "I", Cond.methodLink RX2 71 yX3_clear, Cond.instanceMethod yX3_clear, Cond.selects RX3 yX3_clear yX3_clear, Cond.initialized RX3, Cond.code yX3_clear cX3_clear 1 none, Cond.fieldLink RX3 18 "MajorityIndex$Votes" "size" "I", Cond.fieldLink RX3 22 "MajorityIndex$Votes" "lost" "I", Cond.fieldLink RX3 25 "MajorityIndex$Votes" "lessBy" "I"]
def wsL_heavyAt_r4 : List Cond := [Cond.methodLink RX2 77 yX3_add, Cond.instanceMethod yX3_add, Cond.selects RX3 yX3_add yX3_add, Cond.code yX3_add cX3_add 4 none, Cond.fieldLink RX3 9 "MajorityIndex$Votes" "value" "[I", Cond.fieldLink RX3 15 "MajorityIndex$Votes" "number" "[I", Cond.methodLink RX2 81 yX2_joinNode, Cond.instanceMethod yX2_joinNode, Cond.selects RX2 yX2_joinNode yX2_joinNode, Cond.code yX2_joinNode cX2_joinNode 5 none, Cond.fieldLink RX2 25 "MajorityIndex$Tree" "size" "[I", Cond.fieldLink RX2 34 "MajorityIndex$Tree" "value" "[I", Cond.fieldLink RX2 37 "MajorityIndex$Tree" "number" "[I", Cond.fieldLink RX2 91 "MajorityIndex$Votes" "lost" "I", Cond.fieldLink RX2 28 "MajorityIndex$Tree" "lossOf" "[I", Cond.methodLink RX2 88 yX3_cancel, Cond.instanceMethod yX3_cancel, Cond.selects RX3 yX3_cancel yX3_cancel, Cond.code yX3_cancel cX3_cancel 4 none, Cond.methodLink RX3 32 yX3_order, Cond.instanceMethod yX3_order, Cond.selects RX3 yX3_order yX3_order, Cond.code yX3_order cX3_order 3 none, Cond.methodLink RX3 35 yX3_isAhead]
def wsL_heavyAt_r5 : List Cond := [Cond.instanceMethod yX3_isAhead, Cond.selects RX3 yX3_isAhead yX3_isAhead, Cond.code yX3_isAhead cX3_isAhead 3 (some .boolean), Cond.methodLink RX3 39 yX3_exchange, Cond.instanceMethod yX3_exchange, Cond.selects RX3 yX3_exchange yX3_exchange, Cond.code yX3_exchange cX3_exchange 5 none, Cond.methodLink RX2 64 yX2_isJoined, Cond.instanceMethod yX2_isJoined, Cond.selects RX2 yX2_isJoined yX2_isJoined, Cond.code yX2_isJoined cX2_isJoined 4 (some .boolean), Cond.fieldLink RX2 94 "MajorityIndex$Votes" "size" "I", Cond.fieldLink RX2 96 "MajorityIndex$Votes" "value" "[I", Cond.fieldLink RX2 97 "MajorityIndex$Votes" "number" "[I", Cond.methodLink RX2 68 yX2_keepJoined, Cond.instanceMethod yX2_keepJoined, Cond.selects RX2 yX2_keepJoined yX2_keepJoined, Cond.code yX2_keepJoined cX2_keepJoined 4 none, Cond.methodLink RX2 98 Lib.Math.min.name, Cond.static Lib.Math.min.name, Cond.initialized "java/lang/Math", Cond.code Lib.Math.min.name Lib.Math.min.code 2 (some .int), Cond.fieldLink RX2 31 "MajorityIndex$Tree" "lessBy" "[I", Cond.fieldLink RX2 104 "MajorityIndex$Votes" "lessBy" "I"]
def wsL_heavyAt_r6 : List Cond := [Cond.methodLink RX4 192 yX4_gatherHeavy, Cond.instanceMethod yX4_gatherHeavy, Cond.selects RX4 yX4_gatherHeavy yX4_gatherHeavy, Cond.code yX4_gatherHeavy cX4_gatherHeavy 7 none, Cond.methodLink RX4 170 yX2_gather, Cond.instanceMethod yX2_gather, Cond.selects RX2 yX2_gather yX2_gather, Cond.code yX2_gather cX2_gather 6 none, Cond.methodLink RX2 106 yX2_isPart, Cond.instanceMethod yX2_isPart, Cond.selects RX2 yX2_isPart yX2_isPart, Cond.code yX2_isPart cX2_isPart 4 (some .boolean), Cond.methodLink RX4 113 yX0_oftenIn, Cond.instanceMethod yX0_oftenIn, Cond.selects RX0 yX0_oftenIn yX0_oftenIn, Cond.code yX0_oftenIn cX0_oftenIn 6 (some .int), Cond.fieldLink RX0 9 "MajorityIndex$Row" "cell" "[I", Cond.methodLink RX4 262 yX3_keepHeavy, Cond.instanceMethod yX3_keepHeavy, Cond.selects RX3 yX3_keepHeavy yX3_keepHeavy, Cond.code yX3_keepHeavy cX3_keepHeavy 6 none, Cond.static yX4_isHeavy, Cond.code yX4_isHeavy cX4_isHeavy 4 (some .boolean)]
def wsL_heavyAt : List Cond := .codeWith yL_heavyAt cL_heavyAt 9 (some .int) [(0, 18, 21, 13)] :: ((wsL_heavyAt_r1 ++ (wsL_heavyAt_r2 ++ (wsL_heavyAt_r3 ++ (wsL_heavyAt_r4 ++ (wsL_heavyAt_r5 ++ wsL_heavyAt_r6))))) ++ wsX40 ++ wsX30 ++ wsX00 ++ wsX20 ++ (vx_at0 RX4 109 "java/util/NoSuchElementException" ["java/lang/RuntimeException", "java/lang/Exception"]).filter goodWord)
set_option maxRecDepth 20000 in
theorem ggL_at_X4_at : GoodIn wsL_at wsX4_at := goodIn_ca (goodIn_r _ [6, 7, 8, 9, 10, 11, 12, 13, 14, 15, 16, 17, 18, 19, 20, 21, 22, 23, 24, 25, 26, 27] rfl (by decide +kernel)) (goodIn_sub (fun _ h => List.mem_cons_of_mem _ (List.mem_append_right _ h)) (by decide +kernel))
set_option maxRecDepth 20000 in
theorem gL_at_X4_at : GoodIn wsL_at (wsV RL 7 RX4 yX4_at wsX4_at) := goodIn_app (goodIn_r _ [2, 3, 4, 5] rfl (by decide +kernel)) ggL_at_X4_at
def dt_cL_at_0 : List (Nat × Nat × Nat × Nat) := [(0, 44, 0, 0), (1, 3, 0, 0), (2, 42, 0, 0), (3, 27, 0, 0), (4, 182, 2, 7), (7, 133, 0, 0), (8, 80, 0, 0), (9, 167, 2, 6), (12, 78, 0, 0), (13, 4, 0, 0), (14, 172, 0, 0), (15, 3, 0, 0), (16, 172, 0, 0)]
theorem da_cL_at_0 : fw dt_cL_at_0 0 cL_at.data.toList = true := by decide +kernel
theorem dL_at_0 : decode cL_at 0 = .ok (.aload_n 2, 1) := fo_44 (fw_get da_cL_at_0 0 rfl)
theorem dL_at_1 : decode cL_at 1 = .ok (.iconst 0, 1) := fo_3 (fw_get da_cL_at_0 1 rfl)
theorem dL_at_2 : decode cL_at 2 = .ok (.aload_n 0, 1) := fo_42 (fw_get da_cL_at_0 2 rfl)
theorem dL_at_3 : decode cL_at 3 = .ok (.iload_n 1, 1) := fo_27 (fw_get da_cL_at_0 3 rfl)
theorem dL_at_4 : decode cL_at 4 = .ok (.invokevirtual 7, 3) := fo_182 (fw_get da_cL_at_0 4 rfl)
theorem dL_at_7 : decode cL_at 7 = .ok (.i2l, 1) := fo_133 (fw_get da_cL_at_0 5 rfl)
theorem dL_at_8 : decode cL_at 8 = .ok (.lastore, 1) := fo_80 (fw_get da_cL_at_0 6 rfl)
theorem dL_at_9 : decode cL_at 9 = .ok (.goto 6, 3) := fo_167 (fw_get da_cL_at_0 7 rfl) (by decide +kernel)
theorem dL_at_12 : decode cL_at 12 = .ok (.astore_n 3, 1) := fo_78 (fw_get da_cL_at_0 8 rfl)
theorem dL_at_13 : decode cL_at 13 = .ok (.iconst 1, 1) := fo_4 (fw_get da_cL_at_0 9 rfl)
theorem dL_at_14 : decode cL_at 14 = .ok (.ireturn, 1) := fo_172 (fw_get da_cL_at_0 10 rfl)
theorem dL_at_15 : decode cL_at 15 = .ok (.iconst 0, 1) := fo_3 (fw_get da_cL_at_0 11 rfl)
theorem dL_at_16 : decode cL_at 16 = .ok (.ireturn, 1) := fo_172 (fw_get da_cL_at_0 12 rfl)
set_option maxRecDepth 20000 in
theorem ggL_vote_X4_vote : GoodIn wsL_vote wsX4_vote := goodIn_ca (goodIn_r _ [6, 7, 8, 9, 10, 11, 12, 13, 14, 15, 16, 17, 18, 19, 20, 21, 22, 5, 23, 24, 25, 26, 27, 28, 29, 30, 31, 32, 33, 34, 35, 36, 37, 38, 39, 40, 41, 42, 43, 44, 45, 46, 47, 48, 49, 50, 51, 52, 53, 54, 55, 56, 57, 58, 59, 60, 61, 62, 63, 64, 65, 66, 67, 68, 69, 70, 71, 72, 73, 74, 75, 76, 77, 78, 79, 80, 81, 82, 83, 84, 85, 86, 87, 88, 89, 90, 91, 92, 93, 94, 95, 96, 97, 98, 99, 100, 101, 102, 103, 104, 105, 106, 107, 108, 109, 110, 111, 112, 113, 114, 115, 116, 117, 118, 119, 120, 121, 122, 123, 124, 125, 126, 127, 128, 129, 130, 131, 132, 133, 134, 135, 136, 137, 138, 139, 140, 141, 142, 143, 144, 145, 146, 147, 148] rfl (by decide +kernel)) (goodIn_sub (fun _ h => List.mem_cons_of_mem _ (List.mem_append_right _ h)) (by decide +kernel))
set_option maxRecDepth 20000 in
theorem gL_vote_X4_vote : GoodIn wsL_vote (wsV RL 15 RX4 yX4_vote wsX4_vote) := goodIn_app (goodIn_r _ [2, 3, 4, 5] rfl (by decide +kernel)) ggL_vote_X4_vote
def dt_cL_vote_0 : List (Nat × Nat × Nat × Nat) := [(0, 25, 1, 5), (2, 3, 0, 0), (3, 42, 0, 0), (4, 27, 0, 0), (5, 28, 0, 0), (6, 29, 0, 0), (7, 21, 1, 4), (9, 182, 2, 15), (12, 133, 0, 0), (13, 80, 0, 0), (14, 167, 2, 7), (17, 58, 1, 6), (19, 4, 0, 0), (20, 172, 0, 0), (21, 3, 0, 0), (22, 172, 0, 0)]
theorem da_cL_vote_0 : fw dt_cL_vote_0 0 cL_vote.data.toList = true := by decide +kernel
theorem dL_vote_0 : decode cL_vote 0 = .ok (.aload 5, 2) := fo_25 (fw_get da_cL_vote_0 0 rfl)
theorem dL_vote_2 : decode cL_vote 2 = .ok (.iconst 0, 1) := fo_3 (fw_get da_cL_vote_0 1 rfl)
theorem dL_vote_3 : decode cL_vote 3 = .ok (.aload_n 0, 1) := fo_42 (fw_get da_cL_vote_0 2 rfl)
theorem dL_vote_4 : decode cL_vote 4 = .ok (.iload_n 1, 1) := fo_27 (fw_get da_cL_vote_0 3 rfl)
theorem dL_vote_5 : decode cL_vote 5 = .ok (.iload_n 2, 1) := fo_28 (fw_get da_cL_vote_0 4 rfl)
theorem dL_vote_6 : decode cL_vote 6 = .ok (.iload_n 3, 1) := fo_29 (fw_get da_cL_vote_0 5 rfl)
theorem dL_vote_7 : decode cL_vote 7 = .ok (.iload 4, 2) := fo_21 (fw_get da_cL_vote_0 6 rfl)
theorem dL_vote_9 : decode cL_vote 9 = .ok (.invokevirtual 15, 3) := fo_182 (fw_get da_cL_vote_0 7 rfl)
theorem dL_vote_12 : decode cL_vote 12 = .ok (.i2l, 1) := fo_133 (fw_get da_cL_vote_0 8 rfl)
theorem dL_vote_13 : decode cL_vote 13 = .ok (.lastore, 1) := fo_80 (fw_get da_cL_vote_0 9 rfl)
theorem dL_vote_14 : decode cL_vote 14 = .ok (.goto 7, 3) := fo_167 (fw_get da_cL_vote_0 10 rfl) (by decide +kernel)
theorem dL_vote_17 : decode cL_vote 17 = .ok (.astore 6, 2) := fo_58 (fw_get da_cL_vote_0 11 rfl)
theorem dL_vote_19 : decode cL_vote 19 = .ok (.iconst 1, 1) := fo_4 (fw_get da_cL_vote_0 12 rfl)
theorem dL_vote_20 : decode cL_vote 20 = .ok (.ireturn, 1) := fo_172 (fw_get da_cL_vote_0 13 rfl)
theorem dL_vote_21 : decode cL_vote 21 = .ok (.iconst 0, 1) := fo_3 (fw_get da_cL_vote_0 14 rfl)
theorem dL_vote_22 : decode cL_vote 22 = .ok (.ireturn, 1) := fo_172 (fw_get da_cL_vote_0 15 rfl)
set_option maxRecDepth 20000 in
theorem ggL_candidate_X4_candidate : GoodIn wsL_candidate wsX4_candidate := goodIn_ca (goodIn_r _ [6, 7, 8, 9, 10, 11, 12, 13, 14, 15, 16, 17, 18, 19, 20, 21, 22, 5, 23, 24, 25, 26, 27, 28, 29, 30, 31, 32, 33, 34, 35, 36, 37, 38, 39, 40, 41, 42, 43, 44, 45, 46, 47, 48, 49, 50, 51, 52, 53, 54, 55, 56, 57, 58, 59, 60, 61, 62, 63, 64, 65, 66, 67, 68, 69, 70, 71, 72, 73, 74, 75, 76, 77, 78, 79, 80, 81, 82, 83, 84, 85, 86, 87, 88, 89, 90, 91, 92, 93, 94, 95, 96, 97, 98, 99, 100, 101, 102, 103, 104, 105, 106, 107, 108, 109, 110, 111, 112, 113, 114, 115, 116, 117, 118, 119, 120, 121, 122, 123, 124, 125, 126, 127, 128, 129, 130, 131, 132, 133, 134, 135, 136, 137, 138, 139, 140, 141, 142, 143, 144, 145, 146, 147, 148, 149, 150, 151, 152, 153] rfl (by decide +kernel)) (goodIn_sub (fun _ h => List.mem_cons_of_mem _ (List.mem_append_right _ h)) (by decide +kernel))
set_option maxRecDepth 20000 in
theorem gL_candidate_X4_candidate : GoodIn wsL_candidate (wsV RL 19 RX4 yX4_candidate wsX4_candidate) := goodIn_app (goodIn_r _ [2, 3, 4, 5] rfl (by decide +kernel)) ggL_candidate_X4_candidate
def dt_cL_candidate_0 : List (Nat × Nat × Nat × Nat) := [(0, 25, 1, 5), (2, 3, 0, 0), (3, 42, 0, 0), (4, 27, 0, 0), (5, 28, 0, 0), (6, 29, 0, 0), (7, 21, 1, 4), (9, 182, 2, 19), (12, 133, 0, 0), (13, 80, 0, 0), (14, 167, 2, 7), (17, 58, 1, 6), (19, 4, 0, 0), (20, 172, 0, 0), (21, 3, 0, 0), (22, 172, 0, 0)]
theorem da_cL_candidate_0 : fw dt_cL_candidate_0 0 cL_candidate.data.toList = true := by decide +kernel
theorem dL_candidate_0 : decode cL_candidate 0 = .ok (.aload 5, 2) := fo_25 (fw_get da_cL_candidate_0 0 rfl)
theorem dL_candidate_2 : decode cL_candidate 2 = .ok (.iconst 0, 1) := fo_3 (fw_get da_cL_candidate_0 1 rfl)
theorem dL_candidate_3 : decode cL_candidate 3 = .ok (.aload_n 0, 1) := fo_42 (fw_get da_cL_candidate_0 2 rfl)
theorem dL_candidate_4 : decode cL_candidate 4 = .ok (.iload_n 1, 1) := fo_27 (fw_get da_cL_candidate_0 3 rfl)
theorem dL_candidate_5 : decode cL_candidate 5 = .ok (.iload_n 2, 1) := fo_28 (fw_get da_cL_candidate_0 4 rfl)
theorem dL_candidate_6 : decode cL_candidate 6 = .ok (.iload_n 3, 1) := fo_29 (fw_get da_cL_candidate_0 5 rfl)
theorem dL_candidate_7 : decode cL_candidate 7 = .ok (.iload 4, 2) := fo_21 (fw_get da_cL_candidate_0 6 rfl)
theorem dL_candidate_9 : decode cL_candidate 9 = .ok (.invokevirtual 19, 3) := fo_182 (fw_get da_cL_candidate_0 7 rfl)
theorem dL_candidate_12 : decode cL_candidate 12 = .ok (.i2l, 1) := fo_133 (fw_get da_cL_candidate_0 8 rfl)
theorem dL_candidate_13 : decode cL_candidate 13 = .ok (.lastore, 1) := fo_80 (fw_get da_cL_candidate_0 9 rfl)
theorem dL_candidate_14 : decode cL_candidate 14 = .ok (.goto 7, 3) := fo_167 (fw_get da_cL_candidate_0 10 rfl) (by decide +kernel)
theorem dL_candidate_17 : decode cL_candidate 17 = .ok (.astore 6, 2) := fo_58 (fw_get da_cL_candidate_0 11 rfl)
theorem dL_candidate_19 : decode cL_candidate 19 = .ok (.iconst 1, 1) := fo_4 (fw_get da_cL_candidate_0 12 rfl)
theorem dL_candidate_20 : decode cL_candidate 20 = .ok (.ireturn, 1) := fo_172 (fw_get da_cL_candidate_0 13 rfl)
theorem dL_candidate_21 : decode cL_candidate 21 = .ok (.iconst 0, 1) := fo_3 (fw_get da_cL_candidate_0 14 rfl)
theorem dL_candidate_22 : decode cL_candidate 22 = .ok (.ireturn, 1) := fo_172 (fw_get da_cL_candidate_0 15 rfl)
set_option maxRecDepth 20000 in
theorem ggL_heavyAt_X4_heavyAt : GoodIn wsL_heavyAt wsX4_heavyAt := goodIn_ca (goodIn_r _ [6, 7, 8, 9, 10, 11, 12, 13, 14, 15, 16, 17, 18, 19, 20, 21, 5, 22, 23, 24, 25, 26, 27, 28, 29, 30, 31, 32, 33, 34, 35, 36, 37, 38, 39, 40, 41, 42, 43, 44, 45, 46, 47, 48, 49, 50, 51, 52, 53, 54, 55, 56, 57, 58, 59, 60, 61, 62, 63, 64, 65, 66, 67, 68, 69, 70, 71, 72, 73, 74, 75, 76, 77, 78, 79, 80, 81, 82, 83, 84, 85, 86, 87, 88, 89, 90, 91, 92, 93, 94, 95, 96, 97, 98, 99, 100, 101, 102, 103, 104, 105, 106, 107, 108, 109, 110, 111, 112, 113, 114, 115, 116, 117, 118, 119, 120, 121, 122, 123, 124, 125, 126, 127, 128, 129, 130, 131, 132, 133, 134, 135, 136, 137, 138, 139, 140, 141, 142, 143, 144, 145, 146, 147, 148, 149, 150, 151, 152, 153, 154, 155, 156, 157, 158, 159, 160, 161, 162, 163, 164, 165, 166, 167, 168, 169, 170] rfl (by decide +kernel)) (goodIn_sub (fun _ h => List.mem_cons_of_mem _ (List.mem_append_right _ h)) (by decide +kernel))
set_option maxRecDepth 20000 in
theorem gL_heavyAt_X4_heavyAt : GoodIn wsL_heavyAt (wsV RL 22 RX4 yX4_heavyAt wsX4_heavyAt) := goodIn_app (goodIn_r _ [2, 3, 4, 5] rfl (by decide +kernel)) ggL_heavyAt_X4_heavyAt
def dt_cL_heavyAt_0 : List (Nat × Nat × Nat × Nat) := [(0, 25, 1, 7), (2, 3, 0, 0), (3, 42, 0, 0), (4, 27, 0, 0), (5, 28, 0, 0), (6, 29, 0, 0), (7, 21, 1, 4), (9, 21, 1, 5), (11, 21, 1, 6), (13, 182, 2, 22), (16, 133, 0, 0), (17, 80, 0, 0), (18, 167, 2, 7), (21, 58, 1, 8), (23, 4, 0, 0), (24, 172, 0, 0), (25, 3, 0, 0), (26, 172, 0, 0)]
theorem da_cL_heavyAt_0 : fw dt_cL_heavyAt_0 0 cL_heavyAt.data.toList = true := by decide +kernel
theorem dL_heavyAt_0 : decode cL_heavyAt 0 = .ok (.aload 7, 2) := fo_25 (fw_get da_cL_heavyAt_0 0 rfl)
theorem dL_heavyAt_2 : decode cL_heavyAt 2 = .ok (.iconst 0, 1) := fo_3 (fw_get da_cL_heavyAt_0 1 rfl)
theorem dL_heavyAt_3 : decode cL_heavyAt 3 = .ok (.aload_n 0, 1) := fo_42 (fw_get da_cL_heavyAt_0 2 rfl)
theorem dL_heavyAt_4 : decode cL_heavyAt 4 = .ok (.iload_n 1, 1) := fo_27 (fw_get da_cL_heavyAt_0 3 rfl)
theorem dL_heavyAt_5 : decode cL_heavyAt 5 = .ok (.iload_n 2, 1) := fo_28 (fw_get da_cL_heavyAt_0 4 rfl)
theorem dL_heavyAt_6 : decode cL_heavyAt 6 = .ok (.iload_n 3, 1) := fo_29 (fw_get da_cL_heavyAt_0 5 rfl)
theorem dL_heavyAt_7 : decode cL_heavyAt 7 = .ok (.iload 4, 2) := fo_21 (fw_get da_cL_heavyAt_0 6 rfl)
theorem dL_heavyAt_9 : decode cL_heavyAt 9 = .ok (.iload 5, 2) := fo_21 (fw_get da_cL_heavyAt_0 7 rfl)
theorem dL_heavyAt_11 : decode cL_heavyAt 11 = .ok (.iload 6, 2) := fo_21 (fw_get da_cL_heavyAt_0 8 rfl)
theorem dL_heavyAt_13 : decode cL_heavyAt 13 = .ok (.invokevirtual 22, 3) := fo_182 (fw_get da_cL_heavyAt_0 9 rfl)
theorem dL_heavyAt_16 : decode cL_heavyAt 16 = .ok (.i2l, 1) := fo_133 (fw_get da_cL_heavyAt_0 10 rfl)
theorem dL_heavyAt_17 : decode cL_heavyAt 17 = .ok (.lastore, 1) := fo_80 (fw_get da_cL_heavyAt_0 11 rfl)
theorem dL_heavyAt_18 : decode cL_heavyAt 18 = .ok (.goto 7, 3) := fo_167 (fw_get da_cL_heavyAt_0 12 rfl) (by decide +kernel)
theorem dL_heavyAt_21 : decode cL_heavyAt 21 = .ok (.astore 8, 2) := fo_58 (fw_get da_cL_heavyAt_0 13 rfl)
theorem dL_heavyAt_23 : decode cL_heavyAt 23 = .ok (.iconst 1, 1) := fo_4 (fw_get da_cL_heavyAt_0 14 rfl)
theorem dL_heavyAt_24 : decode cL_heavyAt 24 = .ok (.ireturn, 1) := fo_172 (fw_get da_cL_heavyAt_0 15 rfl)
theorem dL_heavyAt_25 : decode cL_heavyAt 25 = .ok (.iconst 0, 1) := fo_3 (fw_get da_cL_heavyAt_0 16 rfl)
theorem dL_heavyAt_26 : decode cL_heavyAt 26 = .ok (.ireturn, 1) := fo_172 (fw_get da_cL_heavyAt_0 17 rfl)


set_option maxHeartbeats 4000000 in
set_option maxRecDepth 100000 in
theorem c_L_at (l : Launch) (hl0 : l.stackTraces = false) (dC : Nat → ClassId) (dI : Nat → Nat → Nat) (m_ : Nat) (q_row : Nat) (q_t : Nat) (t_ : Nat) (h0 : Nat) (k0 : Nat) (w_ : Nat) (z_ : Nat) (slots : Int32) (old : Int32) (q_cell : Nat) (cyI : ClassId) (len : Int32) (f : Nat → Int32) (p0 : Int32) (cyL : ClassId) (ho : Nat) (ol : Nat → Int64) (sz : Nat) (a0 : 0 ≤ len.toInt) (a1 : len.toInt ≤ 160) : Met l yL_at wsL_at ({ frames := 9, cells := 1, slots := 6, locals := 405 }) (va_Pc [.ref m_, .int p0, .ref ho] (fun U => U.heap.size = sz ∧ va_P (dC, dI) vwCl [kx_4 m_ q_row q_t t_ h0 k0 w_ z_ slots old, kx_0 q_row q_cell len, kx_a q_cell cyI 160 f, (ho, .inl (cyL, 1, .inr (.inl ol)))] U.heap ∧ va_K (dC, dI) vwCl [(cyI, .int), (cyL, .long)] U ∧ va_D (fun _ => True) [kx_4 m_ q_row q_t t_ h0 k0 w_ z_ slots old, kx_0 q_row q_cell len, kx_a q_cell cyI 160 f, (ho, .inl (cyL, 1, .inr (.inl ol)))] ∧ ki_ThA (va_A [kx_4 m_ q_row q_t t_ h0 k0 w_ z_ slots old, kx_0 q_row q_cell len, kx_a q_cell cyI 160 f, (ho, .inl (cyL, 1, .inr (.inl ol)))] sz) U)) (va_Qi (fun (r : Int32) (u : (Nat → Int64) × Int32) => ((r = 0 ∧ (0 ≤ p0.toInt ∧ p0.toInt < len.toInt ∧ u.2 = f p0.toNatClampNeg) ∧ u.1 = vp_updL ol (0 : Int32).toNatClampNeg u.2.toInt64) ∨ (r = 1 ∧ ((p0.toInt < 0 ∨ len.toInt ≤ p0.toInt))))) (fun (u : (Nat → Int64) × Int32) (t : State) => va_P (dC, dI) vwCl [kx_4 m_ q_row q_t t_ h0 k0 w_ z_ slots old, kx_0 q_row q_cell len, kx_a q_cell cyI 160 f, (ho, .inl (cyL, 1, .inr (.inl u.1)))] t.heap ∧ va_K (dC, dI) vwCl [(cyI, .int), (cyL, .long)] t ∧ va_D (va_A [kx_4 m_ q_row q_t t_ h0 k0 w_ z_ slots old, kx_0 q_row q_cell len, kx_a q_cell cyI 160 f, (ho, .inl (cyL, 1, .inr (.inl ol)))] sz) [kx_4 m_ q_row q_t t_ h0 k0 w_ z_ slots old, kx_0 q_row q_cell len, kx_a q_cell cyI 160 f, (ho, .inl (cyL, 1, .inr (.inl u.1)))]) (va_A [kx_4 m_ q_row q_t t_ h0 k0 w_ z_ slots old, kx_0 q_row q_cell len, kx_a q_cell cyI 160 f, (ho, .inl (cyL, 1, .inr (.inl ol)))] sz)) 1 6 (va_A [kx_4 m_ q_row q_t t_ h0 k0 w_ z_ slots old, kx_0 q_row q_cell len, kx_a q_cell cyI 160 f, (ho, .inl (cyL, 1, .inr (.inl ol)))] sz) := by
  refine va_MetW (cc := cL_at) (maxL := 4) (ret := (some .int)) (hh := [(0, 9, 12, 13)]) (by decide) rfl ?_
  intro p e s m args below meth c s₁ B hml hv
  obtain ⟨rfl, hsz, hP, hK, hD0, hth⟩ := hv
  have hx := B.exec
  have hb := B.bytes
  have hr := B.returns
  have hts := atoms_spec (ws := wsL_at) B.pre
  have hown : s.vm.findClass RL = some m.cls := findClass_of_methodNamed B.named
  have hlocks := B.notSynchronized
  have htb : c.exceptionTable.toList = tableOf [(0, 9, 12, 13)] := vx_table (x := yL_at) B (hts (.codeWith yL_at cL_at 4 (some .int) [(0, 9, 12, 13)]) List.mem_cons_self)
  subst hsz
  have hD := hD0.self (sz := s.heap.size)
  generalize hAe : va_A [kx_4 m_ q_row q_t t_ h0 k0 w_ z_ slots old, kx_0 q_row q_cell len, kx_a q_cell cyI 160 f, (ho, .inl (cyL, 1, .inr (.inl ol)))] s.heap.size = A at hD hth ⊢
  have hA : ∀ q : Nat, s.heap.size ≤ q → A q := fun q h => by rw [← hAe]; exact Or.inr h
  have hS : va_S A s.heap s.heap [] := va_S.rf
  have hP : va_P (dC, dI) vwCl [kx_4 m_ q_row q_t t_ h0 k0 w_ z_ slots old, kx_0 q_row q_cell len, kx_a q_cell cyI 160 f, (ho, .inl (cyL, 1, .inr (.inl ol)))] s.heap := hP
  have hl := lv_entry ([.ref m_, .int p0, .ref ho]) (n := 4) (Nat.le_of_ble_eq_true rfl)
  rw [lg_entry_eq]
  generalize (lg_sl ([.ref m_, .int p0, .ref ho]) ++ List.replicate (4 - (lg_sl ([.ref m_, .int p0, .ref ho])).length) Slot.unset).toArray = ls at hl ⊢
  have hl : lv_has ls 4 [(0, .ref m_), (1, .int p0), (2, .ref ho)] := hl
  refine lv_aload_n hx hb dL_at_0 rfl (lv_at hl 2 rfl) ?_
  refine lv_iconst (v := 0) hx hb dL_at_1 (by decide) ?_
  refine lv_aload_n hx hb dL_at_2 rfl (lv_at hl 0 rfl) ?_
  refine lv_iload_n hx hb dL_at_3 rfl (lv_at hl 1 rfl) ?_
  have hPc := hP.sub (ws' := [kx_4 m_ q_row q_t t_ h0 k0 w_ z_ slots old, kx_0 q_row q_cell len, kx_a q_cell cyI 160 f]) [0, 1, 2] rfl
  have hKc := hK.sub (tys' := [(cyI, .int)]) [0] rfl
  have hDc := hD.sub (ws' := [kx_4 m_ q_row q_t t_ h0 k0 w_ z_ slots old, kx_0 q_row q_cell len, kx_a q_cell cyI 160 f]) [0, 1, 2] (by decide) rfl
  have hFc := va_free (wc := [kx_4 m_ q_row q_t t_ h0 k0 w_ z_ slots old, kx_0 q_row q_cell len, kx_a q_cell cyI 160 f]) hD hS hA [0, 1, 2] rfl
  refine vx_calli (vx_runV (As := [.int p0]) (rest := [.int 0, .ref ho]) ⟨hx, hb, hml, hown, hts⟩ (c_X4_at l hl0 dC dI m_ q_row q_t t_ h0 k0 w_ z_ slots old q_cell cyI len f p0 s.heap.size a0 a1) (cwV 1 hts gL_at_X4_at rfl rfl rfl (by decide +kernel) ⟨Nat.le_of_ble_eq_true rfl, Nat.le_of_ble_eq_true rfl⟩) ⟨fun a U g mk q => by obtain ⟨q0, q1, qP, qK, qD, qT⟩ := q; exact ⟨q0, q1, qP, va_K.moved (u := U) (U := U.calling g mk a) (Vm.Alike.refl U.vm) qK, qD, qT.call g mk a⟩, va_recv hKc hPc (ci := 4) (q0 := 0) rfl rfl, fun U hU hW => ⟨rfl, by rw [hU], by rw [hU]; exact hPc, va_K.moved hW.alike hKc, hDc.weaken (fun _ _ _ _ => trivial), hth.from hS hU hW hFc⟩⟩ rfl rfl hl.1 rfl (lv_room (Nat.le_of_ble_eq_true rfl)) dL_at_4 ⟨Nat.le_of_ble_eq_true rfl, Nat.le_of_ble_eq_true rfl⟩) hS (fun q _ h => hFc q h) hFc (fun q _ h => hFc q h) (fun E ce q9 u t H1 locs ht hvm w_1 hB hz1 hk1 hS hce hcv hcl => ?_) (fun r_1 u t H1 locs ht hvm w_1 hB hz1 hk1 hS => ?_)
  · obtain ⟨hE, hP1, hK1, hD1⟩ := hB
    subst hE
    rw [ht] at hP1
    have hK1 := va_K.moved hvm.symm hK1
    obtain ⟨hP, hD⟩ := va_join (wr := [(ho, .inl (cyL, 1, .inr (.inl ol)))]) (w1 := [kx_4 m_ q_row q_t t_ h0 k0 w_ z_ slots old, kx_0 q_row q_cell len, kx_a q_cell cyI 160 f]) hP hD [0, 1, 2] [3] rfl rfl (by decide) (by decide) hk1 hFc hP1 hD1
    clear hP1 hD1 hK1 hk1 hz1 hFc hDc hPc hKc
    generalize H1 = H at hP hS hce ⊢
    obtain ⟨hP, hD⟩ := kx_re (w2 := [(ho, .inl (cyL, 1, .inr (.inl ol))), kx_4 m_ q_row q_t t_ h0 k0 w_ z_ slots old, kx_0 q_row q_cell len, kx_a q_cell cyI 160 f]) hP hD rfl
    refine vx_catch hown [] ⟨0, 9, 12, 13⟩ [] htb (fun z hz => by cases hz) (by decide) (by decide) (hts (.classLink RL 13 EXN) (by decide +kernel)) (va_Nw.use rfl hth.1.1) hce hcv hcl ?_
    refine W.eq (g2 := F0 m 12 ls [.ref q9]) rfl ?_
    have w_1 : (p0.toInt < 0 ∨ len.toInt ≤ p0.toInt) := w_1
    refine W.widen (k := 1) (n := 6) (Nat.le_of_ble_eq_true rfl) (Nat.le_of_ble_eq_true rfl) ?_
    refine lv_astore_n (lv' := [(3, .ref q9), (0, .ref m_), (1, .int p0), (2, .ref ho)]) hx hb dL_at_12 rfl hl (by decide) rfl (fun ls hl => ?_)
    refine lv_iconst (v := 1) hx hb dL_at_13 (by decide) ?_
    obtain ⟨hP9, hD9⟩ := kx_sub (w2 := [kx_4 m_ q_row q_t t_ h0 k0 w_ z_ slots old, kx_0 q_row q_cell len, kx_a q_cell cyI 160 f, (ho, .inl (cyL, 1, .inr (.inl ol)))]) hP hD [1, 2, 3, 0] (by decide) rfl
    have hK9 := hK
    exact W.iret (v := 1) hx hb hr (fun t ht hW => ⟨⟨1, (ol, (0 : Int32)), rfl, (Or.inr ⟨rfl, w_1⟩), by rw [ht]; exact hP9, va_K.moved hW.alike hK9, hD9⟩, hS.F ht⟩) hS.2.2 dL_at_14
  · obtain ⟨hP1, hK1, hD1⟩ := hB
    rw [ht] at hP1
    have hK1 := va_K.moved hvm.symm hK1
    obtain ⟨hP, hD⟩ := va_join (wr := [(ho, .inl (cyL, 1, .inr (.inl ol)))]) (w1 := [kx_4 m_ q_row q_t t_ h0 k0 w_ z_ slots old, kx_0 q_row q_cell len, kx_a q_cell cyI 160 f]) hP hD [0, 1, 2] [3] rfl rfl (by decide) (by decide) hk1 hFc hP1 hD1
    clear hP1 hD1 hK1 hk1 hz1 hFc hDc hPc hKc
    generalize H1 = H at hP hS ⊢
    obtain ⟨hP, hD⟩ := kx_re (w2 := [(ho, .inl (cyL, 1, .inr (.inl ol))), kx_4 m_ q_row q_t t_ h0 k0 w_ z_ slots old, kx_0 q_row q_cell len, kx_a q_cell cyI 160 f]) hP hD rfl
    have w_1 : 0 ≤ p0.toInt ∧ p0.toInt < len.toInt ∧ r_1 = f p0.toNatClampNeg := w_1
    refine W.widen (k := 1) (n := 6) (Nat.le_of_ble_eq_true rfl) (Nat.le_of_ble_eq_true rfl) ?_
    refine lv_i2l hx hb dL_at_7 rfl ?_
    refine va_last hx hb hK hP hD hS 0 1 rfl rfl (ki_inl (by decide)) dL_at_8 (fun H locs hP hD hS => ?_)
    obtain ⟨hP, hD⟩ := kx_re (w2 := [(ho, .inl (cyL, 1, .inr (.inl (vp_updL ol (0 : Int32).toNatClampNeg r_1.toInt64)))), kx_4 m_ q_row q_t t_ h0 k0 w_ z_ slots old, kx_0 q_row q_cell len, kx_a q_cell cyI 160 f]) hP hD rfl
    refine lv_goto (tgt := 15) hx hb dL_at_9 (by decide) ?_
    refine lv_iconst (v := 0) hx hb dL_at_15 (by decide) ?_
    obtain ⟨hP9, hD9⟩ := kx_sub (w2 := [kx_4 m_ q_row q_t t_ h0 k0 w_ z_ slots old, kx_0 q_row q_cell len, kx_a q_cell cyI 160 f, (ho, .inl (cyL, 1, .inr (.inl (vp_updL ol (0 : Int32).toNatClampNeg r_1.toInt64))))]) hP hD [1, 2, 3, 0] (by decide) rfl
    have hK9 := hK
    exact W.iret (v := 0) hx hb hr (fun t ht hW => ⟨⟨0, ((vp_updL ol (0 : Int32).toNatClampNeg r_1.toInt64), r_1), rfl, (Or.inl ⟨rfl, w_1, rfl⟩), by rw [ht]; exact hP9, va_K.moved hW.alike hK9, hD9⟩, hS.F ht⟩) hS.2.2 dL_at_16

set_option maxHeartbeats 4000000 in
set_option maxRecDepth 100000 in
theorem c_L_vote (l : Launch) (hl0 : l.stackTraces = false) (dC : Nat → ClassId) (dI : Nat → Nat → Nat) (m_ : Nat) (q_row : Nat) (q_t : Nat) (t_ : Nat) (h0 : Nat) (k0 : Nat) (w_ : Nat) (z_ : Nat) (slots : Int32) (old : Int32) (q_joined : Nat) (q_from : Nat) (q_to : Nat) (q_size : Nat) (q_lossOf : Nat) (q_lessBy : Nat) (q_value : Nat) (q_number : Nat) (nodes : Int32) (here : Int32) (q_cell : Nat) (cyI : ClassId) (len : Int32) (f : Nat → Int32) (ff : Nat → Int32) (ft : Nat → Int32) (fs : Nat → Int32) (fo : Nat → Int32) (uv : Nat → Int32) (un : Nat → Int32) (fe : Nat → Int32) (j_v : Nat) (j_n : Nat) (js : Int32) (jl : Int32) (je : Int32) (jv : Nat → Int32) (jn : Nat → Int32) (a_v : Nat) (a_n : Nat) (vs : Int32) (lo : Int32) (le : Int32) (fv : Nat → Int32) (fn : Nat → Int32) (p0 : Int32) (p1 : Int32) (p2 : Int32) (p3 : Int32) (cyL : ClassId) (ho : Nat) (ol : Nat → Int64) (sz : Nat) (a0 : 0 ≤ len.toInt) (a1 : len.toInt ≤ 160) (s0 : sixes fs) (l0 : laidP old ff ft nodes len) : Met l yL_vote wsL_vote ({ frames := 9, cells := 1, slots := 6, locals := 405 }) (va_Pc [.ref m_, .int p0, .int p1, .int p2, .int p3, .ref ho] (fun U => U.heap.size = sz ∧ va_P (dC, dI) vwCl [kx_4 m_ q_row q_t t_ h0 k0 w_ z_ slots old, kx_2 q_t q_row q_joined q_from q_to q_size q_lossOf q_lessBy q_value q_number nodes here, kx_0 q_row q_cell len, kx_a q_cell cyI 160 f, kx_a q_from cyI 319 ff, kx_a q_to cyI 319 ft, kx_a q_size cyI 319 fs, kx_a q_lossOf cyI 319 fo, kx_a q_lessBy cyI 319 fe, kx_a q_value cyI 1914 uv, kx_a q_number cyI 1914 un, kx_3 q_joined j_v j_n js jl je, kx_a j_v cyI 12 jv, kx_a j_n cyI 12 jn, kx_3 h0 a_v a_n vs lo le, kx_a a_v cyI 12 fv, kx_a a_n cyI 12 fn, (ho, .inl (cyL, 1, .inr (.inl ol)))] U.heap ∧ va_K (dC, dI) vwCl [(cyI, .int), (cyL, .long)] U ∧ va_D (fun _ => True) [kx_4 m_ q_row q_t t_ h0 k0 w_ z_ slots old, kx_2 q_t q_row q_joined q_from q_to q_size q_lossOf q_lessBy q_value q_number nodes here, kx_0 q_row q_cell len, kx_a q_cell cyI 160 f, kx_a q_from cyI 319 ff, kx_a q_to cyI 319 ft, kx_a q_size cyI 319 fs, kx_a q_lossOf cyI 319 fo, kx_a q_lessBy cyI 319 fe, kx_a q_value cyI 1914 uv, kx_a q_number cyI 1914 un, kx_3 q_joined j_v j_n js jl je, kx_a j_v cyI 12 jv, kx_a j_n cyI 12 jn, kx_3 h0 a_v a_n vs lo le, kx_a a_v cyI 12 fv, kx_a a_n cyI 12 fn, (ho, .inl (cyL, 1, .inr (.inl ol)))] ∧ ki_ThA (va_A [kx_4 m_ q_row q_t t_ h0 k0 w_ z_ slots old, kx_2 q_t q_row q_joined q_from q_to q_size q_lossOf q_lessBy q_value q_number nodes here, kx_0 q_row q_cell len, kx_a q_cell cyI 160 f, kx_a q_from cyI 319 ff, kx_a q_to cyI 319 ft, kx_a q_size cyI 319 fs, kx_a q_lossOf cyI 319 fo, kx_a q_lessBy cyI 319 fe, kx_a q_value cyI 1914 uv, kx_a q_number cyI 1914 un, kx_3 q_joined j_v j_n js jl je, kx_a j_v cyI 12 jv, kx_a j_n cyI 12 jn, kx_3 h0 a_v a_n vs lo le, kx_a a_v cyI 12 fv, kx_a a_n cyI 12 fn, (ho, .inl (cyL, 1, .inr (.inl ol)))] sz) U)) (va_Qi (fun (r : Int32) (u : Int32 × Int32 × Int32 × (Nat → Int32) × (Nat → Int32) × (Nat → Int32) × (Nat → Int32) × (Nat → Int32) × (Nat → Int32) × (Nat → Int32) × Int32 × Int32 × Int32 × (Nat → Int32) × (Nat → Int32) × Int32 × Int32 × Int32 × (Nat → Int32) × (Nat → Int32) × (Nat → Int64) × Int32) => ((r = 0 ∧ ((0 : Int) ≤ 1) ∧ u.2.2.2.2.2.2.2.2.2.2.2.2.2.2.2.2.2.2.2.2.1 = vp_updL ol (0 : Int32).toNatClampNeg u.2.2.2.2.2.2.2.2.2.2.2.2.2.2.2.2.2.2.2.2.2.toInt64) ∨ (r = 1 ∧ ((0 : Int) ≤ 1))) ∧ laidP u.1 u.2.2.2.1 u.2.2.2.2.1 u.2.1 len ∧ sixes u.2.2.2.2.2.1) (fun (u : Int32 × Int32 × Int32 × (Nat → Int32) × (Nat → Int32) × (Nat → Int32) × (Nat → Int32) × (Nat → Int32) × (Nat → Int32) × (Nat → Int32) × Int32 × Int32 × Int32 × (Nat → Int32) × (Nat → Int32) × Int32 × Int32 × Int32 × (Nat → Int32) × (Nat → Int32) × (Nat → Int64) × Int32) (t : State) => va_P (dC, dI) vwCl [kx_4 m_ q_row q_t t_ h0 k0 w_ z_ slots u.1, kx_2 q_t q_row q_joined q_from q_to q_size q_lossOf q_lessBy q_value q_number u.2.1 u.2.2.1, kx_0 q_row q_cell len, kx_a q_cell cyI 160 f, kx_a q_from cyI 319 u.2.2.2.1, kx_a q_to cyI 319 u.2.2.2.2.1, kx_a q_size cyI 319 u.2.2.2.2.2.1, kx_a q_lossOf cyI 319 u.2.2.2.2.2.2.1, kx_a q_lessBy cyI 319 u.2.2.2.2.2.2.2.1, kx_a q_value cyI 1914 u.2.2.2.2.2.2.2.2.1, kx_a q_number cyI 1914 u.2.2.2.2.2.2.2.2.2.1, kx_3 q_joined j_v j_n u.2.2.2.2.2.2.2.2.2.2.1 u.2.2.2.2.2.2.2.2.2.2.2.1 u.2.2.2.2.2.2.2.2.2.2.2.2.1, kx_a j_v cyI 12 u.2.2.2.2.2.2.2.2.2.2.2.2.2.1, kx_a j_n cyI 12 u.2.2.2.2.2.2.2.2.2.2.2.2.2.2.1, kx_3 h0 a_v a_n u.2.2.2.2.2.2.2.2.2.2.2.2.2.2.2.1 u.2.2.2.2.2.2.2.2.2.2.2.2.2.2.2.2.1 u.2.2.2.2.2.2.2.2.2.2.2.2.2.2.2.2.2.1, kx_a a_v cyI 12 u.2.2.2.2.2.2.2.2.2.2.2.2.2.2.2.2.2.2.1, kx_a a_n cyI 12 u.2.2.2.2.2.2.2.2.2.2.2.2.2.2.2.2.2.2.2.1, (ho, .inl (cyL, 1, .inr (.inl u.2.2.2.2.2.2.2.2.2.2.2.2.2.2.2.2.2.2.2.2.1)))] t.heap ∧ va_K (dC, dI) vwCl [(cyI, .int), (cyL, .long)] t ∧ va_D (va_A [kx_4 m_ q_row q_t t_ h0 k0 w_ z_ slots old, kx_2 q_t q_row q_joined q_from q_to q_size q_lossOf q_lessBy q_value q_number nodes here, kx_0 q_row q_cell len, kx_a q_cell cyI 160 f, kx_a q_from cyI 319 ff, kx_a q_to cyI 319 ft, kx_a q_size cyI 319 fs, kx_a q_lossOf cyI 319 fo, kx_a q_lessBy cyI 319 fe, kx_a q_value cyI 1914 uv, kx_a q_number cyI 1914 un, kx_3 q_joined j_v j_n js jl je, kx_a j_v cyI 12 jv, kx_a j_n cyI 12 jn, kx_3 h0 a_v a_n vs lo le, kx_a a_v cyI 12 fv, kx_a a_n cyI 12 fn, (ho, .inl (cyL, 1, .inr (.inl ol)))] sz) [kx_4 m_ q_row q_t t_ h0 k0 w_ z_ slots u.1, kx_2 q_t q_row q_joined q_from q_to q_size q_lossOf q_lessBy q_value q_number u.2.1 u.2.2.1, kx_0 q_row q_cell len, kx_a q_cell cyI 160 f, kx_a q_from cyI 319 u.2.2.2.1, kx_a q_to cyI 319 u.2.2.2.2.1, kx_a q_size cyI 319 u.2.2.2.2.2.1, kx_a q_lossOf cyI 319 u.2.2.2.2.2.2.1, kx_a q_lessBy cyI 319 u.2.2.2.2.2.2.2.1, kx_a q_value cyI 1914 u.2.2.2.2.2.2.2.2.1, kx_a q_number cyI 1914 u.2.2.2.2.2.2.2.2.2.1, kx_3 q_joined j_v j_n u.2.2.2.2.2.2.2.2.2.2.1 u.2.2.2.2.2.2.2.2.2.2.2.1 u.2.2.2.2.2.2.2.2.2.2.2.2.1, kx_a j_v cyI 12 u.2.2.2.2.2.2.2.2.2.2.2.2.2.1, kx_a j_n cyI 12 u.2.2.2.2.2.2.2.2.2.2.2.2.2.2.1, kx_3 h0 a_v a_n u.2.2.2.2.2.2.2.2.2.2.2.2.2.2.2.1 u.2.2.2.2.2.2.2.2.2.2.2.2.2.2.2.2.1 u.2.2.2.2.2.2.2.2.2.2.2.2.2.2.2.2.2.1, kx_a a_v cyI 12 u.2.2.2.2.2.2.2.2.2.2.2.2.2.2.2.2.2.2.1, kx_a a_n cyI 12 u.2.2.2.2.2.2.2.2.2.2.2.2.2.2.2.2.2.2.2.1, (ho, .inl (cyL, 1, .inr (.inl u.2.2.2.2.2.2.2.2.2.2.2.2.2.2.2.2.2.2.2.2.1)))]) (va_A [kx_4 m_ q_row q_t t_ h0 k0 w_ z_ slots old, kx_2 q_t q_row q_joined q_from q_to q_size q_lossOf q_lessBy q_value q_number nodes here, kx_0 q_row q_cell len, kx_a q_cell cyI 160 f, kx_a q_from cyI 319 ff, kx_a q_to cyI 319 ft, kx_a q_size cyI 319 fs, kx_a q_lossOf cyI 319 fo, kx_a q_lessBy cyI 319 fe, kx_a q_value cyI 1914 uv, kx_a q_number cyI 1914 un, kx_3 q_joined j_v j_n js jl je, kx_a j_v cyI 12 jv, kx_a j_n cyI 12 jn, kx_3 h0 a_v a_n vs lo le, kx_a a_v cyI 12 fv, kx_a a_n cyI 12 fn, (ho, .inl (cyL, 1, .inr (.inl ol)))] sz)) 1 6 (va_A [kx_4 m_ q_row q_t t_ h0 k0 w_ z_ slots old, kx_2 q_t q_row q_joined q_from q_to q_size q_lossOf q_lessBy q_value q_number nodes here, kx_0 q_row q_cell len, kx_a q_cell cyI 160 f, kx_a q_from cyI 319 ff, kx_a q_to cyI 319 ft, kx_a q_size cyI 319 fs, kx_a q_lossOf cyI 319 fo, kx_a q_lessBy cyI 319 fe, kx_a q_value cyI 1914 uv, kx_a q_number cyI 1914 un, kx_3 q_joined j_v j_n js jl je, kx_a j_v cyI 12 jv, kx_a j_n cyI 12 jn, kx_3 h0 a_v a_n vs lo le, kx_a a_v cyI 12 fv, kx_a a_n cyI 12 fn, (ho, .inl (cyL, 1, .inr (.inl ol)))] sz) := by
  refine va_MetW (cc := cL_vote) (maxL := 7) (ret := (some .int)) (hh := [(0, 14, 17, 13)]) (by decide) rfl ?_
  intro p e s m args below meth c s₁ B hml hv
  obtain ⟨rfl, hsz, hP, hK, hD0, hth⟩ := hv
  have hx := B.exec
  have hb := B.bytes
  have hr := B.returns
  have hts := atoms_spec (ws := wsL_vote) B.pre
  have hown : s.vm.findClass RL = some m.cls := findClass_of_methodNamed B.named
  have hlocks := B.notSynchronized
  have htb : c.exceptionTable.toList = tableOf [(0, 14, 17, 13)] := vx_table (x := yL_vote) B (hts (.codeWith yL_vote cL_vote 7 (some .int) [(0, 14, 17, 13)]) List.mem_cons_self)
  subst hsz
  have hD := hD0.self (sz := s.heap.size)
  generalize hAe : va_A [kx_4 m_ q_row q_t t_ h0 k0 w_ z_ slots old, kx_2 q_t q_row q_joined q_from q_to q_size q_lossOf q_lessBy q_value q_number nodes here, kx_0 q_row q_cell len, kx_a q_cell cyI 160 f, kx_a q_from cyI 319 ff, kx_a q_to cyI 319 ft, kx_a q_size cyI 319 fs, kx_a q_lossOf cyI 319 fo, kx_a q_lessBy cyI 319 fe, kx_a q_value cyI 1914 uv, kx_a q_number cyI 1914 un, kx_3 q_joined j_v j_n js jl je, kx_a j_v cyI 12 jv, kx_a j_n cyI 12 jn, kx_3 h0 a_v a_n vs lo le, kx_a a_v cyI 12 fv, kx_a a_n cyI 12 fn, (ho, .inl (cyL, 1, .inr (.inl ol)))] s.heap.size = A at hD hth ⊢
  have hA : ∀ q : Nat, s.heap.size ≤ q → A q := fun q h => by rw [← hAe]; exact Or.inr h
  have hS : va_S A s.heap s.heap [] := va_S.rf
  have hP : va_P (dC, dI) vwCl [kx_4 m_ q_row q_t t_ h0 k0 w_ z_ slots old, kx_2 q_t q_row q_joined q_from q_to q_size q_lossOf q_lessBy q_value q_number nodes here, kx_0 q_row q_cell len, kx_a q_cell cyI 160 f, kx_a q_from cyI 319 ff, kx_a q_to cyI 319 ft, kx_a q_size cyI 319 fs, kx_a q_lossOf cyI 319 fo, kx_a q_lessBy cyI 319 fe, kx_a q_value cyI 1914 uv, kx_a q_number cyI 1914 un, kx_3 q_joined j_v j_n js jl je, kx_a j_v cyI 12 jv, kx_a j_n cyI 12 jn, kx_3 h0 a_v a_n vs lo le, kx_a a_v cyI 12 fv, kx_a a_n cyI 12 fn, (ho, .inl (cyL, 1, .inr (.inl ol)))] s.heap := hP
  have hl := lv_entry ([.ref m_, .int p0, .int p1, .int p2, .int p3, .ref ho]) (n := 7) (Nat.le_of_ble_eq_true rfl)
  rw [lg_entry_eq]
  generalize (lg_sl ([.ref m_, .int p0, .int p1, .int p2, .int p3, .ref ho]) ++ List.replicate (7 - (lg_sl ([.ref m_, .int p0, .int p1, .int p2, .int p3, .ref ho])).length) Slot.unset).toArray = ls at hl ⊢
  have hl : lv_has ls 7 [(0, .ref m_), (1, .int p0), (2, .int p1), (3, .int p2), (4, .int p3), (5, .ref ho)] := hl
  refine lv_aload hx hb dL_vote_0 (lv_at hl 5 rfl) ?_
  refine lv_iconst (v := 0) hx hb dL_vote_2 (by decide) ?_
  refine lv_aload_n hx hb dL_vote_3 rfl (lv_at hl 0 rfl) ?_
  refine lv_iload_n hx hb dL_vote_4 rfl (lv_at hl 1 rfl) ?_
  refine lv_iload_n hx hb dL_vote_5 rfl (lv_at hl 2 rfl) ?_
  refine lv_iload_n hx hb dL_vote_6 rfl (lv_at hl 3 rfl) ?_
  refine lv_iload hx hb dL_vote_7 (lv_at hl 4 rfl) ?_
  have hPc := hP.sub (ws' := [kx_4 m_ q_row q_t t_ h0 k0 w_ z_ slots old, kx_2 q_t q_row q_joined q_from q_to q_size q_lossOf q_lessBy q_value q_number nodes here, kx_0 q_row q_cell len, kx_a q_cell cyI 160 f, kx_a q_from cyI 319 ff, kx_a q_to cyI 319 ft, kx_a q_size cyI 319 fs, kx_a q_lossOf cyI 319 fo, kx_a q_lessBy cyI 319 fe, kx_a q_value cyI 1914 uv, kx_a q_number cyI 1914 un, kx_3 q_joined j_v j_n js jl je, kx_a j_v cyI 12 jv, kx_a j_n cyI 12 jn, kx_3 h0 a_v a_n vs lo le, kx_a a_v cyI 12 fv, kx_a a_n cyI 12 fn]) [0, 1, 2, 3, 4, 5, 6, 7, 8, 9, 10, 11, 12, 13, 14, 15, 16] rfl
  have hKc := hK.sub (tys' := [(cyI, .int)]) [0] rfl
  have hDc := hD.sub (ws' := [kx_4 m_ q_row q_t t_ h0 k0 w_ z_ slots old, kx_2 q_t q_row q_joined q_from q_to q_size q_lossOf q_lessBy q_value q_number nodes here, kx_0 q_row q_cell len, kx_a q_cell cyI 160 f, kx_a q_from cyI 319 ff, kx_a q_to cyI 319 ft, kx_a q_size cyI 319 fs, kx_a q_lossOf cyI 319 fo, kx_a q_lessBy cyI 319 fe, kx_a q_value cyI 1914 uv, kx_a q_number cyI 1914 un, kx_3 q_joined j_v j_n js jl je, kx_a j_v cyI 12 jv, kx_a j_n cyI 12 jn, kx_3 h0 a_v a_n vs lo le, kx_a a_v cyI 12 fv, kx_a a_n cyI 12 fn]) [0, 1, 2, 3, 4, 5, 6, 7, 8, 9, 10, 11, 12, 13, 14, 15, 16] (by decide) rfl
  have hFc := va_free (wc := [kx_4 m_ q_row q_t t_ h0 k0 w_ z_ slots old, kx_2 q_t q_row q_joined q_from q_to q_size q_lossOf q_lessBy q_value q_number nodes here, kx_0 q_row q_cell len, kx_a q_cell cyI 160 f, kx_a q_from cyI 319 ff, kx_a q_to cyI 319 ft, kx_a q_size cyI 319 fs, kx_a q_lossOf cyI 319 fo, kx_a q_lessBy cyI 319 fe, kx_a q_value cyI 1914 uv, kx_a q_number cyI 1914 un, kx_3 q_joined j_v j_n js jl je, kx_a j_v cyI 12 jv, kx_a j_n cyI 12 jn, kx_3 h0 a_v a_n vs lo le, kx_a a_v cyI 12 fv, kx_a a_n cyI 12 fn]) hD hS hA [0, 1, 2, 3, 4, 5, 6, 7, 8, 9, 10, 11, 12, 13, 14, 15, 16] rfl
  refine vx_calli (vx_runV (As := [.int p0, .int p1, .int p2, .int p3]) (rest := [.int 0, .ref ho]) ⟨hx, hb, hml, hown, hts⟩ (c_X4_vote l hl0 dC dI m_ q_row q_t t_ h0 k0 w_ z_ slots old q_joined q_from q_to q_size q_lossOf q_lessBy q_value q_number nodes here q_cell cyI len f ff ft fs fo uv un fe j_v j_n js jl je jv jn a_v a_n vs lo le fv fn p0 p1 p2 p3 s.heap.size a0 a1 s0 l0) (cwV 4 hts gL_vote_X4_vote rfl rfl rfl (by decide +kernel) ⟨Nat.le_of_ble_eq_true rfl, Nat.le_of_ble_eq_true rfl⟩) ⟨fun a U g mk q => by obtain ⟨q0, q1, qP, qK, qD, qT⟩ := q; exact ⟨q0, q1, qP, va_K.moved (u := U) (U := U.calling g mk a) (Vm.Alike.refl U.vm) qK, qD, qT.call g mk a⟩, va_recv hKc hPc (ci := 4) (q0 := 0) rfl rfl, fun U hU hW => ⟨rfl, by rw [hU], by rw [hU]; exact hPc, va_K.moved hW.alike hKc, hDc.weaken (fun _ _ _ _ => trivial), hth.from hS hU hW hFc⟩⟩ rfl rfl hl.1 rfl (lv_room (Nat.le_of_ble_eq_true rfl)) dL_vote_9 ⟨Nat.le_of_ble_eq_true rfl, Nat.le_of_ble_eq_true rfl⟩) hS (fun q _ h => hFc q h) hFc (fun q _ h => hFc q h) (fun E ce q9 u t H1 locs ht hvm w_1 hB hz1 hk1 hS hce hcv hcl => ?_) (fun r_1 u t H1 locs ht hvm w_1 hB hz1 hk1 hS => ?_)
  · obtain ⟨o_2, o_3, o_4, o_5, o_6, o_7, o_8, o_9, o_10, o_11, o_12, o_13, o_14, o_15, o_16, o_17, o_18, o_19, o_20, o_21⟩ := u
    dsimp only at w_1 hB
    obtain ⟨hE, hP1, hK1, hD1⟩ := hB
    subst hE
    rw [ht] at hP1
    have hK1 := va_K.moved hvm.symm hK1
    obtain ⟨hP, hD⟩ := va_join (wr := [(ho, .inl (cyL, 1, .inr (.inl ol)))]) (w1 := [kx_4 m_ q_row q_t t_ h0 k0 w_ z_ slots o_2, kx_2 q_t q_row q_joined q_from q_to q_size q_lossOf q_lessBy q_value q_number o_3 o_4, kx_0 q_row q_cell len, kx_a q_cell cyI 160 f, kx_a q_from cyI 319 o_5, kx_a q_to cyI 319 o_6, kx_a q_size cyI 319 o_7, kx_a q_lossOf cyI 319 o_8, kx_a q_lessBy cyI 319 o_9, kx_a q_value cyI 1914 o_10, kx_a q_number cyI 1914 o_11, kx_3 q_joined j_v j_n o_12 o_13 o_14, kx_a j_v cyI 12 o_15, kx_a j_n cyI 12 o_16, kx_3 h0 a_v a_n o_17 o_18 o_19, kx_a a_v cyI 12 o_20, kx_a a_n cyI 12 o_21]) hP hD [0, 1, 2, 3, 4, 5, 6, 7, 8, 9, 10, 11, 12, 13, 14, 15, 16] [17] rfl rfl (by decide) (by decide) hk1 hFc hP1 hD1
    clear hP1 hD1 hK1 hk1 hz1 hFc hDc hPc hKc
    generalize H1 = H at hP hS hce ⊢
    obtain ⟨hP, hD⟩ := kx_re (w2 := [(ho, .inl (cyL, 1, .inr (.inl ol))), kx_4 m_ q_row q_t t_ h0 k0 w_ z_ slots o_2, kx_2 q_t q_row q_joined q_from q_to q_size q_lossOf q_lessBy q_value q_number o_3 o_4, kx_0 q_row q_cell len, kx_a q_cell cyI 160 f, kx_a q_from cyI 319 o_5, kx_a q_to cyI 319 o_6, kx_a q_size cyI 319 o_7, kx_a q_lossOf cyI 319 o_8, kx_a q_lessBy cyI 319 o_9, kx_a q_value cyI 1914 o_10, kx_a q_number cyI 1914 o_11, kx_3 q_joined j_v j_n o_12 o_13 o_14, kx_a j_v cyI 12 o_15, kx_a j_n cyI 12 o_16, kx_3 h0 a_v a_n o_17 o_18 o_19, kx_a a_v cyI 12 o_20, kx_a a_n cyI 12 o_21]) hP hD rfl
    refine vx_catch hown [] ⟨0, 14, 17, 13⟩ [] htb (fun z hz => by cases hz) (by decide) (by decide) (hts (.classLink RL 13 EXN) (by decide +kernel)) (va_Nw.use rfl hth.1.1) hce hcv hcl ?_
    refine W.eq (g2 := F0 m 17 ls [.ref q9]) rfl ?_
    have w_1 : (0 : Int) ≤ 1 ∧ laidP o_2 o_5 o_6 o_3 len ∧ sixes o_7 := w_1
    refine W.widen (k := 1) (n := 6) (Nat.le_of_ble_eq_true rfl) (Nat.le_of_ble_eq_true rfl) ?_
    refine lv_astore (lv' := [(6, .ref q9), (0, .ref m_), (1, .int p0), (2, .int p1), (3, .int p2), (4, .int p3), (5, .ref ho)]) hx hb dL_vote_17 hl (by decide) rfl (fun ls hl => ?_)
    refine lv_iconst (v := 1) hx hb dL_vote_19 (by decide) ?_
    obtain ⟨hP9, hD9⟩ := kx_sub (w2 := [kx_4 m_ q_row q_t t_ h0 k0 w_ z_ slots o_2, kx_2 q_t q_row q_joined q_from q_to q_size q_lossOf q_lessBy q_value q_number o_3 o_4, kx_0 q_row q_cell len, kx_a q_cell cyI 160 f, kx_a q_from cyI 319 o_5, kx_a q_to cyI 319 o_6, kx_a q_size cyI 319 o_7, kx_a q_lossOf cyI 319 o_8, kx_a q_lessBy cyI 319 o_9, kx_a q_value cyI 1914 o_10, kx_a q_number cyI 1914 o_11, kx_3 q_joined j_v j_n o_12 o_13 o_14, kx_a j_v cyI 12 o_15, kx_a j_n cyI 12 o_16, kx_3 h0 a_v a_n o_17 o_18 o_19, kx_a a_v cyI 12 o_20, kx_a a_n cyI 12 o_21, (ho, .inl (cyL, 1, .inr (.inl ol)))]) hP hD [1, 2, 3, 4, 5, 6, 7, 8, 9, 10, 11, 12, 13, 14, 15, 16, 17, 0] (by decide) rfl
    have hK9 := hK
    exact W.iret (v := 1) hx hb hr (fun t ht hW => ⟨⟨1, (o_2, o_3, o_4, o_5, o_6, o_7, o_8, o_9, o_10, o_11, o_12, o_13, o_14, o_15, o_16, o_17, o_18, o_19, o_20, o_21, ol, (0 : Int32)), rfl, ⟨Or.inr ⟨rfl, w_1.1⟩, w_1.2⟩, by rw [ht]; exact hP9, va_K.moved hW.alike hK9, hD9⟩, hS.F ht⟩) hS.2.2 dL_vote_20
  · obtain ⟨o_22, o_23, o_24, o_25, o_26, o_27, o_28, o_29, o_30, o_31, o_32, o_33, o_34, o_35, o_36, o_37, o_38, o_39, o_40, o_41⟩ := u
    dsimp only at w_1 hB
    obtain ⟨hP1, hK1, hD1⟩ := hB
    rw [ht] at hP1
    have hK1 := va_K.moved hvm.symm hK1
    obtain ⟨hP, hD⟩ := va_join (wr := [(ho, .inl (cyL, 1, .inr (.inl ol)))]) (w1 := [kx_4 m_ q_row q_t t_ h0 k0 w_ z_ slots o_22, kx_2 q_t q_row q_joined q_from q_to q_size q_lossOf q_lessBy q_value q_number o_23 o_24, kx_0 q_row q_cell len, kx_a q_cell cyI 160 f, kx_a q_from cyI 319 o_25, kx_a q_to cyI 319 o_26, kx_a q_size cyI 319 o_27, kx_a q_lossOf cyI 319 o_28, kx_a q_lessBy cyI 319 o_29, kx_a q_value cyI 1914 o_30, kx_a q_number cyI 1914 o_31, kx_3 q_joined j_v j_n o_32 o_33 o_34, kx_a j_v cyI 12 o_35, kx_a j_n cyI 12 o_36, kx_3 h0 a_v a_n o_37 o_38 o_39, kx_a a_v cyI 12 o_40, kx_a a_n cyI 12 o_41]) hP hD [0, 1, 2, 3, 4, 5, 6, 7, 8, 9, 10, 11, 12, 13, 14, 15, 16] [17] rfl rfl (by decide) (by decide) hk1 hFc hP1 hD1
    clear hP1 hD1 hK1 hk1 hz1 hFc hDc hPc hKc
    generalize H1 = H at hP hS ⊢
    obtain ⟨hP, hD⟩ := kx_re (w2 := [(ho, .inl (cyL, 1, .inr (.inl ol))), kx_4 m_ q_row q_t t_ h0 k0 w_ z_ slots o_22, kx_2 q_t q_row q_joined q_from q_to q_size q_lossOf q_lessBy q_value q_number o_23 o_24, kx_0 q_row q_cell len, kx_a q_cell cyI 160 f, kx_a q_from cyI 319 o_25, kx_a q_to cyI 319 o_26, kx_a q_size cyI 319 o_27, kx_a q_lossOf cyI 319 o_28, kx_a q_lessBy cyI 319 o_29, kx_a q_value cyI 1914 o_30, kx_a q_number cyI 1914 o_31, kx_3 q_joined j_v j_n o_32 o_33 o_34, kx_a j_v cyI 12 o_35, kx_a j_n cyI 12 o_36, kx_3 h0 a_v a_n o_37 o_38 o_39, kx_a a_v cyI 12 o_40, kx_a a_n cyI 12 o_41]) hP hD rfl
    have w_1 : (0 : Int) ≤ 1 ∧ laidP o_22 o_25 o_26 o_23 len ∧ sixes o_27 := w_1
    refine W.widen (k := 1) (n := 6) (Nat.le_of_ble_eq_true rfl) (Nat.le_of_ble_eq_true rfl) ?_
    refine lv_i2l hx hb dL_vote_12 rfl ?_
    refine va_last hx hb hK hP hD hS 0 1 rfl rfl (ki_inl (by decide)) dL_vote_13 (fun H locs hP hD hS => ?_)
    obtain ⟨hP, hD⟩ := kx_re (w2 := [(ho, .inl (cyL, 1, .inr (.inl (vp_updL ol (0 : Int32).toNatClampNeg r_1.toInt64)))), kx_4 m_ q_row q_t t_ h0 k0 w_ z_ slots o_22, kx_2 q_t q_row q_joined q_from q_to q_size q_lossOf q_lessBy q_value q_number o_23 o_24, kx_0 q_row q_cell len, kx_a q_cell cyI 160 f, kx_a q_from cyI 319 o_25, kx_a q_to cyI 319 o_26, kx_a q_size cyI 319 o_27, kx_a q_lossOf cyI 319 o_28, kx_a q_lessBy cyI 319 o_29, kx_a q_value cyI 1914 o_30, kx_a q_number cyI 1914 o_31, kx_3 q_joined j_v j_n o_32 o_33 o_34, kx_a j_v cyI 12 o_35, kx_a j_n cyI 12 o_36, kx_3 h0 a_v a_n o_37 o_38 o_39, kx_a a_v cyI 12 o_40, kx_a a_n cyI 12 o_41]) hP hD rfl
    refine lv_goto (tgt := 21) hx hb dL_vote_14 (by decide) ?_
    refine lv_iconst (v := 0) hx hb dL_vote_21 (by decide) ?_
    obtain ⟨hP9, hD9⟩ := kx_sub (w2 := [kx_4 m_ q_row q_t t_ h0 k0 w_ z_ slots o_22, kx_2 q_t q_row q_joined q_from q_to q_size q_lossOf q_lessBy q_value q_number o_23 o_24, kx_0 q_row q_cell len, kx_a q_cell cyI 160 f, kx_a q_from cyI 319 o_25, kx_a q_to cyI 319 o_26, kx_a q_size cyI 319 o_27, kx_a q_lossOf cyI 319 o_28, kx_a q_lessBy cyI 319 o_29, kx_a q_value cyI 1914 o_30, kx_a q_number cyI 1914 o_31, kx_3 q_joined j_v j_n o_32 o_33 o_34, kx_a j_v cyI 12 o_35, kx_a j_n cyI 12 o_36, kx_3 h0 a_v a_n o_37 o_38 o_39, kx_a a_v cyI 12 o_40, kx_a a_n cyI 12 o_41, (ho, .inl (cyL, 1, .inr (.inl (vp_updL ol (0 : Int32).toNatClampNeg r_1.toInt64))))]) hP hD [1, 2, 3, 4, 5, 6, 7, 8, 9, 10, 11, 12, 13, 14, 15, 16, 17, 0] (by decide) rfl
    have hK9 := hK
    exact W.iret (v := 0) hx hb hr (fun t ht hW => ⟨⟨0, (o_22, o_23, o_24, o_25, o_26, o_27, o_28, o_29, o_30, o_31, o_32, o_33, o_34, o_35, o_36, o_37, o_38, o_39, o_40, o_41, (vp_updL ol (0 : Int32).toNatClampNeg r_1.toInt64), r_1), rfl, ⟨Or.inl ⟨rfl, w_1.1, rfl⟩, w_1.2⟩, by rw [ht]; exact hP9, va_K.moved hW.alike hK9, hD9⟩, hS.F ht⟩) hS.2.2 dL_vote_22

set_option maxHeartbeats 4000000 in
set_option maxRecDepth 100000 in
theorem c_L_candidate (l : Launch) (hl0 : l.stackTraces = false) (dC : Nat → ClassId) (dI : Nat → Nat → Nat) (m_ : Nat) (q_row : Nat) (q_t : Nat) (t_ : Nat) (h0 : Nat) (k0 : Nat) (w_ : Nat) (z_ : Nat) (slots : Int32) (old : Int32) (q_joined : Nat) (q_from : Nat) (q_to : Nat) (q_size : Nat) (q_lossOf : Nat) (q_lessBy : Nat) (q_value : Nat) (q_number : Nat) (nodes : Int32) (here : Int32) (q_cell : Nat) (cyI : ClassId) (len : Int32) (f : Nat → Int32) (ff : Nat → Int32) (ft : Nat → Int32) (fs : Nat → Int32) (fo : Nat → Int32) (uv : Nat → Int32) (un : Nat → Int32) (fe : Nat → Int32) (j_v : Nat) (j_n : Nat) (js : Int32) (jl : Int32) (je : Int32) (jv : Nat → Int32) (jn : Nat → Int32) (a_v : Nat) (a_n : Nat) (vs : Int32) (lo : Int32) (le : Int32) (fv : Nat → Int32) (fn : Nat → Int32) (p0 : Int32) (p1 : Int32) (p2 : Int32) (p3 : Int32) (cyL : ClassId) (ho : Nat) (ol : Nat → Int64) (sz : Nat) (a0 : 0 ≤ len.toInt) (a1 : len.toInt ≤ 160) (s0 : sixes fs) (l0 : laidP old ff ft nodes len) : Met l yL_candidate wsL_candidate ({ frames := 9, cells := 1, slots := 6, locals := 405 }) (va_Pc [.ref m_, .int p0, .int p1, .int p2, .int p3, .ref ho] (fun U => U.heap.size = sz ∧ va_P (dC, dI) vwCl [kx_4 m_ q_row q_t t_ h0 k0 w_ z_ slots old, kx_2 q_t q_row q_joined q_from q_to q_size q_lossOf q_lessBy q_value q_number nodes here, kx_0 q_row q_cell len, kx_a q_cell cyI 160 f, kx_a q_from cyI 319 ff, kx_a q_to cyI 319 ft, kx_a q_size cyI 319 fs, kx_a q_lossOf cyI 319 fo, kx_a q_lessBy cyI 319 fe, kx_a q_value cyI 1914 uv, kx_a q_number cyI 1914 un, kx_3 q_joined j_v j_n js jl je, kx_a j_v cyI 12 jv, kx_a j_n cyI 12 jn, kx_3 h0 a_v a_n vs lo le, kx_a a_v cyI 12 fv, kx_a a_n cyI 12 fn, (ho, .inl (cyL, 1, .inr (.inl ol)))] U.heap ∧ va_K (dC, dI) vwCl [(cyI, .int), (cyL, .long)] U ∧ va_D (fun _ => True) [kx_4 m_ q_row q_t t_ h0 k0 w_ z_ slots old, kx_2 q_t q_row q_joined q_from q_to q_size q_lossOf q_lessBy q_value q_number nodes here, kx_0 q_row q_cell len, kx_a q_cell cyI 160 f, kx_a q_from cyI 319 ff, kx_a q_to cyI 319 ft, kx_a q_size cyI 319 fs, kx_a q_lossOf cyI 319 fo, kx_a q_lessBy cyI 319 fe, kx_a q_value cyI 1914 uv, kx_a q_number cyI 1914 un, kx_3 q_joined j_v j_n js jl je, kx_a j_v cyI 12 jv, kx_a j_n cyI 12 jn, kx_3 h0 a_v a_n vs lo le, kx_a a_v cyI 12 fv, kx_a a_n cyI 12 fn, (ho, .inl (cyL, 1, .inr (.inl ol)))] ∧ ki_ThA (va_A [kx_4 m_ q_row q_t t_ h0 k0 w_ z_ slots old, kx_2 q_t q_row q_joined q_from q_to q_size q_lossOf q_lessBy q_value q_number nodes here, kx_0 q_row q_cell len, kx_a q_cell cyI 160 f, kx_a q_from cyI 319 ff, kx_a q_to cyI 319 ft, kx_a q_size cyI 319 fs, kx_a q_lossOf cyI 319 fo, kx_a q_lessBy cyI 319 fe, kx_a q_value cyI 1914 uv, kx_a q_number cyI 1914 un, kx_3 q_joined j_v j_n js jl je, kx_a j_v cyI 12 jv, kx_a j_n cyI 12 jn, kx_3 h0 a_v a_n vs lo le, kx_a a_v cyI 12 fv, kx_a a_n cyI 12 fn, (ho, .inl (cyL, 1, .inr (.inl ol)))] sz) U)) (va_Qi (fun (r : Int32) (u : Int32 × Int32 × Int32 × (Nat → Int32) × (Nat → Int32) × (Nat → Int32) × (Nat → Int32) × (Nat → Int32) × (Nat → Int32) × (Nat → Int32) × Int32 × Int32 × Int32 × (Nat → Int32) × (Nat → Int32) × Int32 × Int32 × Int32 × (Nat → Int32) × (Nat → Int32) × (Nat → Int64) × Int32) => ((r = 0 ∧ ((0 : Int) ≤ 1) ∧ u.2.2.2.2.2.2.2.2.2.2.2.2.2.2.2.2.2.2.2.2.1 = vp_updL ol (0 : Int32).toNatClampNeg u.2.2.2.2.2.2.2.2.2.2.2.2.2.2.2.2.2.2.2.2.2.toInt64) ∨ (r = 1 ∧ ((0 : Int) ≤ 1))) ∧ laidP u.1 u.2.2.2.1 u.2.2.2.2.1 u.2.1 len ∧ sixes u.2.2.2.2.2.1) (fun (u : Int32 × Int32 × Int32 × (Nat → Int32) × (Nat → Int32) × (Nat → Int32) × (Nat → Int32) × (Nat → Int32) × (Nat → Int32) × (Nat → Int32) × Int32 × Int32 × Int32 × (Nat → Int32) × (Nat → Int32) × Int32 × Int32 × Int32 × (Nat → Int32) × (Nat → Int32) × (Nat → Int64) × Int32) (t : State) => va_P (dC, dI) vwCl [kx_4 m_ q_row q_t t_ h0 k0 w_ z_ slots u.1, kx_2 q_t q_row q_joined q_from q_to q_size q_lossOf q_lessBy q_value q_number u.2.1 u.2.2.1, kx_0 q_row q_cell len, kx_a q_cell cyI 160 f, kx_a q_from cyI 319 u.2.2.2.1, kx_a q_to cyI 319 u.2.2.2.2.1, kx_a q_size cyI 319 u.2.2.2.2.2.1, kx_a q_lossOf cyI 319 u.2.2.2.2.2.2.1, kx_a q_lessBy cyI 319 u.2.2.2.2.2.2.2.1, kx_a q_value cyI 1914 u.2.2.2.2.2.2.2.2.1, kx_a q_number cyI 1914 u.2.2.2.2.2.2.2.2.2.1, kx_3 q_joined j_v j_n u.2.2.2.2.2.2.2.2.2.2.1 u.2.2.2.2.2.2.2.2.2.2.2.1 u.2.2.2.2.2.2.2.2.2.2.2.2.1, kx_a j_v cyI 12 u.2.2.2.2.2.2.2.2.2.2.2.2.2.1, kx_a j_n cyI 12 u.2.2.2.2.2.2.2.2.2.2.2.2.2.2.1, kx_3 h0 a_v a_n u.2.2.2.2.2.2.2.2.2.2.2.2.2.2.2.1 u.2.2.2.2.2.2.2.2.2.2.2.2.2.2.2.2.1 u.2.2.2.2.2.2.2.2.2.2.2.2.2.2.2.2.2.1, kx_a a_v cyI 12 u.2.2.2.2.2.2.2.2.2.2.2.2.2.2.2.2.2.2.1, kx_a a_n cyI 12 u.2.2.2.2.2.2.2.2.2.2.2.2.2.2.2.2.2.2.2.1, (ho, .inl (cyL, 1, .inr (.inl u.2.2.2.2.2.2.2.2.2.2.2.2.2.2.2.2.2.2.2.2.1)))] t.heap ∧ va_K (dC, dI) vwCl [(cyI, .int), (cyL, .long)] t ∧ va_D (va_A [kx_4 m_ q_row q_t t_ h0 k0 w_ z_ slots old, kx_2 q_t q_row q_joined q_from q_to q_size q_lossOf q_lessBy q_value q_number nodes here, kx_0 q_row q_cell len, kx_a q_cell cyI 160 f, kx_a q_from cyI 319 ff, kx_a q_to cyI 319 ft, kx_a q_size cyI 319 fs, kx_a q_lossOf cyI 319 fo, kx_a q_lessBy cyI 319 fe, kx_a q_value cyI 1914 uv, kx_a q_number cyI 1914 un, kx_3 q_joined j_v j_n js jl je, kx_a j_v cyI 12 jv, kx_a j_n cyI 12 jn, kx_3 h0 a_v a_n vs lo le, kx_a a_v cyI 12 fv, kx_a a_n cyI 12 fn, (ho, .inl (cyL, 1, .inr (.inl ol)))] sz) [kx_4 m_ q_row q_t t_ h0 k0 w_ z_ slots u.1, kx_2 q_t q_row q_joined q_from q_to q_size q_lossOf q_lessBy q_value q_number u.2.1 u.2.2.1, kx_0 q_row q_cell len, kx_a q_cell cyI 160 f, kx_a q_from cyI 319 u.2.2.2.1, kx_a q_to cyI 319 u.2.2.2.2.1, kx_a q_size cyI 319 u.2.2.2.2.2.1, kx_a q_lossOf cyI 319 u.2.2.2.2.2.2.1, kx_a q_lessBy cyI 319 u.2.2.2.2.2.2.2.1, kx_a q_value cyI 1914 u.2.2.2.2.2.2.2.2.1, kx_a q_number cyI 1914 u.2.2.2.2.2.2.2.2.2.1, kx_3 q_joined j_v j_n u.2.2.2.2.2.2.2.2.2.2.1 u.2.2.2.2.2.2.2.2.2.2.2.1 u.2.2.2.2.2.2.2.2.2.2.2.2.1, kx_a j_v cyI 12 u.2.2.2.2.2.2.2.2.2.2.2.2.2.1, kx_a j_n cyI 12 u.2.2.2.2.2.2.2.2.2.2.2.2.2.2.1, kx_3 h0 a_v a_n u.2.2.2.2.2.2.2.2.2.2.2.2.2.2.2.1 u.2.2.2.2.2.2.2.2.2.2.2.2.2.2.2.2.1 u.2.2.2.2.2.2.2.2.2.2.2.2.2.2.2.2.2.1, kx_a a_v cyI 12 u.2.2.2.2.2.2.2.2.2.2.2.2.2.2.2.2.2.2.1, kx_a a_n cyI 12 u.2.2.2.2.2.2.2.2.2.2.2.2.2.2.2.2.2.2.2.1, (ho, .inl (cyL, 1, .inr (.inl u.2.2.2.2.2.2.2.2.2.2.2.2.2.2.2.2.2.2.2.2.1)))]) (va_A [kx_4 m_ q_row q_t t_ h0 k0 w_ z_ slots old, kx_2 q_t q_row q_joined q_from q_to q_size q_lossOf q_lessBy q_value q_number nodes here, kx_0 q_row q_cell len, kx_a q_cell cyI 160 f, kx_a q_from cyI 319 ff, kx_a q_to cyI 319 ft, kx_a q_size cyI 319 fs, kx_a q_lossOf cyI 319 fo, kx_a q_lessBy cyI 319 fe, kx_a q_value cyI 1914 uv, kx_a q_number cyI 1914 un, kx_3 q_joined j_v j_n js jl je, kx_a j_v cyI 12 jv, kx_a j_n cyI 12 jn, kx_3 h0 a_v a_n vs lo le, kx_a a_v cyI 12 fv, kx_a a_n cyI 12 fn, (ho, .inl (cyL, 1, .inr (.inl ol)))] sz)) 1 6 (va_A [kx_4 m_ q_row q_t t_ h0 k0 w_ z_ slots old, kx_2 q_t q_row q_joined q_from q_to q_size q_lossOf q_lessBy q_value q_number nodes here, kx_0 q_row q_cell len, kx_a q_cell cyI 160 f, kx_a q_from cyI 319 ff, kx_a q_to cyI 319 ft, kx_a q_size cyI 319 fs, kx_a q_lossOf cyI 319 fo, kx_a q_lessBy cyI 319 fe, kx_a q_value cyI 1914 uv, kx_a q_number cyI 1914 un, kx_3 q_joined j_v j_n js jl je, kx_a j_v cyI 12 jv, kx_a j_n cyI 12 jn, kx_3 h0 a_v a_n vs lo le, kx_a a_v cyI 12 fv, kx_a a_n cyI 12 fn, (ho, .inl (cyL, 1, .inr (.inl ol)))] sz) := by
  refine va_MetW (cc := cL_candidate) (maxL := 7) (ret := (some .int)) (hh := [(0, 14, 17, 13)]) (by decide) rfl ?_
  intro p e s m args below meth c s₁ B hml hv
  obtain ⟨rfl, hsz, hP, hK, hD0, hth⟩ := hv
  have hx := B.exec
  have hb := B.bytes
  have hr := B.returns
  have hts := atoms_spec (ws := wsL_candidate) B.pre
  have hown : s.vm.findClass RL = some m.cls := findClass_of_methodNamed B.named
  have hlocks := B.notSynchronized
  have htb : c.exceptionTable.toList = tableOf [(0, 14, 17, 13)] := vx_table (x := yL_candidate) B (hts (.codeWith yL_candidate cL_candidate 7 (some .int) [(0, 14, 17, 13)]) List.mem_cons_self)
  subst hsz
  have hD := hD0.self (sz := s.heap.size)
  generalize hAe : va_A [kx_4 m_ q_row q_t t_ h0 k0 w_ z_ slots old, kx_2 q_t q_row q_joined q_from q_to q_size q_lossOf q_lessBy q_value q_number nodes here, kx_0 q_row q_cell len, kx_a q_cell cyI 160 f, kx_a q_from cyI 319 ff, kx_a q_to cyI 319 ft, kx_a q_size cyI 319 fs, kx_a q_lossOf cyI 319 fo, kx_a q_lessBy cyI 319 fe, kx_a q_value cyI 1914 uv, kx_a q_number cyI 1914 un, kx_3 q_joined j_v j_n js jl je, kx_a j_v cyI 12 jv, kx_a j_n cyI 12 jn, kx_3 h0 a_v a_n vs lo le, kx_a a_v cyI 12 fv, kx_a a_n cyI 12 fn, (ho, .inl (cyL, 1, .inr (.inl ol)))] s.heap.size = A at hD hth ⊢
  have hA : ∀ q : Nat, s.heap.size ≤ q → A q := fun q h => by rw [← hAe]; exact Or.inr h
  have hS : va_S A s.heap s.heap [] := va_S.rf
  have hP : va_P (dC, dI) vwCl [kx_4 m_ q_row q_t t_ h0 k0 w_ z_ slots old, kx_2 q_t q_row q_joined q_from q_to q_size q_lossOf q_lessBy q_value q_number nodes here, kx_0 q_row q_cell len, kx_a q_cell cyI 160 f, kx_a q_from cyI 319 ff, kx_a q_to cyI 319 ft, kx_a q_size cyI 319 fs, kx_a q_lossOf cyI 319 fo, kx_a q_lessBy cyI 319 fe, kx_a q_value cyI 1914 uv, kx_a q_number cyI 1914 un, kx_3 q_joined j_v j_n js jl je, kx_a j_v cyI 12 jv, kx_a j_n cyI 12 jn, kx_3 h0 a_v a_n vs lo le, kx_a a_v cyI 12 fv, kx_a a_n cyI 12 fn, (ho, .inl (cyL, 1, .inr (.inl ol)))] s.heap := hP
  have hl := lv_entry ([.ref m_, .int p0, .int p1, .int p2, .int p3, .ref ho]) (n := 7) (Nat.le_of_ble_eq_true rfl)
  rw [lg_entry_eq]
  generalize (lg_sl ([.ref m_, .int p0, .int p1, .int p2, .int p3, .ref ho]) ++ List.replicate (7 - (lg_sl ([.ref m_, .int p0, .int p1, .int p2, .int p3, .ref ho])).length) Slot.unset).toArray = ls at hl ⊢
  have hl : lv_has ls 7 [(0, .ref m_), (1, .int p0), (2, .int p1), (3, .int p2), (4, .int p3), (5, .ref ho)] := hl
  refine lv_aload hx hb dL_candidate_0 (lv_at hl 5 rfl) ?_
  refine lv_iconst (v := 0) hx hb dL_candidate_2 (by decide) ?_
  refine lv_aload_n hx hb dL_candidate_3 rfl (lv_at hl 0 rfl) ?_
  refine lv_iload_n hx hb dL_candidate_4 rfl (lv_at hl 1 rfl) ?_
  refine lv_iload_n hx hb dL_candidate_5 rfl (lv_at hl 2 rfl) ?_
  refine lv_iload_n hx hb dL_candidate_6 rfl (lv_at hl 3 rfl) ?_
  refine lv_iload hx hb dL_candidate_7 (lv_at hl 4 rfl) ?_
  have hPc := hP.sub (ws' := [kx_4 m_ q_row q_t t_ h0 k0 w_ z_ slots old, kx_2 q_t q_row q_joined q_from q_to q_size q_lossOf q_lessBy q_value q_number nodes here, kx_0 q_row q_cell len, kx_a q_cell cyI 160 f, kx_a q_from cyI 319 ff, kx_a q_to cyI 319 ft, kx_a q_size cyI 319 fs, kx_a q_lossOf cyI 319 fo, kx_a q_lessBy cyI 319 fe, kx_a q_value cyI 1914 uv, kx_a q_number cyI 1914 un, kx_3 q_joined j_v j_n js jl je, kx_a j_v cyI 12 jv, kx_a j_n cyI 12 jn, kx_3 h0 a_v a_n vs lo le, kx_a a_v cyI 12 fv, kx_a a_n cyI 12 fn]) [0, 1, 2, 3, 4, 5, 6, 7, 8, 9, 10, 11, 12, 13, 14, 15, 16] rfl
  have hKc := hK.sub (tys' := [(cyI, .int)]) [0] rfl
  have hDc := hD.sub (ws' := [kx_4 m_ q_row q_t t_ h0 k0 w_ z_ slots old, kx_2 q_t q_row q_joined q_from q_to q_size q_lossOf q_lessBy q_value q_number nodes here, kx_0 q_row q_cell len, kx_a q_cell cyI 160 f, kx_a q_from cyI 319 ff, kx_a q_to cyI 319 ft, kx_a q_size cyI 319 fs, kx_a q_lossOf cyI 319 fo, kx_a q_lessBy cyI 319 fe, kx_a q_value cyI 1914 uv, kx_a q_number cyI 1914 un, kx_3 q_joined j_v j_n js jl je, kx_a j_v cyI 12 jv, kx_a j_n cyI 12 jn, kx_3 h0 a_v a_n vs lo le, kx_a a_v cyI 12 fv, kx_a a_n cyI 12 fn]) [0, 1, 2, 3, 4, 5, 6, 7, 8, 9, 10, 11, 12, 13, 14, 15, 16] (by decide) rfl
  have hFc := va_free (wc := [kx_4 m_ q_row q_t t_ h0 k0 w_ z_ slots old, kx_2 q_t q_row q_joined q_from q_to q_size q_lossOf q_lessBy q_value q_number nodes here, kx_0 q_row q_cell len, kx_a q_cell cyI 160 f, kx_a q_from cyI 319 ff, kx_a q_to cyI 319 ft, kx_a q_size cyI 319 fs, kx_a q_lossOf cyI 319 fo, kx_a q_lessBy cyI 319 fe, kx_a q_value cyI 1914 uv, kx_a q_number cyI 1914 un, kx_3 q_joined j_v j_n js jl je, kx_a j_v cyI 12 jv, kx_a j_n cyI 12 jn, kx_3 h0 a_v a_n vs lo le, kx_a a_v cyI 12 fv, kx_a a_n cyI 12 fn]) hD hS hA [0, 1, 2, 3, 4, 5, 6, 7, 8, 9, 10, 11, 12, 13, 14, 15, 16] rfl
  refine vx_calli (vx_runV (As := [.int p0, .int p1, .int p2, .int p3]) (rest := [.int 0, .ref ho]) ⟨hx, hb, hml, hown, hts⟩ (c_X4_candidate l hl0 dC dI m_ q_row q_t t_ h0 k0 w_ z_ slots old q_joined q_from q_to q_size q_lossOf q_lessBy q_value q_number nodes here q_cell cyI len f ff ft fs fo uv un fe j_v j_n js jl je jv jn a_v a_n vs lo le fv fn p0 p1 p2 p3 s.heap.size a0 a1 s0 l0) (cwV 4 hts gL_candidate_X4_candidate rfl rfl rfl (by decide +kernel) ⟨Nat.le_of_ble_eq_true rfl, Nat.le_of_ble_eq_true rfl⟩) ⟨fun a U g mk q => by obtain ⟨q0, q1, qP, qK, qD, qT⟩ := q; exact ⟨q0, q1, qP, va_K.moved (u := U) (U := U.calling g mk a) (Vm.Alike.refl U.vm) qK, qD, qT.call g mk a⟩, va_recv hKc hPc (ci := 4) (q0 := 0) rfl rfl, fun U hU hW => ⟨rfl, by rw [hU], by rw [hU]; exact hPc, va_K.moved hW.alike hKc, hDc.weaken (fun _ _ _ _ => trivial), hth.from hS hU hW hFc⟩⟩ rfl rfl hl.1 rfl (lv_room (Nat.le_of_ble_eq_true rfl)) dL_candidate_9 ⟨Nat.le_of_ble_eq_true rfl, Nat.le_of_ble_eq_true rfl⟩) hS (fun q _ h => hFc q h) hFc (fun q _ h => hFc q h) (fun E ce q9 u t H1 locs ht hvm w_1 hB hz1 hk1 hS hce hcv hcl => ?_) (fun r_1 u t H1 locs ht hvm w_1 hB hz1 hk1 hS => ?_)
  · obtain ⟨o_2, o_3, o_4, o_5, o_6, o_7, o_8, o_9, o_10, o_11, o_12, o_13, o_14, o_15, o_16, o_17, o_18, o_19, o_20, o_21⟩ := u
    dsimp only at w_1 hB
    obtain ⟨hE, hP1, hK1, hD1⟩ := hB
    subst hE
    rw [ht] at hP1
    have hK1 := va_K.moved hvm.symm hK1
    obtain ⟨hP, hD⟩ := va_join (wr := [(ho, .inl (cyL, 1, .inr (.inl ol)))]) (w1 := [kx_4 m_ q_row q_t t_ h0 k0 w_ z_ slots o_2, kx_2 q_t q_row q_joined q_from q_to q_size q_lossOf q_lessBy q_value q_number o_3 o_4, kx_0 q_row q_cell len, kx_a q_cell cyI 160 f, kx_a q_from cyI 319 o_5, kx_a q_to cyI 319 o_6, kx_a q_size cyI 319 o_7, kx_a q_lossOf cyI 319 o_8, kx_a q_lessBy cyI 319 o_9, kx_a q_value cyI 1914 o_10, kx_a q_number cyI 1914 o_11, kx_3 q_joined j_v j_n o_12 o_13 o_14, kx_a j_v cyI 12 o_15, kx_a j_n cyI 12 o_16, kx_3 h0 a_v a_n o_17 o_18 o_19, kx_a a_v cyI 12 o_20, kx_a a_n cyI 12 o_21]) hP hD [0, 1, 2, 3, 4, 5, 6, 7, 8, 9, 10, 11, 12, 13, 14, 15, 16] [17] rfl rfl (by decide) (by decide) hk1 hFc hP1 hD1
    clear hP1 hD1 hK1 hk1 hz1 hFc hDc hPc hKc
    generalize H1 = H at hP hS hce ⊢
    obtain ⟨hP, hD⟩ := kx_re (w2 := [(ho, .inl (cyL, 1, .inr (.inl ol))), kx_4 m_ q_row q_t t_ h0 k0 w_ z_ slots o_2, kx_2 q_t q_row q_joined q_from q_to q_size q_lossOf q_lessBy q_value q_number o_3 o_4, kx_0 q_row q_cell len, kx_a q_cell cyI 160 f, kx_a q_from cyI 319 o_5, kx_a q_to cyI 319 o_6, kx_a q_size cyI 319 o_7, kx_a q_lossOf cyI 319 o_8, kx_a q_lessBy cyI 319 o_9, kx_a q_value cyI 1914 o_10, kx_a q_number cyI 1914 o_11, kx_3 q_joined j_v j_n o_12 o_13 o_14, kx_a j_v cyI 12 o_15, kx_a j_n cyI 12 o_16, kx_3 h0 a_v a_n o_17 o_18 o_19, kx_a a_v cyI 12 o_20, kx_a a_n cyI 12 o_21]) hP hD rfl
    refine vx_catch hown [] ⟨0, 14, 17, 13⟩ [] htb (fun z hz => by cases hz) (by decide) (by decide) (hts (.classLink RL 13 EXN) (by decide +kernel)) (va_Nw.use rfl hth.1.1) hce hcv hcl ?_
    refine W.eq (g2 := F0 m 17 ls [.ref q9]) rfl ?_
    have w_1 : (0 : Int) ≤ 1 ∧ laidP o_2 o_5 o_6 o_3 len ∧ sixes o_7 := w_1
    refine W.widen (k := 1) (n := 6) (Nat.le_of_ble_eq_true rfl) (Nat.le_of_ble_eq_true rfl) ?_
    refine lv_astore (lv' := [(6, .ref q9), (0, .ref m_), (1, .int p0), (2, .int p1), (3, .int p2), (4, .int p3), (5, .ref ho)]) hx hb dL_candidate_17 hl (by decide) rfl (fun ls hl => ?_)
    refine lv_iconst (v := 1) hx hb dL_candidate_19 (by decide) ?_
    obtain ⟨hP9, hD9⟩ := kx_sub (w2 := [kx_4 m_ q_row q_t t_ h0 k0 w_ z_ slots o_2, kx_2 q_t q_row q_joined q_from q_to q_size q_lossOf q_lessBy q_value q_number o_3 o_4, kx_0 q_row q_cell len, kx_a q_cell cyI 160 f, kx_a q_from cyI 319 o_5, kx_a q_to cyI 319 o_6, kx_a q_size cyI 319 o_7, kx_a q_lossOf cyI 319 o_8, kx_a q_lessBy cyI 319 o_9, kx_a q_value cyI 1914 o_10, kx_a q_number cyI 1914 o_11, kx_3 q_joined j_v j_n o_12 o_13 o_14, kx_a j_v cyI 12 o_15, kx_a j_n cyI 12 o_16, kx_3 h0 a_v a_n o_17 o_18 o_19, kx_a a_v cyI 12 o_20, kx_a a_n cyI 12 o_21, (ho, .inl (cyL, 1, .inr (.inl ol)))]) hP hD [1, 2, 3, 4, 5, 6, 7, 8, 9, 10, 11, 12, 13, 14, 15, 16, 17, 0] (by decide) rfl
    have hK9 := hK
    exact W.iret (v := 1) hx hb hr (fun t ht hW => ⟨⟨1, (o_2, o_3, o_4, o_5, o_6, o_7, o_8, o_9, o_10, o_11, o_12, o_13, o_14, o_15, o_16, o_17, o_18, o_19, o_20, o_21, ol, (0 : Int32)), rfl, ⟨Or.inr ⟨rfl, w_1.1⟩, w_1.2⟩, by rw [ht]; exact hP9, va_K.moved hW.alike hK9, hD9⟩, hS.F ht⟩) hS.2.2 dL_candidate_20
  · obtain ⟨o_22, o_23, o_24, o_25, o_26, o_27, o_28, o_29, o_30, o_31, o_32, o_33, o_34, o_35, o_36, o_37, o_38, o_39, o_40, o_41⟩ := u
    dsimp only at w_1 hB
    obtain ⟨hP1, hK1, hD1⟩ := hB
    rw [ht] at hP1
    have hK1 := va_K.moved hvm.symm hK1
    obtain ⟨hP, hD⟩ := va_join (wr := [(ho, .inl (cyL, 1, .inr (.inl ol)))]) (w1 := [kx_4 m_ q_row q_t t_ h0 k0 w_ z_ slots o_22, kx_2 q_t q_row q_joined q_from q_to q_size q_lossOf q_lessBy q_value q_number o_23 o_24, kx_0 q_row q_cell len, kx_a q_cell cyI 160 f, kx_a q_from cyI 319 o_25, kx_a q_to cyI 319 o_26, kx_a q_size cyI 319 o_27, kx_a q_lossOf cyI 319 o_28, kx_a q_lessBy cyI 319 o_29, kx_a q_value cyI 1914 o_30, kx_a q_number cyI 1914 o_31, kx_3 q_joined j_v j_n o_32 o_33 o_34, kx_a j_v cyI 12 o_35, kx_a j_n cyI 12 o_36, kx_3 h0 a_v a_n o_37 o_38 o_39, kx_a a_v cyI 12 o_40, kx_a a_n cyI 12 o_41]) hP hD [0, 1, 2, 3, 4, 5, 6, 7, 8, 9, 10, 11, 12, 13, 14, 15, 16] [17] rfl rfl (by decide) (by decide) hk1 hFc hP1 hD1
    clear hP1 hD1 hK1 hk1 hz1 hFc hDc hPc hKc
    generalize H1 = H at hP hS ⊢
    obtain ⟨hP, hD⟩ := kx_re (w2 := [(ho, .inl (cyL, 1, .inr (.inl ol))), kx_4 m_ q_row q_t t_ h0 k0 w_ z_ slots o_22, kx_2 q_t q_row q_joined q_from q_to q_size q_lossOf q_lessBy q_value q_number o_23 o_24, kx_0 q_row q_cell len, kx_a q_cell cyI 160 f, kx_a q_from cyI 319 o_25, kx_a q_to cyI 319 o_26, kx_a q_size cyI 319 o_27, kx_a q_lossOf cyI 319 o_28, kx_a q_lessBy cyI 319 o_29, kx_a q_value cyI 1914 o_30, kx_a q_number cyI 1914 o_31, kx_3 q_joined j_v j_n o_32 o_33 o_34, kx_a j_v cyI 12 o_35, kx_a j_n cyI 12 o_36, kx_3 h0 a_v a_n o_37 o_38 o_39, kx_a a_v cyI 12 o_40, kx_a a_n cyI 12 o_41]) hP hD rfl
    have w_1 : (0 : Int) ≤ 1 ∧ laidP o_22 o_25 o_26 o_23 len ∧ sixes o_27 := w_1
    refine W.widen (k := 1) (n := 6) (Nat.le_of_ble_eq_true rfl) (Nat.le_of_ble_eq_true rfl) ?_
    refine lv_i2l hx hb dL_candidate_12 rfl ?_
    refine va_last hx hb hK hP hD hS 0 1 rfl rfl (ki_inl (by decide)) dL_candidate_13 (fun H locs hP hD hS => ?_)
    obtain ⟨hP, hD⟩ := kx_re (w2 := [(ho, .inl (cyL, 1, .inr (.inl (vp_updL ol (0 : Int32).toNatClampNeg r_1.toInt64)))), kx_4 m_ q_row q_t t_ h0 k0 w_ z_ slots o_22, kx_2 q_t q_row q_joined q_from q_to q_size q_lossOf q_lessBy q_value q_number o_23 o_24, kx_0 q_row q_cell len, kx_a q_cell cyI 160 f, kx_a q_from cyI 319 o_25, kx_a q_to cyI 319 o_26, kx_a q_size cyI 319 o_27, kx_a q_lossOf cyI 319 o_28, kx_a q_lessBy cyI 319 o_29, kx_a q_value cyI 1914 o_30, kx_a q_number cyI 1914 o_31, kx_3 q_joined j_v j_n o_32 o_33 o_34, kx_a j_v cyI 12 o_35, kx_a j_n cyI 12 o_36, kx_3 h0 a_v a_n o_37 o_38 o_39, kx_a a_v cyI 12 o_40, kx_a a_n cyI 12 o_41]) hP hD rfl
    refine lv_goto (tgt := 21) hx hb dL_candidate_14 (by decide) ?_
    refine lv_iconst (v := 0) hx hb dL_candidate_21 (by decide) ?_
    obtain ⟨hP9, hD9⟩ := kx_sub (w2 := [kx_4 m_ q_row q_t t_ h0 k0 w_ z_ slots o_22, kx_2 q_t q_row q_joined q_from q_to q_size q_lossOf q_lessBy q_value q_number o_23 o_24, kx_0 q_row q_cell len, kx_a q_cell cyI 160 f, kx_a q_from cyI 319 o_25, kx_a q_to cyI 319 o_26, kx_a q_size cyI 319 o_27, kx_a q_lossOf cyI 319 o_28, kx_a q_lessBy cyI 319 o_29, kx_a q_value cyI 1914 o_30, kx_a q_number cyI 1914 o_31, kx_3 q_joined j_v j_n o_32 o_33 o_34, kx_a j_v cyI 12 o_35, kx_a j_n cyI 12 o_36, kx_3 h0 a_v a_n o_37 o_38 o_39, kx_a a_v cyI 12 o_40, kx_a a_n cyI 12 o_41, (ho, .inl (cyL, 1, .inr (.inl (vp_updL ol (0 : Int32).toNatClampNeg r_1.toInt64))))]) hP hD [1, 2, 3, 4, 5, 6, 7, 8, 9, 10, 11, 12, 13, 14, 15, 16, 17, 0] (by decide) rfl
    have hK9 := hK
    exact W.iret (v := 0) hx hb hr (fun t ht hW => ⟨⟨0, (o_22, o_23, o_24, o_25, o_26, o_27, o_28, o_29, o_30, o_31, o_32, o_33, o_34, o_35, o_36, o_37, o_38, o_39, o_40, o_41, (vp_updL ol (0 : Int32).toNatClampNeg r_1.toInt64), r_1), rfl, ⟨Or.inl ⟨rfl, w_1.1, rfl⟩, w_1.2⟩, by rw [ht]; exact hP9, va_K.moved hW.alike hK9, hD9⟩, hS.F ht⟩) hS.2.2 dL_candidate_22

set_option maxHeartbeats 4000000 in
set_option maxRecDepth 100000 in
theorem c_L_heavyAt (l : Launch) (hl0 : l.stackTraces = false) (dC : Nat → ClassId) (dI : Nat → Nat → Nat) (m_ : Nat) (q_row : Nat) (q_t : Nat) (t_ : Nat) (h0 : Nat) (k0 : Nat) (w_ : Nat) (z_ : Nat) (slots : Int32) (old : Int32) (q_joined : Nat) (q_from : Nat) (q_to : Nat) (q_size : Nat) (q_lossOf : Nat) (q_lessBy : Nat) (q_value : Nat) (q_number : Nat) (nodes : Int32) (here : Int32) (q_cell : Nat) (cyI : ClassId) (len : Int32) (f : Nat → Int32) (ff : Nat → Int32) (ft : Nat → Int32) (fs : Nat → Int32) (fo : Nat → Int32) (uv : Nat → Int32) (un : Nat → Int32) (fe : Nat → Int32) (j_v : Nat) (j_n : Nat) (js : Int32) (jl : Int32) (je : Int32) (jv : Nat → Int32) (jn : Nat → Int32) (a_v : Nat) (a_n : Nat) (vs : Int32) (lo : Int32) (le : Int32) (fv : Nat → Int32) (fn : Nat → Int32) (p0 : Int32) (p1 : Int32) (p2 : Int32) (p3 : Int32) (p4 : Int32) (p5 : Int32) (cyL : ClassId) (ho : Nat) (ol : Nat → Int64) (sz : Nat) (a0 : 0 ≤ len.toInt) (a1 : len.toInt ≤ 160) (s0 : sixes fs) (l0 : laidP old ff ft nodes len) : Met l yL_heavyAt wsL_heavyAt ({ frames := 9, cells := 1, slots := 6, locals := 405 }) (va_Pc [.ref m_, .int p0, .int p1, .int p2, .int p3, .int p4, .int p5, .ref ho] (fun U => U.heap.size = sz ∧ va_P (dC, dI) vwCl [kx_4 m_ q_row q_t t_ h0 k0 w_ z_ slots old, kx_2 q_t q_row q_joined q_from q_to q_size q_lossOf q_lessBy q_value q_number nodes here, kx_0 q_row q_cell len, kx_a q_cell cyI 160 f, kx_a q_from cyI 319 ff, kx_a q_to cyI 319 ft, kx_a q_size cyI 319 fs, kx_a q_lossOf cyI 319 fo, kx_a q_lessBy cyI 319 fe, kx_a q_value cyI 1914 uv, kx_a q_number cyI 1914 un, kx_3 q_joined j_v j_n js jl je, kx_a j_v cyI 12 jv, kx_a j_n cyI 12 jn, kx_3 h0 a_v a_n vs lo le, kx_a a_v cyI 12 fv, kx_a a_n cyI 12 fn, (ho, .inl (cyL, 1, .inr (.inl ol)))] U.heap ∧ va_K (dC, dI) vwCl [(cyI, .int), (cyL, .long)] U ∧ va_D (fun _ => True) [kx_4 m_ q_row q_t t_ h0 k0 w_ z_ slots old, kx_2 q_t q_row q_joined q_from q_to q_size q_lossOf q_lessBy q_value q_number nodes here, kx_0 q_row q_cell len, kx_a q_cell cyI 160 f, kx_a q_from cyI 319 ff, kx_a q_to cyI 319 ft, kx_a q_size cyI 319 fs, kx_a q_lossOf cyI 319 fo, kx_a q_lessBy cyI 319 fe, kx_a q_value cyI 1914 uv, kx_a q_number cyI 1914 un, kx_3 q_joined j_v j_n js jl je, kx_a j_v cyI 12 jv, kx_a j_n cyI 12 jn, kx_3 h0 a_v a_n vs lo le, kx_a a_v cyI 12 fv, kx_a a_n cyI 12 fn, (ho, .inl (cyL, 1, .inr (.inl ol)))] ∧ va_Nw (.methodLinkNest RX3 42 yX4_isHeavy RX4) U ∧ ki_ThA (va_A [kx_4 m_ q_row q_t t_ h0 k0 w_ z_ slots old, kx_2 q_t q_row q_joined q_from q_to q_size q_lossOf q_lessBy q_value q_number nodes here, kx_0 q_row q_cell len, kx_a q_cell cyI 160 f, kx_a q_from cyI 319 ff, kx_a q_to cyI 319 ft, kx_a q_size cyI 319 fs, kx_a q_lossOf cyI 319 fo, kx_a q_lessBy cyI 319 fe, kx_a q_value cyI 1914 uv, kx_a q_number cyI 1914 un, kx_3 q_joined j_v j_n js jl je, kx_a j_v cyI 12 jv, kx_a j_n cyI 12 jn, kx_3 h0 a_v a_n vs lo le, kx_a a_v cyI 12 fv, kx_a a_n cyI 12 fn, (ho, .inl (cyL, 1, .inr (.inl ol)))] sz) U)) (va_Qi (fun (r : Int32) (u : Int32 × Int32 × Int32 × (Nat → Int32) × (Nat → Int32) × (Nat → Int32) × (Nat → Int32) × (Nat → Int32) × (Nat → Int32) × (Nat → Int32) × Int32 × Int32 × Int32 × (Nat → Int32) × (Nat → Int32) × Int32 × Int32 × Int32 × (Nat → Int32) × (Nat → Int32) × (Nat → Int64) × Int32) => ((r = 0 ∧ ((0 : Int) ≤ 1) ∧ u.2.2.2.2.2.2.2.2.2.2.2.2.2.2.2.2.2.2.2.2.1 = vp_updL ol (0 : Int32).toNatClampNeg u.2.2.2.2.2.2.2.2.2.2.2.2.2.2.2.2.2.2.2.2.2.toInt64) ∨ (r = 1 ∧ ((0 : Int) ≤ 1))) ∧ laidP u.1 u.2.2.2.1 u.2.2.2.2.1 u.2.1 len ∧ sixes u.2.2.2.2.2.1) (fun (u : Int32 × Int32 × Int32 × (Nat → Int32) × (Nat → Int32) × (Nat → Int32) × (Nat → Int32) × (Nat → Int32) × (Nat → Int32) × (Nat → Int32) × Int32 × Int32 × Int32 × (Nat → Int32) × (Nat → Int32) × Int32 × Int32 × Int32 × (Nat → Int32) × (Nat → Int32) × (Nat → Int64) × Int32) (t : State) => va_P (dC, dI) vwCl [kx_4 m_ q_row q_t t_ h0 k0 w_ z_ slots u.1, kx_2 q_t q_row q_joined q_from q_to q_size q_lossOf q_lessBy q_value q_number u.2.1 u.2.2.1, kx_0 q_row q_cell len, kx_a q_cell cyI 160 f, kx_a q_from cyI 319 u.2.2.2.1, kx_a q_to cyI 319 u.2.2.2.2.1, kx_a q_size cyI 319 u.2.2.2.2.2.1, kx_a q_lossOf cyI 319 u.2.2.2.2.2.2.1, kx_a q_lessBy cyI 319 u.2.2.2.2.2.2.2.1, kx_a q_value cyI 1914 u.2.2.2.2.2.2.2.2.1, kx_a q_number cyI 1914 u.2.2.2.2.2.2.2.2.2.1, kx_3 q_joined j_v j_n u.2.2.2.2.2.2.2.2.2.2.1 u.2.2.2.2.2.2.2.2.2.2.2.1 u.2.2.2.2.2.2.2.2.2.2.2.2.1, kx_a j_v cyI 12 u.2.2.2.2.2.2.2.2.2.2.2.2.2.1, kx_a j_n cyI 12 u.2.2.2.2.2.2.2.2.2.2.2.2.2.2.1, kx_3 h0 a_v a_n u.2.2.2.2.2.2.2.2.2.2.2.2.2.2.2.1 u.2.2.2.2.2.2.2.2.2.2.2.2.2.2.2.2.1 u.2.2.2.2.2.2.2.2.2.2.2.2.2.2.2.2.2.1, kx_a a_v cyI 12 u.2.2.2.2.2.2.2.2.2.2.2.2.2.2.2.2.2.2.1, kx_a a_n cyI 12 u.2.2.2.2.2.2.2.2.2.2.2.2.2.2.2.2.2.2.2.1, (ho, .inl (cyL, 1, .inr (.inl u.2.2.2.2.2.2.2.2.2.2.2.2.2.2.2.2.2.2.2.2.1)))] t.heap ∧ va_K (dC, dI) vwCl [(cyI, .int), (cyL, .long)] t ∧ va_D (va_A [kx_4 m_ q_row q_t t_ h0 k0 w_ z_ slots old, kx_2 q_t q_row q_joined q_from q_to q_size q_lossOf q_lessBy q_value q_number nodes here, kx_0 q_row q_cell len, kx_a q_cell cyI 160 f, kx_a q_from cyI 319 ff, kx_a q_to cyI 319 ft, kx_a q_size cyI 319 fs, kx_a q_lossOf cyI 319 fo, kx_a q_lessBy cyI 319 fe, kx_a q_value cyI 1914 uv, kx_a q_number cyI 1914 un, kx_3 q_joined j_v j_n js jl je, kx_a j_v cyI 12 jv, kx_a j_n cyI 12 jn, kx_3 h0 a_v a_n vs lo le, kx_a a_v cyI 12 fv, kx_a a_n cyI 12 fn, (ho, .inl (cyL, 1, .inr (.inl ol)))] sz) [kx_4 m_ q_row q_t t_ h0 k0 w_ z_ slots u.1, kx_2 q_t q_row q_joined q_from q_to q_size q_lossOf q_lessBy q_value q_number u.2.1 u.2.2.1, kx_0 q_row q_cell len, kx_a q_cell cyI 160 f, kx_a q_from cyI 319 u.2.2.2.1, kx_a q_to cyI 319 u.2.2.2.2.1, kx_a q_size cyI 319 u.2.2.2.2.2.1, kx_a q_lossOf cyI 319 u.2.2.2.2.2.2.1, kx_a q_lessBy cyI 319 u.2.2.2.2.2.2.2.1, kx_a q_value cyI 1914 u.2.2.2.2.2.2.2.2.1, kx_a q_number cyI 1914 u.2.2.2.2.2.2.2.2.2.1, kx_3 q_joined j_v j_n u.2.2.2.2.2.2.2.2.2.2.1 u.2.2.2.2.2.2.2.2.2.2.2.1 u.2.2.2.2.2.2.2.2.2.2.2.2.1, kx_a j_v cyI 12 u.2.2.2.2.2.2.2.2.2.2.2.2.2.1, kx_a j_n cyI 12 u.2.2.2.2.2.2.2.2.2.2.2.2.2.2.1, kx_3 h0 a_v a_n u.2.2.2.2.2.2.2.2.2.2.2.2.2.2.2.1 u.2.2.2.2.2.2.2.2.2.2.2.2.2.2.2.2.1 u.2.2.2.2.2.2.2.2.2.2.2.2.2.2.2.2.2.1, kx_a a_v cyI 12 u.2.2.2.2.2.2.2.2.2.2.2.2.2.2.2.2.2.2.1, kx_a a_n cyI 12 u.2.2.2.2.2.2.2.2.2.2.2.2.2.2.2.2.2.2.2.1, (ho, .inl (cyL, 1, .inr (.inl u.2.2.2.2.2.2.2.2.2.2.2.2.2.2.2.2.2.2.2.2.1)))]) (va_A [kx_4 m_ q_row q_t t_ h0 k0 w_ z_ slots old, kx_2 q_t q_row q_joined q_from q_to q_size q_lossOf q_lessBy q_value q_number nodes here, kx_0 q_row q_cell len, kx_a q_cell cyI 160 f, kx_a q_from cyI 319 ff, kx_a q_to cyI 319 ft, kx_a q_size cyI 319 fs, kx_a q_lossOf cyI 319 fo, kx_a q_lessBy cyI 319 fe, kx_a q_value cyI 1914 uv, kx_a q_number cyI 1914 un, kx_3 q_joined j_v j_n js jl je, kx_a j_v cyI 12 jv, kx_a j_n cyI 12 jn, kx_3 h0 a_v a_n vs lo le, kx_a a_v cyI 12 fv, kx_a a_n cyI 12 fn, (ho, .inl (cyL, 1, .inr (.inl ol)))] sz)) 1 6 (va_A [kx_4 m_ q_row q_t t_ h0 k0 w_ z_ slots old, kx_2 q_t q_row q_joined q_from q_to q_size q_lossOf q_lessBy q_value q_number nodes here, kx_0 q_row q_cell len, kx_a q_cell cyI 160 f, kx_a q_from cyI 319 ff, kx_a q_to cyI 319 ft, kx_a q_size cyI 319 fs, kx_a q_lossOf cyI 319 fo, kx_a q_lessBy cyI 319 fe, kx_a q_value cyI 1914 uv, kx_a q_number cyI 1914 un, kx_3 q_joined j_v j_n js jl je, kx_a j_v cyI 12 jv, kx_a j_n cyI 12 jn, kx_3 h0 a_v a_n vs lo le, kx_a a_v cyI 12 fv, kx_a a_n cyI 12 fn, (ho, .inl (cyL, 1, .inr (.inl ol)))] sz) := by
  refine va_MetW (cc := cL_heavyAt) (maxL := 9) (ret := (some .int)) (hh := [(0, 18, 21, 13)]) (by decide) rfl ?_
  intro p e s m args below meth c s₁ B hml hv
  obtain ⟨rfl, hsz, hP, hK, hD0, hN0, hth⟩ := hv
  have hx := B.exec
  have hb := B.bytes
  have hr := B.returns
  have hts := atoms_spec (ws := wsL_heavyAt) B.pre
  have hown : s.vm.findClass RL = some m.cls := findClass_of_methodNamed B.named
  have hlocks := B.notSynchronized
  have htb : c.exceptionTable.toList = tableOf [(0, 18, 21, 13)] := vx_table (x := yL_heavyAt) B (hts (.codeWith yL_heavyAt cL_heavyAt 9 (some .int) [(0, 18, 21, 13)]) List.mem_cons_self)
  subst hsz
  have hD := hD0.self (sz := s.heap.size)
  generalize hAe : va_A [kx_4 m_ q_row q_t t_ h0 k0 w_ z_ slots old, kx_2 q_t q_row q_joined q_from q_to q_size q_lossOf q_lessBy q_value q_number nodes here, kx_0 q_row q_cell len, kx_a q_cell cyI 160 f, kx_a q_from cyI 319 ff, kx_a q_to cyI 319 ft, kx_a q_size cyI 319 fs, kx_a q_lossOf cyI 319 fo, kx_a q_lessBy cyI 319 fe, kx_a q_value cyI 1914 uv, kx_a q_number cyI 1914 un, kx_3 q_joined j_v j_n js jl je, kx_a j_v cyI 12 jv, kx_a j_n cyI 12 jn, kx_3 h0 a_v a_n vs lo le, kx_a a_v cyI 12 fv, kx_a a_n cyI 12 fn, (ho, .inl (cyL, 1, .inr (.inl ol)))] s.heap.size = A at hD hth ⊢
  have hA : ∀ q : Nat, s.heap.size ≤ q → A q := fun q h => by rw [← hAe]; exact Or.inr h
  have hS : va_S A s.heap s.heap [] := va_S.rf
  have hP : va_P (dC, dI) vwCl [kx_4 m_ q_row q_t t_ h0 k0 w_ z_ slots old, kx_2 q_t q_row q_joined q_from q_to q_size q_lossOf q_lessBy q_value q_number nodes here, kx_0 q_row q_cell len, kx_a q_cell cyI 160 f, kx_a q_from cyI 319 ff, kx_a q_to cyI 319 ft, kx_a q_size cyI 319 fs, kx_a q_lossOf cyI 319 fo, kx_a q_lessBy cyI 319 fe, kx_a q_value cyI 1914 uv, kx_a q_number cyI 1914 un, kx_3 q_joined j_v j_n js jl je, kx_a j_v cyI 12 jv, kx_a j_n cyI 12 jn, kx_3 h0 a_v a_n vs lo le, kx_a a_v cyI 12 fv, kx_a a_n cyI 12 fn, (ho, .inl (cyL, 1, .inr (.inl ol)))] s.heap := hP
  have hl := lv_entry ([.ref m_, .int p0, .int p1, .int p2, .int p3, .int p4, .int p5, .ref ho]) (n := 9) (Nat.le_of_ble_eq_true rfl)
  rw [lg_entry_eq]
  generalize (lg_sl ([.ref m_, .int p0, .int p1, .int p2, .int p3, .int p4, .int p5, .ref ho]) ++ List.replicate (9 - (lg_sl ([.ref m_, .int p0, .int p1, .int p2, .int p3, .int p4, .int p5, .ref ho])).length) Slot.unset).toArray = ls at hl ⊢
  have hl : lv_has ls 9 [(0, .ref m_), (1, .int p0), (2, .int p1), (3, .int p2), (4, .int p3), (5, .int p4), (6, .int p5), (7, .ref ho)] := hl
  refine lv_aload hx hb dL_heavyAt_0 (lv_at hl 7 rfl) ?_
  refine lv_iconst (v := 0) hx hb dL_heavyAt_2 (by decide) ?_
  refine lv_aload_n hx hb dL_heavyAt_3 rfl (lv_at hl 0 rfl) ?_
  refine lv_iload_n hx hb dL_heavyAt_4 rfl (lv_at hl 1 rfl) ?_
  refine lv_iload_n hx hb dL_heavyAt_5 rfl (lv_at hl 2 rfl) ?_
  refine lv_iload_n hx hb dL_heavyAt_6 rfl (lv_at hl 3 rfl) ?_
  refine lv_iload hx hb dL_heavyAt_7 (lv_at hl 4 rfl) ?_
  refine lv_iload hx hb dL_heavyAt_9 (lv_at hl 5 rfl) ?_
  refine lv_iload hx hb dL_heavyAt_11 (lv_at hl 6 rfl) ?_
  have hPc := hP.sub (ws' := [kx_4 m_ q_row q_t t_ h0 k0 w_ z_ slots old, kx_2 q_t q_row q_joined q_from q_to q_size q_lossOf q_lessBy q_value q_number nodes here, kx_0 q_row q_cell len, kx_a q_cell cyI 160 f, kx_a q_from cyI 319 ff, kx_a q_to cyI 319 ft, kx_a q_size cyI 319 fs, kx_a q_lossOf cyI 319 fo, kx_a q_lessBy cyI 319 fe, kx_a q_value cyI 1914 uv, kx_a q_number cyI 1914 un, kx_3 q_joined j_v j_n js jl je, kx_a j_v cyI 12 jv, kx_a j_n cyI 12 jn, kx_3 h0 a_v a_n vs lo le, kx_a a_v cyI 12 fv, kx_a a_n cyI 12 fn]) [0, 1, 2, 3, 4, 5, 6, 7, 8, 9, 10, 11, 12, 13, 14, 15, 16] rfl
  have hKc := hK.sub (tys' := [(cyI, .int)]) [0] rfl
  have hDc := hD.sub (ws' := [kx_4 m_ q_row q_t t_ h0 k0 w_ z_ slots old, kx_2 q_t q_row q_joined q_from q_to q_size q_lossOf q_lessBy q_value q_number nodes here, kx_0 q_row q_cell len, kx_a q_cell cyI 160 f, kx_a q_from cyI 319 ff, kx_a q_to cyI 319 ft, kx_a q_size cyI 319 fs, kx_a q_lossOf cyI 319 fo, kx_a q_lessBy cyI 319 fe, kx_a q_value cyI 1914 uv, kx_a q_number cyI 1914 un, kx_3 q_joined j_v j_n js jl je, kx_a j_v cyI 12 jv, kx_a j_n cyI 12 jn, kx_3 h0 a_v a_n vs lo le, kx_a a_v cyI 12 fv, kx_a a_n cyI 12 fn]) [0, 1, 2, 3, 4, 5, 6, 7, 8, 9, 10, 11, 12, 13, 14, 15, 16] (by decide) rfl
  have hFc := va_free (wc := [kx_4 m_ q_row q_t t_ h0 k0 w_ z_ slots old, kx_2 q_t q_row q_joined q_from q_to q_size q_lossOf q_lessBy q_value q_number nodes here, kx_0 q_row q_cell len, kx_a q_cell cyI 160 f, kx_a q_from cyI 319 ff, kx_a q_to cyI 319 ft, kx_a q_size cyI 319 fs, kx_a q_lossOf cyI 319 fo, kx_a q_lessBy cyI 319 fe, kx_a q_value cyI 1914 uv, kx_a q_number cyI 1914 un, kx_3 q_joined j_v j_n js jl je, kx_a j_v cyI 12 jv, kx_a j_n cyI 12 jn, kx_3 h0 a_v a_n vs lo le, kx_a a_v cyI 12 fv, kx_a a_n cyI 12 fn]) hD hS hA [0, 1, 2, 3, 4, 5, 6, 7, 8, 9, 10, 11, 12, 13, 14, 15, 16] rfl
  refine vx_calli (vx_runV (As := [.int p0, .int p1, .int p2, .int p3, .int p4, .int p5]) (rest := [.int 0, .ref ho]) ⟨hx, hb, hml, hown, hts⟩ (c_X4_heavyAt l hl0 dC dI m_ q_row q_t t_ h0 k0 w_ z_ slots old q_joined q_from q_to q_size q_lossOf q_lessBy q_value q_number nodes here q_cell cyI len f ff ft fs fo uv un fe j_v j_n js jl je jv jn a_v a_n vs lo le fv fn p0 p1 p2 p3 p4 p5 s.heap.size a0 a1 s0 l0) (cwV 6 hts gL_heavyAt_X4_heavyAt rfl rfl rfl (by decide +kernel) ⟨Nat.le_of_ble_eq_true rfl, Nat.le_of_ble_eq_true rfl⟩) ⟨fun a U g mk q => by obtain ⟨q0, q1, qP, qK, qD, qn0, qT⟩ := q; exact ⟨q0, q1, qP, va_K.moved (u := U) (U := U.calling g mk a) (Vm.Alike.refl U.vm) qK, qD, va_Nw.same (u := U) (U := U.calling g mk a) rfl rfl qn0, qT.call g mk a⟩, va_recv hKc hPc (ci := 4) (q0 := 0) rfl rfl, fun U hU hW => ⟨rfl, by rw [hU], by rw [hU]; exact hPc, va_K.moved hW.alike hKc, hDc.weaken (fun _ _ _ _ => trivial), va_Nw.warmM hW hN0, hth.from hS hU hW hFc⟩⟩ rfl rfl hl.1 rfl (lv_room (Nat.le_of_ble_eq_true rfl)) dL_heavyAt_13 ⟨Nat.le_of_ble_eq_true rfl, Nat.le_of_ble_eq_true rfl⟩) hS (fun q _ h => hFc q h) hFc (fun q _ h => hFc q h) (fun E ce q9 u t H1 locs ht hvm w_1 hB hz1 hk1 hS hce hcv hcl => ?_) (fun r_1 u t H1 locs ht hvm w_1 hB hz1 hk1 hS => ?_)
  · obtain ⟨o_2, o_3, o_4, o_5, o_6, o_7, o_8, o_9, o_10, o_11, o_12, o_13, o_14, o_15, o_16, o_17, o_18, o_19, o_20, o_21⟩ := u
    dsimp only at w_1 hB
    obtain ⟨hE, hP1, hK1, hD1⟩ := hB
    subst hE
    rw [ht] at hP1
    have hK1 := va_K.moved hvm.symm hK1
    obtain ⟨hP, hD⟩ := va_join (wr := [(ho, .inl (cyL, 1, .inr (.inl ol)))]) (w1 := [kx_4 m_ q_row q_t t_ h0 k0 w_ z_ slots o_2, kx_2 q_t q_row q_joined q_from q_to q_size q_lossOf q_lessBy q_value q_number o_3 o_4, kx_0 q_row q_cell len, kx_a q_cell cyI 160 f, kx_a q_from cyI 319 o_5, kx_a q_to cyI 319 o_6, kx_a q_size cyI 319 o_7, kx_a q_lossOf cyI 319 o_8, kx_a q_lessBy cyI 319 o_9, kx_a q_value cyI 1914 o_10, kx_a q_number cyI 1914 o_11, kx_3 q_joined j_v j_n o_12 o_13 o_14, kx_a j_v cyI 12 o_15, kx_a j_n cyI 12 o_16, kx_3 h0 a_v a_n o_17 o_18 o_19, kx_a a_v cyI 12 o_20, kx_a a_n cyI 12 o_21]) hP hD [0, 1, 2, 3, 4, 5, 6, 7, 8, 9, 10, 11, 12, 13, 14, 15, 16] [17] rfl rfl (by decide) (by decide) hk1 hFc hP1 hD1
    clear hP1 hD1 hK1 hk1 hz1 hFc hDc hPc hKc
    generalize H1 = H at hP hS hce ⊢
    obtain ⟨hP, hD⟩ := kx_re (w2 := [(ho, .inl (cyL, 1, .inr (.inl ol))), kx_4 m_ q_row q_t t_ h0 k0 w_ z_ slots o_2, kx_2 q_t q_row q_joined q_from q_to q_size q_lossOf q_lessBy q_value q_number o_3 o_4, kx_0 q_row q_cell len, kx_a q_cell cyI 160 f, kx_a q_from cyI 319 o_5, kx_a q_to cyI 319 o_6, kx_a q_size cyI 319 o_7, kx_a q_lossOf cyI 319 o_8, kx_a q_lessBy cyI 319 o_9, kx_a q_value cyI 1914 o_10, kx_a q_number cyI 1914 o_11, kx_3 q_joined j_v j_n o_12 o_13 o_14, kx_a j_v cyI 12 o_15, kx_a j_n cyI 12 o_16, kx_3 h0 a_v a_n o_17 o_18 o_19, kx_a a_v cyI 12 o_20, kx_a a_n cyI 12 o_21]) hP hD rfl
    refine vx_catch hown [] ⟨0, 18, 21, 13⟩ [] htb (fun z hz => by cases hz) (by decide) (by decide) (hts (.classLink RL 13 EXN) (by decide +kernel)) (va_Nw.use rfl hth.1.1) hce hcv hcl ?_
    refine W.eq (g2 := F0 m 21 ls [.ref q9]) rfl ?_
    have w_1 : (0 : Int) ≤ 1 ∧ laidP o_2 o_5 o_6 o_3 len ∧ sixes o_7 := w_1
    refine W.widen (k := 1) (n := 6) (Nat.le_of_ble_eq_true rfl) (Nat.le_of_ble_eq_true rfl) ?_
    refine lv_astore (lv' := [(8, .ref q9), (0, .ref m_), (1, .int p0), (2, .int p1), (3, .int p2), (4, .int p3), (5, .int p4), (6, .int p5), (7, .ref ho)]) hx hb dL_heavyAt_21 hl (by decide) rfl (fun ls hl => ?_)
    refine lv_iconst (v := 1) hx hb dL_heavyAt_23 (by decide) ?_
    obtain ⟨hP9, hD9⟩ := kx_sub (w2 := [kx_4 m_ q_row q_t t_ h0 k0 w_ z_ slots o_2, kx_2 q_t q_row q_joined q_from q_to q_size q_lossOf q_lessBy q_value q_number o_3 o_4, kx_0 q_row q_cell len, kx_a q_cell cyI 160 f, kx_a q_from cyI 319 o_5, kx_a q_to cyI 319 o_6, kx_a q_size cyI 319 o_7, kx_a q_lossOf cyI 319 o_8, kx_a q_lessBy cyI 319 o_9, kx_a q_value cyI 1914 o_10, kx_a q_number cyI 1914 o_11, kx_3 q_joined j_v j_n o_12 o_13 o_14, kx_a j_v cyI 12 o_15, kx_a j_n cyI 12 o_16, kx_3 h0 a_v a_n o_17 o_18 o_19, kx_a a_v cyI 12 o_20, kx_a a_n cyI 12 o_21, (ho, .inl (cyL, 1, .inr (.inl ol)))]) hP hD [1, 2, 3, 4, 5, 6, 7, 8, 9, 10, 11, 12, 13, 14, 15, 16, 17, 0] (by decide) rfl
    have hK9 := hK
    exact W.iret (v := 1) hx hb hr (fun t ht hW => ⟨⟨1, (o_2, o_3, o_4, o_5, o_6, o_7, o_8, o_9, o_10, o_11, o_12, o_13, o_14, o_15, o_16, o_17, o_18, o_19, o_20, o_21, ol, (0 : Int32)), rfl, ⟨Or.inr ⟨rfl, w_1.1⟩, w_1.2⟩, by rw [ht]; exact hP9, va_K.moved hW.alike hK9, hD9⟩, hS.F ht⟩) hS.2.2 dL_heavyAt_24
  · obtain ⟨o_22, o_23, o_24, o_25, o_26, o_27, o_28, o_29, o_30, o_31, o_32, o_33, o_34, o_35, o_36, o_37, o_38, o_39, o_40, o_41⟩ := u
    dsimp only at w_1 hB
    obtain ⟨hP1, hK1, hD1⟩ := hB
    rw [ht] at hP1
    have hK1 := va_K.moved hvm.symm hK1
    obtain ⟨hP, hD⟩ := va_join (wr := [(ho, .inl (cyL, 1, .inr (.inl ol)))]) (w1 := [kx_4 m_ q_row q_t t_ h0 k0 w_ z_ slots o_22, kx_2 q_t q_row q_joined q_from q_to q_size q_lossOf q_lessBy q_value q_number o_23 o_24, kx_0 q_row q_cell len, kx_a q_cell cyI 160 f, kx_a q_from cyI 319 o_25, kx_a q_to cyI 319 o_26, kx_a q_size cyI 319 o_27, kx_a q_lossOf cyI 319 o_28, kx_a q_lessBy cyI 319 o_29, kx_a q_value cyI 1914 o_30, kx_a q_number cyI 1914 o_31, kx_3 q_joined j_v j_n o_32 o_33 o_34, kx_a j_v cyI 12 o_35, kx_a j_n cyI 12 o_36, kx_3 h0 a_v a_n o_37 o_38 o_39, kx_a a_v cyI 12 o_40, kx_a a_n cyI 12 o_41]) hP hD [0, 1, 2, 3, 4, 5, 6, 7, 8, 9, 10, 11, 12, 13, 14, 15, 16] [17] rfl rfl (by decide) (by decide) hk1 hFc hP1 hD1
    clear hP1 hD1 hK1 hk1 hz1 hFc hDc hPc hKc
    generalize H1 = H at hP hS ⊢
    obtain ⟨hP, hD⟩ := kx_re (w2 := [(ho, .inl (cyL, 1, .inr (.inl ol))), kx_4 m_ q_row q_t t_ h0 k0 w_ z_ slots o_22, kx_2 q_t q_row q_joined q_from q_to q_size q_lossOf q_lessBy q_value q_number o_23 o_24, kx_0 q_row q_cell len, kx_a q_cell cyI 160 f, kx_a q_from cyI 319 o_25, kx_a q_to cyI 319 o_26, kx_a q_size cyI 319 o_27, kx_a q_lossOf cyI 319 o_28, kx_a q_lessBy cyI 319 o_29, kx_a q_value cyI 1914 o_30, kx_a q_number cyI 1914 o_31, kx_3 q_joined j_v j_n o_32 o_33 o_34, kx_a j_v cyI 12 o_35, kx_a j_n cyI 12 o_36, kx_3 h0 a_v a_n o_37 o_38 o_39, kx_a a_v cyI 12 o_40, kx_a a_n cyI 12 o_41]) hP hD rfl
    have w_1 : (0 : Int) ≤ 1 ∧ laidP o_22 o_25 o_26 o_23 len ∧ sixes o_27 := w_1
    refine W.widen (k := 1) (n := 6) (Nat.le_of_ble_eq_true rfl) (Nat.le_of_ble_eq_true rfl) ?_
    refine lv_i2l hx hb dL_heavyAt_16 rfl ?_
    refine va_last hx hb hK hP hD hS 0 1 rfl rfl (ki_inl (by decide)) dL_heavyAt_17 (fun H locs hP hD hS => ?_)
    obtain ⟨hP, hD⟩ := kx_re (w2 := [(ho, .inl (cyL, 1, .inr (.inl (vp_updL ol (0 : Int32).toNatClampNeg r_1.toInt64)))), kx_4 m_ q_row q_t t_ h0 k0 w_ z_ slots o_22, kx_2 q_t q_row q_joined q_from q_to q_size q_lossOf q_lessBy q_value q_number o_23 o_24, kx_0 q_row q_cell len, kx_a q_cell cyI 160 f, kx_a q_from cyI 319 o_25, kx_a q_to cyI 319 o_26, kx_a q_size cyI 319 o_27, kx_a q_lossOf cyI 319 o_28, kx_a q_lessBy cyI 319 o_29, kx_a q_value cyI 1914 o_30, kx_a q_number cyI 1914 o_31, kx_3 q_joined j_v j_n o_32 o_33 o_34, kx_a j_v cyI 12 o_35, kx_a j_n cyI 12 o_36, kx_3 h0 a_v a_n o_37 o_38 o_39, kx_a a_v cyI 12 o_40, kx_a a_n cyI 12 o_41]) hP hD rfl
    refine lv_goto (tgt := 25) hx hb dL_heavyAt_18 (by decide) ?_
    refine lv_iconst (v := 0) hx hb dL_heavyAt_25 (by decide) ?_
    obtain ⟨hP9, hD9⟩ := kx_sub (w2 := [kx_4 m_ q_row q_t t_ h0 k0 w_ z_ slots o_22, kx_2 q_t q_row q_joined q_from q_to q_size q_lossOf q_lessBy q_value q_number o_23 o_24, kx_0 q_row q_cell len, kx_a q_cell cyI 160 f, kx_a q_from cyI 319 o_25, kx_a q_to cyI 319 o_26, kx_a q_size cyI 319 o_27, kx_a q_lossOf cyI 319 o_28, kx_a q_lessBy cyI 319 o_29, kx_a q_value cyI 1914 o_30, kx_a q_number cyI 1914 o_31, kx_3 q_joined j_v j_n o_32 o_33 o_34, kx_a j_v cyI 12 o_35, kx_a j_n cyI 12 o_36, kx_3 h0 a_v a_n o_37 o_38 o_39, kx_a a_v cyI 12 o_40, kx_a a_n cyI 12 o_41, (ho, .inl (cyL, 1, .inr (.inl (vp_updL ol (0 : Int32).toNatClampNeg r_1.toInt64))))]) hP hD [1, 2, 3, 4, 5, 6, 7, 8, 9, 10, 11, 12, 13, 14, 15, 16, 17, 0] (by decide) rfl
    have hK9 := hK
    exact W.iret (v := 0) hx hb hr (fun t ht hW => ⟨⟨0, (o_22, o_23, o_24, o_25, o_26, o_27, o_28, o_29, o_30, o_31, o_32, o_33, o_34, o_35, o_36, o_37, o_38, o_39, o_40, o_41, (vp_updL ol (0 : Int32).toNatClampNeg r_1.toInt64), r_1), rfl, ⟨Or.inl ⟨rfl, w_1.1, rfl⟩, w_1.2⟩, by rw [ht]; exact hP9, va_K.moved hW.alike hK9, hD9⟩, hS.F ht⟩) hS.2.2 dL_heavyAt_26



/-! counting, first ones, majorities -/
theorem cnt_two {f : Nat → Int32} {v w : Int32} (h : ¬ v = w) (l : Nat) : ∀ k : Nat, cnt f v l k + cnt f w l k ≤ k
  | 0 => Nat.le_refl 0
  | k + 1 => by
    have ih := cnt_two (f := f) h l k
    simp only [cnt]
    by_cases h1 : f (l + k) = v
    · rw [if_pos h1, if_neg (fun e => h (h1.symm.trans e))]
      omega
    · rw [if_neg h1]
      split <;> omega
theorem cnt_pos {f : Nat → Int32} {v : Int32} {l : Nat} : ∀ {k : Nat}, 0 < cnt f v l k → ∃ j : Nat, j < k ∧ f (l + j) = v
  | 0, h => absurd h (Nat.lt_irrefl 0)
  | k + 1, h => by
    by_cases h1 : f (l + k) = v
    · exact ⟨k, Nat.lt_succ_self k, h1⟩
    · simp only [cnt] at h
      rw [if_neg h1] at h
      obtain ⟨j, hj, e⟩ := cnt_pos (k := k) h
      exact ⟨j, by omega, e⟩
theorem cnt_hit1 {f : Nat → Int32} {v : Int32} {l k k2 : Nat} (e : f (l + k) = v) (h : k2 = k + 1) : cnt f v l k2 = cnt f v l k + 1 := by
  subst h
  simp only [cnt]
  rw [if_pos e]
theorem cnt_miss1 {f : Nat → Int32} {v : Int32} {l k k2 : Nat} (e : ¬ f (l + k) = v) (h : k2 = k + 1) : cnt f v l k2 = cnt f v l k := by
  subst h
  simp only [cnt]
  rw [if_neg e]
  omega
theorem mj_maj_uni {f : Nat → Int32} {l r : Nat} {v w : Int32} (h : mj_maj f l r v) (h2 : mj_maj f l r w) : v = w := by
  by_cases e : v = w
  · exact e
  · exfalso
    rcases h with ⟨k, a1, a2, a3, a4⟩ | ⟨a1, a2⟩ <;> rcases h2 with ⟨j, b1, b2, b3, b4⟩ | ⟨b1, b2⟩
    · have := cnt_two (f := f) e l (r - l)
      omega
    · have := b2 k a1 a2
      rw [a3] at this
      omega
    · have := a2 j b1 b2
      rw [b3] at this
      omega
    · exact e (a1.trans b1.symm)
/-- votes of unlike ones cancelled: what is left, by how much -/
def mj_bm (f : Nat → Int32) (l : Nat) (v : Int32) (n : Nat) (lead : Int) : Prop := 0 ≤ lead ∧ 2 * (cnt f v l n : Int) ≤ (n : Int) + lead ∧ ∀ w : Int32, ¬ w = v → 2 * (cnt f w l n : Int) ≤ (n : Int) - lead
theorem mj_bm_0 (f : Nat → Int32) (l : Nat) (v : Int32) {n : Nat} {lead : Int} (hn : n = 0) (h : lead = 0) : mj_bm f l v n lead := by
  subst hn; subst h
  exact ⟨Int.le_refl 0, Int.le_refl 0, fun w _ => Int.le_refl 0⟩
theorem mj_bm_new {f : Nat → Int32} {l n n2 : Nat} {v x : Int32} {lead : Int} (h : mj_bm f l v n lead) (h0 : lead = 0) (e : x = f (l + n)) (en : n2 = n + 1) : mj_bm f l x n2 1 := by
  obtain ⟨-, h2, h3⟩ := h
  subst h0
  have all : ∀ w : Int32, 2 * (cnt f w l n : Int) ≤ (n : Int) := fun w => by
    by_cases hw : w = v
    · subst hw; omega
    · have := h3 w hw; omega
  refine ⟨by omega, ?_, fun w hw => ?_⟩
  · rw [cnt_hit1 e.symm en]
    have := all x
    omega
  · rw [cnt_miss1 (fun q => hw (q.symm.trans e.symm)) en]
    have := all w
    omega
theorem mj_bm_up {f : Nat → Int32} {l n n2 : Nat} {v : Int32} {lead lead2 : Int} (h : mj_bm f l v n lead) (e : f (l + n) = v) (en : n2 = n + 1) (el : lead2 = lead + 1) : mj_bm f l v n2 lead2 := by
  obtain ⟨h1, h2, h3⟩ := h
  refine ⟨by omega, ?_, fun w hw => ?_⟩
  · rw [cnt_hit1 e en]
    omega
  · rw [cnt_miss1 (fun q => hw (q.symm.trans e)) en]
    have := h3 w hw
    omega
theorem mj_bm_down {f : Nat → Int32} {l n n2 : Nat} {v : Int32} {lead lead2 : Int} (h : mj_bm f l v n lead) (h0 : ¬ lead = 0) (e : ¬ f (l + n) = v) (en : n2 = n + 1) (el : lead2 = lead - 1) : mj_bm f l v n2 lead2 := by
  obtain ⟨h1, h2, h3⟩ := h
  refine ⟨by omega, ?_, fun w hw => ?_⟩
  · rw [cnt_miss1 e en]
    omega
  · have := h3 w hw
    by_cases hx : f (l + n) = w
    · rw [cnt_hit1 hx en]
      omega
    · rw [cnt_miss1 hx en]
      omega
theorem mj_bm_yes {f : Nat → Int32} {l r n : Nat} {v : Int32} (hn : n = r - l) (h : (n : Int) < 2 * (cnt f v l n : Int)) : mj_maj f l r v := by
  subst hn
  obtain ⟨j, hj, e⟩ := cnt_pos (f := f) (v := v) (l := l) (k := r - l) (by omega)
  exact Or.inl ⟨l + j, by omega, by omega, e, h⟩
theorem mj_bm_no {f : Nat → Int32} {l r n : Nat} {v : Int32} {lead : Int} (hn : n = r - l) (hb : mj_bm f l v n lead) (h : 2 * (cnt f v l n : Int) ≤ (n : Int)) : mj_maj f l r (-40000) := by
  subst hn
  obtain ⟨h1, h2, h3⟩ := hb
  refine Or.inr ⟨rfl, fun k a b => ?_⟩
  by_cases hk : f k = v
  · rw [hk]; exact h
  · have := h3 _ hk
    omega
def mj_first (P : Nat → Prop) (lo hi : Nat) (none x : Int) : Prop := (∃ m : Nat, lo ≤ m ∧ m < hi ∧ P m ∧ x = (m : Int) ∧ ∀ k : Nat, lo ≤ k → k < m → ¬ P k) ∨ (x = none ∧ ∀ k : Nat, lo ≤ k → k < hi → ¬ P k)
theorem mj_first_uni {P : Nat → Prop} {lo hi : Nat} {none x y : Int} (h : mj_first P lo hi none x) (h2 : mj_first P lo hi none y) : x = y := by
  rcases h with ⟨m, a1, a2, a3, a4, a5⟩ | ⟨a1, a2⟩ <;> rcases h2 with ⟨n, b1, b2, b3, b4, b5⟩ | ⟨b1, b2⟩
  · rcases Nat.lt_trichotomy m n with h | h | h
    · exact absurd a3 (b5 m a1 h)
    · omega
    · exact absurd b3 (a5 n b1 h)
  · exact absurd a3 (b2 m a1 a2)
  · exact absurd b3 (a2 n b1 b2)
  · omega
def mj_cutP (f : Nat → Int32) (l r m : Nat) : Prop := ∃ a b : Int32, mj_maj f l m a ∧ mj_maj f m r b ∧ ¬ a = -40000 ∧ ¬ b = -40000 ∧ ¬ a = b
theorem mj_cut_no {f : Nat → Int32} {l r m : Nat} {a b : Int32} (ha : mj_maj f l m a) (hb : mj_maj f m r b) (h : a = -40000 ∨ b = -40000 ∨ a = b) : ¬ mj_cutP f l r m := by
  rintro ⟨x, y, h1, h2, h3, h4, h5⟩
  have e1 := mj_maj_uni h1 ha
  have e2 := mj_maj_uni h2 hb
  subst e1; subst e2
  rcases h with h | h | h
  · exact h3 h
  · exact h4 h
  · exact h5 h
/-! shares -/
def mj_t (p w q : Int) : Int := p * w / q
theorem mj_t_nn {p w q : Int} (h1 : 0 ≤ p) (h2 : 0 ≤ w) (h3 : 0 < q) : 0 ≤ mj_t p w q := Int.ediv_nonneg (Int.mul_nonneg h1 h2) (Int.le_of_lt h3)
theorem mj_t_lt {p w q c : Int} (h : 0 < q) : mj_t p w q < c ↔ p * w < c * q := by
  unfold mj_t
  exact Int.ediv_lt_iff_lt_mul h
theorem ki_div {x y z : Int32} {a b : Int} (e : z = x / y) (ha : x.toInt = a) (hb : y.toInt = b) (h0 : 0 ≤ a) (h1 : 0 < b) : z.toInt = a / b := by
  subst e; subst ha; subst hb
  rw [Int32.toInt_div_of_ne_right _ _ (fun e => by rw [e] at h1; exact absurd h1 (by decide))]
  exact Int.tdiv_eq_ediv_of_nonneg h0


