set_option maxHeartbeats 4000000 in
set_option maxRecDepth 100000 in
theorem c_X0_init (l : Launch) (dC : Nat → ClassId) (dI : Nat → Nat → Nat) (h0 : Nat) (cyI : ClassId) (sz : Nat) : Met l yX0_init wsX0_init ({ frames := 1, cells := 1, slots := 160, locals := 45 }) (va_Pc [.ref h0] (fun U => U.heap.size = sz ∧ va_P (dC, dI) vwCl [(h0, .inr (0, [.null, .int 0]))] U.heap ∧ va_K (dC, dI) vwCl [(cyI, .int)] U ∧ va_D (fun _ => True) [(h0, .inr (0, [.null, .int 0]))])) (va_Qv (fun _ : Unit => True) (fun (_ : Unit) (t : State) => ∃ (k1 : Nat), va_P (dC, dI) vwCl [kx_0 h0 k1 0, kx_a k1 cyI 160 (fun _ => 0)] t.heap ∧ va_K (dC, dI) vwCl [(cyI, .int)] t ∧ va_D (va_A [(h0, .inr (0, [.null, .int 0]))] sz) [kx_0 h0 k1 0, kx_a k1 cyI 160 (fun _ => 0)]) (va_A [(h0, .inr (0, [.null, .int 0]))] sz)) 1 160 (va_A [(h0, .inr (0, [.null, .int 0]))] sz) := by
  refine Met.ofW (cc := cX0_init) (maxL := 1) (ret := none) (by decide) rfl ?_
  intro p e s m args below meth c s₁ B hml hv
  obtain ⟨rfl, hsz, hP, hK, hD0⟩ := hv
  have hx := B.exec
  have hb := B.bytes
  have hr := B.returns
  have hts := atoms_spec (ws := wsX0_init) B.pre
  have hown : s.vm.findClass RX0 = some m.cls := findClass_of_methodNamed B.named
  have hlocks := B.notSynchronized
  have hin : meth.name = "<init>" := (name_of_methodNamed B.named B.method).1
  subst hsz
  have hD := hD0.self (sz := s.heap.size)
  generalize hAe : va_A [(h0, .inr (0, [.null, .int 0]))] s.heap.size = A at hD ⊢
  have hA : ∀ q : Nat, s.heap.size ≤ q → A q := fun q h => by rw [← hAe]; exact Or.inr h
  have hS : va_S A s.heap s.heap [] := va_S.rf
  have hP : va_P (dC, dI) vwCl [(h0, .inr (0, [.null, .int 0]))] s.heap := hP
  have hl := lv_entry ([.ref h0]) (n := 1) (Nat.le_of_ble_eq_true rfl)
  rw [lg_entry_eq]
  generalize (lg_sl ([.ref h0]) ++ List.replicate (1 - (lg_sl ([.ref h0])).length) Slot.unset).toArray = ls at hl ⊢
  have hl : lv_has ls 1 [(0, .ref h0)] := hl
  have hm_3 := hts (.methodLink RX0 3 objectInit) (List.mem_of_getElem? (i := 1) rfl)
  have ho_i := hts (.instanceMethod objectInit) (List.mem_of_getElem? (i := 2) rfl)
  have ho_c := hts (.code objectInit ⟨#[0xb1]⟩ 1 none) (List.mem_of_getElem? (i := 3) rfl)
  have ha_int := hts (.arrayClass .int) (List.mem_of_getElem? (i := 4) rfl)
  have hf_9 := hts (.fieldLink RX0 9 "MajorityIndex$Row" "cell" "[I") (List.mem_of_getElem? (i := 5) rfl)
  have hi_0 : ∀ w ∈ u_ws RX0 TX0 2, w ∈ wsX0_init := fun w h => List.mem_cons_of_mem _ (List.mem_append_right _ h)
  refine lv_aload_n hx hb dX0_init_0 rfl (lv_at hl 0 rfl) ?_
  refine W.objInit hx hb hown hm_3 ho_i ho_c rfl (by rw [hml]; exact hl.1) rfl dX0_init_1 (Nat.le_of_ble_eq_true rfl) (Nat.le_of_ble_eq_true rfl) ?_
  refine W.eq (g2 := F0 m 4 ls []) rfl ?_
  refine lv_aload_n hx hb dX0_init_4 rfl (lv_at hl 0 rfl) ?_
  refine lv_sipush (v := 160) hx hb dX0_init_5 (by decide) ?_
  refine va_newa (atype := .int) (a0 := (160, .inl (fun _ => 0))) hx hb ha_int rfl hK hP hD hS hA (N' := 160) (fun cA => ki_zi cA 160) (by decide) (by decide) (Nat.le_of_ble_eq_true rfl) (Nat.le_of_ble_eq_true rfl) (Nat.le_of_ble_eq_true rfl) dX0_init_8 (fun q_1 cA_2 H hK hP hD hS => ?_)
  obtain rfl : cyI = cA_2 := (ki_cA hK 0 1 rfl rfl).symm
  have hK : va_K (dC, dI) vwCl [(cyI, .int)] s := hK.sub [0] rfl
  refine W.widen (k := 1) (n := 160) (Nat.le_of_ble_eq_true rfl) (Nat.le_of_ble_eq_true rfl) ?_
  obtain ⟨hP, hD⟩ := kx_re (w2 := [(h0, .inr (0, [.null, .int 0])), kx_a q_1 cyI 160 (fun _ => 0)]) hP hD rfl
  refine va_putF (D := (dC, dI)) (ci := 0) (v := .ref q_1) (ty := .array .int) (C := RX0) (T := TX0) (N := 2) hx hb hts hi_0 tyX0 tyX0_ok nmX0 hown hK hP hD hS 0 rfl rfl 0 (by decide) hf_9 (fun _ h9 => h9) rfl hin rfl (by decide +kernel) rfl rfl (Nat.le_of_ble_eq_true rfl) dX0_init_10 (fun H locs hP hD hS => ?_)
  obtain ⟨hP, hD⟩ := kx_re (w2 := [kx_0 h0 q_1 0, kx_a q_1 cyI 160 (fun _ => 0)]) hP hD rfl
  have hP9 := hP
  have hD9 := hD
  have hK9 := hK
  exact W.vret hx hb hr (hlocks := hlocks) (fun t ht hW => ⟨⟨(), rfl, trivial, q_1, by rw [ht]; exact hP9, va_K.moved hW.alike hK9, hD9⟩, hS.F ht⟩) hS.2.2 dX0_init_13

set_option maxHeartbeats 4000000 in
set_option maxRecDepth 100000 in
theorem c_X1_init (l : Launch) (dC : Nat → ClassId) (dI : Nat → Nat → Nat) (h0 : Nat) (cyI : ClassId) (sz : Nat) : Met l yX1_init wsX1_init ({ frames := 1, cells := 2, slots := 320, locals := 45 }) (va_Pc [.ref h0] (fun U => U.heap.size = sz ∧ va_P (dC, dI) vwCl [(h0, .inr (1, [.null, .null, .int 0, .int 0]))] U.heap ∧ va_K (dC, dI) vwCl [(cyI, .int)] U ∧ va_D (fun _ => True) [(h0, .inr (1, [.null, .null, .int 0, .int 0]))])) (va_Qv (fun _ : Unit => True) (fun (_ : Unit) (t : State) => ∃ (k1 : Nat) (k2 : Nat), va_P (dC, dI) vwCl [kx_1 h0 k1 k2 0 0, kx_a k1 cyI 160 (fun _ => 0), kx_a k2 cyI 160 (fun _ => 0)] t.heap ∧ va_K (dC, dI) vwCl [(cyI, .int)] t ∧ va_D (va_A [(h0, .inr (1, [.null, .null, .int 0, .int 0]))] sz) [kx_1 h0 k1 k2 0 0, kx_a k1 cyI 160 (fun _ => 0), kx_a k2 cyI 160 (fun _ => 0)]) (va_A [(h0, .inr (1, [.null, .null, .int 0, .int 0]))] sz)) 2 320 (va_A [(h0, .inr (1, [.null, .null, .int 0, .int 0]))] sz) := by
  refine Met.ofW (cc := cX1_init) (maxL := 1) (ret := none) (by decide) rfl ?_
  intro p e s m args below meth c s₁ B hml hv
  obtain ⟨rfl, hsz, hP, hK, hD0⟩ := hv
  have hx := B.exec
  have hb := B.bytes
  have hr := B.returns
  have hts := atoms_spec (ws := wsX1_init) B.pre
  have hown : s.vm.findClass RX1 = some m.cls := findClass_of_methodNamed B.named
  have hlocks := B.notSynchronized
  have hin : meth.name = "<init>" := (name_of_methodNamed B.named B.method).1
  subst hsz
  have hD := hD0.self (sz := s.heap.size)
  generalize hAe : va_A [(h0, .inr (1, [.null, .null, .int 0, .int 0]))] s.heap.size = A at hD ⊢
  have hA : ∀ q : Nat, s.heap.size ≤ q → A q := fun q h => by rw [← hAe]; exact Or.inr h
  have hS : va_S A s.heap s.heap [] := va_S.rf
  have hP : va_P (dC, dI) vwCl [(h0, .inr (1, [.null, .null, .int 0, .int 0]))] s.heap := hP
  have hl := lv_entry ([.ref h0]) (n := 1) (Nat.le_of_ble_eq_true rfl)
  rw [lg_entry_eq]
  generalize (lg_sl ([.ref h0]) ++ List.replicate (1 - (lg_sl ([.ref h0])).length) Slot.unset).toArray = ls at hl ⊢
  have hl : lv_has ls 1 [(0, .ref h0)] := hl
  have hm_3 := hts (.methodLink RX1 3 objectInit) (List.mem_of_getElem? (i := 1) rfl)
  have ho_i := hts (.instanceMethod objectInit) (List.mem_of_getElem? (i := 2) rfl)
  have ho_c := hts (.code objectInit ⟨#[0xb1]⟩ 1 none) (List.mem_of_getElem? (i := 3) rfl)
  have ha_int := hts (.arrayClass .int) (List.mem_of_getElem? (i := 4) rfl)
  have hf_9 := hts (.fieldLink RX1 9 "MajorityIndex$Tally" "kind" "[I") (List.mem_of_getElem? (i := 5) rfl)
  have hi_1 : ∀ w ∈ u_ws RX1 TX1 4, w ∈ wsX1_init := fun w h => List.mem_cons_of_mem _ (List.mem_append_right _ h)
  have hf_15 := hts (.fieldLink RX1 15 "MajorityIndex$Tally" "often" "[I") (List.mem_of_getElem? (i := 6) rfl)
  refine lv_aload_n hx hb dX1_init_0 rfl (lv_at hl 0 rfl) ?_
  refine W.objInit hx hb hown hm_3 ho_i ho_c rfl (by rw [hml]; exact hl.1) rfl dX1_init_1 (Nat.le_of_ble_eq_true rfl) (Nat.le_of_ble_eq_true rfl) ?_
  refine W.eq (g2 := F0 m 4 ls []) rfl ?_
  refine lv_aload_n hx hb dX1_init_4 rfl (lv_at hl 0 rfl) ?_
  refine lv_sipush (v := 160) hx hb dX1_init_5 (by decide) ?_
  refine va_newa (atype := .int) (a0 := (160, .inl (fun _ => 0))) hx hb ha_int rfl hK hP hD hS hA (N' := 160) (fun cA => ki_zi cA 160) (by decide) (by decide) (Nat.le_of_ble_eq_true rfl) (Nat.le_of_ble_eq_true rfl) (Nat.le_of_ble_eq_true rfl) dX1_init_8 (fun q_1 cA_2 H hK hP hD hS => ?_)
  obtain rfl : cyI = cA_2 := (ki_cA hK 0 1 rfl rfl).symm
  have hK : va_K (dC, dI) vwCl [(cyI, .int)] s := hK.sub [0] rfl
  refine W.widen (k := 1) (n := 160) (Nat.le_of_ble_eq_true rfl) (Nat.le_of_ble_eq_true rfl) ?_
  obtain ⟨hP, hD⟩ := kx_re (w2 := [(h0, .inr (1, [.null, .null, .int 0, .int 0])), kx_a q_1 cyI 160 (fun _ => 0)]) hP hD rfl
  refine va_putF (D := (dC, dI)) (ci := 1) (v := .ref q_1) (ty := .array .int) (C := RX1) (T := TX1) (N := 4) hx hb hts hi_1 tyX1 tyX1_ok nmX1 hown hK hP hD hS 0 rfl rfl 0 (by decide) hf_9 (fun _ h9 => h9) rfl hin rfl (by decide +kernel) rfl rfl (Nat.le_of_ble_eq_true rfl) dX1_init_10 (fun H locs hP hD hS => ?_)
  obtain ⟨hP, hD⟩ := kx_re (w2 := [(h0, .inr (1, [.ref q_1, .null, .int 0, .int 0])), kx_a q_1 cyI 160 (fun _ => 0)]) hP hD rfl
  refine lv_aload_n hx hb dX1_init_13 rfl (lv_at hl 0 rfl) ?_
  refine lv_sipush (v := 160) hx hb dX1_init_14 (by decide) ?_
  refine va_newa (atype := .int) (a0 := (160, .inl (fun _ => 0))) hx hb ha_int rfl hK hP hD hS hA (N' := 160) (fun cA => ki_zi cA 160) (by decide) (by decide) (Nat.le_of_ble_eq_true rfl) (Nat.le_of_ble_eq_true rfl) (Nat.le_of_ble_eq_true rfl) dX1_init_17 (fun q_3 cA_4 H hK hP hD hS => ?_)
  obtain rfl : cyI = cA_4 := (ki_cA hK 0 1 rfl rfl).symm
  have hK : va_K (dC, dI) vwCl [(cyI, .int)] s := hK.sub [0] rfl
  refine W.widen (k := 2) (n := 320) (Nat.le_of_ble_eq_true rfl) (Nat.le_of_ble_eq_true rfl) ?_
  obtain ⟨hP, hD⟩ := kx_re (w2 := [(h0, .inr (1, [.ref q_1, .null, .int 0, .int 0])), kx_a q_1 cyI 160 (fun _ => 0), kx_a q_3 cyI 160 (fun _ => 0)]) hP hD rfl
  refine va_putF (D := (dC, dI)) (ci := 1) (v := .ref q_3) (ty := .array .int) (C := RX1) (T := TX1) (N := 4) hx hb hts hi_1 tyX1 tyX1_ok nmX1 hown hK hP hD hS 0 rfl rfl 1 (by decide) hf_15 (fun _ h9 => h9) rfl hin rfl (by decide +kernel) rfl rfl (Nat.le_of_ble_eq_true rfl) dX1_init_19 (fun H locs hP hD hS => ?_)
  obtain ⟨hP, hD⟩ := kx_re (w2 := [kx_1 h0 q_1 q_3 0 0, kx_a q_1 cyI 160 (fun _ => 0), kx_a q_3 cyI 160 (fun _ => 0)]) hP hD rfl
  have hP9 := hP
  have hD9 := hD
  have hK9 := hK
  exact W.vret hx hb hr (hlocks := hlocks) (fun t ht hW => ⟨⟨(), rfl, trivial, q_1, q_3, by rw [ht]; exact hP9, va_K.moved hW.alike hK9, hD9⟩, hS.F ht⟩) hS.2.2 dX1_init_22

set_option maxHeartbeats 4000000 in
set_option maxRecDepth 100000 in
theorem c_X3_init (l : Launch) (dC : Nat → ClassId) (dI : Nat → Nat → Nat) (h0 : Nat) (cyI : ClassId) (sz : Nat) : Met l yX3_init wsX3_init ({ frames := 1, cells := 2, slots := 24, locals := 45 }) (va_Pc [.ref h0] (fun U => U.heap.size = sz ∧ va_P (dC, dI) vwCl [(h0, .inr (3, [.null, .null, .int 0, .int 0, .int 0]))] U.heap ∧ va_K (dC, dI) vwCl [(cyI, .int)] U ∧ va_D (fun _ => True) [(h0, .inr (3, [.null, .null, .int 0, .int 0, .int 0]))])) (va_Qv (fun _ : Unit => True) (fun (_ : Unit) (t : State) => ∃ (k1 : Nat) (k2 : Nat), va_P (dC, dI) vwCl [kx_3 h0 k1 k2 0 0 0, kx_a k1 cyI 12 (fun _ => 0), kx_a k2 cyI 12 (fun _ => 0)] t.heap ∧ va_K (dC, dI) vwCl [(cyI, .int)] t ∧ va_D (va_A [(h0, .inr (3, [.null, .null, .int 0, .int 0, .int 0]))] sz) [kx_3 h0 k1 k2 0 0 0, kx_a k1 cyI 12 (fun _ => 0), kx_a k2 cyI 12 (fun _ => 0)]) (va_A [(h0, .inr (3, [.null, .null, .int 0, .int 0, .int 0]))] sz)) 2 24 (va_A [(h0, .inr (3, [.null, .null, .int 0, .int 0, .int 0]))] sz) := by
  refine Met.ofW (cc := cX3_init) (maxL := 1) (ret := none) (by decide) rfl ?_
  intro p e s m args below meth c s₁ B hml hv
  obtain ⟨rfl, hsz, hP, hK, hD0⟩ := hv
  have hx := B.exec
  have hb := B.bytes
  have hr := B.returns
  have hts := atoms_spec (ws := wsX3_init) B.pre
  have hown : s.vm.findClass RX3 = some m.cls := findClass_of_methodNamed B.named
  have hlocks := B.notSynchronized
  have hin : meth.name = "<init>" := (name_of_methodNamed B.named B.method).1
  subst hsz
  have hD := hD0.self (sz := s.heap.size)
  generalize hAe : va_A [(h0, .inr (3, [.null, .null, .int 0, .int 0, .int 0]))] s.heap.size = A at hD ⊢
  have hA : ∀ q : Nat, s.heap.size ≤ q → A q := fun q h => by rw [← hAe]; exact Or.inr h
  have hS : va_S A s.heap s.heap [] := va_S.rf
  have hP : va_P (dC, dI) vwCl [(h0, .inr (3, [.null, .null, .int 0, .int 0, .int 0]))] s.heap := hP
  have hl := lv_entry ([.ref h0]) (n := 1) (Nat.le_of_ble_eq_true rfl)
  rw [lg_entry_eq]
  generalize (lg_sl ([.ref h0]) ++ List.replicate (1 - (lg_sl ([.ref h0])).length) Slot.unset).toArray = ls at hl ⊢
  have hl : lv_has ls 1 [(0, .ref h0)] := hl
  have hm_3 := hts (.methodLink RX3 3 objectInit) (List.mem_of_getElem? (i := 1) rfl)
  have ho_i := hts (.instanceMethod objectInit) (List.mem_of_getElem? (i := 2) rfl)
  have ho_c := hts (.code objectInit ⟨#[0xb1]⟩ 1 none) (List.mem_of_getElem? (i := 3) rfl)
  have ha_int := hts (.arrayClass .int) (List.mem_of_getElem? (i := 4) rfl)
  have hf_9 := hts (.fieldLink RX3 9 "MajorityIndex$Votes" "value" "[I") (List.mem_of_getElem? (i := 5) rfl)
  have hi_3 : ∀ w ∈ u_ws RX3 TX3 5, w ∈ wsX3_init := fun w h => List.mem_cons_of_mem _ (List.mem_append_right _ h)
  have hf_15 := hts (.fieldLink RX3 15 "MajorityIndex$Votes" "number" "[I") (List.mem_of_getElem? (i := 6) rfl)
  refine lv_aload_n hx hb dX3_init_0 rfl (lv_at hl 0 rfl) ?_
  refine W.objInit hx hb hown hm_3 ho_i ho_c rfl (by rw [hml]; exact hl.1) rfl dX3_init_1 (Nat.le_of_ble_eq_true rfl) (Nat.le_of_ble_eq_true rfl) ?_
  refine W.eq (g2 := F0 m 4 ls []) rfl ?_
  refine lv_aload_n hx hb dX3_init_4 rfl (lv_at hl 0 rfl) ?_
  refine lv_bipush (v := 12) hx hb dX3_init_5 (by decide) ?_
  refine va_newa (atype := .int) (a0 := (12, .inl (fun _ => 0))) hx hb ha_int rfl hK hP hD hS hA (N' := 12) (fun cA => ki_zi cA 12) (by decide) (by decide) (Nat.le_of_ble_eq_true rfl) (Nat.le_of_ble_eq_true rfl) (Nat.le_of_ble_eq_true rfl) dX3_init_7 (fun q_1 cA_2 H hK hP hD hS => ?_)
  obtain rfl : cyI = cA_2 := (ki_cA hK 0 1 rfl rfl).symm
  have hK : va_K (dC, dI) vwCl [(cyI, .int)] s := hK.sub [0] rfl
  refine W.widen (k := 1) (n := 12) (Nat.le_of_ble_eq_true rfl) (Nat.le_of_ble_eq_true rfl) ?_
  obtain ⟨hP, hD⟩ := kx_re (w2 := [(h0, .inr (3, [.null, .null, .int 0, .int 0, .int 0])), kx_a q_1 cyI 12 (fun _ => 0)]) hP hD rfl
  refine va_putF (D := (dC, dI)) (ci := 3) (v := .ref q_1) (ty := .array .int) (C := RX3) (T := TX3) (N := 5) hx hb hts hi_3 tyX3 tyX3_ok nmX3 hown hK hP hD hS 0 rfl rfl 0 (by decide) hf_9 (fun _ h9 => h9) rfl hin rfl (by decide +kernel) rfl rfl (Nat.le_of_ble_eq_true rfl) dX3_init_9 (fun H locs hP hD hS => ?_)
  obtain ⟨hP, hD⟩ := kx_re (w2 := [(h0, .inr (3, [.ref q_1, .null, .int 0, .int 0, .int 0])), kx_a q_1 cyI 12 (fun _ => 0)]) hP hD rfl
  refine lv_aload_n hx hb dX3_init_12 rfl (lv_at hl 0 rfl) ?_
  refine lv_bipush (v := 12) hx hb dX3_init_13 (by decide) ?_
  refine va_newa (atype := .int) (a0 := (12, .inl (fun _ => 0))) hx hb ha_int rfl hK hP hD hS hA (N' := 12) (fun cA => ki_zi cA 12) (by decide) (by decide) (Nat.le_of_ble_eq_true rfl) (Nat.le_of_ble_eq_true rfl) (Nat.le_of_ble_eq_true rfl) dX3_init_15 (fun q_3 cA_4 H hK hP hD hS => ?_)
  obtain rfl : cyI = cA_4 := (ki_cA hK 0 1 rfl rfl).symm
  have hK : va_K (dC, dI) vwCl [(cyI, .int)] s := hK.sub [0] rfl
  refine W.widen (k := 2) (n := 24) (Nat.le_of_ble_eq_true rfl) (Nat.le_of_ble_eq_true rfl) ?_
  obtain ⟨hP, hD⟩ := kx_re (w2 := [(h0, .inr (3, [.ref q_1, .null, .int 0, .int 0, .int 0])), kx_a q_1 cyI 12 (fun _ => 0), kx_a q_3 cyI 12 (fun _ => 0)]) hP hD rfl
  refine va_putF (D := (dC, dI)) (ci := 3) (v := .ref q_3) (ty := .array .int) (C := RX3) (T := TX3) (N := 5) hx hb hts hi_3 tyX3 tyX3_ok nmX3 hown hK hP hD hS 0 rfl rfl 1 (by decide) hf_15 (fun _ h9 => h9) rfl hin rfl (by decide +kernel) rfl rfl (Nat.le_of_ble_eq_true rfl) dX3_init_17 (fun H locs hP hD hS => ?_)
  obtain ⟨hP, hD⟩ := kx_re (w2 := [kx_3 h0 q_1 q_3 0 0 0, kx_a q_1 cyI 12 (fun _ => 0), kx_a q_3 cyI 12 (fun _ => 0)]) hP hD rfl
  have hP9 := hP
  have hD9 := hD
  have hK9 := hK
  exact W.vret hx hb hr (hlocks := hlocks) (fun t ht hW => ⟨⟨(), rfl, trivial, q_1, q_3, by rw [ht]; exact hP9, va_K.moved hW.alike hK9, hD9⟩, hS.F ht⟩) hS.2.2 dX3_init_20

set_option maxHeartbeats 4000000 in
set_option maxRecDepth 100000 in
theorem c_X2_init (l : Launch) (dC : Nat → ClassId) (dI : Nat → Nat → Nat) (h0 : Nat) (h1 : Nat) (cyI : ClassId) (sz : Nat) : Met l yX2_init wsX2_init ({ frames := 2, cells := 10, slots := 5452, locals := 90 }) (va_Pc [.ref h0, .ref h1] (fun U => U.heap.size = sz ∧ va_P (dC, dI) vwCl [(h0, .inr (2, [.null, .null, .null, .null, .null, .null, .null, .null, .null, .int 0, .int 0]))] U.heap ∧ va_K (dC, dI) vwCl [(cyI, .int)] U ∧ va_D (fun _ => True) [(h0, .inr (2, [.null, .null, .null, .null, .null, .null, .null, .null, .null, .int 0, .int 0]))] ∧ va_Nw (.methodLinkNest RX2 11 yX3_init RX4) U)) (va_Qv (fun _ : Unit => True) (fun (_ : Unit) (t : State) => ∃ (k_joined : Nat) (k_from : Nat) (k_to : Nat) (k_size : Nat) (k_lossOf : Nat) (k_lessBy : Nat) (k_value : Nat) (k_number : Nat) (k_jv : Nat) (k_jn : Nat), va_P (dC, dI) vwCl [kx_2 h0 h1 k_joined k_from k_to k_size k_lossOf k_lessBy k_value k_number 0 0, kx_3 k_joined k_jv k_jn 0 0 0, kx_a k_jv cyI 12 (fun _ => 0), kx_a k_jn cyI 12 (fun _ => 0), kx_a k_from cyI 319 (fun _ => 0), kx_a k_to cyI 319 (fun _ => 0), kx_a k_size cyI 319 (fun _ => 0), kx_a k_lossOf cyI 319 (fun _ => 0), kx_a k_lessBy cyI 319 (fun _ => 0), kx_a k_value cyI 1914 (fun _ => 0), kx_a k_number cyI 1914 (fun _ => 0)] t.heap ∧ va_K (dC, dI) vwCl [(cyI, .int)] t ∧ va_D (va_A [(h0, .inr (2, [.null, .null, .null, .null, .null, .null, .null, .null, .null, .int 0, .int 0]))] sz) [kx_2 h0 h1 k_joined k_from k_to k_size k_lossOf k_lessBy k_value k_number 0 0, kx_3 k_joined k_jv k_jn 0 0 0, kx_a k_jv cyI 12 (fun _ => 0), kx_a k_jn cyI 12 (fun _ => 0), kx_a k_from cyI 319 (fun _ => 0), kx_a k_to cyI 319 (fun _ => 0), kx_a k_size cyI 319 (fun _ => 0), kx_a k_lossOf cyI 319 (fun _ => 0), kx_a k_lessBy cyI 319 (fun _ => 0), kx_a k_value cyI 1914 (fun _ => 0), kx_a k_number cyI 1914 (fun _ => 0)]) (va_A [(h0, .inr (2, [.null, .null, .null, .null, .null, .null, .null, .null, .null, .int 0, .int 0]))] sz)) 10 5452 (va_A [(h0, .inr (2, [.null, .null, .null, .null, .null, .null, .null, .null, .null, .int 0, .int 0]))] sz) := by
  refine Met.ofW (cc := cX2_init) (maxL := 2) (ret := none) (by decide) rfl ?_
  intro p e s m args below meth c s₁ B hml hv
  obtain ⟨rfl, hsz, hP, hK, hD0, hN0⟩ := hv
  have hx := B.exec
  have hb := B.bytes
  have hr := B.returns
  have hts := atoms_spec (ws := wsX2_init) B.pre
  have hown : s.vm.findClass RX2 = some m.cls := findClass_of_methodNamed B.named
  have hlocks := B.notSynchronized
  have hin : meth.name = "<init>" := (name_of_methodNamed B.named B.method).1
  subst hsz
  have hD := hD0.self (sz := s.heap.size)
  generalize hAe : va_A [(h0, .inr (2, [.null, .null, .null, .null, .null, .null, .null, .null, .null, .int 0, .int 0]))] s.heap.size = A at hD ⊢
  have hA : ∀ q : Nat, s.heap.size ≤ q → A q := fun q h => by rw [← hAe]; exact Or.inr h
  have hS : va_S A s.heap s.heap [] := va_S.rf
  have hP : va_P (dC, dI) vwCl [(h0, .inr (2, [.null, .null, .null, .null, .null, .null, .null, .null, .null, .int 0, .int 0]))] s.heap := hP
  have hl := lv_entry ([.ref h0, .ref h1]) (n := 2) (Nat.le_of_ble_eq_true rfl)
  rw [lg_entry_eq]
  generalize (lg_sl ([.ref h0, .ref h1]) ++ List.replicate (2 - (lg_sl ([.ref h0, .ref h1])).length) Slot.unset).toArray = ls at hl ⊢
  have hl : lv_has ls 2 [(0, .ref h0), (1, .ref h1)] := hl
  have hm_3 := hts (.methodLink RX2 3 objectInit) (List.mem_of_getElem? (i := 1) rfl)
  have ho_i := hts (.instanceMethod objectInit) (List.mem_of_getElem? (i := 2) rfl)
  have ho_c := hts (.code objectInit ⟨#[0xb1]⟩ 1 none) (List.mem_of_getElem? (i := 3) rfl)
  have hc_9 := hts (.classLink RX2 9 RX3) (List.mem_of_getElem? (i := 4) rfl)
  have hj_3 := hts (.instantiable RX3 5) (List.mem_of_getElem? (i := 5) rfl)
  have hz_3 := hts (.initialized RX3) (List.mem_of_getElem? (i := 6) rfl)
  have hi_3 : ∀ w ∈ u_ws RX3 TX3 5, w ∈ wsX2_init := fun w h => List.mem_cons_of_mem _ (List.mem_append_left _ (List.mem_append_right _ h))
  have hz_RX3 := hts (.initialized RX3) (List.mem_of_getElem? (i := 6) rfl)
  have hq_X3_init := hts (.instanceMethod yX3_init) (List.mem_of_getElem? (i := 17) rfl)
  have hf_12 := hts (.fieldLink RX2 12 "MajorityIndex$Tree" "joined" "LMajorityIndex$Votes;") (List.mem_of_getElem? (i := 7) rfl)
  have hi_2 : ∀ w ∈ u_ws RX2 TX2 11, w ∈ wsX2_init := fun w h => List.mem_cons_of_mem _ (List.mem_append_right _ h)
  have ha_int := hts (.arrayClass .int) (List.mem_of_getElem? (i := 8) rfl)
  have hf_18 := hts (.fieldLink RX2 18 "MajorityIndex$Tree" "from" "[I") (List.mem_of_getElem? (i := 9) rfl)
  have hf_22 := hts (.fieldLink RX2 22 "MajorityIndex$Tree" "to" "[I") (List.mem_of_getElem? (i := 10) rfl)
  have hf_25 := hts (.fieldLink RX2 25 "MajorityIndex$Tree" "size" "[I") (List.mem_of_getElem? (i := 11) rfl)
  have hf_28 := hts (.fieldLink RX2 28 "MajorityIndex$Tree" "lossOf" "[I") (List.mem_of_getElem? (i := 12) rfl)
  have hf_31 := hts (.fieldLink RX2 31 "MajorityIndex$Tree" "lessBy" "[I") (List.mem_of_getElem? (i := 13) rfl)
  have hf_34 := hts (.fieldLink RX2 34 "MajorityIndex$Tree" "value" "[I") (List.mem_of_getElem? (i := 14) rfl)
  have hf_37 := hts (.fieldLink RX2 37 "MajorityIndex$Tree" "number" "[I") (List.mem_of_getElem? (i := 15) rfl)
  have hf_40 := hts (.fieldLink RX2 40 "MajorityIndex$Tree" "row" "LMajorityIndex$Row;") (List.mem_of_getElem? (i := 16) rfl)
  refine lv_aload_n hx hb dX2_init_0 rfl (lv_at hl 0 rfl) ?_
  refine W.objInit hx hb hown hm_3 ho_i ho_c rfl (by rw [hml]; exact hl.1) rfl dX2_init_1 (Nat.le_of_ble_eq_true rfl) (Nat.le_of_ble_eq_true rfl) ?_
  refine W.eq (g2 := F0 m 4 ls []) rfl ?_
  refine lv_aload_n hx hb dX2_init_4 rfl (lv_at hl 0 rfl) ?_
  refine va_new (ci := 3) (fs := [.null, .null, .int 0, .int 0, .int 0]) (C := RX3) (T := TX3) (N := 5) hx hb hts hi_3 tyX3 tyX3_ok hown hc_9 hj_3 hz_3 hK hP hD hS hA rfl (ki_z3) (Nat.le_of_ble_eq_true rfl) (Nat.le_of_ble_eq_true rfl) dX2_init_5 (fun q_1 H hP hD hS => ?_)
  refine W.widen (k := 1) (n := 5) (Nat.le_of_ble_eq_true rfl) (Nat.le_of_ble_eq_true rfl) ?_
  obtain ⟨hP, hD⟩ := kx_re (w2 := [(h0, .inr (2, [.null, .null, .null, .null, .null, .null, .null, .null, .null, .int 0, .int 0])), (q_1, .inr (3, [.null, .null, .int 0, .int 0, .int 0]))]) hP hD rfl
  refine lv_dup hx hb dX2_init_8 rfl ?_
  obtain ⟨hPc, hDc, hFc, hCc⟩ := kx_pre (wc := [(q_1, .inr (3, [.null, .null, .int 0, .int 0, .int 0]))]) hP hD hS hA [1] (by decide) rfl
  have hKc := hK
  refine va_callv (va_runIN (As := []) (rest := [.ref q_1, .ref h0]) ⟨hx, hb, hml, hown, hts⟩ (c_X3_init l dC dI q_1 cyI H.size) ⟨(va_cnB 0 hts ggX2_init_X3_init rfl rfl rfl hN0 hz_RX3 (by decide +kernel) ⟨Nat.le_of_ble_eq_true rfl, Nat.le_of_ble_eq_true rfl⟩), rfl, hq_X3_init⟩ ⟨fun a U g mk q => by obtain ⟨q0, q1, qP, qK, qD⟩ := q; exact ⟨q0, q1, qP, va_K.moved (u := U) (U := U.calling g mk a) (Vm.Alike.refl U.vm) qK, qD⟩, fun U hU hW => ⟨rfl, by rw [hU], by rw [hU]; exact hPc, va_K.moved hW.alike hKc, hDc.weaken (fun _ _ _ _ => trivial)⟩⟩ rfl rfl hl.1 rfl (lv_room (Nat.le_of_ble_eq_true rfl)) dX2_init_9 ⟨Nat.le_of_ble_eq_true rfl, Nat.le_of_ble_eq_true rfl⟩) hS (fun q _ h => hFc q h) hFc (fun u t H1 locs ht hvm w_2 hB hz1 hk1 hS => ?_)
  obtain ⟨q_3, q_4, hP1, hK1, hD1⟩ := hB
  rw [ht] at hP1
  have hK1 := va_K.moved hvm.symm hK1
  obtain ⟨hP, hD⟩ := kx_join (w2 := [(h0, .inr (2, [.null, .null, .null, .null, .null, .null, .null, .null, .null, .int 0, .int 0])), kx_3 q_1 q_3 q_4 0 0 0, kx_a q_3 cyI 12 (fun _ => 0), kx_a q_4 cyI 12 (fun _ => 0)]) hP hD hP1 hD1 hk1 hFc [1] [0] hCc rfl (by decide) (by decide)
  clear hP1 hD1 hK1 hk1 hz1 hFc hDc hPc hKc hCc
  generalize H1 = H at hP hS ⊢
  refine W.widen (k := 3) (n := 29) (Nat.le_of_ble_eq_true rfl) (Nat.le_of_ble_eq_true rfl) ?_
  refine va_putF (D := (dC, dI)) (ci := 2) (v := .ref q_1) (ty := .object "MajorityIndex$Votes") (C := RX2) (T := TX2) (N := 11) hx hb hts hi_2 tyX2 tyX2_ok nmX2 hown hK hP hD hS 0 rfl rfl 1 (by decide) hf_12 (fun _ h9 => h9) rfl hin rfl (by decide +kernel) rfl rfl (Nat.le_of_ble_eq_true rfl) dX2_init_12 (fun H locs hP hD hS => ?_)
  obtain ⟨hP, hD⟩ := kx_re (w2 := [(h0, .inr (2, [.null, .ref q_1, .null, .null, .null, .null, .null, .null, .null, .int 0, .int 0])), kx_3 q_1 q_3 q_4 0 0 0, kx_a q_3 cyI 12 (fun _ => 0), kx_a q_4 cyI 12 (fun _ => 0)]) hP hD rfl
  refine lv_aload_n hx hb dX2_init_15 rfl (lv_at hl 0 rfl) ?_
  refine lv_sipush (v := 319) hx hb dX2_init_16 (by decide) ?_
  refine va_newa (atype := .int) (a0 := (319, .inl (fun _ => 0))) hx hb ha_int rfl hK hP hD hS hA (N' := 319) (fun cA => ki_zi cA 319) (by decide) (by decide) (Nat.le_of_ble_eq_true rfl) (Nat.le_of_ble_eq_true rfl) (Nat.le_of_ble_eq_true rfl) dX2_init_19 (fun q_5 cA_6 H hK hP hD hS => ?_)
  obtain rfl : cyI = cA_6 := (ki_cA hK 0 1 rfl rfl).symm
  have hK : va_K (dC, dI) vwCl [(cyI, .int)] s := hK.sub [0] rfl
  refine W.widen (k := 4) (n := 348) (Nat.le_of_ble_eq_true rfl) (Nat.le_of_ble_eq_true rfl) ?_
  obtain ⟨hP, hD⟩ := kx_re (w2 := [(h0, .inr (2, [.null, .ref q_1, .null, .null, .null, .null, .null, .null, .null, .int 0, .int 0])), kx_3 q_1 q_3 q_4 0 0 0, kx_a q_3 cyI 12 (fun _ => 0), kx_a q_4 cyI 12 (fun _ => 0), kx_a q_5 cyI 319 (fun _ => 0)]) hP hD rfl
  refine va_putF (D := (dC, dI)) (ci := 2) (v := .ref q_5) (ty := .array .int) (C := RX2) (T := TX2) (N := 11) hx hb hts hi_2 tyX2 tyX2_ok nmX2 hown hK hP hD hS 0 rfl rfl 2 (by decide) hf_18 (fun _ h9 => h9) rfl hin rfl (by decide +kernel) rfl rfl (Nat.le_of_ble_eq_true rfl) dX2_init_21 (fun H locs hP hD hS => ?_)
  obtain ⟨hP, hD⟩ := kx_re (w2 := [(h0, .inr (2, [.null, .ref q_1, .ref q_5, .null, .null, .null, .null, .null, .null, .int 0, .int 0])), kx_3 q_1 q_3 q_4 0 0 0, kx_a q_3 cyI 12 (fun _ => 0), kx_a q_4 cyI 12 (fun _ => 0), kx_a q_5 cyI 319 (fun _ => 0)]) hP hD rfl
  refine lv_aload_n hx hb dX2_init_24 rfl (lv_at hl 0 rfl) ?_
  refine lv_sipush (v := 319) hx hb dX2_init_25 (by decide) ?_
  refine va_newa (atype := .int) (a0 := (319, .inl (fun _ => 0))) hx hb ha_int rfl hK hP hD hS hA (N' := 319) (fun cA => ki_zi cA 319) (by decide) (by decide) (Nat.le_of_ble_eq_true rfl) (Nat.le_of_ble_eq_true rfl) (Nat.le_of_ble_eq_true rfl) dX2_init_28 (fun q_7 cA_8 H hK hP hD hS => ?_)
  obtain rfl : cyI = cA_8 := (ki_cA hK 0 1 rfl rfl).symm
  have hK : va_K (dC, dI) vwCl [(cyI, .int)] s := hK.sub [0] rfl
  refine W.widen (k := 5) (n := 667) (Nat.le_of_ble_eq_true rfl) (Nat.le_of_ble_eq_true rfl) ?_
  obtain ⟨hP, hD⟩ := kx_re (w2 := [(h0, .inr (2, [.null, .ref q_1, .ref q_5, .null, .null, .null, .null, .null, .null, .int 0, .int 0])), kx_3 q_1 q_3 q_4 0 0 0, kx_a q_3 cyI 12 (fun _ => 0), kx_a q_4 cyI 12 (fun _ => 0), kx_a q_5 cyI 319 (fun _ => 0), kx_a q_7 cyI 319 (fun _ => 0)]) hP hD rfl
  refine va_putF (D := (dC, dI)) (ci := 2) (v := .ref q_7) (ty := .array .int) (C := RX2) (T := TX2) (N := 11) hx hb hts hi_2 tyX2 tyX2_ok nmX2 hown hK hP hD hS 0 rfl rfl 3 (by decide) hf_22 (fun _ h9 => h9) rfl hin rfl (by decide +kernel) rfl rfl (Nat.le_of_ble_eq_true rfl) dX2_init_30 (fun H locs hP hD hS => ?_)
  obtain ⟨hP, hD⟩ := kx_re (w2 := [(h0, .inr (2, [.null, .ref q_1, .ref q_5, .ref q_7, .null, .null, .null, .null, .null, .int 0, .int 0])), kx_3 q_1 q_3 q_4 0 0 0, kx_a q_3 cyI 12 (fun _ => 0), kx_a q_4 cyI 12 (fun _ => 0), kx_a q_5 cyI 319 (fun _ => 0), kx_a q_7 cyI 319 (fun _ => 0)]) hP hD rfl
  refine lv_aload_n hx hb dX2_init_33 rfl (lv_at hl 0 rfl) ?_
  refine lv_sipush (v := 319) hx hb dX2_init_34 (by decide) ?_
  refine va_newa (atype := .int) (a0 := (319, .inl (fun _ => 0))) hx hb ha_int rfl hK hP hD hS hA (N' := 319) (fun cA => ki_zi cA 319) (by decide) (by decide) (Nat.le_of_ble_eq_true rfl) (Nat.le_of_ble_eq_true rfl) (Nat.le_of_ble_eq_true rfl) dX2_init_37 (fun q_9 cA_10 H hK hP hD hS => ?_)
  obtain rfl : cyI = cA_10 := (ki_cA hK 0 1 rfl rfl).symm
  have hK : va_K (dC, dI) vwCl [(cyI, .int)] s := hK.sub [0] rfl
  refine W.widen (k := 6) (n := 986) (Nat.le_of_ble_eq_true rfl) (Nat.le_of_ble_eq_true rfl) ?_
  obtain ⟨hP, hD⟩ := kx_re (w2 := [(h0, .inr (2, [.null, .ref q_1, .ref q_5, .ref q_7, .null, .null, .null, .null, .null, .int 0, .int 0])), kx_3 q_1 q_3 q_4 0 0 0, kx_a q_3 cyI 12 (fun _ => 0), kx_a q_4 cyI 12 (fun _ => 0), kx_a q_5 cyI 319 (fun _ => 0), kx_a q_7 cyI 319 (fun _ => 0), kx_a q_9 cyI 319 (fun _ => 0)]) hP hD rfl
  refine va_putF (D := (dC, dI)) (ci := 2) (v := .ref q_9) (ty := .array .int) (C := RX2) (T := TX2) (N := 11) hx hb hts hi_2 tyX2 tyX2_ok nmX2 hown hK hP hD hS 0 rfl rfl 4 (by decide) hf_25 (fun _ h9 => h9) rfl hin rfl (by decide +kernel) rfl rfl (Nat.le_of_ble_eq_true rfl) dX2_init_39 (fun H locs hP hD hS => ?_)
  obtain ⟨hP, hD⟩ := kx_re (w2 := [(h0, .inr (2, [.null, .ref q_1, .ref q_5, .ref q_7, .ref q_9, .null, .null, .null, .null, .int 0, .int 0])), kx_3 q_1 q_3 q_4 0 0 0, kx_a q_3 cyI 12 (fun _ => 0), kx_a q_4 cyI 12 (fun _ => 0), kx_a q_5 cyI 319 (fun _ => 0), kx_a q_7 cyI 319 (fun _ => 0), kx_a q_9 cyI 319 (fun _ => 0)]) hP hD rfl
  refine lv_aload_n hx hb dX2_init_42 rfl (lv_at hl 0 rfl) ?_
  refine lv_sipush (v := 319) hx hb dX2_init_43 (by decide) ?_
  refine va_newa (atype := .int) (a0 := (319, .inl (fun _ => 0))) hx hb ha_int rfl hK hP hD hS hA (N' := 319) (fun cA => ki_zi cA 319) (by decide) (by decide) (Nat.le_of_ble_eq_true rfl) (Nat.le_of_ble_eq_true rfl) (Nat.le_of_ble_eq_true rfl) dX2_init_46 (fun q_11 cA_12 H hK hP hD hS => ?_)
  obtain rfl : cyI = cA_12 := (ki_cA hK 0 1 rfl rfl).symm
  have hK : va_K (dC, dI) vwCl [(cyI, .int)] s := hK.sub [0] rfl
  refine W.widen (k := 7) (n := 1305) (Nat.le_of_ble_eq_true rfl) (Nat.le_of_ble_eq_true rfl) ?_
  obtain ⟨hP, hD⟩ := kx_re (w2 := [(h0, .inr (2, [.null, .ref q_1, .ref q_5, .ref q_7, .ref q_9, .null, .null, .null, .null, .int 0, .int 0])), kx_3 q_1 q_3 q_4 0 0 0, kx_a q_3 cyI 12 (fun _ => 0), kx_a q_4 cyI 12 (fun _ => 0), kx_a q_5 cyI 319 (fun _ => 0), kx_a q_7 cyI 319 (fun _ => 0), kx_a q_9 cyI 319 (fun _ => 0), kx_a q_11 cyI 319 (fun _ => 0)]) hP hD rfl
  refine va_putF (D := (dC, dI)) (ci := 2) (v := .ref q_11) (ty := .array .int) (C := RX2) (T := TX2) (N := 11) hx hb hts hi_2 tyX2 tyX2_ok nmX2 hown hK hP hD hS 0 rfl rfl 5 (by decide) hf_28 (fun _ h9 => h9) rfl hin rfl (by decide +kernel) rfl rfl (Nat.le_of_ble_eq_true rfl) dX2_init_48 (fun H locs hP hD hS => ?_)
  obtain ⟨hP, hD⟩ := kx_re (w2 := [(h0, .inr (2, [.null, .ref q_1, .ref q_5, .ref q_7, .ref q_9, .ref q_11, .null, .null, .null, .int 0, .int 0])), kx_3 q_1 q_3 q_4 0 0 0, kx_a q_3 cyI 12 (fun _ => 0), kx_a q_4 cyI 12 (fun _ => 0), kx_a q_5 cyI 319 (fun _ => 0), kx_a q_7 cyI 319 (fun _ => 0), kx_a q_9 cyI 319 (fun _ => 0), kx_a q_11 cyI 319 (fun _ => 0)]) hP hD rfl
  refine lv_aload_n hx hb dX2_init_51 rfl (lv_at hl 0 rfl) ?_
  refine lv_sipush (v := 319) hx hb dX2_init_52 (by decide) ?_
  refine va_newa (atype := .int) (a0 := (319, .inl (fun _ => 0))) hx hb ha_int rfl hK hP hD hS hA (N' := 319) (fun cA => ki_zi cA 319) (by decide) (by decide) (Nat.le_of_ble_eq_true rfl) (Nat.le_of_ble_eq_true rfl) (Nat.le_of_ble_eq_true rfl) dX2_init_55 (fun q_13 cA_14 H hK hP hD hS => ?_)
  obtain rfl : cyI = cA_14 := (ki_cA hK 0 1 rfl rfl).symm
  have hK : va_K (dC, dI) vwCl [(cyI, .int)] s := hK.sub [0] rfl
  refine W.widen (k := 8) (n := 1624) (Nat.le_of_ble_eq_true rfl) (Nat.le_of_ble_eq_true rfl) ?_
  obtain ⟨hP, hD⟩ := kx_re (w2 := [(h0, .inr (2, [.null, .ref q_1, .ref q_5, .ref q_7, .ref q_9, .ref q_11, .null, .null, .null, .int 0, .int 0])), kx_3 q_1 q_3 q_4 0 0 0, kx_a q_3 cyI 12 (fun _ => 0), kx_a q_4 cyI 12 (fun _ => 0), kx_a q_5 cyI 319 (fun _ => 0), kx_a q_7 cyI 319 (fun _ => 0), kx_a q_9 cyI 319 (fun _ => 0), kx_a q_11 cyI 319 (fun _ => 0), kx_a q_13 cyI 319 (fun _ => 0)]) hP hD rfl
  refine va_putF (D := (dC, dI)) (ci := 2) (v := .ref q_13) (ty := .array .int) (C := RX2) (T := TX2) (N := 11) hx hb hts hi_2 tyX2 tyX2_ok nmX2 hown hK hP hD hS 0 rfl rfl 6 (by decide) hf_31 (fun _ h9 => h9) rfl hin rfl (by decide +kernel) rfl rfl (Nat.le_of_ble_eq_true rfl) dX2_init_57 (fun H locs hP hD hS => ?_)
  obtain ⟨hP, hD⟩ := kx_re (w2 := [(h0, .inr (2, [.null, .ref q_1, .ref q_5, .ref q_7, .ref q_9, .ref q_11, .ref q_13, .null, .null, .int 0, .int 0])), kx_3 q_1 q_3 q_4 0 0 0, kx_a q_3 cyI 12 (fun _ => 0), kx_a q_4 cyI 12 (fun _ => 0), kx_a q_5 cyI 319 (fun _ => 0), kx_a q_7 cyI 319 (fun _ => 0), kx_a q_9 cyI 319 (fun _ => 0), kx_a q_11 cyI 319 (fun _ => 0), kx_a q_13 cyI 319 (fun _ => 0)]) hP hD rfl
  refine lv_aload_n hx hb dX2_init_60 rfl (lv_at hl 0 rfl) ?_
  refine lv_sipush (v := 1914) hx hb dX2_init_61 (by decide) ?_
  refine va_newa (atype := .int) (a0 := (1914, .inl (fun _ => 0))) hx hb ha_int rfl hK hP hD hS hA (N' := 1914) (fun cA => ki_zi cA 1914) (by decide) (by decide) (Nat.le_of_ble_eq_true rfl) (Nat.le_of_ble_eq_true rfl) (Nat.le_of_ble_eq_true rfl) dX2_init_64 (fun q_15 cA_16 H hK hP hD hS => ?_)
  obtain rfl : cyI = cA_16 := (ki_cA hK 0 1 rfl rfl).symm
  have hK : va_K (dC, dI) vwCl [(cyI, .int)] s := hK.sub [0] rfl
  refine W.widen (k := 9) (n := 3538) (Nat.le_of_ble_eq_true rfl) (Nat.le_of_ble_eq_true rfl) ?_
  obtain ⟨hP, hD⟩ := kx_re (w2 := [(h0, .inr (2, [.null, .ref q_1, .ref q_5, .ref q_7, .ref q_9, .ref q_11, .ref q_13, .null, .null, .int 0, .int 0])), kx_3 q_1 q_3 q_4 0 0 0, kx_a q_3 cyI 12 (fun _ => 0), kx_a q_4 cyI 12 (fun _ => 0), kx_a q_5 cyI 319 (fun _ => 0), kx_a q_7 cyI 319 (fun _ => 0), kx_a q_9 cyI 319 (fun _ => 0), kx_a q_11 cyI 319 (fun _ => 0), kx_a q_13 cyI 319 (fun _ => 0), kx_a q_15 cyI 1914 (fun _ => 0)]) hP hD rfl
  refine va_putF (D := (dC, dI)) (ci := 2) (v := .ref q_15) (ty := .array .int) (C := RX2) (T := TX2) (N := 11) hx hb hts hi_2 tyX2 tyX2_ok nmX2 hown hK hP hD hS 0 rfl rfl 7 (by decide) hf_34 (fun _ h9 => h9) rfl hin rfl (by decide +kernel) rfl rfl (Nat.le_of_ble_eq_true rfl) dX2_init_66 (fun H locs hP hD hS => ?_)
  obtain ⟨hP, hD⟩ := kx_re (w2 := [(h0, .inr (2, [.null, .ref q_1, .ref q_5, .ref q_7, .ref q_9, .ref q_11, .ref q_13, .ref q_15, .null, .int 0, .int 0])), kx_3 q_1 q_3 q_4 0 0 0, kx_a q_3 cyI 12 (fun _ => 0), kx_a q_4 cyI 12 (fun _ => 0), kx_a q_5 cyI 319 (fun _ => 0), kx_a q_7 cyI 319 (fun _ => 0), kx_a q_9 cyI 319 (fun _ => 0), kx_a q_11 cyI 319 (fun _ => 0), kx_a q_13 cyI 319 (fun _ => 0), kx_a q_15 cyI 1914 (fun _ => 0)]) hP hD rfl
  refine lv_aload_n hx hb dX2_init_69 rfl (lv_at hl 0 rfl) ?_
  refine lv_sipush (v := 1914) hx hb dX2_init_70 (by decide) ?_
  refine va_newa (atype := .int) (a0 := (1914, .inl (fun _ => 0))) hx hb ha_int rfl hK hP hD hS hA (N' := 1914) (fun cA => ki_zi cA 1914) (by decide) (by decide) (Nat.le_of_ble_eq_true rfl) (Nat.le_of_ble_eq_true rfl) (Nat.le_of_ble_eq_true rfl) dX2_init_73 (fun q_17 cA_18 H hK hP hD hS => ?_)
  obtain rfl : cyI = cA_18 := (ki_cA hK 0 1 rfl rfl).symm
  have hK : va_K (dC, dI) vwCl [(cyI, .int)] s := hK.sub [0] rfl
  refine W.widen (k := 10) (n := 5452) (Nat.le_of_ble_eq_true rfl) (Nat.le_of_ble_eq_true rfl) ?_
  obtain ⟨hP, hD⟩ := kx_re (w2 := [(h0, .inr (2, [.null, .ref q_1, .ref q_5, .ref q_7, .ref q_9, .ref q_11, .ref q_13, .ref q_15, .null, .int 0, .int 0])), kx_3 q_1 q_3 q_4 0 0 0, kx_a q_3 cyI 12 (fun _ => 0), kx_a q_4 cyI 12 (fun _ => 0), kx_a q_5 cyI 319 (fun _ => 0), kx_a q_7 cyI 319 (fun _ => 0), kx_a q_9 cyI 319 (fun _ => 0), kx_a q_11 cyI 319 (fun _ => 0), kx_a q_13 cyI 319 (fun _ => 0), kx_a q_15 cyI 1914 (fun _ => 0), kx_a q_17 cyI 1914 (fun _ => 0)]) hP hD rfl
  refine va_putF (D := (dC, dI)) (ci := 2) (v := .ref q_17) (ty := .array .int) (C := RX2) (T := TX2) (N := 11) hx hb hts hi_2 tyX2 tyX2_ok nmX2 hown hK hP hD hS 0 rfl rfl 8 (by decide) hf_37 (fun _ h9 => h9) rfl hin rfl (by decide +kernel) rfl rfl (Nat.le_of_ble_eq_true rfl) dX2_init_75 (fun H locs hP hD hS => ?_)
  obtain ⟨hP, hD⟩ := kx_re (w2 := [(h0, .inr (2, [.null, .ref q_1, .ref q_5, .ref q_7, .ref q_9, .ref q_11, .ref q_13, .ref q_15, .ref q_17, .int 0, .int 0])), kx_3 q_1 q_3 q_4 0 0 0, kx_a q_3 cyI 12 (fun _ => 0), kx_a q_4 cyI 12 (fun _ => 0), kx_a q_5 cyI 319 (fun _ => 0), kx_a q_7 cyI 319 (fun _ => 0), kx_a q_9 cyI 319 (fun _ => 0), kx_a q_11 cyI 319 (fun _ => 0), kx_a q_13 cyI 319 (fun _ => 0), kx_a q_15 cyI 1914 (fun _ => 0), kx_a q_17 cyI 1914 (fun _ => 0)]) hP hD rfl
  refine lv_aload_n hx hb dX2_init_78 rfl (lv_at hl 0 rfl) ?_
  refine lv_aload_n hx hb dX2_init_79 rfl (lv_at hl 1 rfl) ?_
  refine va_putF (D := (dC, dI)) (ci := 2) (v := .ref h1) (ty := .object "MajorityIndex$Row") (C := RX2) (T := TX2) (N := 11) hx hb hts hi_2 tyX2 tyX2_ok nmX2 hown hK hP hD hS 0 rfl rfl 0 (by decide) hf_40 (fun _ h9 => h9) rfl hin rfl (by decide +kernel) rfl rfl (Nat.le_of_ble_eq_true rfl) dX2_init_80 (fun H locs hP hD hS => ?_)
  obtain ⟨hP, hD⟩ := kx_re (w2 := [kx_2 h0 h1 q_1 q_5 q_7 q_9 q_11 q_13 q_15 q_17 0 0, kx_3 q_1 q_3 q_4 0 0 0, kx_a q_3 cyI 12 (fun _ => 0), kx_a q_4 cyI 12 (fun _ => 0), kx_a q_5 cyI 319 (fun _ => 0), kx_a q_7 cyI 319 (fun _ => 0), kx_a q_9 cyI 319 (fun _ => 0), kx_a q_11 cyI 319 (fun _ => 0), kx_a q_13 cyI 319 (fun _ => 0), kx_a q_15 cyI 1914 (fun _ => 0), kx_a q_17 cyI 1914 (fun _ => 0)]) hP hD rfl
  have hP9 := hP
  have hD9 := hD
  have hK9 := hK
  exact W.vret hx hb hr (hlocks := hlocks) (fun t ht hW => ⟨⟨(), rfl, trivial, q_1, q_5, q_7, q_9, q_11, q_13, q_15, q_17, q_3, q_4, by rw [ht]; exact hP9, va_K.moved hW.alike hK9, hD9⟩, hS.F ht⟩) hS.2.2 dX2_init_83

set_option maxHeartbeats 4000000 in
set_option maxRecDepth 100000 in
theorem c_X4_init (l : Launch) (dC : Nat → ClassId) (dI : Nat → Nat → Nat) (k_x : Nat) (cyI : ClassId) (sz : Nat) : Met l yX4_init wsX4_init ({ frames := 3, cells := 24, slots := 6328, locals := 135 }) (va_Pc [.ref k_x] (fun U => U.heap.size = sz ∧ va_P (dC, dI) vwCl [(k_x, .inr (4, [.null, .null, .null, .null, .null, .null, .null, .int 0, .int 0]))] U.heap ∧ va_K (dC, dI) vwCl [(cyI, .int)] U ∧ va_D (fun _ => True) [(k_x, .inr (4, [.null, .null, .null, .null, .null, .null, .null, .int 0, .int 0]))] ∧ va_Nw (.methodLinkNest RX4 11 yX0_init RX4) U ∧ va_Nw (.methodLinkNest RX4 27 yX1_init RX4) U ∧ va_Nw (.methodLinkNest RX4 34 yX3_init RX4) U ∧ va_Nw (.methodLinkNest RX2 11 yX3_init RX4) U)) (va_Qv (fun _ : Unit => True) (fun (_ : Unit) (t : State) => ∃ (k_row : Nat) (k_tree : Nat) (k_tally : Nat) (k_votes : Nat) (k_other : Nat) (k_wins : Nat) (k_fewest : Nat) (k_cell : Nat) (k_t_joined : Nat) (k_t_from : Nat) (k_t_to : Nat) (k_t_size : Nat) (k_t_lossOf : Nat) (k_t_lessBy : Nat) (k_t_value : Nat) (k_t_number : Nat) (k_t_jv : Nat) (k_t_jn : Nat) (k_kind : Nat) (k_often : Nat) (k_vv : Nat) (k_vn : Nat) (k_ov : Nat) (k_on : Nat), va_P (dC, dI) vwCl [kx_4 k_x k_row k_tree k_tally k_votes k_other k_wins k_fewest 2 1, kx_0 k_row k_cell 0, kx_a k_cell cyI 160 (fun _ => 0), kx_2 k_tree k_row k_t_joined k_t_from k_t_to k_t_size k_t_lossOf k_t_lessBy k_t_value k_t_number 0 0, kx_3 k_t_joined k_t_jv k_t_jn 0 0 0, kx_a k_t_jv cyI 12 (fun _ => 0), kx_a k_t_jn cyI 12 (fun _ => 0), kx_a k_t_from cyI 319 (fun _ => 0), kx_a k_t_to cyI 319 (fun _ => 0), kx_a k_t_size cyI 319 (fun _ => 0), kx_a k_t_lossOf cyI 319 (fun _ => 0), kx_a k_t_lessBy cyI 319 (fun _ => 0), kx_a k_t_value cyI 1914 (fun _ => 0), kx_a k_t_number cyI 1914 (fun _ => 0), kx_1 k_tally k_kind k_often 0 0, kx_a k_kind cyI 160 (fun _ => 0), kx_a k_often cyI 160 (fun _ => 0), kx_3 k_votes k_vv k_vn 0 0 0, kx_a k_vv cyI 12 (fun _ => 0), kx_a k_vn cyI 12 (fun _ => 0), kx_3 k_other k_ov k_on 0 0 0, kx_a k_ov cyI 12 (fun _ => 0), kx_a k_on cyI 12 (fun _ => 0), kx_a k_wins cyI 160 (fun _ => 0), kx_a k_fewest cyI 161 (fun _ => 0)] t.heap ∧ va_K (dC, dI) vwCl [(cyI, .int)] t ∧ va_D (va_A [(k_x, .inr (4, [.null, .null, .null, .null, .null, .null, .null, .int 0, .int 0]))] sz) [kx_4 k_x k_row k_tree k_tally k_votes k_other k_wins k_fewest 2 1, kx_0 k_row k_cell 0, kx_a k_cell cyI 160 (fun _ => 0), kx_2 k_tree k_row k_t_joined k_t_from k_t_to k_t_size k_t_lossOf k_t_lessBy k_t_value k_t_number 0 0, kx_3 k_t_joined k_t_jv k_t_jn 0 0 0, kx_a k_t_jv cyI 12 (fun _ => 0), kx_a k_t_jn cyI 12 (fun _ => 0), kx_a k_t_from cyI 319 (fun _ => 0), kx_a k_t_to cyI 319 (fun _ => 0), kx_a k_t_size cyI 319 (fun _ => 0), kx_a k_t_lossOf cyI 319 (fun _ => 0), kx_a k_t_lessBy cyI 319 (fun _ => 0), kx_a k_t_value cyI 1914 (fun _ => 0), kx_a k_t_number cyI 1914 (fun _ => 0), kx_1 k_tally k_kind k_often 0 0, kx_a k_kind cyI 160 (fun _ => 0), kx_a k_often cyI 160 (fun _ => 0), kx_3 k_votes k_vv k_vn 0 0 0, kx_a k_vv cyI 12 (fun _ => 0), kx_a k_vn cyI 12 (fun _ => 0), kx_3 k_other k_ov k_on 0 0 0, kx_a k_ov cyI 12 (fun _ => 0), kx_a k_on cyI 12 (fun _ => 0), kx_a k_wins cyI 160 (fun _ => 0), kx_a k_fewest cyI 161 (fun _ => 0)]) (va_A [(k_x, .inr (4, [.null, .null, .null, .null, .null, .null, .null, .int 0, .int 0]))] sz)) 24 6328 (va_A [(k_x, .inr (4, [.null, .null, .null, .null, .null, .null, .null, .int 0, .int 0]))] sz) := by
  refine Met.ofW (cc := cX4_init) (maxL := 1) (ret := none) (by decide) rfl ?_
  intro p e s m args below meth c s₁ B hml hv
  obtain ⟨rfl, hsz, hP, hK, hD0, hN0, hN1, hN2, hN3⟩ := hv
  have hx := B.exec
  have hb := B.bytes
  have hr := B.returns
  have hts := atoms_spec (ws := wsX4_init) B.pre
  have hown : s.vm.findClass RX4 = some m.cls := findClass_of_methodNamed B.named
  have hlocks := B.notSynchronized
  have hin : meth.name = "<init>" := (name_of_methodNamed B.named B.method).1
  subst hsz
  have hD := hD0.self (sz := s.heap.size)
  generalize hAe : va_A [(k_x, .inr (4, [.null, .null, .null, .null, .null, .null, .null, .int 0, .int 0]))] s.heap.size = A at hD ⊢
  have hA : ∀ q : Nat, s.heap.size ≤ q → A q := fun q h => by rw [← hAe]; exact Or.inr h
  have hS : va_S A s.heap s.heap [] := va_S.rf
  have hP : va_P (dC, dI) vwCl [(k_x, .inr (4, [.null, .null, .null, .null, .null, .null, .null, .int 0, .int 0]))] s.heap := hP
  have hl := lv_entry ([.ref k_x]) (n := 1) (Nat.le_of_ble_eq_true rfl)
  rw [lg_entry_eq]
  generalize (lg_sl ([.ref k_x]) ++ List.replicate (1 - (lg_sl ([.ref k_x])).length) Slot.unset).toArray = ls at hl ⊢
  have hl : lv_has ls 1 [(0, .ref k_x)] := hl
  have hm_3 := hts (.methodLink RX4 3 objectInit) (List.mem_of_getElem? (i := 1) rfl)
  have ho_i := hts (.instanceMethod objectInit) (List.mem_of_getElem? (i := 2) rfl)
  have ho_c := hts (.code objectInit ⟨#[0xb1]⟩ 1 none) (List.mem_of_getElem? (i := 3) rfl)
  have hc_9 := hts (.classLink RX4 9 RX0) (List.mem_of_getElem? (i := 4) rfl)
  have hj_0 := hts (.instantiable RX0 2) (List.mem_of_getElem? (i := 5) rfl)
  have hz_0 := hts (.initialized RX0) (List.mem_of_getElem? (i := 6) rfl)
  have hi_0 : ∀ w ∈ u_ws RX0 TX0 2, w ∈ wsX4_init := fun w h => List.mem_cons_of_mem _ (List.mem_append_left _ (List.mem_append_left _ (List.mem_append_left _ (List.mem_append_left _ (List.mem_append_right _ h)))))
  have hz_RX0 := hts (.initialized RX0) (List.mem_of_getElem? (i := 6) rfl)
  have hq_X0_init := hts (.instanceMethod yX0_init) (List.mem_of_getElem? (i := 26) rfl)
  have hf_12 := hts (.fieldLink RX4 12 "MajorityIndex" "row" "LMajorityIndex$Row;") (List.mem_of_getElem? (i := 7) rfl)
  have hi_4 : ∀ w ∈ u_ws RX4 TX4 9, w ∈ wsX4_init := fun w h => List.mem_cons_of_mem _ (List.mem_append_left _ (List.mem_append_left _ (List.mem_append_left _ (List.mem_append_right _ h))))
  have hc_16 := hts (.classLink RX4 16 RX2) (List.mem_of_getElem? (i := 8) rfl)
  have hj_2 := hts (.instantiable RX2 11) (List.mem_of_getElem? (i := 9) rfl)
  have hz_2 := hts (.initialized RX2) (List.mem_of_getElem? (i := 10) rfl)
  have hi_2 : ∀ w ∈ u_ws RX2 TX2 11, w ∈ wsX4_init := fun w h => List.mem_cons_of_mem _ (List.mem_append_left _ (List.mem_append_left _ (List.mem_append_right _ h)))
  have hz_RX2 := hts (.initialized RX2) (List.mem_of_getElem? (i := 10) rfl)
  have hm_18 := hts (.methodLink RX4 18 yX2_init) (List.mem_of_getElem? (i := 30) rfl)
  have hq_X2_init := hts (.instanceMethod yX2_init) (List.mem_of_getElem? (i := 31) rfl)
  have hf_21 := hts (.fieldLink RX4 21 "MajorityIndex" "tree" "LMajorityIndex$Tree;") (List.mem_of_getElem? (i := 11) rfl)
  have hc_25 := hts (.classLink RX4 25 RX1) (List.mem_of_getElem? (i := 12) rfl)
  have hj_1 := hts (.instantiable RX1 4) (List.mem_of_getElem? (i := 13) rfl)
  have hz_1 := hts (.initialized RX1) (List.mem_of_getElem? (i := 14) rfl)
  have hi_1 : ∀ w ∈ u_ws RX1 TX1 4, w ∈ wsX4_init := fun w h => List.mem_cons_of_mem _ (List.mem_append_left _ (List.mem_append_right _ h))
  have hz_RX1 := hts (.initialized RX1) (List.mem_of_getElem? (i := 14) rfl)
  have hq_X1_init := hts (.instanceMethod yX1_init) (List.mem_of_getElem? (i := 49) rfl)
  have hf_28 := hts (.fieldLink RX4 28 "MajorityIndex" "tally" "LMajorityIndex$Tally;") (List.mem_of_getElem? (i := 15) rfl)
  have hc_32 := hts (.classLink RX4 32 RX3) (List.mem_of_getElem? (i := 16) rfl)
  have hj_3 := hts (.instantiable RX3 5) (List.mem_of_getElem? (i := 17) rfl)
  have hz_3 := hts (.initialized RX3) (List.mem_of_getElem? (i := 18) rfl)
  have hi_3 : ∀ w ∈ u_ws RX3 TX3 5, w ∈ wsX4_init := fun w h => List.mem_cons_of_mem _ (List.mem_append_right _ h)
  have hz_RX3 := hts (.initialized RX3) (List.mem_of_getElem? (i := 18) rfl)
  have hq_X3_init := hts (.instanceMethod yX3_init) (List.mem_of_getElem? (i := 44) rfl)
  have hf_35 := hts (.fieldLink RX4 35 "MajorityIndex" "votes" "LMajorityIndex$Votes;") (List.mem_of_getElem? (i := 19) rfl)
  have hf_39 := hts (.fieldLink RX4 39 "MajorityIndex" "otherVotes" "LMajorityIndex$Votes;") (List.mem_of_getElem? (i := 20) rfl)
  have ha_int := hts (.arrayClass .int) (List.mem_of_getElem? (i := 21) rfl)
  have hf_42 := hts (.fieldLink RX4 42 "MajorityIndex" "wins" "[I") (List.mem_of_getElem? (i := 22) rfl)
  have hf_46 := hts (.fieldLink RX4 46 "MajorityIndex" "fewest" "[I") (List.mem_of_getElem? (i := 23) rfl)
  have hf_49 := hts (.fieldLink RX4 49 "MajorityIndex" "slotsNow" "I") (List.mem_of_getElem? (i := 24) rfl)
  have hf_53 := hts (.fieldLink RX4 53 "MajorityIndex" "treeIsOld" "Z") (List.mem_of_getElem? (i := 25) rfl)
  refine lv_aload_n hx hb dX4_init_0 rfl (lv_at hl 0 rfl) ?_
  refine W.objInit hx hb hown hm_3 ho_i ho_c rfl (by rw [hml]; exact hl.1) rfl dX4_init_1 (Nat.le_of_ble_eq_true rfl) (Nat.le_of_ble_eq_true rfl) ?_
  refine W.eq (g2 := F0 m 4 ls []) rfl ?_
  refine lv_aload_n hx hb dX4_init_4 rfl (lv_at hl 0 rfl) ?_
  refine va_new (ci := 0) (fs := [.null, .int 0]) (C := RX0) (T := TX0) (N := 2) hx hb hts hi_0 tyX0 tyX0_ok hown hc_9 hj_0 hz_0 hK hP hD hS hA rfl (ki_z0) (Nat.le_of_ble_eq_true rfl) (Nat.le_of_ble_eq_true rfl) dX4_init_5 (fun q_1 H hP hD hS => ?_)
  refine W.widen (k := 1) (n := 2) (Nat.le_of_ble_eq_true rfl) (Nat.le_of_ble_eq_true rfl) ?_
  obtain ⟨hP, hD⟩ := kx_re (w2 := [(k_x, .inr (4, [.null, .null, .null, .null, .null, .null, .null, .int 0, .int 0])), (q_1, .inr (0, [.null, .int 0]))]) hP hD rfl
  refine lv_dup hx hb dX4_init_8 rfl ?_
  obtain ⟨hPc, hDc, hFc, hCc⟩ := kx_pre (wc := [(q_1, .inr (0, [.null, .int 0]))]) hP hD hS hA [1] (by decide) rfl
  have hKc := hK
  refine va_callv (va_runIN (As := []) (rest := [.ref q_1, .ref k_x]) ⟨hx, hb, hml, hown, hts⟩ (c_X0_init l dC dI q_1 cyI H.size) ⟨(va_cnB 0 hts ggX4_init_X0_init rfl rfl rfl hN0 hz_RX0 (by decide +kernel) ⟨Nat.le_of_ble_eq_true rfl, Nat.le_of_ble_eq_true rfl⟩), rfl, hq_X0_init⟩ ⟨fun a U g mk q => by obtain ⟨q0, q1, qP, qK, qD⟩ := q; exact ⟨q0, q1, qP, va_K.moved (u := U) (U := U.calling g mk a) (Vm.Alike.refl U.vm) qK, qD⟩, fun U hU hW => ⟨rfl, by rw [hU], by rw [hU]; exact hPc, va_K.moved hW.alike hKc, hDc.weaken (fun _ _ _ _ => trivial)⟩⟩ rfl rfl hl.1 rfl (lv_room (Nat.le_of_ble_eq_true rfl)) dX4_init_9 ⟨Nat.le_of_ble_eq_true rfl, Nat.le_of_ble_eq_true rfl⟩) hS (fun q _ h => hFc q h) hFc (fun u t H1 locs ht hvm w_2 hB hz1 hk1 hS => ?_)
  obtain ⟨q_3, hP1, hK1, hD1⟩ := hB
  rw [ht] at hP1
  have hK1 := va_K.moved hvm.symm hK1
  obtain ⟨hP, hD⟩ := kx_join (w2 := [(k_x, .inr (4, [.null, .null, .null, .null, .null, .null, .null, .int 0, .int 0])), kx_0 q_1 q_3 0, kx_a q_3 cyI 160 (fun _ => 0)]) hP hD hP1 hD1 hk1 hFc [1] [0] hCc rfl (by decide) (by decide)
  clear hP1 hD1 hK1 hk1 hz1 hFc hDc hPc hKc hCc
  generalize H1 = H at hP hS ⊢
  refine W.widen (k := 2) (n := 162) (Nat.le_of_ble_eq_true rfl) (Nat.le_of_ble_eq_true rfl) ?_
  refine va_putF (D := (dC, dI)) (ci := 4) (v := .ref q_1) (ty := .object "MajorityIndex$Row") (C := RX4) (T := TX4) (N := 9) hx hb hts hi_4 tyX4 tyX4_ok nmX4 hown hK hP hD hS 0 rfl rfl 0 (by decide) hf_12 (fun _ h9 => h9) rfl hin rfl (by decide +kernel) rfl rfl (Nat.le_of_ble_eq_true rfl) dX4_init_12 (fun H locs hP hD hS => ?_)
  obtain ⟨hP, hD⟩ := kx_re (w2 := [(k_x, .inr (4, [.ref q_1, .null, .null, .null, .null, .null, .null, .int 0, .int 0])), kx_0 q_1 q_3 0, kx_a q_3 cyI 160 (fun _ => 0)]) hP hD rfl
  refine lv_aload_n hx hb dX4_init_15 rfl (lv_at hl 0 rfl) ?_
  refine va_new (ci := 2) (fs := [.null, .null, .null, .null, .null, .null, .null, .null, .null, .int 0, .int 0]) (C := RX2) (T := TX2) (N := 11) hx hb hts hi_2 tyX2 tyX2_ok hown hc_16 hj_2 hz_2 hK hP hD hS hA rfl (ki_z2) (Nat.le_of_ble_eq_true rfl) (Nat.le_of_ble_eq_true rfl) dX4_init_16 (fun q_4 H hP hD hS => ?_)
  refine W.widen (k := 3) (n := 173) (Nat.le_of_ble_eq_true rfl) (Nat.le_of_ble_eq_true rfl) ?_
  obtain ⟨hP, hD⟩ := kx_re (w2 := [(k_x, .inr (4, [.ref q_1, .null, .null, .null, .null, .null, .null, .int 0, .int 0])), kx_0 q_1 q_3 0, kx_a q_3 cyI 160 (fun _ => 0), (q_4, .inr (2, [.null, .null, .null, .null, .null, .null, .null, .null, .null, .int 0, .int 0]))]) hP hD rfl
  refine lv_dup hx hb dX4_init_19 rfl ?_
  refine lv_aload_n hx hb dX4_init_20 rfl (lv_at hl 0 rfl) ?_
  refine va_get (D := (dC, dI)) (ci := 4) (v := .ref q_1) (C := RX4) (T := TX4) (N := 9) hx hb hts hi_4 hown hK hP 0 rfl rfl 0 (by decide) hf_12 (fun _ h9 => h9) rfl dX4_init_21 ?_
  obtain ⟨hPc, hDc, hFc, hCc⟩ := kx_pre (wc := [(q_4, .inr (2, [.null, .null, .null, .null, .null, .null, .null, .null, .null, .int 0, .int 0]))]) hP hD hS hA [3] (by decide) rfl
  have hKc := hK
  refine va_callv (va_runI (As := [.ref q_1]) (rest := [.ref q_4, .ref k_x]) ⟨hx, hb, hml, hown, hts⟩ (c_X2_init l dC dI q_4 q_1 cyI H.size) (cwI 1 hts ggX4_init_X2_init rfl rfl rfl hz_RX2 hm_18 hq_X2_init rfl (by decide +kernel) ⟨Nat.le_of_ble_eq_true rfl, Nat.le_of_ble_eq_true rfl⟩) ⟨fun a U g mk q => by obtain ⟨q0, q1, qP, qK, qD, qn0⟩ := q; exact ⟨q0, q1, qP, va_K.moved (u := U) (U := U.calling g mk a) (Vm.Alike.refl U.vm) qK, qD, va_Nw.same (u := U) (U := U.calling g mk a) rfl rfl qn0⟩, fun U hU hW => ⟨rfl, by rw [hU], by rw [hU]; exact hPc, va_K.moved hW.alike hKc, hDc.weaken (fun _ _ _ _ => trivial), va_Nw.warmM hW hN3⟩⟩ rfl rfl hl.1 rfl (lv_room (Nat.le_of_ble_eq_true rfl)) dX4_init_24 ⟨Nat.le_of_ble_eq_true rfl, Nat.le_of_ble_eq_true rfl⟩) hS (fun q _ h => hFc q h) hFc (fun u t H1 locs ht hvm w_5 hB hz1 hk1 hS => ?_)
  obtain ⟨q_6, q_7, q_8, q_9, q_10, q_11, q_12, q_13, q_14, q_15, hP1, hK1, hD1⟩ := hB
  rw [ht] at hP1
  have hK1 := va_K.moved hvm.symm hK1
  obtain ⟨hP, hD⟩ := kx_join (w2 := [(k_x, .inr (4, [.ref q_1, .null, .null, .null, .null, .null, .null, .int 0, .int 0])), kx_0 q_1 q_3 0, kx_a q_3 cyI 160 (fun _ => 0), kx_2 q_4 q_1 q_6 q_7 q_8 q_9 q_10 q_11 q_12 q_13 0 0, kx_3 q_6 q_14 q_15 0 0 0, kx_a q_14 cyI 12 (fun _ => 0), kx_a q_15 cyI 12 (fun _ => 0), kx_a q_7 cyI 319 (fun _ => 0), kx_a q_8 cyI 319 (fun _ => 0), kx_a q_9 cyI 319 (fun _ => 0), kx_a q_10 cyI 319 (fun _ => 0), kx_a q_11 cyI 319 (fun _ => 0), kx_a q_12 cyI 1914 (fun _ => 0), kx_a q_13 cyI 1914 (fun _ => 0)]) hP hD hP1 hD1 hk1 hFc [3] [0, 1, 2] hCc rfl (by decide) (by decide)
  clear hP1 hD1 hK1 hk1 hz1 hFc hDc hPc hKc hCc
  generalize H1 = H at hP hS ⊢
  refine W.widen (k := 13) (n := 5625) (Nat.le_of_ble_eq_true rfl) (Nat.le_of_ble_eq_true rfl) ?_
  refine va_putF (D := (dC, dI)) (ci := 4) (v := .ref q_4) (ty := .object "MajorityIndex$Tree") (C := RX4) (T := TX4) (N := 9) hx hb hts hi_4 tyX4 tyX4_ok nmX4 hown hK hP hD hS 0 rfl rfl 1 (by decide) hf_21 (fun _ h9 => h9) rfl hin rfl (by decide +kernel) rfl rfl (Nat.le_of_ble_eq_true rfl) dX4_init_27 (fun H locs hP hD hS => ?_)
  obtain ⟨hP, hD⟩ := kx_re (w2 := [(k_x, .inr (4, [.ref q_1, .ref q_4, .null, .null, .null, .null, .null, .int 0, .int 0])), kx_0 q_1 q_3 0, kx_a q_3 cyI 160 (fun _ => 0), kx_2 q_4 q_1 q_6 q_7 q_8 q_9 q_10 q_11 q_12 q_13 0 0, kx_3 q_6 q_14 q_15 0 0 0, kx_a q_14 cyI 12 (fun _ => 0), kx_a q_15 cyI 12 (fun _ => 0), kx_a q_7 cyI 319 (fun _ => 0), kx_a q_8 cyI 319 (fun _ => 0), kx_a q_9 cyI 319 (fun _ => 0), kx_a q_10 cyI 319 (fun _ => 0), kx_a q_11 cyI 319 (fun _ => 0), kx_a q_12 cyI 1914 (fun _ => 0), kx_a q_13 cyI 1914 (fun _ => 0)]) hP hD rfl
  refine lv_aload_n hx hb dX4_init_30 rfl (lv_at hl 0 rfl) ?_
  refine va_new (ci := 1) (fs := [.null, .null, .int 0, .int 0]) (C := RX1) (T := TX1) (N := 4) hx hb hts hi_1 tyX1 tyX1_ok hown hc_25 hj_1 hz_1 hK hP hD hS hA rfl (ki_z1) (Nat.le_of_ble_eq_true rfl) (Nat.le_of_ble_eq_true rfl) dX4_init_31 (fun q_16 H hP hD hS => ?_)
  refine W.widen (k := 14) (n := 5629) (Nat.le_of_ble_eq_true rfl) (Nat.le_of_ble_eq_true rfl) ?_
  obtain ⟨hP, hD⟩ := kx_re (w2 := [(k_x, .inr (4, [.ref q_1, .ref q_4, .null, .null, .null, .null, .null, .int 0, .int 0])), kx_0 q_1 q_3 0, kx_a q_3 cyI 160 (fun _ => 0), kx_2 q_4 q_1 q_6 q_7 q_8 q_9 q_10 q_11 q_12 q_13 0 0, kx_3 q_6 q_14 q_15 0 0 0, kx_a q_14 cyI 12 (fun _ => 0), kx_a q_15 cyI 12 (fun _ => 0), kx_a q_7 cyI 319 (fun _ => 0), kx_a q_8 cyI 319 (fun _ => 0), kx_a q_9 cyI 319 (fun _ => 0), kx_a q_10 cyI 319 (fun _ => 0), kx_a q_11 cyI 319 (fun _ => 0), kx_a q_12 cyI 1914 (fun _ => 0), kx_a q_13 cyI 1914 (fun _ => 0), (q_16, .inr (1, [.null, .null, .int 0, .int 0]))]) hP hD rfl
  refine lv_dup hx hb dX4_init_34 rfl ?_
  obtain ⟨hPc, hDc, hFc, hCc⟩ := kx_pre (wc := [(q_16, .inr (1, [.null, .null, .int 0, .int 0]))]) hP hD hS hA [14] (by decide) rfl
  have hKc := hK
  refine va_callv (va_runIN (As := []) (rest := [.ref q_16, .ref k_x]) ⟨hx, hb, hml, hown, hts⟩ (c_X1_init l dC dI q_16 cyI H.size) ⟨(va_cnB 0 hts ggX4_init_X1_init rfl rfl rfl hN1 hz_RX1 (by decide +kernel) ⟨Nat.le_of_ble_eq_true rfl, Nat.le_of_ble_eq_true rfl⟩), rfl, hq_X1_init⟩ ⟨fun a U g mk q => by obtain ⟨q0, q1, qP, qK, qD⟩ := q; exact ⟨q0, q1, qP, va_K.moved (u := U) (U := U.calling g mk a) (Vm.Alike.refl U.vm) qK, qD⟩, fun U hU hW => ⟨rfl, by rw [hU], by rw [hU]; exact hPc, va_K.moved hW.alike hKc, hDc.weaken (fun _ _ _ _ => trivial)⟩⟩ rfl rfl hl.1 rfl (lv_room (Nat.le_of_ble_eq_true rfl)) dX4_init_35 ⟨Nat.le_of_ble_eq_true rfl, Nat.le_of_ble_eq_true rfl⟩) hS (fun q _ h => hFc q h) hFc (fun u t H1 locs ht hvm w_17 hB hz1 hk1 hS => ?_)
  obtain ⟨q_18, q_19, hP1, hK1, hD1⟩ := hB
  rw [ht] at hP1
  have hK1 := va_K.moved hvm.symm hK1
  obtain ⟨hP, hD⟩ := kx_join (w2 := [(k_x, .inr (4, [.ref q_1, .ref q_4, .null, .null, .null, .null, .null, .int 0, .int 0])), kx_0 q_1 q_3 0, kx_a q_3 cyI 160 (fun _ => 0), kx_2 q_4 q_1 q_6 q_7 q_8 q_9 q_10 q_11 q_12 q_13 0 0, kx_3 q_6 q_14 q_15 0 0 0, kx_a q_14 cyI 12 (fun _ => 0), kx_a q_15 cyI 12 (fun _ => 0), kx_a q_7 cyI 319 (fun _ => 0), kx_a q_8 cyI 319 (fun _ => 0), kx_a q_9 cyI 319 (fun _ => 0), kx_a q_10 cyI 319 (fun _ => 0), kx_a q_11 cyI 319 (fun _ => 0), kx_a q_12 cyI 1914 (fun _ => 0), kx_a q_13 cyI 1914 (fun _ => 0), kx_1 q_16 q_18 q_19 0 0, kx_a q_18 cyI 160 (fun _ => 0), kx_a q_19 cyI 160 (fun _ => 0)]) hP hD hP1 hD1 hk1 hFc [14] [0, 1, 2, 3, 4, 5, 6, 7, 8, 9, 10, 11, 12, 13] hCc rfl (by decide) (by decide)
  clear hP1 hD1 hK1 hk1 hz1 hFc hDc hPc hKc hCc
  generalize H1 = H at hP hS ⊢
  refine W.widen (k := 16) (n := 5949) (Nat.le_of_ble_eq_true rfl) (Nat.le_of_ble_eq_true rfl) ?_
  refine va_putF (D := (dC, dI)) (ci := 4) (v := .ref q_16) (ty := .object "MajorityIndex$Tally") (C := RX4) (T := TX4) (N := 9) hx hb hts hi_4 tyX4 tyX4_ok nmX4 hown hK hP hD hS 0 rfl rfl 2 (by decide) hf_28 (fun _ h9 => h9) rfl hin rfl (by decide +kernel) rfl rfl (Nat.le_of_ble_eq_true rfl) dX4_init_38 (fun H locs hP hD hS => ?_)
  obtain ⟨hP, hD⟩ := kx_re (w2 := [(k_x, .inr (4, [.ref q_1, .ref q_4, .ref q_16, .null, .null, .null, .null, .int 0, .int 0])), kx_0 q_1 q_3 0, kx_a q_3 cyI 160 (fun _ => 0), kx_2 q_4 q_1 q_6 q_7 q_8 q_9 q_10 q_11 q_12 q_13 0 0, kx_3 q_6 q_14 q_15 0 0 0, kx_a q_14 cyI 12 (fun _ => 0), kx_a q_15 cyI 12 (fun _ => 0), kx_a q_7 cyI 319 (fun _ => 0), kx_a q_8 cyI 319 (fun _ => 0), kx_a q_9 cyI 319 (fun _ => 0), kx_a q_10 cyI 319 (fun _ => 0), kx_a q_11 cyI 319 (fun _ => 0), kx_a q_12 cyI 1914 (fun _ => 0), kx_a q_13 cyI 1914 (fun _ => 0), kx_1 q_16 q_18 q_19 0 0, kx_a q_18 cyI 160 (fun _ => 0), kx_a q_19 cyI 160 (fun _ => 0)]) hP hD rfl
  refine lv_aload_n hx hb dX4_init_41 rfl (lv_at hl 0 rfl) ?_
  refine va_new (ci := 3) (fs := [.null, .null, .int 0, .int 0, .int 0]) (C := RX3) (T := TX3) (N := 5) hx hb hts hi_3 tyX3 tyX3_ok hown hc_32 hj_3 hz_3 hK hP hD hS hA rfl (ki_z3) (Nat.le_of_ble_eq_true rfl) (Nat.le_of_ble_eq_true rfl) dX4_init_42 (fun q_20 H hP hD hS => ?_)
  refine W.widen (k := 17) (n := 5954) (Nat.le_of_ble_eq_true rfl) (Nat.le_of_ble_eq_true rfl) ?_
  obtain ⟨hP, hD⟩ := kx_re (w2 := [(k_x, .inr (4, [.ref q_1, .ref q_4, .ref q_16, .null, .null, .null, .null, .int 0, .int 0])), kx_0 q_1 q_3 0, kx_a q_3 cyI 160 (fun _ => 0), kx_2 q_4 q_1 q_6 q_7 q_8 q_9 q_10 q_11 q_12 q_13 0 0, kx_3 q_6 q_14 q_15 0 0 0, kx_a q_14 cyI 12 (fun _ => 0), kx_a q_15 cyI 12 (fun _ => 0), kx_a q_7 cyI 319 (fun _ => 0), kx_a q_8 cyI 319 (fun _ => 0), kx_a q_9 cyI 319 (fun _ => 0), kx_a q_10 cyI 319 (fun _ => 0), kx_a q_11 cyI 319 (fun _ => 0), kx_a q_12 cyI 1914 (fun _ => 0), kx_a q_13 cyI 1914 (fun _ => 0), kx_1 q_16 q_18 q_19 0 0, kx_a q_18 cyI 160 (fun _ => 0), kx_a q_19 cyI 160 (fun _ => 0), (q_20, .inr (3, [.null, .null, .int 0, .int 0, .int 0]))]) hP hD rfl
  refine lv_dup hx hb dX4_init_45 rfl ?_
  obtain ⟨hPc, hDc, hFc, hCc⟩ := kx_pre (wc := [(q_20, .inr (3, [.null, .null, .int 0, .int 0, .int 0]))]) hP hD hS hA [17] (by decide) rfl
  have hKc := hK
  refine va_callv (va_runIN (As := []) (rest := [.ref q_20, .ref k_x]) ⟨hx, hb, hml, hown, hts⟩ (c_X3_init l dC dI q_20 cyI H.size) ⟨(va_cnB 0 hts ggX4_init_X3_init rfl rfl rfl hN2 hz_RX3 (by decide +kernel) ⟨Nat.le_of_ble_eq_true rfl, Nat.le_of_ble_eq_true rfl⟩), rfl, hq_X3_init⟩ ⟨fun a U g mk q => by obtain ⟨q0, q1, qP, qK, qD⟩ := q; exact ⟨q0, q1, qP, va_K.moved (u := U) (U := U.calling g mk a) (Vm.Alike.refl U.vm) qK, qD⟩, fun U hU hW => ⟨rfl, by rw [hU], by rw [hU]; exact hPc, va_K.moved hW.alike hKc, hDc.weaken (fun _ _ _ _ => trivial)⟩⟩ rfl rfl hl.1 rfl (lv_room (Nat.le_of_ble_eq_true rfl)) dX4_init_46 ⟨Nat.le_of_ble_eq_true rfl, Nat.le_of_ble_eq_true rfl⟩) hS (fun q _ h => hFc q h) hFc (fun u t H1 locs ht hvm w_21 hB hz1 hk1 hS => ?_)
  obtain ⟨q_22, q_23, hP1, hK1, hD1⟩ := hB
  rw [ht] at hP1
  have hK1 := va_K.moved hvm.symm hK1
  obtain ⟨hP, hD⟩ := kx_join (w2 := [(k_x, .inr (4, [.ref q_1, .ref q_4, .ref q_16, .null, .null, .null, .null, .int 0, .int 0])), kx_0 q_1 q_3 0, kx_a q_3 cyI 160 (fun _ => 0), kx_2 q_4 q_1 q_6 q_7 q_8 q_9 q_10 q_11 q_12 q_13 0 0, kx_3 q_6 q_14 q_15 0 0 0, kx_a q_14 cyI 12 (fun _ => 0), kx_a q_15 cyI 12 (fun _ => 0), kx_a q_7 cyI 319 (fun _ => 0), kx_a q_8 cyI 319 (fun _ => 0), kx_a q_9 cyI 319 (fun _ => 0), kx_a q_10 cyI 319 (fun _ => 0), kx_a q_11 cyI 319 (fun _ => 0), kx_a q_12 cyI 1914 (fun _ => 0), kx_a q_13 cyI 1914 (fun _ => 0), kx_1 q_16 q_18 q_19 0 0, kx_a q_18 cyI 160 (fun _ => 0), kx_a q_19 cyI 160 (fun _ => 0), kx_3 q_20 q_22 q_23 0 0 0, kx_a q_22 cyI 12 (fun _ => 0), kx_a q_23 cyI 12 (fun _ => 0)]) hP hD hP1 hD1 hk1 hFc [17] [0, 1, 2, 3, 4, 5, 6, 7, 8, 9, 10, 11, 12, 13, 14, 15, 16] hCc rfl (by decide) (by decide)
  clear hP1 hD1 hK1 hk1 hz1 hFc hDc hPc hKc hCc
  generalize H1 = H at hP hS ⊢
  refine W.widen (k := 19) (n := 5978) (Nat.le_of_ble_eq_true rfl) (Nat.le_of_ble_eq_true rfl) ?_
  refine va_putF (D := (dC, dI)) (ci := 4) (v := .ref q_20) (ty := .object "MajorityIndex$Votes") (C := RX4) (T := TX4) (N := 9) hx hb hts hi_4 tyX4 tyX4_ok nmX4 hown hK hP hD hS 0 rfl rfl 3 (by decide) hf_35 (fun _ h9 => h9) rfl hin rfl (by decide +kernel) rfl rfl (Nat.le_of_ble_eq_true rfl) dX4_init_49 (fun H locs hP hD hS => ?_)
  obtain ⟨hP, hD⟩ := kx_re (w2 := [(k_x, .inr (4, [.ref q_1, .ref q_4, .ref q_16, .ref q_20, .null, .null, .null, .int 0, .int 0])), kx_0 q_1 q_3 0, kx_a q_3 cyI 160 (fun _ => 0), kx_2 q_4 q_1 q_6 q_7 q_8 q_9 q_10 q_11 q_12 q_13 0 0, kx_3 q_6 q_14 q_15 0 0 0, kx_a q_14 cyI 12 (fun _ => 0), kx_a q_15 cyI 12 (fun _ => 0), kx_a q_7 cyI 319 (fun _ => 0), kx_a q_8 cyI 319 (fun _ => 0), kx_a q_9 cyI 319 (fun _ => 0), kx_a q_10 cyI 319 (fun _ => 0), kx_a q_11 cyI 319 (fun _ => 0), kx_a q_12 cyI 1914 (fun _ => 0), kx_a q_13 cyI 1914 (fun _ => 0), kx_1 q_16 q_18 q_19 0 0, kx_a q_18 cyI 160 (fun _ => 0), kx_a q_19 cyI 160 (fun _ => 0), kx_3 q_20 q_22 q_23 0 0 0, kx_a q_22 cyI 12 (fun _ => 0), kx_a q_23 cyI 12 (fun _ => 0)]) hP hD rfl
  refine lv_aload_n hx hb dX4_init_52 rfl (lv_at hl 0 rfl) ?_
  refine va_new (ci := 3) (fs := [.null, .null, .int 0, .int 0, .int 0]) (C := RX3) (T := TX3) (N := 5) hx hb hts hi_3 tyX3 tyX3_ok hown hc_32 hj_3 hz_3 hK hP hD hS hA rfl (ki_z3) (Nat.le_of_ble_eq_true rfl) (Nat.le_of_ble_eq_true rfl) dX4_init_53 (fun q_24 H hP hD hS => ?_)
  refine W.widen (k := 20) (n := 5983) (Nat.le_of_ble_eq_true rfl) (Nat.le_of_ble_eq_true rfl) ?_
  obtain ⟨hP, hD⟩ := kx_re (w2 := [(k_x, .inr (4, [.ref q_1, .ref q_4, .ref q_16, .ref q_20, .null, .null, .null, .int 0, .int 0])), kx_0 q_1 q_3 0, kx_a q_3 cyI 160 (fun _ => 0), kx_2 q_4 q_1 q_6 q_7 q_8 q_9 q_10 q_11 q_12 q_13 0 0, kx_3 q_6 q_14 q_15 0 0 0, kx_a q_14 cyI 12 (fun _ => 0), kx_a q_15 cyI 12 (fun _ => 0), kx_a q_7 cyI 319 (fun _ => 0), kx_a q_8 cyI 319 (fun _ => 0), kx_a q_9 cyI 319 (fun _ => 0), kx_a q_10 cyI 319 (fun _ => 0), kx_a q_11 cyI 319 (fun _ => 0), kx_a q_12 cyI 1914 (fun _ => 0), kx_a q_13 cyI 1914 (fun _ => 0), kx_1 q_16 q_18 q_19 0 0, kx_a q_18 cyI 160 (fun _ => 0), kx_a q_19 cyI 160 (fun _ => 0), kx_3 q_20 q_22 q_23 0 0 0, kx_a q_22 cyI 12 (fun _ => 0), kx_a q_23 cyI 12 (fun _ => 0), (q_24, .inr (3, [.null, .null, .int 0, .int 0, .int 0]))]) hP hD rfl
  refine lv_dup hx hb dX4_init_56 rfl ?_
  obtain ⟨hPc, hDc, hFc, hCc⟩ := kx_pre (wc := [(q_24, .inr (3, [.null, .null, .int 0, .int 0, .int 0]))]) hP hD hS hA [20] (by decide) rfl
  have hKc := hK
  refine va_callv (va_runIN (As := []) (rest := [.ref q_24, .ref k_x]) ⟨hx, hb, hml, hown, hts⟩ (c_X3_init l dC dI q_24 cyI H.size) ⟨(va_cnB 0 hts ggX4_init_X3_init rfl rfl rfl hN2 hz_RX3 (by decide +kernel) ⟨Nat.le_of_ble_eq_true rfl, Nat.le_of_ble_eq_true rfl⟩), rfl, hq_X3_init⟩ ⟨fun a U g mk q => by obtain ⟨q0, q1, qP, qK, qD⟩ := q; exact ⟨q0, q1, qP, va_K.moved (u := U) (U := U.calling g mk a) (Vm.Alike.refl U.vm) qK, qD⟩, fun U hU hW => ⟨rfl, by rw [hU], by rw [hU]; exact hPc, va_K.moved hW.alike hKc, hDc.weaken (fun _ _ _ _ => trivial)⟩⟩ rfl rfl hl.1 rfl (lv_room (Nat.le_of_ble_eq_true rfl)) dX4_init_57 ⟨Nat.le_of_ble_eq_true rfl, Nat.le_of_ble_eq_true rfl⟩) hS (fun q _ h => hFc q h) hFc (fun u t H1 locs ht hvm w_25 hB hz1 hk1 hS => ?_)
  obtain ⟨q_26, q_27, hP1, hK1, hD1⟩ := hB
  rw [ht] at hP1
  have hK1 := va_K.moved hvm.symm hK1
  obtain ⟨hP, hD⟩ := kx_join (w2 := [(k_x, .inr (4, [.ref q_1, .ref q_4, .ref q_16, .ref q_20, .null, .null, .null, .int 0, .int 0])), kx_0 q_1 q_3 0, kx_a q_3 cyI 160 (fun _ => 0), kx_2 q_4 q_1 q_6 q_7 q_8 q_9 q_10 q_11 q_12 q_13 0 0, kx_3 q_6 q_14 q_15 0 0 0, kx_a q_14 cyI 12 (fun _ => 0), kx_a q_15 cyI 12 (fun _ => 0), kx_a q_7 cyI 319 (fun _ => 0), kx_a q_8 cyI 319 (fun _ => 0), kx_a q_9 cyI 319 (fun _ => 0), kx_a q_10 cyI 319 (fun _ => 0), kx_a q_11 cyI 319 (fun _ => 0), kx_a q_12 cyI 1914 (fun _ => 0), kx_a q_13 cyI 1914 (fun _ => 0), kx_1 q_16 q_18 q_19 0 0, kx_a q_18 cyI 160 (fun _ => 0), kx_a q_19 cyI 160 (fun _ => 0), kx_3 q_20 q_22 q_23 0 0 0, kx_a q_22 cyI 12 (fun _ => 0), kx_a q_23 cyI 12 (fun _ => 0), kx_3 q_24 q_26 q_27 0 0 0, kx_a q_26 cyI 12 (fun _ => 0), kx_a q_27 cyI 12 (fun _ => 0)]) hP hD hP1 hD1 hk1 hFc [20] [0, 1, 2, 3, 4, 5, 6, 7, 8, 9, 10, 11, 12, 13, 14, 15, 16, 17, 18, 19] hCc rfl (by decide) (by decide)
  clear hP1 hD1 hK1 hk1 hz1 hFc hDc hPc hKc hCc
  generalize H1 = H at hP hS ⊢
  refine W.widen (k := 22) (n := 6007) (Nat.le_of_ble_eq_true rfl) (Nat.le_of_ble_eq_true rfl) ?_
  refine va_putF (D := (dC, dI)) (ci := 4) (v := .ref q_24) (ty := .object "MajorityIndex$Votes") (C := RX4) (T := TX4) (N := 9) hx hb hts hi_4 tyX4 tyX4_ok nmX4 hown hK hP hD hS 0 rfl rfl 4 (by decide) hf_39 (fun _ h9 => h9) rfl hin rfl (by decide +kernel) rfl rfl (Nat.le_of_ble_eq_true rfl) dX4_init_60 (fun H locs hP hD hS => ?_)
  obtain ⟨hP, hD⟩ := kx_re (w2 := [(k_x, .inr (4, [.ref q_1, .ref q_4, .ref q_16, .ref q_20, .ref q_24, .null, .null, .int 0, .int 0])), kx_0 q_1 q_3 0, kx_a q_3 cyI 160 (fun _ => 0), kx_2 q_4 q_1 q_6 q_7 q_8 q_9 q_10 q_11 q_12 q_13 0 0, kx_3 q_6 q_14 q_15 0 0 0, kx_a q_14 cyI 12 (fun _ => 0), kx_a q_15 cyI 12 (fun _ => 0), kx_a q_7 cyI 319 (fun _ => 0), kx_a q_8 cyI 319 (fun _ => 0), kx_a q_9 cyI 319 (fun _ => 0), kx_a q_10 cyI 319 (fun _ => 0), kx_a q_11 cyI 319 (fun _ => 0), kx_a q_12 cyI 1914 (fun _ => 0), kx_a q_13 cyI 1914 (fun _ => 0), kx_1 q_16 q_18 q_19 0 0, kx_a q_18 cyI 160 (fun _ => 0), kx_a q_19 cyI 160 (fun _ => 0), kx_3 q_20 q_22 q_23 0 0 0, kx_a q_22 cyI 12 (fun _ => 0), kx_a q_23 cyI 12 (fun _ => 0), kx_3 q_24 q_26 q_27 0 0 0, kx_a q_26 cyI 12 (fun _ => 0), kx_a q_27 cyI 12 (fun _ => 0)]) hP hD rfl
  refine lv_aload_n hx hb dX4_init_63 rfl (lv_at hl 0 rfl) ?_
  refine lv_sipush (v := 160) hx hb dX4_init_64 (by decide) ?_
  refine va_newa (atype := .int) (a0 := (160, .inl (fun _ => 0))) hx hb ha_int rfl hK hP hD hS hA (N' := 160) (fun cA => ki_zi cA 160) (by decide) (by decide) (Nat.le_of_ble_eq_true rfl) (Nat.le_of_ble_eq_true rfl) (Nat.le_of_ble_eq_true rfl) dX4_init_67 (fun q_28 cA_29 H hK hP hD hS => ?_)
  obtain rfl : cyI = cA_29 := (ki_cA hK 0 1 rfl rfl).symm
  have hK : va_K (dC, dI) vwCl [(cyI, .int)] s := hK.sub [0] rfl
  refine W.widen (k := 23) (n := 6167) (Nat.le_of_ble_eq_true rfl) (Nat.le_of_ble_eq_true rfl) ?_
  obtain ⟨hP, hD⟩ := kx_re (w2 := [(k_x, .inr (4, [.ref q_1, .ref q_4, .ref q_16, .ref q_20, .ref q_24, .null, .null, .int 0, .int 0])), kx_0 q_1 q_3 0, kx_a q_3 cyI 160 (fun _ => 0), kx_2 q_4 q_1 q_6 q_7 q_8 q_9 q_10 q_11 q_12 q_13 0 0, kx_3 q_6 q_14 q_15 0 0 0, kx_a q_14 cyI 12 (fun _ => 0), kx_a q_15 cyI 12 (fun _ => 0), kx_a q_7 cyI 319 (fun _ => 0), kx_a q_8 cyI 319 (fun _ => 0), kx_a q_9 cyI 319 (fun _ => 0), kx_a q_10 cyI 319 (fun _ => 0), kx_a q_11 cyI 319 (fun _ => 0), kx_a q_12 cyI 1914 (fun _ => 0), kx_a q_13 cyI 1914 (fun _ => 0), kx_1 q_16 q_18 q_19 0 0, kx_a q_18 cyI 160 (fun _ => 0), kx_a q_19 cyI 160 (fun _ => 0), kx_3 q_20 q_22 q_23 0 0 0, kx_a q_22 cyI 12 (fun _ => 0), kx_a q_23 cyI 12 (fun _ => 0), kx_3 q_24 q_26 q_27 0 0 0, kx_a q_26 cyI 12 (fun _ => 0), kx_a q_27 cyI 12 (fun _ => 0), kx_a q_28 cyI 160 (fun _ => 0)]) hP hD rfl
  refine va_putF (D := (dC, dI)) (ci := 4) (v := .ref q_28) (ty := .array .int) (C := RX4) (T := TX4) (N := 9) hx hb hts hi_4 tyX4 tyX4_ok nmX4 hown hK hP hD hS 0 rfl rfl 5 (by decide) hf_42 (fun _ h9 => h9) rfl hin rfl (by decide +kernel) rfl rfl (Nat.le_of_ble_eq_true rfl) dX4_init_69 (fun H locs hP hD hS => ?_)
  obtain ⟨hP, hD⟩ := kx_re (w2 := [(k_x, .inr (4, [.ref q_1, .ref q_4, .ref q_16, .ref q_20, .ref q_24, .ref q_28, .null, .int 0, .int 0])), kx_0 q_1 q_3 0, kx_a q_3 cyI 160 (fun _ => 0), kx_2 q_4 q_1 q_6 q_7 q_8 q_9 q_10 q_11 q_12 q_13 0 0, kx_3 q_6 q_14 q_15 0 0 0, kx_a q_14 cyI 12 (fun _ => 0), kx_a q_15 cyI 12 (fun _ => 0), kx_a q_7 cyI 319 (fun _ => 0), kx_a q_8 cyI 319 (fun _ => 0), kx_a q_9 cyI 319 (fun _ => 0), kx_a q_10 cyI 319 (fun _ => 0), kx_a q_11 cyI 319 (fun _ => 0), kx_a q_12 cyI 1914 (fun _ => 0), kx_a q_13 cyI 1914 (fun _ => 0), kx_1 q_16 q_18 q_19 0 0, kx_a q_18 cyI 160 (fun _ => 0), kx_a q_19 cyI 160 (fun _ => 0), kx_3 q_20 q_22 q_23 0 0 0, kx_a q_22 cyI 12 (fun _ => 0), kx_a q_23 cyI 12 (fun _ => 0), kx_3 q_24 q_26 q_27 0 0 0, kx_a q_26 cyI 12 (fun _ => 0), kx_a q_27 cyI 12 (fun _ => 0), kx_a q_28 cyI 160 (fun _ => 0)]) hP hD rfl
  refine lv_aload_n hx hb dX4_init_72 rfl (lv_at hl 0 rfl) ?_
  refine lv_sipush (v := 161) hx hb dX4_init_73 (by decide) ?_
  refine va_newa (atype := .int) (a0 := (161, .inl (fun _ => 0))) hx hb ha_int rfl hK hP hD hS hA (N' := 161) (fun cA => ki_zi cA 161) (by decide) (by decide) (Nat.le_of_ble_eq_true rfl) (Nat.le_of_ble_eq_true rfl) (Nat.le_of_ble_eq_true rfl) dX4_init_76 (fun q_30 cA_31 H hK hP hD hS => ?_)
  obtain rfl : cyI = cA_31 := (ki_cA hK 0 1 rfl rfl).symm
  have hK : va_K (dC, dI) vwCl [(cyI, .int)] s := hK.sub [0] rfl
  refine W.widen (k := 24) (n := 6328) (Nat.le_of_ble_eq_true rfl) (Nat.le_of_ble_eq_true rfl) ?_
  obtain ⟨hP, hD⟩ := kx_re (w2 := [(k_x, .inr (4, [.ref q_1, .ref q_4, .ref q_16, .ref q_20, .ref q_24, .ref q_28, .null, .int 0, .int 0])), kx_0 q_1 q_3 0, kx_a q_3 cyI 160 (fun _ => 0), kx_2 q_4 q_1 q_6 q_7 q_8 q_9 q_10 q_11 q_12 q_13 0 0, kx_3 q_6 q_14 q_15 0 0 0, kx_a q_14 cyI 12 (fun _ => 0), kx_a q_15 cyI 12 (fun _ => 0), kx_a q_7 cyI 319 (fun _ => 0), kx_a q_8 cyI 319 (fun _ => 0), kx_a q_9 cyI 319 (fun _ => 0), kx_a q_10 cyI 319 (fun _ => 0), kx_a q_11 cyI 319 (fun _ => 0), kx_a q_12 cyI 1914 (fun _ => 0), kx_a q_13 cyI 1914 (fun _ => 0), kx_1 q_16 q_18 q_19 0 0, kx_a q_18 cyI 160 (fun _ => 0), kx_a q_19 cyI 160 (fun _ => 0), kx_3 q_20 q_22 q_23 0 0 0, kx_a q_22 cyI 12 (fun _ => 0), kx_a q_23 cyI 12 (fun _ => 0), kx_3 q_24 q_26 q_27 0 0 0, kx_a q_26 cyI 12 (fun _ => 0), kx_a q_27 cyI 12 (fun _ => 0), kx_a q_28 cyI 160 (fun _ => 0), kx_a q_30 cyI 161 (fun _ => 0)]) hP hD rfl
  refine va_putF (D := (dC, dI)) (ci := 4) (v := .ref q_30) (ty := .array .int) (C := RX4) (T := TX4) (N := 9) hx hb hts hi_4 tyX4 tyX4_ok nmX4 hown hK hP hD hS 0 rfl rfl 6 (by decide) hf_46 (fun _ h9 => h9) rfl hin rfl (by decide +kernel) rfl rfl (Nat.le_of_ble_eq_true rfl) dX4_init_78 (fun H locs hP hD hS => ?_)
  obtain ⟨hP, hD⟩ := kx_re (w2 := [kx_4 k_x q_1 q_4 q_16 q_20 q_24 q_28 q_30 0 0, kx_0 q_1 q_3 0, kx_a q_3 cyI 160 (fun _ => 0), kx_2 q_4 q_1 q_6 q_7 q_8 q_9 q_10 q_11 q_12 q_13 0 0, kx_3 q_6 q_14 q_15 0 0 0, kx_a q_14 cyI 12 (fun _ => 0), kx_a q_15 cyI 12 (fun _ => 0), kx_a q_7 cyI 319 (fun _ => 0), kx_a q_8 cyI 319 (fun _ => 0), kx_a q_9 cyI 319 (fun _ => 0), kx_a q_10 cyI 319 (fun _ => 0), kx_a q_11 cyI 319 (fun _ => 0), kx_a q_12 cyI 1914 (fun _ => 0), kx_a q_13 cyI 1914 (fun _ => 0), kx_1 q_16 q_18 q_19 0 0, kx_a q_18 cyI 160 (fun _ => 0), kx_a q_19 cyI 160 (fun _ => 0), kx_3 q_20 q_22 q_23 0 0 0, kx_a q_22 cyI 12 (fun _ => 0), kx_a q_23 cyI 12 (fun _ => 0), kx_3 q_24 q_26 q_27 0 0 0, kx_a q_26 cyI 12 (fun _ => 0), kx_a q_27 cyI 12 (fun _ => 0), kx_a q_28 cyI 160 (fun _ => 0), kx_a q_30 cyI 161 (fun _ => 0)]) hP hD rfl
  refine lv_aload_n hx hb dX4_init_81 rfl (lv_at hl 0 rfl) ?_
  refine lv_iconst (v := 2) hx hb dX4_init_82 (by decide) ?_
  refine va_put (D := (dC, dI)) (ci := 4) (v := .int 2) (ty := .int) (C := RX4) (T := TX4) (N := 9) hx hb hts hi_4 tyX4 tyX4_ok nmX4 hown hK hP hD hS 0 rfl rfl 7 (by decide) hf_49 (fun _ h9 => h9) rfl (by decide +kernel) rfl rfl (Nat.le_of_ble_eq_true rfl) dX4_init_83 (fun H locs hP hD hS => ?_)
  obtain ⟨hP, hD⟩ := kx_re (w2 := [kx_4 k_x q_1 q_4 q_16 q_20 q_24 q_28 q_30 2 0, kx_0 q_1 q_3 0, kx_a q_3 cyI 160 (fun _ => 0), kx_2 q_4 q_1 q_6 q_7 q_8 q_9 q_10 q_11 q_12 q_13 0 0, kx_3 q_6 q_14 q_15 0 0 0, kx_a q_14 cyI 12 (fun _ => 0), kx_a q_15 cyI 12 (fun _ => 0), kx_a q_7 cyI 319 (fun _ => 0), kx_a q_8 cyI 319 (fun _ => 0), kx_a q_9 cyI 319 (fun _ => 0), kx_a q_10 cyI 319 (fun _ => 0), kx_a q_11 cyI 319 (fun _ => 0), kx_a q_12 cyI 1914 (fun _ => 0), kx_a q_13 cyI 1914 (fun _ => 0), kx_1 q_16 q_18 q_19 0 0, kx_a q_18 cyI 160 (fun _ => 0), kx_a q_19 cyI 160 (fun _ => 0), kx_3 q_20 q_22 q_23 0 0 0, kx_a q_22 cyI 12 (fun _ => 0), kx_a q_23 cyI 12 (fun _ => 0), kx_3 q_24 q_26 q_27 0 0 0, kx_a q_26 cyI 12 (fun _ => 0), kx_a q_27 cyI 12 (fun _ => 0), kx_a q_28 cyI 160 (fun _ => 0), kx_a q_30 cyI 161 (fun _ => 0)]) hP hD rfl
  refine lv_aload_n hx hb dX4_init_86 rfl (lv_at hl 0 rfl) ?_
  refine lv_iconst (v := 1) hx hb dX4_init_87 (by decide) ?_
  refine va_put (D := (dC, dI)) (ci := 4) (v := .int 1) (ty := .boolean) (C := RX4) (T := TX4) (N := 9) hx hb hts hi_4 tyX4 tyX4_ok nmX4 hown hK hP hD hS 0 rfl rfl 8 (by decide) hf_53 (fun _ h9 => h9) rfl (by decide +kernel) (by decide) (by decide) (Nat.le_of_ble_eq_true rfl) dX4_init_88 (fun H locs hP hD hS => ?_)
  obtain ⟨hP, hD⟩ := kx_re (w2 := [kx_4 k_x q_1 q_4 q_16 q_20 q_24 q_28 q_30 2 1, kx_0 q_1 q_3 0, kx_a q_3 cyI 160 (fun _ => 0), kx_2 q_4 q_1 q_6 q_7 q_8 q_9 q_10 q_11 q_12 q_13 0 0, kx_3 q_6 q_14 q_15 0 0 0, kx_a q_14 cyI 12 (fun _ => 0), kx_a q_15 cyI 12 (fun _ => 0), kx_a q_7 cyI 319 (fun _ => 0), kx_a q_8 cyI 319 (fun _ => 0), kx_a q_9 cyI 319 (fun _ => 0), kx_a q_10 cyI 319 (fun _ => 0), kx_a q_11 cyI 319 (fun _ => 0), kx_a q_12 cyI 1914 (fun _ => 0), kx_a q_13 cyI 1914 (fun _ => 0), kx_1 q_16 q_18 q_19 0 0, kx_a q_18 cyI 160 (fun _ => 0), kx_a q_19 cyI 160 (fun _ => 0), kx_3 q_20 q_22 q_23 0 0 0, kx_a q_22 cyI 12 (fun _ => 0), kx_a q_23 cyI 12 (fun _ => 0), kx_3 q_24 q_26 q_27 0 0 0, kx_a q_26 cyI 12 (fun _ => 0), kx_a q_27 cyI 12 (fun _ => 0), kx_a q_28 cyI 160 (fun _ => 0), kx_a q_30 cyI 161 (fun _ => 0)]) hP hD rfl
  have hP9 := hP
  have hD9 := hD
  have hK9 := hK
  exact W.vret hx hb hr (hlocks := hlocks) (fun t ht hW => ⟨⟨(), rfl, trivial, q_1, q_4, q_16, q_20, q_24, q_28, q_30, q_3, q_6, q_7, q_8, q_9, q_10, q_11, q_12, q_13, q_14, q_15, q_18, q_19, q_22, q_23, q_26, q_27, by rw [ht]; exact hP9, va_K.moved hW.alike hK9, hD9⟩, hS.F ht⟩) hS.2.2 dX4_init_91

set_option maxHeartbeats 4000000 in
set_option maxRecDepth 100000 in
theorem c_X5_init (l : Launch) (dC : Nat → ClassId) (dI : Nat → Nat → Nat) (h0 : Nat) (cyI : ClassId) (sz : Nat) : Met l yX5_init wsX5_init ({ frames := 1, cells := 21, slots := 11297, locals := 45 }) (va_Pc [.ref h0] (fun U => U.heap.size = sz ∧ va_P (dC, dI) vwCl [(h0, .inr (5, [.null, .int 0, .int 0, .int 0, .null, .null, .null, .null, .null, .null, .null, .int 0, .null, .null, .int 0, .null, .int 0, .null, .null, .null, .null, .null, .int 0, .null, .null, .int 0, .null, .null, .null, .int 0]))] U.heap ∧ va_K (dC, dI) vwCl [(cyI, .int)] U ∧ va_D (fun _ => True) [(h0, .inr (5, [.null, .int 0, .int 0, .int 0, .null, .null, .null, .null, .null, .null, .null, .int 0, .null, .null, .int 0, .null, .int 0, .null, .null, .null, .null, .null, .int 0, .null, .null, .int 0, .null, .null, .null, .int 0]))])) (va_Qv (fun _ : Unit => True) (fun (_ : Unit) (t : State) => ∃ (k_row : Nat) (k_many : Nat) (k_loss : Nat) (k_less : Nat) (k_voteValue : Nat) (k_voteNumber : Nat) (k_allValue : Nat) (k_allNumber : Nat) (k_nodeL : Nat) (k_nodeR : Nat) (k_part : Nat) (k_wasMany : Nat) (k_wasLoss : Nat) (k_wasValue : Nat) (k_wasNumber : Nat) (k_path : Nat) (k_heavyValue : Nat) (k_heavyTimes : Nat) (k_fewest : Nat) (k_which : Nat) (k_met : Nat), va_P (dC, dI) vwCl [kx_5 h0 k_row 0 2 0 k_many k_loss k_less k_voteValue k_voteNumber k_allValue k_allNumber 0 k_nodeL k_nodeR 0 k_part 0 k_wasMany k_wasLoss k_wasValue k_wasNumber k_path 0 k_heavyValue k_heavyTimes 0 k_fewest k_which k_met 0, kx_a k_row cyI 160 (fun _ => 0), kx_a k_many cyI 324 (fun _ => 0), kx_a k_loss cyI 324 (fun _ => 0), kx_a k_less cyI 324 (fun _ => 0), kx_a k_voteValue cyI 1944 (fun _ => 0), kx_a k_voteNumber cyI 1944 (fun _ => 0), kx_a k_allValue cyI 12 (fun _ => 0), kx_a k_allNumber cyI 12 (fun _ => 0), kx_a k_nodeL cyI 320 (fun _ => 0), kx_a k_nodeR cyI 320 (fun _ => 0), kx_a k_part cyI 320 (fun _ => 0), kx_a k_wasMany cyI 320 (fun _ => 0), kx_a k_wasLoss cyI 320 (fun _ => 0), kx_a k_wasValue cyI 1920 (fun _ => 0), kx_a k_wasNumber cyI 1920 (fun _ => 0), kx_a k_path cyI 12 (fun _ => 0), kx_a k_heavyValue cyI 160 (fun _ => 0), kx_a k_heavyTimes cyI 160 (fun _ => 0), kx_a k_fewest cyI 161 (fun _ => 0), kx_a k_which cyI 160 (fun _ => 0), kx_a k_met cyI 160 (fun _ => 0)] t.heap ∧ va_K (dC, dI) vwCl [(cyI, .int)] t ∧ va_D (va_A [(h0, .inr (5, [.null, .int 0, .int 0, .int 0, .null, .null, .null, .null, .null, .null, .null, .int 0, .null, .null, .int 0, .null, .int 0, .null, .null, .null, .null, .null, .int 0, .null, .null, .int 0, .null, .null, .null, .int 0]))] sz) [kx_5 h0 k_row 0 2 0 k_many k_loss k_less k_voteValue k_voteNumber k_allValue k_allNumber 0 k_nodeL k_nodeR 0 k_part 0 k_wasMany k_wasLoss k_wasValue k_wasNumber k_path 0 k_heavyValue k_heavyTimes 0 k_fewest k_which k_met 0, kx_a k_row cyI 160 (fun _ => 0), kx_a k_many cyI 324 (fun _ => 0), kx_a k_loss cyI 324 (fun _ => 0), kx_a k_less cyI 324 (fun _ => 0), kx_a k_voteValue cyI 1944 (fun _ => 0), kx_a k_voteNumber cyI 1944 (fun _ => 0), kx_a k_allValue cyI 12 (fun _ => 0), kx_a k_allNumber cyI 12 (fun _ => 0), kx_a k_nodeL cyI 320 (fun _ => 0), kx_a k_nodeR cyI 320 (fun _ => 0), kx_a k_part cyI 320 (fun _ => 0), kx_a k_wasMany cyI 320 (fun _ => 0), kx_a k_wasLoss cyI 320 (fun _ => 0), kx_a k_wasValue cyI 1920 (fun _ => 0), kx_a k_wasNumber cyI 1920 (fun _ => 0), kx_a k_path cyI 12 (fun _ => 0), kx_a k_heavyValue cyI 160 (fun _ => 0), kx_a k_heavyTimes cyI 160 (fun _ => 0), kx_a k_fewest cyI 161 (fun _ => 0), kx_a k_which cyI 160 (fun _ => 0), kx_a k_met cyI 160 (fun _ => 0)]) (va_A [(h0, .inr (5, [.null, .int 0, .int 0, .int 0, .null, .null, .null, .null, .null, .null, .null, .int 0, .null, .null, .int 0, .null, .int 0, .null, .null, .null, .null, .null, .int 0, .null, .null, .int 0, .null, .null, .null, .int 0]))] sz)) 21 11297 (va_A [(h0, .inr (5, [.null, .int 0, .int 0, .int 0, .null, .null, .null, .null, .null, .null, .null, .int 0, .null, .null, .int 0, .null, .int 0, .null, .null, .null, .null, .null, .int 0, .null, .null, .int 0, .null, .null, .null, .int 0]))] sz) := by
  refine Met.ofW (cc := cX5_init) (maxL := 1) (ret := none) (by decide) rfl ?_
  intro p e s m args below meth c s₁ B hml hv
  obtain ⟨rfl, hsz, hP, hK, hD0⟩ := hv
  have hx := B.exec
  have hb := B.bytes
  have hr := B.returns
  have hts := atoms_spec (ws := wsX5_init) B.pre
  have hown : s.vm.findClass RX5 = some m.cls := findClass_of_methodNamed B.named
  have hlocks := B.notSynchronized
  have hin : meth.name = "<init>" := (name_of_methodNamed B.named B.method).1
  subst hsz
  have hD := hD0.self (sz := s.heap.size)
  generalize hAe : va_A [(h0, .inr (5, [.null, .int 0, .int 0, .int 0, .null, .null, .null, .null, .null, .null, .null, .int 0, .null, .null, .int 0, .null, .int 0, .null, .null, .null, .null, .null, .int 0, .null, .null, .int 0, .null, .null, .null, .int 0]))] s.heap.size = A at hD ⊢
  have hA : ∀ q : Nat, s.heap.size ≤ q → A q := fun q h => by rw [← hAe]; exact Or.inr h
  have hS : va_S A s.heap s.heap [] := va_S.rf
  have hP : va_P (dC, dI) vwCl [(h0, .inr (5, [.null, .int 0, .int 0, .int 0, .null, .null, .null, .null, .null, .null, .null, .int 0, .null, .null, .int 0, .null, .int 0, .null, .null, .null, .null, .null, .int 0, .null, .null, .int 0, .null, .null, .null, .int 0]))] s.heap := hP
  have hl := lv_entry ([.ref h0]) (n := 1) (Nat.le_of_ble_eq_true rfl)
  rw [lg_entry_eq]
  generalize (lg_sl ([.ref h0]) ++ List.replicate (1 - (lg_sl ([.ref h0])).length) Slot.unset).toArray = ls at hl ⊢
  have hl : lv_has ls 1 [(0, .ref h0)] := hl
  have hm_1 := hts (.methodLink RX5 1 objectInit) (List.mem_of_getElem? (i := 1) rfl)
  have ho_i := hts (.instanceMethod objectInit) (List.mem_of_getElem? (i := 2) rfl)
  have ho_c := hts (.code objectInit ⟨#[0xb1]⟩ 1 none) (List.mem_of_getElem? (i := 3) rfl)
  have ha_int := hts (.arrayClass .int) (List.mem_of_getElem? (i := 4) rfl)
  have hf_7 := hts (.fieldLink RX5 7 "MajorityIndexModel" "row" "[I") (List.mem_of_getElem? (i := 5) rfl)
  have hi_5 : ∀ w ∈ u_ws RX5 TX5 30, w ∈ wsX5_init := fun w h => List.mem_cons_of_mem _ (List.mem_append_right _ h)
  have hf_13 := hts (.fieldLink RX5 13 "MajorityIndexModel" "slots" "I") (List.mem_of_getElem? (i := 6) rfl)
  have hf_17 := hts (.fieldLink RX5 17 "MajorityIndexModel" "many" "[I") (List.mem_of_getElem? (i := 7) rfl)
  have hf_20 := hts (.fieldLink RX5 20 "MajorityIndexModel" "loss" "[I") (List.mem_of_getElem? (i := 8) rfl)
  have hf_23 := hts (.fieldLink RX5 23 "MajorityIndexModel" "less" "[I") (List.mem_of_getElem? (i := 9) rfl)
  have hf_26 := hts (.fieldLink RX5 26 "MajorityIndexModel" "voteValue" "[I") (List.mem_of_getElem? (i := 10) rfl)
  have hf_29 := hts (.fieldLink RX5 29 "MajorityIndexModel" "voteNumber" "[I") (List.mem_of_getElem? (i := 11) rfl)
  have hf_32 := hts (.fieldLink RX5 32 "MajorityIndexModel" "allValue" "[I") (List.mem_of_getElem? (i := 12) rfl)
  have hf_35 := hts (.fieldLink RX5 35 "MajorityIndexModel" "allNumber" "[I") (List.mem_of_getElem? (i := 13) rfl)
  have hf_38 := hts (.fieldLink RX5 38 "MajorityIndexModel" "nodeL" "[I") (List.mem_of_getElem? (i := 14) rfl)
  have hf_41 := hts (.fieldLink RX5 41 "MajorityIndexModel" "nodeR" "[I") (List.mem_of_getElem? (i := 15) rfl)
  have hf_44 := hts (.fieldLink RX5 44 "MajorityIndexModel" "part" "[I") (List.mem_of_getElem? (i := 16) rfl)
  have hf_47 := hts (.fieldLink RX5 47 "MajorityIndexModel" "wasMany" "[I") (List.mem_of_getElem? (i := 17) rfl)
  have hf_50 := hts (.fieldLink RX5 50 "MajorityIndexModel" "wasLoss" "[I") (List.mem_of_getElem? (i := 18) rfl)
  have hf_53 := hts (.fieldLink RX5 53 "MajorityIndexModel" "wasValue" "[I") (List.mem_of_getElem? (i := 19) rfl)
  have hf_56 := hts (.fieldLink RX5 56 "MajorityIndexModel" "wasNumber" "[I") (List.mem_of_getElem? (i := 20) rfl)
  have hf_59 := hts (.fieldLink RX5 59 "MajorityIndexModel" "path" "[I") (List.mem_of_getElem? (i := 21) rfl)
  have hf_62 := hts (.fieldLink RX5 62 "MajorityIndexModel" "heavyValue" "[I") (List.mem_of_getElem? (i := 22) rfl)
  have hf_65 := hts (.fieldLink RX5 65 "MajorityIndexModel" "heavyTimes" "[I") (List.mem_of_getElem? (i := 23) rfl)
  have hf_68 := hts (.fieldLink RX5 68 "MajorityIndexModel" "fewest" "[I") (List.mem_of_getElem? (i := 24) rfl)
  have hf_71 := hts (.fieldLink RX5 71 "MajorityIndexModel" "which" "[I") (List.mem_of_getElem? (i := 25) rfl)
  have hf_74 := hts (.fieldLink RX5 74 "MajorityIndexModel" "met" "[I") (List.mem_of_getElem? (i := 26) rfl)
  refine lv_aload_n hx hb dX5_init_0 rfl (lv_at hl 0 rfl) ?_
  refine W.objInit hx hb hown hm_1 ho_i ho_c rfl (by rw [hml]; exact hl.1) rfl dX5_init_1 (Nat.le_of_ble_eq_true rfl) (Nat.le_of_ble_eq_true rfl) ?_
  refine W.eq (g2 := F0 m 4 ls []) rfl ?_
  refine lv_aload_n hx hb dX5_init_4 rfl (lv_at hl 0 rfl) ?_
  refine lv_sipush (v := 160) hx hb dX5_init_5 (by decide) ?_
  refine va_newa (atype := .int) (a0 := (160, .inl (fun _ => 0))) hx hb ha_int rfl hK hP hD hS hA (N' := 160) (fun cA => ki_zi cA 160) (by decide) (by decide) (Nat.le_of_ble_eq_true rfl) (Nat.le_of_ble_eq_true rfl) (Nat.le_of_ble_eq_true rfl) dX5_init_8 (fun q_1 cA_2 H hK hP hD hS => ?_)
  obtain rfl : cyI = cA_2 := (ki_cA hK 0 1 rfl rfl).symm
  have hK : va_K (dC, dI) vwCl [(cyI, .int)] s := hK.sub [0] rfl
  refine W.widen (k := 1) (n := 160) (Nat.le_of_ble_eq_true rfl) (Nat.le_of_ble_eq_true rfl) ?_
  obtain ⟨hP, hD⟩ := kx_re (w2 := [(h0, .inr (5, [.null, .int 0, .int 0, .int 0, .null, .null, .null, .null, .null, .null, .null, .int 0, .null, .null, .int 0, .null, .int 0, .null, .null, .null, .null, .null, .int 0, .null, .null, .int 0, .null, .null, .null, .int 0])), kx_a q_1 cyI 160 (fun _ => 0)]) hP hD rfl
  refine va_putF (D := (dC, dI)) (ci := 5) (v := .ref q_1) (ty := .array .int) (C := RX5) (T := TX5) (N := 30) hx hb hts hi_5 tyX5 tyX5_ok nmX5 hown hK hP hD hS 0 rfl rfl 0 (by decide) hf_7 (fun _ h9 => h9) rfl hin rfl (by decide +kernel) rfl rfl (Nat.le_of_ble_eq_true rfl) dX5_init_10 (fun H locs hP hD hS => ?_)
  obtain ⟨hP, hD⟩ := kx_re (w2 := [(h0, .inr (5, [.ref q_1, .int 0, .int 0, .int 0, .null, .null, .null, .null, .null, .null, .null, .int 0, .null, .null, .int 0, .null, .int 0, .null, .null, .null, .null, .null, .int 0, .null, .null, .int 0, .null, .null, .null, .int 0])), kx_a q_1 cyI 160 (fun _ => 0)]) hP hD rfl
  refine lv_aload_n hx hb dX5_init_13 rfl (lv_at hl 0 rfl) ?_
  refine lv_iconst (v := 2) hx hb dX5_init_14 (by decide) ?_
  refine va_put (D := (dC, dI)) (ci := 5) (v := .int 2) (ty := .int) (C := RX5) (T := TX5) (N := 30) hx hb hts hi_5 tyX5 tyX5_ok nmX5 hown hK hP hD hS 0 rfl rfl 2 (by decide) hf_13 (fun _ h9 => h9) rfl (by decide +kernel) rfl rfl (Nat.le_of_ble_eq_true rfl) dX5_init_15 (fun H locs hP hD hS => ?_)
  obtain ⟨hP, hD⟩ := kx_re (w2 := [(h0, .inr (5, [.ref q_1, .int 0, .int 2, .int 0, .null, .null, .null, .null, .null, .null, .null, .int 0, .null, .null, .int 0, .null, .int 0, .null, .null, .null, .null, .null, .int 0, .null, .null, .int 0, .null, .null, .null, .int 0])), kx_a q_1 cyI 160 (fun _ => 0)]) hP hD rfl
  refine lv_aload_n hx hb dX5_init_18 rfl (lv_at hl 0 rfl) ?_
  refine lv_sipush (v := 324) hx hb dX5_init_19 (by decide) ?_
  refine va_newa (atype := .int) (a0 := (324, .inl (fun _ => 0))) hx hb ha_int rfl hK hP hD hS hA (N' := 324) (fun cA => ki_zi cA 324) (by decide) (by decide) (Nat.le_of_ble_eq_true rfl) (Nat.le_of_ble_eq_true rfl) (Nat.le_of_ble_eq_true rfl) dX5_init_22 (fun q_3 cA_4 H hK hP hD hS => ?_)
  obtain rfl : cyI = cA_4 := (ki_cA hK 0 1 rfl rfl).symm
  have hK : va_K (dC, dI) vwCl [(cyI, .int)] s := hK.sub [0] rfl
  refine W.widen (k := 2) (n := 484) (Nat.le_of_ble_eq_true rfl) (Nat.le_of_ble_eq_true rfl) ?_
  obtain ⟨hP, hD⟩ := kx_re (w2 := [(h0, .inr (5, [.ref q_1, .int 0, .int 2, .int 0, .null, .null, .null, .null, .null, .null, .null, .int 0, .null, .null, .int 0, .null, .int 0, .null, .null, .null, .null, .null, .int 0, .null, .null, .int 0, .null, .null, .null, .int 0])), kx_a q_1 cyI 160 (fun _ => 0), kx_a q_3 cyI 324 (fun _ => 0)]) hP hD rfl
  refine va_putF (D := (dC, dI)) (ci := 5) (v := .ref q_3) (ty := .array .int) (C := RX5) (T := TX5) (N := 30) hx hb hts hi_5 tyX5 tyX5_ok nmX5 hown hK hP hD hS 0 rfl rfl 4 (by decide) hf_17 (fun _ h9 => h9) rfl hin rfl (by decide +kernel) rfl rfl (Nat.le_of_ble_eq_true rfl) dX5_init_24 (fun H locs hP hD hS => ?_)
  obtain ⟨hP, hD⟩ := kx_re (w2 := [(h0, .inr (5, [.ref q_1, .int 0, .int 2, .int 0, .ref q_3, .null, .null, .null, .null, .null, .null, .int 0, .null, .null, .int 0, .null, .int 0, .null, .null, .null, .null, .null, .int 0, .null, .null, .int 0, .null, .null, .null, .int 0])), kx_a q_1 cyI 160 (fun _ => 0), kx_a q_3 cyI 324 (fun _ => 0)]) hP hD rfl
  refine lv_aload_n hx hb dX5_init_27 rfl (lv_at hl 0 rfl) ?_
  refine lv_sipush (v := 324) hx hb dX5_init_28 (by decide) ?_
  refine va_newa (atype := .int) (a0 := (324, .inl (fun _ => 0))) hx hb ha_int rfl hK hP hD hS hA (N' := 324) (fun cA => ki_zi cA 324) (by decide) (by decide) (Nat.le_of_ble_eq_true rfl) (Nat.le_of_ble_eq_true rfl) (Nat.le_of_ble_eq_true rfl) dX5_init_31 (fun q_5 cA_6 H hK hP hD hS => ?_)
  obtain rfl : cyI = cA_6 := (ki_cA hK 0 1 rfl rfl).symm
  have hK : va_K (dC, dI) vwCl [(cyI, .int)] s := hK.sub [0] rfl
  refine W.widen (k := 3) (n := 808) (Nat.le_of_ble_eq_true rfl) (Nat.le_of_ble_eq_true rfl) ?_
  obtain ⟨hP, hD⟩ := kx_re (w2 := [(h0, .inr (5, [.ref q_1, .int 0, .int 2, .int 0, .ref q_3, .null, .null, .null, .null, .null, .null, .int 0, .null, .null, .int 0, .null, .int 0, .null, .null, .null, .null, .null, .int 0, .null, .null, .int 0, .null, .null, .null, .int 0])), kx_a q_1 cyI 160 (fun _ => 0), kx_a q_3 cyI 324 (fun _ => 0), kx_a q_5 cyI 324 (fun _ => 0)]) hP hD rfl
  refine va_putF (D := (dC, dI)) (ci := 5) (v := .ref q_5) (ty := .array .int) (C := RX5) (T := TX5) (N := 30) hx hb hts hi_5 tyX5 tyX5_ok nmX5 hown hK hP hD hS 0 rfl rfl 5 (by decide) hf_20 (fun _ h9 => h9) rfl hin rfl (by decide +kernel) rfl rfl (Nat.le_of_ble_eq_true rfl) dX5_init_33 (fun H locs hP hD hS => ?_)
  obtain ⟨hP, hD⟩ := kx_re (w2 := [(h0, .inr (5, [.ref q_1, .int 0, .int 2, .int 0, .ref q_3, .ref q_5, .null, .null, .null, .null, .null, .int 0, .null, .null, .int 0, .null, .int 0, .null, .null, .null, .null, .null, .int 0, .null, .null, .int 0, .null, .null, .null, .int 0])), kx_a q_1 cyI 160 (fun _ => 0), kx_a q_3 cyI 324 (fun _ => 0), kx_a q_5 cyI 324 (fun _ => 0)]) hP hD rfl
  refine lv_aload_n hx hb dX5_init_36 rfl (lv_at hl 0 rfl) ?_
  refine lv_sipush (v := 324) hx hb dX5_init_37 (by decide) ?_
  refine va_newa (atype := .int) (a0 := (324, .inl (fun _ => 0))) hx hb ha_int rfl hK hP hD hS hA (N' := 324) (fun cA => ki_zi cA 324) (by decide) (by decide) (Nat.le_of_ble_eq_true rfl) (Nat.le_of_ble_eq_true rfl) (Nat.le_of_ble_eq_true rfl) dX5_init_40 (fun q_7 cA_8 H hK hP hD hS => ?_)
  obtain rfl : cyI = cA_8 := (ki_cA hK 0 1 rfl rfl).symm
  have hK : va_K (dC, dI) vwCl [(cyI, .int)] s := hK.sub [0] rfl
  refine W.widen (k := 4) (n := 1132) (Nat.le_of_ble_eq_true rfl) (Nat.le_of_ble_eq_true rfl) ?_
  obtain ⟨hP, hD⟩ := kx_re (w2 := [(h0, .inr (5, [.ref q_1, .int 0, .int 2, .int 0, .ref q_3, .ref q_5, .null, .null, .null, .null, .null, .int 0, .null, .null, .int 0, .null, .int 0, .null, .null, .null, .null, .null, .int 0, .null, .null, .int 0, .null, .null, .null, .int 0])), kx_a q_1 cyI 160 (fun _ => 0), kx_a q_3 cyI 324 (fun _ => 0), kx_a q_5 cyI 324 (fun _ => 0), kx_a q_7 cyI 324 (fun _ => 0)]) hP hD rfl
  refine va_putF (D := (dC, dI)) (ci := 5) (v := .ref q_7) (ty := .array .int) (C := RX5) (T := TX5) (N := 30) hx hb hts hi_5 tyX5 tyX5_ok nmX5 hown hK hP hD hS 0 rfl rfl 6 (by decide) hf_23 (fun _ h9 => h9) rfl hin rfl (by decide +kernel) rfl rfl (Nat.le_of_ble_eq_true rfl) dX5_init_42 (fun H locs hP hD hS => ?_)
  obtain ⟨hP, hD⟩ := kx_re (w2 := [(h0, .inr (5, [.ref q_1, .int 0, .int 2, .int 0, .ref q_3, .ref q_5, .ref q_7, .null, .null, .null, .null, .int 0, .null, .null, .int 0, .null, .int 0, .null, .null, .null, .null, .null, .int 0, .null, .null, .int 0, .null, .null, .null, .int 0])), kx_a q_1 cyI 160 (fun _ => 0), kx_a q_3 cyI 324 (fun _ => 0), kx_a q_5 cyI 324 (fun _ => 0), kx_a q_7 cyI 324 (fun _ => 0)]) hP hD rfl
  refine lv_aload_n hx hb dX5_init_45 rfl (lv_at hl 0 rfl) ?_
  refine lv_sipush (v := 1944) hx hb dX5_init_46 (by decide) ?_
  refine va_newa (atype := .int) (a0 := (1944, .inl (fun _ => 0))) hx hb ha_int rfl hK hP hD hS hA (N' := 1944) (fun cA => ki_zi cA 1944) (by decide) (by decide) (Nat.le_of_ble_eq_true rfl) (Nat.le_of_ble_eq_true rfl) (Nat.le_of_ble_eq_true rfl) dX5_init_49 (fun q_9 cA_10 H hK hP hD hS => ?_)
  obtain rfl : cyI = cA_10 := (ki_cA hK 0 1 rfl rfl).symm
  have hK : va_K (dC, dI) vwCl [(cyI, .int)] s := hK.sub [0] rfl
  refine W.widen (k := 5) (n := 3076) (Nat.le_of_ble_eq_true rfl) (Nat.le_of_ble_eq_true rfl) ?_
  obtain ⟨hP, hD⟩ := kx_re (w2 := [(h0, .inr (5, [.ref q_1, .int 0, .int 2, .int 0, .ref q_3, .ref q_5, .ref q_7, .null, .null, .null, .null, .int 0, .null, .null, .int 0, .null, .int 0, .null, .null, .null, .null, .null, .int 0, .null, .null, .int 0, .null, .null, .null, .int 0])), kx_a q_1 cyI 160 (fun _ => 0), kx_a q_3 cyI 324 (fun _ => 0), kx_a q_5 cyI 324 (fun _ => 0), kx_a q_7 cyI 324 (fun _ => 0), kx_a q_9 cyI 1944 (fun _ => 0)]) hP hD rfl
  refine va_putF (D := (dC, dI)) (ci := 5) (v := .ref q_9) (ty := .array .int) (C := RX5) (T := TX5) (N := 30) hx hb hts hi_5 tyX5 tyX5_ok nmX5 hown hK hP hD hS 0 rfl rfl 7 (by decide) hf_26 (fun _ h9 => h9) rfl hin rfl (by decide +kernel) rfl rfl (Nat.le_of_ble_eq_true rfl) dX5_init_51 (fun H locs hP hD hS => ?_)
  obtain ⟨hP, hD⟩ := kx_re (w2 := [(h0, .inr (5, [.ref q_1, .int 0, .int 2, .int 0, .ref q_3, .ref q_5, .ref q_7, .ref q_9, .null, .null, .null, .int 0, .null, .null, .int 0, .null, .int 0, .null, .null, .null, .null, .null, .int 0, .null, .null, .int 0, .null, .null, .null, .int 0])), kx_a q_1 cyI 160 (fun _ => 0), kx_a q_3 cyI 324 (fun _ => 0), kx_a q_5 cyI 324 (fun _ => 0), kx_a q_7 cyI 324 (fun _ => 0), kx_a q_9 cyI 1944 (fun _ => 0)]) hP hD rfl
  refine lv_aload_n hx hb dX5_init_54 rfl (lv_at hl 0 rfl) ?_
  refine lv_sipush (v := 1944) hx hb dX5_init_55 (by decide) ?_
  refine va_newa (atype := .int) (a0 := (1944, .inl (fun _ => 0))) hx hb ha_int rfl hK hP hD hS hA (N' := 1944) (fun cA => ki_zi cA 1944) (by decide) (by decide) (Nat.le_of_ble_eq_true rfl) (Nat.le_of_ble_eq_true rfl) (Nat.le_of_ble_eq_true rfl) dX5_init_58 (fun q_11 cA_12 H hK hP hD hS => ?_)
  obtain rfl : cyI = cA_12 := (ki_cA hK 0 1 rfl rfl).symm
  have hK : va_K (dC, dI) vwCl [(cyI, .int)] s := hK.sub [0] rfl
  refine W.widen (k := 6) (n := 5020) (Nat.le_of_ble_eq_true rfl) (Nat.le_of_ble_eq_true rfl) ?_
  obtain ⟨hP, hD⟩ := kx_re (w2 := [(h0, .inr (5, [.ref q_1, .int 0, .int 2, .int 0, .ref q_3, .ref q_5, .ref q_7, .ref q_9, .null, .null, .null, .int 0, .null, .null, .int 0, .null, .int 0, .null, .null, .null, .null, .null, .int 0, .null, .null, .int 0, .null, .null, .null, .int 0])), kx_a q_1 cyI 160 (fun _ => 0), kx_a q_3 cyI 324 (fun _ => 0), kx_a q_5 cyI 324 (fun _ => 0), kx_a q_7 cyI 324 (fun _ => 0), kx_a q_9 cyI 1944 (fun _ => 0), kx_a q_11 cyI 1944 (fun _ => 0)]) hP hD rfl
  refine va_putF (D := (dC, dI)) (ci := 5) (v := .ref q_11) (ty := .array .int) (C := RX5) (T := TX5) (N := 30) hx hb hts hi_5 tyX5 tyX5_ok nmX5 hown hK hP hD hS 0 rfl rfl 8 (by decide) hf_29 (fun _ h9 => h9) rfl hin rfl (by decide +kernel) rfl rfl (Nat.le_of_ble_eq_true rfl) dX5_init_60 (fun H locs hP hD hS => ?_)
  obtain ⟨hP, hD⟩ := kx_re (w2 := [(h0, .inr (5, [.ref q_1, .int 0, .int 2, .int 0, .ref q_3, .ref q_5, .ref q_7, .ref q_9, .ref q_11, .null, .null, .int 0, .null, .null, .int 0, .null, .int 0, .null, .null, .null, .null, .null, .int 0, .null, .null, .int 0, .null, .null, .null, .int 0])), kx_a q_1 cyI 160 (fun _ => 0), kx_a q_3 cyI 324 (fun _ => 0), kx_a q_5 cyI 324 (fun _ => 0), kx_a q_7 cyI 324 (fun _ => 0), kx_a q_9 cyI 1944 (fun _ => 0), kx_a q_11 cyI 1944 (fun _ => 0)]) hP hD rfl
  refine lv_aload_n hx hb dX5_init_63 rfl (lv_at hl 0 rfl) ?_
  refine lv_bipush (v := 12) hx hb dX5_init_64 (by decide) ?_
  refine va_newa (atype := .int) (a0 := (12, .inl (fun _ => 0))) hx hb ha_int rfl hK hP hD hS hA (N' := 12) (fun cA => ki_zi cA 12) (by decide) (by decide) (Nat.le_of_ble_eq_true rfl) (Nat.le_of_ble_eq_true rfl) (Nat.le_of_ble_eq_true rfl) dX5_init_66 (fun q_13 cA_14 H hK hP hD hS => ?_)
  obtain rfl : cyI = cA_14 := (ki_cA hK 0 1 rfl rfl).symm
  have hK : va_K (dC, dI) vwCl [(cyI, .int)] s := hK.sub [0] rfl
  refine W.widen (k := 7) (n := 5032) (Nat.le_of_ble_eq_true rfl) (Nat.le_of_ble_eq_true rfl) ?_
  obtain ⟨hP, hD⟩ := kx_re (w2 := [(h0, .inr (5, [.ref q_1, .int 0, .int 2, .int 0, .ref q_3, .ref q_5, .ref q_7, .ref q_9, .ref q_11, .null, .null, .int 0, .null, .null, .int 0, .null, .int 0, .null, .null, .null, .null, .null, .int 0, .null, .null, .int 0, .null, .null, .null, .int 0])), kx_a q_1 cyI 160 (fun _ => 0), kx_a q_3 cyI 324 (fun _ => 0), kx_a q_5 cyI 324 (fun _ => 0), kx_a q_7 cyI 324 (fun _ => 0), kx_a q_9 cyI 1944 (fun _ => 0), kx_a q_11 cyI 1944 (fun _ => 0), kx_a q_13 cyI 12 (fun _ => 0)]) hP hD rfl
  refine va_putF (D := (dC, dI)) (ci := 5) (v := .ref q_13) (ty := .array .int) (C := RX5) (T := TX5) (N := 30) hx hb hts hi_5 tyX5 tyX5_ok nmX5 hown hK hP hD hS 0 rfl rfl 9 (by decide) hf_32 (fun _ h9 => h9) rfl hin rfl (by decide +kernel) rfl rfl (Nat.le_of_ble_eq_true rfl) dX5_init_68 (fun H locs hP hD hS => ?_)
  obtain ⟨hP, hD⟩ := kx_re (w2 := [(h0, .inr (5, [.ref q_1, .int 0, .int 2, .int 0, .ref q_3, .ref q_5, .ref q_7, .ref q_9, .ref q_11, .ref q_13, .null, .int 0, .null, .null, .int 0, .null, .int 0, .null, .null, .null, .null, .null, .int 0, .null, .null, .int 0, .null, .null, .null, .int 0])), kx_a q_1 cyI 160 (fun _ => 0), kx_a q_3 cyI 324 (fun _ => 0), kx_a q_5 cyI 324 (fun _ => 0), kx_a q_7 cyI 324 (fun _ => 0), kx_a q_9 cyI 1944 (fun _ => 0), kx_a q_11 cyI 1944 (fun _ => 0), kx_a q_13 cyI 12 (fun _ => 0)]) hP hD rfl
  refine lv_aload_n hx hb dX5_init_71 rfl (lv_at hl 0 rfl) ?_
  refine lv_bipush (v := 12) hx hb dX5_init_72 (by decide) ?_
  refine va_newa (atype := .int) (a0 := (12, .inl (fun _ => 0))) hx hb ha_int rfl hK hP hD hS hA (N' := 12) (fun cA => ki_zi cA 12) (by decide) (by decide) (Nat.le_of_ble_eq_true rfl) (Nat.le_of_ble_eq_true rfl) (Nat.le_of_ble_eq_true rfl) dX5_init_74 (fun q_15 cA_16 H hK hP hD hS => ?_)
  obtain rfl : cyI = cA_16 := (ki_cA hK 0 1 rfl rfl).symm
  have hK : va_K (dC, dI) vwCl [(cyI, .int)] s := hK.sub [0] rfl
  refine W.widen (k := 8) (n := 5044) (Nat.le_of_ble_eq_true rfl) (Nat.le_of_ble_eq_true rfl) ?_
  obtain ⟨hP, hD⟩ := kx_re (w2 := [(h0, .inr (5, [.ref q_1, .int 0, .int 2, .int 0, .ref q_3, .ref q_5, .ref q_7, .ref q_9, .ref q_11, .ref q_13, .null, .int 0, .null, .null, .int 0, .null, .int 0, .null, .null, .null, .null, .null, .int 0, .null, .null, .int 0, .null, .null, .null, .int 0])), kx_a q_1 cyI 160 (fun _ => 0), kx_a q_3 cyI 324 (fun _ => 0), kx_a q_5 cyI 324 (fun _ => 0), kx_a q_7 cyI 324 (fun _ => 0), kx_a q_9 cyI 1944 (fun _ => 0), kx_a q_11 cyI 1944 (fun _ => 0), kx_a q_13 cyI 12 (fun _ => 0), kx_a q_15 cyI 12 (fun _ => 0)]) hP hD rfl
  refine va_putF (D := (dC, dI)) (ci := 5) (v := .ref q_15) (ty := .array .int) (C := RX5) (T := TX5) (N := 30) hx hb hts hi_5 tyX5 tyX5_ok nmX5 hown hK hP hD hS 0 rfl rfl 10 (by decide) hf_35 (fun _ h9 => h9) rfl hin rfl (by decide +kernel) rfl rfl (Nat.le_of_ble_eq_true rfl) dX5_init_76 (fun H locs hP hD hS => ?_)
  obtain ⟨hP, hD⟩ := kx_re (w2 := [(h0, .inr (5, [.ref q_1, .int 0, .int 2, .int 0, .ref q_3, .ref q_5, .ref q_7, .ref q_9, .ref q_11, .ref q_13, .ref q_15, .int 0, .null, .null, .int 0, .null, .int 0, .null, .null, .null, .null, .null, .int 0, .null, .null, .int 0, .null, .null, .null, .int 0])), kx_a q_1 cyI 160 (fun _ => 0), kx_a q_3 cyI 324 (fun _ => 0), kx_a q_5 cyI 324 (fun _ => 0), kx_a q_7 cyI 324 (fun _ => 0), kx_a q_9 cyI 1944 (fun _ => 0), kx_a q_11 cyI 1944 (fun _ => 0), kx_a q_13 cyI 12 (fun _ => 0), kx_a q_15 cyI 12 (fun _ => 0)]) hP hD rfl
  refine lv_aload_n hx hb dX5_init_79 rfl (lv_at hl 0 rfl) ?_
  refine lv_sipush (v := 320) hx hb dX5_init_80 (by decide) ?_
  refine va_newa (atype := .int) (a0 := (320, .inl (fun _ => 0))) hx hb ha_int rfl hK hP hD hS hA (N' := 320) (fun cA => ki_zi cA 320) (by decide) (by decide) (Nat.le_of_ble_eq_true rfl) (Nat.le_of_ble_eq_true rfl) (Nat.le_of_ble_eq_true rfl) dX5_init_83 (fun q_17 cA_18 H hK hP hD hS => ?_)
  obtain rfl : cyI = cA_18 := (ki_cA hK 0 1 rfl rfl).symm
  have hK : va_K (dC, dI) vwCl [(cyI, .int)] s := hK.sub [0] rfl
  refine W.widen (k := 9) (n := 5364) (Nat.le_of_ble_eq_true rfl) (Nat.le_of_ble_eq_true rfl) ?_
  obtain ⟨hP, hD⟩ := kx_re (w2 := [(h0, .inr (5, [.ref q_1, .int 0, .int 2, .int 0, .ref q_3, .ref q_5, .ref q_7, .ref q_9, .ref q_11, .ref q_13, .ref q_15, .int 0, .null, .null, .int 0, .null, .int 0, .null, .null, .null, .null, .null, .int 0, .null, .null, .int 0, .null, .null, .null, .int 0])), kx_a q_1 cyI 160 (fun _ => 0), kx_a q_3 cyI 324 (fun _ => 0), kx_a q_5 cyI 324 (fun _ => 0), kx_a q_7 cyI 324 (fun _ => 0), kx_a q_9 cyI 1944 (fun _ => 0), kx_a q_11 cyI 1944 (fun _ => 0), kx_a q_13 cyI 12 (fun _ => 0), kx_a q_15 cyI 12 (fun _ => 0), kx_a q_17 cyI 320 (fun _ => 0)]) hP hD rfl
  refine va_putF (D := (dC, dI)) (ci := 5) (v := .ref q_17) (ty := .array .int) (C := RX5) (T := TX5) (N := 30) hx hb hts hi_5 tyX5 tyX5_ok nmX5 hown hK hP hD hS 0 rfl rfl 12 (by decide) hf_38 (fun _ h9 => h9) rfl hin rfl (by decide +kernel) rfl rfl (Nat.le_of_ble_eq_true rfl) dX5_init_85 (fun H locs hP hD hS => ?_)
  obtain ⟨hP, hD⟩ := kx_re (w2 := [(h0, .inr (5, [.ref q_1, .int 0, .int 2, .int 0, .ref q_3, .ref q_5, .ref q_7, .ref q_9, .ref q_11, .ref q_13, .ref q_15, .int 0, .ref q_17, .null, .int 0, .null, .int 0, .null, .null, .null, .null, .null, .int 0, .null, .null, .int 0, .null, .null, .null, .int 0])), kx_a q_1 cyI 160 (fun _ => 0), kx_a q_3 cyI 324 (fun _ => 0), kx_a q_5 cyI 324 (fun _ => 0), kx_a q_7 cyI 324 (fun _ => 0), kx_a q_9 cyI 1944 (fun _ => 0), kx_a q_11 cyI 1944 (fun _ => 0), kx_a q_13 cyI 12 (fun _ => 0), kx_a q_15 cyI 12 (fun _ => 0), kx_a q_17 cyI 320 (fun _ => 0)]) hP hD rfl
  refine lv_aload_n hx hb dX5_init_88 rfl (lv_at hl 0 rfl) ?_
  refine lv_sipush (v := 320) hx hb dX5_init_89 (by decide) ?_
  refine va_newa (atype := .int) (a0 := (320, .inl (fun _ => 0))) hx hb ha_int rfl hK hP hD hS hA (N' := 320) (fun cA => ki_zi cA 320) (by decide) (by decide) (Nat.le_of_ble_eq_true rfl) (Nat.le_of_ble_eq_true rfl) (Nat.le_of_ble_eq_true rfl) dX5_init_92 (fun q_19 cA_20 H hK hP hD hS => ?_)
  obtain rfl : cyI = cA_20 := (ki_cA hK 0 1 rfl rfl).symm
  have hK : va_K (dC, dI) vwCl [(cyI, .int)] s := hK.sub [0] rfl
  refine W.widen (k := 10) (n := 5684) (Nat.le_of_ble_eq_true rfl) (Nat.le_of_ble_eq_true rfl) ?_
  obtain ⟨hP, hD⟩ := kx_re (w2 := [(h0, .inr (5, [.ref q_1, .int 0, .int 2, .int 0, .ref q_3, .ref q_5, .ref q_7, .ref q_9, .ref q_11, .ref q_13, .ref q_15, .int 0, .ref q_17, .null, .int 0, .null, .int 0, .null, .null, .null, .null, .null, .int 0, .null, .null, .int 0, .null, .null, .null, .int 0])), kx_a q_1 cyI 160 (fun _ => 0), kx_a q_3 cyI 324 (fun _ => 0), kx_a q_5 cyI 324 (fun _ => 0), kx_a q_7 cyI 324 (fun _ => 0), kx_a q_9 cyI 1944 (fun _ => 0), kx_a q_11 cyI 1944 (fun _ => 0), kx_a q_13 cyI 12 (fun _ => 0), kx_a q_15 cyI 12 (fun _ => 0), kx_a q_17 cyI 320 (fun _ => 0), kx_a q_19 cyI 320 (fun _ => 0)]) hP hD rfl
  refine va_putF (D := (dC, dI)) (ci := 5) (v := .ref q_19) (ty := .array .int) (C := RX5) (T := TX5) (N := 30) hx hb hts hi_5 tyX5 tyX5_ok nmX5 hown hK hP hD hS 0 rfl rfl 13 (by decide) hf_41 (fun _ h9 => h9) rfl hin rfl (by decide +kernel) rfl rfl (Nat.le_of_ble_eq_true rfl) dX5_init_94 (fun H locs hP hD hS => ?_)
  obtain ⟨hP, hD⟩ := kx_re (w2 := [(h0, .inr (5, [.ref q_1, .int 0, .int 2, .int 0, .ref q_3, .ref q_5, .ref q_7, .ref q_9, .ref q_11, .ref q_13, .ref q_15, .int 0, .ref q_17, .ref q_19, .int 0, .null, .int 0, .null, .null, .null, .null, .null, .int 0, .null, .null, .int 0, .null, .null, .null, .int 0])), kx_a q_1 cyI 160 (fun _ => 0), kx_a q_3 cyI 324 (fun _ => 0), kx_a q_5 cyI 324 (fun _ => 0), kx_a q_7 cyI 324 (fun _ => 0), kx_a q_9 cyI 1944 (fun _ => 0), kx_a q_11 cyI 1944 (fun _ => 0), kx_a q_13 cyI 12 (fun _ => 0), kx_a q_15 cyI 12 (fun _ => 0), kx_a q_17 cyI 320 (fun _ => 0), kx_a q_19 cyI 320 (fun _ => 0)]) hP hD rfl
  refine lv_aload_n hx hb dX5_init_97 rfl (lv_at hl 0 rfl) ?_
  refine lv_sipush (v := 320) hx hb dX5_init_98 (by decide) ?_
  refine va_newa (atype := .int) (a0 := (320, .inl (fun _ => 0))) hx hb ha_int rfl hK hP hD hS hA (N' := 320) (fun cA => ki_zi cA 320) (by decide) (by decide) (Nat.le_of_ble_eq_true rfl) (Nat.le_of_ble_eq_true rfl) (Nat.le_of_ble_eq_true rfl) dX5_init_101 (fun q_21 cA_22 H hK hP hD hS => ?_)
  obtain rfl : cyI = cA_22 := (ki_cA hK 0 1 rfl rfl).symm
  have hK : va_K (dC, dI) vwCl [(cyI, .int)] s := hK.sub [0] rfl
  refine W.widen (k := 11) (n := 6004) (Nat.le_of_ble_eq_true rfl) (Nat.le_of_ble_eq_true rfl) ?_
  obtain ⟨hP, hD⟩ := kx_re (w2 := [(h0, .inr (5, [.ref q_1, .int 0, .int 2, .int 0, .ref q_3, .ref q_5, .ref q_7, .ref q_9, .ref q_11, .ref q_13, .ref q_15, .int 0, .ref q_17, .ref q_19, .int 0, .null, .int 0, .null, .null, .null, .null, .null, .int 0, .null, .null, .int 0, .null, .null, .null, .int 0])), kx_a q_1 cyI 160 (fun _ => 0), kx_a q_3 cyI 324 (fun _ => 0), kx_a q_5 cyI 324 (fun _ => 0), kx_a q_7 cyI 324 (fun _ => 0), kx_a q_9 cyI 1944 (fun _ => 0), kx_a q_11 cyI 1944 (fun _ => 0), kx_a q_13 cyI 12 (fun _ => 0), kx_a q_15 cyI 12 (fun _ => 0), kx_a q_17 cyI 320 (fun _ => 0), kx_a q_19 cyI 320 (fun _ => 0), kx_a q_21 cyI 320 (fun _ => 0)]) hP hD rfl
  refine va_putF (D := (dC, dI)) (ci := 5) (v := .ref q_21) (ty := .array .int) (C := RX5) (T := TX5) (N := 30) hx hb hts hi_5 tyX5 tyX5_ok nmX5 hown hK hP hD hS 0 rfl rfl 15 (by decide) hf_44 (fun _ h9 => h9) rfl hin rfl (by decide +kernel) rfl rfl (Nat.le_of_ble_eq_true rfl) dX5_init_103 (fun H locs hP hD hS => ?_)
  obtain ⟨hP, hD⟩ := kx_re (w2 := [(h0, .inr (5, [.ref q_1, .int 0, .int 2, .int 0, .ref q_3, .ref q_5, .ref q_7, .ref q_9, .ref q_11, .ref q_13, .ref q_15, .int 0, .ref q_17, .ref q_19, .int 0, .ref q_21, .int 0, .null, .null, .null, .null, .null, .int 0, .null, .null, .int 0, .null, .null, .null, .int 0])), kx_a q_1 cyI 160 (fun _ => 0), kx_a q_3 cyI 324 (fun _ => 0), kx_a q_5 cyI 324 (fun _ => 0), kx_a q_7 cyI 324 (fun _ => 0), kx_a q_9 cyI 1944 (fun _ => 0), kx_a q_11 cyI 1944 (fun _ => 0), kx_a q_13 cyI 12 (fun _ => 0), kx_a q_15 cyI 12 (fun _ => 0), kx_a q_17 cyI 320 (fun _ => 0), kx_a q_19 cyI 320 (fun _ => 0), kx_a q_21 cyI 320 (fun _ => 0)]) hP hD rfl
  refine lv_aload_n hx hb dX5_init_106 rfl (lv_at hl 0 rfl) ?_
  refine lv_sipush (v := 320) hx hb dX5_init_107 (by decide) ?_
  refine va_newa (atype := .int) (a0 := (320, .inl (fun _ => 0))) hx hb ha_int rfl hK hP hD hS hA (N' := 320) (fun cA => ki_zi cA 320) (by decide) (by decide) (Nat.le_of_ble_eq_true rfl) (Nat.le_of_ble_eq_true rfl) (Nat.le_of_ble_eq_true rfl) dX5_init_110 (fun q_23 cA_24 H hK hP hD hS => ?_)
  obtain rfl : cyI = cA_24 := (ki_cA hK 0 1 rfl rfl).symm
  have hK : va_K (dC, dI) vwCl [(cyI, .int)] s := hK.sub [0] rfl
  refine W.widen (k := 12) (n := 6324) (Nat.le_of_ble_eq_true rfl) (Nat.le_of_ble_eq_true rfl) ?_
  obtain ⟨hP, hD⟩ := kx_re (w2 := [(h0, .inr (5, [.ref q_1, .int 0, .int 2, .int 0, .ref q_3, .ref q_5, .ref q_7, .ref q_9, .ref q_11, .ref q_13, .ref q_15, .int 0, .ref q_17, .ref q_19, .int 0, .ref q_21, .int 0, .null, .null, .null, .null, .null, .int 0, .null, .null, .int 0, .null, .null, .null, .int 0])), kx_a q_1 cyI 160 (fun _ => 0), kx_a q_3 cyI 324 (fun _ => 0), kx_a q_5 cyI 324 (fun _ => 0), kx_a q_7 cyI 324 (fun _ => 0), kx_a q_9 cyI 1944 (fun _ => 0), kx_a q_11 cyI 1944 (fun _ => 0), kx_a q_13 cyI 12 (fun _ => 0), kx_a q_15 cyI 12 (fun _ => 0), kx_a q_17 cyI 320 (fun _ => 0), kx_a q_19 cyI 320 (fun _ => 0), kx_a q_21 cyI 320 (fun _ => 0), kx_a q_23 cyI 320 (fun _ => 0)]) hP hD rfl
  refine va_putF (D := (dC, dI)) (ci := 5) (v := .ref q_23) (ty := .array .int) (C := RX5) (T := TX5) (N := 30) hx hb hts hi_5 tyX5 tyX5_ok nmX5 hown hK hP hD hS 0 rfl rfl 17 (by decide) hf_47 (fun _ h9 => h9) rfl hin rfl (by decide +kernel) rfl rfl (Nat.le_of_ble_eq_true rfl) dX5_init_112 (fun H locs hP hD hS => ?_)
  obtain ⟨hP, hD⟩ := kx_re (w2 := [(h0, .inr (5, [.ref q_1, .int 0, .int 2, .int 0, .ref q_3, .ref q_5, .ref q_7, .ref q_9, .ref q_11, .ref q_13, .ref q_15, .int 0, .ref q_17, .ref q_19, .int 0, .ref q_21, .int 0, .ref q_23, .null, .null, .null, .null, .int 0, .null, .null, .int 0, .null, .null, .null, .int 0])), kx_a q_1 cyI 160 (fun _ => 0), kx_a q_3 cyI 324 (fun _ => 0), kx_a q_5 cyI 324 (fun _ => 0), kx_a q_7 cyI 324 (fun _ => 0), kx_a q_9 cyI 1944 (fun _ => 0), kx_a q_11 cyI 1944 (fun _ => 0), kx_a q_13 cyI 12 (fun _ => 0), kx_a q_15 cyI 12 (fun _ => 0), kx_a q_17 cyI 320 (fun _ => 0), kx_a q_19 cyI 320 (fun _ => 0), kx_a q_21 cyI 320 (fun _ => 0), kx_a q_23 cyI 320 (fun _ => 0)]) hP hD rfl
  refine lv_aload_n hx hb dX5_init_115 rfl (lv_at hl 0 rfl) ?_
  refine lv_sipush (v := 320) hx hb dX5_init_116 (by decide) ?_
  refine va_newa (atype := .int) (a0 := (320, .inl (fun _ => 0))) hx hb ha_int rfl hK hP hD hS hA (N' := 320) (fun cA => ki_zi cA 320) (by decide) (by decide) (Nat.le_of_ble_eq_true rfl) (Nat.le_of_ble_eq_true rfl) (Nat.le_of_ble_eq_true rfl) dX5_init_119 (fun q_25 cA_26 H hK hP hD hS => ?_)
  obtain rfl : cyI = cA_26 := (ki_cA hK 0 1 rfl rfl).symm
  have hK : va_K (dC, dI) vwCl [(cyI, .int)] s := hK.sub [0] rfl
  refine W.widen (k := 13) (n := 6644) (Nat.le_of_ble_eq_true rfl) (Nat.le_of_ble_eq_true rfl) ?_
  obtain ⟨hP, hD⟩ := kx_re (w2 := [(h0, .inr (5, [.ref q_1, .int 0, .int 2, .int 0, .ref q_3, .ref q_5, .ref q_7, .ref q_9, .ref q_11, .ref q_13, .ref q_15, .int 0, .ref q_17, .ref q_19, .int 0, .ref q_21, .int 0, .ref q_23, .null, .null, .null, .null, .int 0, .null, .null, .int 0, .null, .null, .null, .int 0])), kx_a q_1 cyI 160 (fun _ => 0), kx_a q_3 cyI 324 (fun _ => 0), kx_a q_5 cyI 324 (fun _ => 0), kx_a q_7 cyI 324 (fun _ => 0), kx_a q_9 cyI 1944 (fun _ => 0), kx_a q_11 cyI 1944 (fun _ => 0), kx_a q_13 cyI 12 (fun _ => 0), kx_a q_15 cyI 12 (fun _ => 0), kx_a q_17 cyI 320 (fun _ => 0), kx_a q_19 cyI 320 (fun _ => 0), kx_a q_21 cyI 320 (fun _ => 0), kx_a q_23 cyI 320 (fun _ => 0), kx_a q_25 cyI 320 (fun _ => 0)]) hP hD rfl
  refine va_putF (D := (dC, dI)) (ci := 5) (v := .ref q_25) (ty := .array .int) (C := RX5) (T := TX5) (N := 30) hx hb hts hi_5 tyX5 tyX5_ok nmX5 hown hK hP hD hS 0 rfl rfl 18 (by decide) hf_50 (fun _ h9 => h9) rfl hin rfl (by decide +kernel) rfl rfl (Nat.le_of_ble_eq_true rfl) dX5_init_121 (fun H locs hP hD hS => ?_)
  obtain ⟨hP, hD⟩ := kx_re (w2 := [(h0, .inr (5, [.ref q_1, .int 0, .int 2, .int 0, .ref q_3, .ref q_5, .ref q_7, .ref q_9, .ref q_11, .ref q_13, .ref q_15, .int 0, .ref q_17, .ref q_19, .int 0, .ref q_21, .int 0, .ref q_23, .ref q_25, .null, .null, .null, .int 0, .null, .null, .int 0, .null, .null, .null, .int 0])), kx_a q_1 cyI 160 (fun _ => 0), kx_a q_3 cyI 324 (fun _ => 0), kx_a q_5 cyI 324 (fun _ => 0), kx_a q_7 cyI 324 (fun _ => 0), kx_a q_9 cyI 1944 (fun _ => 0), kx_a q_11 cyI 1944 (fun _ => 0), kx_a q_13 cyI 12 (fun _ => 0), kx_a q_15 cyI 12 (fun _ => 0), kx_a q_17 cyI 320 (fun _ => 0), kx_a q_19 cyI 320 (fun _ => 0), kx_a q_21 cyI 320 (fun _ => 0), kx_a q_23 cyI 320 (fun _ => 0), kx_a q_25 cyI 320 (fun _ => 0)]) hP hD rfl
  refine lv_aload_n hx hb dX5_init_124 rfl (lv_at hl 0 rfl) ?_
  refine lv_sipush (v := 1920) hx hb dX5_init_125 (by decide) ?_
  refine va_newa (atype := .int) (a0 := (1920, .inl (fun _ => 0))) hx hb ha_int rfl hK hP hD hS hA (N' := 1920) (fun cA => ki_zi cA 1920) (by decide) (by decide) (Nat.le_of_ble_eq_true rfl) (Nat.le_of_ble_eq_true rfl) (Nat.le_of_ble_eq_true rfl) dX5_init_128 (fun q_27 cA_28 H hK hP hD hS => ?_)
  obtain rfl : cyI = cA_28 := (ki_cA hK 0 1 rfl rfl).symm
  have hK : va_K (dC, dI) vwCl [(cyI, .int)] s := hK.sub [0] rfl
  refine W.widen (k := 14) (n := 8564) (Nat.le_of_ble_eq_true rfl) (Nat.le_of_ble_eq_true rfl) ?_
  obtain ⟨hP, hD⟩ := kx_re (w2 := [(h0, .inr (5, [.ref q_1, .int 0, .int 2, .int 0, .ref q_3, .ref q_5, .ref q_7, .ref q_9, .ref q_11, .ref q_13, .ref q_15, .int 0, .ref q_17, .ref q_19, .int 0, .ref q_21, .int 0, .ref q_23, .ref q_25, .null, .null, .null, .int 0, .null, .null, .int 0, .null, .null, .null, .int 0])), kx_a q_1 cyI 160 (fun _ => 0), kx_a q_3 cyI 324 (fun _ => 0), kx_a q_5 cyI 324 (fun _ => 0), kx_a q_7 cyI 324 (fun _ => 0), kx_a q_9 cyI 1944 (fun _ => 0), kx_a q_11 cyI 1944 (fun _ => 0), kx_a q_13 cyI 12 (fun _ => 0), kx_a q_15 cyI 12 (fun _ => 0), kx_a q_17 cyI 320 (fun _ => 0), kx_a q_19 cyI 320 (fun _ => 0), kx_a q_21 cyI 320 (fun _ => 0), kx_a q_23 cyI 320 (fun _ => 0), kx_a q_25 cyI 320 (fun _ => 0), kx_a q_27 cyI 1920 (fun _ => 0)]) hP hD rfl
  refine va_putF (D := (dC, dI)) (ci := 5) (v := .ref q_27) (ty := .array .int) (C := RX5) (T := TX5) (N := 30) hx hb hts hi_5 tyX5 tyX5_ok nmX5 hown hK hP hD hS 0 rfl rfl 19 (by decide) hf_53 (fun _ h9 => h9) rfl hin rfl (by decide +kernel) rfl rfl (Nat.le_of_ble_eq_true rfl) dX5_init_130 (fun H locs hP hD hS => ?_)
  obtain ⟨hP, hD⟩ := kx_re (w2 := [(h0, .inr (5, [.ref q_1, .int 0, .int 2, .int 0, .ref q_3, .ref q_5, .ref q_7, .ref q_9, .ref q_11, .ref q_13, .ref q_15, .int 0, .ref q_17, .ref q_19, .int 0, .ref q_21, .int 0, .ref q_23, .ref q_25, .ref q_27, .null, .null, .int 0, .null, .null, .int 0, .null, .null, .null, .int 0])), kx_a q_1 cyI 160 (fun _ => 0), kx_a q_3 cyI 324 (fun _ => 0), kx_a q_5 cyI 324 (fun _ => 0), kx_a q_7 cyI 324 (fun _ => 0), kx_a q_9 cyI 1944 (fun _ => 0), kx_a q_11 cyI 1944 (fun _ => 0), kx_a q_13 cyI 12 (fun _ => 0), kx_a q_15 cyI 12 (fun _ => 0), kx_a q_17 cyI 320 (fun _ => 0), kx_a q_19 cyI 320 (fun _ => 0), kx_a q_21 cyI 320 (fun _ => 0), kx_a q_23 cyI 320 (fun _ => 0), kx_a q_25 cyI 320 (fun _ => 0), kx_a q_27 cyI 1920 (fun _ => 0)]) hP hD rfl
  refine lv_aload_n hx hb dX5_init_133 rfl (lv_at hl 0 rfl) ?_
  refine lv_sipush (v := 1920) hx hb dX5_init_134 (by decide) ?_
  refine va_newa (atype := .int) (a0 := (1920, .inl (fun _ => 0))) hx hb ha_int rfl hK hP hD hS hA (N' := 1920) (fun cA => ki_zi cA 1920) (by decide) (by decide) (Nat.le_of_ble_eq_true rfl) (Nat.le_of_ble_eq_true rfl) (Nat.le_of_ble_eq_true rfl) dX5_init_137 (fun q_29 cA_30 H hK hP hD hS => ?_)
  obtain rfl : cyI = cA_30 := (ki_cA hK 0 1 rfl rfl).symm
  have hK : va_K (dC, dI) vwCl [(cyI, .int)] s := hK.sub [0] rfl
  refine W.widen (k := 15) (n := 10484) (Nat.le_of_ble_eq_true rfl) (Nat.le_of_ble_eq_true rfl) ?_
  obtain ⟨hP, hD⟩ := kx_re (w2 := [(h0, .inr (5, [.ref q_1, .int 0, .int 2, .int 0, .ref q_3, .ref q_5, .ref q_7, .ref q_9, .ref q_11, .ref q_13, .ref q_15, .int 0, .ref q_17, .ref q_19, .int 0, .ref q_21, .int 0, .ref q_23, .ref q_25, .ref q_27, .null, .null, .int 0, .null, .null, .int 0, .null, .null, .null, .int 0])), kx_a q_1 cyI 160 (fun _ => 0), kx_a q_3 cyI 324 (fun _ => 0), kx_a q_5 cyI 324 (fun _ => 0), kx_a q_7 cyI 324 (fun _ => 0), kx_a q_9 cyI 1944 (fun _ => 0), kx_a q_11 cyI 1944 (fun _ => 0), kx_a q_13 cyI 12 (fun _ => 0), kx_a q_15 cyI 12 (fun _ => 0), kx_a q_17 cyI 320 (fun _ => 0), kx_a q_19 cyI 320 (fun _ => 0), kx_a q_21 cyI 320 (fun _ => 0), kx_a q_23 cyI 320 (fun _ => 0), kx_a q_25 cyI 320 (fun _ => 0), kx_a q_27 cyI 1920 (fun _ => 0), kx_a q_29 cyI 1920 (fun _ => 0)]) hP hD rfl
  refine va_putF (D := (dC, dI)) (ci := 5) (v := .ref q_29) (ty := .array .int) (C := RX5) (T := TX5) (N := 30) hx hb hts hi_5 tyX5 tyX5_ok nmX5 hown hK hP hD hS 0 rfl rfl 20 (by decide) hf_56 (fun _ h9 => h9) rfl hin rfl (by decide +kernel) rfl rfl (Nat.le_of_ble_eq_true rfl) dX5_init_139 (fun H locs hP hD hS => ?_)
  obtain ⟨hP, hD⟩ := kx_re (w2 := [(h0, .inr (5, [.ref q_1, .int 0, .int 2, .int 0, .ref q_3, .ref q_5, .ref q_7, .ref q_9, .ref q_11, .ref q_13, .ref q_15, .int 0, .ref q_17, .ref q_19, .int 0, .ref q_21, .int 0, .ref q_23, .ref q_25, .ref q_27, .ref q_29, .null, .int 0, .null, .null, .int 0, .null, .null, .null, .int 0])), kx_a q_1 cyI 160 (fun _ => 0), kx_a q_3 cyI 324 (fun _ => 0), kx_a q_5 cyI 324 (fun _ => 0), kx_a q_7 cyI 324 (fun _ => 0), kx_a q_9 cyI 1944 (fun _ => 0), kx_a q_11 cyI 1944 (fun _ => 0), kx_a q_13 cyI 12 (fun _ => 0), kx_a q_15 cyI 12 (fun _ => 0), kx_a q_17 cyI 320 (fun _ => 0), kx_a q_19 cyI 320 (fun _ => 0), kx_a q_21 cyI 320 (fun _ => 0), kx_a q_23 cyI 320 (fun _ => 0), kx_a q_25 cyI 320 (fun _ => 0), kx_a q_27 cyI 1920 (fun _ => 0), kx_a q_29 cyI 1920 (fun _ => 0)]) hP hD rfl
  refine lv_aload_n hx hb dX5_init_142 rfl (lv_at hl 0 rfl) ?_
  refine lv_bipush (v := 12) hx hb dX5_init_143 (by decide) ?_
  refine va_newa (atype := .int) (a0 := (12, .inl (fun _ => 0))) hx hb ha_int rfl hK hP hD hS hA (N' := 12) (fun cA => ki_zi cA 12) (by decide) (by decide) (Nat.le_of_ble_eq_true rfl) (Nat.le_of_ble_eq_true rfl) (Nat.le_of_ble_eq_true rfl) dX5_init_145 (fun q_31 cA_32 H hK hP hD hS => ?_)
  obtain rfl : cyI = cA_32 := (ki_cA hK 0 1 rfl rfl).symm
  have hK : va_K (dC, dI) vwCl [(cyI, .int)] s := hK.sub [0] rfl
  refine W.widen (k := 16) (n := 10496) (Nat.le_of_ble_eq_true rfl) (Nat.le_of_ble_eq_true rfl) ?_
  obtain ⟨hP, hD⟩ := kx_re (w2 := [(h0, .inr (5, [.ref q_1, .int 0, .int 2, .int 0, .ref q_3, .ref q_5, .ref q_7, .ref q_9, .ref q_11, .ref q_13, .ref q_15, .int 0, .ref q_17, .ref q_19, .int 0, .ref q_21, .int 0, .ref q_23, .ref q_25, .ref q_27, .ref q_29, .null, .int 0, .null, .null, .int 0, .null, .null, .null, .int 0])), kx_a q_1 cyI 160 (fun _ => 0), kx_a q_3 cyI 324 (fun _ => 0), kx_a q_5 cyI 324 (fun _ => 0), kx_a q_7 cyI 324 (fun _ => 0), kx_a q_9 cyI 1944 (fun _ => 0), kx_a q_11 cyI 1944 (fun _ => 0), kx_a q_13 cyI 12 (fun _ => 0), kx_a q_15 cyI 12 (fun _ => 0), kx_a q_17 cyI 320 (fun _ => 0), kx_a q_19 cyI 320 (fun _ => 0), kx_a q_21 cyI 320 (fun _ => 0), kx_a q_23 cyI 320 (fun _ => 0), kx_a q_25 cyI 320 (fun _ => 0), kx_a q_27 cyI 1920 (fun _ => 0), kx_a q_29 cyI 1920 (fun _ => 0), kx_a q_31 cyI 12 (fun _ => 0)]) hP hD rfl
  refine va_putF (D := (dC, dI)) (ci := 5) (v := .ref q_31) (ty := .array .int) (C := RX5) (T := TX5) (N := 30) hx hb hts hi_5 tyX5 tyX5_ok nmX5 hown hK hP hD hS 0 rfl rfl 21 (by decide) hf_59 (fun _ h9 => h9) rfl hin rfl (by decide +kernel) rfl rfl (Nat.le_of_ble_eq_true rfl) dX5_init_147 (fun H locs hP hD hS => ?_)
  obtain ⟨hP, hD⟩ := kx_re (w2 := [(h0, .inr (5, [.ref q_1, .int 0, .int 2, .int 0, .ref q_3, .ref q_5, .ref q_7, .ref q_9, .ref q_11, .ref q_13, .ref q_15, .int 0, .ref q_17, .ref q_19, .int 0, .ref q_21, .int 0, .ref q_23, .ref q_25, .ref q_27, .ref q_29, .ref q_31, .int 0, .null, .null, .int 0, .null, .null, .null, .int 0])), kx_a q_1 cyI 160 (fun _ => 0), kx_a q_3 cyI 324 (fun _ => 0), kx_a q_5 cyI 324 (fun _ => 0), kx_a q_7 cyI 324 (fun _ => 0), kx_a q_9 cyI 1944 (fun _ => 0), kx_a q_11 cyI 1944 (fun _ => 0), kx_a q_13 cyI 12 (fun _ => 0), kx_a q_15 cyI 12 (fun _ => 0), kx_a q_17 cyI 320 (fun _ => 0), kx_a q_19 cyI 320 (fun _ => 0), kx_a q_21 cyI 320 (fun _ => 0), kx_a q_23 cyI 320 (fun _ => 0), kx_a q_25 cyI 320 (fun _ => 0), kx_a q_27 cyI 1920 (fun _ => 0), kx_a q_29 cyI 1920 (fun _ => 0), kx_a q_31 cyI 12 (fun _ => 0)]) hP hD rfl
  refine lv_aload_n hx hb dX5_init_150 rfl (lv_at hl 0 rfl) ?_
  refine lv_sipush (v := 160) hx hb dX5_init_151 (by decide) ?_
  refine va_newa (atype := .int) (a0 := (160, .inl (fun _ => 0))) hx hb ha_int rfl hK hP hD hS hA (N' := 160) (fun cA => ki_zi cA 160) (by decide) (by decide) (Nat.le_of_ble_eq_true rfl) (Nat.le_of_ble_eq_true rfl) (Nat.le_of_ble_eq_true rfl) dX5_init_154 (fun q_33 cA_34 H hK hP hD hS => ?_)
  obtain rfl : cyI = cA_34 := (ki_cA hK 0 1 rfl rfl).symm
  have hK : va_K (dC, dI) vwCl [(cyI, .int)] s := hK.sub [0] rfl
  refine W.widen (k := 17) (n := 10656) (Nat.le_of_ble_eq_true rfl) (Nat.le_of_ble_eq_true rfl) ?_
  obtain ⟨hP, hD⟩ := kx_re (w2 := [(h0, .inr (5, [.ref q_1, .int 0, .int 2, .int 0, .ref q_3, .ref q_5, .ref q_7, .ref q_9, .ref q_11, .ref q_13, .ref q_15, .int 0, .ref q_17, .ref q_19, .int 0, .ref q_21, .int 0, .ref q_23, .ref q_25, .ref q_27, .ref q_29, .ref q_31, .int 0, .null, .null, .int 0, .null, .null, .null, .int 0])), kx_a q_1 cyI 160 (fun _ => 0), kx_a q_3 cyI 324 (fun _ => 0), kx_a q_5 cyI 324 (fun _ => 0), kx_a q_7 cyI 324 (fun _ => 0), kx_a q_9 cyI 1944 (fun _ => 0), kx_a q_11 cyI 1944 (fun _ => 0), kx_a q_13 cyI 12 (fun _ => 0), kx_a q_15 cyI 12 (fun _ => 0), kx_a q_17 cyI 320 (fun _ => 0), kx_a q_19 cyI 320 (fun _ => 0), kx_a q_21 cyI 320 (fun _ => 0), kx_a q_23 cyI 320 (fun _ => 0), kx_a q_25 cyI 320 (fun _ => 0), kx_a q_27 cyI 1920 (fun _ => 0), kx_a q_29 cyI 1920 (fun _ => 0), kx_a q_31 cyI 12 (fun _ => 0), kx_a q_33 cyI 160 (fun _ => 0)]) hP hD rfl
  refine va_putF (D := (dC, dI)) (ci := 5) (v := .ref q_33) (ty := .array .int) (C := RX5) (T := TX5) (N := 30) hx hb hts hi_5 tyX5 tyX5_ok nmX5 hown hK hP hD hS 0 rfl rfl 23 (by decide) hf_62 (fun _ h9 => h9) rfl hin rfl (by decide +kernel) rfl rfl (Nat.le_of_ble_eq_true rfl) dX5_init_156 (fun H locs hP hD hS => ?_)
  obtain ⟨hP, hD⟩ := kx_re (w2 := [(h0, .inr (5, [.ref q_1, .int 0, .int 2, .int 0, .ref q_3, .ref q_5, .ref q_7, .ref q_9, .ref q_11, .ref q_13, .ref q_15, .int 0, .ref q_17, .ref q_19, .int 0, .ref q_21, .int 0, .ref q_23, .ref q_25, .ref q_27, .ref q_29, .ref q_31, .int 0, .ref q_33, .null, .int 0, .null, .null, .null, .int 0])), kx_a q_1 cyI 160 (fun _ => 0), kx_a q_3 cyI 324 (fun _ => 0), kx_a q_5 cyI 324 (fun _ => 0), kx_a q_7 cyI 324 (fun _ => 0), kx_a q_9 cyI 1944 (fun _ => 0), kx_a q_11 cyI 1944 (fun _ => 0), kx_a q_13 cyI 12 (fun _ => 0), kx_a q_15 cyI 12 (fun _ => 0), kx_a q_17 cyI 320 (fun _ => 0), kx_a q_19 cyI 320 (fun _ => 0), kx_a q_21 cyI 320 (fun _ => 0), kx_a q_23 cyI 320 (fun _ => 0), kx_a q_25 cyI 320 (fun _ => 0), kx_a q_27 cyI 1920 (fun _ => 0), kx_a q_29 cyI 1920 (fun _ => 0), kx_a q_31 cyI 12 (fun _ => 0), kx_a q_33 cyI 160 (fun _ => 0)]) hP hD rfl
  refine lv_aload_n hx hb dX5_init_159 rfl (lv_at hl 0 rfl) ?_
  refine lv_sipush (v := 160) hx hb dX5_init_160 (by decide) ?_
  refine va_newa (atype := .int) (a0 := (160, .inl (fun _ => 0))) hx hb ha_int rfl hK hP hD hS hA (N' := 160) (fun cA => ki_zi cA 160) (by decide) (by decide) (Nat.le_of_ble_eq_true rfl) (Nat.le_of_ble_eq_true rfl) (Nat.le_of_ble_eq_true rfl) dX5_init_163 (fun q_35 cA_36 H hK hP hD hS => ?_)
  obtain rfl : cyI = cA_36 := (ki_cA hK 0 1 rfl rfl).symm
  have hK : va_K (dC, dI) vwCl [(cyI, .int)] s := hK.sub [0] rfl
  refine W.widen (k := 18) (n := 10816) (Nat.le_of_ble_eq_true rfl) (Nat.le_of_ble_eq_true rfl) ?_
  obtain ⟨hP, hD⟩ := kx_re (w2 := [(h0, .inr (5, [.ref q_1, .int 0, .int 2, .int 0, .ref q_3, .ref q_5, .ref q_7, .ref q_9, .ref q_11, .ref q_13, .ref q_15, .int 0, .ref q_17, .ref q_19, .int 0, .ref q_21, .int 0, .ref q_23, .ref q_25, .ref q_27, .ref q_29, .ref q_31, .int 0, .ref q_33, .null, .int 0, .null, .null, .null, .int 0])), kx_a q_1 cyI 160 (fun _ => 0), kx_a q_3 cyI 324 (fun _ => 0), kx_a q_5 cyI 324 (fun _ => 0), kx_a q_7 cyI 324 (fun _ => 0), kx_a q_9 cyI 1944 (fun _ => 0), kx_a q_11 cyI 1944 (fun _ => 0), kx_a q_13 cyI 12 (fun _ => 0), kx_a q_15 cyI 12 (fun _ => 0), kx_a q_17 cyI 320 (fun _ => 0), kx_a q_19 cyI 320 (fun _ => 0), kx_a q_21 cyI 320 (fun _ => 0), kx_a q_23 cyI 320 (fun _ => 0), kx_a q_25 cyI 320 (fun _ => 0), kx_a q_27 cyI 1920 (fun _ => 0), kx_a q_29 cyI 1920 (fun _ => 0), kx_a q_31 cyI 12 (fun _ => 0), kx_a q_33 cyI 160 (fun _ => 0), kx_a q_35 cyI 160 (fun _ => 0)]) hP hD rfl
  refine va_putF (D := (dC, dI)) (ci := 5) (v := .ref q_35) (ty := .array .int) (C := RX5) (T := TX5) (N := 30) hx hb hts hi_5 tyX5 tyX5_ok nmX5 hown hK hP hD hS 0 rfl rfl 24 (by decide) hf_65 (fun _ h9 => h9) rfl hin rfl (by decide +kernel) rfl rfl (Nat.le_of_ble_eq_true rfl) dX5_init_165 (fun H locs hP hD hS => ?_)
  obtain ⟨hP, hD⟩ := kx_re (w2 := [(h0, .inr (5, [.ref q_1, .int 0, .int 2, .int 0, .ref q_3, .ref q_5, .ref q_7, .ref q_9, .ref q_11, .ref q_13, .ref q_15, .int 0, .ref q_17, .ref q_19, .int 0, .ref q_21, .int 0, .ref q_23, .ref q_25, .ref q_27, .ref q_29, .ref q_31, .int 0, .ref q_33, .ref q_35, .int 0, .null, .null, .null, .int 0])), kx_a q_1 cyI 160 (fun _ => 0), kx_a q_3 cyI 324 (fun _ => 0), kx_a q_5 cyI 324 (fun _ => 0), kx_a q_7 cyI 324 (fun _ => 0), kx_a q_9 cyI 1944 (fun _ => 0), kx_a q_11 cyI 1944 (fun _ => 0), kx_a q_13 cyI 12 (fun _ => 0), kx_a q_15 cyI 12 (fun _ => 0), kx_a q_17 cyI 320 (fun _ => 0), kx_a q_19 cyI 320 (fun _ => 0), kx_a q_21 cyI 320 (fun _ => 0), kx_a q_23 cyI 320 (fun _ => 0), kx_a q_25 cyI 320 (fun _ => 0), kx_a q_27 cyI 1920 (fun _ => 0), kx_a q_29 cyI 1920 (fun _ => 0), kx_a q_31 cyI 12 (fun _ => 0), kx_a q_33 cyI 160 (fun _ => 0), kx_a q_35 cyI 160 (fun _ => 0)]) hP hD rfl
  refine lv_aload_n hx hb dX5_init_168 rfl (lv_at hl 0 rfl) ?_
  refine lv_sipush (v := 161) hx hb dX5_init_169 (by decide) ?_
  refine va_newa (atype := .int) (a0 := (161, .inl (fun _ => 0))) hx hb ha_int rfl hK hP hD hS hA (N' := 161) (fun cA => ki_zi cA 161) (by decide) (by decide) (Nat.le_of_ble_eq_true rfl) (Nat.le_of_ble_eq_true rfl) (Nat.le_of_ble_eq_true rfl) dX5_init_172 (fun q_37 cA_38 H hK hP hD hS => ?_)
  obtain rfl : cyI = cA_38 := (ki_cA hK 0 1 rfl rfl).symm
  have hK : va_K (dC, dI) vwCl [(cyI, .int)] s := hK.sub [0] rfl
  refine W.widen (k := 19) (n := 10977) (Nat.le_of_ble_eq_true rfl) (Nat.le_of_ble_eq_true rfl) ?_
  obtain ⟨hP, hD⟩ := kx_re (w2 := [(h0, .inr (5, [.ref q_1, .int 0, .int 2, .int 0, .ref q_3, .ref q_5, .ref q_7, .ref q_9, .ref q_11, .ref q_13, .ref q_15, .int 0, .ref q_17, .ref q_19, .int 0, .ref q_21, .int 0, .ref q_23, .ref q_25, .ref q_27, .ref q_29, .ref q_31, .int 0, .ref q_33, .ref q_35, .int 0, .null, .null, .null, .int 0])), kx_a q_1 cyI 160 (fun _ => 0), kx_a q_3 cyI 324 (fun _ => 0), kx_a q_5 cyI 324 (fun _ => 0), kx_a q_7 cyI 324 (fun _ => 0), kx_a q_9 cyI 1944 (fun _ => 0), kx_a q_11 cyI 1944 (fun _ => 0), kx_a q_13 cyI 12 (fun _ => 0), kx_a q_15 cyI 12 (fun _ => 0), kx_a q_17 cyI 320 (fun _ => 0), kx_a q_19 cyI 320 (fun _ => 0), kx_a q_21 cyI 320 (fun _ => 0), kx_a q_23 cyI 320 (fun _ => 0), kx_a q_25 cyI 320 (fun _ => 0), kx_a q_27 cyI 1920 (fun _ => 0), kx_a q_29 cyI 1920 (fun _ => 0), kx_a q_31 cyI 12 (fun _ => 0), kx_a q_33 cyI 160 (fun _ => 0), kx_a q_35 cyI 160 (fun _ => 0), kx_a q_37 cyI 161 (fun _ => 0)]) hP hD rfl
  refine va_putF (D := (dC, dI)) (ci := 5) (v := .ref q_37) (ty := .array .int) (C := RX5) (T := TX5) (N := 30) hx hb hts hi_5 tyX5 tyX5_ok nmX5 hown hK hP hD hS 0 rfl rfl 26 (by decide) hf_68 (fun _ h9 => h9) rfl hin rfl (by decide +kernel) rfl rfl (Nat.le_of_ble_eq_true rfl) dX5_init_174 (fun H locs hP hD hS => ?_)
  obtain ⟨hP, hD⟩ := kx_re (w2 := [(h0, .inr (5, [.ref q_1, .int 0, .int 2, .int 0, .ref q_3, .ref q_5, .ref q_7, .ref q_9, .ref q_11, .ref q_13, .ref q_15, .int 0, .ref q_17, .ref q_19, .int 0, .ref q_21, .int 0, .ref q_23, .ref q_25, .ref q_27, .ref q_29, .ref q_31, .int 0, .ref q_33, .ref q_35, .int 0, .ref q_37, .null, .null, .int 0])), kx_a q_1 cyI 160 (fun _ => 0), kx_a q_3 cyI 324 (fun _ => 0), kx_a q_5 cyI 324 (fun _ => 0), kx_a q_7 cyI 324 (fun _ => 0), kx_a q_9 cyI 1944 (fun _ => 0), kx_a q_11 cyI 1944 (fun _ => 0), kx_a q_13 cyI 12 (fun _ => 0), kx_a q_15 cyI 12 (fun _ => 0), kx_a q_17 cyI 320 (fun _ => 0), kx_a q_19 cyI 320 (fun _ => 0), kx_a q_21 cyI 320 (fun _ => 0), kx_a q_23 cyI 320 (fun _ => 0), kx_a q_25 cyI 320 (fun _ => 0), kx_a q_27 cyI 1920 (fun _ => 0), kx_a q_29 cyI 1920 (fun _ => 0), kx_a q_31 cyI 12 (fun _ => 0), kx_a q_33 cyI 160 (fun _ => 0), kx_a q_35 cyI 160 (fun _ => 0), kx_a q_37 cyI 161 (fun _ => 0)]) hP hD rfl
  refine lv_aload_n hx hb dX5_init_177 rfl (lv_at hl 0 rfl) ?_
  refine lv_sipush (v := 160) hx hb dX5_init_178 (by decide) ?_
  refine va_newa (atype := .int) (a0 := (160, .inl (fun _ => 0))) hx hb ha_int rfl hK hP hD hS hA (N' := 160) (fun cA => ki_zi cA 160) (by decide) (by decide) (Nat.le_of_ble_eq_true rfl) (Nat.le_of_ble_eq_true rfl) (Nat.le_of_ble_eq_true rfl) dX5_init_181 (fun q_39 cA_40 H hK hP hD hS => ?_)
  obtain rfl : cyI = cA_40 := (ki_cA hK 0 1 rfl rfl).symm
  have hK : va_K (dC, dI) vwCl [(cyI, .int)] s := hK.sub [0] rfl
  refine W.widen (k := 20) (n := 11137) (Nat.le_of_ble_eq_true rfl) (Nat.le_of_ble_eq_true rfl) ?_
  obtain ⟨hP, hD⟩ := kx_re (w2 := [(h0, .inr (5, [.ref q_1, .int 0, .int 2, .int 0, .ref q_3, .ref q_5, .ref q_7, .ref q_9, .ref q_11, .ref q_13, .ref q_15, .int 0, .ref q_17, .ref q_19, .int 0, .ref q_21, .int 0, .ref q_23, .ref q_25, .ref q_27, .ref q_29, .ref q_31, .int 0, .ref q_33, .ref q_35, .int 0, .ref q_37, .null, .null, .int 0])), kx_a q_1 cyI 160 (fun _ => 0), kx_a q_3 cyI 324 (fun _ => 0), kx_a q_5 cyI 324 (fun _ => 0), kx_a q_7 cyI 324 (fun _ => 0), kx_a q_9 cyI 1944 (fun _ => 0), kx_a q_11 cyI 1944 (fun _ => 0), kx_a q_13 cyI 12 (fun _ => 0), kx_a q_15 cyI 12 (fun _ => 0), kx_a q_17 cyI 320 (fun _ => 0), kx_a q_19 cyI 320 (fun _ => 0), kx_a q_21 cyI 320 (fun _ => 0), kx_a q_23 cyI 320 (fun _ => 0), kx_a q_25 cyI 320 (fun _ => 0), kx_a q_27 cyI 1920 (fun _ => 0), kx_a q_29 cyI 1920 (fun _ => 0), kx_a q_31 cyI 12 (fun _ => 0), kx_a q_33 cyI 160 (fun _ => 0), kx_a q_35 cyI 160 (fun _ => 0), kx_a q_37 cyI 161 (fun _ => 0), kx_a q_39 cyI 160 (fun _ => 0)]) hP hD rfl
  refine va_putF (D := (dC, dI)) (ci := 5) (v := .ref q_39) (ty := .array .int) (C := RX5) (T := TX5) (N := 30) hx hb hts hi_5 tyX5 tyX5_ok nmX5 hown hK hP hD hS 0 rfl rfl 27 (by decide) hf_71 (fun _ h9 => h9) rfl hin rfl (by decide +kernel) rfl rfl (Nat.le_of_ble_eq_true rfl) dX5_init_183 (fun H locs hP hD hS => ?_)
  obtain ⟨hP, hD⟩ := kx_re (w2 := [(h0, .inr (5, [.ref q_1, .int 0, .int 2, .int 0, .ref q_3, .ref q_5, .ref q_7, .ref q_9, .ref q_11, .ref q_13, .ref q_15, .int 0, .ref q_17, .ref q_19, .int 0, .ref q_21, .int 0, .ref q_23, .ref q_25, .ref q_27, .ref q_29, .ref q_31, .int 0, .ref q_33, .ref q_35, .int 0, .ref q_37, .ref q_39, .null, .int 0])), kx_a q_1 cyI 160 (fun _ => 0), kx_a q_3 cyI 324 (fun _ => 0), kx_a q_5 cyI 324 (fun _ => 0), kx_a q_7 cyI 324 (fun _ => 0), kx_a q_9 cyI 1944 (fun _ => 0), kx_a q_11 cyI 1944 (fun _ => 0), kx_a q_13 cyI 12 (fun _ => 0), kx_a q_15 cyI 12 (fun _ => 0), kx_a q_17 cyI 320 (fun _ => 0), kx_a q_19 cyI 320 (fun _ => 0), kx_a q_21 cyI 320 (fun _ => 0), kx_a q_23 cyI 320 (fun _ => 0), kx_a q_25 cyI 320 (fun _ => 0), kx_a q_27 cyI 1920 (fun _ => 0), kx_a q_29 cyI 1920 (fun _ => 0), kx_a q_31 cyI 12 (fun _ => 0), kx_a q_33 cyI 160 (fun _ => 0), kx_a q_35 cyI 160 (fun _ => 0), kx_a q_37 cyI 161 (fun _ => 0), kx_a q_39 cyI 160 (fun _ => 0)]) hP hD rfl
  refine lv_aload_n hx hb dX5_init_186 rfl (lv_at hl 0 rfl) ?_
  refine lv_sipush (v := 160) hx hb dX5_init_187 (by decide) ?_
  refine va_newa (atype := .int) (a0 := (160, .inl (fun _ => 0))) hx hb ha_int rfl hK hP hD hS hA (N' := 160) (fun cA => ki_zi cA 160) (by decide) (by decide) (Nat.le_of_ble_eq_true rfl) (Nat.le_of_ble_eq_true rfl) (Nat.le_of_ble_eq_true rfl) dX5_init_190 (fun q_41 cA_42 H hK hP hD hS => ?_)
  obtain rfl : cyI = cA_42 := (ki_cA hK 0 1 rfl rfl).symm
  have hK : va_K (dC, dI) vwCl [(cyI, .int)] s := hK.sub [0] rfl
  refine W.widen (k := 21) (n := 11297) (Nat.le_of_ble_eq_true rfl) (Nat.le_of_ble_eq_true rfl) ?_
  obtain ⟨hP, hD⟩ := kx_re (w2 := [(h0, .inr (5, [.ref q_1, .int 0, .int 2, .int 0, .ref q_3, .ref q_5, .ref q_7, .ref q_9, .ref q_11, .ref q_13, .ref q_15, .int 0, .ref q_17, .ref q_19, .int 0, .ref q_21, .int 0, .ref q_23, .ref q_25, .ref q_27, .ref q_29, .ref q_31, .int 0, .ref q_33, .ref q_35, .int 0, .ref q_37, .ref q_39, .null, .int 0])), kx_a q_1 cyI 160 (fun _ => 0), kx_a q_3 cyI 324 (fun _ => 0), kx_a q_5 cyI 324 (fun _ => 0), kx_a q_7 cyI 324 (fun _ => 0), kx_a q_9 cyI 1944 (fun _ => 0), kx_a q_11 cyI 1944 (fun _ => 0), kx_a q_13 cyI 12 (fun _ => 0), kx_a q_15 cyI 12 (fun _ => 0), kx_a q_17 cyI 320 (fun _ => 0), kx_a q_19 cyI 320 (fun _ => 0), kx_a q_21 cyI 320 (fun _ => 0), kx_a q_23 cyI 320 (fun _ => 0), kx_a q_25 cyI 320 (fun _ => 0), kx_a q_27 cyI 1920 (fun _ => 0), kx_a q_29 cyI 1920 (fun _ => 0), kx_a q_31 cyI 12 (fun _ => 0), kx_a q_33 cyI 160 (fun _ => 0), kx_a q_35 cyI 160 (fun _ => 0), kx_a q_37 cyI 161 (fun _ => 0), kx_a q_39 cyI 160 (fun _ => 0), kx_a q_41 cyI 160 (fun _ => 0)]) hP hD rfl
  refine va_putF (D := (dC, dI)) (ci := 5) (v := .ref q_41) (ty := .array .int) (C := RX5) (T := TX5) (N := 30) hx hb hts hi_5 tyX5 tyX5_ok nmX5 hown hK hP hD hS 0 rfl rfl 28 (by decide) hf_74 (fun _ h9 => h9) rfl hin rfl (by decide +kernel) rfl rfl (Nat.le_of_ble_eq_true rfl) dX5_init_192 (fun H locs hP hD hS => ?_)
  obtain ⟨hP, hD⟩ := kx_re (w2 := [kx_5 h0 q_1 0 2 0 q_3 q_5 q_7 q_9 q_11 q_13 q_15 0 q_17 q_19 0 q_21 0 q_23 q_25 q_27 q_29 q_31 0 q_33 q_35 0 q_37 q_39 q_41 0, kx_a q_1 cyI 160 (fun _ => 0), kx_a q_3 cyI 324 (fun _ => 0), kx_a q_5 cyI 324 (fun _ => 0), kx_a q_7 cyI 324 (fun _ => 0), kx_a q_9 cyI 1944 (fun _ => 0), kx_a q_11 cyI 1944 (fun _ => 0), kx_a q_13 cyI 12 (fun _ => 0), kx_a q_15 cyI 12 (fun _ => 0), kx_a q_17 cyI 320 (fun _ => 0), kx_a q_19 cyI 320 (fun _ => 0), kx_a q_21 cyI 320 (fun _ => 0), kx_a q_23 cyI 320 (fun _ => 0), kx_a q_25 cyI 320 (fun _ => 0), kx_a q_27 cyI 1920 (fun _ => 0), kx_a q_29 cyI 1920 (fun _ => 0), kx_a q_31 cyI 12 (fun _ => 0), kx_a q_33 cyI 160 (fun _ => 0), kx_a q_35 cyI 160 (fun _ => 0), kx_a q_37 cyI 161 (fun _ => 0), kx_a q_39 cyI 160 (fun _ => 0), kx_a q_41 cyI 160 (fun _ => 0)]) hP hD rfl
  have hP9 := hP
  have hD9 := hD
  have hK9 := hK
  exact W.vret hx hb hr (hlocks := hlocks) (fun t ht hW => ⟨⟨(), rfl, trivial, q_1, q_3, q_5, q_7, q_9, q_11, q_13, q_15, q_17, q_19, q_21, q_23, q_25, q_27, q_29, q_31, q_33, q_35, q_37, q_39, q_41, by rw [ht]; exact hP9, va_K.moved hW.alike hK9, hD9⟩, hS.F ht⟩) hS.2.2 dX5_init_195


