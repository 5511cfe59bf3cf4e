theorem shorts_shR {f : Nat → Int32} {n i : Nat} (h : shorts f) : shorts (shR f n i) := by
  intro k hk
  unfold shR
  split
  · exact h (k - 1) (by omega)
  · exact h k hk
theorem shorts_shL {f : Nat → Int32} {n i : Nat} (h : shorts f) (hi : i < 160) : shorts (shL f n i) := by
  intro k hk
  unfold shL
  split
  · exact h (k + 1) (by omega)
  · exact h k hk
set_option maxHeartbeats 4000000 in
set_option maxRecDepth 100000 in
theorem c_X4_isValue (l : Launch) (dC : Nat → ClassId) (dI : Nat → Nat → Nat) (p0 : Int32) : Met l yX4_isValue wsX4_isValue ({ frames := 0, cells := 0, slots := 0, locals := 0 }) (va_Pc [.int p0] (fun U => va_P (dC, dI) vwCl [] U.heap ∧ va_K (dC, dI) vwCl [] U)) (vp_Si (fun r : Int32 => (r = 1 ∧ (-32768 ≤ p0.toInt ∧ p0.toInt ≤ 32767)) ∨ (r = 0 ∧ (p0.toInt < -32768 ∨ 32767 < p0.toInt)))) 0 0 (fun _ => False) := by
  refine Met.ofW (cc := cX4_isValue) (maxL := 1) (ret := (some .boolean)) (by decide) rfl ?_
  intro p e s m args below meth c s₁ B hml hv
  obtain ⟨rfl, hP, hK⟩ := hv
  have hx := B.exec
  have hb := B.bytes
  have hr := B.returns
  have hts := atoms_spec (ws := wsX4_isValue) B.pre
  have hown : s.vm.findClass RX4 = some m.cls := findClass_of_methodNamed B.named
  have hlocks := B.notSynchronized
  have hP : va_P (dC, dI) vwCl [] s.heap := hP
  have hl := lv_entry ([.int p0]) (n := 1) (Nat.le_of_ble_eq_true rfl)
  rw [lg_entry_eq]
  generalize (lg_sl ([.int p0]) ++ List.replicate (1 - (lg_sl ([.int p0])).length) Slot.unset).toArray = ls at hl ⊢
  have hl : lv_has ls 1 [(0, .int p0)] := hl
  refine lv_iload_n hx hb dX4_isValue_0 rfl (lv_at hl 0 rfl) ?_
  refine lv_sipush (v := (-32768)) hx hb dX4_isValue_1 (by decide) ?_
  refine lv_icmp_lt (tgt := 18) hx hb dX4_isValue_4 (by decide) (fun c_1 => ?_) (fun c_1 => ?_)
  · have i_1 : p0.toInt < (-32768) := kc_lt c_1
    refine lv_iconst (v := 0) hx hb dX4_isValue_18 (by decide) ?_
    exact W.zret (v := 0) hx hb hr (by decide) (fun t ht hW => ⟨0, rfl, Or.inr (⟨rfl, by omega⟩), ht⟩) (fun q hq => by cases hq) dX4_isValue_19
  · have i_1 : (-32768) ≤ p0.toInt := kc_nlt c_1
    refine lv_iload_n hx hb dX4_isValue_7 rfl (lv_at hl 0 rfl) ?_
    refine lv_sipush (v := 32767) hx hb dX4_isValue_8 (by decide) ?_
    refine lv_icmp_gt (tgt := 18) hx hb dX4_isValue_11 (by decide) (fun c_2 => ?_) (fun c_2 => ?_)
    · have i_2 : 32767 < p0.toInt := kc_lt c_2
      refine lv_iconst (v := 0) hx hb dX4_isValue_18 (by decide) ?_
      exact W.zret (v := 0) hx hb hr (by decide) (fun t ht hW => ⟨0, rfl, Or.inr (⟨rfl, by omega⟩), ht⟩) (fun q hq => by cases hq) dX4_isValue_19
    · have i_2 : p0.toInt ≤ 32767 := kc_nlt c_2
      refine lv_iconst (v := 1) hx hb dX4_isValue_14 (by decide) ?_
      refine lv_goto (tgt := 19) hx hb dX4_isValue_15 (by decide) ?_
      exact W.zret (v := 1) hx hb hr (by decide) (fun t ht hW => ⟨1, rfl, Or.inl ⟨rfl, by omega⟩, ht⟩) (fun q hq => by cases hq) dX4_isValue_19

set_option maxHeartbeats 4000000 in
set_option maxRecDepth 100000 in
theorem c_X4_isShare (l : Launch) (dC : Nat → ClassId) (dI : Nat → Nat → Nat) (p0 : Int32) (p1 : Int32) : Met l yX4_isShare wsX4_isShare ({ frames := 0, cells := 0, slots := 0, locals := 0 }) (va_Pc [.int p0, .int p1] (fun U => va_P (dC, dI) vwCl [] U.heap ∧ va_K (dC, dI) vwCl [] U)) (vp_Si (fun r : Int32 => (r = 1 ∧ (1 ≤ p0.toInt ∧ p0.toInt ≤ p1.toInt ∧ p1.toInt ≤ 999)) ∨ (r = 0 ∧ (p0.toInt < 1 ∨ p1.toInt < p0.toInt ∨ 999 < p1.toInt)))) 0 0 (fun _ => False) := by
  refine Met.ofW (cc := cX4_isShare) (maxL := 2) (ret := (some .boolean)) (by decide) rfl ?_
  intro p e s m args below meth c s₁ B hml hv
  obtain ⟨rfl, hP, hK⟩ := hv
  have hx := B.exec
  have hb := B.bytes
  have hr := B.returns
  have hts := atoms_spec (ws := wsX4_isShare) B.pre
  have hown : s.vm.findClass RX4 = some m.cls := findClass_of_methodNamed B.named
  have hlocks := B.notSynchronized
  have hP : va_P (dC, dI) vwCl [] s.heap := hP
  have hl := lv_entry ([.int p0, .int p1]) (n := 2) (Nat.le_of_ble_eq_true rfl)
  rw [lg_entry_eq]
  generalize (lg_sl ([.int p0, .int p1]) ++ List.replicate (2 - (lg_sl ([.int p0, .int p1])).length) Slot.unset).toArray = ls at hl ⊢
  have hl : lv_has ls 2 [(0, .int p0), (1, .int p1)] := hl
  refine lv_iload_n hx hb dX4_isShare_0 rfl (lv_at hl 0 rfl) ?_
  refine lv_iconst (v := 1) hx hb dX4_isShare_1 (by decide) ?_
  refine lv_icmp_lt (tgt := 21) hx hb dX4_isShare_2 (by decide) (fun c_1 => ?_) (fun c_1 => ?_)
  · have i_1 : p0.toInt < 1 := kc_lt c_1
    refine lv_iconst (v := 0) hx hb dX4_isShare_21 (by decide) ?_
    exact W.zret (v := 0) hx hb hr (by decide) (fun t ht hW => ⟨0, rfl, Or.inr (⟨rfl, by omega⟩), ht⟩) (fun q hq => by cases hq) dX4_isShare_22
  · have i_1 : 1 ≤ p0.toInt := kc_nlt c_1
    refine lv_iload_n hx hb dX4_isShare_5 rfl (lv_at hl 1 rfl) ?_
    refine lv_iload_n hx hb dX4_isShare_6 rfl (lv_at hl 0 rfl) ?_
    refine lv_icmp_lt (tgt := 21) hx hb dX4_isShare_7 (by decide) (fun c_2 => ?_) (fun c_2 => ?_)
    · have i_2 : p1.toInt < p0.toInt := kc_lt c_2
      refine lv_iconst (v := 0) hx hb dX4_isShare_21 (by decide) ?_
      exact W.zret (v := 0) hx hb hr (by decide) (fun t ht hW => ⟨0, rfl, Or.inr (⟨rfl, by omega⟩), ht⟩) (fun q hq => by cases hq) dX4_isShare_22
    · have i_2 : p0.toInt ≤ p1.toInt := kc_nlt c_2
      refine lv_iload_n hx hb dX4_isShare_10 rfl (lv_at hl 1 rfl) ?_
      refine lv_sipush (v := 999) hx hb dX4_isShare_11 (by decide) ?_
      refine lv_icmp_gt (tgt := 21) hx hb dX4_isShare_14 (by decide) (fun c_3 => ?_) (fun c_3 => ?_)
      · have i_3 : 999 < p1.toInt := kc_lt c_3
        refine lv_iconst (v := 0) hx hb dX4_isShare_21 (by decide) ?_
        exact W.zret (v := 0) hx hb hr (by decide) (fun t ht hW => ⟨0, rfl, Or.inr (⟨rfl, by omega⟩), ht⟩) (fun q hq => by cases hq) dX4_isShare_22
      · have i_3 : p1.toInt ≤ 999 := kc_nlt c_3
        refine lv_iconst (v := 1) hx hb dX4_isShare_17 (by decide) ?_
        refine lv_goto (tgt := 22) hx hb dX4_isShare_18 (by decide) ?_
        exact W.zret (v := 1) hx hb hr (by decide) (fun t ht hW => ⟨1, rfl, Or.inl ⟨rfl, by omega⟩, ht⟩) (fun q hq => by cases hq) dX4_isShare_22

set_option maxHeartbeats 4000000 in
set_option maxRecDepth 100000 in
theorem c_X4_end (l : Launch) (dC : Nat → ClassId) (dI : Nat → Nat → Nat) (m_ : Nat) (q_row : Nat) (q_t : Nat) (t_ : Nat) (h0 : Nat) (k0 : Nat) (w_ : Nat) (z_ : Nat) (slots : Int32) (old : Int32) (q_cell : Nat) (len : Int32) (p0 : Int32) (sz : Nat) : Met l yX4_end wsX4_end ({ frames := 0, cells := 0, slots := 0, locals := 0 }) (va_Pc [.ref m_, .int p0] (fun U => U.heap.size = sz ∧ va_P (dC, dI) vwCl [kx_4 m_ q_row q_t t_ h0 k0 w_ z_ slots old, kx_0 q_row q_cell len] U.heap ∧ va_K (dC, dI) vwCl [] U ∧ va_D (fun _ => True) [kx_4 m_ q_row q_t t_ h0 k0 w_ z_ slots old, kx_0 q_row q_cell len])) (va_Qi (fun (r : Int32) (u : Int32 × Int32) => ((0 ≤ p0.toInt ∧ p0.toInt ≤ len.toInt ∧ r = p0 ∧ u.2 = p0 ∧ u.1 = 1) ∨ ((p0.toInt < 0 ∨ len.toInt < p0.toInt) ∧ r = -1 ∧ u.2 = len ∧ u.1 = old))) (fun (u : Int32 × Int32) (t : State) => va_P (dC, dI) vwCl [kx_4 m_ q_row q_t t_ h0 k0 w_ z_ slots u.1, kx_0 q_row q_cell u.2] t.heap ∧ va_K (dC, dI) vwCl [] t ∧ va_D (va_A [kx_4 m_ q_row q_t t_ h0 k0 w_ z_ slots old, kx_0 q_row q_cell len] sz) [kx_4 m_ q_row q_t t_ h0 k0 w_ z_ slots u.1, kx_0 q_row q_cell u.2]) (va_A [kx_4 m_ q_row q_t t_ h0 k0 w_ z_ slots old, kx_0 q_row q_cell len] sz)) 0 0 (va_A [kx_4 m_ q_row q_t t_ h0 k0 w_ z_ slots old, kx_0 q_row q_cell len] sz) := by
  refine Met.ofW (cc := cX4_end) (maxL := 2) (ret := (some .int)) (by decide) rfl ?_
  intro p e s m args below meth c s₁ B hml hv
  obtain ⟨rfl, hsz, hP, hK, hD0⟩ := hv
  have hx := B.exec
  have hb := B.bytes
  have hr := B.returns
  have hts := atoms_spec (ws := wsX4_end) B.pre
  have hown : s.vm.findClass RX4 = some m.cls := findClass_of_methodNamed B.named
  have hlocks := B.notSynchronized
  subst hsz
  have hD := hD0.self (sz := s.heap.size)
  generalize hAe : va_A [kx_4 m_ q_row q_t t_ h0 k0 w_ z_ slots old, kx_0 q_row q_cell len] s.heap.size = A at hD ⊢
  have hA : ∀ q : Nat, s.heap.size ≤ q → A q := fun q h => by rw [← hAe]; exact Or.inr h
  have hS : va_S A s.heap s.heap [] := va_S.rf
  have hP : va_P (dC, dI) vwCl [kx_4 m_ q_row q_t t_ h0 k0 w_ z_ slots old, kx_0 q_row q_cell len] s.heap := hP
  have hl := lv_entry ([.ref m_, .int p0]) (n := 2) (Nat.le_of_ble_eq_true rfl)
  rw [lg_entry_eq]
  generalize (lg_sl ([.ref m_, .int p0]) ++ List.replicate (2 - (lg_sl ([.ref m_, .int p0])).length) Slot.unset).toArray = ls at hl ⊢
  have hl : lv_has ls 2 [(0, .ref m_), (1, .int p0)] := hl
  have hf_12 := hts (.fieldLink RX4 12 "MajorityIndex" "row" "LMajorityIndex$Row;") (List.mem_of_getElem? (i := 1) rfl)
  have hi_4 : ∀ w ∈ u_ws RX4 TX4 9, w ∈ wsX4_end := fun w h => List.mem_cons_of_mem _ (List.mem_append_left _ (List.mem_append_right _ h))
  have hf_57 := hts (.fieldLink RX4 57 "MajorityIndex$Row" "length" "I") (List.mem_of_getElem? (i := 2) rfl)
  have hi_0 : ∀ w ∈ u_ws RX0 TX0 2, w ∈ wsX4_end := fun w h => List.mem_cons_of_mem _ (List.mem_append_right _ h)
  have hf_53 := hts (.fieldLink RX4 53 "MajorityIndex" "treeIsOld" "Z") (List.mem_of_getElem? (i := 3) rfl)
  refine lv_iload_n hx hb dX4_end_0 rfl (lv_at hl 1 rfl) ?_
  refine lv_if_lt (tgt := 15) hx hb dX4_end_1 (by decide) (fun c_1 => ?_) (fun c_1 => ?_)
  · have i_1 : p0.toInt < 0 := kc_lt c_1
    refine lv_iconst (v := (-1)) hx hb dX4_end_15 (by decide) ?_
    have hP9 := hP
    have hD9 := hD
    have hK9 := hK
    exact W.iret (v := (-1)) hx hb hr (fun t ht hW => ⟨⟨(-1), (old, len), rfl, Or.inr ⟨by omega, rfl, rfl, rfl⟩, by rw [ht]; exact hP9, va_K.moved hW.alike hK9, hD9⟩, hS.F ht⟩) hS.2.2 dX4_end_16
  · have i_1 : 0 ≤ p0.toInt := kc_nlt c_1
    refine lv_iload_n hx hb dX4_end_4 rfl (lv_at hl 1 rfl) ?_
    refine lv_aload_n hx hb dX4_end_5 rfl (lv_at hl 0 rfl) ?_
    refine va_get (D := (dC, dI)) (ci := 4) (v := .ref q_row) (C := RX4) (T := TX4) (N := 9) hx hb hts hi_4 hown hK hP 0 rfl rfl 0 (by decide) hf_12 (fun _ h9 => h9) rfl dX4_end_6 ?_
    refine va_get (D := (dC, dI)) (ci := 0) (v := .int len) (C := RX0) (T := TX0) (N := 2) hx hb hts hi_0 hown hK hP 1 rfl rfl 1 (by decide) hf_57 (fun _ h9 => h9) rfl dX4_end_9 ?_
    refine lv_icmp_le (tgt := 17) hx hb dX4_end_12 (by decide) (fun c_2 => ?_) (fun c_2 => ?_)
    · have i_2 : p0.toInt ≤ len.toInt := kc_le c_2
      refine lv_aload_n hx hb dX4_end_17 rfl (lv_at hl 0 rfl) ?_
      refine va_get (D := (dC, dI)) (ci := 4) (v := .ref q_row) (C := RX4) (T := TX4) (N := 9) hx hb hts hi_4 hown hK hP 0 rfl rfl 0 (by decide) hf_12 (fun _ h9 => h9) rfl dX4_end_18 ?_
      refine lv_iload_n hx hb dX4_end_21 rfl (lv_at hl 1 rfl) ?_
      refine va_put (D := (dC, dI)) (ci := 0) (v := .int p0) (ty := .int) (C := RX0) (T := TX0) (N := 2) hx hb hts hi_0 tyX0 tyX0_ok nmX0 hown hK hP hD hS 1 rfl rfl 1 (by decide) hf_57 (fun _ h9 => h9) rfl (by decide +kernel) rfl rfl (Nat.le_of_ble_eq_true rfl) dX4_end_22 (fun H locs hP hD hS => ?_)
      have hP : va_P (dC, dI) vwCl [kx_4 m_ q_row q_t t_ h0 k0 w_ z_ slots old, kx_0 q_row q_cell p0] H := hP
      have hD : va_D A [kx_4 m_ q_row q_t t_ h0 k0 w_ z_ slots old, kx_0 q_row q_cell p0] := hD
      refine lv_aload_n hx hb dX4_end_25 rfl (lv_at hl 0 rfl) ?_
      refine lv_iconst (v := 1) hx hb dX4_end_26 (by decide) ?_
      refine va_put (D := (dC, dI)) (ci := 4) (v := .int 1) (ty := .boolean) (C := RX4) (T := TX4) (N := 9) hx hb hts hi_4 tyX4 tyX4_ok nmX4 hown hK hP hD hS 0 rfl rfl 8 (by decide) hf_53 (fun _ h9 => h9) rfl (by decide +kernel) (by decide) (by decide) (Nat.le_of_ble_eq_true rfl) dX4_end_27 (fun H locs hP hD hS => ?_)
      have hP : va_P (dC, dI) vwCl [kx_4 m_ q_row q_t t_ h0 k0 w_ z_ slots 1, kx_0 q_row q_cell p0] H := hP
      have hD : va_D A [kx_4 m_ q_row q_t t_ h0 k0 w_ z_ slots 1, kx_0 q_row q_cell p0] := hD
      refine lv_iload_n hx hb dX4_end_30 rfl (lv_at hl 1 rfl) ?_
      have hP9 := hP
      have hD9 := hD
      have hK9 := hK
      exact W.iret (v := p0) hx hb hr (fun t ht hW => ⟨⟨p0, (1, p0), rfl, Or.inl ⟨by omega, by omega, rfl, rfl, rfl⟩, by rw [ht]; exact hP9, va_K.moved hW.alike hK9, hD9⟩, hS.F ht⟩) hS.2.2 dX4_end_31
    · have i_2 : len.toInt < p0.toInt := kc_nle c_2
      refine lv_iconst (v := (-1)) hx hb dX4_end_15 (by decide) ?_
      have hP9 := hP
      have hD9 := hD
      have hK9 := hK
      exact W.iret (v := (-1)) hx hb hr (fun t ht hW => ⟨⟨(-1), (old, len), rfl, Or.inr ⟨by omega, rfl, rfl, rfl⟩, by rw [ht]; exact hP9, va_K.moved hW.alike hK9, hD9⟩, hS.F ht⟩) hS.2.2 dX4_end_16

set_option maxHeartbeats 4000000 in
set_option maxRecDepth 100000 in
theorem c_X4_slots (l : Launch) (dC : Nat → ClassId) (dI : Nat → Nat → Nat) (m_ : Nat) (q_row : Nat) (q_t : Nat) (t_ : Nat) (h0 : Nat) (k0 : Nat) (w_ : Nat) (z_ : Nat) (slots : Int32) (old : Int32) (p0 : Int32) (sz : Nat) : Met l yX4_slots wsX4_slots ({ frames := 0, cells := 0, slots := 0, locals := 0 }) (va_Pc [.ref m_, .int p0] (fun U => U.heap.size = sz ∧ va_P (dC, dI) vwCl [kx_4 m_ q_row q_t t_ h0 k0 w_ z_ slots old] U.heap ∧ va_K (dC, dI) vwCl [] U ∧ va_D (fun _ => True) [kx_4 m_ q_row q_t t_ h0 k0 w_ z_ slots old])) (va_Qi (fun (r : Int32) (u : Int32 × Int32) => ((1 ≤ p0.toInt ∧ p0.toInt ≤ 6 ∧ r = slots ∧ u.1 = p0 ∧ u.2 = 1) ∨ ((p0.toInt < 1 ∨ 6 < p0.toInt) ∧ r = -1 ∧ u.1 = slots ∧ u.2 = old))) (fun (u : Int32 × Int32) (t : State) => va_P (dC, dI) vwCl [kx_4 m_ q_row q_t t_ h0 k0 w_ z_ u.1 u.2] t.heap ∧ va_K (dC, dI) vwCl [] t ∧ va_D (va_A [kx_4 m_ q_row q_t t_ h0 k0 w_ z_ slots old] sz) [kx_4 m_ q_row q_t t_ h0 k0 w_ z_ u.1 u.2]) (va_A [kx_4 m_ q_row q_t t_ h0 k0 w_ z_ slots old] sz)) 0 0 (va_A [kx_4 m_ q_row q_t t_ h0 k0 w_ z_ slots old] sz) := by
  refine Met.ofW (cc := cX4_slots) (maxL := 3) (ret := (some .int)) (by decide) rfl ?_
  intro p e s m args below meth c s₁ B hml hv
  obtain ⟨rfl, hsz, hP, hK, hD0⟩ := hv
  have hx := B.exec
  have hb := B.bytes
  have hr := B.returns
  have hts := atoms_spec (ws := wsX4_slots) B.pre
  have hown : s.vm.findClass RX4 = some m.cls := findClass_of_methodNamed B.named
  have hlocks := B.notSynchronized
  subst hsz
  have hD := hD0.self (sz := s.heap.size)
  generalize hAe : va_A [kx_4 m_ q_row q_t t_ h0 k0 w_ z_ slots old] s.heap.size = A at hD ⊢
  have hA : ∀ q : Nat, s.heap.size ≤ q → A q := fun q h => by rw [← hAe]; exact Or.inr h
  have hS : va_S A s.heap s.heap [] := va_S.rf
  have hP : va_P (dC, dI) vwCl [kx_4 m_ q_row q_t t_ h0 k0 w_ z_ slots old] s.heap := hP
  have hl := lv_entry ([.ref m_, .int p0]) (n := 3) (Nat.le_of_ble_eq_true rfl)
  rw [lg_entry_eq]
  generalize (lg_sl ([.ref m_, .int p0]) ++ List.replicate (3 - (lg_sl ([.ref m_, .int p0])).length) Slot.unset).toArray = ls at hl ⊢
  have hl : lv_has ls 3 [(0, .ref m_), (1, .int p0)] := hl
  have hf_49 := hts (.fieldLink RX4 49 "MajorityIndex" "slotsNow" "I") (List.mem_of_getElem? (i := 1) rfl)
  have hi_4 : ∀ w ∈ u_ws RX4 TX4 9, w ∈ wsX4_slots := fun w h => List.mem_cons_of_mem _ (List.mem_append_right _ h)
  have hf_53 := hts (.fieldLink RX4 53 "MajorityIndex" "treeIsOld" "Z") (List.mem_of_getElem? (i := 2) rfl)
  refine lv_iload_n hx hb dX4_slots_0 rfl (lv_at hl 1 rfl) ?_
  refine lv_iconst (v := 1) hx hb dX4_slots_1 (by decide) ?_
  refine lv_icmp_lt (tgt := 11) hx hb dX4_slots_2 (by decide) (fun c_1 => ?_) (fun c_1 => ?_)
  · have i_1 : p0.toInt < 1 := kc_lt c_1
    refine lv_iconst (v := (-1)) hx hb dX4_slots_11 (by decide) ?_
    have hP9 := hP
    have hD9 := hD
    have hK9 := hK
    exact W.iret (v := (-1)) hx hb hr (fun t ht hW => ⟨⟨(-1), (slots, old), rfl, Or.inr ⟨by omega, rfl, rfl, rfl⟩, by rw [ht]; exact hP9, va_K.moved hW.alike hK9, hD9⟩, hS.F ht⟩) hS.2.2 dX4_slots_12
  · have i_1 : 1 ≤ p0.toInt := kc_nlt c_1
    refine lv_iload_n hx hb dX4_slots_5 rfl (lv_at hl 1 rfl) ?_
    refine lv_bipush (v := 6) hx hb dX4_slots_6 (by decide) ?_
    refine lv_icmp_le (tgt := 13) hx hb dX4_slots_8 (by decide) (fun c_2 => ?_) (fun c_2 => ?_)
    · have i_2 : p0.toInt ≤ 6 := kc_le c_2
      refine lv_aload_n hx hb dX4_slots_13 rfl (lv_at hl 0 rfl) ?_
      refine va_get (D := (dC, dI)) (ci := 4) (v := .int slots) (C := RX4) (T := TX4) (N := 9) hx hb hts hi_4 hown hK hP 0 rfl rfl 7 (by decide) hf_49 (fun _ h9 => h9) rfl dX4_slots_14 ?_
      refine lv_istore_n (lv' := [(2, .int slots), (0, .ref m_), (1, .int p0)]) hx hb dX4_slots_17 rfl hl (by decide) rfl (fun ls hl => ?_)
      refine lv_aload_n hx hb dX4_slots_18 rfl (lv_at hl 1 rfl) ?_
      refine lv_iload_n hx hb dX4_slots_19 rfl (lv_at hl 2 rfl) ?_
      refine va_put (D := (dC, dI)) (ci := 4) (v := .int p0) (ty := .int) (C := RX4) (T := TX4) (N := 9) hx hb hts hi_4 tyX4 tyX4_ok nmX4 hown hK hP hD hS 0 rfl rfl 7 (by decide) hf_49 (fun _ h9 => h9) rfl (by decide +kernel) rfl rfl (Nat.le_of_ble_eq_true rfl) dX4_slots_20 (fun H locs hP hD hS => ?_)
      have hP : va_P (dC, dI) vwCl [kx_4 m_ q_row q_t t_ h0 k0 w_ z_ p0 old] H := hP
      have hD : va_D A [kx_4 m_ q_row q_t t_ h0 k0 w_ z_ p0 old] := hD
      refine lv_aload_n hx hb dX4_slots_23 rfl (lv_at hl 1 rfl) ?_
      refine lv_iconst (v := 1) hx hb dX4_slots_24 (by decide) ?_
      refine va_put (D := (dC, dI)) (ci := 4) (v := .int 1) (ty := .boolean) (C := RX4) (T := TX4) (N := 9) hx hb hts hi_4 tyX4 tyX4_ok nmX4 hown hK hP hD hS 0 rfl rfl 8 (by decide) hf_53 (fun _ h9 => h9) rfl (by decide +kernel) (by decide) (by decide) (Nat.le_of_ble_eq_true rfl) dX4_slots_25 (fun H locs hP hD hS => ?_)
      have hP : va_P (dC, dI) vwCl [kx_4 m_ q_row q_t t_ h0 k0 w_ z_ p0 1] H := hP
      have hD : va_D A [kx_4 m_ q_row q_t t_ h0 k0 w_ z_ p0 1] := hD
      refine lv_iload_n hx hb dX4_slots_28 rfl (lv_at hl 0 rfl) ?_
      have hP9 := hP
      have hD9 := hD
      have hK9 := hK
      exact W.iret (v := slots) hx hb hr (fun t ht hW => ⟨⟨slots, (p0, 1), rfl, Or.inl ⟨by omega, by omega, rfl, rfl, rfl⟩, by rw [ht]; exact hP9, va_K.moved hW.alike hK9, hD9⟩, hS.F ht⟩) hS.2.2 dX4_slots_29
    · have i_2 : 6 < p0.toInt := kc_nle c_2
      refine lv_iconst (v := (-1)) hx hb dX4_slots_11 (by decide) ?_
      have hP9 := hP
      have hD9 := hD
      have hK9 := hK
      exact W.iret (v := (-1)) hx hb hr (fun t ht hW => ⟨⟨(-1), (slots, old), rfl, Or.inr ⟨by omega, rfl, rfl, rfl⟩, by rw [ht]; exact hP9, va_K.moved hW.alike hK9, hD9⟩, hS.F ht⟩) hS.2.2 dX4_slots_12

set_option maxHeartbeats 4000000 in
set_option maxRecDepth 100000 in
theorem c_X4_insert (l : Launch) (dC : Nat → ClassId) (dI : Nat → Nat → Nat) (m_ : Nat) (q_row : Nat) (q_t : Nat) (t_ : Nat) (h0 : Nat) (k0 : Nat) (w_ : Nat) (z_ : Nat) (slots : Int32) (old : Int32) (q_cell : Nat) (cyI : ClassId) (len : Int32) (f : Nat → Int32) (p0 : Int32) (p1 : Int32) (sz : Nat) (a0 : 0 ≤ len.toInt) (a1 : len.toInt ≤ 160) (s1 : shorts f) : Met l yX4_insert wsX4_insert ({ frames := 1, cells := 0, slots := 0, locals := 45 }) (va_Pc [.ref m_, .int p0, .int p1] (fun U => U.heap.size = sz ∧ va_P (dC, dI) vwCl [kx_4 m_ q_row q_t t_ h0 k0 w_ z_ slots old, kx_0 q_row q_cell len, kx_a q_cell cyI 160 f] U.heap ∧ va_K (dC, dI) vwCl [(cyI, .int)] U ∧ va_D (fun _ => True) [kx_4 m_ q_row q_t t_ h0 k0 w_ z_ slots old, kx_0 q_row q_cell len, kx_a q_cell cyI 160 f])) (va_Qi (fun (r : Int32) (u : Int32 × Int32 × (Nat → Int32)) => ((0 ≤ p0.toInt ∧ p0.toInt ≤ len.toInt ∧ -32768 ≤ p1.toInt ∧ p1.toInt ≤ 32767 ∧ len.toInt < 160 ∧ r = u.2.1 ∧ u.2.1.toInt = len.toInt + 1 ∧ u.1 = 1 ∧ u.2.2 = upd (shR f len.toNatClampNeg p0.toNatClampNeg) p0.toNatClampNeg p1) ∨ ((p0.toInt < 0 ∨ len.toInt < p0.toInt ∨ p1.toInt < -32768 ∨ 32767 < p1.toInt ∨ 160 ≤ len.toInt) ∧ r = -1 ∧ u.2.1 = len ∧ u.1 = old ∧ u.2.2 = f)) ∧ shorts u.2.2) (fun (u : Int32 × Int32 × (Nat → Int32)) (t : State) => va_P (dC, dI) vwCl [kx_4 m_ q_row q_t t_ h0 k0 w_ z_ slots u.1, kx_0 q_row q_cell u.2.1, kx_a q_cell cyI 160 u.2.2] t.heap ∧ va_K (dC, dI) vwCl [(cyI, .int)] t ∧ va_D (va_A [kx_4 m_ q_row q_t t_ h0 k0 w_ z_ slots old, kx_0 q_row q_cell len, kx_a q_cell cyI 160 f] sz) [kx_4 m_ q_row q_t t_ h0 k0 w_ z_ slots u.1, kx_0 q_row q_cell u.2.1, kx_a q_cell cyI 160 u.2.2]) (va_A [kx_4 m_ q_row q_t t_ h0 k0 w_ z_ slots old, kx_0 q_row q_cell len, kx_a q_cell cyI 160 f] sz)) 0 0 (va_A [kx_4 m_ q_row q_t t_ h0 k0 w_ z_ slots old, kx_0 q_row q_cell len, kx_a q_cell cyI 160 f] sz) := by
  refine Met.ofW (cc := cX4_insert) (maxL := 3) (ret := (some .int)) (by decide) rfl ?_
  intro p e s m args below meth c s₁ B hml hv
  obtain ⟨rfl, hsz, hP, hK, hD0⟩ := hv
  have hx := B.exec
  have hb := B.bytes
  have hr := B.returns
  have hts := atoms_spec (ws := wsX4_insert) B.pre
  have hown : s.vm.findClass RX4 = some m.cls := findClass_of_methodNamed B.named
  have hlocks := B.notSynchronized
  subst hsz
  have hD := hD0.self (sz := s.heap.size)
  generalize hAe : va_A [kx_4 m_ q_row q_t t_ h0 k0 w_ z_ slots old, kx_0 q_row q_cell len, kx_a q_cell cyI 160 f] s.heap.size = A at hD ⊢
  have hA : ∀ q : Nat, s.heap.size ≤ q → A q := fun q h => by rw [← hAe]; exact Or.inr h
  have hS : va_S A s.heap s.heap [] := va_S.rf
  have hP : va_P (dC, dI) vwCl [kx_4 m_ q_row q_t t_ h0 k0 w_ z_ slots old, kx_0 q_row q_cell len, kx_a q_cell cyI 160 f] s.heap := hP
  have hl := lv_entry ([.ref m_, .int p0, .int p1]) (n := 3) (Nat.le_of_ble_eq_true rfl)
  rw [lg_entry_eq]
  generalize (lg_sl ([.ref m_, .int p0, .int p1]) ++ List.replicate (3 - (lg_sl ([.ref m_, .int p0, .int p1])).length) Slot.unset).toArray = ls at hl ⊢
  have hl : lv_has ls 3 [(0, .ref m_), (1, .int p0), (2, .int p1)] := hl
  have hf_12 := hts (.fieldLink RX4 12 "MajorityIndex" "row" "LMajorityIndex$Row;") (List.mem_of_getElem? (i := 1) rfl)
  have hi_4 : ∀ w ∈ u_ws RX4 TX4 9, w ∈ wsX4_insert := fun w h => List.mem_cons_of_mem _ (List.mem_append_left _ (List.mem_append_right _ h))
  have hf_57 := hts (.fieldLink RX4 57 "MajorityIndex$Row" "length" "I") (List.mem_of_getElem? (i := 2) rfl)
  have hi_0 : ∀ w ∈ u_ws RX0 TX0 2, w ∈ wsX4_insert := fun w h => List.mem_cons_of_mem _ (List.mem_append_right _ h)
  have hf_53 := hts (.fieldLink RX4 53 "MajorityIndex" "treeIsOld" "Z") (List.mem_of_getElem? (i := 3) rfl)
  refine lv_iload_n hx hb dX4_insert_0 rfl (lv_at hl 1 rfl) ?_
  refine lv_if_lt (tgt := 35) hx hb dX4_insert_1 (by decide) (fun c_1 => ?_) (fun c_1 => ?_)
  · have i_1 : p0.toInt < 0 := kc_lt c_1
    refine lv_iconst (v := (-1)) hx hb dX4_insert_35 (by decide) ?_
    have hP9 := hP
    have hD9 := hD
    have hK9 := hK
    exact W.iret (v := (-1)) hx hb hr (fun t ht hW => ⟨⟨(-1), (old, len, f), rfl, ⟨Or.inr ⟨by omega, rfl, rfl, rfl, rfl⟩, s1⟩, by rw [ht]; exact hP9, va_K.moved hW.alike hK9, hD9⟩, hS.F ht⟩) hS.2.2 dX4_insert_36
  · have i_1 : 0 ≤ p0.toInt := kc_nlt c_1
    refine lv_iload_n hx hb dX4_insert_4 rfl (lv_at hl 1 rfl) ?_
    refine lv_aload_n hx hb dX4_insert_5 rfl (lv_at hl 0 rfl) ?_
    refine va_get (D := (dC, dI)) (ci := 4) (v := .ref q_row) (C := RX4) (T := TX4) (N := 9) hx hb hts hi_4 hown hK hP 0 rfl rfl 0 (by decide) hf_12 (fun _ h9 => h9) rfl dX4_insert_6 ?_
    refine va_get (D := (dC, dI)) (ci := 0) (v := .int len) (C := RX0) (T := TX0) (N := 2) hx hb hts hi_0 hown hK hP 1 rfl rfl 1 (by decide) hf_57 (fun _ h9 => h9) rfl dX4_insert_9 ?_
    refine lv_icmp_gt (tgt := 35) hx hb dX4_insert_12 (by decide) (fun c_2 => ?_) (fun c_2 => ?_)
    · have i_2 : len.toInt < p0.toInt := kc_lt c_2
      refine lv_iconst (v := (-1)) hx hb dX4_insert_35 (by decide) ?_
      have hP9 := hP
      have hD9 := hD
      have hK9 := hK
      exact W.iret (v := (-1)) hx hb hr (fun t ht hW => ⟨⟨(-1), (old, len, f), rfl, ⟨Or.inr ⟨by omega, rfl, rfl, rfl, rfl⟩, s1⟩, by rw [ht]; exact hP9, va_K.moved hW.alike hK9, hD9⟩, hS.F ht⟩) hS.2.2 dX4_insert_36
    · have i_2 : p0.toInt ≤ len.toInt := kc_nlt c_2
      refine lv_iload_n hx hb dX4_insert_15 rfl (lv_at hl 2 rfl) ?_
      have hPc := hP.sub (ws' := []) [] rfl
      have hKc := hK.sub (tys' := []) [] rfl
      refine vp_callSi (W.runS (As := [.int p1]) (rest := []) ⟨hx, hb, hml, hown, hts⟩ (c_X4_isValue l dC dI p1) (va_cwS 1 hts gX4_insert_X4_isValue rfl rfl rfl (by decide +kernel) ⟨Nat.le_of_ble_eq_true rfl, Nat.le_of_ble_eq_true rfl⟩) ⟨fun a U g mk q => by obtain ⟨q0, qP, qK⟩ := q; exact ⟨q0, qP, va_K.moved (u := U) (U := U.calling g mk a) (Vm.Alike.refl U.vm) qK⟩, fun U hU hW => ⟨rfl, by rw [hU]; exact hPc, va_K.moved hW.alike hKc⟩⟩ rfl rfl hl.1 rfl (lv_room (Nat.le_of_ble_eq_true rfl)) dX4_insert_16 ⟨Nat.le_of_ble_eq_true rfl, Nat.le_of_ble_eq_true rfl⟩) (fun r_3 w_3 => ?_)
      rcases w_3 with ⟨rfl, w_3⟩ | ⟨rfl, w_3⟩
      · have w_3 : (-32768 ≤ p1.toInt ∧ p1.toInt ≤ 32767) := w_3
        refine lv_if_eq (tgt := 35) hx hb dX4_insert_19 (by decide) (fun c_4 => ?_) (fun c_4 => ?_)
        · exact absurd c_4 (by decide)
        · refine lv_aload_n hx hb dX4_insert_22 rfl (lv_at hl 0 rfl) ?_
          refine va_get (D := (dC, dI)) (ci := 4) (v := .ref q_row) (C := RX4) (T := TX4) (N := 9) hx hb hts hi_4 hown hK hP 0 rfl rfl 0 (by decide) hf_12 (fun _ h9 => h9) rfl dX4_insert_23 ?_
          refine va_get (D := (dC, dI)) (ci := 0) (v := .int len) (C := RX0) (T := TX0) (N := 2) hx hb hts hi_0 hown hK hP 1 rfl rfl 1 (by decide) hf_57 (fun _ h9 => h9) rfl dX4_insert_26 ?_
          refine lv_sipush (v := 160) hx hb dX4_insert_29 (by decide) ?_
          refine lv_icmp_lt (tgt := 37) hx hb dX4_insert_32 (by decide) (fun c_5 => ?_) (fun c_5 => ?_)
          · have i_5 : len.toInt < 160 := kc_lt c_5
            refine lv_aload_n hx hb dX4_insert_37 rfl (lv_at hl 0 rfl) ?_
            refine va_get (D := (dC, dI)) (ci := 4) (v := .ref q_row) (C := RX4) (T := TX4) (N := 9) hx hb hts hi_4 hown hK hP 0 rfl rfl 0 (by decide) hf_12 (fun _ h9 => h9) rfl dX4_insert_38 ?_
            refine lv_iload_n hx hb dX4_insert_41 rfl (lv_at hl 1 rfl) ?_
            refine lv_iload_n hx hb dX4_insert_42 rfl (lv_at hl 2 rfl) ?_
            have hPc := hP.sub (ws' := [kx_0 q_row q_cell len, kx_a q_cell cyI 160 f]) [1, 2] rfl
            have hKc := hK
            have hDc := hD.sub (ws' := [kx_0 q_row q_cell len, kx_a q_cell cyI 160 f]) [1, 2] (by decide) rfl
            have hFc := va_free (wc := [kx_0 q_row q_cell len, kx_a q_cell cyI 160 f]) hD hS hA [1, 2] rfl
            refine va_callv (va_runV (As := [.int p0, .int p1]) (rest := []) ⟨hx, hb, hml, hown, hts⟩ (c_X0_putIn l dC dI q_row q_cell cyI len f p0 p1 s.heap.size i_1 i_2 i_5) (cwV 2 hts gX4_insert_X0_putIn rfl rfl rfl (by decide +kernel) ⟨Nat.le_of_ble_eq_true rfl, Nat.le_of_ble_eq_true rfl⟩) ⟨fun a U g mk q => by obtain ⟨q0, q1, qP, qK, qD⟩ := q; exact ⟨q0, q1, qP, va_K.moved (u := U) (U := U.calling g mk a) (Vm.Alike.refl U.vm) qK, qD⟩, va_recv hKc hPc (ci := 0) (q0 := 0) rfl rfl, fun U hU hW => ⟨rfl, by rw [hU], by rw [hU]; exact hPc, va_K.moved hW.alike hKc, hDc.weaken (fun _ _ _ _ => trivial)⟩⟩ rfl rfl hl.1 rfl (lv_room (Nat.le_of_ble_eq_true rfl)) dX4_insert_43 ⟨Nat.le_of_ble_eq_true rfl, Nat.le_of_ble_eq_true rfl⟩) hS (fun q _ h => hFc q h) hFc (fun u t H1 locs ht hvm w_6 hB hz1 hk1 hS => ?_)
            obtain ⟨o_7, o_8⟩ := u
            dsimp only at w_6 hB
            obtain ⟨hP1, hK1, hD1⟩ := hB
            rw [ht] at hP1
            have hK1 := va_K.moved hvm.symm hK1
            obtain ⟨hP, hD⟩ := va_join (wr := [kx_4 m_ q_row q_t t_ h0 k0 w_ z_ slots old]) (w1 := [kx_0 q_row q_cell o_7, kx_a q_cell cyI 160 o_8]) hP hD [1, 2] [0] rfl rfl (by decide) (by decide) hk1 hFc hP1 hD1
            clear hP1 hD1 hK1 hk1 hz1 hFc hDc hPc hKc
            generalize H1 = H at hP hS ⊢
            have hP : va_P (dC, dI) vwCl [kx_4 m_ q_row q_t t_ h0 k0 w_ z_ slots old, kx_0 q_row q_cell o_7, kx_a q_cell cyI 160 o_8] H := hP
            have hD : va_D A [kx_4 m_ q_row q_t t_ h0 k0 w_ z_ slots old, kx_0 q_row q_cell o_7, kx_a q_cell cyI 160 o_8] := hD
            have w_6 : o_7.toInt = len.toInt + 1 ∧ o_8 = upd (shR f len.toNatClampNeg p0.toNatClampNeg) p0.toNatClampNeg p1 := w_6
            refine lv_aload_n hx hb dX4_insert_46 rfl (lv_at hl 0 rfl) ?_
            refine lv_iconst (v := 1) hx hb dX4_insert_47 (by decide) ?_
            refine va_put (D := (dC, dI)) (ci := 4) (v := .int 1) (ty := .boolean) (C := RX4) (T := TX4) (N := 9) hx hb hts hi_4 tyX4 tyX4_ok nmX4 hown hK hP hD hS 0 rfl rfl 8 (by decide) hf_53 (fun _ h9 => h9) rfl (by decide +kernel) (by decide) (by decide) (Nat.le_of_ble_eq_true rfl) dX4_insert_48 (fun H locs hP hD hS => ?_)
            have hP : va_P (dC, dI) vwCl [kx_4 m_ q_row q_t t_ h0 k0 w_ z_ slots 1, kx_0 q_row q_cell o_7, kx_a q_cell cyI 160 o_8] H := hP
            have hD : va_D A [kx_4 m_ q_row q_t t_ h0 k0 w_ z_ slots 1, kx_0 q_row q_cell o_7, kx_a q_cell cyI 160 o_8] := hD
            refine lv_aload_n hx hb dX4_insert_51 rfl (lv_at hl 0 rfl) ?_
            refine va_get (D := (dC, dI)) (ci := 4) (v := .ref q_row) (C := RX4) (T := TX4) (N := 9) hx hb hts hi_4 hown hK hP 0 rfl rfl 0 (by decide) hf_12 (fun _ h9 => h9) rfl dX4_insert_52 ?_
            refine va_get (D := (dC, dI)) (ci := 0) (v := .int o_7) (C := RX0) (T := TX0) (N := 2) hx hb hts hi_0 hown hK hP 1 rfl rfl 1 (by decide) hf_57 (fun _ h9 => h9) rfl dX4_insert_55 ?_
            have hP9 := hP
            have hD9 := hD
            have hK9 := hK
            exact W.iret (v := o_7) hx hb hr (fun t ht hW => ⟨⟨o_7, (1, o_7, o_8), rfl, ⟨Or.inl ⟨by omega, by omega, by omega, by omega, by omega, rfl, w_6.1, rfl, w_6.2⟩, (by (try dsimp only); rw [w_6.2]; exact shorts_upd (shorts_shR s1) (by omega) (by omega))⟩, by rw [ht]; exact hP9, va_K.moved hW.alike hK9, hD9⟩, hS.F ht⟩) hS.2.2 dX4_insert_58
          · have i_5 : 160 ≤ len.toInt := kc_nlt c_5
            refine lv_iconst (v := (-1)) hx hb dX4_insert_35 (by decide) ?_
            have hP9 := hP
            have hD9 := hD
            have hK9 := hK
            exact W.iret (v := (-1)) hx hb hr (fun t ht hW => ⟨⟨(-1), (old, len, f), rfl, ⟨Or.inr ⟨by omega, rfl, rfl, rfl, rfl⟩, s1⟩, by rw [ht]; exact hP9, va_K.moved hW.alike hK9, hD9⟩, hS.F ht⟩) hS.2.2 dX4_insert_36
      · have w_3 : (p1.toInt < -32768 ∨ 32767 < p1.toInt) := w_3
        refine lv_if_eq (tgt := 35) hx hb dX4_insert_19 (by decide) (fun c_9 => ?_) (fun c_9 => ?_)
        · refine lv_iconst (v := (-1)) hx hb dX4_insert_35 (by decide) ?_
          have hP9 := hP
          have hD9 := hD
          have hK9 := hK
          exact W.iret (v := (-1)) hx hb hr (fun t ht hW => ⟨⟨(-1), (old, len, f), rfl, ⟨Or.inr ⟨by omega, rfl, rfl, rfl, rfl⟩, s1⟩, by rw [ht]; exact hP9, va_K.moved hW.alike hK9, hD9⟩, hS.F ht⟩) hS.2.2 dX4_insert_36
        · exact absurd c_9 (by decide)

set_option maxHeartbeats 4000000 in
set_option maxRecDepth 100000 in
theorem c_X4_remove (l : Launch) (dC : Nat → ClassId) (dI : Nat → Nat → Nat) (m_ : Nat) (q_row : Nat) (q_t : Nat) (t_ : Nat) (h0 : Nat) (k0 : Nat) (w_ : Nat) (z_ : Nat) (slots : Int32) (old : Int32) (q_cell : Nat) (cyI : ClassId) (len : Int32) (f : Nat → Int32) (p0 : Int32) (sz : Nat) (a0 : 0 ≤ len.toInt) (a1 : len.toInt ≤ 160) (s1 : shorts f) : Met l yX4_remove wsX4_remove ({ frames := 2, cells := 0, slots := 0, locals := 90 }) (va_Pc [.ref m_, .int p0] (fun U => U.heap.size = sz ∧ va_P (dC, dI) vwCl [kx_4 m_ q_row q_t t_ h0 k0 w_ z_ slots old, kx_0 q_row q_cell len, kx_a q_cell cyI 160 f] U.heap ∧ va_K (dC, dI) vwCl [(cyI, .int)] U ∧ va_D (fun _ => True) [kx_4 m_ q_row q_t t_ h0 k0 w_ z_ slots old, kx_0 q_row q_cell len, kx_a q_cell cyI 160 f])) (va_Qi (fun (r : Int32) (u : Int32 × Int32 × (Nat → Int32)) => ((0 ≤ p0.toInt ∧ p0.toInt < len.toInt ∧ r = f p0.toNatClampNeg ∧ u.2.1.toInt = len.toInt - 1 ∧ u.1 = 1 ∧ u.2.2 = shL f p0.toNatClampNeg u.2.1.toNatClampNeg) ∨ ((p0.toInt < 0 ∨ len.toInt ≤ p0.toInt) ∧ r = -40000 ∧ u.2.1 = len ∧ u.1 = old ∧ u.2.2 = f)) ∧ shorts u.2.2) (fun (u : Int32 × Int32 × (Nat → Int32)) (t : State) => va_P (dC, dI) vwCl [kx_4 m_ q_row q_t t_ h0 k0 w_ z_ slots u.1, kx_0 q_row q_cell u.2.1, kx_a q_cell cyI 160 u.2.2] t.heap ∧ va_K (dC, dI) vwCl [(cyI, .int)] t ∧ va_D (va_A [kx_4 m_ q_row q_t t_ h0 k0 w_ z_ slots old, kx_0 q_row q_cell len, kx_a q_cell cyI 160 f] sz) [kx_4 m_ q_row q_t t_ h0 k0 w_ z_ slots u.1, kx_0 q_row q_cell u.2.1, kx_a q_cell cyI 160 u.2.2]) (va_A [kx_4 m_ q_row q_t t_ h0 k0 w_ z_ slots old, kx_0 q_row q_cell len, kx_a q_cell cyI 160 f] sz)) 0 0 (va_A [kx_4 m_ q_row q_t t_ h0 k0 w_ z_ slots old, kx_0 q_row q_cell len, kx_a q_cell cyI 160 f] sz) := by
  refine Met.ofW (cc := cX4_remove) (maxL := 3) (ret := (some .int)) (by decide) rfl ?_
  intro p e s m args below meth c s₁ B hml hv
  obtain ⟨rfl, hsz, hP, hK, hD0⟩ := hv
  have hx := B.exec
  have hb := B.bytes
  have hr := B.returns
  have hts := atoms_spec (ws := wsX4_remove) B.pre
  have hown : s.vm.findClass RX4 = some m.cls := findClass_of_methodNamed B.named
  have hlocks := B.notSynchronized
  subst hsz
  have hD := hD0.self (sz := s.heap.size)
  generalize hAe : va_A [kx_4 m_ q_row q_t t_ h0 k0 w_ z_ slots old, kx_0 q_row q_cell len, kx_a q_cell cyI 160 f] s.heap.size = A at hD ⊢
  have hA : ∀ q : Nat, s.heap.size ≤ q → A q := fun q h => by rw [← hAe]; exact Or.inr h
  have hS : va_S A s.heap s.heap [] := va_S.rf
  have hP : va_P (dC, dI) vwCl [kx_4 m_ q_row q_t t_ h0 k0 w_ z_ slots old, kx_0 q_row q_cell len, kx_a q_cell cyI 160 f] s.heap := hP
  have hl := lv_entry ([.ref m_, .int p0]) (n := 3) (Nat.le_of_ble_eq_true rfl)
  rw [lg_entry_eq]
  generalize (lg_sl ([.ref m_, .int p0]) ++ List.replicate (3 - (lg_sl ([.ref m_, .int p0])).length) Slot.unset).toArray = ls at hl ⊢
  have hl : lv_has ls 3 [(0, .ref m_), (1, .int p0)] := hl
  have hf_12 := hts (.fieldLink RX4 12 "MajorityIndex" "row" "LMajorityIndex$Row;") (List.mem_of_getElem? (i := 1) rfl)
  have hi_4 : ∀ w ∈ u_ws RX4 TX4 9, w ∈ wsX4_remove := fun w h => List.mem_cons_of_mem _ (List.mem_append_left _ (List.mem_append_right _ h))
  have hf_53 := hts (.fieldLink RX4 53 "MajorityIndex" "treeIsOld" "Z") (List.mem_of_getElem? (i := 3) rfl)
  have hk_102 := hts (.constant RX4 102 (-40000)) (List.mem_of_getElem? (i := 2) rfl)
  refine lv_aload_n hx hb dX4_remove_0 rfl (lv_at hl 0 rfl) ?_
  refine va_get (D := (dC, dI)) (ci := 4) (v := .ref q_row) (C := RX4) (T := TX4) (N := 9) hx hb hts hi_4 hown hK hP 0 rfl rfl 0 (by decide) hf_12 (fun _ h9 => h9) rfl dX4_remove_1 ?_
  refine lv_iload_n hx hb dX4_remove_4 rfl (lv_at hl 1 rfl) ?_
  have hPc := hP.sub (ws' := [kx_0 q_row q_cell len]) [1] rfl
  have hKc := hK.sub (tys' := []) [] rfl
  refine vp_callSi (W.runV (As := [.int p0]) (rest := []) ⟨hx, hb, hml, hown, hts⟩ (c_X0_hasPlace l dC dI q_row q_cell len p0) (cwV 1 hts gX4_remove_X0_hasPlace rfl rfl rfl (by decide +kernel) ⟨Nat.le_of_ble_eq_true rfl, Nat.le_of_ble_eq_true rfl⟩) ⟨fun a U g mk q => by obtain ⟨q0, qP, qK⟩ := q; exact ⟨q0, qP, va_K.moved (u := U) (U := U.calling g mk a) (Vm.Alike.refl U.vm) qK⟩, va_recv hKc hPc (ci := 0) (q0 := 0) rfl rfl, fun U hU hW => ⟨rfl, by rw [hU]; exact hPc, va_K.moved hW.alike hKc⟩⟩ rfl rfl hl.1 rfl (lv_room (Nat.le_of_ble_eq_true rfl)) dX4_remove_5 ⟨Nat.le_of_ble_eq_true rfl, Nat.le_of_ble_eq_true rfl⟩) (fun r_1 w_1 => ?_)
  rcases w_1 with ⟨rfl, w_1⟩ | ⟨rfl, w_1⟩
  · have w_1 : (0 ≤ p0.toInt ∧ p0.toInt < len.toInt) := w_1
    refine lv_if_ne (tgt := 14) hx hb dX4_remove_8 (by decide) (fun c_2 => ?_) (fun c_2 => ?_)
    · refine lv_aload_n hx hb dX4_remove_14 rfl (lv_at hl 0 rfl) ?_
      refine va_get (D := (dC, dI)) (ci := 4) (v := .ref q_row) (C := RX4) (T := TX4) (N := 9) hx hb hts hi_4 hown hK hP 0 rfl rfl 0 (by decide) hf_12 (fun _ h9 => h9) rfl dX4_remove_15 ?_
      refine lv_iload_n hx hb dX4_remove_18 rfl (lv_at hl 1 rfl) ?_
      have hPc := hP.sub (ws' := [kx_0 q_row q_cell len, kx_a q_cell cyI 160 f]) [1, 2] rfl
      have hKc := hK
      have hDc := hD.sub (ws' := [kx_0 q_row q_cell len, kx_a q_cell cyI 160 f]) [1, 2] (by decide) rfl
      have hFc := va_free (wc := [kx_0 q_row q_cell len, kx_a q_cell cyI 160 f]) hD hS hA [1, 2] rfl
      refine va_calli (va_runV (As := [.int p0]) (rest := []) ⟨hx, hb, hml, hown, hts⟩ (c_X0_takeOut l dC dI q_row q_cell cyI len f p0 s.heap.size (by omega) (by omega) a1) (cwV 1 hts gX4_remove_X0_takeOut rfl rfl rfl (by decide +kernel) ⟨Nat.le_of_ble_eq_true rfl, Nat.le_of_ble_eq_true rfl⟩) ⟨fun a U g mk q => by obtain ⟨q0, q1, qP, qK, qD⟩ := q; exact ⟨q0, q1, qP, va_K.moved (u := U) (U := U.calling g mk a) (Vm.Alike.refl U.vm) qK, qD⟩, va_recv hKc hPc (ci := 0) (q0 := 0) rfl rfl, fun U hU hW => ⟨rfl, by rw [hU], by rw [hU]; exact hPc, va_K.moved hW.alike hKc, hDc.weaken (fun _ _ _ _ => trivial)⟩⟩ rfl rfl hl.1 rfl (lv_room (Nat.le_of_ble_eq_true rfl)) dX4_remove_19 ⟨Nat.le_of_ble_eq_true rfl, Nat.le_of_ble_eq_true rfl⟩) hS (fun q _ h => hFc q h) hFc (fun r_3 u t H1 locs ht hvm w_3 hB hz1 hk1 hS => ?_)
      obtain ⟨o_4, o_5⟩ := u
      dsimp only at w_3 hB
      obtain ⟨hP1, hK1, hD1⟩ := hB
      rw [ht] at hP1
      have hK1 := va_K.moved hvm.symm hK1
      obtain ⟨hP, hD⟩ := va_join (wr := [kx_4 m_ q_row q_t t_ h0 k0 w_ z_ slots old]) (w1 := [kx_0 q_row q_cell o_4, kx_a q_cell cyI 160 o_5]) hP hD [1, 2] [0] rfl rfl (by decide) (by decide) hk1 hFc hP1 hD1
      clear hP1 hD1 hK1 hk1 hz1 hFc hDc hPc hKc
      generalize H1 = H at hP hS ⊢
      have hP : va_P (dC, dI) vwCl [kx_4 m_ q_row q_t t_ h0 k0 w_ z_ slots old, kx_0 q_row q_cell o_4, kx_a q_cell cyI 160 o_5] H := hP
      have hD : va_D A [kx_4 m_ q_row q_t t_ h0 k0 w_ z_ slots old, kx_0 q_row q_cell o_4, kx_a q_cell cyI 160 o_5] := hD
      have w_3 : o_4.toInt = len.toInt - 1 ∧ o_5 = shL f p0.toNatClampNeg o_4.toNatClampNeg ∧ r_3 = f p0.toNatClampNeg := w_3
      refine lv_istore_n (lv' := [(2, .int r_3), (0, .ref m_), (1, .int p0)]) hx hb dX4_remove_22 rfl hl (by decide) rfl (fun ls hl => ?_)
      refine lv_aload_n hx hb dX4_remove_23 rfl (lv_at hl 1 rfl) ?_
      refine lv_iconst (v := 1) hx hb dX4_remove_24 (by decide) ?_
      refine va_put (D := (dC, dI)) (ci := 4) (v := .int 1) (ty := .boolean) (C := RX4) (T := TX4) (N := 9) hx hb hts hi_4 tyX4 tyX4_ok nmX4 hown hK hP hD hS 0 rfl rfl 8 (by decide) hf_53 (fun _ h9 => h9) rfl (by decide +kernel) (by decide) (by decide) (Nat.le_of_ble_eq_true rfl) dX4_remove_25 (fun H locs hP hD hS => ?_)
      have hP : va_P (dC, dI) vwCl [kx_4 m_ q_row q_t t_ h0 k0 w_ z_ slots 1, kx_0 q_row q_cell o_4, kx_a q_cell cyI 160 o_5] H := hP
      have hD : va_D A [kx_4 m_ q_row q_t t_ h0 k0 w_ z_ slots 1, kx_0 q_row q_cell o_4, kx_a q_cell cyI 160 o_5] := hD
      refine lv_iload_n hx hb dX4_remove_28 rfl (lv_at hl 0 rfl) ?_
      have hP9 := hP
      have hD9 := hD
      have hK9 := hK
      have n_l := ki_nat o_4 rfl (by omega)
      exact W.iret (v := r_3) hx hb hr (fun t ht hW => ⟨⟨r_3, (1, o_4, o_5), rfl, ⟨Or.inl ⟨by omega, by omega, w_3.2.2, w_3.1, rfl, w_3.2.1⟩, (by (try dsimp only); rw [w_3.2.1]; exact shorts_shL s1 (by omega))⟩, by rw [ht]; exact hP9, va_K.moved hW.alike hK9, hD9⟩, hS.F ht⟩) hS.2.2 dX4_remove_29
    · exact absurd c_2 (by decide)
  · have w_1 : (p0.toInt < 0 ∨ len.toInt ≤ p0.toInt) := w_1
    refine lv_if_ne (tgt := 14) hx hb dX4_remove_8 (by decide) (fun c_6 => ?_) (fun c_6 => ?_)
    · exact absurd c_6 (by decide)
    · refine lv_ldc (v := (-40000)) hx hb hown hk_102 dX4_remove_11 ?_
      have hP9 := hP
      have hD9 := hD
      have hK9 := hK
      exact W.iret (v := (-40000)) hx hb hr (fun t ht hW => ⟨⟨(-40000), (old, len, f), rfl, ⟨Or.inr ⟨by omega, rfl, rfl, rfl, rfl⟩, s1⟩, by rw [ht]; exact hP9, va_K.moved hW.alike hK9, hD9⟩, hS.F ht⟩) hS.2.2 dX4_remove_13


