set_option maxHeartbeats 4000000 in
set_option maxRecDepth 100000 in
theorem c_X4_isHeavy (l : Launch) (dC : Nat → ClassId) (dI : Nat → Nat → Nat) (p0 : Int32) (p1 : Int32) (p2 : Int32) (p3 : Int32) : Met l yX4_isHeavy wsX4_isHeavy ({ frames := 0, cells := 0, slots := 0, locals := 0 }) (va_Pc [.int p0, .int p1, .int p2, .int p3] (fun U => va_P (dC, dI) vwCl [] U.heap ∧ va_K (dC, dI) vwCl [] U)) (vp_Si (fun r : Int32 => (r = 1 ∧ (0 : Int) ≤ 1) ∨ (r = 0 ∧ (0 : Int) ≤ 1))) 0 0 (fun _ => False) := by
  refine Met.ofW (cc := cX4_isHeavy) (maxL := 4) (ret := (some .boolean)) (by decide) rfl ?_
  intro p e s m args below meth c s₁ B hml hv
  obtain ⟨rfl, hP, hK⟩ := hv
  have hx := B.exec
  have hb := B.bytes
  have hr := B.returns
  have hts := atoms_spec (ws := wsX4_isHeavy) B.pre
  have hown : s.vm.findClass RX4 = some m.cls := findClass_of_methodNamed B.named
  have hlocks := B.notSynchronized
  have hP : va_P (dC, dI) vwCl [] s.heap := hP
  have hl := lv_entry ([.int p0, .int p1, .int p2, .int p3]) (n := 4) (Nat.le_of_ble_eq_true rfl)
  rw [lg_entry_eq]
  generalize (lg_sl ([.int p0, .int p1, .int p2, .int p3]) ++ List.replicate (4 - (lg_sl ([.int p0, .int p1, .int p2, .int p3])).length) Slot.unset).toArray = ls at hl ⊢
  have hl : lv_has ls 4 [(0, .int p0), (1, .int p1), (2, .int p2), (3, .int p3)] := hl
  refine lv_iload_n hx hb dX4_isHeavy_0 rfl (lv_at hl 0 rfl) ?_
  refine lv_iload_n hx hb dX4_isHeavy_1 rfl (lv_at hl 3 rfl) ?_
  refine lv_imul hx hb dX4_isHeavy_2 ?_
  refine lv_topi (fun y_1 ey_1 => ?_)
  refine lv_iload_n hx hb dX4_isHeavy_3 rfl (lv_at hl 2 rfl) ?_
  refine lv_iload_n hx hb dX4_isHeavy_4 rfl (lv_at hl 1 rfl) ?_
  refine lv_imul hx hb dX4_isHeavy_5 ?_
  refine lv_topi (fun y_2 ey_2 => ?_)
  refine lv_icmp_le (tgt := 13) hx hb dX4_isHeavy_6 (by decide) (fun c_3 => ?_) (fun c_3 => ?_)
  · have i_3 : y_1.toInt ≤ y_2.toInt := kc_le c_3
    refine lv_iconst (v := 0) hx hb dX4_isHeavy_13 (by decide) ?_
    exact W.zret (v := 0) hx hb hr (by decide) (fun t ht hW => ⟨0, rfl, Or.inr (⟨rfl, by omega⟩), ht⟩) (fun q hq => by cases hq) dX4_isHeavy_14
  · have i_3 : y_2.toInt < y_1.toInt := kc_nle c_3
    refine lv_iconst (v := 1) hx hb dX4_isHeavy_9 (by decide) ?_
    refine lv_goto (tgt := 14) hx hb dX4_isHeavy_10 (by decide) ?_
    exact W.zret (v := 1) hx hb hr (by decide) (fun t ht hW => ⟨1, rfl, Or.inl ⟨rfl, by omega⟩, ht⟩) (fun q hq => by cases hq) dX4_isHeavy_14

set_option maxHeartbeats 4000000 in
set_option maxRecDepth 100000 in
theorem c_X3_clear (l : Launch) (dC : Nat → ClassId) (dI : Nat → Nat → Nat) (h0 : Nat) (a_v : Nat) (a_n : Nat) (vs : Int32) (lo : Int32) (le : Int32) (sz : Nat) : Met l yX3_clear wsX3_clear ({ frames := 0, cells := 0, slots := 0, locals := 0 }) (va_Pc [.ref h0] (fun U => U.heap.size = sz ∧ va_P (dC, dI) vwCl [kx_3 h0 a_v a_n vs lo le] U.heap ∧ va_K (dC, dI) vwCl [] U ∧ va_D (fun _ => True) [kx_3 h0 a_v a_n vs lo le])) (va_Qv (fun _ : Unit => True) (fun (_ : Unit) (t : State) => va_P (dC, dI) vwCl [kx_3 h0 a_v a_n 0 0 0] t.heap ∧ va_K (dC, dI) vwCl [] t ∧ va_D (va_A [kx_3 h0 a_v a_n vs lo le] sz) [kx_3 h0 a_v a_n 0 0 0]) (va_A [kx_3 h0 a_v a_n vs lo le] sz)) 0 0 (va_A [kx_3 h0 a_v a_n vs lo le] sz) := by
  refine Met.ofW (cc := cX3_clear) (maxL := 1) (ret := none) (by decide) rfl ?_
  intro p e s m args below meth c s₁ B hml hv
  obtain ⟨rfl, hsz, hP, hK, hD0⟩ := hv
  have hx := B.exec
  have hb := B.bytes
  have hr := B.returns
  have hts := atoms_spec (ws := wsX3_clear) B.pre
  have hown : s.vm.findClass RX3 = some m.cls := findClass_of_methodNamed B.named
  have hlocks := B.notSynchronized
  subst hsz
  have hD := hD0.self (sz := s.heap.size)
  generalize hAe : va_A [kx_3 h0 a_v a_n vs lo le] s.heap.size = A at hD ⊢
  have hA : ∀ q : Nat, s.heap.size ≤ q → A q := fun q h => by rw [← hAe]; exact Or.inr h
  have hS : va_S A s.heap s.heap [] := va_S.rf
  have hP : va_P (dC, dI) vwCl [kx_3 h0 a_v a_n vs lo le] s.heap := hP
  have hl := lv_entry ([.ref h0]) (n := 1) (Nat.le_of_ble_eq_true rfl)
  rw [lg_entry_eq]
  generalize (lg_sl ([.ref h0]) ++ List.replicate (1 - (lg_sl ([.ref h0])).length) Slot.unset).toArray = ls at hl ⊢
  have hl : lv_has ls 1 [(0, .ref h0)] := hl
  have hf_18 := hts (.fieldLink RX3 18 "MajorityIndex$Votes" "size" "I") (List.mem_of_getElem? (i := 1) rfl)
  have hi_3 : ∀ w ∈ u_ws RX3 TX3 5, w ∈ wsX3_clear := fun w h => List.mem_cons_of_mem _ (List.mem_append_right _ h)
  have hf_22 := hts (.fieldLink RX3 22 "MajorityIndex$Votes" "lost" "I") (List.mem_of_getElem? (i := 2) rfl)
  have hf_25 := hts (.fieldLink RX3 25 "MajorityIndex$Votes" "lessBy" "I") (List.mem_of_getElem? (i := 3) rfl)
  refine lv_aload_n hx hb dX3_clear_0 rfl (lv_at hl 0 rfl) ?_
  refine lv_iconst (v := 0) hx hb dX3_clear_1 (by decide) ?_
  refine va_put (D := (dC, dI)) (ci := 3) (v := .int 0) (ty := .int) (C := RX3) (T := TX3) (N := 5) hx hb hts hi_3 tyX3 tyX3_ok nmX3 hown hK hP hD hS 0 rfl rfl 2 (by decide) hf_18 (fun _ h9 => h9) rfl (by decide +kernel) rfl rfl (Nat.le_of_ble_eq_true rfl) dX3_clear_2 (fun H locs hP hD hS => ?_)
  have hP : va_P (dC, dI) vwCl [kx_3 h0 a_v a_n 0 lo le] H := hP
  have hD : va_D A [kx_3 h0 a_v a_n 0 lo le] := hD
  refine lv_aload_n hx hb dX3_clear_5 rfl (lv_at hl 0 rfl) ?_
  refine lv_iconst (v := 0) hx hb dX3_clear_6 (by decide) ?_
  refine va_put (D := (dC, dI)) (ci := 3) (v := .int 0) (ty := .int) (C := RX3) (T := TX3) (N := 5) hx hb hts hi_3 tyX3 tyX3_ok nmX3 hown hK hP hD hS 0 rfl rfl 3 (by decide) hf_22 (fun _ h9 => h9) rfl (by decide +kernel) rfl rfl (Nat.le_of_ble_eq_true rfl) dX3_clear_7 (fun H locs hP hD hS => ?_)
  have hP : va_P (dC, dI) vwCl [kx_3 h0 a_v a_n 0 0 le] H := hP
  have hD : va_D A [kx_3 h0 a_v a_n 0 0 le] := hD
  refine lv_aload_n hx hb dX3_clear_10 rfl (lv_at hl 0 rfl) ?_
  refine lv_iconst (v := 0) hx hb dX3_clear_11 (by decide) ?_
  refine va_put (D := (dC, dI)) (ci := 3) (v := .int 0) (ty := .int) (C := RX3) (T := TX3) (N := 5) hx hb hts hi_3 tyX3 tyX3_ok nmX3 hown hK hP hD hS 0 rfl rfl 4 (by decide) hf_25 (fun _ h9 => h9) rfl (by decide +kernel) rfl rfl (Nat.le_of_ble_eq_true rfl) dX3_clear_12 (fun H locs hP hD hS => ?_)
  have hP : va_P (dC, dI) vwCl [kx_3 h0 a_v a_n 0 0 0] H := hP
  have hD : va_D A [kx_3 h0 a_v a_n 0 0 0] := hD
  have hP9 := hP
  have hD9 := hD
  have hK9 := hK
  exact W.vret hx hb hr (fun t ht hW => ⟨⟨(), rfl, trivial, by rw [ht]; exact hP9, va_K.moved hW.alike hK9, hD9⟩, hS.F ht⟩) hS.2.2 dX3_clear_15

set_option maxHeartbeats 4000000 in
set_option maxRecDepth 100000 in
theorem c_X3_add (l : Launch) (dC : Nat → ClassId) (dI : Nat → Nat → Nat) (h0 : Nat) (a_v : Nat) (a_n : Nat) (cyI : ClassId) (vs : Int32) (lo : Int32) (le : Int32) (fv : Nat → Int32) (fn : Nat → Int32) (p0 : Int32) (p1 : Int32) (sz : Nat) (a0 : 0 ≤ vs.toInt) (a1 : vs.toInt ≤ 12) : Met l yX3_add wsX3_add ({ frames := 0, cells := 0, slots := 0, locals := 0 }) (va_Pc [.ref h0, .int p0, .int p1] (fun U => U.heap.size = sz ∧ va_P (dC, dI) vwCl [kx_3 h0 a_v a_n vs lo le, kx_a a_v cyI 12 fv, kx_a a_n cyI 12 fn] U.heap ∧ va_K (dC, dI) vwCl [(cyI, .int)] U ∧ va_D (fun _ => True) [kx_3 h0 a_v a_n vs lo le, kx_a a_v cyI 12 fv, kx_a a_n cyI 12 fn])) (va_Qv (fun u : Int32 × (Nat → Int32) × (Nat → Int32) => vs.toInt ≤ u.1.toInt ∧ u.1.toInt ≤ vs.toInt + 1 ∧ u.1.toInt ≤ 12) (fun (u : Int32 × (Nat → Int32) × (Nat → Int32)) (t : State) => va_P (dC, dI) vwCl [kx_3 h0 a_v a_n u.1 lo le, kx_a a_v cyI 12 u.2.1, kx_a a_n cyI 12 u.2.2] t.heap ∧ va_K (dC, dI) vwCl [(cyI, .int)] t ∧ va_D (va_A [kx_3 h0 a_v a_n vs lo le, kx_a a_v cyI 12 fv, kx_a a_n cyI 12 fn] sz) [kx_3 h0 a_v a_n u.1 lo le, kx_a a_v cyI 12 u.2.1, kx_a a_n cyI 12 u.2.2]) (va_A [kx_3 h0 a_v a_n vs lo le, kx_a a_v cyI 12 fv, kx_a a_n cyI 12 fn] sz)) 0 0 (va_A [kx_3 h0 a_v a_n vs lo le, kx_a a_v cyI 12 fv, kx_a a_n cyI 12 fn] sz) := by
  refine Met.ofW (cc := cX3_add) (maxL := 4) (ret := none) (by decide) rfl ?_
  intro p e s m args below meth c s₁ B hml hv
  obtain ⟨rfl, hsz, hP, hK, hD0⟩ := hv
  have hx := B.exec
  have hb := B.bytes
  have hr := B.returns
  have hts := atoms_spec (ws := wsX3_add) B.pre
  have hown : s.vm.findClass RX3 = some m.cls := findClass_of_methodNamed B.named
  have hlocks := B.notSynchronized
  subst hsz
  have hD := hD0.self (sz := s.heap.size)
  generalize hAe : va_A [kx_3 h0 a_v a_n vs lo le, kx_a a_v cyI 12 fv, kx_a a_n cyI 12 fn] s.heap.size = A at hD ⊢
  have hA : ∀ q : Nat, s.heap.size ≤ q → A q := fun q h => by rw [← hAe]; exact Or.inr h
  have hS : va_S A s.heap s.heap [] := va_S.rf
  have hP : va_P (dC, dI) vwCl [kx_3 h0 a_v a_n vs lo le, kx_a a_v cyI 12 fv, kx_a a_n cyI 12 fn] s.heap := hP
  have hl := lv_entry ([.ref h0, .int p0, .int p1]) (n := 4) (Nat.le_of_ble_eq_true rfl)
  rw [lg_entry_eq]
  generalize (lg_sl ([.ref h0, .int p0, .int p1]) ++ List.replicate (4 - (lg_sl ([.ref h0, .int p0, .int p1])).length) Slot.unset).toArray = ls at hl ⊢
  have hl : lv_has ls 4 [(0, .ref h0), (1, .int p0), (2, .int p1)] := hl
  have hf_18 := hts (.fieldLink RX3 18 "MajorityIndex$Votes" "size" "I") (List.mem_of_getElem? (i := 1) rfl)
  have hi_3 : ∀ w ∈ u_ws RX3 TX3 5, w ∈ wsX3_add := fun w h => List.mem_cons_of_mem _ (List.mem_append_right _ h)
  have hf_9 := hts (.fieldLink RX3 9 "MajorityIndex$Votes" "value" "[I") (List.mem_of_getElem? (i := 2) rfl)
  have hf_15 := hts (.fieldLink RX3 15 "MajorityIndex$Votes" "number" "[I") (List.mem_of_getElem? (i := 3) rfl)
  refine lv_iconst (v := 0) hx hb dX3_add_0 (by decide) ?_
  refine lv_istore_n (lv' := [(3, .int 0), (0, .ref h0), (1, .int p0), (2, .int p1)]) hx hb dX3_add_1 rfl hl (by decide) rfl (fun ls hl => ?_)
  have LP1 : ∀ (n : Nat) (i : Int32), (0 ≤ i.toInt) → (vs.toInt - i.toInt).toNat < n → ∀ (H : Heap) (locs : List Loc), va_P (dC, dI) vwCl [kx_3 h0 a_v a_n vs lo le, kx_a a_v cyI 12 fv, kx_a a_n cyI 12 fn] H → va_D A [kx_3 h0 a_v a_n vs lo le, kx_a a_v cyI 12 fv, kx_a a_n cyI 12 fn] → va_S A s.heap H locs → ∀ (ls : Array Slot), lv_has ls 4 [(3, .int i), (0, .ref h0), (1, .int p0), (2, .int p1)] → W p l e (headSpec wsX3_add ({ frames := 0, cells := 0, slots := 0, locals := 0 })).room s m ([.ref h0, .int p0, .int p1] : List Value).toArray below meth c H locs 0 0 (MQ below (va_Qv (fun u : Int32 × (Nat → Int32) × (Nat → Int32) => vs.toInt ≤ u.1.toInt ∧ u.1.toInt ≤ vs.toInt + 1 ∧ u.1.toInt ≤ 12) (fun (u : Int32 × (Nat → Int32) × (Nat → Int32)) (t : State) => va_P (dC, dI) vwCl [kx_3 h0 a_v a_n u.1 lo le, kx_a a_v cyI 12 u.2.1, kx_a a_n cyI 12 u.2.2] t.heap ∧ va_K (dC, dI) vwCl [(cyI, .int)] t ∧ va_D A [kx_3 h0 a_v a_n u.1 lo le, kx_a a_v cyI 12 u.2.1, kx_a a_n cyI 12 u.2.2]) A) ([.ref h0, .int p0, .int p1] : List Value).toArray s 0 0 A) (F0 m 2 ls []) := by
    intro n
    induction n with
    | zero => intro i LP1_h0 hn; exact absurd hn (Nat.not_lt_zero _)
    | succ n ih1 =>
      intro i LP1_h0 hn1 H locs hP hD hS ls hl
      refine lv_iload_n hx hb dX3_add_2 rfl (lv_at hl 0 rfl) ?_
      refine lv_aload_n hx hb dX3_add_3 rfl (lv_at hl 1 rfl) ?_
      refine va_get (D := (dC, dI)) (ci := 3) (v := .int vs) (C := RX3) (T := TX3) (N := 5) hx hb hts hi_3 hown hK hP 0 rfl rfl 2 (by decide) hf_18 (fun _ h9 => h9) rfl dX3_add_4 ?_
      refine lv_icmp_ge (tgt := 37) hx hb dX3_add_7 (by decide) (fun c_1 => ?_) (fun c_1 => ?_)
      · have i_1 : vs.toInt ≤ i.toInt := kc_le c_1
        refine lv_aload_n hx hb dX3_add_37 rfl (lv_at hl 1 rfl) ?_
        refine va_get (D := (dC, dI)) (ci := 3) (v := .int vs) (C := RX3) (T := TX3) (N := 5) hx hb hts hi_3 hown hK hP 0 rfl rfl 2 (by decide) hf_18 (fun _ h9 => h9) rfl dX3_add_38 ?_
        refine lv_aload_n hx hb dX3_add_41 rfl (lv_at hl 1 rfl) ?_
        refine va_get (D := (dC, dI)) (ci := 3) (v := .ref a_v) (C := RX3) (T := TX3) (N := 5) hx hb hts hi_3 hown hK hP 0 rfl rfl 0 (by decide) hf_9 (fun _ h9 => h9) rfl dX3_add_42 ?_
        refine va_alen (v := 12) hx hb hK hP 1 0 rfl rfl rfl dX3_add_45 ?_
        refine lv_icmp_ge (tgt := 79) hx hb dX3_add_46 (by decide) (fun c_2 => ?_) (fun c_2 => ?_)
        · have i_2 : 12 ≤ vs.toInt := kc_le c_2
          have hP9 := hP
          have hD9 := hD
          have hK9 := hK
          exact W.vret hx hb hr (fun t ht hW => ⟨⟨(vs, fv, fn), rfl, (by (try dsimp only); omega), by rw [ht]; exact hP9, va_K.moved hW.alike hK9, hD9⟩, hS.F ht⟩) hS.2.2 dX3_add_79
        · have i_2 : vs.toInt < 12 := kc_nle c_2
          refine lv_aload_n hx hb dX3_add_49 rfl (lv_at hl 1 rfl) ?_
          refine va_get (D := (dC, dI)) (ci := 3) (v := .ref a_v) (C := RX3) (T := TX3) (N := 5) hx hb hts hi_3 hown hK hP 0 rfl rfl 0 (by decide) hf_9 (fun _ h9 => h9) rfl dX3_add_50 ?_
          refine lv_aload_n hx hb dX3_add_53 rfl (lv_at hl 1 rfl) ?_
          refine va_get (D := (dC, dI)) (ci := 3) (v := .int vs) (C := RX3) (T := TX3) (N := 5) hx hb hts hi_3 hown hK hP 0 rfl rfl 2 (by decide) hf_18 (fun _ h9 => h9) rfl dX3_add_54 ?_
          refine lv_iload_n hx hb dX3_add_57 rfl (lv_at hl 2 rfl) ?_
          refine va_iast hx hb hK hP hD hS 1 0 rfl rfl (ki_in (om_8 a0) (om_27 i_2)) dX3_add_58 (fun H locs hP hD hS => ?_)
          have hP : va_P (dC, dI) vwCl [kx_3 h0 a_v a_n vs lo le, kx_a a_v cyI 12 (upd fv vs.toNatClampNeg p0), kx_a a_n cyI 12 fn] H := hP
          have hD : va_D A [kx_3 h0 a_v a_n vs lo le, kx_a a_v cyI 12 (upd fv vs.toNatClampNeg p0), kx_a a_n cyI 12 fn] := hD
          refine lv_aload_n hx hb dX3_add_59 rfl (lv_at hl 1 rfl) ?_
          refine va_get (D := (dC, dI)) (ci := 3) (v := .ref a_n) (C := RX3) (T := TX3) (N := 5) hx hb hts hi_3 hown hK hP 0 rfl rfl 1 (by decide) hf_15 (fun _ h9 => h9) rfl dX3_add_60 ?_
          refine lv_aload_n hx hb dX3_add_63 rfl (lv_at hl 1 rfl) ?_
          refine va_get (D := (dC, dI)) (ci := 3) (v := .int vs) (C := RX3) (T := TX3) (N := 5) hx hb hts hi_3 hown hK hP 0 rfl rfl 2 (by decide) hf_18 (fun _ h9 => h9) rfl dX3_add_64 ?_
          refine lv_iload_n hx hb dX3_add_67 rfl (lv_at hl 3 rfl) ?_
          refine va_iast hx hb hK hP hD hS 2 0 rfl rfl (ki_in (om_8 a0) (om_27 i_2)) dX3_add_68 (fun H locs hP hD hS => ?_)
          have hP : va_P (dC, dI) vwCl [kx_3 h0 a_v a_n vs lo le, kx_a a_v cyI 12 (upd fv vs.toNatClampNeg p0), kx_a a_n cyI 12 (upd fn vs.toNatClampNeg p1)] H := hP
          have hD : va_D A [kx_3 h0 a_v a_n vs lo le, kx_a a_v cyI 12 (upd fv vs.toNatClampNeg p0), kx_a a_n cyI 12 (upd fn vs.toNatClampNeg p1)] := hD
          refine lv_aload_n hx hb dX3_add_69 rfl (lv_at hl 1 rfl) ?_
          refine lv_dup hx hb dX3_add_70 rfl ?_
          refine va_get (D := (dC, dI)) (ci := 3) (v := .int vs) (C := RX3) (T := TX3) (N := 5) hx hb hts hi_3 hown hK hP 0 rfl rfl 2 (by decide) hf_18 (fun _ h9 => h9) rfl dX3_add_71 ?_
          refine lv_iconst (v := 1) hx hb dX3_add_74 (by decide) ?_
          refine lv_iadd hx hb dX3_add_75 ?_
          refine lv_topi (fun y_3 ey_3 => ?_)
          have i_3 : y_3.toInt = vs.toInt + 1 := ki_add ey_3 rfl rfl (om_10 a0) (om_28 a1)
          refine va_put (D := (dC, dI)) (ci := 3) (v := .int y_3) (ty := .int) (C := RX3) (T := TX3) (N := 5) hx hb hts hi_3 tyX3 tyX3_ok nmX3 hown hK hP hD hS 0 rfl rfl 2 (by decide) hf_18 (fun _ h9 => h9) rfl (by decide +kernel) rfl rfl (Nat.le_of_ble_eq_true rfl) dX3_add_76 (fun H locs hP hD hS => ?_)
          have hP : va_P (dC, dI) vwCl [kx_3 h0 a_v a_n y_3 lo le, kx_a a_v cyI 12 (upd fv vs.toNatClampNeg p0), kx_a a_n cyI 12 (upd fn vs.toNatClampNeg p1)] H := hP
          have hD : va_D A [kx_3 h0 a_v a_n y_3 lo le, kx_a a_v cyI 12 (upd fv vs.toNatClampNeg p0), kx_a a_n cyI 12 (upd fn vs.toNatClampNeg p1)] := hD
          have hP9 := hP
          have hD9 := hD
          have hK9 := hK
          exact W.vret hx hb hr (fun t ht hW => ⟨⟨(y_3, (upd fv vs.toNatClampNeg p0), (upd fn vs.toNatClampNeg p1)), rfl, (by (try dsimp only); omega), by rw [ht]; exact hP9, va_K.moved hW.alike hK9, hD9⟩, hS.F ht⟩) hS.2.2 dX3_add_79
      · have i_1 : i.toInt < vs.toInt := kc_nle c_1
        refine lv_aload_n hx hb dX3_add_10 rfl (lv_at hl 1 rfl) ?_
        refine va_get (D := (dC, dI)) (ci := 3) (v := .ref a_v) (C := RX3) (T := TX3) (N := 5) hx hb hts hi_3 hown hK hP 0 rfl rfl 0 (by decide) hf_9 (fun _ h9 => h9) rfl dX3_add_11 ?_
        refine lv_iload_n hx hb dX3_add_14 rfl (lv_at hl 0 rfl) ?_
        refine va_iald hx hb hK hP 1 0 rfl rfl (ki_in (om_8 LP1_h0) (om_29 a1 i_1)) dX3_add_15 ?_
        refine lv_topi (fun y_4 ey_4 => ?_)
        have j_4 : y_4.toInt = (fv i.toNatClampNeg).toInt := congrArg Int32.toInt ey_4
        refine lv_iload_n hx hb dX3_add_16 rfl (lv_at hl 2 rfl) ?_
        refine lv_icmp_ne (tgt := 31) hx hb dX3_add_17 (by decide) (fun c_5 => ?_) (fun c_5 => ?_)
        · have i_5 : ¬ y_4.toInt = p0.toInt := kc_ne c_5
          obtain ⟨x_6, ex_6⟩ : ∃ y : Int32, y = i + 1 := ⟨_, rfl⟩
          have i_6 : x_6.toInt = i.toInt + 1 := ki_add ex_6 rfl rfl (om_10 LP1_h0) (om_30 a1 i_1)
          refine lv_iinc (v := x_6) (lv' := [(3, .int x_6), (0, .ref h0), (1, .int p0), (2, .int p1)]) hx hb dX3_add_31 hl (k := 0) rfl (by rw [ex_6]; rfl) (by decide) rfl (fun ls hl => ?_)
          refine lv_goto (tgt := 2) hx hb dX3_add_34 (by decide) ?_
          exact ih1 x_6 (om_31 LP1_h0 i_6) (om_mu hn1 (om_5 i_6) (om_6 i_1)) _ _ hP hD hS ls (lv_sub hl [0, 1, 2, 3] rfl)
        · have i_5 : y_4.toInt = p0.toInt := kc_eq c_5
          refine lv_aload_n hx hb dX3_add_20 rfl (lv_at hl 1 rfl) ?_
          refine va_get (D := (dC, dI)) (ci := 3) (v := .ref a_n) (C := RX3) (T := TX3) (N := 5) hx hb hts hi_3 hown hK hP 0 rfl rfl 1 (by decide) hf_15 (fun _ h9 => h9) rfl dX3_add_21 ?_
          refine lv_iload_n hx hb dX3_add_24 rfl (lv_at hl 0 rfl) ?_
          refine lv_dup2_11 hx hb dX3_add_25 rfl rfl ?_
          refine va_iald hx hb hK hP 2 0 rfl rfl (ki_in (om_8 LP1_h0) (om_29 a1 i_1)) dX3_add_26 ?_
          refine lv_topi (fun y_7 ey_7 => ?_)
          have j_7 : y_7.toInt = (fn i.toNatClampNeg).toInt := congrArg Int32.toInt ey_7
          refine lv_iload_n hx hb dX3_add_27 rfl (lv_at hl 3 rfl) ?_
          refine lv_iadd hx hb dX3_add_28 ?_
          refine lv_topi (fun y_8 ey_8 => ?_)
          refine va_iast hx hb hK hP hD hS 2 0 rfl rfl (ki_in (om_8 LP1_h0) (om_29 a1 i_1)) dX3_add_29 (fun H locs hP hD hS => ?_)
          have hP : va_P (dC, dI) vwCl [kx_3 h0 a_v a_n vs lo le, kx_a a_v cyI 12 fv, kx_a a_n cyI 12 (upd fn i.toNatClampNeg y_8)] H := hP
          have hD : va_D A [kx_3 h0 a_v a_n vs lo le, kx_a a_v cyI 12 fv, kx_a a_n cyI 12 (upd fn i.toNatClampNeg y_8)] := hD
          have hP9 := hP
          have hD9 := hD
          have hK9 := hK
          exact W.vret hx hb hr (fun t ht hW => ⟨⟨(vs, fv, (upd fn i.toNatClampNeg y_8)), rfl, (by (try dsimp only); omega), by rw [ht]; exact hP9, va_K.moved hW.alike hK9, hD9⟩, hS.F ht⟩) hS.2.2 dX3_add_30
  have k_9 : (0 : Int32).toInt = 0 := rfl
  exact LP1 ((vs.toInt - 0 : Int).toNat + 1) 0 om_32 (Nat.lt_succ_self _) _ _ hP hD hS ls (lv_sub hl [0, 1, 2, 3] rfl)

set_option maxHeartbeats 4000000 in
set_option maxRecDepth 100000 in
theorem c_X3_isAhead (l : Launch) (dC : Nat → ClassId) (dI : Nat → Nat → Nat) (h0 : Nat) (a_v : Nat) (a_n : Nat) (cyI : ClassId) (vs : Int32) (lo : Int32) (le : Int32) (fv : Nat → Int32) (fn : Nat → Int32) (p0 : Int32) (p1 : Int32) (b0 : 0 ≤ p0.toInt) (b1 : p0.toInt < 12) (b2 : 0 ≤ p1.toInt) (b3 : p1.toInt < 12) : Met l yX3_isAhead wsX3_isAhead ({ frames := 0, cells := 0, slots := 0, locals := 0 }) (va_Pc [.ref h0, .int p0, .int p1] (fun U => va_P (dC, dI) vwCl [kx_3 h0 a_v a_n vs lo le, kx_a a_v cyI 12 fv, kx_a a_n cyI 12 fn] U.heap ∧ va_K (dC, dI) vwCl [(cyI, .int)] U)) (vp_Si (fun r : Int32 => (r = 1 ∧ ((fn p1.toNatClampNeg).toInt < (fn p0.toNatClampNeg).toInt ∨ ((fn p0.toNatClampNeg).toInt = (fn p1.toNatClampNeg).toInt ∧ (fv p0.toNatClampNeg).toInt < (fv p1.toNatClampNeg).toInt))) ∨ (r = 0 ∧ ((fn p0.toNatClampNeg).toInt < (fn p1.toNatClampNeg).toInt ∨ ((fn p0.toNatClampNeg).toInt = (fn p1.toNatClampNeg).toInt ∧ (fv p1.toNatClampNeg).toInt ≤ (fv p0.toNatClampNeg).toInt))))) 0 0 (fun _ => False) := by
  refine Met.ofW (cc := cX3_isAhead) (maxL := 3) (ret := (some .boolean)) (by decide) rfl ?_
  intro p e s m args below meth c s₁ B hml hv
  obtain ⟨rfl, hP, hK⟩ := hv
  have hx := B.exec
  have hb := B.bytes
  have hr := B.returns
  have hts := atoms_spec (ws := wsX3_isAhead) B.pre
  have hown : s.vm.findClass RX3 = some m.cls := findClass_of_methodNamed B.named
  have hlocks := B.notSynchronized
  have hP : va_P (dC, dI) vwCl [kx_3 h0 a_v a_n vs lo le, kx_a a_v cyI 12 fv, kx_a a_n cyI 12 fn] s.heap := hP
  have hl := lv_entry ([.ref h0, .int p0, .int p1]) (n := 3) (Nat.le_of_ble_eq_true rfl)
  rw [lg_entry_eq]
  generalize (lg_sl ([.ref h0, .int p0, .int p1]) ++ List.replicate (3 - (lg_sl ([.ref h0, .int p0, .int p1])).length) Slot.unset).toArray = ls at hl ⊢
  have hl : lv_has ls 3 [(0, .ref h0), (1, .int p0), (2, .int p1)] := hl
  have hf_15 := hts (.fieldLink RX3 15 "MajorityIndex$Votes" "number" "[I") (List.mem_of_getElem? (i := 1) rfl)
  have hi_3 : ∀ w ∈ u_ws RX3 TX3 5, w ∈ wsX3_isAhead := fun w h => List.mem_cons_of_mem _ (List.mem_append_right _ h)
  have hf_9 := hts (.fieldLink RX3 9 "MajorityIndex$Votes" "value" "[I") (List.mem_of_getElem? (i := 2) rfl)
  refine lv_aload_n hx hb dX3_isAhead_0 rfl (lv_at hl 0 rfl) ?_
  refine va_get (D := (dC, dI)) (ci := 3) (v := .ref a_n) (C := RX3) (T := TX3) (N := 5) hx hb hts hi_3 hown hK hP 0 rfl rfl 1 (by decide) hf_15 (fun _ h9 => h9) rfl dX3_isAhead_1 ?_
  refine lv_iload_n hx hb dX3_isAhead_4 rfl (lv_at hl 1 rfl) ?_
  refine va_iald hx hb hK hP 2 0 rfl rfl (ki_in (om_8 b0) (om_27 b1)) dX3_isAhead_5 ?_
  refine lv_topi (fun y_1 ey_1 => ?_)
  have j_1 : y_1.toInt = (fn p0.toNatClampNeg).toInt := congrArg Int32.toInt ey_1
  refine lv_aload_n hx hb dX3_isAhead_6 rfl (lv_at hl 0 rfl) ?_
  refine va_get (D := (dC, dI)) (ci := 3) (v := .ref a_n) (C := RX3) (T := TX3) (N := 5) hx hb hts hi_3 hown hK hP 0 rfl rfl 1 (by decide) hf_15 (fun _ h9 => h9) rfl dX3_isAhead_7 ?_
  refine lv_iload_n hx hb dX3_isAhead_10 rfl (lv_at hl 2 rfl) ?_
  refine va_iald hx hb hK hP 2 0 rfl rfl (ki_in (om_8 b2) (om_27 b3)) dX3_isAhead_11 ?_
  refine lv_topi (fun y_2 ey_2 => ?_)
  have j_2 : y_2.toInt = (fn p1.toNatClampNeg).toInt := congrArg Int32.toInt ey_2
  refine lv_icmp_gt (tgt := 45) hx hb dX3_isAhead_12 (by decide) (fun c_3 => ?_) (fun c_3 => ?_)
  · have i_3 : y_2.toInt < y_1.toInt := kc_lt c_3
    refine lv_iconst (v := 1) hx hb dX3_isAhead_45 (by decide) ?_
    refine lv_goto (tgt := 50) hx hb dX3_isAhead_46 (by decide) ?_
    exact W.zret (v := 1) hx hb hr (by decide) (fun t ht hW => ⟨1, rfl, Or.inl ⟨rfl, by omega⟩, ht⟩) (fun q hq => by cases hq) dX3_isAhead_50
  · have i_3 : y_1.toInt ≤ y_2.toInt := kc_nlt c_3
    refine lv_aload_n hx hb dX3_isAhead_15 rfl (lv_at hl 0 rfl) ?_
    refine va_get (D := (dC, dI)) (ci := 3) (v := .ref a_n) (C := RX3) (T := TX3) (N := 5) hx hb hts hi_3 hown hK hP 0 rfl rfl 1 (by decide) hf_15 (fun _ h9 => h9) rfl dX3_isAhead_16 ?_
    refine lv_iload_n hx hb dX3_isAhead_19 rfl (lv_at hl 1 rfl) ?_
    refine va_iald hx hb hK hP 2 0 rfl rfl (ki_in (om_8 b0) (om_27 b1)) dX3_isAhead_20 ?_
    refine lv_topi (fun y_4 ey_4 => ?_)
    have j_4 : y_4.toInt = (fn p0.toNatClampNeg).toInt := congrArg Int32.toInt ey_4
    refine lv_aload_n hx hb dX3_isAhead_21 rfl (lv_at hl 0 rfl) ?_
    refine va_get (D := (dC, dI)) (ci := 3) (v := .ref a_n) (C := RX3) (T := TX3) (N := 5) hx hb hts hi_3 hown hK hP 0 rfl rfl 1 (by decide) hf_15 (fun _ h9 => h9) rfl dX3_isAhead_22 ?_
    refine lv_iload_n hx hb dX3_isAhead_25 rfl (lv_at hl 2 rfl) ?_
    refine va_iald hx hb hK hP 2 0 rfl rfl (ki_in (om_8 b2) (om_27 b3)) dX3_isAhead_26 ?_
    refine lv_topi (fun y_5 ey_5 => ?_)
    have j_5 : y_5.toInt = (fn p1.toNatClampNeg).toInt := congrArg Int32.toInt ey_5
    refine lv_icmp_ne (tgt := 49) hx hb dX3_isAhead_27 (by decide) (fun c_6 => ?_) (fun c_6 => ?_)
    · have i_6 : ¬ y_4.toInt = y_5.toInt := kc_ne c_6
      refine lv_iconst (v := 0) hx hb dX3_isAhead_49 (by decide) ?_
      exact W.zret (v := 0) hx hb hr (by decide) (fun t ht hW => ⟨0, rfl, Or.inr (⟨rfl, by omega⟩), ht⟩) (fun q hq => by cases hq) dX3_isAhead_50
    · have i_6 : y_4.toInt = y_5.toInt := kc_eq c_6
      refine lv_aload_n hx hb dX3_isAhead_30 rfl (lv_at hl 0 rfl) ?_
      refine va_get (D := (dC, dI)) (ci := 3) (v := .ref a_v) (C := RX3) (T := TX3) (N := 5) hx hb hts hi_3 hown hK hP 0 rfl rfl 0 (by decide) hf_9 (fun _ h9 => h9) rfl dX3_isAhead_31 ?_
      refine lv_iload_n hx hb dX3_isAhead_34 rfl (lv_at hl 1 rfl) ?_
      refine va_iald hx hb hK hP 1 0 rfl rfl (ki_in (om_8 b0) (om_27 b1)) dX3_isAhead_35 ?_
      refine lv_topi (fun y_7 ey_7 => ?_)
      have j_7 : y_7.toInt = (fv p0.toNatClampNeg).toInt := congrArg Int32.toInt ey_7
      refine lv_aload_n hx hb dX3_isAhead_36 rfl (lv_at hl 0 rfl) ?_
      refine va_get (D := (dC, dI)) (ci := 3) (v := .ref a_v) (C := RX3) (T := TX3) (N := 5) hx hb hts hi_3 hown hK hP 0 rfl rfl 0 (by decide) hf_9 (fun _ h9 => h9) rfl dX3_isAhead_37 ?_
      refine lv_iload_n hx hb dX3_isAhead_40 rfl (lv_at hl 2 rfl) ?_
      refine va_iald hx hb hK hP 1 0 rfl rfl (ki_in (om_8 b2) (om_27 b3)) dX3_isAhead_41 ?_
      refine lv_topi (fun y_8 ey_8 => ?_)
      have j_8 : y_8.toInt = (fv p1.toNatClampNeg).toInt := congrArg Int32.toInt ey_8
      refine lv_icmp_ge (tgt := 49) hx hb dX3_isAhead_42 (by decide) (fun c_9 => ?_) (fun c_9 => ?_)
      · have i_9 : y_8.toInt ≤ y_7.toInt := kc_le c_9
        refine lv_iconst (v := 0) hx hb dX3_isAhead_49 (by decide) ?_
        exact W.zret (v := 0) hx hb hr (by decide) (fun t ht hW => ⟨0, rfl, Or.inr (⟨rfl, by omega⟩), ht⟩) (fun q hq => by cases hq) dX3_isAhead_50
      · have i_9 : y_7.toInt < y_8.toInt := kc_nle c_9
        refine lv_iconst (v := 1) hx hb dX3_isAhead_45 (by decide) ?_
        refine lv_goto (tgt := 50) hx hb dX3_isAhead_46 (by decide) ?_
        exact W.zret (v := 1) hx hb hr (by decide) (fun t ht hW => ⟨1, rfl, Or.inl ⟨rfl, by omega⟩, ht⟩) (fun q hq => by cases hq) dX3_isAhead_50

set_option maxHeartbeats 4000000 in
set_option maxRecDepth 100000 in
theorem c_X3_exchange (l : Launch) (dC : Nat → ClassId) (dI : Nat → Nat → Nat) (h0 : Nat) (a_v : Nat) (a_n : Nat) (cyI : ClassId) (vs : Int32) (lo : Int32) (le : Int32) (fv : Nat → Int32) (fn : Nat → Int32) (p0 : Int32) (p1 : Int32) (sz : Nat) (b0 : 0 ≤ p0.toInt) (b1 : p0.toInt < 12) (b2 : 0 ≤ p1.toInt) (b3 : p1.toInt < 12) : Met l yX3_exchange wsX3_exchange ({ frames := 0, cells := 0, slots := 0, locals := 0 }) (va_Pc [.ref h0, .int p0, .int p1] (fun U => U.heap.size = sz ∧ va_P (dC, dI) vwCl [kx_3 h0 a_v a_n vs lo le, kx_a a_v cyI 12 fv, kx_a a_n cyI 12 fn] U.heap ∧ va_K (dC, dI) vwCl [(cyI, .int)] U ∧ va_D (fun _ => True) [kx_3 h0 a_v a_n vs lo le, kx_a a_v cyI 12 fv, kx_a a_n cyI 12 fn])) (va_Qv (fun u : (Nat → Int32) × (Nat → Int32) => u.1 = upd (upd fv p0.toNatClampNeg (fv p1.toNatClampNeg)) p1.toNatClampNeg (fv p0.toNatClampNeg) ∧ u.2 = upd (upd fn p0.toNatClampNeg (fn p1.toNatClampNeg)) p1.toNatClampNeg (fn p0.toNatClampNeg)) (fun (u : (Nat → Int32) × (Nat → Int32)) (t : State) => va_P (dC, dI) vwCl [kx_3 h0 a_v a_n vs lo le, kx_a a_v cyI 12 u.1, kx_a a_n cyI 12 u.2] t.heap ∧ va_K (dC, dI) vwCl [(cyI, .int)] t ∧ va_D (va_A [kx_3 h0 a_v a_n vs lo le, kx_a a_v cyI 12 fv, kx_a a_n cyI 12 fn] sz) [kx_3 h0 a_v a_n vs lo le, kx_a a_v cyI 12 u.1, kx_a a_n cyI 12 u.2]) (va_A [kx_3 h0 a_v a_n vs lo le, kx_a a_v cyI 12 fv, kx_a a_n cyI 12 fn] sz)) 0 0 (va_A [kx_3 h0 a_v a_n vs lo le, kx_a a_v cyI 12 fv, kx_a a_n cyI 12 fn] sz) := by
  refine Met.ofW (cc := cX3_exchange) (maxL := 5) (ret := none) (by decide) rfl ?_
  intro p e s m args below meth c s₁ B hml hv
  obtain ⟨rfl, hsz, hP, hK, hD0⟩ := hv
  have hx := B.exec
  have hb := B.bytes
  have hr := B.returns
  have hts := atoms_spec (ws := wsX3_exchange) B.pre
  have hown : s.vm.findClass RX3 = some m.cls := findClass_of_methodNamed B.named
  have hlocks := B.notSynchronized
  subst hsz
  have hD := hD0.self (sz := s.heap.size)
  generalize hAe : va_A [kx_3 h0 a_v a_n vs lo le, kx_a a_v cyI 12 fv, kx_a a_n cyI 12 fn] s.heap.size = A at hD ⊢
  have hA : ∀ q : Nat, s.heap.size ≤ q → A q := fun q h => by rw [← hAe]; exact Or.inr h
  have hS : va_S A s.heap s.heap [] := va_S.rf
  have hP : va_P (dC, dI) vwCl [kx_3 h0 a_v a_n vs lo le, kx_a a_v cyI 12 fv, kx_a a_n cyI 12 fn] s.heap := hP
  have hl := lv_entry ([.ref h0, .int p0, .int p1]) (n := 5) (Nat.le_of_ble_eq_true rfl)
  rw [lg_entry_eq]
  generalize (lg_sl ([.ref h0, .int p0, .int p1]) ++ List.replicate (5 - (lg_sl ([.ref h0, .int p0, .int p1])).length) Slot.unset).toArray = ls at hl ⊢
  have hl : lv_has ls 5 [(0, .ref h0), (1, .int p0), (2, .int p1)] := hl
  have hf_9 := hts (.fieldLink RX3 9 "MajorityIndex$Votes" "value" "[I") (List.mem_of_getElem? (i := 1) rfl)
  have hi_3 : ∀ w ∈ u_ws RX3 TX3 5, w ∈ wsX3_exchange := fun w h => List.mem_cons_of_mem _ (List.mem_append_right _ h)
  have hf_15 := hts (.fieldLink RX3 15 "MajorityIndex$Votes" "number" "[I") (List.mem_of_getElem? (i := 2) rfl)
  refine lv_aload_n hx hb dX3_exchange_0 rfl (lv_at hl 0 rfl) ?_
  refine va_get (D := (dC, dI)) (ci := 3) (v := .ref a_v) (C := RX3) (T := TX3) (N := 5) hx hb hts hi_3 hown hK hP 0 rfl rfl 0 (by decide) hf_9 (fun _ h9 => h9) rfl dX3_exchange_1 ?_
  refine lv_iload_n hx hb dX3_exchange_4 rfl (lv_at hl 1 rfl) ?_
  refine va_iald hx hb hK hP 1 0 rfl rfl (ki_in (om_8 b0) (om_27 b1)) dX3_exchange_5 ?_
  refine lv_topi (fun y_1 ey_1 => ?_)
  have j_1 : y_1.toInt = (fv p0.toNatClampNeg).toInt := congrArg Int32.toInt ey_1
  refine lv_istore_n (lv' := [(3, .int y_1), (0, .ref h0), (1, .int p0), (2, .int p1)]) hx hb dX3_exchange_6 rfl hl (by decide) rfl (fun ls hl => ?_)
  refine lv_aload_n hx hb dX3_exchange_7 rfl (lv_at hl 1 rfl) ?_
  refine va_get (D := (dC, dI)) (ci := 3) (v := .ref a_n) (C := RX3) (T := TX3) (N := 5) hx hb hts hi_3 hown hK hP 0 rfl rfl 1 (by decide) hf_15 (fun _ h9 => h9) rfl dX3_exchange_8 ?_
  refine lv_iload_n hx hb dX3_exchange_11 rfl (lv_at hl 2 rfl) ?_
  refine va_iald hx hb hK hP 2 0 rfl rfl (ki_in (om_8 b0) (om_27 b1)) dX3_exchange_12 ?_
  refine lv_topi (fun y_2 ey_2 => ?_)
  have j_2 : y_2.toInt = (fn p0.toNatClampNeg).toInt := congrArg Int32.toInt ey_2
  refine lv_istore (lv' := [(4, .int y_2), (3, .int y_1), (0, .ref h0), (1, .int p0), (2, .int p1)]) hx hb dX3_exchange_13 hl (by decide) rfl (fun ls hl => ?_)
  refine lv_aload_n hx hb dX3_exchange_15 rfl (lv_at hl 2 rfl) ?_
  refine va_get (D := (dC, dI)) (ci := 3) (v := .ref a_v) (C := RX3) (T := TX3) (N := 5) hx hb hts hi_3 hown hK hP 0 rfl rfl 0 (by decide) hf_9 (fun _ h9 => h9) rfl dX3_exchange_16 ?_
  refine lv_iload_n hx hb dX3_exchange_19 rfl (lv_at hl 3 rfl) ?_
  refine lv_aload_n hx hb dX3_exchange_20 rfl (lv_at hl 2 rfl) ?_
  refine va_get (D := (dC, dI)) (ci := 3) (v := .ref a_v) (C := RX3) (T := TX3) (N := 5) hx hb hts hi_3 hown hK hP 0 rfl rfl 0 (by decide) hf_9 (fun _ h9 => h9) rfl dX3_exchange_21 ?_
  refine lv_iload_n hx hb dX3_exchange_24 rfl (lv_at hl 4 rfl) ?_
  refine va_iald hx hb hK hP 1 0 rfl rfl (ki_in (om_8 b2) (om_27 b3)) dX3_exchange_25 ?_
  refine lv_topi (fun y_3 ey_3 => ?_)
  have j_3 : y_3.toInt = (fv p1.toNatClampNeg).toInt := congrArg Int32.toInt ey_3
  refine va_iast hx hb hK hP hD hS 1 0 rfl rfl (ki_in (om_8 b0) (om_27 b1)) dX3_exchange_26 (fun H locs hP hD hS => ?_)
  have hP : va_P (dC, dI) vwCl [kx_3 h0 a_v a_n vs lo le, kx_a a_v cyI 12 (upd fv p0.toNatClampNeg y_3), kx_a a_n cyI 12 fn] H := hP
  have hD : va_D A [kx_3 h0 a_v a_n vs lo le, kx_a a_v cyI 12 (upd fv p0.toNatClampNeg y_3), kx_a a_n cyI 12 fn] := hD
  refine lv_aload_n hx hb dX3_exchange_27 rfl (lv_at hl 2 rfl) ?_
  refine va_get (D := (dC, dI)) (ci := 3) (v := .ref a_n) (C := RX3) (T := TX3) (N := 5) hx hb hts hi_3 hown hK hP 0 rfl rfl 1 (by decide) hf_15 (fun _ h9 => h9) rfl dX3_exchange_28 ?_
  refine lv_iload_n hx hb dX3_exchange_31 rfl (lv_at hl 3 rfl) ?_
  refine lv_aload_n hx hb dX3_exchange_32 rfl (lv_at hl 2 rfl) ?_
  refine va_get (D := (dC, dI)) (ci := 3) (v := .ref a_n) (C := RX3) (T := TX3) (N := 5) hx hb hts hi_3 hown hK hP 0 rfl rfl 1 (by decide) hf_15 (fun _ h9 => h9) rfl dX3_exchange_33 ?_
  refine lv_iload_n hx hb dX3_exchange_36 rfl (lv_at hl 4 rfl) ?_
  refine va_iald hx hb hK hP 2 0 rfl rfl (ki_in (om_8 b2) (om_27 b3)) dX3_exchange_37 ?_
  refine lv_topi (fun y_4 ey_4 => ?_)
  have j_4 : y_4.toInt = (fn p1.toNatClampNeg).toInt := congrArg Int32.toInt ey_4
  refine va_iast hx hb hK hP hD hS 2 0 rfl rfl (ki_in (om_8 b0) (om_27 b1)) dX3_exchange_38 (fun H locs hP hD hS => ?_)
  have hP : va_P (dC, dI) vwCl [kx_3 h0 a_v a_n vs lo le, kx_a a_v cyI 12 (upd fv p0.toNatClampNeg y_3), kx_a a_n cyI 12 (upd fn p0.toNatClampNeg y_4)] H := hP
  have hD : va_D A [kx_3 h0 a_v a_n vs lo le, kx_a a_v cyI 12 (upd fv p0.toNatClampNeg y_3), kx_a a_n cyI 12 (upd fn p0.toNatClampNeg y_4)] := hD
  refine lv_aload_n hx hb dX3_exchange_39 rfl (lv_at hl 2 rfl) ?_
  refine va_get (D := (dC, dI)) (ci := 3) (v := .ref a_v) (C := RX3) (T := TX3) (N := 5) hx hb hts hi_3 hown hK hP 0 rfl rfl 0 (by decide) hf_9 (fun _ h9 => h9) rfl dX3_exchange_40 ?_
  refine lv_iload_n hx hb dX3_exchange_43 rfl (lv_at hl 4 rfl) ?_
  refine lv_iload_n hx hb dX3_exchange_44 rfl (lv_at hl 1 rfl) ?_
  refine va_iast hx hb hK hP hD hS 1 0 rfl rfl (ki_in (om_8 b2) (om_27 b3)) dX3_exchange_45 (fun H locs hP hD hS => ?_)
  have hP : va_P (dC, dI) vwCl [kx_3 h0 a_v a_n vs lo le, kx_a a_v cyI 12 (upd (upd fv p0.toNatClampNeg y_3) p1.toNatClampNeg y_1), kx_a a_n cyI 12 (upd fn p0.toNatClampNeg y_4)] H := hP
  have hD : va_D A [kx_3 h0 a_v a_n vs lo le, kx_a a_v cyI 12 (upd (upd fv p0.toNatClampNeg y_3) p1.toNatClampNeg y_1), kx_a a_n cyI 12 (upd fn p0.toNatClampNeg y_4)] := hD
  refine lv_aload_n hx hb dX3_exchange_46 rfl (lv_at hl 2 rfl) ?_
  refine va_get (D := (dC, dI)) (ci := 3) (v := .ref a_n) (C := RX3) (T := TX3) (N := 5) hx hb hts hi_3 hown hK hP 0 rfl rfl 1 (by decide) hf_15 (fun _ h9 => h9) rfl dX3_exchange_47 ?_
  refine lv_iload_n hx hb dX3_exchange_50 rfl (lv_at hl 4 rfl) ?_
  refine lv_iload hx hb dX3_exchange_51 (lv_at hl 0 rfl) ?_
  refine va_iast hx hb hK hP hD hS 2 0 rfl rfl (ki_in (om_8 b2) (om_27 b3)) dX3_exchange_53 (fun H locs hP hD hS => ?_)
  have hP : va_P (dC, dI) vwCl [kx_3 h0 a_v a_n vs lo le, kx_a a_v cyI 12 (upd (upd fv p0.toNatClampNeg y_3) p1.toNatClampNeg y_1), kx_a a_n cyI 12 (upd (upd fn p0.toNatClampNeg y_4) p1.toNatClampNeg y_2)] H := hP
  have hD : va_D A [kx_3 h0 a_v a_n vs lo le, kx_a a_v cyI 12 (upd (upd fv p0.toNatClampNeg y_3) p1.toNatClampNeg y_1), kx_a a_n cyI 12 (upd (upd fn p0.toNatClampNeg y_4) p1.toNatClampNeg y_2)] := hD
  have hP9 := hP
  have hD9 := hD
  have hK9 := hK
  exact W.vret hx hb hr (fun t ht hW => ⟨⟨((upd (upd fv p0.toNatClampNeg y_3) p1.toNatClampNeg y_1), (upd (upd fn p0.toNatClampNeg y_4) p1.toNatClampNeg y_2)), rfl, ⟨(by (try dsimp only); rw [ey_3, ey_1]), (by (try dsimp only); rw [ey_4, ey_2])⟩, by rw [ht]; exact hP9, va_K.moved hW.alike hK9, hD9⟩, hS.F ht⟩) hS.2.2 dX3_exchange_54

set_option maxHeartbeats 4000000 in
set_option maxRecDepth 100000 in
theorem c_X3_order (l : Launch) (dC : Nat → ClassId) (dI : Nat → Nat → Nat) (h0 : Nat) (a_v : Nat) (a_n : Nat) (cyI : ClassId) (vs : Int32) (lo : Int32) (le : Int32) (fv : Nat → Int32) (fn : Nat → Int32) (sz : Nat) (a0 : 0 ≤ vs.toInt) (a1 : vs.toInt ≤ 12) : Met l yX3_order wsX3_order ({ frames := 1, cells := 0, slots := 0, locals := 45 }) (va_Pc [.ref h0] (fun U => U.heap.size = sz ∧ va_P (dC, dI) vwCl [kx_3 h0 a_v a_n vs lo le, kx_a a_v cyI 12 fv, kx_a a_n cyI 12 fn] U.heap ∧ va_K (dC, dI) vwCl [(cyI, .int)] U ∧ va_D (fun _ => True) [kx_3 h0 a_v a_n vs lo le, kx_a a_v cyI 12 fv, kx_a a_n cyI 12 fn])) (va_Qv (fun u : (Nat → Int32) × (Nat → Int32) => True) (fun (u : (Nat → Int32) × (Nat → Int32)) (t : State) => va_P (dC, dI) vwCl [kx_3 h0 a_v a_n vs lo le, kx_a a_v cyI 12 u.1, kx_a a_n cyI 12 u.2] t.heap ∧ va_K (dC, dI) vwCl [(cyI, .int)] t ∧ va_D (va_A [kx_3 h0 a_v a_n vs lo le, kx_a a_v cyI 12 fv, kx_a a_n cyI 12 fn] sz) [kx_3 h0 a_v a_n vs lo le, kx_a a_v cyI 12 u.1, kx_a a_n cyI 12 u.2]) (va_A [kx_3 h0 a_v a_n vs lo le, kx_a a_v cyI 12 fv, kx_a a_n cyI 12 fn] sz)) 0 0 (va_A [kx_3 h0 a_v a_n vs lo le, kx_a a_v cyI 12 fv, kx_a a_n cyI 12 fn] sz) := by
  refine Met.ofW (cc := cX3_order) (maxL := 3) (ret := none) (by decide) rfl ?_
  intro p e s m args below meth c s₁ B hml hv
  obtain ⟨rfl, hsz, hP, hK, hD0⟩ := hv
  have hx := B.exec
  have hb := B.bytes
  have hr := B.returns
  have hts := atoms_spec (ws := wsX3_order) B.pre
  have hown : s.vm.findClass RX3 = some m.cls := findClass_of_methodNamed B.named
  have hlocks := B.notSynchronized
  subst hsz
  have hD := hD0.self (sz := s.heap.size)
  generalize hAe : va_A [kx_3 h0 a_v a_n vs lo le, kx_a a_v cyI 12 fv, kx_a a_n cyI 12 fn] s.heap.size = A at hD ⊢
  have hA : ∀ q : Nat, s.heap.size ≤ q → A q := fun q h => by rw [← hAe]; exact Or.inr h
  have hS : va_S A s.heap s.heap [] := va_S.rf
  have hP : va_P (dC, dI) vwCl [kx_3 h0 a_v a_n vs lo le, kx_a a_v cyI 12 fv, kx_a a_n cyI 12 fn] s.heap := hP
  have hl := lv_entry ([.ref h0]) (n := 3) (Nat.le_of_ble_eq_true rfl)
  rw [lg_entry_eq]
  generalize (lg_sl ([.ref h0]) ++ List.replicate (3 - (lg_sl ([.ref h0])).length) Slot.unset).toArray = ls at hl ⊢
  have hl : lv_has ls 3 [(0, .ref h0)] := hl
  have hf_18 := hts (.fieldLink RX3 18 "MajorityIndex$Votes" "size" "I") (List.mem_of_getElem? (i := 1) rfl)
  have hi_3 : ∀ w ∈ u_ws RX3 TX3 5, w ∈ wsX3_order := fun w h => List.mem_cons_of_mem _ (List.mem_append_right _ h)
  refine lv_iconst (v := 1) hx hb dX3_order_0 (by decide) ?_
  refine lv_istore_n (lv' := [(1, .int 1), (0, .ref h0)]) hx hb dX3_order_1 rfl hl (by decide) rfl (fun ls hl => ?_)
  have LP1 : ∀ (n : Nat) (i : Int32) (gv : Nat → Int32) (gn : Nat → Int32), (1 ≤ i.toInt) → (vs.toInt - i.toInt).toNat < n → ∀ (H : Heap) (locs : List Loc), va_P (dC, dI) vwCl [kx_3 h0 a_v a_n vs lo le, kx_a a_v cyI 12 gv, kx_a a_n cyI 12 gn] H → va_D A [kx_3 h0 a_v a_n vs lo le, kx_a a_v cyI 12 gv, kx_a a_n cyI 12 gn] → va_S A s.heap H locs → ∀ (ls : Array Slot), lv_has ls 3 [(1, .int i), (0, .ref h0)] → W p l e (headSpec wsX3_order ({ frames := 1, cells := 0, slots := 0, locals := 45 })).room s m ([.ref h0] : List Value).toArray below meth c H locs 0 0 (MQ below (va_Qv (fun u : (Nat → Int32) × (Nat → Int32) => True) (fun (u : (Nat → Int32) × (Nat → Int32)) (t : State) => va_P (dC, dI) vwCl [kx_3 h0 a_v a_n vs lo le, kx_a a_v cyI 12 u.1, kx_a a_n cyI 12 u.2] t.heap ∧ va_K (dC, dI) vwCl [(cyI, .int)] t ∧ va_D A [kx_3 h0 a_v a_n vs lo le, kx_a a_v cyI 12 u.1, kx_a a_n cyI 12 u.2]) A) ([.ref h0] : List Value).toArray s 0 0 A) (F0 m 2 ls []) := by
    intro n
    induction n with
    | zero => intro i gv gn LP1_h0 hn; exact absurd hn (Nat.not_lt_zero _)
    | succ n ih1 =>
      intro i gv gn LP1_h0 hn1 H locs hP hD hS ls hl
      refine lv_iload_n hx hb dX3_order_2 rfl (lv_at hl 0 rfl) ?_
      refine lv_aload_n hx hb dX3_order_3 rfl (lv_at hl 1 rfl) ?_
      refine va_get (D := (dC, dI)) (ci := 3) (v := .int vs) (C := RX3) (T := TX3) (N := 5) hx hb hts hi_3 hown hK hP 0 rfl rfl 2 (by decide) hf_18 (fun _ h9 => h9) rfl dX3_order_4 ?_
      refine lv_icmp_ge (tgt := 47) hx hb dX3_order_7 (by decide) (fun c_1 => ?_) (fun c_1 => ?_)
      · have i_1 : vs.toInt ≤ i.toInt := kc_le c_1
        have hP9 := hP
        have hD9 := hD
        have hK9 := hK
        exact W.vret hx hb hr (fun t ht hW => ⟨⟨(gv, gn), rfl, trivial, by rw [ht]; exact hP9, va_K.moved hW.alike hK9, hD9⟩, hS.F ht⟩) hS.2.2 dX3_order_47
      · have i_1 : i.toInt < vs.toInt := kc_nle c_1
        refine lv_iload_n hx hb dX3_order_10 rfl (lv_at hl 0 rfl) ?_
        refine lv_istore_n (lv' := [(2, .int i), (1, .int i), (0, .ref h0)]) hx hb dX3_order_11 rfl hl (by decide) rfl (fun ls hl => ?_)
        have LP2 : ∀ (n : Nat) (j : Int32) (kv : Nat → Int32) (kn : Nat → Int32), (0 ≤ j.toInt) → (j.toInt ≤ i.toInt) → (j.toInt).toNat < n → ∀ (H : Heap) (locs : List Loc), va_P (dC, dI) vwCl [kx_3 h0 a_v a_n vs lo le, kx_a a_v cyI 12 kv, kx_a a_n cyI 12 kn] H → va_D A [kx_3 h0 a_v a_n vs lo le, kx_a a_v cyI 12 kv, kx_a a_n cyI 12 kn] → va_S A s.heap H locs → ∀ (ls : Array Slot), lv_has ls 3 [(2, .int j), (1, .int i), (0, .ref h0)] → W p l e (headSpec wsX3_order ({ frames := 1, cells := 0, slots := 0, locals := 45 })).room s m ([.ref h0] : List Value).toArray below meth c H locs 0 0 (MQ below (va_Qv (fun u : (Nat → Int32) × (Nat → Int32) => True) (fun (u : (Nat → Int32) × (Nat → Int32)) (t : State) => va_P (dC, dI) vwCl [kx_3 h0 a_v a_n vs lo le, kx_a a_v cyI 12 u.1, kx_a a_n cyI 12 u.2] t.heap ∧ va_K (dC, dI) vwCl [(cyI, .int)] t ∧ va_D A [kx_3 h0 a_v a_n vs lo le, kx_a a_v cyI 12 u.1, kx_a a_n cyI 12 u.2]) A) ([.ref h0] : List Value).toArray s 0 0 A) (F0 m 12 ls []) := by
          intro n
          induction n with
          | zero => intro j kv kn LP2_h0 LP2_h1 hn; exact absurd hn (Nat.not_lt_zero _)
          | succ n ih2 =>
            intro j kv kn LP2_h0 LP2_h1 hn2 H locs hP hD hS ls hl
            refine lv_iload_n hx hb dX3_order_12 rfl (lv_at hl 0 rfl) ?_
            refine lv_if_le (tgt := 41) hx hb dX3_order_13 (by decide) (fun c_2 => ?_) (fun c_2 => ?_)
            · have i_2 : j.toInt ≤ 0 := kc_le c_2
              obtain ⟨x_3, ex_3⟩ : ∃ y : Int32, y = i + 1 := ⟨_, rfl⟩
              have i_3 : x_3.toInt = i.toInt + 1 := ki_add ex_3 rfl rfl (om_33 LP1_h0) (om_30 a1 i_1)
              refine lv_iinc (v := x_3) (lv' := [(1, .int x_3), (2, .int j), (0, .ref h0)]) hx hb dX3_order_41 hl (k := 1) rfl (by rw [ex_3]; rfl) (by decide) rfl (fun ls hl => ?_)
              refine lv_goto (tgt := 2) hx hb dX3_order_44 (by decide) ?_
              exact ih1 x_3 kv kn (om_34 LP1_h0 i_3) (om_mu hn1 (om_5 i_3) (om_6 i_1)) _ _ hP hD hS ls (lv_sub hl [0, 2] rfl)
            · have i_2 : 0 < j.toInt := kc_nle c_2
              refine lv_aload_n hx hb dX3_order_16 rfl (lv_at hl 2 rfl) ?_
              refine lv_iload_n hx hb dX3_order_17 rfl (lv_at hl 0 rfl) ?_
              refine lv_iload_n hx hb dX3_order_18 rfl (lv_at hl 0 rfl) ?_
              refine lv_iconst (v := 1) hx hb dX3_order_19 (by decide) ?_
              refine lv_isub hx hb dX3_order_20 ?_
              refine lv_topi (fun y_4 ey_4 => ?_)
              have i_4 : y_4.toInt = j.toInt - 1 := ki_sub ey_4 rfl rfl (om_35 i_2) (om_36 a1 i_1 LP2_h1)
              have hPc := hP
              have hKc := hK
              refine vp_callSi (W.runV (As := [.int j, .int y_4]) (rest := []) ⟨hx, hb, hml, hown, hts⟩ (c_X3_isAhead l dC dI h0 a_v a_n cyI vs lo le kv kn j y_4 LP2_h0 (om_37 a1 i_1 LP2_h1) (om_38 i_2 i_4) (om_39 a1 i_1 LP2_h1 i_4)) (cwV 2 hts gX3_order_X3_isAhead rfl rfl rfl (by decide +kernel) ⟨Nat.le_of_ble_eq_true rfl, Nat.le_of_ble_eq_true rfl⟩) ⟨fun a U g mk q => by obtain ⟨q0, qP, qK⟩ := q; exact ⟨q0, qP, va_K.moved (u := U) (U := U.calling g mk a) (Vm.Alike.refl U.vm) qK⟩, va_recv hKc hPc (ci := 3) (q0 := 0) rfl rfl, fun U hU hW => ⟨rfl, by rw [hU]; exact hPc, va_K.moved hW.alike hKc⟩⟩ rfl rfl hl.1 rfl (lv_room (Nat.le_of_ble_eq_true rfl)) dX3_order_21 ⟨Nat.le_of_ble_eq_true rfl, Nat.le_of_ble_eq_true rfl⟩) (fun r_5 w_5 => ?_)
              rcases w_5 with ⟨rfl, w_5⟩ | ⟨rfl, w_5⟩
              · have w_5 : ((kn y_4.toNatClampNeg).toInt < (kn j.toNatClampNeg).toInt ∨ ((kn j.toNatClampNeg).toInt = (kn y_4.toNatClampNeg).toInt ∧ (kv j.toNatClampNeg).toInt < (kv y_4.toNatClampNeg).toInt)) := w_5
                refine lv_if_eq (tgt := 41) hx hb dX3_order_24 (by decide) (fun c_6 => ?_) (fun c_6 => ?_)
                · exact absurd c_6 (by decide)
                · refine lv_aload_n hx hb dX3_order_27 rfl (lv_at hl 2 rfl) ?_
                  refine lv_iload_n hx hb dX3_order_28 rfl (lv_at hl 0 rfl) ?_
                  refine lv_iload_n hx hb dX3_order_29 rfl (lv_at hl 0 rfl) ?_
                  refine lv_iconst (v := 1) hx hb dX3_order_30 (by decide) ?_
                  refine lv_isub hx hb dX3_order_31 ?_
                  refine lv_topi (fun y_7 ey_7 => ?_)
                  have i_7 : y_7.toInt = j.toInt - 1 := ki_sub ey_7 rfl rfl (om_35 i_2) (om_36 a1 i_1 LP2_h1)
                  have hPc := hP
                  have hKc := hK
                  have hDc := hD
                  have hFc := kx_free hD hS hA
                  refine va_callv (va_runV (As := [.int j, .int y_7]) (rest := []) ⟨hx, hb, hml, hown, hts⟩ (c_X3_exchange l dC dI h0 a_v a_n cyI vs lo le kv kn j y_7 H.size LP2_h0 (om_37 a1 i_1 LP2_h1) (om_38 i_2 i_7) (om_39 a1 i_1 LP2_h1 i_7)) (cwV 2 hts gX3_order_X3_exchange rfl rfl rfl (by decide +kernel) ⟨Nat.le_of_ble_eq_true rfl, Nat.le_of_ble_eq_true rfl⟩) ⟨fun a U g mk q => by obtain ⟨q0, q1, qP, qK, qD⟩ := q; exact ⟨q0, q1, qP, va_K.moved (u := U) (U := U.calling g mk a) (Vm.Alike.refl U.vm) qK, qD⟩, va_recv hKc hPc (ci := 3) (q0 := 0) rfl rfl, fun U hU hW => ⟨rfl, by rw [hU], by rw [hU]; exact hPc, va_K.moved hW.alike hKc, hDc.weaken (fun _ _ _ _ => trivial)⟩⟩ rfl rfl hl.1 rfl (lv_room (Nat.le_of_ble_eq_true rfl)) dX3_order_32 ⟨Nat.le_of_ble_eq_true rfl, Nat.le_of_ble_eq_true rfl⟩) hS (fun q _ h => hFc q h) hFc (fun u t H1 locs ht hvm w_8 hB hz1 hk1 hS => ?_)
                  obtain ⟨o_9, o_10⟩ := u
                  dsimp only at w_8 hB
                  obtain ⟨hP1, hK1, hD1⟩ := hB
                  rw [ht] at hP1
                  have hK1 := va_K.moved hvm.symm hK1
                  have hD := hD1.weaken (fun _ q _ h => hFc q.1 h)
                  have hP := hP1
                  clear hP1 hD1 hK1 hk1 hz1 hFc hDc hPc hKc
                  generalize H1 = H at hP hS ⊢
                  have w_8 : o_9 = upd (upd kv j.toNatClampNeg (kv y_7.toNatClampNeg)) y_7.toNatClampNeg (kv j.toNatClampNeg) ∧ o_10 = upd (upd kn j.toNatClampNeg (kn y_7.toNatClampNeg)) y_7.toNatClampNeg (kn j.toNatClampNeg) := w_8
                  obtain ⟨x_11, ex_11⟩ : ∃ y : Int32, y = j + (-1) := ⟨_, rfl⟩
                  have i_11 : x_11.toInt = j.toInt + (-1) := ki_add ex_11 rfl rfl (om_40 i_2) (om_41 a1 i_1 LP2_h1)
                  refine lv_iinc (v := x_11) (lv' := [(2, .int x_11), (1, .int i), (0, .ref h0)]) hx hb dX3_order_35 hl (k := 0) rfl (by rw [ex_11]; rfl) (by decide) rfl (fun ls hl => ?_)
                  refine lv_goto (tgt := 12) hx hb dX3_order_38 (by decide) ?_
                  exact ih2 x_11 o_9 o_10 (om_42 i_2 i_11) (om_23 LP2_h1 i_11) (om_mu hn2 (om_24 i_11) (om_43 i_2)) _ _ hP hD hS ls (lv_sub hl [0, 1, 2] rfl)
              · have w_5 : ((kn j.toNatClampNeg).toInt < (kn y_4.toNatClampNeg).toInt ∨ ((kn j.toNatClampNeg).toInt = (kn y_4.toNatClampNeg).toInt ∧ (kv y_4.toNatClampNeg).toInt ≤ (kv j.toNatClampNeg).toInt)) := w_5
                refine lv_if_eq (tgt := 41) hx hb dX3_order_24 (by decide) (fun c_12 => ?_) (fun c_12 => ?_)
                · obtain ⟨x_13, ex_13⟩ : ∃ y : Int32, y = i + 1 := ⟨_, rfl⟩
                  have i_13 : x_13.toInt = i.toInt + 1 := ki_add ex_13 rfl rfl (om_33 LP1_h0) (om_30 a1 i_1)
                  refine lv_iinc (v := x_13) (lv' := [(1, .int x_13), (2, .int j), (0, .ref h0)]) hx hb dX3_order_41 hl (k := 1) rfl (by rw [ex_13]; rfl) (by decide) rfl (fun ls hl => ?_)
                  refine lv_goto (tgt := 2) hx hb dX3_order_44 (by decide) ?_
                  exact ih1 x_13 kv kn (om_34 LP1_h0 i_13) (om_mu hn1 (om_5 i_13) (om_6 i_1)) _ _ hP hD hS ls (lv_sub hl [0, 2] rfl)
                · exact absurd c_12 (by decide)
        exact LP2 ((i.toInt : Int).toNat + 1) i gv gn (om_44 LP1_h0) om_7 (Nat.lt_succ_self _) _ _ hP hD hS ls (lv_sub hl [0, 1, 2] rfl)
  have k_14 : (1 : Int32).toInt = 1 := rfl
  exact LP1 ((vs.toInt - 1 : Int).toNat + 1) 1 fv fn om_45 (Nat.lt_succ_self _) _ _ hP hD hS ls (lv_sub hl [0, 1] rfl)

set_option maxHeartbeats 4000000 in
set_option maxRecDepth 100000 in
theorem c_X3_cancel (l : Launch) (dC : Nat → ClassId) (dI : Nat → Nat → Nat) (h0 : Nat) (a_v : Nat) (a_n : Nat) (cyI : ClassId) (vs : Int32) (lo : Int32) (le : Int32) (fv : Nat → Int32) (fn : Nat → Int32) (p0 : Int32) (sz : Nat) (a0 : 0 ≤ vs.toInt) (a1 : vs.toInt ≤ 12) : Met l yX3_cancel wsX3_cancel ({ frames := 2, cells := 0, slots := 0, locals := 90 }) (va_Pc [.ref h0, .int p0] (fun U => U.heap.size = sz ∧ va_P (dC, dI) vwCl [kx_3 h0 a_v a_n vs lo le, kx_a a_v cyI 12 fv, kx_a a_n cyI 12 fn] U.heap ∧ va_K (dC, dI) vwCl [(cyI, .int)] U ∧ va_D (fun _ => True) [kx_3 h0 a_v a_n vs lo le, kx_a a_v cyI 12 fv, kx_a a_n cyI 12 fn])) (va_Qv (fun u : Int32 × Int32 × Int32 × (Nat → Int32) × (Nat → Int32) => 0 ≤ u.1.toInt ∧ u.1.toInt ≤ vs.toInt) (fun (u : Int32 × Int32 × Int32 × (Nat → Int32) × (Nat → Int32)) (t : State) => va_P (dC, dI) vwCl [kx_3 h0 a_v a_n u.1 u.2.1 u.2.2.1, kx_a a_v cyI 12 u.2.2.2.1, kx_a a_n cyI 12 u.2.2.2.2] t.heap ∧ va_K (dC, dI) vwCl [(cyI, .int)] t ∧ va_D (va_A [kx_3 h0 a_v a_n vs lo le, kx_a a_v cyI 12 fv, kx_a a_n cyI 12 fn] sz) [kx_3 h0 a_v a_n u.1 u.2.1 u.2.2.1, kx_a a_v cyI 12 u.2.2.2.1, kx_a a_n cyI 12 u.2.2.2.2]) (va_A [kx_3 h0 a_v a_n vs lo le, kx_a a_v cyI 12 fv, kx_a a_n cyI 12 fn] sz)) 0 0 (va_A [kx_3 h0 a_v a_n vs lo le, kx_a a_v cyI 12 fv, kx_a a_n cyI 12 fn] sz) := by
  refine Met.ofW (cc := cX3_cancel) (maxL := 4) (ret := none) (by decide) rfl ?_
  intro p e s m args below meth c s₁ B hml hv
  obtain ⟨rfl, hsz, hP, hK, hD0⟩ := hv
  have hx := B.exec
  have hb := B.bytes
  have hr := B.returns
  have hts := atoms_spec (ws := wsX3_cancel) B.pre
  have hown : s.vm.findClass RX3 = some m.cls := findClass_of_methodNamed B.named
  have hlocks := B.notSynchronized
  subst hsz
  have hD := hD0.self (sz := s.heap.size)
  generalize hAe : va_A [kx_3 h0 a_v a_n vs lo le, kx_a a_v cyI 12 fv, kx_a a_n cyI 12 fn] s.heap.size = A at hD ⊢
  have hA : ∀ q : Nat, s.heap.size ≤ q → A q := fun q h => by rw [← hAe]; exact Or.inr h
  have hS : va_S A s.heap s.heap [] := va_S.rf
  have hP : va_P (dC, dI) vwCl [kx_3 h0 a_v a_n vs lo le, kx_a a_v cyI 12 fv, kx_a a_n cyI 12 fn] s.heap := hP
  have hl := lv_entry ([.ref h0, .int p0]) (n := 4) (Nat.le_of_ble_eq_true rfl)
  rw [lg_entry_eq]
  generalize (lg_sl ([.ref h0, .int p0]) ++ List.replicate (4 - (lg_sl ([.ref h0, .int p0])).length) Slot.unset).toArray = ls at hl ⊢
  have hl : lv_has ls 4 [(0, .ref h0), (1, .int p0)] := hl
  have hf_25 := hts (.fieldLink RX3 25 "MajorityIndex$Votes" "lessBy" "I") (List.mem_of_getElem? (i := 3) rfl)
  have hi_3 : ∀ w ∈ u_ws RX3 TX3 5, w ∈ wsX3_cancel := fun w h => List.mem_cons_of_mem _ (List.mem_append_right _ h)
  have hf_22 := hts (.fieldLink RX3 22 "MajorityIndex$Votes" "lost" "I") (List.mem_of_getElem? (i := 4) rfl)
  have hf_18 := hts (.fieldLink RX3 18 "MajorityIndex$Votes" "size" "I") (List.mem_of_getElem? (i := 1) rfl)
  have hf_15 := hts (.fieldLink RX3 15 "MajorityIndex$Votes" "number" "[I") (List.mem_of_getElem? (i := 2) rfl)
  refine lv_aload_n hx hb dX3_cancel_0 rfl (lv_at hl 0 rfl) ?_
  have hPc := hP
  have hKc := hK
  have hDc := hD
  have hFc := kx_free hD hS hA
  refine va_callv (va_runV (As := []) (rest := []) ⟨hx, hb, hml, hown, hts⟩ (c_X3_order l dC dI h0 a_v a_n cyI vs lo le fv fn s.heap.size a0 a1) (cwV 0 hts gX3_cancel_X3_order rfl rfl rfl (by decide +kernel) ⟨Nat.le_of_ble_eq_true rfl, Nat.le_of_ble_eq_true rfl⟩) ⟨fun a U g mk q => by obtain ⟨q0, q1, qP, qK, qD⟩ := q; exact ⟨q0, q1, qP, va_K.moved (u := U) (U := U.calling g mk a) (Vm.Alike.refl U.vm) qK, qD⟩, va_recv hKc hPc (ci := 3) (q0 := 0) rfl rfl, fun U hU hW => ⟨rfl, by rw [hU], by rw [hU]; exact hPc, va_K.moved hW.alike hKc, hDc.weaken (fun _ _ _ _ => trivial)⟩⟩ rfl rfl hl.1 rfl (lv_room (Nat.le_of_ble_eq_true rfl)) dX3_cancel_1 ⟨Nat.le_of_ble_eq_true rfl, Nat.le_of_ble_eq_true rfl⟩) hS (fun q _ h => hFc q h) hFc (fun u t H1 locs ht hvm w_1 hB hz1 hk1 hS => ?_)
  obtain ⟨o_2, o_3⟩ := u
  dsimp only at w_1 hB
  obtain ⟨hP1, hK1, hD1⟩ := hB
  rw [ht] at hP1
  have hK1 := va_K.moved hvm.symm hK1
  have hD := hD1.weaken (fun _ q _ h => hFc q.1 h)
  have hP := hP1
  clear hP1 hD1 hK1 hk1 hz1 hFc hDc hPc hKc
  generalize H1 = H at hP hS ⊢
  have w_1 : True := w_1
  refine lv_aload_n hx hb dX3_cancel_4 rfl (lv_at hl 0 rfl) ?_
  refine lv_iload_n hx hb dX3_cancel_5 rfl (lv_at hl 1 rfl) ?_
  refine lv_if_lt (tgt := 26) hx hb dX3_cancel_6 (by decide) (fun c_4 => ?_) (fun c_4 => ?_)
  · have i_4 : p0.toInt < 0 := kc_lt c_4
    refine lv_iconst (v := 0) hx hb dX3_cancel_26 (by decide) ?_
    refine va_put (D := (dC, dI)) (ci := 3) (v := .int 0) (ty := .int) (C := RX3) (T := TX3) (N := 5) hx hb hts hi_3 tyX3 tyX3_ok nmX3 hown hK hP hD hS 0 rfl rfl 4 (by decide) hf_25 (fun _ h9 => h9) rfl (by decide +kernel) rfl rfl (Nat.le_of_ble_eq_true rfl) dX3_cancel_27 (fun H locs hP hD hS => ?_)
    have hP : va_P (dC, dI) vwCl [kx_3 h0 a_v a_n vs lo 0, kx_a a_v cyI 12 o_2, kx_a a_n cyI 12 o_3] H := hP
    have hD : va_D A [kx_3 h0 a_v a_n vs lo 0, kx_a a_v cyI 12 o_2, kx_a a_n cyI 12 o_3] := hD
    refine lv_aload_n hx hb dX3_cancel_30 rfl (lv_at hl 0 rfl) ?_
    refine lv_dup hx hb dX3_cancel_31 rfl ?_
    refine va_get (D := (dC, dI)) (ci := 3) (v := .int lo) (C := RX3) (T := TX3) (N := 5) hx hb hts hi_3 hown hK hP 0 rfl rfl 3 (by decide) hf_22 (fun _ h9 => h9) rfl dX3_cancel_32 ?_
    refine lv_aload_n hx hb dX3_cancel_35 rfl (lv_at hl 0 rfl) ?_
    refine va_get (D := (dC, dI)) (ci := 3) (v := .int 0) (C := RX3) (T := TX3) (N := 5) hx hb hts hi_3 hown hK hP 0 rfl rfl 4 (by decide) hf_25 (fun _ h9 => h9) rfl dX3_cancel_36 ?_
    refine lv_iadd hx hb dX3_cancel_39 ?_
    refine lv_topi (fun y_5 ey_5 => ?_)
    refine va_put (D := (dC, dI)) (ci := 3) (v := .int y_5) (ty := .int) (C := RX3) (T := TX3) (N := 5) hx hb hts hi_3 tyX3 tyX3_ok nmX3 hown hK hP hD hS 0 rfl rfl 3 (by decide) hf_22 (fun _ h9 => h9) rfl (by decide +kernel) rfl rfl (Nat.le_of_ble_eq_true rfl) dX3_cancel_40 (fun H locs hP hD hS => ?_)
    have hP : va_P (dC, dI) vwCl [kx_3 h0 a_v a_n vs y_5 0, kx_a a_v cyI 12 o_2, kx_a a_n cyI 12 o_3] H := hP
    have hD : va_D A [kx_3 h0 a_v a_n vs y_5 0, kx_a a_v cyI 12 o_2, kx_a a_n cyI 12 o_3] := hD
    refine lv_iconst (v := 0) hx hb dX3_cancel_43 (by decide) ?_
    refine lv_istore_n (lv' := [(2, .int 0), (0, .ref h0), (1, .int p0)]) hx hb dX3_cancel_44 rfl hl (by decide) rfl (fun ls hl => ?_)
    refine lv_iconst (v := 0) hx hb dX3_cancel_45 (by decide) ?_
    refine lv_istore_n (lv' := [(3, .int 0), (2, .int 0), (0, .ref h0), (1, .int p0)]) hx hb dX3_cancel_46 rfl hl (by decide) rfl (fun ls hl => ?_)
    have LP1 : ∀ (n : Nat) (i : Int32) (kept : Int32) (gn : Nat → Int32), (0 ≤ i.toInt) → (0 ≤ kept.toInt) → (kept.toInt ≤ i.toInt) → (i.toInt ≤ vs.toInt) → (vs.toInt - i.toInt).toNat < n → ∀ (H : Heap) (locs : List Loc), va_P (dC, dI) vwCl [kx_3 h0 a_v a_n vs y_5 0, kx_a a_v cyI 12 o_2, kx_a a_n cyI 12 gn] H → va_D A [kx_3 h0 a_v a_n vs y_5 0, kx_a a_v cyI 12 o_2, kx_a a_n cyI 12 gn] → va_S A s.heap H locs → ∀ (ls : Array Slot), lv_has ls 4 [(3, .int i), (2, .int kept), (0, .ref h0), (1, .int p0)] → W p l e (headSpec wsX3_cancel ({ frames := 2, cells := 0, slots := 0, locals := 90 })).room s m ([.ref h0, .int p0] : List Value).toArray below meth c H locs 0 0 (MQ below (va_Qv (fun u : Int32 × Int32 × Int32 × (Nat → Int32) × (Nat → Int32) => 0 ≤ u.1.toInt ∧ u.1.toInt ≤ vs.toInt) (fun (u : Int32 × Int32 × Int32 × (Nat → Int32) × (Nat → Int32)) (t : State) => va_P (dC, dI) vwCl [kx_3 h0 a_v a_n u.1 u.2.1 u.2.2.1, kx_a a_v cyI 12 u.2.2.2.1, kx_a a_n cyI 12 u.2.2.2.2] t.heap ∧ va_K (dC, dI) vwCl [(cyI, .int)] t ∧ va_D A [kx_3 h0 a_v a_n u.1 u.2.1 u.2.2.1, kx_a a_v cyI 12 u.2.2.2.1, kx_a a_n cyI 12 u.2.2.2.2]) A) ([.ref h0, .int p0] : List Value).toArray s 0 0 A) (F0 m 47 ls []) := by
      intro n
      induction n with
      | zero => intro i kept gn LP1_h0 LP1_h1 LP1_h2 LP1_h3 hn; exact absurd hn (Nat.not_lt_zero _)
      | succ n ih1 =>
        intro i kept gn LP1_h0 LP1_h1 LP1_h2 LP1_h3 hn1 H locs hP hD hS ls hl
        refine lv_iload_n hx hb dX3_cancel_47 rfl (lv_at hl 0 rfl) ?_
        refine lv_aload_n hx hb dX3_cancel_48 rfl (lv_at hl 2 rfl) ?_
        refine va_get (D := (dC, dI)) (ci := 3) (v := .int vs) (C := RX3) (T := TX3) (N := 5) hx hb hts hi_3 hown hK hP 0 rfl rfl 2 (by decide) hf_18 (fun _ h9 => h9) rfl dX3_cancel_49 ?_
        refine lv_icmp_ge (tgt := 86) hx hb dX3_cancel_52 (by decide) (fun c_6 => ?_) (fun c_6 => ?_)
        · have i_6 : vs.toInt ≤ i.toInt := kc_le c_6
          refine lv_aload_n hx hb dX3_cancel_86 rfl (lv_at hl 2 rfl) ?_
          refine lv_iload_n hx hb dX3_cancel_87 rfl (lv_at hl 1 rfl) ?_
          refine va_put (D := (dC, dI)) (ci := 3) (v := .int kept) (ty := .int) (C := RX3) (T := TX3) (N := 5) hx hb hts hi_3 tyX3 tyX3_ok nmX3 hown hK hP hD hS 0 rfl rfl 2 (by decide) hf_18 (fun _ h9 => h9) rfl (by decide +kernel) rfl rfl (Nat.le_of_ble_eq_true rfl) dX3_cancel_88 (fun H locs hP hD hS => ?_)
          have hP : va_P (dC, dI) vwCl [kx_3 h0 a_v a_n kept y_5 0, kx_a a_v cyI 12 o_2, kx_a a_n cyI 12 gn] H := hP
          have hD : va_D A [kx_3 h0 a_v a_n kept y_5 0, kx_a a_v cyI 12 o_2, kx_a a_n cyI 12 gn] := hD
          have hP9 := hP
          have hD9 := hD
          have hK9 := hK
          exact W.vret hx hb hr (fun t ht hW => ⟨⟨(kept, y_5, 0, o_2, gn), rfl, (by (try dsimp only); omega), by rw [ht]; exact hP9, va_K.moved hW.alike hK9, hD9⟩, hS.F ht⟩) hS.2.2 dX3_cancel_91
        · have i_6 : i.toInt < vs.toInt := kc_nle c_6
          refine lv_aload_n hx hb dX3_cancel_55 rfl (lv_at hl 2 rfl) ?_
          refine va_get (D := (dC, dI)) (ci := 3) (v := .ref a_n) (C := RX3) (T := TX3) (N := 5) hx hb hts hi_3 hown hK hP 0 rfl rfl 1 (by decide) hf_15 (fun _ h9 => h9) rfl dX3_cancel_56 ?_
          refine lv_iload_n hx hb dX3_cancel_59 rfl (lv_at hl 0 rfl) ?_
          refine lv_dup2_11 hx hb dX3_cancel_60 rfl rfl ?_
          refine va_iald hx hb hK hP 2 0 rfl rfl (ki_in (om_8 LP1_h0) (om_29 a1 i_6)) dX3_cancel_61 ?_
          refine lv_topi (fun y_7 ey_7 => ?_)
          have j_7 : y_7.toInt = (gn i.toNatClampNeg).toInt := congrArg Int32.toInt ey_7
          refine lv_aload_n hx hb dX3_cancel_62 rfl (lv_at hl 2 rfl) ?_
          refine va_get (D := (dC, dI)) (ci := 3) (v := .int 0) (C := RX3) (T := TX3) (N := 5) hx hb hts hi_3 hown hK hP 0 rfl rfl 4 (by decide) hf_25 (fun _ h9 => h9) rfl dX3_cancel_63 ?_
          refine lv_isub hx hb dX3_cancel_66 ?_
          refine lv_topi (fun y_8 ey_8 => ?_)
          refine va_iast hx hb hK hP hD hS 2 0 rfl rfl (ki_in (om_8 LP1_h0) (om_29 a1 i_6)) dX3_cancel_67 (fun H locs hP hD hS => ?_)
          have hP : va_P (dC, dI) vwCl [kx_3 h0 a_v a_n vs y_5 0, kx_a a_v cyI 12 o_2, kx_a a_n cyI 12 (upd gn i.toNatClampNeg y_8)] H := hP
          have hD : va_D A [kx_3 h0 a_v a_n vs y_5 0, kx_a a_v cyI 12 o_2, kx_a a_n cyI 12 (upd gn i.toNatClampNeg y_8)] := hD
          refine lv_aload_n hx hb dX3_cancel_68 rfl (lv_at hl 2 rfl) ?_
          refine va_get (D := (dC, dI)) (ci := 3) (v := .ref a_n) (C := RX3) (T := TX3) (N := 5) hx hb hts hi_3 hown hK hP 0 rfl rfl 1 (by decide) hf_15 (fun _ h9 => h9) rfl dX3_cancel_69 ?_
          refine lv_iload_n hx hb dX3_cancel_72 rfl (lv_at hl 0 rfl) ?_
          refine va_iald hx hb hK hP 2 0 rfl rfl (ki_in (om_8 LP1_h0) (om_29 a1 i_6)) dX3_cancel_73 ?_
          refine lv_topi (fun y_9 ey_9 => ?_)
          have j_9 : y_9.toInt = ((upd gn i.toNatClampNeg y_8) i.toNatClampNeg).toInt := congrArg Int32.toInt ey_9
          refine lv_if_le (tgt := 80) hx hb dX3_cancel_74 (by decide) (fun c_10 => ?_) (fun c_10 => ?_)
          · have i_10 : y_9.toInt ≤ 0 := kc_le c_10
            obtain ⟨x_11, ex_11⟩ : ∃ y : Int32, y = i + 1 := ⟨_, rfl⟩
            have i_11 : x_11.toInt = i.toInt + 1 := ki_add ex_11 rfl rfl (om_10 LP1_h0) (om_46 a1 LP1_h3)
            refine lv_iinc (v := x_11) (lv' := [(3, .int x_11), (2, .int kept), (0, .ref h0), (1, .int p0)]) hx hb dX3_cancel_80 hl (k := 0) rfl (by rw [ex_11]; rfl) (by decide) rfl (fun ls hl => ?_)
            refine lv_goto (tgt := 47) hx hb dX3_cancel_83 (by decide) ?_
            exact ih1 x_11 kept (upd gn i.toNatClampNeg y_8) (om_31 LP1_h0 i_11) (om_8 LP1_h1) (om_4 LP1_h2 i_11) (om_47 i_6 i_11) (om_mu hn1 (om_5 i_11) (om_6 i_6)) _ _ hP hD hS ls (lv_sub hl [0, 1, 2, 3] rfl)
          · have i_10 : 0 < y_9.toInt := kc_nle c_10
            obtain ⟨x_12, ex_12⟩ : ∃ y : Int32, y = kept + 1 := ⟨_, rfl⟩
            have i_12 : x_12.toInt = kept.toInt + 1 := ki_add ex_12 rfl rfl (om_10 LP1_h1) (om_48 a1 LP1_h2 LP1_h3)
            refine lv_iinc (v := x_12) (lv' := [(2, .int x_12), (3, .int i), (0, .ref h0), (1, .int p0)]) hx hb dX3_cancel_77 hl (k := 1) rfl (by rw [ex_12]; rfl) (by decide) rfl (fun ls hl => ?_)
            obtain ⟨x_13, ex_13⟩ : ∃ y : Int32, y = i + 1 := ⟨_, rfl⟩
            have i_13 : x_13.toInt = i.toInt + 1 := ki_add ex_13 rfl rfl (om_10 LP1_h0) (om_46 a1 LP1_h3)
            refine lv_iinc (v := x_13) (lv' := [(3, .int x_13), (2, .int x_12), (0, .ref h0), (1, .int p0)]) hx hb dX3_cancel_80 hl (k := 1) rfl (by rw [ex_13]; rfl) (by decide) rfl (fun ls hl => ?_)
            refine lv_goto (tgt := 47) hx hb dX3_cancel_83 (by decide) ?_
            exact ih1 x_13 x_12 (upd gn i.toNatClampNeg y_8) (om_31 LP1_h0 i_13) (om_31 LP1_h1 i_12) (om_49 LP1_h2 i_12 i_13) (om_47 i_6 i_13) (om_mu hn1 (om_5 i_13) (om_6 i_6)) _ _ hP hD hS ls (lv_sub hl [0, 1, 2, 3] rfl)
    have k_14 : (0 : Int32).toInt = 0 := rfl
    have k_15 : (0 : Int32).toInt = 0 := rfl
    exact LP1 ((vs.toInt - 0 : Int).toNat + 1) 0 0 o_3 om_32 om_32 om_32 (om_8 a0) (Nat.lt_succ_self _) _ _ hP hD hS ls (lv_sub hl [0, 1, 2, 3] rfl)
  · have i_4 : 0 ≤ p0.toInt := kc_nlt c_4
    refine lv_iload_n hx hb dX3_cancel_9 rfl (lv_at hl 1 rfl) ?_
    refine lv_aload_n hx hb dX3_cancel_10 rfl (lv_at hl 0 rfl) ?_
    refine va_get (D := (dC, dI)) (ci := 3) (v := .int vs) (C := RX3) (T := TX3) (N := 5) hx hb hts hi_3 hown hK hP 0 rfl rfl 2 (by decide) hf_18 (fun _ h9 => h9) rfl dX3_cancel_11 ?_
    refine lv_icmp_ge (tgt := 26) hx hb dX3_cancel_14 (by decide) (fun c_16 => ?_) (fun c_16 => ?_)
    · have i_16 : vs.toInt ≤ p0.toInt := kc_le c_16
      refine lv_iconst (v := 0) hx hb dX3_cancel_26 (by decide) ?_
      refine va_put (D := (dC, dI)) (ci := 3) (v := .int 0) (ty := .int) (C := RX3) (T := TX3) (N := 5) hx hb hts hi_3 tyX3 tyX3_ok nmX3 hown hK hP hD hS 0 rfl rfl 4 (by decide) hf_25 (fun _ h9 => h9) rfl (by decide +kernel) rfl rfl (Nat.le_of_ble_eq_true rfl) dX3_cancel_27 (fun H locs hP hD hS => ?_)
      have hP : va_P (dC, dI) vwCl [kx_3 h0 a_v a_n vs lo 0, kx_a a_v cyI 12 o_2, kx_a a_n cyI 12 o_3] H := hP
      have hD : va_D A [kx_3 h0 a_v a_n vs lo 0, kx_a a_v cyI 12 o_2, kx_a a_n cyI 12 o_3] := hD
      refine lv_aload_n hx hb dX3_cancel_30 rfl (lv_at hl 0 rfl) ?_
      refine lv_dup hx hb dX3_cancel_31 rfl ?_
      refine va_get (D := (dC, dI)) (ci := 3) (v := .int lo) (C := RX3) (T := TX3) (N := 5) hx hb hts hi_3 hown hK hP 0 rfl rfl 3 (by decide) hf_22 (fun _ h9 => h9) rfl dX3_cancel_32 ?_
      refine lv_aload_n hx hb dX3_cancel_35 rfl (lv_at hl 0 rfl) ?_
      refine va_get (D := (dC, dI)) (ci := 3) (v := .int 0) (C := RX3) (T := TX3) (N := 5) hx hb hts hi_3 hown hK hP 0 rfl rfl 4 (by decide) hf_25 (fun _ h9 => h9) rfl dX3_cancel_36 ?_
      refine lv_iadd hx hb dX3_cancel_39 ?_
      refine lv_topi (fun y_17 ey_17 => ?_)
      refine va_put (D := (dC, dI)) (ci := 3) (v := .int y_17) (ty := .int) (C := RX3) (T := TX3) (N := 5) hx hb hts hi_3 tyX3 tyX3_ok nmX3 hown hK hP hD hS 0 rfl rfl 3 (by decide) hf_22 (fun _ h9 => h9) rfl (by decide +kernel) rfl rfl (Nat.le_of_ble_eq_true rfl) dX3_cancel_40 (fun H locs hP hD hS => ?_)
      have hP : va_P (dC, dI) vwCl [kx_3 h0 a_v a_n vs y_17 0, kx_a a_v cyI 12 o_2, kx_a a_n cyI 12 o_3] H := hP
      have hD : va_D A [kx_3 h0 a_v a_n vs y_17 0, kx_a a_v cyI 12 o_2, kx_a a_n cyI 12 o_3] := hD
      refine lv_iconst (v := 0) hx hb dX3_cancel_43 (by decide) ?_
      refine lv_istore_n (lv' := [(2, .int 0), (0, .ref h0), (1, .int p0)]) hx hb dX3_cancel_44 rfl hl (by decide) rfl (fun ls hl => ?_)
      refine lv_iconst (v := 0) hx hb dX3_cancel_45 (by decide) ?_
      refine lv_istore_n (lv' := [(3, .int 0), (2, .int 0), (0, .ref h0), (1, .int p0)]) hx hb dX3_cancel_46 rfl hl (by decide) rfl (fun ls hl => ?_)
      have LP2 : ∀ (n : Nat) (i : Int32) (kept : Int32) (gn : Nat → Int32), (0 ≤ i.toInt) → (0 ≤ kept.toInt) → (kept.toInt ≤ i.toInt) → (i.toInt ≤ vs.toInt) → (vs.toInt - i.toInt).toNat < n → ∀ (H : Heap) (locs : List Loc), va_P (dC, dI) vwCl [kx_3 h0 a_v a_n vs y_17 0, kx_a a_v cyI 12 o_2, kx_a a_n cyI 12 gn] H → va_D A [kx_3 h0 a_v a_n vs y_17 0, kx_a a_v cyI 12 o_2, kx_a a_n cyI 12 gn] → va_S A s.heap H locs → ∀ (ls : Array Slot), lv_has ls 4 [(3, .int i), (2, .int kept), (0, .ref h0), (1, .int p0)] → W p l e (headSpec wsX3_cancel ({ frames := 2, cells := 0, slots := 0, locals := 90 })).room s m ([.ref h0, .int p0] : List Value).toArray below meth c H locs 0 0 (MQ below (va_Qv (fun u : Int32 × Int32 × Int32 × (Nat → Int32) × (Nat → Int32) => 0 ≤ u.1.toInt ∧ u.1.toInt ≤ vs.toInt) (fun (u : Int32 × Int32 × Int32 × (Nat → Int32) × (Nat → Int32)) (t : State) => va_P (dC, dI) vwCl [kx_3 h0 a_v a_n u.1 u.2.1 u.2.2.1, kx_a a_v cyI 12 u.2.2.2.1, kx_a a_n cyI 12 u.2.2.2.2] t.heap ∧ va_K (dC, dI) vwCl [(cyI, .int)] t ∧ va_D A [kx_3 h0 a_v a_n u.1 u.2.1 u.2.2.1, kx_a a_v cyI 12 u.2.2.2.1, kx_a a_n cyI 12 u.2.2.2.2]) A) ([.ref h0, .int p0] : List Value).toArray s 0 0 A) (F0 m 47 ls []) := by
        intro n
        induction n with
        | zero => intro i kept gn LP2_h0 LP2_h1 LP2_h2 LP2_h3 hn; exact absurd hn (Nat.not_lt_zero _)
        | succ n ih2 =>
          intro i kept gn LP2_h0 LP2_h1 LP2_h2 LP2_h3 hn2 H locs hP hD hS ls hl
          refine lv_iload_n hx hb dX3_cancel_47 rfl (lv_at hl 0 rfl) ?_
          refine lv_aload_n hx hb dX3_cancel_48 rfl (lv_at hl 2 rfl) ?_
          refine va_get (D := (dC, dI)) (ci := 3) (v := .int vs) (C := RX3) (T := TX3) (N := 5) hx hb hts hi_3 hown hK hP 0 rfl rfl 2 (by decide) hf_18 (fun _ h9 => h9) rfl dX3_cancel_49 ?_
          refine lv_icmp_ge (tgt := 86) hx hb dX3_cancel_52 (by decide) (fun c_18 => ?_) (fun c_18 => ?_)
          · have i_18 : vs.toInt ≤ i.toInt := kc_le c_18
            refine lv_aload_n hx hb dX3_cancel_86 rfl (lv_at hl 2 rfl) ?_
            refine lv_iload_n hx hb dX3_cancel_87 rfl (lv_at hl 1 rfl) ?_
            refine va_put (D := (dC, dI)) (ci := 3) (v := .int kept) (ty := .int) (C := RX3) (T := TX3) (N := 5) hx hb hts hi_3 tyX3 tyX3_ok nmX3 hown hK hP hD hS 0 rfl rfl 2 (by decide) hf_18 (fun _ h9 => h9) rfl (by decide +kernel) rfl rfl (Nat.le_of_ble_eq_true rfl) dX3_cancel_88 (fun H locs hP hD hS => ?_)
            have hP : va_P (dC, dI) vwCl [kx_3 h0 a_v a_n kept y_17 0, kx_a a_v cyI 12 o_2, kx_a a_n cyI 12 gn] H := hP
            have hD : va_D A [kx_3 h0 a_v a_n kept y_17 0, kx_a a_v cyI 12 o_2, kx_a a_n cyI 12 gn] := hD
            have hP9 := hP
            have hD9 := hD
            have hK9 := hK
            exact W.vret hx hb hr (fun t ht hW => ⟨⟨(kept, y_17, 0, o_2, gn), rfl, (by (try dsimp only); omega), by rw [ht]; exact hP9, va_K.moved hW.alike hK9, hD9⟩, hS.F ht⟩) hS.2.2 dX3_cancel_91
          · have i_18 : i.toInt < vs.toInt := kc_nle c_18
            refine lv_aload_n hx hb dX3_cancel_55 rfl (lv_at hl 2 rfl) ?_
            refine va_get (D := (dC, dI)) (ci := 3) (v := .ref a_n) (C := RX3) (T := TX3) (N := 5) hx hb hts hi_3 hown hK hP 0 rfl rfl 1 (by decide) hf_15 (fun _ h9 => h9) rfl dX3_cancel_56 ?_
            refine lv_iload_n hx hb dX3_cancel_59 rfl (lv_at hl 0 rfl) ?_
            refine lv_dup2_11 hx hb dX3_cancel_60 rfl rfl ?_
            refine va_iald hx hb hK hP 2 0 rfl rfl (ki_in (om_8 LP2_h0) (om_29 a1 i_18)) dX3_cancel_61 ?_
            refine lv_topi (fun y_19 ey_19 => ?_)
            have j_19 : y_19.toInt = (gn i.toNatClampNeg).toInt := congrArg Int32.toInt ey_19
            refine lv_aload_n hx hb dX3_cancel_62 rfl (lv_at hl 2 rfl) ?_
            refine va_get (D := (dC, dI)) (ci := 3) (v := .int 0) (C := RX3) (T := TX3) (N := 5) hx hb hts hi_3 hown hK hP 0 rfl rfl 4 (by decide) hf_25 (fun _ h9 => h9) rfl dX3_cancel_63 ?_
            refine lv_isub hx hb dX3_cancel_66 ?_
            refine lv_topi (fun y_20 ey_20 => ?_)
            refine va_iast hx hb hK hP hD hS 2 0 rfl rfl (ki_in (om_8 LP2_h0) (om_29 a1 i_18)) dX3_cancel_67 (fun H locs hP hD hS => ?_)
            have hP : va_P (dC, dI) vwCl [kx_3 h0 a_v a_n vs y_17 0, kx_a a_v cyI 12 o_2, kx_a a_n cyI 12 (upd gn i.toNatClampNeg y_20)] H := hP
            have hD : va_D A [kx_3 h0 a_v a_n vs y_17 0, kx_a a_v cyI 12 o_2, kx_a a_n cyI 12 (upd gn i.toNatClampNeg y_20)] := hD
            refine lv_aload_n hx hb dX3_cancel_68 rfl (lv_at hl 2 rfl) ?_
            refine va_get (D := (dC, dI)) (ci := 3) (v := .ref a_n) (C := RX3) (T := TX3) (N := 5) hx hb hts hi_3 hown hK hP 0 rfl rfl 1 (by decide) hf_15 (fun _ h9 => h9) rfl dX3_cancel_69 ?_
            refine lv_iload_n hx hb dX3_cancel_72 rfl (lv_at hl 0 rfl) ?_
            refine va_iald hx hb hK hP 2 0 rfl rfl (ki_in (om_8 LP2_h0) (om_29 a1 i_18)) dX3_cancel_73 ?_
            refine lv_topi (fun y_21 ey_21 => ?_)
            have j_21 : y_21.toInt = ((upd gn i.toNatClampNeg y_20) i.toNatClampNeg).toInt := congrArg Int32.toInt ey_21
            refine lv_if_le (tgt := 80) hx hb dX3_cancel_74 (by decide) (fun c_22 => ?_) (fun c_22 => ?_)
            · have i_22 : y_21.toInt ≤ 0 := kc_le c_22
              obtain ⟨x_23, ex_23⟩ : ∃ y : Int32, y = i + 1 := ⟨_, rfl⟩
              have i_23 : x_23.toInt = i.toInt + 1 := ki_add ex_23 rfl rfl (om_10 LP2_h0) (om_46 a1 LP2_h3)
              refine lv_iinc (v := x_23) (lv' := [(3, .int x_23), (2, .int kept), (0, .ref h0), (1, .int p0)]) hx hb dX3_cancel_80 hl (k := 0) rfl (by rw [ex_23]; rfl) (by decide) rfl (fun ls hl => ?_)
              refine lv_goto (tgt := 47) hx hb dX3_cancel_83 (by decide) ?_
              exact ih2 x_23 kept (upd gn i.toNatClampNeg y_20) (om_31 LP2_h0 i_23) (om_8 LP2_h1) (om_4 LP2_h2 i_23) (om_47 i_18 i_23) (om_mu hn2 (om_5 i_23) (om_6 i_18)) _ _ hP hD hS ls (lv_sub hl [0, 1, 2, 3] rfl)
            · have i_22 : 0 < y_21.toInt := kc_nle c_22
              obtain ⟨x_24, ex_24⟩ : ∃ y : Int32, y = kept + 1 := ⟨_, rfl⟩
              have i_24 : x_24.toInt = kept.toInt + 1 := ki_add ex_24 rfl rfl (om_10 LP2_h1) (om_48 a1 LP2_h2 LP2_h3)
              refine lv_iinc (v := x_24) (lv' := [(2, .int x_24), (3, .int i), (0, .ref h0), (1, .int p0)]) hx hb dX3_cancel_77 hl (k := 1) rfl (by rw [ex_24]; rfl) (by decide) rfl (fun ls hl => ?_)
              obtain ⟨x_25, ex_25⟩ : ∃ y : Int32, y = i + 1 := ⟨_, rfl⟩
              have i_25 : x_25.toInt = i.toInt + 1 := ki_add ex_25 rfl rfl (om_10 LP2_h0) (om_46 a1 LP2_h3)
              refine lv_iinc (v := x_25) (lv' := [(3, .int x_25), (2, .int x_24), (0, .ref h0), (1, .int p0)]) hx hb dX3_cancel_80 hl (k := 1) rfl (by rw [ex_25]; rfl) (by decide) rfl (fun ls hl => ?_)
              refine lv_goto (tgt := 47) hx hb dX3_cancel_83 (by decide) ?_
              exact ih2 x_25 x_24 (upd gn i.toNatClampNeg y_20) (om_31 LP2_h0 i_25) (om_31 LP2_h1 i_24) (om_49 LP2_h2 i_24 i_25) (om_47 i_18 i_25) (om_mu hn2 (om_5 i_25) (om_6 i_18)) _ _ hP hD hS ls (lv_sub hl [0, 1, 2, 3] rfl)
      have k_26 : (0 : Int32).toInt = 0 := rfl
      have k_27 : (0 : Int32).toInt = 0 := rfl
      exact LP2 ((vs.toInt - 0 : Int).toNat + 1) 0 0 o_3 om_32 om_32 om_32 (om_8 a0) (Nat.lt_succ_self _) _ _ hP hD hS ls (lv_sub hl [0, 1, 2, 3] rfl)
    · have i_16 : p0.toInt < vs.toInt := kc_nle c_16
      refine lv_aload_n hx hb dX3_cancel_17 rfl (lv_at hl 0 rfl) ?_
      refine va_get (D := (dC, dI)) (ci := 3) (v := .ref a_n) (C := RX3) (T := TX3) (N := 5) hx hb hts hi_3 hown hK hP 0 rfl rfl 1 (by decide) hf_15 (fun _ h9 => h9) rfl dX3_cancel_18 ?_
      refine lv_iload_n hx hb dX3_cancel_21 rfl (lv_at hl 1 rfl) ?_
      refine va_iald hx hb hK hP 2 0 rfl rfl (ki_in (om_8 i_4) (om_29 a1 i_16)) dX3_cancel_22 ?_
      refine lv_topi (fun y_28 ey_28 => ?_)
      have j_28 : y_28.toInt = (o_3 p0.toNatClampNeg).toInt := congrArg Int32.toInt ey_28
      refine lv_goto (tgt := 27) hx hb dX3_cancel_23 (by decide) ?_
      refine va_put (D := (dC, dI)) (ci := 3) (v := .int y_28) (ty := .int) (C := RX3) (T := TX3) (N := 5) hx hb hts hi_3 tyX3 tyX3_ok nmX3 hown hK hP hD hS 0 rfl rfl 4 (by decide) hf_25 (fun _ h9 => h9) rfl (by decide +kernel) rfl rfl (Nat.le_of_ble_eq_true rfl) dX3_cancel_27 (fun H locs hP hD hS => ?_)
      have hP : va_P (dC, dI) vwCl [kx_3 h0 a_v a_n vs lo y_28, kx_a a_v cyI 12 o_2, kx_a a_n cyI 12 o_3] H := hP
      have hD : va_D A [kx_3 h0 a_v a_n vs lo y_28, kx_a a_v cyI 12 o_2, kx_a a_n cyI 12 o_3] := hD
      refine lv_aload_n hx hb dX3_cancel_30 rfl (lv_at hl 0 rfl) ?_
      refine lv_dup hx hb dX3_cancel_31 rfl ?_
      refine va_get (D := (dC, dI)) (ci := 3) (v := .int lo) (C := RX3) (T := TX3) (N := 5) hx hb hts hi_3 hown hK hP 0 rfl rfl 3 (by decide) hf_22 (fun _ h9 => h9) rfl dX3_cancel_32 ?_
      refine lv_aload_n hx hb dX3_cancel_35 rfl (lv_at hl 0 rfl) ?_
      refine va_get (D := (dC, dI)) (ci := 3) (v := .int y_28) (C := RX3) (T := TX3) (N := 5) hx hb hts hi_3 hown hK hP 0 rfl rfl 4 (by decide) hf_25 (fun _ h9 => h9) rfl dX3_cancel_36 ?_
      refine lv_iadd hx hb dX3_cancel_39 ?_
      refine lv_topi (fun y_29 ey_29 => ?_)
      refine va_put (D := (dC, dI)) (ci := 3) (v := .int y_29) (ty := .int) (C := RX3) (T := TX3) (N := 5) hx hb hts hi_3 tyX3 tyX3_ok nmX3 hown hK hP hD hS 0 rfl rfl 3 (by decide) hf_22 (fun _ h9 => h9) rfl (by decide +kernel) rfl rfl (Nat.le_of_ble_eq_true rfl) dX3_cancel_40 (fun H locs hP hD hS => ?_)
      have hP : va_P (dC, dI) vwCl [kx_3 h0 a_v a_n vs y_29 y_28, kx_a a_v cyI 12 o_2, kx_a a_n cyI 12 o_3] H := hP
      have hD : va_D A [kx_3 h0 a_v a_n vs y_29 y_28, kx_a a_v cyI 12 o_2, kx_a a_n cyI 12 o_3] := hD
      refine lv_iconst (v := 0) hx hb dX3_cancel_43 (by decide) ?_
      refine lv_istore_n (lv' := [(2, .int 0), (0, .ref h0), (1, .int p0)]) hx hb dX3_cancel_44 rfl hl (by decide) rfl (fun ls hl => ?_)
      refine lv_iconst (v := 0) hx hb dX3_cancel_45 (by decide) ?_
      refine lv_istore_n (lv' := [(3, .int 0), (2, .int 0), (0, .ref h0), (1, .int p0)]) hx hb dX3_cancel_46 rfl hl (by decide) rfl (fun ls hl => ?_)
      have LP3 : ∀ (n : Nat) (i : Int32) (kept : Int32) (gn : Nat → Int32), (0 ≤ i.toInt) → (0 ≤ kept.toInt) → (kept.toInt ≤ i.toInt) → (i.toInt ≤ vs.toInt) → (vs.toInt - i.toInt).toNat < n → ∀ (H : Heap) (locs : List Loc), va_P (dC, dI) vwCl [kx_3 h0 a_v a_n vs y_29 y_28, kx_a a_v cyI 12 o_2, kx_a a_n cyI 12 gn] H → va_D A [kx_3 h0 a_v a_n vs y_29 y_28, kx_a a_v cyI 12 o_2, kx_a a_n cyI 12 gn] → va_S A s.heap H locs → ∀ (ls : Array Slot), lv_has ls 4 [(3, .int i), (2, .int kept), (0, .ref h0), (1, .int p0)] → W p l e (headSpec wsX3_cancel ({ frames := 2, cells := 0, slots := 0, locals := 90 })).room s m ([.ref h0, .int p0] : List Value).toArray below meth c H locs 0 0 (MQ below (va_Qv (fun u : Int32 × Int32 × Int32 × (Nat → Int32) × (Nat → Int32) => 0 ≤ u.1.toInt ∧ u.1.toInt ≤ vs.toInt) (fun (u : Int32 × Int32 × Int32 × (Nat → Int32) × (Nat → Int32)) (t : State) => va_P (dC, dI) vwCl [kx_3 h0 a_v a_n u.1 u.2.1 u.2.2.1, kx_a a_v cyI 12 u.2.2.2.1, kx_a a_n cyI 12 u.2.2.2.2] t.heap ∧ va_K (dC, dI) vwCl [(cyI, .int)] t ∧ va_D A [kx_3 h0 a_v a_n u.1 u.2.1 u.2.2.1, kx_a a_v cyI 12 u.2.2.2.1, kx_a a_n cyI 12 u.2.2.2.2]) A) ([.ref h0, .int p0] : List Value).toArray s 0 0 A) (F0 m 47 ls []) := by
        intro n
        induction n with
        | zero => intro i kept gn LP3_h0 LP3_h1 LP3_h2 LP3_h3 hn; exact absurd hn (Nat.not_lt_zero _)
        | succ n ih3 =>
          intro i kept gn LP3_h0 LP3_h1 LP3_h2 LP3_h3 hn3 H locs hP hD hS ls hl
          refine lv_iload_n hx hb dX3_cancel_47 rfl (lv_at hl 0 rfl) ?_
          refine lv_aload_n hx hb dX3_cancel_48 rfl (lv_at hl 2 rfl) ?_
          refine va_get (D := (dC, dI)) (ci := 3) (v := .int vs) (C := RX3) (T := TX3) (N := 5) hx hb hts hi_3 hown hK hP 0 rfl rfl 2 (by decide) hf_18 (fun _ h9 => h9) rfl dX3_cancel_49 ?_
          refine lv_icmp_ge (tgt := 86) hx hb dX3_cancel_52 (by decide) (fun c_30 => ?_) (fun c_30 => ?_)
          · have i_30 : vs.toInt ≤ i.toInt := kc_le c_30
            refine lv_aload_n hx hb dX3_cancel_86 rfl (lv_at hl 2 rfl) ?_
            refine lv_iload_n hx hb dX3_cancel_87 rfl (lv_at hl 1 rfl) ?_
            refine va_put (D := (dC, dI)) (ci := 3) (v := .int kept) (ty := .int) (C := RX3) (T := TX3) (N := 5) hx hb hts hi_3 tyX3 tyX3_ok nmX3 hown hK hP hD hS 0 rfl rfl 2 (by decide) hf_18 (fun _ h9 => h9) rfl (by decide +kernel) rfl rfl (Nat.le_of_ble_eq_true rfl) dX3_cancel_88 (fun H locs hP hD hS => ?_)
            have hP : va_P (dC, dI) vwCl [kx_3 h0 a_v a_n kept y_29 y_28, kx_a a_v cyI 12 o_2, kx_a a_n cyI 12 gn] H := hP
            have hD : va_D A [kx_3 h0 a_v a_n kept y_29 y_28, kx_a a_v cyI 12 o_2, kx_a a_n cyI 12 gn] := hD
            have hP9 := hP
            have hD9 := hD
            have hK9 := hK
            exact W.vret hx hb hr (fun t ht hW => ⟨⟨(kept, y_29, y_28, o_2, gn), rfl, (by (try dsimp only); omega), by rw [ht]; exact hP9, va_K.moved hW.alike hK9, hD9⟩, hS.F ht⟩) hS.2.2 dX3_cancel_91
          · have i_30 : i.toInt < vs.toInt := kc_nle c_30
            refine lv_aload_n hx hb dX3_cancel_55 rfl (lv_at hl 2 rfl) ?_
            refine va_get (D := (dC, dI)) (ci := 3) (v := .ref a_n) (C := RX3) (T := TX3) (N := 5) hx hb hts hi_3 hown hK hP 0 rfl rfl 1 (by decide) hf_15 (fun _ h9 => h9) rfl dX3_cancel_56 ?_
            refine lv_iload_n hx hb dX3_cancel_59 rfl (lv_at hl 0 rfl) ?_
            refine lv_dup2_11 hx hb dX3_cancel_60 rfl rfl ?_
            refine va_iald hx hb hK hP 2 0 rfl rfl (ki_in (om_8 LP3_h0) (om_29 a1 i_30)) dX3_cancel_61 ?_
            refine lv_topi (fun y_31 ey_31 => ?_)
            have j_31 : y_31.toInt = (gn i.toNatClampNeg).toInt := congrArg Int32.toInt ey_31
            refine lv_aload_n hx hb dX3_cancel_62 rfl (lv_at hl 2 rfl) ?_
            refine va_get (D := (dC, dI)) (ci := 3) (v := .int y_28) (C := RX3) (T := TX3) (N := 5) hx hb hts hi_3 hown hK hP 0 rfl rfl 4 (by decide) hf_25 (fun _ h9 => h9) rfl dX3_cancel_63 ?_
            refine lv_isub hx hb dX3_cancel_66 ?_
            refine lv_topi (fun y_32 ey_32 => ?_)
            refine va_iast hx hb hK hP hD hS 2 0 rfl rfl (ki_in (om_8 LP3_h0) (om_29 a1 i_30)) dX3_cancel_67 (fun H locs hP hD hS => ?_)
            have hP : va_P (dC, dI) vwCl [kx_3 h0 a_v a_n vs y_29 y_28, kx_a a_v cyI 12 o_2, kx_a a_n cyI 12 (upd gn i.toNatClampNeg y_32)] H := hP
            have hD : va_D A [kx_3 h0 a_v a_n vs y_29 y_28, kx_a a_v cyI 12 o_2, kx_a a_n cyI 12 (upd gn i.toNatClampNeg y_32)] := hD
            refine lv_aload_n hx hb dX3_cancel_68 rfl (lv_at hl 2 rfl) ?_
            refine va_get (D := (dC, dI)) (ci := 3) (v := .ref a_n) (C := RX3) (T := TX3) (N := 5) hx hb hts hi_3 hown hK hP 0 rfl rfl 1 (by decide) hf_15 (fun _ h9 => h9) rfl dX3_cancel_69 ?_
            refine lv_iload_n hx hb dX3_cancel_72 rfl (lv_at hl 0 rfl) ?_
            refine va_iald hx hb hK hP 2 0 rfl rfl (ki_in (om_8 LP3_h0) (om_29 a1 i_30)) dX3_cancel_73 ?_
            refine lv_topi (fun y_33 ey_33 => ?_)
            have j_33 : y_33.toInt = ((upd gn i.toNatClampNeg y_32) i.toNatClampNeg).toInt := congrArg Int32.toInt ey_33
            refine lv_if_le (tgt := 80) hx hb dX3_cancel_74 (by decide) (fun c_34 => ?_) (fun c_34 => ?_)
            · have i_34 : y_33.toInt ≤ 0 := kc_le c_34
              obtain ⟨x_35, ex_35⟩ : ∃ y : Int32, y = i + 1 := ⟨_, rfl⟩
              have i_35 : x_35.toInt = i.toInt + 1 := ki_add ex_35 rfl rfl (om_10 LP3_h0) (om_46 a1 LP3_h3)
              refine lv_iinc (v := x_35) (lv' := [(3, .int x_35), (2, .int kept), (0, .ref h0), (1, .int p0)]) hx hb dX3_cancel_80 hl (k := 0) rfl (by rw [ex_35]; rfl) (by decide) rfl (fun ls hl => ?_)
              refine lv_goto (tgt := 47) hx hb dX3_cancel_83 (by decide) ?_
              exact ih3 x_35 kept (upd gn i.toNatClampNeg y_32) (om_31 LP3_h0 i_35) (om_8 LP3_h1) (om_4 LP3_h2 i_35) (om_47 i_30 i_35) (om_mu hn3 (om_5 i_35) (om_6 i_30)) _ _ hP hD hS ls (lv_sub hl [0, 1, 2, 3] rfl)
            · have i_34 : 0 < y_33.toInt := kc_nle c_34
              obtain ⟨x_36, ex_36⟩ : ∃ y : Int32, y = kept + 1 := ⟨_, rfl⟩
              have i_36 : x_36.toInt = kept.toInt + 1 := ki_add ex_36 rfl rfl (om_10 LP3_h1) (om_48 a1 LP3_h2 LP3_h3)
              refine lv_iinc (v := x_36) (lv' := [(2, .int x_36), (3, .int i), (0, .ref h0), (1, .int p0)]) hx hb dX3_cancel_77 hl (k := 1) rfl (by rw [ex_36]; rfl) (by decide) rfl (fun ls hl => ?_)
              obtain ⟨x_37, ex_37⟩ : ∃ y : Int32, y = i + 1 := ⟨_, rfl⟩
              have i_37 : x_37.toInt = i.toInt + 1 := ki_add ex_37 rfl rfl (om_10 LP3_h0) (om_46 a1 LP3_h3)
              refine lv_iinc (v := x_37) (lv' := [(3, .int x_37), (2, .int x_36), (0, .ref h0), (1, .int p0)]) hx hb dX3_cancel_80 hl (k := 1) rfl (by rw [ex_37]; rfl) (by decide) rfl (fun ls hl => ?_)
              refine lv_goto (tgt := 47) hx hb dX3_cancel_83 (by decide) ?_
              exact ih3 x_37 x_36 (upd gn i.toNatClampNeg y_32) (om_31 LP3_h0 i_37) (om_31 LP3_h1 i_36) (om_49 LP3_h2 i_36 i_37) (om_47 i_30 i_37) (om_mu hn3 (om_5 i_37) (om_6 i_30)) _ _ hP hD hS ls (lv_sub hl [0, 1, 2, 3] rfl)
      have k_38 : (0 : Int32).toInt = 0 := rfl
      have k_39 : (0 : Int32).toInt = 0 := rfl
      exact LP3 ((vs.toInt - 0 : Int).toNat + 1) 0 0 o_3 om_32 om_32 om_32 (om_8 a0) (Nat.lt_succ_self _) _ _ hP hD hS ls (lv_sub hl [0, 1, 2, 3] rfl)

set_option maxHeartbeats 4000000 in
set_option maxRecDepth 100000 in
theorem c_X3_keepHeavy (l : Launch) (dC : Nat → ClassId) (dI : Nat → Nat → Nat) (h0 : Nat) (a_v : Nat) (a_n : Nat) (cyI : ClassId) (vs : Int32) (lo : Int32) (le : Int32) (fv : Nat → Int32) (fn : Nat → Int32) (p0 : Int32) (p1 : Int32) (p2 : Int32) (sz : Nat) (a0 : 0 ≤ vs.toInt) (a1 : vs.toInt ≤ 12) : Met l yX3_keepHeavy wsX3_keepHeavy ({ frames := 2, cells := 0, slots := 0, locals := 90 }) (va_Pc [.ref h0, .int p0, .int p1, .int p2] (fun U => U.heap.size = sz ∧ va_P (dC, dI) vwCl [kx_3 h0 a_v a_n vs lo le, kx_a a_v cyI 12 fv, kx_a a_n cyI 12 fn] U.heap ∧ va_K (dC, dI) vwCl [(cyI, .int)] U ∧ va_D (fun _ => True) [kx_3 h0 a_v a_n vs lo le, kx_a a_v cyI 12 fv, kx_a a_n cyI 12 fn] ∧ va_Nw (.methodLinkNest RX3 42 yX4_isHeavy RX4) U)) (va_Qv (fun u : Int32 × (Nat → Int32) × (Nat → Int32) => 0 ≤ u.1.toInt ∧ u.1.toInt ≤ vs.toInt) (fun (u : Int32 × (Nat → Int32) × (Nat → Int32)) (t : State) => va_P (dC, dI) vwCl [kx_3 h0 a_v a_n u.1 lo le, kx_a a_v cyI 12 u.2.1, kx_a a_n cyI 12 u.2.2] t.heap ∧ va_K (dC, dI) vwCl [(cyI, .int)] t ∧ va_D (va_A [kx_3 h0 a_v a_n vs lo le, kx_a a_v cyI 12 fv, kx_a a_n cyI 12 fn] sz) [kx_3 h0 a_v a_n u.1 lo le, kx_a a_v cyI 12 u.2.1, kx_a a_n cyI 12 u.2.2]) (va_A [kx_3 h0 a_v a_n vs lo le, kx_a a_v cyI 12 fv, kx_a a_n cyI 12 fn] sz)) 0 0 (va_A [kx_3 h0 a_v a_n vs lo le, kx_a a_v cyI 12 fv, kx_a a_n cyI 12 fn] sz) := by
  refine Met.ofW (cc := cX3_keepHeavy) (maxL := 6) (ret := none) (by decide) rfl ?_
  intro p e s m args below meth c s₁ B hml hv
  obtain ⟨rfl, hsz, hP, hK, hD0, hN0⟩ := hv
  have hx := B.exec
  have hb := B.bytes
  have hr := B.returns
  have hts := atoms_spec (ws := wsX3_keepHeavy) B.pre
  have hown : s.vm.findClass RX3 = some m.cls := findClass_of_methodNamed B.named
  have hlocks := B.notSynchronized
  subst hsz
  have hD := hD0.self (sz := s.heap.size)
  generalize hAe : va_A [kx_3 h0 a_v a_n vs lo le, kx_a a_v cyI 12 fv, kx_a a_n cyI 12 fn] s.heap.size = A at hD ⊢
  have hA : ∀ q : Nat, s.heap.size ≤ q → A q := fun q h => by rw [← hAe]; exact Or.inr h
  have hS : va_S A s.heap s.heap [] := va_S.rf
  have hP : va_P (dC, dI) vwCl [kx_3 h0 a_v a_n vs lo le, kx_a a_v cyI 12 fv, kx_a a_n cyI 12 fn] s.heap := hP
  have hl := lv_entry ([.ref h0, .int p0, .int p1, .int p2]) (n := 6) (Nat.le_of_ble_eq_true rfl)
  rw [lg_entry_eq]
  generalize (lg_sl ([.ref h0, .int p0, .int p1, .int p2]) ++ List.replicate (6 - (lg_sl ([.ref h0, .int p0, .int p1, .int p2])).length) Slot.unset).toArray = ls at hl ⊢
  have hl : lv_has ls 6 [(0, .ref h0), (1, .int p0), (2, .int p1), (3, .int p2)] := hl
  have hf_18 := hts (.fieldLink RX3 18 "MajorityIndex$Votes" "size" "I") (List.mem_of_getElem? (i := 1) rfl)
  have hi_3 : ∀ w ∈ u_ws RX3 TX3 5, w ∈ wsX3_keepHeavy := fun w h => List.mem_cons_of_mem _ (List.mem_append_right _ h)
  have hf_15 := hts (.fieldLink RX3 15 "MajorityIndex$Votes" "number" "[I") (List.mem_of_getElem? (i := 2) rfl)
  have hz_RX4 := hts (.initialized RX4) (List.mem_of_getElem? (i := 4) rfl)
  have ht_X4_isHeavy := hts (.static yX4_isHeavy) (List.mem_of_getElem? (i := 3) rfl)
  refine lv_iconst (v := 0) hx hb dX3_keepHeavy_0 (by decide) ?_
  refine lv_istore (lv' := [(4, .int 0), (0, .ref h0), (1, .int p0), (2, .int p1), (3, .int p2)]) hx hb dX3_keepHeavy_1 hl (by decide) rfl (fun ls hl => ?_)
  refine lv_iconst (v := 0) hx hb dX3_keepHeavy_3 (by decide) ?_
  refine lv_istore (lv' := [(5, .int 0), (4, .int 0), (0, .ref h0), (1, .int p0), (2, .int p1), (3, .int p2)]) hx hb dX3_keepHeavy_4 hl (by decide) rfl (fun ls hl => ?_)
  have LP1 : ∀ (n : Nat) (i : Int32) (kept : Int32) (gv : Nat → Int32) (gn : Nat → Int32), (0 ≤ i.toInt) → (0 ≤ kept.toInt) → (kept.toInt ≤ i.toInt) → (i.toInt ≤ vs.toInt) → (vs.toInt - i.toInt).toNat < n → ∀ (H : Heap) (locs : List Loc), va_P (dC, dI) vwCl [kx_3 h0 a_v a_n vs lo le, kx_a a_v cyI 12 gv, kx_a a_n cyI 12 gn] H → va_D A [kx_3 h0 a_v a_n vs lo le, kx_a a_v cyI 12 gv, kx_a a_n cyI 12 gn] → va_S A s.heap H locs → ∀ (ls : Array Slot), lv_has ls 6 [(5, .int i), (4, .int kept), (0, .ref h0), (1, .int p0), (2, .int p1), (3, .int p2)] → W p l e (headSpec wsX3_keepHeavy ({ frames := 2, cells := 0, slots := 0, locals := 90 })).room s m ([.ref h0, .int p0, .int p1, .int p2] : List Value).toArray below meth c H locs 0 0 (MQ below (va_Qv (fun u : Int32 × (Nat → Int32) × (Nat → Int32) => 0 ≤ u.1.toInt ∧ u.1.toInt ≤ vs.toInt) (fun (u : Int32 × (Nat → Int32) × (Nat → Int32)) (t : State) => va_P (dC, dI) vwCl [kx_3 h0 a_v a_n u.1 lo le, kx_a a_v cyI 12 u.2.1, kx_a a_n cyI 12 u.2.2] t.heap ∧ va_K (dC, dI) vwCl [(cyI, .int)] t ∧ va_D A [kx_3 h0 a_v a_n u.1 lo le, kx_a a_v cyI 12 u.2.1, kx_a a_n cyI 12 u.2.2]) A) ([.ref h0, .int p0, .int p1, .int p2] : List Value).toArray s 0 0 A) (F0 m 6 ls []) := by
    intro n
    induction n with
    | zero => intro i kept gv gn LP1_h0 LP1_h1 LP1_h2 LP1_h3 hn; exact absurd hn (Nat.not_lt_zero _)
    | succ n ih1 =>
      intro i kept gv gn LP1_h0 LP1_h1 LP1_h2 LP1_h3 hn1 H locs hP hD hS ls hl
      refine lv_iload hx hb dX3_keepHeavy_6 (lv_at hl 0 rfl) ?_
      refine lv_aload_n hx hb dX3_keepHeavy_8 rfl (lv_at hl 2 rfl) ?_
      refine va_get (D := (dC, dI)) (ci := 3) (v := .int vs) (C := RX3) (T := TX3) (N := 5) hx hb hts hi_3 hown hK hP 0 rfl rfl 2 (by decide) hf_18 (fun _ h9 => h9) rfl dX3_keepHeavy_9 ?_
      refine lv_icmp_ge (tgt := 48) hx hb dX3_keepHeavy_12 (by decide) (fun c_1 => ?_) (fun c_1 => ?_)
      · have i_1 : vs.toInt ≤ i.toInt := kc_le c_1
        refine lv_aload_n hx hb dX3_keepHeavy_48 rfl (lv_at hl 2 rfl) ?_
        refine lv_iload hx hb dX3_keepHeavy_49 (lv_at hl 1 rfl) ?_
        refine va_put (D := (dC, dI)) (ci := 3) (v := .int kept) (ty := .int) (C := RX3) (T := TX3) (N := 5) hx hb hts hi_3 tyX3 tyX3_ok nmX3 hown hK hP hD hS 0 rfl rfl 2 (by decide) hf_18 (fun _ h9 => h9) rfl (by decide +kernel) rfl rfl (Nat.le_of_ble_eq_true rfl) dX3_keepHeavy_51 (fun H locs hP hD hS => ?_)
        have hP : va_P (dC, dI) vwCl [kx_3 h0 a_v a_n kept lo le, kx_a a_v cyI 12 gv, kx_a a_n cyI 12 gn] H := hP
        have hD : va_D A [kx_3 h0 a_v a_n kept lo le, kx_a a_v cyI 12 gv, kx_a a_n cyI 12 gn] := hD
        refine lv_aload_n hx hb dX3_keepHeavy_54 rfl (lv_at hl 2 rfl) ?_
        have hPc := hP
        have hKc := hK
        have hDc := hD
        have hFc := kx_free hD hS hA
        refine va_callv (va_runV (As := []) (rest := []) ⟨hx, hb, hml, hown, hts⟩ (c_X3_order l dC dI h0 a_v a_n cyI kept lo le gv gn H.size LP1_h1 (om_50 a1 LP1_h2 LP1_h3)) (cwV 0 hts gX3_keepHeavy_X3_order rfl rfl rfl (by decide +kernel) ⟨Nat.le_of_ble_eq_true rfl, Nat.le_of_ble_eq_true rfl⟩) ⟨fun a U g mk q => by obtain ⟨q0, q1, qP, qK, qD⟩ := q; exact ⟨q0, q1, qP, va_K.moved (u := U) (U := U.calling g mk a) (Vm.Alike.refl U.vm) qK, qD⟩, va_recv hKc hPc (ci := 3) (q0 := 0) rfl rfl, fun U hU hW => ⟨rfl, by rw [hU], by rw [hU]; exact hPc, va_K.moved hW.alike hKc, hDc.weaken (fun _ _ _ _ => trivial)⟩⟩ rfl rfl hl.1 rfl (lv_room (Nat.le_of_ble_eq_true rfl)) dX3_keepHeavy_55 ⟨Nat.le_of_ble_eq_true rfl, Nat.le_of_ble_eq_true rfl⟩) hS (fun q _ h => hFc q h) hFc (fun u t H1 locs ht hvm w_2 hB hz1 hk1 hS => ?_)
        obtain ⟨o_3, o_4⟩ := u
        dsimp only at w_2 hB
        obtain ⟨hP1, hK1, hD1⟩ := hB
        rw [ht] at hP1
        have hK1 := va_K.moved hvm.symm hK1
        have hD := hD1.weaken (fun _ q _ h => hFc q.1 h)
        have hP := hP1
        clear hP1 hD1 hK1 hk1 hz1 hFc hDc hPc hKc
        generalize H1 = H at hP hS ⊢
        have w_2 : True := w_2
        have hP9 := hP
        have hD9 := hD
        have hK9 := hK
        exact W.vret hx hb hr (fun t ht hW => ⟨⟨(kept, o_3, o_4), rfl, (by (try dsimp only); omega), by rw [ht]; exact hP9, va_K.moved hW.alike hK9, hD9⟩, hS.F ht⟩) hS.2.2 dX3_keepHeavy_58
      · have i_1 : i.toInt < vs.toInt := kc_nle c_1
        refine lv_aload_n hx hb dX3_keepHeavy_15 rfl (lv_at hl 2 rfl) ?_
        refine va_get (D := (dC, dI)) (ci := 3) (v := .ref a_n) (C := RX3) (T := TX3) (N := 5) hx hb hts hi_3 hown hK hP 0 rfl rfl 1 (by decide) hf_15 (fun _ h9 => h9) rfl dX3_keepHeavy_16 ?_
        refine lv_iload hx hb dX3_keepHeavy_19 (lv_at hl 0 rfl) ?_
        refine va_iald hx hb hK hP 2 0 rfl rfl (ki_in (om_8 LP1_h0) (om_29 a1 i_1)) dX3_keepHeavy_21 ?_
        refine lv_topi (fun y_5 ey_5 => ?_)
        have j_5 : y_5.toInt = (gn i.toNatClampNeg).toInt := congrArg Int32.toInt ey_5
        refine lv_iload_n hx hb dX3_keepHeavy_22 rfl (lv_at hl 3 rfl) ?_
        refine lv_iload_n hx hb dX3_keepHeavy_23 rfl (lv_at hl 4 rfl) ?_
        refine lv_iload_n hx hb dX3_keepHeavy_24 rfl (lv_at hl 5 rfl) ?_
        have hPc := hP.sub (ws' := []) [] rfl
        have hKc := hK.sub (tys' := []) [] rfl
        refine vp_callSi (ki_ofRun (va_runSN (As := [.int y_5, .int p0, .int p1, .int p2]) (rest := []) ⟨hx, hb, hml, hown, hts⟩ (c_X4_isHeavy l dC dI y_5 p0 p1 p2) ⟨(va_cnB 4 hts ggX3_keepHeavy_X4_isHeavy rfl rfl rfl hN0 hz_RX4 (by decide +kernel) ⟨Nat.le_of_ble_eq_true rfl, Nat.le_of_ble_eq_true rfl⟩), ht_X4_isHeavy, trivial⟩ ⟨fun a U g mk q => by obtain ⟨q0, qP, qK⟩ := q; exact ⟨q0, qP, va_K.moved (u := U) (U := U.calling g mk a) (Vm.Alike.refl U.vm) qK⟩, fun U hU hW => ⟨rfl, by rw [hU]; exact hPc, va_K.moved hW.alike hKc⟩⟩ rfl rfl hl.1 rfl (lv_room (Nat.le_of_ble_eq_true rfl)) dX3_keepHeavy_25 ⟨Nat.le_of_ble_eq_true rfl, Nat.le_of_ble_eq_true rfl⟩)) (fun r_6 w_6 => ?_)
        rcases w_6 with ⟨rfl, w_6⟩ | ⟨rfl, w_6⟩
        · have w_6 : (0 : Int) ≤ 1 := w_6
          refine lv_if_eq (tgt := 42) hx hb dX3_keepHeavy_28 (by decide) (fun c_7 => ?_) (fun c_7 => ?_)
          · exact absurd c_7 (by decide)
          · refine lv_aload_n hx hb dX3_keepHeavy_31 rfl (lv_at hl 2 rfl) ?_
            refine lv_iload hx hb dX3_keepHeavy_32 (lv_at hl 0 rfl) ?_
            refine lv_iload hx hb dX3_keepHeavy_34 (lv_at hl 1 rfl) ?_
            have hPc := hP
            have hKc := hK
            have hDc := hD
            have hFc := kx_free hD hS hA
            refine va_callv (va_runV (As := [.int i, .int kept]) (rest := []) ⟨hx, hb, hml, hown, hts⟩ (c_X3_exchange l dC dI h0 a_v a_n cyI vs lo le gv gn i kept H.size LP1_h0 (om_51 a1 i_1) LP1_h1 (om_52 a1 LP1_h2 i_1)) (cwV 2 hts gX3_keepHeavy_X3_exchange rfl rfl rfl (by decide +kernel) ⟨Nat.le_of_ble_eq_true rfl, Nat.le_of_ble_eq_true rfl⟩) ⟨fun a U g mk q => by obtain ⟨q0, q1, qP, qK, qD⟩ := q; exact ⟨q0, q1, qP, va_K.moved (u := U) (U := U.calling g mk a) (Vm.Alike.refl U.vm) qK, qD⟩, va_recv hKc hPc (ci := 3) (q0 := 0) rfl rfl, fun U hU hW => ⟨rfl, by rw [hU], by rw [hU]; exact hPc, va_K.moved hW.alike hKc, hDc.weaken (fun _ _ _ _ => trivial)⟩⟩ rfl rfl hl.1 rfl (lv_room (Nat.le_of_ble_eq_true rfl)) dX3_keepHeavy_36 ⟨Nat.le_of_ble_eq_true rfl, Nat.le_of_ble_eq_true rfl⟩) hS (fun q _ h => hFc q h) hFc (fun u t H1 locs ht hvm w_8 hB hz1 hk1 hS => ?_)
            obtain ⟨o_9, o_10⟩ := u
            dsimp only at w_8 hB
            obtain ⟨hP1, hK1, hD1⟩ := hB
            rw [ht] at hP1
            have hK1 := va_K.moved hvm.symm hK1
            have hD := hD1.weaken (fun _ q _ h => hFc q.1 h)
            have hP := hP1
            clear hP1 hD1 hK1 hk1 hz1 hFc hDc hPc hKc
            generalize H1 = H at hP hS ⊢
            have w_8 : o_9 = upd (upd gv i.toNatClampNeg (gv kept.toNatClampNeg)) kept.toNatClampNeg (gv i.toNatClampNeg) ∧ o_10 = upd (upd gn i.toNatClampNeg (gn kept.toNatClampNeg)) kept.toNatClampNeg (gn i.toNatClampNeg) := w_8
            obtain ⟨x_11, ex_11⟩ : ∃ y : Int32, y = kept + 1 := ⟨_, rfl⟩
            have i_11 : x_11.toInt = kept.toInt + 1 := ki_add ex_11 rfl rfl (om_10 LP1_h1) (om_48 a1 LP1_h2 LP1_h3)
            refine lv_iinc (v := x_11) (lv' := [(4, .int x_11), (5, .int i), (0, .ref h0), (1, .int p0), (2, .int p1), (3, .int p2)]) hx hb dX3_keepHeavy_39 hl (k := 1) rfl (by rw [ex_11]; rfl) (by decide) rfl (fun ls hl => ?_)
            obtain ⟨x_12, ex_12⟩ : ∃ y : Int32, y = i + 1 := ⟨_, rfl⟩
            have i_12 : x_12.toInt = i.toInt + 1 := ki_add ex_12 rfl rfl (om_10 LP1_h0) (om_46 a1 LP1_h3)
            refine lv_iinc (v := x_12) (lv' := [(5, .int x_12), (4, .int x_11), (0, .ref h0), (1, .int p0), (2, .int p1), (3, .int p2)]) hx hb dX3_keepHeavy_42 hl (k := 1) rfl (by rw [ex_12]; rfl) (by decide) rfl (fun ls hl => ?_)
            refine lv_goto (tgt := 6) hx hb dX3_keepHeavy_45 (by decide) ?_
            exact ih1 x_12 x_11 o_9 o_10 (om_31 LP1_h0 i_12) (om_31 LP1_h1 i_11) (om_49 LP1_h2 i_11 i_12) (om_47 i_1 i_12) (om_mu hn1 (om_5 i_12) (om_6 i_1)) _ _ hP hD hS ls (lv_sub hl [0, 1, 2, 3, 4, 5] rfl)
        · have w_6 : (0 : Int) ≤ 1 := w_6
          refine lv_if_eq (tgt := 42) hx hb dX3_keepHeavy_28 (by decide) (fun c_13 => ?_) (fun c_13 => ?_)
          · obtain ⟨x_14, ex_14⟩ : ∃ y : Int32, y = i + 1 := ⟨_, rfl⟩
            have i_14 : x_14.toInt = i.toInt + 1 := ki_add ex_14 rfl rfl (om_10 LP1_h0) (om_46 a1 LP1_h3)
            refine lv_iinc (v := x_14) (lv' := [(5, .int x_14), (4, .int kept), (0, .ref h0), (1, .int p0), (2, .int p1), (3, .int p2)]) hx hb dX3_keepHeavy_42 hl (k := 0) rfl (by rw [ex_14]; rfl) (by decide) rfl (fun ls hl => ?_)
            refine lv_goto (tgt := 6) hx hb dX3_keepHeavy_45 (by decide) ?_
            exact ih1 x_14 kept gv gn (om_31 LP1_h0 i_14) (om_8 LP1_h1) (om_4 LP1_h2 i_14) (om_47 i_1 i_14) (om_mu hn1 (om_5 i_14) (om_6 i_1)) _ _ hP hD hS ls (lv_sub hl [0, 1, 2, 3, 4, 5] rfl)
          · exact absurd c_13 (by decide)
  have k_15 : (0 : Int32).toInt = 0 := rfl
  have k_16 : (0 : Int32).toInt = 0 := rfl
  exact LP1 ((vs.toInt - 0 : Int).toNat + 1) 0 0 fv fn om_32 om_32 om_32 (om_8 a0) (Nat.lt_succ_self _) _ _ hP hD hS ls (lv_sub hl [0, 1, 2, 3, 4, 5] rfl)

set_option maxHeartbeats 4000000 in
set_option maxRecDepth 100000 in
theorem c_X3_numberOf (l : Launch) (dC : Nat → ClassId) (dI : Nat → Nat → Nat) (h0 : Nat) (a_v : Nat) (a_n : Nat) (cyI : ClassId) (vs : Int32) (lo : Int32) (le : Int32) (fv : Nat → Int32) (fn : Nat → Int32) (p0 : Int32) (a0 : 0 ≤ vs.toInt) (a1 : vs.toInt ≤ 12) : Met l yX3_numberOf wsX3_numberOf ({ frames := 0, cells := 0, slots := 0, locals := 0 }) (va_Pc [.ref h0, .int p0] (fun U => va_P (dC, dI) vwCl [kx_3 h0 a_v a_n vs lo le, kx_a a_v cyI 12 fv, kx_a a_n cyI 12 fn] U.heap ∧ va_K (dC, dI) vwCl [(cyI, .int)] U)) (vp_Si (fun r : Int32 => True)) 0 0 (fun _ => False) := by
  refine Met.ofW (cc := cX3_numberOf) (maxL := 3) (ret := (some .int)) (by decide) rfl ?_
  intro p e s m args below meth c s₁ B hml hv
  obtain ⟨rfl, hP, hK⟩ := hv
  have hx := B.exec
  have hb := B.bytes
  have hr := B.returns
  have hts := atoms_spec (ws := wsX3_numberOf) B.pre
  have hown : s.vm.findClass RX3 = some m.cls := findClass_of_methodNamed B.named
  have hlocks := B.notSynchronized
  have hP : va_P (dC, dI) vwCl [kx_3 h0 a_v a_n vs lo le, kx_a a_v cyI 12 fv, kx_a a_n cyI 12 fn] s.heap := hP
  have hl := lv_entry ([.ref h0, .int p0]) (n := 3) (Nat.le_of_ble_eq_true rfl)
  rw [lg_entry_eq]
  generalize (lg_sl ([.ref h0, .int p0]) ++ List.replicate (3 - (lg_sl ([.ref h0, .int p0])).length) Slot.unset).toArray = ls at hl ⊢
  have hl : lv_has ls 3 [(0, .ref h0), (1, .int p0)] := hl
  have hf_18 := hts (.fieldLink RX3 18 "MajorityIndex$Votes" "size" "I") (List.mem_of_getElem? (i := 1) rfl)
  have hi_3 : ∀ w ∈ u_ws RX3 TX3 5, w ∈ wsX3_numberOf := fun w h => List.mem_cons_of_mem _ (List.mem_append_right _ h)
  have hf_9 := hts (.fieldLink RX3 9 "MajorityIndex$Votes" "value" "[I") (List.mem_of_getElem? (i := 2) rfl)
  have hf_15 := hts (.fieldLink RX3 15 "MajorityIndex$Votes" "number" "[I") (List.mem_of_getElem? (i := 3) rfl)
  refine lv_iconst (v := 0) hx hb dX3_numberOf_0 (by decide) ?_
  refine lv_istore_n (lv' := [(2, .int 0), (0, .ref h0), (1, .int p0)]) hx hb dX3_numberOf_1 rfl hl (by decide) rfl (fun ls hl => ?_)
  have LP1 : ∀ (n : Nat) (i : Int32), (0 ≤ i.toInt) → (vs.toInt - i.toInt).toNat < n → ∀ (ls : Array Slot), lv_has ls 3 [(2, .int i), (0, .ref h0), (1, .int p0)] → W p l e (headSpec wsX3_numberOf ({ frames := 0, cells := 0, slots := 0, locals := 0 })).room s m ([.ref h0, .int p0] : List Value).toArray below meth c s.heap [] 0 0 (MQ below (vp_Si (fun r : Int32 => True)) ([.ref h0, .int p0] : List Value).toArray s 0 0 (fun _ => False)) (F0 m 2 ls []) := by
    intro n
    induction n with
    | zero => intro i LP1_h0 hn; exact absurd hn (Nat.not_lt_zero _)
    | succ n ih1 =>
      intro i LP1_h0 hn1 ls hl
      refine lv_iload_n hx hb dX3_numberOf_2 rfl (lv_at hl 0 rfl) ?_
      refine lv_aload_n hx hb dX3_numberOf_3 rfl (lv_at hl 1 rfl) ?_
      refine va_get (D := (dC, dI)) (ci := 3) (v := .int vs) (C := RX3) (T := TX3) (N := 5) hx hb hts hi_3 hown hK hP 0 rfl rfl 2 (by decide) hf_18 (fun _ h9 => h9) rfl dX3_numberOf_4 ?_
      refine lv_icmp_ge (tgt := 33) hx hb dX3_numberOf_7 (by decide) (fun c_1 => ?_) (fun c_1 => ?_)
      · have i_1 : vs.toInt ≤ i.toInt := kc_le c_1
        refine lv_iconst (v := 0) hx hb dX3_numberOf_33 (by decide) ?_
        exact W.iret (v := 0) hx hb hr (fun t ht hW => ⟨0, rfl, trivial, ht⟩) (fun q hq => by cases hq) dX3_numberOf_34
      · have i_1 : i.toInt < vs.toInt := kc_nle c_1
        refine lv_aload_n hx hb dX3_numberOf_10 rfl (lv_at hl 1 rfl) ?_
        refine va_get (D := (dC, dI)) (ci := 3) (v := .ref a_v) (C := RX3) (T := TX3) (N := 5) hx hb hts hi_3 hown hK hP 0 rfl rfl 0 (by decide) hf_9 (fun _ h9 => h9) rfl dX3_numberOf_11 ?_
        refine lv_iload_n hx hb dX3_numberOf_14 rfl (lv_at hl 0 rfl) ?_
        refine va_iald hx hb hK hP 1 0 rfl rfl (ki_in (om_8 LP1_h0) (om_29 a1 i_1)) dX3_numberOf_15 ?_
        refine lv_topi (fun y_2 ey_2 => ?_)
        have j_2 : y_2.toInt = (fv i.toNatClampNeg).toInt := congrArg Int32.toInt ey_2
        refine lv_iload_n hx hb dX3_numberOf_16 rfl (lv_at hl 2 rfl) ?_
        refine lv_icmp_ne (tgt := 27) hx hb dX3_numberOf_17 (by decide) (fun c_3 => ?_) (fun c_3 => ?_)
        · have i_3 : ¬ y_2.toInt = p0.toInt := kc_ne c_3
          obtain ⟨x_4, ex_4⟩ : ∃ y : Int32, y = i + 1 := ⟨_, rfl⟩
          have i_4 : x_4.toInt = i.toInt + 1 := ki_add ex_4 rfl rfl (om_10 LP1_h0) (om_30 a1 i_1)
          refine lv_iinc (v := x_4) (lv' := [(2, .int x_4), (0, .ref h0), (1, .int p0)]) hx hb dX3_numberOf_27 hl (k := 0) rfl (by rw [ex_4]; rfl) (by decide) rfl (fun ls hl => ?_)
          refine lv_goto (tgt := 2) hx hb dX3_numberOf_30 (by decide) ?_
          exact ih1 x_4 (om_31 LP1_h0 i_4) (om_mu hn1 (om_5 i_4) (om_6 i_1)) ls (lv_sub hl [0, 1, 2] rfl)
        · have i_3 : y_2.toInt = p0.toInt := kc_eq c_3
          refine lv_aload_n hx hb dX3_numberOf_20 rfl (lv_at hl 1 rfl) ?_
          refine va_get (D := (dC, dI)) (ci := 3) (v := .ref a_n) (C := RX3) (T := TX3) (N := 5) hx hb hts hi_3 hown hK hP 0 rfl rfl 1 (by decide) hf_15 (fun _ h9 => h9) rfl dX3_numberOf_21 ?_
          refine lv_iload_n hx hb dX3_numberOf_24 rfl (lv_at hl 0 rfl) ?_
          refine va_iald hx hb hK hP 2 0 rfl rfl (ki_in (om_8 LP1_h0) (om_29 a1 i_1)) dX3_numberOf_25 ?_
          refine lv_topi (fun y_5 ey_5 => ?_)
          have j_5 : y_5.toInt = (fn i.toNatClampNeg).toInt := congrArg Int32.toInt ey_5
          exact W.iret (v := y_5) hx hb hr (fun t ht hW => ⟨y_5, rfl, trivial, ht⟩) (fun q hq => by cases hq) dX3_numberOf_26
  have k_6 : (0 : Int32).toInt = 0 := rfl
  exact LP1 ((vs.toInt - 0 : Int).toNat + 1) 0 om_32 (Nat.lt_succ_self _) ls (lv_sub hl [0, 1, 2] rfl)

set_option maxHeartbeats 4000000 in
set_option maxRecDepth 100000 in
theorem c_X3_join (l : Launch) (dC : Nat → ClassId) (dI : Nat → Nat → Nat) (h0 : Nat) (a_v : Nat) (a_n : Nat) (cyI : ClassId) (vs : Int32) (lo : Int32) (le : Int32) (fv : Nat → Int32) (fn : Nat → Int32) (k0 : Nat) (kv : Nat) (kn : Nat) (sb : Int32) (lb : Int32) (eb : Int32) (gb : Nat → Int32) (nb : Nat → Int32) (sz : Nat) (a0 : 0 ≤ vs.toInt) (a1 : vs.toInt ≤ 12) (b0 : 0 ≤ sb.toInt) (b1 : sb.toInt ≤ 12) : Met l yX3_join wsX3_join ({ frames := 1, cells := 0, slots := 0, locals := 45 }) (va_Pc [.ref h0, .ref k0] (fun U => U.heap.size = sz ∧ va_P (dC, dI) vwCl [kx_3 h0 a_v a_n vs lo le, kx_a a_v cyI 12 fv, kx_a a_n cyI 12 fn, kx_3 k0 kv kn sb lb eb, kx_a kv cyI 12 gb, kx_a kn cyI 12 nb] U.heap ∧ va_K (dC, dI) vwCl [(cyI, .int)] U ∧ va_D (fun _ => True) [kx_3 h0 a_v a_n vs lo le, kx_a a_v cyI 12 fv, kx_a a_n cyI 12 fn, kx_3 k0 kv kn sb lb eb, kx_a kv cyI 12 gb, kx_a kn cyI 12 nb])) (va_Qv (fun u : Int32 × Int32 × (Nat → Int32) × (Nat → Int32) => 0 ≤ u.1.toInt ∧ u.1.toInt ≤ 12) (fun (u : Int32 × Int32 × (Nat → Int32) × (Nat → Int32)) (t : State) => va_P (dC, dI) vwCl [kx_3 h0 a_v a_n u.1 u.2.1 le, kx_a a_v cyI 12 u.2.2.1, kx_a a_n cyI 12 u.2.2.2, kx_3 k0 kv kn sb lb eb, kx_a kv cyI 12 gb, kx_a kn cyI 12 nb] t.heap ∧ va_K (dC, dI) vwCl [(cyI, .int)] t ∧ va_D (va_A [kx_3 h0 a_v a_n vs lo le, kx_a a_v cyI 12 fv, kx_a a_n cyI 12 fn, kx_3 k0 kv kn sb lb eb, kx_a kv cyI 12 gb, kx_a kn cyI 12 nb] sz) [kx_3 h0 a_v a_n u.1 u.2.1 le, kx_a a_v cyI 12 u.2.2.1, kx_a a_n cyI 12 u.2.2.2, kx_3 k0 kv kn sb lb eb, kx_a kv cyI 12 gb, kx_a kn cyI 12 nb]) (va_A [kx_3 h0 a_v a_n vs lo le, kx_a a_v cyI 12 fv, kx_a a_n cyI 12 fn, kx_3 k0 kv kn sb lb eb, kx_a kv cyI 12 gb, kx_a kn cyI 12 nb] sz)) 0 0 (va_A [kx_3 h0 a_v a_n vs lo le, kx_a a_v cyI 12 fv, kx_a a_n cyI 12 fn, kx_3 k0 kv kn sb lb eb, kx_a kv cyI 12 gb, kx_a kn cyI 12 nb] sz) := by
  refine Met.ofW (cc := cX3_join) (maxL := 3) (ret := none) (by decide) rfl ?_
  intro p e s m args below meth c s₁ B hml hv
  obtain ⟨rfl, hsz, hP, hK, hD0⟩ := hv
  have hx := B.exec
  have hb := B.bytes
  have hr := B.returns
  have hts := atoms_spec (ws := wsX3_join) B.pre
  have hown : s.vm.findClass RX3 = some m.cls := findClass_of_methodNamed B.named
  have hlocks := B.notSynchronized
  subst hsz
  have hD := hD0.self (sz := s.heap.size)
  generalize hAe : va_A [kx_3 h0 a_v a_n vs lo le, kx_a a_v cyI 12 fv, kx_a a_n cyI 12 fn, kx_3 k0 kv kn sb lb eb, kx_a kv cyI 12 gb, kx_a kn cyI 12 nb] s.heap.size = A at hD ⊢
  have hA : ∀ q : Nat, s.heap.size ≤ q → A q := fun q h => by rw [← hAe]; exact Or.inr h
  have hS : va_S A s.heap s.heap [] := va_S.rf
  have hP : va_P (dC, dI) vwCl [kx_3 h0 a_v a_n vs lo le, kx_a a_v cyI 12 fv, kx_a a_n cyI 12 fn, kx_3 k0 kv kn sb lb eb, kx_a kv cyI 12 gb, kx_a kn cyI 12 nb] s.heap := hP
  have hl := lv_entry ([.ref h0, .ref k0]) (n := 3) (Nat.le_of_ble_eq_true rfl)
  rw [lg_entry_eq]
  generalize (lg_sl ([.ref h0, .ref k0]) ++ List.replicate (3 - (lg_sl ([.ref h0, .ref k0])).length) Slot.unset).toArray = ls at hl ⊢
  have hl : lv_has ls 3 [(0, .ref h0), (1, .ref k0)] := hl
  have hf_18 := hts (.fieldLink RX3 18 "MajorityIndex$Votes" "size" "I") (List.mem_of_getElem? (i := 1) rfl)
  have hi_3 : ∀ w ∈ u_ws RX3 TX3 5, w ∈ wsX3_join := fun w h => List.mem_cons_of_mem _ (List.mem_append_right _ h)
  have hf_22 := hts (.fieldLink RX3 22 "MajorityIndex$Votes" "lost" "I") (List.mem_of_getElem? (i := 4) rfl)
  have hf_9 := hts (.fieldLink RX3 9 "MajorityIndex$Votes" "value" "[I") (List.mem_of_getElem? (i := 2) rfl)
  have hf_15 := hts (.fieldLink RX3 15 "MajorityIndex$Votes" "number" "[I") (List.mem_of_getElem? (i := 3) rfl)
  refine lv_iconst (v := 0) hx hb dX3_join_0 (by decide) ?_
  refine lv_istore_n (lv' := [(2, .int 0), (0, .ref h0), (1, .ref k0)]) hx hb dX3_join_1 rfl hl (by decide) rfl (fun ls hl => ?_)
  have LP1 : ∀ (n : Nat) (i : Int32) (zz : Int32) (yv : Nat → Int32) (yn : Nat → Int32), (0 ≤ i.toInt) → (0 ≤ zz.toInt) → (zz.toInt ≤ 12) → (sb.toInt - i.toInt).toNat < n → ∀ (H : Heap) (locs : List Loc), va_P (dC, dI) vwCl [kx_3 h0 a_v a_n zz lo le, kx_a a_v cyI 12 yv, kx_a a_n cyI 12 yn, kx_3 k0 kv kn sb lb eb, kx_a kv cyI 12 gb, kx_a kn cyI 12 nb] H → va_D A [kx_3 h0 a_v a_n zz lo le, kx_a a_v cyI 12 yv, kx_a a_n cyI 12 yn, kx_3 k0 kv kn sb lb eb, kx_a kv cyI 12 gb, kx_a kn cyI 12 nb] → va_S A s.heap H locs → ∀ (ls : Array Slot), lv_has ls 3 [(2, .int i), (0, .ref h0), (1, .ref k0)] → W p l e (headSpec wsX3_join ({ frames := 1, cells := 0, slots := 0, locals := 45 })).room s m ([.ref h0, .ref k0] : List Value).toArray below meth c H locs 0 0 (MQ below (va_Qv (fun u : Int32 × Int32 × (Nat → Int32) × (Nat → Int32) => 0 ≤ u.1.toInt ∧ u.1.toInt ≤ 12) (fun (u : Int32 × Int32 × (Nat → Int32) × (Nat → Int32)) (t : State) => va_P (dC, dI) vwCl [kx_3 h0 a_v a_n u.1 u.2.1 le, kx_a a_v cyI 12 u.2.2.1, kx_a a_n cyI 12 u.2.2.2, kx_3 k0 kv kn sb lb eb, kx_a kv cyI 12 gb, kx_a kn cyI 12 nb] t.heap ∧ va_K (dC, dI) vwCl [(cyI, .int)] t ∧ va_D A [kx_3 h0 a_v a_n u.1 u.2.1 le, kx_a a_v cyI 12 u.2.2.1, kx_a a_n cyI 12 u.2.2.2, kx_3 k0 kv kn sb lb eb, kx_a kv cyI 12 gb, kx_a kn cyI 12 nb]) A) ([.ref h0, .ref k0] : List Value).toArray s 0 0 A) (F0 m 2 ls []) := by
    intro n
    induction n with
    | zero => intro i zz yv yn LP1_h0 LP1_h1 LP1_h2 hn; exact absurd hn (Nat.not_lt_zero _)
    | succ n ih1 =>
      intro i zz yv yn LP1_h0 LP1_h1 LP1_h2 hn1 H locs hP hD hS ls hl
      refine lv_iload_n hx hb dX3_join_2 rfl (lv_at hl 0 rfl) ?_
      refine lv_aload_n hx hb dX3_join_3 rfl (lv_at hl 2 rfl) ?_
      refine va_get (D := (dC, dI)) (ci := 3) (v := .int sb) (C := RX3) (T := TX3) (N := 5) hx hb hts hi_3 hown hK hP 3 rfl rfl 2 (by decide) hf_18 (fun _ h9 => h9) rfl dX3_join_4 ?_
      refine lv_icmp_ge (tgt := 32) hx hb dX3_join_7 (by decide) (fun c_1 => ?_) (fun c_1 => ?_)
      · have i_1 : sb.toInt ≤ i.toInt := kc_le c_1
        refine lv_aload_n hx hb dX3_join_32 rfl (lv_at hl 1 rfl) ?_
        refine lv_dup hx hb dX3_join_33 rfl ?_
        refine va_get (D := (dC, dI)) (ci := 3) (v := .int lo) (C := RX3) (T := TX3) (N := 5) hx hb hts hi_3 hown hK hP 0 rfl rfl 3 (by decide) hf_22 (fun _ h9 => h9) rfl dX3_join_34 ?_
        refine lv_aload_n hx hb dX3_join_37 rfl (lv_at hl 2 rfl) ?_
        refine va_get (D := (dC, dI)) (ci := 3) (v := .int lb) (C := RX3) (T := TX3) (N := 5) hx hb hts hi_3 hown hK hP 3 rfl rfl 3 (by decide) hf_22 (fun _ h9 => h9) rfl dX3_join_38 ?_
        refine lv_iadd hx hb dX3_join_41 ?_
        refine lv_topi (fun y_2 ey_2 => ?_)
        refine va_put (D := (dC, dI)) (ci := 3) (v := .int y_2) (ty := .int) (C := RX3) (T := TX3) (N := 5) hx hb hts hi_3 tyX3 tyX3_ok nmX3 hown hK hP hD hS 0 rfl rfl 3 (by decide) hf_22 (fun _ h9 => h9) rfl (by decide +kernel) rfl rfl (Nat.le_of_ble_eq_true rfl) dX3_join_42 (fun H locs hP hD hS => ?_)
        have hP : va_P (dC, dI) vwCl [kx_3 h0 a_v a_n zz y_2 le, kx_a a_v cyI 12 yv, kx_a a_n cyI 12 yn, kx_3 k0 kv kn sb lb eb, kx_a kv cyI 12 gb, kx_a kn cyI 12 nb] H := hP
        have hD : va_D A [kx_3 h0 a_v a_n zz y_2 le, kx_a a_v cyI 12 yv, kx_a a_n cyI 12 yn, kx_3 k0 kv kn sb lb eb, kx_a kv cyI 12 gb, kx_a kn cyI 12 nb] := hD
        have hP9 := hP
        have hD9 := hD
        have hK9 := hK
        exact W.vret hx hb hr (fun t ht hW => ⟨⟨(zz, y_2, yv, yn), rfl, (by (try dsimp only); omega), by rw [ht]; exact hP9, va_K.moved hW.alike hK9, hD9⟩, hS.F ht⟩) hS.2.2 dX3_join_45
      · have i_1 : i.toInt < sb.toInt := kc_nle c_1
        refine lv_aload_n hx hb dX3_join_10 rfl (lv_at hl 1 rfl) ?_
        refine lv_aload_n hx hb dX3_join_11 rfl (lv_at hl 2 rfl) ?_
        refine va_get (D := (dC, dI)) (ci := 3) (v := .ref kv) (C := RX3) (T := TX3) (N := 5) hx hb hts hi_3 hown hK hP 3 rfl rfl 0 (by decide) hf_9 (fun _ h9 => h9) rfl dX3_join_12 ?_
        refine lv_iload_n hx hb dX3_join_15 rfl (lv_at hl 0 rfl) ?_
        refine va_iald hx hb hK hP 4 0 rfl rfl (ki_in (om_8 LP1_h0) (om_29 b1 i_1)) dX3_join_16 ?_
        refine lv_topi (fun y_3 ey_3 => ?_)
        have j_3 : y_3.toInt = (gb i.toNatClampNeg).toInt := congrArg Int32.toInt ey_3
        refine lv_aload_n hx hb dX3_join_17 rfl (lv_at hl 2 rfl) ?_
        refine va_get (D := (dC, dI)) (ci := 3) (v := .ref kn) (C := RX3) (T := TX3) (N := 5) hx hb hts hi_3 hown hK hP 3 rfl rfl 1 (by decide) hf_15 (fun _ h9 => h9) rfl dX3_join_18 ?_
        refine lv_iload_n hx hb dX3_join_21 rfl (lv_at hl 0 rfl) ?_
        refine va_iald hx hb hK hP 5 0 rfl rfl (ki_in (om_8 LP1_h0) (om_29 b1 i_1)) dX3_join_22 ?_
        refine lv_topi (fun y_4 ey_4 => ?_)
        have j_4 : y_4.toInt = (nb i.toNatClampNeg).toInt := congrArg Int32.toInt ey_4
        have hPc := hP.sub (ws' := [kx_3 h0 a_v a_n zz lo le, kx_a a_v cyI 12 yv, kx_a a_n cyI 12 yn]) [0, 1, 2] rfl
        have hKc := hK
        have hDc := hD.sub (ws' := [kx_3 h0 a_v a_n zz lo le, kx_a a_v cyI 12 yv, kx_a a_n cyI 12 yn]) [0, 1, 2] (by decide) rfl
        have hFc := va_free (wc := [kx_3 h0 a_v a_n zz lo le, kx_a a_v cyI 12 yv, kx_a a_n cyI 12 yn]) hD hS hA [0, 1, 2] rfl
        refine va_callv (va_runV (As := [.int y_3, .int y_4]) (rest := []) ⟨hx, hb, hml, hown, hts⟩ (c_X3_add l dC dI h0 a_v a_n cyI zz lo le yv yn y_3 y_4 H.size LP1_h1 LP1_h2) (cwV 2 hts gX3_join_X3_add rfl rfl rfl (by decide +kernel) ⟨Nat.le_of_ble_eq_true rfl, Nat.le_of_ble_eq_true rfl⟩) ⟨fun a U g mk q => by obtain ⟨q0, q1, qP, qK, qD⟩ := q; exact ⟨q0, q1, qP, va_K.moved (u := U) (U := U.calling g mk a) (Vm.Alike.refl U.vm) qK, qD⟩, va_recv hKc hPc (ci := 3) (q0 := 0) rfl rfl, fun U hU hW => ⟨rfl, by rw [hU], by rw [hU]; exact hPc, va_K.moved hW.alike hKc, hDc.weaken (fun _ _ _ _ => trivial)⟩⟩ rfl rfl hl.1 rfl (lv_room (Nat.le_of_ble_eq_true rfl)) dX3_join_23 ⟨Nat.le_of_ble_eq_true rfl, Nat.le_of_ble_eq_true rfl⟩) hS (fun q _ h => hFc q h) hFc (fun u t H1 locs ht hvm w_5 hB hz1 hk1 hS => ?_)
        obtain ⟨o_6, o_7, o_8⟩ := u
        dsimp only at w_5 hB
        obtain ⟨hP1, hK1, hD1⟩ := hB
        rw [ht] at hP1
        have hK1 := va_K.moved hvm.symm hK1
        obtain ⟨hP, hD⟩ := va_join (wr := [kx_3 k0 kv kn sb lb eb, kx_a kv cyI 12 gb, kx_a kn cyI 12 nb]) (w1 := [kx_3 h0 a_v a_n o_6 lo le, kx_a a_v cyI 12 o_7, kx_a a_n cyI 12 o_8]) hP hD [0, 1, 2] [3, 4, 5] rfl rfl (by decide) (by decide) hk1 hFc hP1 hD1
        clear hP1 hD1 hK1 hk1 hz1 hFc hDc hPc hKc
        generalize H1 = H at hP hS ⊢
        have hP : va_P (dC, dI) vwCl [kx_3 k0 kv kn sb lb eb, kx_a kv cyI 12 gb, kx_a kn cyI 12 nb, kx_3 h0 a_v a_n o_6 lo le, kx_a a_v cyI 12 o_7, kx_a a_n cyI 12 o_8] H := hP
        have hD : va_D A [kx_3 k0 kv kn sb lb eb, kx_a kv cyI 12 gb, kx_a kn cyI 12 nb, kx_3 h0 a_v a_n o_6 lo le, kx_a a_v cyI 12 o_7, kx_a a_n cyI 12 o_8] := hD
        have w_5 : zz.toInt ≤ o_6.toInt ∧ o_6.toInt ≤ zz.toInt + 1 ∧ o_6.toInt ≤ 12 := w_5
        obtain ⟨x_9, ex_9⟩ : ∃ y : Int32, y = i + 1 := ⟨_, rfl⟩
        have i_9 : x_9.toInt = i.toInt + 1 := ki_add ex_9 rfl rfl (om_10 LP1_h0) (om_30 b1 i_1)
        refine lv_iinc (v := x_9) (lv' := [(2, .int x_9), (0, .ref h0), (1, .ref k0)]) hx hb dX3_join_26 hl (k := 0) rfl (by rw [ex_9]; rfl) (by decide) rfl (fun ls hl => ?_)
        refine lv_goto (tgt := 2) hx hb dX3_join_29 (by decide) ?_
        have hP : va_P (dC, dI) vwCl [kx_3 h0 a_v a_n o_6 lo le, kx_a a_v cyI 12 o_7, kx_a a_n cyI 12 o_8, kx_3 k0 kv kn sb lb eb, kx_a kv cyI 12 gb, kx_a kn cyI 12 nb] _ := hP.sub [3, 4, 5, 0, 1, 2] rfl
        have hD : va_D A [kx_3 h0 a_v a_n o_6 lo le, kx_a a_v cyI 12 o_7, kx_a a_n cyI 12 o_8, kx_3 k0 kv kn sb lb eb, kx_a kv cyI 12 gb, kx_a kn cyI 12 nb] := hD.sub [3, 4, 5, 0, 1, 2] (by decide) rfl
        exact ih1 x_9 o_6 o_7 o_8 (om_31 LP1_h0 i_9) (om_0 LP1_h1 w_5.1) (om_53 w_5.2.2) (om_mu hn1 (om_5 i_9) (om_6 i_1)) _ _ hP hD hS ls (lv_sub hl [0, 1, 2] rfl)
  have k_10 : (0 : Int32).toInt = 0 := rfl
  exact LP1 ((sb.toInt - 0 : Int).toNat + 1) 0 vs fv fn om_32 (om_8 a0) (om_53 a1) (Nat.lt_succ_self _) _ _ hP hD hS ls (lv_sub hl [0, 1, 2] rfl)


