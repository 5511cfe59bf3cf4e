def six4 (f : Nat → Int32) : Prop := ∀ k : Nat, k < 324 → 0 ≤ (f k).toInt ∧ (f k).toInt ≤ 6
theorem six4_upd {f : Nat → Int32} {k : Nat} {x : Int32} (h : six4 f) (h1 : 0 ≤ x.toInt) (h2 : x.toInt ≤ 6) : six4 (upd f k x) := by
  intro j hj
  unfold upd
  split
  · exact ⟨h1, h2⟩
  · exact h j hj

set_option maxHeartbeats 4000000 in
set_option maxRecDepth 100000 in
theorem c_X5_isAhead (l : Launch) (dC : Nat → ClassId) (dI : Nat → Nat → Nat) (h0 : Nat) (g_row : Nat) (g_many : Nat) (g_loss : Nat) (g_less : Nat) (g_voteValue : Nat) (g_voteNumber : Nat) (g_allValue : Nat) (g_allNumber : Nat) (g_nodeL : Nat) (g_nodeR : Nat) (g_part : Nat) (g_wasMany : Nat) (g_wasLoss : Nat) (g_wasValue : Nat) (g_wasNumber : Nat) (g_path : Nat) (g_heavyValue : Nat) (g_heavyTimes : Nat) (g_fewest : Nat) (g_which : Nat) (g_met : Nat) (m_n : Int32) (m_slots : Int32) (m_thrown : Int32) (m_allMany : Int32) (m_nodes : Int32) (m_partMany : Int32) (m_pathMany : Int32) (m_heavyMany : Int32) (m_mostMet : Int32) (cyI : ClassId) (av : Nat → Int32) (an : Nat → Int32) (p0 : Int32) (p1 : Int32) (b0 : 0 ≤ p0.toInt) (b1 : p0.toInt < 12) (b2 : 0 ≤ p1.toInt) (b3 : p1.toInt < 12) : Met l yX5_isAhead wsX5_isAhead ({ frames := 0, cells := 0, slots := 0, locals := 0 }) (va_Pc [.ref h0, .int p0, .int p1] (fun U => va_P (dC, dI) vwCl [kx_5 h0 g_row m_n m_slots m_thrown g_many g_loss g_less g_voteValue g_voteNumber g_allValue g_allNumber m_allMany g_nodeL g_nodeR m_nodes g_part m_partMany g_wasMany g_wasLoss g_wasValue g_wasNumber g_path m_pathMany g_heavyValue g_heavyTimes m_heavyMany g_fewest g_which g_met m_mostMet, kx_a g_allValue cyI 12 av, kx_a g_allNumber cyI 12 an] U.heap ∧ va_K (dC, dI) vwCl [(cyI, .int)] U)) (vp_Si (fun r : Int32 => (r = 1 ∧ ((an p1.toNatClampNeg).toInt < (an p0.toNatClampNeg).toInt ∨ ((an p0.toNatClampNeg).toInt = (an p1.toNatClampNeg).toInt ∧ (av p0.toNatClampNeg).toInt < (av p1.toNatClampNeg).toInt))) ∨ (r = 0 ∧ ((an p0.toNatClampNeg).toInt < (an p1.toNatClampNeg).toInt ∨ ((an p0.toNatClampNeg).toInt = (an p1.toNatClampNeg).toInt ∧ (av p1.toNatClampNeg).toInt ≤ (av p0.toNatClampNeg).toInt))))) 0 0 (fun _ => False) := by
  refine Met.ofW (cc := cX5_isAhead) (maxL := 3) (ret := (some .boolean)) (by decide) rfl ?_
  intro p e s m args below meth c s₁ B hml hv
  obtain ⟨rfl, hP, hK⟩ := hv
  have hx := B.exec
  have hb := B.bytes
  have hr := B.returns
  have hts := atoms_spec (ws := wsX5_isAhead) B.pre
  have hown : s.vm.findClass RX5 = some m.cls := findClass_of_methodNamed B.named
  have hlocks := B.notSynchronized
  have hP : va_P (dC, dI) vwCl [kx_5 h0 g_row m_n m_slots m_thrown g_many g_loss g_less g_voteValue g_voteNumber g_allValue g_allNumber m_allMany g_nodeL g_nodeR m_nodes g_part m_partMany g_wasMany g_wasLoss g_wasValue g_wasNumber g_path m_pathMany g_heavyValue g_heavyTimes m_heavyMany g_fewest g_which g_met m_mostMet, kx_a g_allValue cyI 12 av, kx_a g_allNumber cyI 12 an] s.heap := hP
  have hl := lv_entry ([.ref h0, .int p0, .int p1]) (n := 3) (Nat.le_of_ble_eq_true rfl)
  rw [lg_entry_eq]
  generalize (lg_sl ([.ref h0, .int p0, .int p1]) ++ List.replicate (3 - (lg_sl ([.ref h0, .int p0, .int p1])).length) Slot.unset).toArray = ls at hl ⊢
  have hl : lv_has ls 3 [(0, .ref h0), (1, .int p0), (2, .int p1)] := hl
  have hf_35 := hts (.fieldLink RX5 35 "MajorityIndexModel" "allNumber" "[I") (List.mem_of_getElem? (i := 1) rfl)
  have hi_5 : ∀ w ∈ u_ws RX5 TX5 30, w ∈ wsX5_isAhead := fun w h => List.mem_cons_of_mem _ (List.mem_append_right _ h)
  have hf_32 := hts (.fieldLink RX5 32 "MajorityIndexModel" "allValue" "[I") (List.mem_of_getElem? (i := 2) rfl)
  refine lv_aload_n hx hb dX5_isAhead_0 rfl (lv_at hl 0 rfl) ?_
  refine va_get (D := (dC, dI)) (ci := 5) (v := .ref g_allNumber) (C := RX5) (T := TX5) (N := 30) hx hb hts hi_5 hown hK hP 0 rfl rfl 10 (by decide) hf_35 (fun _ h9 => h9) rfl dX5_isAhead_1 ?_
  refine lv_iload_n hx hb dX5_isAhead_4 rfl (lv_at hl 1 rfl) ?_
  refine va_iald hx hb hK hP 2 0 rfl rfl (ki_in (om_8 b0) (om_27 b1)) dX5_isAhead_5 ?_
  refine lv_topi (fun y_1 ey_1 => ?_)
  have j_1 : y_1.toInt = (an p0.toNatClampNeg).toInt := congrArg Int32.toInt ey_1
  refine lv_aload_n hx hb dX5_isAhead_6 rfl (lv_at hl 0 rfl) ?_
  refine va_get (D := (dC, dI)) (ci := 5) (v := .ref g_allNumber) (C := RX5) (T := TX5) (N := 30) hx hb hts hi_5 hown hK hP 0 rfl rfl 10 (by decide) hf_35 (fun _ h9 => h9) rfl dX5_isAhead_7 ?_
  refine lv_iload_n hx hb dX5_isAhead_10 rfl (lv_at hl 2 rfl) ?_
  refine va_iald hx hb hK hP 2 0 rfl rfl (ki_in (om_8 b2) (om_27 b3)) dX5_isAhead_11 ?_
  refine lv_topi (fun y_2 ey_2 => ?_)
  have j_2 : y_2.toInt = (an p1.toNatClampNeg).toInt := congrArg Int32.toInt ey_2
  refine lv_icmp_eq (tgt := 38) hx hb dX5_isAhead_12 (by decide) (fun c_3 => ?_) (fun c_3 => ?_)
  · have i_3 : y_1.toInt = y_2.toInt := kc_eq c_3
    refine lv_aload_n hx hb dX5_isAhead_38 rfl (lv_at hl 0 rfl) ?_
    refine va_get (D := (dC, dI)) (ci := 5) (v := .ref g_allValue) (C := RX5) (T := TX5) (N := 30) hx hb hts hi_5 hown hK hP 0 rfl rfl 9 (by decide) hf_32 (fun _ h9 => h9) rfl dX5_isAhead_39 ?_
    refine lv_iload_n hx hb dX5_isAhead_42 rfl (lv_at hl 1 rfl) ?_
    refine va_iald hx hb hK hP 1 0 rfl rfl (ki_in (om_8 b0) (om_27 b1)) dX5_isAhead_43 ?_
    refine lv_topi (fun y_4 ey_4 => ?_)
    have j_4 : y_4.toInt = (av p0.toNatClampNeg).toInt := congrArg Int32.toInt ey_4
    refine lv_aload_n hx hb dX5_isAhead_44 rfl (lv_at hl 0 rfl) ?_
    refine va_get (D := (dC, dI)) (ci := 5) (v := .ref g_allValue) (C := RX5) (T := TX5) (N := 30) hx hb hts hi_5 hown hK hP 0 rfl rfl 9 (by decide) hf_32 (fun _ h9 => h9) rfl dX5_isAhead_45 ?_
    refine lv_iload_n hx hb dX5_isAhead_48 rfl (lv_at hl 2 rfl) ?_
    refine va_iald hx hb hK hP 1 0 rfl rfl (ki_in (om_8 b2) (om_27 b3)) dX5_isAhead_49 ?_
    refine lv_topi (fun y_5 ey_5 => ?_)
    have j_5 : y_5.toInt = (av p1.toNatClampNeg).toInt := congrArg Int32.toInt ey_5
    refine lv_icmp_ge (tgt := 57) hx hb dX5_isAhead_50 (by decide) (fun c_6 => ?_) (fun c_6 => ?_)
    · have i_6 : y_5.toInt ≤ y_4.toInt := kc_le c_6
      refine lv_iconst (v := 0) hx hb dX5_isAhead_57 (by decide) ?_
      exact W.zret (v := 0) hx hb hr (by decide) (fun t ht hW => ⟨0, rfl, Or.inr (⟨rfl, by omega⟩), ht⟩) (fun q hq => by cases hq) dX5_isAhead_58
    · have i_6 : y_4.toInt < y_5.toInt := kc_nle c_6
      refine lv_iconst (v := 1) hx hb dX5_isAhead_53 (by decide) ?_
      refine lv_goto (tgt := 58) hx hb dX5_isAhead_54 (by decide) ?_
      exact W.zret (v := 1) hx hb hr (by decide) (fun t ht hW => ⟨1, rfl, Or.inl ⟨rfl, by omega⟩, ht⟩) (fun q hq => by cases hq) dX5_isAhead_58
  · have i_3 : ¬ y_1.toInt = y_2.toInt := kc_ne c_3
    refine lv_aload_n hx hb dX5_isAhead_15 rfl (lv_at hl 0 rfl) ?_
    refine va_get (D := (dC, dI)) (ci := 5) (v := .ref g_allNumber) (C := RX5) (T := TX5) (N := 30) hx hb hts hi_5 hown hK hP 0 rfl rfl 10 (by decide) hf_35 (fun _ h9 => h9) rfl dX5_isAhead_16 ?_
    refine lv_iload_n hx hb dX5_isAhead_19 rfl (lv_at hl 1 rfl) ?_
    refine va_iald hx hb hK hP 2 0 rfl rfl (ki_in (om_8 b0) (om_27 b1)) dX5_isAhead_20 ?_
    refine lv_topi (fun y_7 ey_7 => ?_)
    have j_7 : y_7.toInt = (an p0.toNatClampNeg).toInt := congrArg Int32.toInt ey_7
    refine lv_aload_n hx hb dX5_isAhead_21 rfl (lv_at hl 0 rfl) ?_
    refine va_get (D := (dC, dI)) (ci := 5) (v := .ref g_allNumber) (C := RX5) (T := TX5) (N := 30) hx hb hts hi_5 hown hK hP 0 rfl rfl 10 (by decide) hf_35 (fun _ h9 => h9) rfl dX5_isAhead_22 ?_
    refine lv_iload_n hx hb dX5_isAhead_25 rfl (lv_at hl 2 rfl) ?_
    refine va_iald hx hb hK hP 2 0 rfl rfl (ki_in (om_8 b2) (om_27 b3)) dX5_isAhead_26 ?_
    refine lv_topi (fun y_8 ey_8 => ?_)
    have j_8 : y_8.toInt = (an p1.toNatClampNeg).toInt := congrArg Int32.toInt ey_8
    refine lv_icmp_le (tgt := 34) hx hb dX5_isAhead_27 (by decide) (fun c_9 => ?_) (fun c_9 => ?_)
    · have i_9 : y_7.toInt ≤ y_8.toInt := kc_le c_9
      refine lv_iconst (v := 0) hx hb dX5_isAhead_34 (by decide) ?_
      refine lv_goto (tgt := 58) hx hb dX5_isAhead_35 (by decide) ?_
      exact W.zret (v := 0) hx hb hr (by decide) (fun t ht hW => ⟨0, rfl, Or.inr (⟨rfl, by omega⟩), ht⟩) (fun q hq => by cases hq) dX5_isAhead_58
    · have i_9 : y_8.toInt < y_7.toInt := kc_nle c_9
      refine lv_iconst (v := 1) hx hb dX5_isAhead_30 (by decide) ?_
      refine lv_goto (tgt := 58) hx hb dX5_isAhead_31 (by decide) ?_
      exact W.zret (v := 1) hx hb hr (by decide) (fun t ht hW => ⟨1, rfl, Or.inl ⟨rfl, by omega⟩, ht⟩) (fun q hq => by cases hq) dX5_isAhead_58

set_option maxHeartbeats 4000000 in
set_option maxRecDepth 100000 in
theorem c_X5_numberOf (l : Launch) (dC : Nat → ClassId) (dI : Nat → Nat → Nat) (h0 : Nat) (g_row : Nat) (g_many : Nat) (g_loss : Nat) (g_less : Nat) (g_voteValue : Nat) (g_voteNumber : Nat) (g_allValue : Nat) (g_allNumber : Nat) (g_nodeL : Nat) (g_nodeR : Nat) (g_part : Nat) (g_wasMany : Nat) (g_wasLoss : Nat) (g_wasValue : Nat) (g_wasNumber : Nat) (g_path : Nat) (g_heavyValue : Nat) (g_heavyTimes : Nat) (g_fewest : Nat) (g_which : Nat) (g_met : Nat) (m_n : Int32) (m_slots : Int32) (m_thrown : Int32) (m_allMany : Int32) (m_nodes : Int32) (m_partMany : Int32) (m_pathMany : Int32) (m_heavyMany : Int32) (m_mostMet : Int32) (cyI : ClassId) (fm : Nat → Int32) (vv : Nat → Int32) (vn : Nat → Int32) (p0 : Int32) (p1 : Int32) (b0 : 0 ≤ p0.toInt) (b1 : p0.toInt < 324) (s4 : six4 fm) : Met l yX5_numberOf wsX5_numberOf ({ frames := 0, cells := 0, slots := 0, locals := 0 }) (va_Pc [.ref h0, .int p0, .int p1] (fun U => va_P (dC, dI) vwCl [kx_5 h0 g_row m_n m_slots m_thrown g_many g_loss g_less g_voteValue g_voteNumber g_allValue g_allNumber m_allMany g_nodeL g_nodeR m_nodes g_part m_partMany g_wasMany g_wasLoss g_wasValue g_wasNumber g_path m_pathMany g_heavyValue g_heavyTimes m_heavyMany g_fewest g_which g_met m_mostMet, kx_a g_many cyI 324 fm, kx_a g_voteValue cyI 1944 vv, kx_a g_voteNumber cyI 1944 vn] U.heap ∧ va_K (dC, dI) vwCl [(cyI, .int)] U)) (vp_Si (fun r : Int32 => True)) 0 0 (fun _ => False) := by
  refine Met.ofW (cc := cX5_numberOf) (maxL := 4) (ret := (some .int)) (by decide) rfl ?_
  intro p e s m args below meth c s₁ B hml hv
  obtain ⟨rfl, hP, hK⟩ := hv
  have hx := B.exec
  have hb := B.bytes
  have hr := B.returns
  have hts := atoms_spec (ws := wsX5_numberOf) B.pre
  have hown : s.vm.findClass RX5 = some m.cls := findClass_of_methodNamed B.named
  have hlocks := B.notSynchronized
  have hP : va_P (dC, dI) vwCl [kx_5 h0 g_row m_n m_slots m_thrown g_many g_loss g_less g_voteValue g_voteNumber g_allValue g_allNumber m_allMany g_nodeL g_nodeR m_nodes g_part m_partMany g_wasMany g_wasLoss g_wasValue g_wasNumber g_path m_pathMany g_heavyValue g_heavyTimes m_heavyMany g_fewest g_which g_met m_mostMet, kx_a g_many cyI 324 fm, kx_a g_voteValue cyI 1944 vv, kx_a g_voteNumber cyI 1944 vn] s.heap := hP
  have hl := lv_entry ([.ref h0, .int p0, .int p1]) (n := 4) (Nat.le_of_ble_eq_true rfl)
  rw [lg_entry_eq]
  generalize (lg_sl ([.ref h0, .int p0, .int p1]) ++ List.replicate (4 - (lg_sl ([.ref h0, .int p0, .int p1])).length) Slot.unset).toArray = ls at hl ⊢
  have hl : lv_has ls 4 [(0, .ref h0), (1, .int p0), (2, .int p1)] := hl
  have hf_17 := hts (.fieldLink RX5 17 "MajorityIndexModel" "many" "[I") (List.mem_of_getElem? (i := 1) rfl)
  have hi_5 : ∀ w ∈ u_ws RX5 TX5 30, w ∈ wsX5_numberOf := fun w h => List.mem_cons_of_mem _ (List.mem_append_right _ h)
  have hf_26 := hts (.fieldLink RX5 26 "MajorityIndexModel" "voteValue" "[I") (List.mem_of_getElem? (i := 2) rfl)
  have hf_29 := hts (.fieldLink RX5 29 "MajorityIndexModel" "voteNumber" "[I") (List.mem_of_getElem? (i := 3) rfl)
  refine lv_iconst (v := 0) hx hb dX5_numberOf_0 (by decide) ?_
  refine lv_istore_n (lv' := [(3, .int 0), (0, .ref h0), (1, .int p0), (2, .int p1)]) hx hb dX5_numberOf_1 rfl hl (by decide) rfl (fun ls hl => ?_)
  have LP1 : ∀ (n : Nat) (i : Int32), (0 ≤ i.toInt) → (6 - i.toInt).toNat < n → ∀ (ls : Array Slot), lv_has ls 4 [(3, .int i), (0, .ref h0), (1, .int p0), (2, .int p1)] → W p l e (headSpec wsX5_numberOf ({ frames := 0, cells := 0, slots := 0, locals := 0 })).room s m ([.ref h0, .int p0, .int p1] : List Value).toArray below meth c s.heap [] 0 0 (MQ below (vp_Si (fun r : Int32 => True)) ([.ref h0, .int p0, .int p1] : List Value).toArray s 0 0 (fun _ => False)) (F0 m 2 ls []) := by
    intro n
    induction n with
    | zero => intro i LP1_h0 hn; exact absurd hn (Nat.not_lt_zero _)
    | succ n ih1 =>
      intro i LP1_h0 hn1 ls hl
      refine lv_iload_n hx hb dX5_numberOf_2 rfl (lv_at hl 0 rfl) ?_
      refine lv_aload_n hx hb dX5_numberOf_3 rfl (lv_at hl 1 rfl) ?_
      refine va_get (D := (dC, dI)) (ci := 5) (v := .ref g_many) (C := RX5) (T := TX5) (N := 30) hx hb hts hi_5 hown hK hP 0 rfl rfl 4 (by decide) hf_17 (fun _ h9 => h9) rfl dX5_numberOf_4 ?_
      refine lv_iload_n hx hb dX5_numberOf_7 rfl (lv_at hl 2 rfl) ?_
      refine va_iald hx hb hK hP 1 0 rfl rfl (ki_in (om_8 b0) (om_166 b1)) dX5_numberOf_8 ?_
      refine lv_topi (fun y_1 ey_1 => ?_)
      have j_1 : y_1.toInt = (fm p0.toNatClampNeg).toInt := congrArg Int32.toInt ey_1
      have n_2 : (p0.toNatClampNeg : Int) = p0.toInt := ki_nat _ rfl (om_8 b0)
      have i_3 := s4 p0.toNatClampNeg (by omega)
      refine lv_icmp_ge (tgt := 45) hx hb dX5_numberOf_9 (by decide) (fun c_4 => ?_) (fun c_4 => ?_)
      · have i_4 : y_1.toInt ≤ i.toInt := kc_le c_4
        refine lv_iconst (v := 0) hx hb dX5_numberOf_45 (by decide) ?_
        exact W.iret (v := 0) hx hb hr (fun t ht hW => ⟨0, rfl, trivial, ht⟩) (fun q hq => by cases hq) dX5_numberOf_46
      · have i_4 : i.toInt < y_1.toInt := kc_nle c_4
        refine lv_aload_n hx hb dX5_numberOf_12 rfl (lv_at hl 1 rfl) ?_
        refine va_get (D := (dC, dI)) (ci := 5) (v := .ref g_voteValue) (C := RX5) (T := TX5) (N := 30) hx hb hts hi_5 hown hK hP 0 rfl rfl 7 (by decide) hf_26 (fun _ h9 => h9) rfl dX5_numberOf_13 ?_
        refine lv_bipush (v := 6) hx hb dX5_numberOf_16 (by decide) ?_
        refine lv_iload_n hx hb dX5_numberOf_18 rfl (lv_at hl 2 rfl) ?_
        refine lv_imul hx hb dX5_numberOf_19 ?_
        refine lv_topi (fun y_5 ey_5 => ?_)
        have i_5 : y_5.toInt = 6 * p0.toInt := ki_mul ey_5 rfl rfl (om_167 b0) (om_168 b1)
        refine lv_iload_n hx hb dX5_numberOf_20 rfl (lv_at hl 0 rfl) ?_
        refine lv_iadd hx hb dX5_numberOf_21 ?_
        refine lv_topi (fun y_6 ey_6 => ?_)
        have i_6 : y_6.toInt = y_5.toInt + i.toInt := ki_add ey_6 rfl rfl (om_171 b0 LP1_h0 i_5) (by omega)
        refine va_iald hx hb hK hP 2 0 rfl rfl (ki_in (om_172 b0 LP1_h0 i_5 i_6) (by omega)) dX5_numberOf_22 ?_
        refine lv_topi (fun y_7 ey_7 => ?_)
        have j_7 : y_7.toInt = (vv y_6.toNatClampNeg).toInt := congrArg Int32.toInt ey_7
        refine lv_iload_n hx hb dX5_numberOf_23 rfl (lv_at hl 3 rfl) ?_
        refine lv_icmp_ne (tgt := 39) hx hb dX5_numberOf_24 (by decide) (fun c_8 => ?_) (fun c_8 => ?_)
        · have i_8 : ¬ y_7.toInt = p1.toInt := kc_ne c_8
          obtain ⟨x_9, ex_9⟩ : ∃ y : Int32, y = i + 1 := ⟨_, rfl⟩
          have i_9 : x_9.toInt = i.toInt + 1 := ki_add ex_9 rfl rfl (om_10 LP1_h0) (by omega)
          refine lv_iinc (v := x_9) (lv' := [(3, .int x_9), (0, .ref h0), (1, .int p0), (2, .int p1)]) hx hb dX5_numberOf_39 hl (k := 0) rfl (by rw [ex_9]; rfl) (by decide) rfl (fun ls hl => ?_)
          refine lv_goto (tgt := 2) hx hb dX5_numberOf_42 (by decide) ?_
          exact ih1 x_9 (om_31 LP1_h0 i_9) (by omega) ls (lv_sub hl [0, 1, 2, 3] rfl)
        · have i_8 : y_7.toInt = p1.toInt := kc_eq c_8
          refine lv_aload_n hx hb dX5_numberOf_27 rfl (lv_at hl 1 rfl) ?_
          refine va_get (D := (dC, dI)) (ci := 5) (v := .ref g_voteNumber) (C := RX5) (T := TX5) (N := 30) hx hb hts hi_5 hown hK hP 0 rfl rfl 8 (by decide) hf_29 (fun _ h9 => h9) rfl dX5_numberOf_28 ?_
          refine lv_bipush (v := 6) hx hb dX5_numberOf_31 (by decide) ?_
          refine lv_iload_n hx hb dX5_numberOf_33 rfl (lv_at hl 2 rfl) ?_
          refine lv_imul hx hb dX5_numberOf_34 ?_
          refine lv_topi (fun y_10 ey_10 => ?_)
          have i_10 : y_10.toInt = 6 * p0.toInt := ki_mul ey_10 rfl rfl (om_167 b0) (om_168 b1)
          refine lv_iload_n hx hb dX5_numberOf_35 rfl (lv_at hl 0 rfl) ?_
          refine lv_iadd hx hb dX5_numberOf_36 ?_
          refine lv_topi (fun y_11 ey_11 => ?_)
          have i_11 : y_11.toInt = y_10.toInt + i.toInt := ki_add ey_11 rfl rfl (om_171 b0 LP1_h0 i_10) (by omega)
          refine va_iald hx hb hK hP 3 0 rfl rfl (ki_in (om_172 b0 LP1_h0 i_10 i_11) (by omega)) dX5_numberOf_37 ?_
          refine lv_topi (fun y_12 ey_12 => ?_)
          have j_12 : y_12.toInt = (vn y_11.toNatClampNeg).toInt := congrArg Int32.toInt ey_12
          exact W.iret (v := y_12) hx hb hr (fun t ht hW => ⟨y_12, rfl, trivial, ht⟩) (fun q hq => by cases hq) dX5_numberOf_38
  have k_13 : (0 : Int32).toInt = 0 := rfl
  exact LP1 ((6 - 0 : Int).toNat + 1) 0 om_32 (Nat.lt_succ_self _) ls (lv_sub hl [0, 1, 2, 3] rfl)

set_option maxHeartbeats 4000000 in
set_option maxRecDepth 100000 in
theorem c_X5_numbersOf (l : Launch) (dC : Nat → ClassId) (dI : Nat → Nat → Nat) (h0 : Nat) (g_row : Nat) (g_many : Nat) (g_loss : Nat) (g_less : Nat) (g_voteValue : Nat) (g_voteNumber : Nat) (g_allValue : Nat) (g_allNumber : Nat) (g_nodeL : Nat) (g_nodeR : Nat) (g_part : Nat) (g_wasMany : Nat) (g_wasLoss : Nat) (g_wasValue : Nat) (g_wasNumber : Nat) (g_path : Nat) (g_heavyValue : Nat) (g_heavyTimes : Nat) (g_fewest : Nat) (g_which : Nat) (g_met : Nat) (m_n : Int32) (m_slots : Int32) (m_thrown : Int32) (m_allMany : Int32) (m_nodes : Int32) (m_partMany : Int32) (m_pathMany : Int32) (m_heavyMany : Int32) (m_mostMet : Int32) (cyI : ClassId) (fm : Nat → Int32) (vn : Nat → Int32) (p0 : Int32) (b0 : 0 ≤ p0.toInt) (b1 : p0.toInt < 324) (s4 : six4 fm) : Met l yX5_numbersOf wsX5_numbersOf ({ frames := 0, cells := 0, slots := 0, locals := 0 }) (va_Pc [.ref h0, .int p0] (fun U => va_P (dC, dI) vwCl [kx_5 h0 g_row m_n m_slots m_thrown g_many g_loss g_less g_voteValue g_voteNumber g_allValue g_allNumber m_allMany g_nodeL g_nodeR m_nodes g_part m_partMany g_wasMany g_wasLoss g_wasValue g_wasNumber g_path m_pathMany g_heavyValue g_heavyTimes m_heavyMany g_fewest g_which g_met m_mostMet, kx_a g_many cyI 324 fm, kx_a g_voteNumber cyI 1944 vn] U.heap ∧ va_K (dC, dI) vwCl [(cyI, .int)] U)) (vp_Si (fun r : Int32 => True)) 0 0 (fun _ => False) := by
  refine Met.ofW (cc := cX5_numbersOf) (maxL := 4) (ret := (some .int)) (by decide) rfl ?_
  intro p e s m args below meth c s₁ B hml hv
  obtain ⟨rfl, hP, hK⟩ := hv
  have hx := B.exec
  have hb := B.bytes
  have hr := B.returns
  have hts := atoms_spec (ws := wsX5_numbersOf) B.pre
  have hown : s.vm.findClass RX5 = some m.cls := findClass_of_methodNamed B.named
  have hlocks := B.notSynchronized
  have hP : va_P (dC, dI) vwCl [kx_5 h0 g_row m_n m_slots m_thrown g_many g_loss g_less g_voteValue g_voteNumber g_allValue g_allNumber m_allMany g_nodeL g_nodeR m_nodes g_part m_partMany g_wasMany g_wasLoss g_wasValue g_wasNumber g_path m_pathMany g_heavyValue g_heavyTimes m_heavyMany g_fewest g_which g_met m_mostMet, kx_a g_many cyI 324 fm, kx_a g_voteNumber cyI 1944 vn] s.heap := hP
  have hl := lv_entry ([.ref h0, .int p0]) (n := 4) (Nat.le_of_ble_eq_true rfl)
  rw [lg_entry_eq]
  generalize (lg_sl ([.ref h0, .int p0]) ++ List.replicate (4 - (lg_sl ([.ref h0, .int p0])).length) Slot.unset).toArray = ls at hl ⊢
  have hl : lv_has ls 4 [(0, .ref h0), (1, .int p0)] := hl
  have hf_17 := hts (.fieldLink RX5 17 "MajorityIndexModel" "many" "[I") (List.mem_of_getElem? (i := 1) rfl)
  have hi_5 : ∀ w ∈ u_ws RX5 TX5 30, w ∈ wsX5_numbersOf := fun w h => List.mem_cons_of_mem _ (List.mem_append_right _ h)
  have hf_29 := hts (.fieldLink RX5 29 "MajorityIndexModel" "voteNumber" "[I") (List.mem_of_getElem? (i := 2) rfl)
  refine lv_iconst (v := 0) hx hb dX5_numbersOf_0 (by decide) ?_
  refine lv_istore_n (lv' := [(2, .int 0), (0, .ref h0), (1, .int p0)]) hx hb dX5_numbersOf_1 rfl hl (by decide) rfl (fun ls hl => ?_)
  refine lv_iconst (v := 0) hx hb dX5_numbersOf_2 (by decide) ?_
  refine lv_istore_n (lv' := [(3, .int 0), (2, .int 0), (0, .ref h0), (1, .int p0)]) hx hb dX5_numbersOf_3 rfl hl (by decide) rfl (fun ls hl => ?_)
  have LP1 : ∀ (n : Nat) (i : Int32) (sm : Int32), (0 ≤ i.toInt) → (6 - i.toInt).toNat < n → ∀ (ls : Array Slot), lv_has ls 4 [(3, .int i), (2, .int sm), (0, .ref h0), (1, .int p0)] → W p l e (headSpec wsX5_numbersOf ({ frames := 0, cells := 0, slots := 0, locals := 0 })).room s m ([.ref h0, .int p0] : List Value).toArray below meth c s.heap [] 0 0 (MQ below (vp_Si (fun r : Int32 => True)) ([.ref h0, .int p0] : List Value).toArray s 0 0 (fun _ => False)) (F0 m 4 ls []) := by
    intro n
    induction n with
    | zero => intro i sm LP1_h0 hn; exact absurd hn (Nat.not_lt_zero _)
    | succ n ih1 =>
      intro i sm LP1_h0 hn1 ls hl
      refine lv_iload_n hx hb dX5_numbersOf_4 rfl (lv_at hl 0 rfl) ?_
      refine lv_aload_n hx hb dX5_numbersOf_5 rfl (lv_at hl 2 rfl) ?_
      refine va_get (D := (dC, dI)) (ci := 5) (v := .ref g_many) (C := RX5) (T := TX5) (N := 30) hx hb hts hi_5 hown hK hP 0 rfl rfl 4 (by decide) hf_17 (fun _ h9 => h9) rfl dX5_numbersOf_6 ?_
      refine lv_iload_n hx hb dX5_numbersOf_9 rfl (lv_at hl 3 rfl) ?_
      refine va_iald hx hb hK hP 1 0 rfl rfl (ki_in (om_8 b0) (om_166 b1)) dX5_numbersOf_10 ?_
      refine lv_topi (fun y_1 ey_1 => ?_)
      have j_1 : y_1.toInt = (fm p0.toNatClampNeg).toInt := congrArg Int32.toInt ey_1
      have n_2 : (p0.toNatClampNeg : Int) = p0.toInt := ki_nat _ rfl (om_8 b0)
      have i_3 := s4 p0.toNatClampNeg (by omega)
      refine lv_icmp_ge (tgt := 34) hx hb dX5_numbersOf_11 (by decide) (fun c_4 => ?_) (fun c_4 => ?_)
      · have i_4 : y_1.toInt ≤ i.toInt := kc_le c_4
        refine lv_iload_n hx hb dX5_numbersOf_34 rfl (lv_at hl 1 rfl) ?_
        exact W.iret (v := sm) hx hb hr (fun t ht hW => ⟨sm, rfl, trivial, ht⟩) (fun q hq => by cases hq) dX5_numbersOf_35
      · have i_4 : i.toInt < y_1.toInt := kc_nle c_4
        refine lv_iload_n hx hb dX5_numbersOf_14 rfl (lv_at hl 1 rfl) ?_
        refine lv_aload_n hx hb dX5_numbersOf_15 rfl (lv_at hl 2 rfl) ?_
        refine va_get (D := (dC, dI)) (ci := 5) (v := .ref g_voteNumber) (C := RX5) (T := TX5) (N := 30) hx hb hts hi_5 hown hK hP 0 rfl rfl 8 (by decide) hf_29 (fun _ h9 => h9) rfl dX5_numbersOf_16 ?_
        refine lv_bipush (v := 6) hx hb dX5_numbersOf_19 (by decide) ?_
        refine lv_iload_n hx hb dX5_numbersOf_21 rfl (lv_at hl 3 rfl) ?_
        refine lv_imul hx hb dX5_numbersOf_22 ?_
        refine lv_topi (fun y_5 ey_5 => ?_)
        have i_5 : y_5.toInt = 6 * p0.toInt := ki_mul ey_5 rfl rfl (om_167 b0) (om_168 b1)
        refine lv_iload_n hx hb dX5_numbersOf_23 rfl (lv_at hl 0 rfl) ?_
        refine lv_iadd hx hb dX5_numbersOf_24 ?_
        refine lv_topi (fun y_6 ey_6 => ?_)
        have i_6 : y_6.toInt = y_5.toInt + i.toInt := ki_add ey_6 rfl rfl (om_171 b0 LP1_h0 i_5) (by omega)
        refine va_iald hx hb hK hP 2 0 rfl rfl (ki_in (om_172 b0 LP1_h0 i_5 i_6) (by omega)) dX5_numbersOf_25 ?_
        refine lv_topi (fun y_7 ey_7 => ?_)
        have j_7 : y_7.toInt = (vn y_6.toNatClampNeg).toInt := congrArg Int32.toInt ey_7
        refine lv_iadd hx hb dX5_numbersOf_26 ?_
        refine lv_topi (fun y_8 ey_8 => ?_)
        refine lv_istore_n (lv' := [(2, .int y_8), (3, .int i), (0, .ref h0), (1, .int p0)]) hx hb dX5_numbersOf_27 rfl hl (by decide) rfl (fun ls hl => ?_)
        obtain ⟨x_9, ex_9⟩ : ∃ y : Int32, y = i + 1 := ⟨_, rfl⟩
        have i_9 : x_9.toInt = i.toInt + 1 := ki_add ex_9 rfl rfl (om_10 LP1_h0) (by omega)
        refine lv_iinc (v := x_9) (lv' := [(3, .int x_9), (2, .int y_8), (0, .ref h0), (1, .int p0)]) hx hb dX5_numbersOf_28 hl (k := 1) rfl (by rw [ex_9]; rfl) (by decide) rfl (fun ls hl => ?_)
        refine lv_goto (tgt := 4) hx hb dX5_numbersOf_31 (by decide) ?_
        exact ih1 x_9 y_8 (om_31 LP1_h0 i_9) (by omega) ls (lv_sub hl [0, 1, 2, 3] rfl)
  have k_10 : (0 : Int32).toInt = 0 := rfl
  have k_11 : (0 : Int32).toInt = 0 := rfl
  exact LP1 ((6 - 0 : Int).toNat + 1) 0 0 om_32 (Nat.lt_succ_self _) ls (lv_sub hl [0, 1, 2, 3] rfl)

set_option maxHeartbeats 4000000 in
set_option maxRecDepth 100000 in
theorem c_X5_nodeOf (l : Launch) (dC : Nat → ClassId) (dI : Nat → Nat → Nat) (h0 : Nat) (g_row : Nat) (g_many : Nat) (g_loss : Nat) (g_less : Nat) (g_voteValue : Nat) (g_voteNumber : Nat) (g_allValue : Nat) (g_allNumber : Nat) (g_nodeL : Nat) (g_nodeR : Nat) (g_part : Nat) (g_wasMany : Nat) (g_wasLoss : Nat) (g_wasValue : Nat) (g_wasNumber : Nat) (g_path : Nat) (g_heavyValue : Nat) (g_heavyTimes : Nat) (g_fewest : Nat) (g_which : Nat) (g_met : Nat) (m_n : Int32) (m_slots : Int32) (m_thrown : Int32) (m_allMany : Int32) (m_nodes : Int32) (m_partMany : Int32) (m_pathMany : Int32) (m_heavyMany : Int32) (m_mostMet : Int32) (cyI : ClassId) (nl : Nat → Int32) (nr : Nat → Int32) (p0 : Int32) (p1 : Int32) (b0 : 0 ≤ m_nodes.toInt) (b1 : m_nodes.toInt ≤ 320) : Met l yX5_nodeOf wsX5_nodeOf ({ frames := 0, cells := 0, slots := 0, locals := 0 }) (va_Pc [.ref h0, .int p0, .int p1] (fun U => va_P (dC, dI) vwCl [kx_5 h0 g_row m_n m_slots m_thrown g_many g_loss g_less g_voteValue g_voteNumber g_allValue g_allNumber m_allMany g_nodeL g_nodeR m_nodes g_part m_partMany g_wasMany g_wasLoss g_wasValue g_wasNumber g_path m_pathMany g_heavyValue g_heavyTimes m_heavyMany g_fewest g_which g_met m_mostMet, kx_a g_nodeL cyI 320 nl, kx_a g_nodeR cyI 320 nr] U.heap ∧ va_K (dC, dI) vwCl [(cyI, .int)] U)) (vp_Si (fun r : Int32 => (r.toInt = -2 ∨ (0 ≤ r.toInt ∧ r.toInt < m_nodes.toInt)))) 0 0 (fun _ => False) := by
  refine Met.ofW (cc := cX5_nodeOf) (maxL := 4) (ret := (some .int)) (by decide) rfl ?_
  intro p e s m args below meth c s₁ B hml hv
  obtain ⟨rfl, hP, hK⟩ := hv
  have hx := B.exec
  have hb := B.bytes
  have hr := B.returns
  have hts := atoms_spec (ws := wsX5_nodeOf) B.pre
  have hown : s.vm.findClass RX5 = some m.cls := findClass_of_methodNamed B.named
  have hlocks := B.notSynchronized
  have hP : va_P (dC, dI) vwCl [kx_5 h0 g_row m_n m_slots m_thrown g_many g_loss g_less g_voteValue g_voteNumber g_allValue g_allNumber m_allMany g_nodeL g_nodeR m_nodes g_part m_partMany g_wasMany g_wasLoss g_wasValue g_wasNumber g_path m_pathMany g_heavyValue g_heavyTimes m_heavyMany g_fewest g_which g_met m_mostMet, kx_a g_nodeL cyI 320 nl, kx_a g_nodeR cyI 320 nr] s.heap := hP
  have hl := lv_entry ([.ref h0, .int p0, .int p1]) (n := 4) (Nat.le_of_ble_eq_true rfl)
  rw [lg_entry_eq]
  generalize (lg_sl ([.ref h0, .int p0, .int p1]) ++ List.replicate (4 - (lg_sl ([.ref h0, .int p0, .int p1])).length) Slot.unset).toArray = ls at hl ⊢
  have hl : lv_has ls 4 [(0, .ref h0), (1, .int p0), (2, .int p1)] := hl
  have hf_101 := hts (.fieldLink RX5 101 "MajorityIndexModel" "nodes" "I") (List.mem_of_getElem? (i := 1) rfl)
  have hi_5 : ∀ w ∈ u_ws RX5 TX5 30, w ∈ wsX5_nodeOf := fun w h => List.mem_cons_of_mem _ (List.mem_append_right _ h)
  have hf_38 := hts (.fieldLink RX5 38 "MajorityIndexModel" "nodeL" "[I") (List.mem_of_getElem? (i := 2) rfl)
  have hf_41 := hts (.fieldLink RX5 41 "MajorityIndexModel" "nodeR" "[I") (List.mem_of_getElem? (i := 3) rfl)
  refine lv_iconst (v := 0) hx hb dX5_nodeOf_0 (by decide) ?_
  refine lv_istore_n (lv' := [(3, .int 0), (0, .ref h0), (1, .int p0), (2, .int p1)]) hx hb dX5_nodeOf_1 rfl hl (by decide) rfl (fun ls hl => ?_)
  have LP1 : ∀ (n : Nat) (i : Int32), (0 ≤ i.toInt) → (m_nodes.toInt - i.toInt).toNat < n → ∀ (ls : Array Slot), lv_has ls 4 [(3, .int i), (0, .ref h0), (1, .int p0), (2, .int p1)] → W p l e (headSpec wsX5_nodeOf ({ frames := 0, cells := 0, slots := 0, locals := 0 })).room s m ([.ref h0, .int p0, .int p1] : List Value).toArray below meth c s.heap [] 0 0 (MQ below (vp_Si (fun r : Int32 => (r.toInt = -2 ∨ (0 ≤ r.toInt ∧ r.toInt < m_nodes.toInt)))) ([.ref h0, .int p0, .int p1] : List Value).toArray s 0 0 (fun _ => False)) (F0 m 2 ls []) := by
    intro n
    induction n with
    | zero => intro i LP1_h0 hn; exact absurd hn (Nat.not_lt_zero _)
    | succ n ih1 =>
      intro i LP1_h0 hn1 ls hl
      refine lv_iload_n hx hb dX5_nodeOf_2 rfl (lv_at hl 0 rfl) ?_
      refine lv_aload_n hx hb dX5_nodeOf_3 rfl (lv_at hl 1 rfl) ?_
      refine va_get (D := (dC, dI)) (ci := 5) (v := .int m_nodes) (C := RX5) (T := TX5) (N := 30) hx hb hts hi_5 hown hK hP 0 rfl rfl 14 (by decide) hf_101 (fun _ h9 => h9) rfl dX5_nodeOf_4 ?_
      refine lv_icmp_ge (tgt := 38) hx hb dX5_nodeOf_7 (by decide) (fun c_1 => ?_) (fun c_1 => ?_)
      · have i_1 : m_nodes.toInt ≤ i.toInt := kc_le c_1
        refine lv_bipush (v := (-2)) hx hb dX5_nodeOf_38 (by decide) ?_
        exact W.iret (v := (-2)) hx hb hr (fun t ht hW => ⟨(-2), rfl, (Or.inl rfl), ht⟩) (fun q hq => by cases hq) dX5_nodeOf_40
      · have i_1 : i.toInt < m_nodes.toInt := kc_nle c_1
        refine lv_aload_n hx hb dX5_nodeOf_10 rfl (lv_at hl 1 rfl) ?_
        refine va_get (D := (dC, dI)) (ci := 5) (v := .ref g_nodeL) (C := RX5) (T := TX5) (N := 30) hx hb hts hi_5 hown hK hP 0 rfl rfl 12 (by decide) hf_38 (fun _ h9 => h9) rfl dX5_nodeOf_11 ?_
        refine lv_iload_n hx hb dX5_nodeOf_14 rfl (lv_at hl 0 rfl) ?_
        refine va_iald hx hb hK hP 1 0 rfl rfl (ki_in (om_8 LP1_h0) (om_173 b1 i_1)) dX5_nodeOf_15 ?_
        refine lv_topi (fun y_2 ey_2 => ?_)
        have j_2 : y_2.toInt = (nl i.toNatClampNeg).toInt := congrArg Int32.toInt ey_2
        refine lv_iload_n hx hb dX5_nodeOf_16 rfl (lv_at hl 2 rfl) ?_
        refine lv_icmp_ne (tgt := 32) hx hb dX5_nodeOf_17 (by decide) (fun c_3 => ?_) (fun c_3 => ?_)
        · have i_3 : ¬ y_2.toInt = p0.toInt := kc_ne c_3
          obtain ⟨x_4, ex_4⟩ : ∃ y : Int32, y = i + 1 := ⟨_, rfl⟩
          have i_4 : x_4.toInt = i.toInt + 1 := ki_add ex_4 rfl rfl (om_10 LP1_h0) (om_174 b1 i_1)
          refine lv_iinc (v := x_4) (lv' := [(3, .int x_4), (0, .ref h0), (1, .int p0), (2, .int p1)]) hx hb dX5_nodeOf_32 hl (k := 0) rfl (by rw [ex_4]; rfl) (by decide) rfl (fun ls hl => ?_)
          refine lv_goto (tgt := 2) hx hb dX5_nodeOf_35 (by decide) ?_
          exact ih1 x_4 (om_31 LP1_h0 i_4) (om_mu hn1 (om_5 i_4) (om_6 i_1)) ls (lv_sub hl [0, 1, 2, 3] rfl)
        · have i_3 : y_2.toInt = p0.toInt := kc_eq c_3
          refine lv_aload_n hx hb dX5_nodeOf_20 rfl (lv_at hl 1 rfl) ?_
          refine va_get (D := (dC, dI)) (ci := 5) (v := .ref g_nodeR) (C := RX5) (T := TX5) (N := 30) hx hb hts hi_5 hown hK hP 0 rfl rfl 13 (by decide) hf_41 (fun _ h9 => h9) rfl dX5_nodeOf_21 ?_
          refine lv_iload_n hx hb dX5_nodeOf_24 rfl (lv_at hl 0 rfl) ?_
          refine va_iald hx hb hK hP 2 0 rfl rfl (ki_in (om_8 LP1_h0) (om_173 b1 i_1)) dX5_nodeOf_25 ?_
          refine lv_topi (fun y_5 ey_5 => ?_)
          have j_5 : y_5.toInt = (nr i.toNatClampNeg).toInt := congrArg Int32.toInt ey_5
          refine lv_iload_n hx hb dX5_nodeOf_26 rfl (lv_at hl 3 rfl) ?_
          refine lv_icmp_ne (tgt := 32) hx hb dX5_nodeOf_27 (by decide) (fun c_6 => ?_) (fun c_6 => ?_)
          · have i_6 : ¬ y_5.toInt = p1.toInt := kc_ne c_6
            obtain ⟨x_7, ex_7⟩ : ∃ y : Int32, y = i + 1 := ⟨_, rfl⟩
            have i_7 : x_7.toInt = i.toInt + 1 := ki_add ex_7 rfl rfl (om_10 LP1_h0) (om_174 b1 i_1)
            refine lv_iinc (v := x_7) (lv' := [(3, .int x_7), (0, .ref h0), (1, .int p0), (2, .int p1)]) hx hb dX5_nodeOf_32 hl (k := 0) rfl (by rw [ex_7]; rfl) (by decide) rfl (fun ls hl => ?_)
            refine lv_goto (tgt := 2) hx hb dX5_nodeOf_35 (by decide) ?_
            exact ih1 x_7 (om_31 LP1_h0 i_7) (om_mu hn1 (om_5 i_7) (om_6 i_1)) ls (lv_sub hl [0, 1, 2, 3] rfl)
          · have i_6 : y_5.toInt = p1.toInt := kc_eq c_6
            refine lv_iload_n hx hb dX5_nodeOf_30 rfl (lv_at hl 0 rfl) ?_
            exact W.iret (v := i) hx hb hr (fun t ht hW => ⟨i, rfl, (by (try dsimp only); omega), ht⟩) (fun q hq => by cases hq) dX5_nodeOf_31
  have k_8 : (0 : Int32).toInt = 0 := rfl
  exact LP1 ((m_nodes.toInt - 0 : Int).toNat + 1) 0 om_32 (Nat.lt_succ_self _) ls (lv_sub hl [0, 1, 2, 3] rfl)


