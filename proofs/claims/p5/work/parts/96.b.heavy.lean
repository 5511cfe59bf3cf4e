set_option maxHeartbeats 4000000 in
set_option maxRecDepth 100000 in
theorem c_X5_comes (l : Launch) (dC : Nat → ClassId) (dI : Nat → Nat → Nat) (h0 : Nat) (g_row : Nat) (g_many : Nat) (g_loss : Nat) (g_less : Nat) (g_voteValue : Nat) (g_voteNumber : Nat) (g_allValue : Nat) (g_allNumber : Nat) (g_nodeL : Nat) (g_nodeR : Nat) (g_part : Nat) (g_wasMany : Nat) (g_wasLoss : Nat) (g_wasValue : Nat) (g_wasNumber : Nat) (g_path : Nat) (g_heavyValue : Nat) (g_heavyTimes : Nat) (g_fewest : Nat) (g_which : Nat) (g_met : Nat) (m_n : Int32) (m_slots : Int32) (m_thrown : Int32) (m_allMany : Int32) (m_nodes : Int32) (m_partMany : Int32) (m_pathMany : Int32) (m_heavyMany : Int32) (m_mostMet : Int32) (cyI : ClassId) (zv : Nat → Int32) (zt : Nat → Int32) (p0 : Int32) (p1 : Int32) (sz : Nat) (b0 : 0 ≤ m_heavyMany.toInt) (b1 : m_heavyMany.toInt < 160) : Met l yX5_comes wsX5_comes ({ frames := 0, cells := 0, slots := 0, locals := 0 }) (va_Pc [.ref h0, .int p0, .int p1] (fun U => U.heap.size = sz ∧ va_P (dC, dI) vwCl [kx_5 h0 g_row m_n m_slots m_thrown g_many g_loss g_less g_voteValue g_voteNumber g_allValue g_allNumber m_allMany g_nodeL g_nodeR m_nodes g_part m_partMany g_wasMany g_wasLoss g_wasValue g_wasNumber g_path m_pathMany g_heavyValue g_heavyTimes m_heavyMany g_fewest g_which g_met m_mostMet, kx_a g_heavyValue cyI 160 zv, kx_a g_heavyTimes cyI 160 zt] U.heap ∧ va_K (dC, dI) vwCl [(cyI, .int)] U ∧ va_D (fun _ => True) [kx_5 h0 g_row m_n m_slots m_thrown g_many g_loss g_less g_voteValue g_voteNumber g_allValue g_allNumber m_allMany g_nodeL g_nodeR m_nodes g_part m_partMany g_wasMany g_wasLoss g_wasValue g_wasNumber g_path m_pathMany g_heavyValue g_heavyTimes m_heavyMany g_fewest g_which g_met m_mostMet, kx_a g_heavyValue cyI 160 zv, kx_a g_heavyTimes cyI 160 zt])) (va_Qv (fun u : Int32 × (Nat → Int32) × (Nat → Int32) => u.1.toInt = m_heavyMany.toInt + 1) (fun (u : Int32 × (Nat → Int32) × (Nat → Int32)) (t : State) => va_P (dC, dI) vwCl [kx_5 h0 g_row m_n m_slots m_thrown g_many g_loss g_less g_voteValue g_voteNumber g_allValue g_allNumber m_allMany g_nodeL g_nodeR m_nodes g_part m_partMany g_wasMany g_wasLoss g_wasValue g_wasNumber g_path m_pathMany g_heavyValue g_heavyTimes u.1 g_fewest g_which g_met m_mostMet, kx_a g_heavyValue cyI 160 u.2.1, kx_a g_heavyTimes cyI 160 u.2.2] t.heap ∧ va_K (dC, dI) vwCl [(cyI, .int)] t ∧ va_D (va_A [kx_5 h0 g_row m_n m_slots m_thrown g_many g_loss g_less g_voteValue g_voteNumber g_allValue g_allNumber m_allMany g_nodeL g_nodeR m_nodes g_part m_partMany g_wasMany g_wasLoss g_wasValue g_wasNumber g_path m_pathMany g_heavyValue g_heavyTimes m_heavyMany g_fewest g_which g_met m_mostMet, kx_a g_heavyValue cyI 160 zv, kx_a g_heavyTimes cyI 160 zt] sz) [kx_5 h0 g_row m_n m_slots m_thrown g_many g_loss g_less g_voteValue g_voteNumber g_allValue g_allNumber m_allMany g_nodeL g_nodeR m_nodes g_part m_partMany g_wasMany g_wasLoss g_wasValue g_wasNumber g_path m_pathMany g_heavyValue g_heavyTimes u.1 g_fewest g_which g_met m_mostMet, kx_a g_heavyValue cyI 160 u.2.1, kx_a g_heavyTimes cyI 160 u.2.2]) (va_A [kx_5 h0 g_row m_n m_slots m_thrown g_many g_loss g_less g_voteValue g_voteNumber g_allValue g_allNumber m_allMany g_nodeL g_nodeR m_nodes g_part m_partMany g_wasMany g_wasLoss g_wasValue g_wasNumber g_path m_pathMany g_heavyValue g_heavyTimes m_heavyMany g_fewest g_which g_met m_mostMet, kx_a g_heavyValue cyI 160 zv, kx_a g_heavyTimes cyI 160 zt] sz)) 0 0 (va_A [kx_5 h0 g_row m_n m_slots m_thrown g_many g_loss g_less g_voteValue g_voteNumber g_allValue g_allNumber m_allMany g_nodeL g_nodeR m_nodes g_part m_partMany g_wasMany g_wasLoss g_wasValue g_wasNumber g_path m_pathMany g_heavyValue g_heavyTimes m_heavyMany g_fewest g_which g_met m_mostMet, kx_a g_heavyValue cyI 160 zv, kx_a g_heavyTimes cyI 160 zt] sz) := by
  refine Met.ofW (cc := cX5_comes) (maxL := 4) (ret := none) (by decide) rfl ?_
  intro p e s m args below meth c s₁ B hml hv
  obtain ⟨rfl, hsz, hP, hK, hD0⟩ := hv
  have hx := B.exec
  have hb := B.bytes
  have hr := B.returns
  have hts := atoms_spec (ws := wsX5_comes) B.pre
  have hown : s.vm.findClass RX5 = some m.cls := findClass_of_methodNamed B.named
  have hlocks := B.notSynchronized
  subst hsz
  have hD := hD0.self (sz := s.heap.size)
  generalize hAe : va_A [kx_5 h0 g_row m_n m_slots m_thrown g_many g_loss g_less g_voteValue g_voteNumber g_allValue g_allNumber m_allMany g_nodeL g_nodeR m_nodes g_part m_partMany g_wasMany g_wasLoss g_wasValue g_wasNumber g_path m_pathMany g_heavyValue g_heavyTimes m_heavyMany g_fewest g_which g_met m_mostMet, kx_a g_heavyValue cyI 160 zv, kx_a g_heavyTimes cyI 160 zt] s.heap.size = A at hD ⊢
  have hA : ∀ q : Nat, s.heap.size ≤ q → A q := fun q h => by rw [← hAe]; exact Or.inr h
  have hS : va_S A s.heap s.heap [] := va_S.rf
  have hP : va_P (dC, dI) vwCl [kx_5 h0 g_row m_n m_slots m_thrown g_many g_loss g_less g_voteValue g_voteNumber g_allValue g_allNumber m_allMany g_nodeL g_nodeR m_nodes g_part m_partMany g_wasMany g_wasLoss g_wasValue g_wasNumber g_path m_pathMany g_heavyValue g_heavyTimes m_heavyMany g_fewest g_which g_met m_mostMet, kx_a g_heavyValue cyI 160 zv, kx_a g_heavyTimes cyI 160 zt] s.heap := hP
  have hl := lv_entry ([.ref h0, .int p0, .int p1]) (n := 4) (Nat.le_of_ble_eq_true rfl)
  rw [lg_entry_eq]
  generalize (lg_sl ([.ref h0, .int p0, .int p1]) ++ List.replicate (4 - (lg_sl ([.ref h0, .int p0, .int p1])).length) Slot.unset).toArray = ls at hl ⊢
  have hl : lv_has ls 4 [(0, .ref h0), (1, .int p0), (2, .int p1)] := hl
  have hf_178 := hts (.fieldLink RX5 178 "MajorityIndexModel" "heavyMany" "I") (List.mem_of_getElem? (i := 1) rfl)
  have hi_5 : ∀ w ∈ u_ws RX5 TX5 30, w ∈ wsX5_comes := fun w h => List.mem_cons_of_mem _ (List.mem_append_right _ h)
  have hf_62 := hts (.fieldLink RX5 62 "MajorityIndexModel" "heavyValue" "[I") (List.mem_of_getElem? (i := 3) rfl)
  have hf_65 := hts (.fieldLink RX5 65 "MajorityIndexModel" "heavyTimes" "[I") (List.mem_of_getElem? (i := 2) rfl)
  refine lv_aload_n hx hb dX5_comes_0 rfl (lv_at hl 0 rfl) ?_
  refine va_get (D := (dC, dI)) (ci := 5) (v := .int m_heavyMany) (C := RX5) (T := TX5) (N := 30) hx hb hts hi_5 hown hK hP 0 rfl rfl 25 (by decide) hf_178 (fun _ h9 => h9) rfl dX5_comes_1 ?_
  refine lv_istore_n (lv' := [(3, .int m_heavyMany), (0, .ref h0), (1, .int p0), (2, .int p1)]) hx hb dX5_comes_4 rfl hl (by decide) rfl (fun ls hl => ?_)
  have LP1 : ∀ (n : Nat) (at9 : Int32) (jv : Nat → Int32) (jt : Nat → Int32), (0 ≤ at9.toInt) → (at9.toInt ≤ m_heavyMany.toInt) → (at9.toInt).toNat < n → ∀ (H : Heap) (locs : List Loc), va_P (dC, dI) vwCl [kx_5 h0 g_row m_n m_slots m_thrown g_many g_loss g_less g_voteValue g_voteNumber g_allValue g_allNumber m_allMany g_nodeL g_nodeR m_nodes g_part m_partMany g_wasMany g_wasLoss g_wasValue g_wasNumber g_path m_pathMany g_heavyValue g_heavyTimes m_heavyMany g_fewest g_which g_met m_mostMet, kx_a g_heavyValue cyI 160 jv, kx_a g_heavyTimes cyI 160 jt] H → va_D A [kx_5 h0 g_row m_n m_slots m_thrown g_many g_loss g_less g_voteValue g_voteNumber g_allValue g_allNumber m_allMany g_nodeL g_nodeR m_nodes g_part m_partMany g_wasMany g_wasLoss g_wasValue g_wasNumber g_path m_pathMany g_heavyValue g_heavyTimes m_heavyMany g_fewest g_which g_met m_mostMet, kx_a g_heavyValue cyI 160 jv, kx_a g_heavyTimes cyI 160 jt] → va_S A s.heap H locs → ∀ (ls : Array Slot), lv_has ls 4 [(3, .int at9), (0, .ref h0), (1, .int p0), (2, .int p1)] → W p l e (headSpec wsX5_comes ({ frames := 0, cells := 0, slots := 0, locals := 0 })).room s m ([.ref h0, .int p0, .int p1] : List Value).toArray below meth c H locs 0 0 (MQ below (va_Qv (fun u : Int32 × (Nat → Int32) × (Nat → Int32) => u.1.toInt = m_heavyMany.toInt + 1) (fun (u : Int32 × (Nat → Int32) × (Nat → Int32)) (t : State) => va_P (dC, dI) vwCl [kx_5 h0 g_row m_n m_slots m_thrown g_many g_loss g_less g_voteValue g_voteNumber g_allValue g_allNumber m_allMany g_nodeL g_nodeR m_nodes g_part m_partMany g_wasMany g_wasLoss g_wasValue g_wasNumber g_path m_pathMany g_heavyValue g_heavyTimes u.1 g_fewest g_which g_met m_mostMet, kx_a g_heavyValue cyI 160 u.2.1, kx_a g_heavyTimes cyI 160 u.2.2] t.heap ∧ va_K (dC, dI) vwCl [(cyI, .int)] t ∧ va_D A [kx_5 h0 g_row m_n m_slots m_thrown g_many g_loss g_less g_voteValue g_voteNumber g_allValue g_allNumber m_allMany g_nodeL g_nodeR m_nodes g_part m_partMany g_wasMany g_wasLoss g_wasValue g_wasNumber g_path m_pathMany g_heavyValue g_heavyTimes u.1 g_fewest g_which g_met m_mostMet, kx_a g_heavyValue cyI 160 u.2.1, kx_a g_heavyTimes cyI 160 u.2.2]) A) ([.ref h0, .int p0, .int p1] : List Value).toArray s 0 0 A) (F0 m 5 ls []) := by
    intro n
    induction n with
    | zero => intro at9 jv jt LP1_h0 LP1_h1 hn; exact absurd hn (Nat.not_lt_zero _)
    | succ n ih1 =>
      intro at9 jv jt LP1_h0 LP1_h1 hn1 H locs hP hD hS ls hl
      refine lv_iload_n hx hb dX5_comes_5 rfl (lv_at hl 0 rfl) ?_
      refine lv_if_le (tgt := 79) hx hb dX5_comes_6 (by decide) (fun c_1 => ?_) (fun c_1 => ?_)
      · have i_1 : at9.toInt ≤ 0 := kc_le c_1
        refine lv_aload_n hx hb dX5_comes_79 rfl (lv_at hl 1 rfl) ?_
        refine va_get (D := (dC, dI)) (ci := 5) (v := .ref g_heavyValue) (C := RX5) (T := TX5) (N := 30) hx hb hts hi_5 hown hK hP 0 rfl rfl 23 (by decide) hf_62 (fun _ h9 => h9) rfl dX5_comes_80 ?_
        refine lv_iload_n hx hb dX5_comes_83 rfl (lv_at hl 0 rfl) ?_
        refine lv_iload_n hx hb dX5_comes_84 rfl (lv_at hl 2 rfl) ?_
        refine va_iast hx hb hK hP hD hS 1 0 rfl rfl (ki_in (om_8 LP1_h0) (om_265 i_1)) dX5_comes_85 (fun H locs hP hD hS => ?_)
        have hP : va_P (dC, dI) vwCl [kx_5 h0 g_row m_n m_slots m_thrown g_many g_loss g_less g_voteValue g_voteNumber g_allValue g_allNumber m_allMany g_nodeL g_nodeR m_nodes g_part m_partMany g_wasMany g_wasLoss g_wasValue g_wasNumber g_path m_pathMany g_heavyValue g_heavyTimes m_heavyMany g_fewest g_which g_met m_mostMet, kx_a g_heavyValue cyI 160 (upd jv at9.toNatClampNeg p0), kx_a g_heavyTimes cyI 160 jt] H := hP
        have hD : va_D A [kx_5 h0 g_row m_n m_slots m_thrown g_many g_loss g_less g_voteValue g_voteNumber g_allValue g_allNumber m_allMany g_nodeL g_nodeR m_nodes g_part m_partMany g_wasMany g_wasLoss g_wasValue g_wasNumber g_path m_pathMany g_heavyValue g_heavyTimes m_heavyMany g_fewest g_which g_met m_mostMet, kx_a g_heavyValue cyI 160 (upd jv at9.toNatClampNeg p0), kx_a g_heavyTimes cyI 160 jt] := hD
        refine lv_aload_n hx hb dX5_comes_86 rfl (lv_at hl 1 rfl) ?_
        refine va_get (D := (dC, dI)) (ci := 5) (v := .ref g_heavyTimes) (C := RX5) (T := TX5) (N := 30) hx hb hts hi_5 hown hK hP 0 rfl rfl 24 (by decide) hf_65 (fun _ h9 => h9) rfl dX5_comes_87 ?_
        refine lv_iload_n hx hb dX5_comes_90 rfl (lv_at hl 0 rfl) ?_
        refine lv_iload_n hx hb dX5_comes_91 rfl (lv_at hl 3 rfl) ?_
        refine va_iast hx hb hK hP hD hS 2 0 rfl rfl (ki_in (om_8 LP1_h0) (om_265 i_1)) dX5_comes_92 (fun H locs hP hD hS => ?_)
        have hP : va_P (dC, dI) vwCl [kx_5 h0 g_row m_n m_slots m_thrown g_many g_loss g_less g_voteValue g_voteNumber g_allValue g_allNumber m_allMany g_nodeL g_nodeR m_nodes g_part m_partMany g_wasMany g_wasLoss g_wasValue g_wasNumber g_path m_pathMany g_heavyValue g_heavyTimes m_heavyMany g_fewest g_which g_met m_mostMet, kx_a g_heavyValue cyI 160 (upd jv at9.toNatClampNeg p0), kx_a g_heavyTimes cyI 160 (upd jt at9.toNatClampNeg p1)] H := hP
        have hD : va_D A [kx_5 h0 g_row m_n m_slots m_thrown g_many g_loss g_less g_voteValue g_voteNumber g_allValue g_allNumber m_allMany g_nodeL g_nodeR m_nodes g_part m_partMany g_wasMany g_wasLoss g_wasValue g_wasNumber g_path m_pathMany g_heavyValue g_heavyTimes m_heavyMany g_fewest g_which g_met m_mostMet, kx_a g_heavyValue cyI 160 (upd jv at9.toNatClampNeg p0), kx_a g_heavyTimes cyI 160 (upd jt at9.toNatClampNeg p1)] := hD
        refine lv_aload_n hx hb dX5_comes_93 rfl (lv_at hl 1 rfl) ?_
        refine lv_dup hx hb dX5_comes_94 rfl ?_
        refine va_get (D := (dC, dI)) (ci := 5) (v := .int m_heavyMany) (C := RX5) (T := TX5) (N := 30) hx hb hts hi_5 hown hK hP 0 rfl rfl 25 (by decide) hf_178 (fun _ h9 => h9) rfl dX5_comes_95 ?_
        refine lv_iconst (v := 1) hx hb dX5_comes_98 (by decide) ?_
        refine lv_iadd hx hb dX5_comes_99 ?_
        refine lv_topi (fun y_2 ey_2 => ?_)
        have i_2 : y_2.toInt = m_heavyMany.toInt + 1 := ki_add ey_2 rfl rfl (om_10 b0) (om_11 b1)
        refine va_put (D := (dC, dI)) (ci := 5) (v := .int y_2) (ty := .int) (C := RX5) (T := TX5) (N := 30) hx hb hts hi_5 tyX5 tyX5_ok nmX5 hown hK hP hD hS 0 rfl rfl 25 (by decide) hf_178 (fun _ h9 => h9) rfl (by decide +kernel) rfl rfl (Nat.le_of_ble_eq_true rfl) dX5_comes_100 (fun H locs hP hD hS => ?_)
        have hP : va_P (dC, dI) vwCl [kx_5 h0 g_row m_n m_slots m_thrown g_many g_loss g_less g_voteValue g_voteNumber g_allValue g_allNumber m_allMany g_nodeL g_nodeR m_nodes g_part m_partMany g_wasMany g_wasLoss g_wasValue g_wasNumber g_path m_pathMany g_heavyValue g_heavyTimes y_2 g_fewest g_which g_met m_mostMet, kx_a g_heavyValue cyI 160 (upd jv at9.toNatClampNeg p0), kx_a g_heavyTimes cyI 160 (upd jt at9.toNatClampNeg p1)] H := hP
        have hD : va_D A [kx_5 h0 g_row m_n m_slots m_thrown g_many g_loss g_less g_voteValue g_voteNumber g_allValue g_allNumber m_allMany g_nodeL g_nodeR m_nodes g_part m_partMany g_wasMany g_wasLoss g_wasValue g_wasNumber g_path m_pathMany g_heavyValue g_heavyTimes y_2 g_fewest g_which g_met m_mostMet, kx_a g_heavyValue cyI 160 (upd jv at9.toNatClampNeg p0), kx_a g_heavyTimes cyI 160 (upd jt at9.toNatClampNeg p1)] := hD
        have hP9 := hP
        have hD9 := hD
        have hK9 := hK
        exact W.vret hx hb hr (fun t ht hW => ⟨⟨(y_2, (upd jv at9.toNatClampNeg p0), (upd jt at9.toNatClampNeg p1)), rfl, (by (try dsimp only); omega), by rw [ht]; exact hP9, va_K.moved hW.alike hK9, hD9⟩, hS.F ht⟩) hS.2.2 dX5_comes_103
      · have i_1 : 0 < at9.toInt := kc_nle c_1
        refine lv_aload_n hx hb dX5_comes_9 rfl (lv_at hl 1 rfl) ?_
        refine va_get (D := (dC, dI)) (ci := 5) (v := .ref g_heavyTimes) (C := RX5) (T := TX5) (N := 30) hx hb hts hi_5 hown hK hP 0 rfl rfl 24 (by decide) hf_65 (fun _ h9 => h9) rfl dX5_comes_10 ?_
        refine lv_iload_n hx hb dX5_comes_13 rfl (lv_at hl 0 rfl) ?_
        refine lv_iconst (v := 1) hx hb dX5_comes_14 (by decide) ?_
        refine lv_isub hx hb dX5_comes_15 ?_
        refine lv_topi (fun y_3 ey_3 => ?_)
        have i_3 : y_3.toInt = at9.toInt - 1 := ki_sub ey_3 rfl rfl (om_35 i_1) (om_15 b1 LP1_h1)
        refine va_iald hx hb hK hP 2 0 rfl rfl (ki_in (om_38 i_1 i_3) (om_17 b1 LP1_h1 i_3)) dX5_comes_16 ?_
        refine lv_topi (fun y_4 ey_4 => ?_)
        have j_4 : y_4.toInt = (jt y_3.toNatClampNeg).toInt := congrArg Int32.toInt ey_4
        refine lv_iload_n hx hb dX5_comes_17 rfl (lv_at hl 3 rfl) ?_
        refine lv_icmp_lt (tgt := 45) hx hb dX5_comes_18 (by decide) (fun c_5 => ?_) (fun c_5 => ?_)
        · have i_5 : y_4.toInt < p1.toInt := kc_lt c_5
          refine lv_aload_n hx hb dX5_comes_45 rfl (lv_at hl 1 rfl) ?_
          refine va_get (D := (dC, dI)) (ci := 5) (v := .ref g_heavyValue) (C := RX5) (T := TX5) (N := 30) hx hb hts hi_5 hown hK hP 0 rfl rfl 23 (by decide) hf_62 (fun _ h9 => h9) rfl dX5_comes_46 ?_
          refine lv_iload_n hx hb dX5_comes_49 rfl (lv_at hl 0 rfl) ?_
          refine lv_aload_n hx hb dX5_comes_50 rfl (lv_at hl 1 rfl) ?_
          refine va_get (D := (dC, dI)) (ci := 5) (v := .ref g_heavyValue) (C := RX5) (T := TX5) (N := 30) hx hb hts hi_5 hown hK hP 0 rfl rfl 23 (by decide) hf_62 (fun _ h9 => h9) rfl dX5_comes_51 ?_
          refine lv_iload_n hx hb dX5_comes_54 rfl (lv_at hl 0 rfl) ?_
          refine lv_iconst (v := 1) hx hb dX5_comes_55 (by decide) ?_
          refine lv_isub hx hb dX5_comes_56 ?_
          refine lv_topi (fun y_6 ey_6 => ?_)
          have i_6 : y_6.toInt = at9.toInt - 1 := ki_sub ey_6 rfl rfl (om_35 i_1) (om_15 b1 LP1_h1)
          refine va_iald hx hb hK hP 1 0 rfl rfl (ki_in (om_38 i_1 i_6) (om_17 b1 LP1_h1 i_6)) dX5_comes_57 ?_
          refine lv_topi (fun y_7 ey_7 => ?_)
          have j_7 : y_7.toInt = (jv y_6.toNatClampNeg).toInt := congrArg Int32.toInt ey_7
          refine va_iast hx hb hK hP hD hS 1 0 rfl rfl (ki_in (om_244 i_1) (om_19 b1 LP1_h1)) dX5_comes_58 (fun H locs hP hD hS => ?_)
          have hP : va_P (dC, dI) vwCl [kx_5 h0 g_row m_n m_slots m_thrown g_many g_loss g_less g_voteValue g_voteNumber g_allValue g_allNumber m_allMany g_nodeL g_nodeR m_nodes g_part m_partMany g_wasMany g_wasLoss g_wasValue g_wasNumber g_path m_pathMany g_heavyValue g_heavyTimes m_heavyMany g_fewest g_which g_met m_mostMet, kx_a g_heavyValue cyI 160 (upd jv at9.toNatClampNeg y_7), kx_a g_heavyTimes cyI 160 jt] H := hP
          have hD : va_D A [kx_5 h0 g_row m_n m_slots m_thrown g_many g_loss g_less g_voteValue g_voteNumber g_allValue g_allNumber m_allMany g_nodeL g_nodeR m_nodes g_part m_partMany g_wasMany g_wasLoss g_wasValue g_wasNumber g_path m_pathMany g_heavyValue g_heavyTimes m_heavyMany g_fewest g_which g_met m_mostMet, kx_a g_heavyValue cyI 160 (upd jv at9.toNatClampNeg y_7), kx_a g_heavyTimes cyI 160 jt] := hD
          refine lv_aload_n hx hb dX5_comes_59 rfl (lv_at hl 1 rfl) ?_
          refine va_get (D := (dC, dI)) (ci := 5) (v := .ref g_heavyTimes) (C := RX5) (T := TX5) (N := 30) hx hb hts hi_5 hown hK hP 0 rfl rfl 24 (by decide) hf_65 (fun _ h9 => h9) rfl dX5_comes_60 ?_
          refine lv_iload_n hx hb dX5_comes_63 rfl (lv_at hl 0 rfl) ?_
          refine lv_aload_n hx hb dX5_comes_64 rfl (lv_at hl 1 rfl) ?_
          refine va_get (D := (dC, dI)) (ci := 5) (v := .ref g_heavyTimes) (C := RX5) (T := TX5) (N := 30) hx hb hts hi_5 hown hK hP 0 rfl rfl 24 (by decide) hf_65 (fun _ h9 => h9) rfl dX5_comes_65 ?_
          refine lv_iload_n hx hb dX5_comes_68 rfl (lv_at hl 0 rfl) ?_
          refine lv_iconst (v := 1) hx hb dX5_comes_69 (by decide) ?_
          refine lv_isub hx hb dX5_comes_70 ?_
          refine lv_topi (fun y_8 ey_8 => ?_)
          have i_8 : y_8.toInt = at9.toInt - 1 := ki_sub ey_8 rfl rfl (om_35 i_1) (om_15 b1 LP1_h1)
          refine va_iald hx hb hK hP 2 0 rfl rfl (ki_in (om_38 i_1 i_8) (om_17 b1 LP1_h1 i_8)) dX5_comes_71 ?_
          refine lv_topi (fun y_9 ey_9 => ?_)
          have j_9 : y_9.toInt = (jt y_8.toNatClampNeg).toInt := congrArg Int32.toInt ey_9
          refine va_iast hx hb hK hP hD hS 2 0 rfl rfl (ki_in (om_244 i_1) (om_19 b1 LP1_h1)) dX5_comes_72 (fun H locs hP hD hS => ?_)
          have hP : va_P (dC, dI) vwCl [kx_5 h0 g_row m_n m_slots m_thrown g_many g_loss g_less g_voteValue g_voteNumber g_allValue g_allNumber m_allMany g_nodeL g_nodeR m_nodes g_part m_partMany g_wasMany g_wasLoss g_wasValue g_wasNumber g_path m_pathMany g_heavyValue g_heavyTimes m_heavyMany g_fewest g_which g_met m_mostMet, kx_a g_heavyValue cyI 160 (upd jv at9.toNatClampNeg y_7), kx_a g_heavyTimes cyI 160 (upd jt at9.toNatClampNeg y_9)] H := hP
          have hD : va_D A [kx_5 h0 g_row m_n m_slots m_thrown g_many g_loss g_less g_voteValue g_voteNumber g_allValue g_allNumber m_allMany g_nodeL g_nodeR m_nodes g_part m_partMany g_wasMany g_wasLoss g_wasValue g_wasNumber g_path m_pathMany g_heavyValue g_heavyTimes m_heavyMany g_fewest g_which g_met m_mostMet, kx_a g_heavyValue cyI 160 (upd jv at9.toNatClampNeg y_7), kx_a g_heavyTimes cyI 160 (upd jt at9.toNatClampNeg y_9)] := hD
          obtain ⟨x_10, ex_10⟩ : ∃ y : Int32, y = at9 + (-1) := ⟨_, rfl⟩
          have i_10 : x_10.toInt = at9.toInt + (-1) := ki_add ex_10 rfl rfl (om_40 i_1) (om_21 b1 LP1_h1)
          refine lv_iinc (v := x_10) (lv' := [(3, .int x_10), (0, .ref h0), (1, .int p0), (2, .int p1)]) hx hb dX5_comes_73 hl (k := 0) rfl (by rw [ex_10]; rfl) (by decide) rfl (fun ls hl => ?_)
          refine lv_goto (tgt := 5) hx hb dX5_comes_76 (by decide) ?_
          exact ih1 x_10 (upd jv at9.toNatClampNeg y_7) (upd jt at9.toNatClampNeg y_9) (om_42 i_1 i_10) (om_23 LP1_h1 i_10) (om_mu hn1 (om_24 i_10) (om_43 i_1)) _ _ hP hD hS ls (lv_sub hl [0, 1, 2, 3] rfl)
        · have i_5 : p1.toInt ≤ y_4.toInt := kc_nlt c_5
          refine lv_aload_n hx hb dX5_comes_21 rfl (lv_at hl 1 rfl) ?_
          refine va_get (D := (dC, dI)) (ci := 5) (v := .ref g_heavyTimes) (C := RX5) (T := TX5) (N := 30) hx hb hts hi_5 hown hK hP 0 rfl rfl 24 (by decide) hf_65 (fun _ h9 => h9) rfl dX5_comes_22 ?_
          refine lv_iload_n hx hb dX5_comes_25 rfl (lv_at hl 0 rfl) ?_
          refine lv_iconst (v := 1) hx hb dX5_comes_26 (by decide) ?_
          refine lv_isub hx hb dX5_comes_27 ?_
          refine lv_topi (fun y_11 ey_11 => ?_)
          have i_11 : y_11.toInt = at9.toInt - 1 := ki_sub ey_11 rfl rfl (om_35 i_1) (om_15 b1 LP1_h1)
          refine va_iald hx hb hK hP 2 0 rfl rfl (ki_in (om_38 i_1 i_11) (om_17 b1 LP1_h1 i_11)) dX5_comes_28 ?_
          refine lv_topi (fun y_12 ey_12 => ?_)
          have j_12 : y_12.toInt = (jt y_11.toNatClampNeg).toInt := congrArg Int32.toInt ey_12
          refine lv_iload_n hx hb dX5_comes_29 rfl (lv_at hl 3 rfl) ?_
          refine lv_icmp_ne (tgt := 79) hx hb dX5_comes_30 (by decide) (fun c_13 => ?_) (fun c_13 => ?_)
          · have i_13 : ¬ y_12.toInt = p1.toInt := kc_ne c_13
            refine lv_aload_n hx hb dX5_comes_79 rfl (lv_at hl 1 rfl) ?_
            refine va_get (D := (dC, dI)) (ci := 5) (v := .ref g_heavyValue) (C := RX5) (T := TX5) (N := 30) hx hb hts hi_5 hown hK hP 0 rfl rfl 23 (by decide) hf_62 (fun _ h9 => h9) rfl dX5_comes_80 ?_
            refine lv_iload_n hx hb dX5_comes_83 rfl (lv_at hl 0 rfl) ?_
            refine lv_iload_n hx hb dX5_comes_84 rfl (lv_at hl 2 rfl) ?_
            refine va_iast hx hb hK hP hD hS 1 0 rfl rfl (ki_in (om_244 i_1) (om_19 b1 LP1_h1)) dX5_comes_85 (fun H locs hP hD hS => ?_)
            have hP : va_P (dC, dI) vwCl [kx_5 h0 g_row m_n m_slots m_thrown g_many g_loss g_less g_voteValue g_voteNumber g_allValue g_allNumber m_allMany g_nodeL g_nodeR m_nodes g_part m_partMany g_wasMany g_wasLoss g_wasValue g_wasNumber g_path m_pathMany g_heavyValue g_heavyTimes m_heavyMany g_fewest g_which g_met m_mostMet, kx_a g_heavyValue cyI 160 (upd jv at9.toNatClampNeg p0), kx_a g_heavyTimes cyI 160 jt] H := hP
            have hD : va_D A [kx_5 h0 g_row m_n m_slots m_thrown g_many g_loss g_less g_voteValue g_voteNumber g_allValue g_allNumber m_allMany g_nodeL g_nodeR m_nodes g_part m_partMany g_wasMany g_wasLoss g_wasValue g_wasNumber g_path m_pathMany g_heavyValue g_heavyTimes m_heavyMany g_fewest g_which g_met m_mostMet, kx_a g_heavyValue cyI 160 (upd jv at9.toNatClampNeg p0), kx_a g_heavyTimes cyI 160 jt] := hD
            refine lv_aload_n hx hb dX5_comes_86 rfl (lv_at hl 1 rfl) ?_
            refine va_get (D := (dC, dI)) (ci := 5) (v := .ref g_heavyTimes) (C := RX5) (T := TX5) (N := 30) hx hb hts hi_5 hown hK hP 0 rfl rfl 24 (by decide) hf_65 (fun _ h9 => h9) rfl dX5_comes_87 ?_
            refine lv_iload_n hx hb dX5_comes_90 rfl (lv_at hl 0 rfl) ?_
            refine lv_iload_n hx hb dX5_comes_91 rfl (lv_at hl 3 rfl) ?_
            refine va_iast hx hb hK hP hD hS 2 0 rfl rfl (ki_in (om_244 i_1) (om_19 b1 LP1_h1)) dX5_comes_92 (fun H locs hP hD hS => ?_)
            have hP : va_P (dC, dI) vwCl [kx_5 h0 g_row m_n m_slots m_thrown g_many g_loss g_less g_voteValue g_voteNumber g_allValue g_allNumber m_allMany g_nodeL g_nodeR m_nodes g_part m_partMany g_wasMany g_wasLoss g_wasValue g_wasNumber g_path m_pathMany g_heavyValue g_heavyTimes m_heavyMany g_fewest g_which g_met m_mostMet, kx_a g_heavyValue cyI 160 (upd jv at9.toNatClampNeg p0), kx_a g_heavyTimes cyI 160 (upd jt at9.toNatClampNeg p1)] H := hP
            have hD : va_D A [kx_5 h0 g_row m_n m_slots m_thrown g_many g_loss g_less g_voteValue g_voteNumber g_allValue g_allNumber m_allMany g_nodeL g_nodeR m_nodes g_part m_partMany g_wasMany g_wasLoss g_wasValue g_wasNumber g_path m_pathMany g_heavyValue g_heavyTimes m_heavyMany g_fewest g_which g_met m_mostMet, kx_a g_heavyValue cyI 160 (upd jv at9.toNatClampNeg p0), kx_a g_heavyTimes cyI 160 (upd jt at9.toNatClampNeg p1)] := hD
            refine lv_aload_n hx hb dX5_comes_93 rfl (lv_at hl 1 rfl) ?_
            refine lv_dup hx hb dX5_comes_94 rfl ?_
            refine va_get (D := (dC, dI)) (ci := 5) (v := .int m_heavyMany) (C := RX5) (T := TX5) (N := 30) hx hb hts hi_5 hown hK hP 0 rfl rfl 25 (by decide) hf_178 (fun _ h9 => h9) rfl dX5_comes_95 ?_
            refine lv_iconst (v := 1) hx hb dX5_comes_98 (by decide) ?_
            refine lv_iadd hx hb dX5_comes_99 ?_
            refine lv_topi (fun y_14 ey_14 => ?_)
            have i_14 : y_14.toInt = m_heavyMany.toInt + 1 := ki_add ey_14 rfl rfl (om_10 b0) (om_11 b1)
            refine va_put (D := (dC, dI)) (ci := 5) (v := .int y_14) (ty := .int) (C := RX5) (T := TX5) (N := 30) hx hb hts hi_5 tyX5 tyX5_ok nmX5 hown hK hP hD hS 0 rfl rfl 25 (by decide) hf_178 (fun _ h9 => h9) rfl (by decide +kernel) rfl rfl (Nat.le_of_ble_eq_true rfl) dX5_comes_100 (fun H locs hP hD hS => ?_)
            have hP : va_P (dC, dI) vwCl [kx_5 h0 g_row m_n m_slots m_thrown g_many g_loss g_less g_voteValue g_voteNumber g_allValue g_allNumber m_allMany g_nodeL g_nodeR m_nodes g_part m_partMany g_wasMany g_wasLoss g_wasValue g_wasNumber g_path m_pathMany g_heavyValue g_heavyTimes y_14 g_fewest g_which g_met m_mostMet, kx_a g_heavyValue cyI 160 (upd jv at9.toNatClampNeg p0), kx_a g_heavyTimes cyI 160 (upd jt at9.toNatClampNeg p1)] H := hP
            have hD : va_D A [kx_5 h0 g_row m_n m_slots m_thrown g_many g_loss g_less g_voteValue g_voteNumber g_allValue g_allNumber m_allMany g_nodeL g_nodeR m_nodes g_part m_partMany g_wasMany g_wasLoss g_wasValue g_wasNumber g_path m_pathMany g_heavyValue g_heavyTimes y_14 g_fewest g_which g_met m_mostMet, kx_a g_heavyValue cyI 160 (upd jv at9.toNatClampNeg p0), kx_a g_heavyTimes cyI 160 (upd jt at9.toNatClampNeg p1)] := hD
            have hP9 := hP
            have hD9 := hD
            have hK9 := hK
            exact W.vret hx hb hr (fun t ht hW => ⟨⟨(y_14, (upd jv at9.toNatClampNeg p0), (upd jt at9.toNatClampNeg p1)), rfl, (by (try dsimp only); omega), by rw [ht]; exact hP9, va_K.moved hW.alike hK9, hD9⟩, hS.F ht⟩) hS.2.2 dX5_comes_103
          · have i_13 : y_12.toInt = p1.toInt := kc_eq c_13
            refine lv_aload_n hx hb dX5_comes_33 rfl (lv_at hl 1 rfl) ?_
            refine va_get (D := (dC, dI)) (ci := 5) (v := .ref g_heavyValue) (C := RX5) (T := TX5) (N := 30) hx hb hts hi_5 hown hK hP 0 rfl rfl 23 (by decide) hf_62 (fun _ h9 => h9) rfl dX5_comes_34 ?_
            refine lv_iload_n hx hb dX5_comes_37 rfl (lv_at hl 0 rfl) ?_
            refine lv_iconst (v := 1) hx hb dX5_comes_38 (by decide) ?_
            refine lv_isub hx hb dX5_comes_39 ?_
            refine lv_topi (fun y_15 ey_15 => ?_)
            have i_15 : y_15.toInt = at9.toInt - 1 := ki_sub ey_15 rfl rfl (om_35 i_1) (om_15 b1 LP1_h1)
            refine va_iald hx hb hK hP 1 0 rfl rfl (ki_in (om_38 i_1 i_15) (om_17 b1 LP1_h1 i_15)) dX5_comes_40 ?_
            refine lv_topi (fun y_16 ey_16 => ?_)
            have j_16 : y_16.toInt = (jv y_15.toNatClampNeg).toInt := congrArg Int32.toInt ey_16
            refine lv_iload_n hx hb dX5_comes_41 rfl (lv_at hl 2 rfl) ?_
            refine lv_icmp_le (tgt := 79) hx hb dX5_comes_42 (by decide) (fun c_17 => ?_) (fun c_17 => ?_)
            · have i_17 : y_16.toInt ≤ p0.toInt := kc_le c_17
              refine lv_aload_n hx hb dX5_comes_79 rfl (lv_at hl 1 rfl) ?_
              refine va_get (D := (dC, dI)) (ci := 5) (v := .ref g_heavyValue) (C := RX5) (T := TX5) (N := 30) hx hb hts hi_5 hown hK hP 0 rfl rfl 23 (by decide) hf_62 (fun _ h9 => h9) rfl dX5_comes_80 ?_
              refine lv_iload_n hx hb dX5_comes_83 rfl (lv_at hl 0 rfl) ?_
              refine lv_iload_n hx hb dX5_comes_84 rfl (lv_at hl 2 rfl) ?_
              refine va_iast hx hb hK hP hD hS 1 0 rfl rfl (ki_in (om_244 i_1) (om_19 b1 LP1_h1)) dX5_comes_85 (fun H locs hP hD hS => ?_)
              have hP : va_P (dC, dI) vwCl [kx_5 h0 g_row m_n m_slots m_thrown g_many g_loss g_less g_voteValue g_voteNumber g_allValue g_allNumber m_allMany g_nodeL g_nodeR m_nodes g_part m_partMany g_wasMany g_wasLoss g_wasValue g_wasNumber g_path m_pathMany g_heavyValue g_heavyTimes m_heavyMany g_fewest g_which g_met m_mostMet, kx_a g_heavyValue cyI 160 (upd jv at9.toNatClampNeg p0), kx_a g_heavyTimes cyI 160 jt] H := hP
              have hD : va_D A [kx_5 h0 g_row m_n m_slots m_thrown g_many g_loss g_less g_voteValue g_voteNumber g_allValue g_allNumber m_allMany g_nodeL g_nodeR m_nodes g_part m_partMany g_wasMany g_wasLoss g_wasValue g_wasNumber g_path m_pathMany g_heavyValue g_heavyTimes m_heavyMany g_fewest g_which g_met m_mostMet, kx_a g_heavyValue cyI 160 (upd jv at9.toNatClampNeg p0), kx_a g_heavyTimes cyI 160 jt] := hD
              refine lv_aload_n hx hb dX5_comes_86 rfl (lv_at hl 1 rfl) ?_
              refine va_get (D := (dC, dI)) (ci := 5) (v := .ref g_heavyTimes) (C := RX5) (T := TX5) (N := 30) hx hb hts hi_5 hown hK hP 0 rfl rfl 24 (by decide) hf_65 (fun _ h9 => h9) rfl dX5_comes_87 ?_
              refine lv_iload_n hx hb dX5_comes_90 rfl (lv_at hl 0 rfl) ?_
              refine lv_iload_n hx hb dX5_comes_91 rfl (lv_at hl 3 rfl) ?_
              refine va_iast hx hb hK hP hD hS 2 0 rfl rfl (ki_in (om_244 i_1) (om_19 b1 LP1_h1)) dX5_comes_92 (fun H locs hP hD hS => ?_)
              have hP : va_P (dC, dI) vwCl [kx_5 h0 g_row m_n m_slots m_thrown g_many g_loss g_less g_voteValue g_voteNumber g_allValue g_allNumber m_allMany g_nodeL g_nodeR m_nodes g_part m_partMany g_wasMany g_wasLoss g_wasValue g_wasNumber g_path m_pathMany g_heavyValue g_heavyTimes m_heavyMany g_fewest g_which g_met m_mostMet, kx_a g_heavyValue cyI 160 (upd jv at9.toNatClampNeg p0), kx_a g_heavyTimes cyI 160 (upd jt at9.toNatClampNeg p1)] H := hP
              have hD : va_D A [kx_5 h0 g_row m_n m_slots m_thrown g_many g_loss g_less g_voteValue g_voteNumber g_allValue g_allNumber m_allMany g_nodeL g_nodeR m_nodes g_part m_partMany g_wasMany g_wasLoss g_wasValue g_wasNumber g_path m_pathMany g_heavyValue g_heavyTimes m_heavyMany g_fewest g_which g_met m_mostMet, kx_a g_heavyValue cyI 160 (upd jv at9.toNatClampNeg p0), kx_a g_heavyTimes cyI 160 (upd jt at9.toNatClampNeg p1)] := hD
              refine lv_aload_n hx hb dX5_comes_93 rfl (lv_at hl 1 rfl) ?_
              refine lv_dup hx hb dX5_comes_94 rfl ?_
              refine va_get (D := (dC, dI)) (ci := 5) (v := .int m_heavyMany) (C := RX5) (T := TX5) (N := 30) hx hb hts hi_5 hown hK hP 0 rfl rfl 25 (by decide) hf_178 (fun _ h9 => h9) rfl dX5_comes_95 ?_
              refine lv_iconst (v := 1) hx hb dX5_comes_98 (by decide) ?_
              refine lv_iadd hx hb dX5_comes_99 ?_
              refine lv_topi (fun y_18 ey_18 => ?_)
              have i_18 : y_18.toInt = m_heavyMany.toInt + 1 := ki_add ey_18 rfl rfl (om_10 b0) (om_11 b1)
              refine va_put (D := (dC, dI)) (ci := 5) (v := .int y_18) (ty := .int) (C := RX5) (T := TX5) (N := 30) hx hb hts hi_5 tyX5 tyX5_ok nmX5 hown hK hP hD hS 0 rfl rfl 25 (by decide) hf_178 (fun _ h9 => h9) rfl (by decide +kernel) rfl rfl (Nat.le_of_ble_eq_true rfl) dX5_comes_100 (fun H locs hP hD hS => ?_)
              have hP : va_P (dC, dI) vwCl [kx_5 h0 g_row m_n m_slots m_thrown g_many g_loss g_less g_voteValue g_voteNumber g_allValue g_allNumber m_allMany g_nodeL g_nodeR m_nodes g_part m_partMany g_wasMany g_wasLoss g_wasValue g_wasNumber g_path m_pathMany g_heavyValue g_heavyTimes y_18 g_fewest g_which g_met m_mostMet, kx_a g_heavyValue cyI 160 (upd jv at9.toNatClampNeg p0), kx_a g_heavyTimes cyI 160 (upd jt at9.toNatClampNeg p1)] H := hP
              have hD : va_D A [kx_5 h0 g_row m_n m_slots m_thrown g_many g_loss g_less g_voteValue g_voteNumber g_allValue g_allNumber m_allMany g_nodeL g_nodeR m_nodes g_part m_partMany g_wasMany g_wasLoss g_wasValue g_wasNumber g_path m_pathMany g_heavyValue g_heavyTimes y_18 g_fewest g_which g_met m_mostMet, kx_a g_heavyValue cyI 160 (upd jv at9.toNatClampNeg p0), kx_a g_heavyTimes cyI 160 (upd jt at9.toNatClampNeg p1)] := hD
              have hP9 := hP
              have hD9 := hD
              have hK9 := hK
              exact W.vret hx hb hr (fun t ht hW => ⟨⟨(y_18, (upd jv at9.toNatClampNeg p0), (upd jt at9.toNatClampNeg p1)), rfl, (by (try dsimp only); omega), by rw [ht]; exact hP9, va_K.moved hW.alike hK9, hD9⟩, hS.F ht⟩) hS.2.2 dX5_comes_103
            · have i_17 : p0.toInt < y_16.toInt := kc_nle c_17
              refine lv_aload_n hx hb dX5_comes_45 rfl (lv_at hl 1 rfl) ?_
              refine va_get (D := (dC, dI)) (ci := 5) (v := .ref g_heavyValue) (C := RX5) (T := TX5) (N := 30) hx hb hts hi_5 hown hK hP 0 rfl rfl 23 (by decide) hf_62 (fun _ h9 => h9) rfl dX5_comes_46 ?_
              refine lv_iload_n hx hb dX5_comes_49 rfl (lv_at hl 0 rfl) ?_
              refine lv_aload_n hx hb dX5_comes_50 rfl (lv_at hl 1 rfl) ?_
              refine va_get (D := (dC, dI)) (ci := 5) (v := .ref g_heavyValue) (C := RX5) (T := TX5) (N := 30) hx hb hts hi_5 hown hK hP 0 rfl rfl 23 (by decide) hf_62 (fun _ h9 => h9) rfl dX5_comes_51 ?_
              refine lv_iload_n hx hb dX5_comes_54 rfl (lv_at hl 0 rfl) ?_
              refine lv_iconst (v := 1) hx hb dX5_comes_55 (by decide) ?_
              refine lv_isub hx hb dX5_comes_56 ?_
              refine lv_topi (fun y_19 ey_19 => ?_)
              have i_19 : y_19.toInt = at9.toInt - 1 := ki_sub ey_19 rfl rfl (om_35 i_1) (om_15 b1 LP1_h1)
              refine va_iald hx hb hK hP 1 0 rfl rfl (ki_in (om_38 i_1 i_19) (om_17 b1 LP1_h1 i_19)) dX5_comes_57 ?_
              refine lv_topi (fun y_20 ey_20 => ?_)
              have j_20 : y_20.toInt = (jv y_19.toNatClampNeg).toInt := congrArg Int32.toInt ey_20
              refine va_iast hx hb hK hP hD hS 1 0 rfl rfl (ki_in (om_244 i_1) (om_19 b1 LP1_h1)) dX5_comes_58 (fun H locs hP hD hS => ?_)
              have hP : va_P (dC, dI) vwCl [kx_5 h0 g_row m_n m_slots m_thrown g_many g_loss g_less g_voteValue g_voteNumber g_allValue g_allNumber m_allMany g_nodeL g_nodeR m_nodes g_part m_partMany g_wasMany g_wasLoss g_wasValue g_wasNumber g_path m_pathMany g_heavyValue g_heavyTimes m_heavyMany g_fewest g_which g_met m_mostMet, kx_a g_heavyValue cyI 160 (upd jv at9.toNatClampNeg y_20), kx_a g_heavyTimes cyI 160 jt] H := hP
              have hD : va_D A [kx_5 h0 g_row m_n m_slots m_thrown g_many g_loss g_less g_voteValue g_voteNumber g_allValue g_allNumber m_allMany g_nodeL g_nodeR m_nodes g_part m_partMany g_wasMany g_wasLoss g_wasValue g_wasNumber g_path m_pathMany g_heavyValue g_heavyTimes m_heavyMany g_fewest g_which g_met m_mostMet, kx_a g_heavyValue cyI 160 (upd jv at9.toNatClampNeg y_20), kx_a g_heavyTimes cyI 160 jt] := hD
              refine lv_aload_n hx hb dX5_comes_59 rfl (lv_at hl 1 rfl) ?_
              refine va_get (D := (dC, dI)) (ci := 5) (v := .ref g_heavyTimes) (C := RX5) (T := TX5) (N := 30) hx hb hts hi_5 hown hK hP 0 rfl rfl 24 (by decide) hf_65 (fun _ h9 => h9) rfl dX5_comes_60 ?_
              refine lv_iload_n hx hb dX5_comes_63 rfl (lv_at hl 0 rfl) ?_
              refine lv_aload_n hx hb dX5_comes_64 rfl (lv_at hl 1 rfl) ?_
              refine va_get (D := (dC, dI)) (ci := 5) (v := .ref g_heavyTimes) (C := RX5) (T := TX5) (N := 30) hx hb hts hi_5 hown hK hP 0 rfl rfl 24 (by decide) hf_65 (fun _ h9 => h9) rfl dX5_comes_65 ?_
              refine lv_iload_n hx hb dX5_comes_68 rfl (lv_at hl 0 rfl) ?_
              refine lv_iconst (v := 1) hx hb dX5_comes_69 (by decide) ?_
              refine lv_isub hx hb dX5_comes_70 ?_
              refine lv_topi (fun y_21 ey_21 => ?_)
              have i_21 : y_21.toInt = at9.toInt - 1 := ki_sub ey_21 rfl rfl (om_35 i_1) (om_15 b1 LP1_h1)
              refine va_iald hx hb hK hP 2 0 rfl rfl (ki_in (om_38 i_1 i_21) (om_17 b1 LP1_h1 i_21)) dX5_comes_71 ?_
              refine lv_topi (fun y_22 ey_22 => ?_)
              have j_22 : y_22.toInt = (jt y_21.toNatClampNeg).toInt := congrArg Int32.toInt ey_22
              refine va_iast hx hb hK hP hD hS 2 0 rfl rfl (ki_in (om_244 i_1) (om_19 b1 LP1_h1)) dX5_comes_72 (fun H locs hP hD hS => ?_)
              have hP : va_P (dC, dI) vwCl [kx_5 h0 g_row m_n m_slots m_thrown g_many g_loss g_less g_voteValue g_voteNumber g_allValue g_allNumber m_allMany g_nodeL g_nodeR m_nodes g_part m_partMany g_wasMany g_wasLoss g_wasValue g_wasNumber g_path m_pathMany g_heavyValue g_heavyTimes m_heavyMany g_fewest g_which g_met m_mostMet, kx_a g_heavyValue cyI 160 (upd jv at9.toNatClampNeg y_20), kx_a g_heavyTimes cyI 160 (upd jt at9.toNatClampNeg y_22)] H := hP
              have hD : va_D A [kx_5 h0 g_row m_n m_slots m_thrown g_many g_loss g_less g_voteValue g_voteNumber g_allValue g_allNumber m_allMany g_nodeL g_nodeR m_nodes g_part m_partMany g_wasMany g_wasLoss g_wasValue g_wasNumber g_path m_pathMany g_heavyValue g_heavyTimes m_heavyMany g_fewest g_which g_met m_mostMet, kx_a g_heavyValue cyI 160 (upd jv at9.toNatClampNeg y_20), kx_a g_heavyTimes cyI 160 (upd jt at9.toNatClampNeg y_22)] := hD
              obtain ⟨x_23, ex_23⟩ : ∃ y : Int32, y = at9 + (-1) := ⟨_, rfl⟩
              have i_23 : x_23.toInt = at9.toInt + (-1) := ki_add ex_23 rfl rfl (om_40 i_1) (om_21 b1 LP1_h1)
              refine lv_iinc (v := x_23) (lv' := [(3, .int x_23), (0, .ref h0), (1, .int p0), (2, .int p1)]) hx hb dX5_comes_73 hl (k := 0) rfl (by rw [ex_23]; rfl) (by decide) rfl (fun ls hl => ?_)
              refine lv_goto (tgt := 5) hx hb dX5_comes_76 (by decide) ?_
              exact ih1 x_23 (upd jv at9.toNatClampNeg y_20) (upd jt at9.toNatClampNeg y_22) (om_42 i_1 i_23) (om_23 LP1_h1 i_23) (om_mu hn1 (om_24 i_23) (om_43 i_1)) _ _ hP hD hS ls (lv_sub hl [0, 1, 2, 3] rfl)
  exact LP1 ((m_heavyMany.toInt : Int).toNat + 1) m_heavyMany zv zt (om_8 b0) om_7 (Nat.lt_succ_self _) _ _ hP hD hS ls (lv_sub hl [0, 1, 2, 3] rfl)

set_option maxHeartbeats 4000000 in
set_option maxRecDepth 100000 in
theorem c_X5_laysHeavy (l : Launch) (dC : Nat → ClassId) (dI : Nat → Nat → Nat) (h0 : Nat) (g_row : Nat) (g_many : Nat) (g_loss : Nat) (g_less : Nat) (g_voteValue : Nat) (g_voteNumber : Nat) (g_allValue : Nat) (g_allNumber : Nat) (g_nodeL : Nat) (g_nodeR : Nat) (g_part : Nat) (g_wasMany : Nat) (g_wasLoss : Nat) (g_wasValue : Nat) (g_wasNumber : Nat) (g_path : Nat) (g_heavyValue : Nat) (g_heavyTimes : Nat) (g_fewest : Nat) (g_which : Nat) (g_met : Nat) (m_n : Int32) (m_slots : Int32) (m_thrown : Int32) (m_allMany : Int32) (m_nodes : Int32) (m_partMany : Int32) (m_pathMany : Int32) (m_heavyMany : Int32) (m_mostMet : Int32) (cyI : ClassId) (f : Nat → Int32) (zv : Nat → Int32) (zt : Nat → Int32) (p0 : Int32) (p1 : Int32) (p2 : Int32) (p3 : Int32) (p4 : Int32) (p5 : Int32) (sz : Nat) (b0 : 0 ≤ p0.toInt) (b1 : p0.toInt ≤ p1.toInt) (b2 : p1.toInt ≤ 160) (b3 : 0 ≤ p2.toInt) (b4 : p2.toInt ≤ p3.toInt) (b5 : p3.toInt ≤ 160) (b6 : p1.toInt - p0.toInt + p3.toInt - p2.toInt ≤ 160) : Met l yX5_laysHeavy wsX5_laysHeavy ({ frames := 1, cells := 0, slots := 0, locals := 45 }) (va_Pc [.ref h0, .int p0, .int p1, .int p2, .int p3, .int p4, .int p5] (fun U => U.heap.size = sz ∧ va_P (dC, dI) vwCl [kx_5 h0 g_row m_n m_slots m_thrown g_many g_loss g_less g_voteValue g_voteNumber g_allValue g_allNumber m_allMany g_nodeL g_nodeR m_nodes g_part m_partMany g_wasMany g_wasLoss g_wasValue g_wasNumber g_path m_pathMany g_heavyValue g_heavyTimes m_heavyMany g_fewest g_which g_met m_mostMet, kx_a g_row cyI 160 f, kx_a g_heavyValue cyI 160 zv, kx_a g_heavyTimes cyI 160 zt] U.heap ∧ va_K (dC, dI) vwCl [(cyI, .int)] U ∧ va_D (fun _ => True) [kx_5 h0 g_row m_n m_slots m_thrown g_many g_loss g_less g_voteValue g_voteNumber g_allValue g_allNumber m_allMany g_nodeL g_nodeR m_nodes g_part m_partMany g_wasMany g_wasLoss g_wasValue g_wasNumber g_path m_pathMany g_heavyValue g_heavyTimes m_heavyMany g_fewest g_which g_met m_mostMet, kx_a g_row cyI 160 f, kx_a g_heavyValue cyI 160 zv, kx_a g_heavyTimes cyI 160 zt])) (va_Qv (fun u : Int32 × (Nat → Int32) × (Nat → Int32) => 0 ≤ u.1.toInt ∧ u.1.toInt ≤ 160) (fun (u : Int32 × (Nat → Int32) × (Nat → Int32)) (t : State) => va_P (dC, dI) vwCl [kx_5 h0 g_row m_n m_slots m_thrown g_many g_loss g_less g_voteValue g_voteNumber g_allValue g_allNumber m_allMany g_nodeL g_nodeR m_nodes g_part m_partMany g_wasMany g_wasLoss g_wasValue g_wasNumber g_path m_pathMany g_heavyValue g_heavyTimes u.1 g_fewest g_which g_met m_mostMet, kx_a g_row cyI 160 f, kx_a g_heavyValue cyI 160 u.2.1, kx_a g_heavyTimes cyI 160 u.2.2] t.heap ∧ va_K (dC, dI) vwCl [(cyI, .int)] t ∧ va_D (va_A [kx_5 h0 g_row m_n m_slots m_thrown g_many g_loss g_less g_voteValue g_voteNumber g_allValue g_allNumber m_allMany g_nodeL g_nodeR m_nodes g_part m_partMany g_wasMany g_wasLoss g_wasValue g_wasNumber g_path m_pathMany g_heavyValue g_heavyTimes m_heavyMany g_fewest g_which g_met m_mostMet, kx_a g_row cyI 160 f, kx_a g_heavyValue cyI 160 zv, kx_a g_heavyTimes cyI 160 zt] sz) [kx_5 h0 g_row m_n m_slots m_thrown g_many g_loss g_less g_voteValue g_voteNumber g_allValue g_allNumber m_allMany g_nodeL g_nodeR m_nodes g_part m_partMany g_wasMany g_wasLoss g_wasValue g_wasNumber g_path m_pathMany g_heavyValue g_heavyTimes u.1 g_fewest g_which g_met m_mostMet, kx_a g_row cyI 160 f, kx_a g_heavyValue cyI 160 u.2.1, kx_a g_heavyTimes cyI 160 u.2.2]) (va_A [kx_5 h0 g_row m_n m_slots m_thrown g_many g_loss g_less g_voteValue g_voteNumber g_allValue g_allNumber m_allMany g_nodeL g_nodeR m_nodes g_part m_partMany g_wasMany g_wasLoss g_wasValue g_wasNumber g_path m_pathMany g_heavyValue g_heavyTimes m_heavyMany g_fewest g_which g_met m_mostMet, kx_a g_row cyI 160 f, kx_a g_heavyValue cyI 160 zv, kx_a g_heavyTimes cyI 160 zt] sz)) 0 0 (va_A [kx_5 h0 g_row m_n m_slots m_thrown g_many g_loss g_less g_voteValue g_voteNumber g_allValue g_allNumber m_allMany g_nodeL g_nodeR m_nodes g_part m_partMany g_wasMany g_wasLoss g_wasValue g_wasNumber g_path m_pathMany g_heavyValue g_heavyTimes m_heavyMany g_fewest g_which g_met m_mostMet, kx_a g_row cyI 160 f, kx_a g_heavyValue cyI 160 zv, kx_a g_heavyTimes cyI 160 zt] sz) := by
  refine Met.ofW (cc := cX5_laysHeavy) (maxL := 10) (ret := none) (by decide) rfl ?_
  intro p e s m args below meth c s₁ B hml hv
  obtain ⟨rfl, hsz, hP, hK, hD0⟩ := hv
  have hx := B.exec
  have hb := B.bytes
  have hr := B.returns
  have hts := atoms_spec (ws := wsX5_laysHeavy) B.pre
  have hown : s.vm.findClass RX5 = some m.cls := findClass_of_methodNamed B.named
  have hlocks := B.notSynchronized
  subst hsz
  have hD := hD0.self (sz := s.heap.size)
  generalize hAe : va_A [kx_5 h0 g_row m_n m_slots m_thrown g_many g_loss g_less g_voteValue g_voteNumber g_allValue g_allNumber m_allMany g_nodeL g_nodeR m_nodes g_part m_partMany g_wasMany g_wasLoss g_wasValue g_wasNumber g_path m_pathMany g_heavyValue g_heavyTimes m_heavyMany g_fewest g_which g_met m_mostMet, kx_a g_row cyI 160 f, kx_a g_heavyValue cyI 160 zv, kx_a g_heavyTimes cyI 160 zt] s.heap.size = A at hD ⊢
  have hA : ∀ q : Nat, s.heap.size ≤ q → A q := fun q h => by rw [← hAe]; exact Or.inr h
  have hS : va_S A s.heap s.heap [] := va_S.rf
  have hP : va_P (dC, dI) vwCl [kx_5 h0 g_row m_n m_slots m_thrown g_many g_loss g_less g_voteValue g_voteNumber g_allValue g_allNumber m_allMany g_nodeL g_nodeR m_nodes g_part m_partMany g_wasMany g_wasLoss g_wasValue g_wasNumber g_path m_pathMany g_heavyValue g_heavyTimes m_heavyMany g_fewest g_which g_met m_mostMet, kx_a g_row cyI 160 f, kx_a g_heavyValue cyI 160 zv, kx_a g_heavyTimes cyI 160 zt] s.heap := hP
  have hl := lv_entry ([.ref h0, .int p0, .int p1, .int p2, .int p3, .int p4, .int p5]) (n := 10) (Nat.le_of_ble_eq_true rfl)
  rw [lg_entry_eq]
  generalize (lg_sl ([.ref h0, .int p0, .int p1, .int p2, .int p3, .int p4, .int p5]) ++ List.replicate (10 - (lg_sl ([.ref h0, .int p0, .int p1, .int p2, .int p3, .int p4, .int p5])).length) Slot.unset).toArray = ls at hl ⊢
  have hl : lv_has ls 10 [(0, .ref h0), (1, .int p0), (2, .int p1), (3, .int p2), (4, .int p3), (5, .int p4), (6, .int p5)] := hl
  have hf_178 := hts (.fieldLink RX5 178 "MajorityIndexModel" "heavyMany" "I") (List.mem_of_getElem? (i := 1) rfl)
  have hi_5 : ∀ w ∈ u_ws RX5 TX5 30, w ∈ wsX5_laysHeavy := fun w h => List.mem_cons_of_mem _ (List.mem_append_right _ h)
  have hf_7 := hts (.fieldLink RX5 7 "MajorityIndexModel" "row" "[I") (List.mem_of_getElem? (i := 2) rfl)
  refine lv_aload_n hx hb dX5_laysHeavy_0 rfl (lv_at hl 0 rfl) ?_
  refine lv_iconst (v := 0) hx hb dX5_laysHeavy_1 (by decide) ?_
  refine va_put (D := (dC, dI)) (ci := 5) (v := .int 0) (ty := .int) (C := RX5) (T := TX5) (N := 30) hx hb hts hi_5 tyX5 tyX5_ok nmX5 hown hK hP hD hS 0 rfl rfl 25 (by decide) hf_178 (fun _ h9 => h9) rfl (by decide +kernel) rfl rfl (Nat.le_of_ble_eq_true rfl) dX5_laysHeavy_2 (fun H locs hP hD hS => ?_)
  have hP : va_P (dC, dI) vwCl [kx_5 h0 g_row m_n m_slots m_thrown g_many g_loss g_less g_voteValue g_voteNumber g_allValue g_allNumber m_allMany g_nodeL g_nodeR m_nodes g_part m_partMany g_wasMany g_wasLoss g_wasValue g_wasNumber g_path m_pathMany g_heavyValue g_heavyTimes 0 g_fewest g_which g_met m_mostMet, kx_a g_row cyI 160 f, kx_a g_heavyValue cyI 160 zv, kx_a g_heavyTimes cyI 160 zt] H := hP
  have hD : va_D A [kx_5 h0 g_row m_n m_slots m_thrown g_many g_loss g_less g_voteValue g_voteNumber g_allValue g_allNumber m_allMany g_nodeL g_nodeR m_nodes g_part m_partMany g_wasMany g_wasLoss g_wasValue g_wasNumber g_path m_pathMany g_heavyValue g_heavyTimes 0 g_fewest g_which g_met m_mostMet, kx_a g_row cyI 160 f, kx_a g_heavyValue cyI 160 zv, kx_a g_heavyTimes cyI 160 zt] := hD
  refine lv_iload_n hx hb dX5_laysHeavy_5 rfl (lv_at hl 2 rfl) ?_
  refine lv_iload_n hx hb dX5_laysHeavy_6 rfl (lv_at hl 1 rfl) ?_
  refine lv_isub hx hb dX5_laysHeavy_7 ?_
  refine lv_topi (fun y_1 ey_1 => ?_)
  have i_1 : y_1.toInt = p1.toInt - p0.toInt := ki_sub ey_1 rfl rfl (om_124 b1) (om_266 b4 b6)
  refine lv_iload hx hb dX5_laysHeavy_8 (lv_at hl 4 rfl) ?_
  refine lv_iadd hx hb dX5_laysHeavy_10 ?_
  refine lv_topi (fun y_2 ey_2 => ?_)
  have i_2 : y_2.toInt = y_1.toInt + p3.toInt := ki_add ey_2 rfl rfl (om_267 b1 b3 b4 i_1) (om_268 b4 b5 b6 i_1)
  refine lv_iload_n hx hb dX5_laysHeavy_11 rfl (lv_at hl 3 rfl) ?_
  refine lv_isub hx hb dX5_laysHeavy_12 ?_
  refine lv_topi (fun y_3 ey_3 => ?_)
  have i_3 : y_3.toInt = y_2.toInt - p2.toInt := ki_sub ey_3 rfl rfl (om_269 b1 b4 i_1 i_2) (om_270 b6 i_1 i_2)
  refine lv_istore (lv' := [(7, .int y_3), (0, .ref h0), (1, .int p0), (2, .int p1), (3, .int p2), (4, .int p3), (5, .int p4), (6, .int p5)]) hx hb dX5_laysHeavy_13 hl (by decide) rfl (fun ls hl => ?_)
  refine lv_iload_n hx hb dX5_laysHeavy_15 rfl (lv_at hl 2 rfl) ?_
  refine lv_istore (lv' := [(8, .int p0), (7, .int y_3), (0, .ref h0), (1, .int p0), (2, .int p1), (3, .int p2), (4, .int p3), (5, .int p4), (6, .int p5)]) hx hb dX5_laysHeavy_16 hl (by decide) rfl (fun ls hl => ?_)
  have LP1 : ∀ (n : Nat) (k : Int32) (hm : Int32) (jv : Nat → Int32) (jt : Nat → Int32), (p0.toInt ≤ k.toInt) → (k.toInt ≤ p1.toInt) → (0 ≤ hm.toInt) → (hm.toInt ≤ k.toInt - p0.toInt) → (p1.toInt - k.toInt).toNat < n → ∀ (H : Heap) (locs : List Loc), va_P (dC, dI) vwCl [kx_5 h0 g_row m_n m_slots m_thrown g_many g_loss g_less g_voteValue g_voteNumber g_allValue g_allNumber m_allMany g_nodeL g_nodeR m_nodes g_part m_partMany g_wasMany g_wasLoss g_wasValue g_wasNumber g_path m_pathMany g_heavyValue g_heavyTimes hm g_fewest g_which g_met m_mostMet, kx_a g_row cyI 160 f, kx_a g_heavyValue cyI 160 jv, kx_a g_heavyTimes cyI 160 jt] H → va_D A [kx_5 h0 g_row m_n m_slots m_thrown g_many g_loss g_less g_voteValue g_voteNumber g_allValue g_allNumber m_allMany g_nodeL g_nodeR m_nodes g_part m_partMany g_wasMany g_wasLoss g_wasValue g_wasNumber g_path m_pathMany g_heavyValue g_heavyTimes hm g_fewest g_which g_met m_mostMet, kx_a g_row cyI 160 f, kx_a g_heavyValue cyI 160 jv, kx_a g_heavyTimes cyI 160 jt] → va_S A s.heap H locs → ∀ (ls : Array Slot), lv_has ls 10 [(8, .int k), (7, .int y_3), (0, .ref h0), (1, .int p0), (2, .int p1), (3, .int p2), (4, .int p3), (5, .int p4), (6, .int p5)] → W p l e (headSpec wsX5_laysHeavy ({ frames := 1, cells := 0, slots := 0, locals := 45 })).room s m ([.ref h0, .int p0, .int p1, .int p2, .int p3, .int p4, .int p5] : List Value).toArray below meth c H locs 0 0 (MQ below (va_Qv (fun u : Int32 × (Nat → Int32) × (Nat → Int32) => 0 ≤ u.1.toInt ∧ u.1.toInt ≤ 160) (fun (u : Int32 × (Nat → Int32) × (Nat → Int32)) (t : State) => va_P (dC, dI) vwCl [kx_5 h0 g_row m_n m_slots m_thrown g_many g_loss g_less g_voteValue g_voteNumber g_allValue g_allNumber m_allMany g_nodeL g_nodeR m_nodes g_part m_partMany g_wasMany g_wasLoss g_wasValue g_wasNumber g_path m_pathMany g_heavyValue g_heavyTimes u.1 g_fewest g_which g_met m_mostMet, kx_a g_row cyI 160 f, kx_a g_heavyValue cyI 160 u.2.1, kx_a g_heavyTimes cyI 160 u.2.2] t.heap ∧ va_K (dC, dI) vwCl [(cyI, .int)] t ∧ va_D A [kx_5 h0 g_row m_n m_slots m_thrown g_many g_loss g_less g_voteValue g_voteNumber g_allValue g_allNumber m_allMany g_nodeL g_nodeR m_nodes g_part m_partMany g_wasMany g_wasLoss g_wasValue g_wasNumber g_path m_pathMany g_heavyValue g_heavyTimes u.1 g_fewest g_which g_met m_mostMet, kx_a g_row cyI 160 f, kx_a g_heavyValue cyI 160 u.2.1, kx_a g_heavyTimes cyI 160 u.2.2]) A) ([.ref h0, .int p0, .int p1, .int p2, .int p3, .int p4, .int p5] : List Value).toArray s 0 0 A) (F0 m 18 ls []) := by
    intro n
    induction n with
    | zero => intro k hm jv jt LP1_h0 LP1_h1 LP1_h2 LP1_h3 hn; exact absurd hn (Nat.not_lt_zero _)
    | succ n ih1 =>
      intro k hm jv jt LP1_h0 LP1_h1 LP1_h2 LP1_h3 hn1 H locs hP hD hS ls hl
      refine lv_iload hx hb dX5_laysHeavy_18 (lv_at hl 0 rfl) ?_
      refine lv_iload_n hx hb dX5_laysHeavy_20 rfl (lv_at hl 4 rfl) ?_
      refine lv_icmp_ge (tgt := 103) hx hb dX5_laysHeavy_21 (by decide) (fun c_4 => ?_) (fun c_4 => ?_)
      · have i_4 : p1.toInt ≤ k.toInt := kc_le c_4
        refine lv_iload_n hx hb dX5_laysHeavy_103 rfl (lv_at hl 5 rfl) ?_
        refine lv_istore (lv' := [(8, .int p2), (7, .int y_3), (0, .ref h0), (1, .int p0), (2, .int p1), (3, .int p2), (4, .int p3), (5, .int p4), (6, .int p5)]) hx hb dX5_laysHeavy_104 hl (by decide) rfl (fun ls hl => ?_)
        have LP2 : ∀ (n : Nat) (k3 : Int32) (hm3 : Int32) (jv3 : Nat → Int32) (jt3 : Nat → Int32), (p2.toInt ≤ k3.toInt) → (k3.toInt ≤ p3.toInt) → (0 ≤ hm3.toInt) → (hm3.toInt ≤ p1.toInt - p0.toInt + k3.toInt - p2.toInt) → (p3.toInt - k3.toInt).toNat < n → ∀ (H : Heap) (locs : List Loc), va_P (dC, dI) vwCl [kx_5 h0 g_row m_n m_slots m_thrown g_many g_loss g_less g_voteValue g_voteNumber g_allValue g_allNumber m_allMany g_nodeL g_nodeR m_nodes g_part m_partMany g_wasMany g_wasLoss g_wasValue g_wasNumber g_path m_pathMany g_heavyValue g_heavyTimes hm3 g_fewest g_which g_met m_mostMet, kx_a g_row cyI 160 f, kx_a g_heavyValue cyI 160 jv3, kx_a g_heavyTimes cyI 160 jt3] H → va_D A [kx_5 h0 g_row m_n m_slots m_thrown g_many g_loss g_less g_voteValue g_voteNumber g_allValue g_allNumber m_allMany g_nodeL g_nodeR m_nodes g_part m_partMany g_wasMany g_wasLoss g_wasValue g_wasNumber g_path m_pathMany g_heavyValue g_heavyTimes hm3 g_fewest g_which g_met m_mostMet, kx_a g_row cyI 160 f, kx_a g_heavyValue cyI 160 jv3, kx_a g_heavyTimes cyI 160 jt3] → va_S A s.heap H locs → ∀ (ls : Array Slot), lv_has ls 10 [(8, .int k3), (7, .int y_3), (0, .ref h0), (1, .int p0), (2, .int p1), (3, .int p2), (4, .int p3), (5, .int p4), (6, .int p5)] → W p l e (headSpec wsX5_laysHeavy ({ frames := 1, cells := 0, slots := 0, locals := 45 })).room s m ([.ref h0, .int p0, .int p1, .int p2, .int p3, .int p4, .int p5] : List Value).toArray below meth c H locs 0 0 (MQ below (va_Qv (fun u : Int32 × (Nat → Int32) × (Nat → Int32) => 0 ≤ u.1.toInt ∧ u.1.toInt ≤ 160) (fun (u : Int32 × (Nat → Int32) × (Nat → Int32)) (t : State) => va_P (dC, dI) vwCl [kx_5 h0 g_row m_n m_slots m_thrown g_many g_loss g_less g_voteValue g_voteNumber g_allValue g_allNumber m_allMany g_nodeL g_nodeR m_nodes g_part m_partMany g_wasMany g_wasLoss g_wasValue g_wasNumber g_path m_pathMany g_heavyValue g_heavyTimes u.1 g_fewest g_which g_met m_mostMet, kx_a g_row cyI 160 f, kx_a g_heavyValue cyI 160 u.2.1, kx_a g_heavyTimes cyI 160 u.2.2] t.heap ∧ va_K (dC, dI) vwCl [(cyI, .int)] t ∧ va_D A [kx_5 h0 g_row m_n m_slots m_thrown g_many g_loss g_less g_voteValue g_voteNumber g_allValue g_allNumber m_allMany g_nodeL g_nodeR m_nodes g_part m_partMany g_wasMany g_wasLoss g_wasValue g_wasNumber g_path m_pathMany g_heavyValue g_heavyTimes u.1 g_fewest g_which g_met m_mostMet, kx_a g_row cyI 160 f, kx_a g_heavyValue cyI 160 u.2.1, kx_a g_heavyTimes cyI 160 u.2.2]) A) ([.ref h0, .int p0, .int p1, .int p2, .int p3, .int p4, .int p5] : List Value).toArray s 0 0 A) (F0 m 106 ls []) := by
          intro n
          induction n with
          | zero => intro k3 hm3 jv3 jt3 LP2_h0 LP2_h1 LP2_h2 LP2_h3 hn; exact absurd hn (Nat.not_lt_zero _)
          | succ n ih2 =>
            intro k3 hm3 jv3 jt3 LP2_h0 LP2_h1 LP2_h2 LP2_h3 hn2 H locs hP hD hS ls hl
            refine lv_iload hx hb dX5_laysHeavy_106 (lv_at hl 0 rfl) ?_
            refine lv_iload hx hb dX5_laysHeavy_108 (lv_at hl 6 rfl) ?_
            refine lv_icmp_ge (tgt := 208) hx hb dX5_laysHeavy_110 (by decide) (fun c_5 => ?_) (fun c_5 => ?_)
            · have i_5 : p3.toInt ≤ k3.toInt := kc_le c_5
              have hP9 := hP
              have hD9 := hD
              have hK9 := hK
              exact W.vret hx hb hr (fun t ht hW => ⟨⟨(hm3, jv3, jt3), rfl, (by (try dsimp only); omega), by rw [ht]; exact hP9, va_K.moved hW.alike hK9, hD9⟩, hS.F ht⟩) hS.2.2 dX5_laysHeavy_208
            · have i_5 : k3.toInt < p3.toInt := kc_nle c_5
              refine lv_aload_n hx hb dX5_laysHeavy_113 rfl (lv_at hl 2 rfl) ?_
              refine lv_aload_n hx hb dX5_laysHeavy_114 rfl (lv_at hl 2 rfl) ?_
              refine va_get (D := (dC, dI)) (ci := 5) (v := .ref g_row) (C := RX5) (T := TX5) (N := 30) hx hb hts hi_5 hown hK hP 0 rfl rfl 0 (by decide) hf_7 (fun _ h9 => h9) rfl dX5_laysHeavy_115 ?_
              refine lv_iload hx hb dX5_laysHeavy_118 (lv_at hl 0 rfl) ?_
              refine va_iald hx hb hK hP 1 0 rfl rfl (ki_in (om_0 b3 LP2_h0) (om_1 b5 i_5)) dX5_laysHeavy_120 ?_
              refine lv_topi (fun y_6 ey_6 => ?_)
              have j_6 : y_6.toInt = (f k3.toNatClampNeg).toInt := congrArg Int32.toInt ey_6
              refine lv_iload_n hx hb dX5_laysHeavy_121 rfl (lv_at hl 3 rfl) ?_
              refine lv_iload_n hx hb dX5_laysHeavy_122 rfl (lv_at hl 4 rfl) ?_
              have hPc := hP.sub (ws' := [kx_5 h0 g_row m_n m_slots m_thrown g_many g_loss g_less g_voteValue g_voteNumber g_allValue g_allNumber m_allMany g_nodeL g_nodeR m_nodes g_part m_partMany g_wasMany g_wasLoss g_wasValue g_wasNumber g_path m_pathMany g_heavyValue g_heavyTimes hm3 g_fewest g_which g_met m_mostMet, kx_a g_row cyI 160 f]) [0, 1] rfl
              have hKc := hK
              refine vp_callSi (W.runV (As := [.int y_6, .int p0, .int p1]) (rest := []) ⟨hx, hb, hml, hown, hts⟩ (c_X5_times l dC dI h0 g_row g_many g_loss g_less g_voteValue g_voteNumber g_allValue g_allNumber g_nodeL g_nodeR g_part g_wasMany g_wasLoss g_wasValue g_wasNumber g_path g_heavyValue g_heavyTimes g_fewest g_which g_met m_n m_slots m_thrown m_allMany m_nodes m_partMany m_pathMany hm3 m_mostMet cyI f y_6 p0 p1 b0 b2) (cwV 3 hts gX5_laysHeavy_X5_times rfl rfl rfl (by decide +kernel) ⟨Nat.le_of_ble_eq_true rfl, Nat.le_of_ble_eq_true rfl⟩) ⟨fun a U g mk q => by obtain ⟨q0, qP, qK⟩ := q; exact ⟨q0, qP, va_K.moved (u := U) (U := U.calling g mk a) (Vm.Alike.refl U.vm) qK⟩, va_recv hKc hPc (ci := 5) (q0 := 0) rfl rfl, fun U hU hW => ⟨rfl, by rw [hU]; exact hPc, va_K.moved hW.alike hKc⟩⟩ rfl rfl hl.1 rfl (lv_room (Nat.le_of_ble_eq_true rfl)) dX5_laysHeavy_123 ⟨Nat.le_of_ble_eq_true rfl, Nat.le_of_ble_eq_true rfl⟩) (fun r_7 w_7 => ?_)
              have w_7 : r_7.toInt = (cnt f y_6 p0.toNatClampNeg (p1.toInt - p0.toInt).toNat : Int) := w_7
              refine lv_aload_n hx hb dX5_laysHeavy_126 rfl (lv_at hl 2 rfl) ?_
              refine lv_aload_n hx hb dX5_laysHeavy_127 rfl (lv_at hl 2 rfl) ?_
              refine va_get (D := (dC, dI)) (ci := 5) (v := .ref g_row) (C := RX5) (T := TX5) (N := 30) hx hb hts hi_5 hown hK hP 0 rfl rfl 0 (by decide) hf_7 (fun _ h9 => h9) rfl dX5_laysHeavy_128 ?_
              refine lv_iload hx hb dX5_laysHeavy_131 (lv_at hl 0 rfl) ?_
              refine va_iald hx hb hK hP 1 0 rfl rfl (ki_in (om_0 b3 LP2_h0) (om_1 b5 i_5)) dX5_laysHeavy_133 ?_
              refine lv_topi (fun y_8 ey_8 => ?_)
              have j_8 : y_8.toInt = (f k3.toNatClampNeg).toInt := congrArg Int32.toInt ey_8
              refine lv_iload_n hx hb dX5_laysHeavy_134 rfl (lv_at hl 5 rfl) ?_
              refine lv_iload hx hb dX5_laysHeavy_135 (lv_at hl 6 rfl) ?_
              have hPc := hP.sub (ws' := [kx_5 h0 g_row m_n m_slots m_thrown g_many g_loss g_less g_voteValue g_voteNumber g_allValue g_allNumber m_allMany g_nodeL g_nodeR m_nodes g_part m_partMany g_wasMany g_wasLoss g_wasValue g_wasNumber g_path m_pathMany g_heavyValue g_heavyTimes hm3 g_fewest g_which g_met m_mostMet, kx_a g_row cyI 160 f]) [0, 1] rfl
              have hKc := hK
              refine vp_callSi (W.runV (As := [.int y_8, .int p2, .int p3]) (rest := [.int r_7]) ⟨hx, hb, hml, hown, hts⟩ (c_X5_times l dC dI h0 g_row g_many g_loss g_less g_voteValue g_voteNumber g_allValue g_allNumber g_nodeL g_nodeR g_part g_wasMany g_wasLoss g_wasValue g_wasNumber g_path g_heavyValue g_heavyTimes g_fewest g_which g_met m_n m_slots m_thrown m_allMany m_nodes m_partMany m_pathMany hm3 m_mostMet cyI f y_8 p2 p3 b3 b5) (cwV 3 hts gX5_laysHeavy_X5_times rfl rfl rfl (by decide +kernel) ⟨Nat.le_of_ble_eq_true rfl, Nat.le_of_ble_eq_true rfl⟩) ⟨fun a U g mk q => by obtain ⟨q0, qP, qK⟩ := q; exact ⟨q0, qP, va_K.moved (u := U) (U := U.calling g mk a) (Vm.Alike.refl U.vm) qK⟩, va_recv hKc hPc (ci := 5) (q0 := 0) rfl rfl, fun U hU hW => ⟨rfl, by rw [hU]; exact hPc, va_K.moved hW.alike hKc⟩⟩ rfl rfl hl.1 rfl (lv_room (Nat.le_of_ble_eq_true rfl)) dX5_laysHeavy_137 ⟨Nat.le_of_ble_eq_true rfl, Nat.le_of_ble_eq_true rfl⟩) (fun r_9 w_9 => ?_)
              have w_9 : r_9.toInt = (cnt f y_8 p2.toNatClampNeg (p3.toInt - p2.toInt).toNat : Int) := w_9
              refine lv_iadd hx hb dX5_laysHeavy_140 ?_
              refine lv_topi (fun y_10 ey_10 => ?_)
              refine lv_istore (lv' := [(9, .int y_10), (8, .int k3), (7, .int y_3), (0, .ref h0), (1, .int p0), (2, .int p1), (3, .int p2), (4, .int p3), (5, .int p4), (6, .int p5)]) hx hb dX5_laysHeavy_141 hl (by decide) rfl (fun ls hl => ?_)
              refine lv_aload_n hx hb dX5_laysHeavy_143 rfl (lv_at hl 3 rfl) ?_
              refine lv_aload_n hx hb dX5_laysHeavy_144 rfl (lv_at hl 3 rfl) ?_
              refine va_get (D := (dC, dI)) (ci := 5) (v := .ref g_row) (C := RX5) (T := TX5) (N := 30) hx hb hts hi_5 hown hK hP 0 rfl rfl 0 (by decide) hf_7 (fun _ h9 => h9) rfl dX5_laysHeavy_145 ?_
              refine lv_iload hx hb dX5_laysHeavy_148 (lv_at hl 1 rfl) ?_
              refine va_iald hx hb hK hP 1 0 rfl rfl (ki_in (om_0 b3 LP2_h0) (om_1 b5 i_5)) dX5_laysHeavy_150 ?_
              refine lv_topi (fun y_11 ey_11 => ?_)
              have j_11 : y_11.toInt = (f k3.toNatClampNeg).toInt := congrArg Int32.toInt ey_11
              refine lv_iload_n hx hb dX5_laysHeavy_151 rfl (lv_at hl 4 rfl) ?_
              refine lv_iload_n hx hb dX5_laysHeavy_152 rfl (lv_at hl 5 rfl) ?_
              have hPc := hP.sub (ws' := [kx_5 h0 g_row m_n m_slots m_thrown g_many g_loss g_less g_voteValue g_voteNumber g_allValue g_allNumber m_allMany g_nodeL g_nodeR m_nodes g_part m_partMany g_wasMany g_wasLoss g_wasValue g_wasNumber g_path m_pathMany g_heavyValue g_heavyTimes hm3 g_fewest g_which g_met m_mostMet, kx_a g_row cyI 160 f]) [0, 1] rfl
              have hKc := hK
              refine vp_callSi (W.runV (As := [.int y_11, .int p0, .int p1]) (rest := []) ⟨hx, hb, hml, hown, hts⟩ (c_X5_times l dC dI h0 g_row g_many g_loss g_less g_voteValue g_voteNumber g_allValue g_allNumber g_nodeL g_nodeR g_part g_wasMany g_wasLoss g_wasValue g_wasNumber g_path g_heavyValue g_heavyTimes g_fewest g_which g_met m_n m_slots m_thrown m_allMany m_nodes m_partMany m_pathMany hm3 m_mostMet cyI f y_11 p0 p1 b0 b2) (cwV 3 hts gX5_laysHeavy_X5_times rfl rfl rfl (by decide +kernel) ⟨Nat.le_of_ble_eq_true rfl, Nat.le_of_ble_eq_true rfl⟩) ⟨fun a U g mk q => by obtain ⟨q0, qP, qK⟩ := q; exact ⟨q0, qP, va_K.moved (u := U) (U := U.calling g mk a) (Vm.Alike.refl U.vm) qK⟩, va_recv hKc hPc (ci := 5) (q0 := 0) rfl rfl, fun U hU hW => ⟨rfl, by rw [hU]; exact hPc, va_K.moved hW.alike hKc⟩⟩ rfl rfl hl.1 rfl (lv_room (Nat.le_of_ble_eq_true rfl)) dX5_laysHeavy_153 ⟨Nat.le_of_ble_eq_true rfl, Nat.le_of_ble_eq_true rfl⟩) (fun r_12 w_12 => ?_)
              have w_12 : r_12.toInt = (cnt f y_11 p0.toNatClampNeg (p1.toInt - p0.toInt).toNat : Int) := w_12
              refine lv_if_ne (tgt := 202) hx hb dX5_laysHeavy_156 (by decide) (fun c_13 => ?_) (fun c_13 => ?_)
              · have i_13 : ¬ r_12.toInt = 0 := kc_ne c_13
                obtain ⟨x_14, ex_14⟩ : ∃ y : Int32, y = k3 + 1 := ⟨_, rfl⟩
                have i_14 : x_14.toInt = k3.toInt + 1 := ki_add ex_14 rfl rfl (om_2 b3 LP2_h0) (om_3 b5 i_5)
                refine lv_iinc (v := x_14) (lv' := [(8, .int x_14), (9, .int y_10), (7, .int y_3), (0, .ref h0), (1, .int p0), (2, .int p1), (3, .int p2), (4, .int p3), (5, .int p4), (6, .int p5)]) hx hb dX5_laysHeavy_202 hl (k := 1) rfl (by rw [ex_14]; rfl) (by decide) rfl (fun ls hl => ?_)
                refine lv_goto (tgt := 106) hx hb dX5_laysHeavy_205 (by decide) ?_
                exact ih2 x_14 hm3 jv3 jt3 (om_4 LP2_h0 i_14) (om_47 i_5 i_14) (om_8 LP2_h2) (om_271 LP2_h3 i_14) (om_mu hn2 (om_5 i_14) (om_6 i_5)) _ _ hP hD hS ls (lv_sub hl [0, 2, 3, 4, 5, 6, 7, 8, 9] rfl)
              · have i_13 : r_12.toInt = 0 := kc_eq c_13
                refine lv_aload_n hx hb dX5_laysHeavy_159 rfl (lv_at hl 3 rfl) ?_
                refine lv_aload_n hx hb dX5_laysHeavy_160 rfl (lv_at hl 3 rfl) ?_
                refine va_get (D := (dC, dI)) (ci := 5) (v := .ref g_row) (C := RX5) (T := TX5) (N := 30) hx hb hts hi_5 hown hK hP 0 rfl rfl 0 (by decide) hf_7 (fun _ h9 => h9) rfl dX5_laysHeavy_161 ?_
                refine lv_iload hx hb dX5_laysHeavy_164 (lv_at hl 1 rfl) ?_
                refine va_iald hx hb hK hP 1 0 rfl rfl (ki_in (om_0 b3 LP2_h0) (om_1 b5 i_5)) dX5_laysHeavy_166 ?_
                refine lv_topi (fun y_15 ey_15 => ?_)
                have j_15 : y_15.toInt = (f k3.toNatClampNeg).toInt := congrArg Int32.toInt ey_15
                refine lv_iload_n hx hb dX5_laysHeavy_167 rfl (lv_at hl 6 rfl) ?_
                refine lv_iload hx hb dX5_laysHeavy_168 (lv_at hl 1 rfl) ?_
                have hPc := hP.sub (ws' := [kx_5 h0 g_row m_n m_slots m_thrown g_many g_loss g_less g_voteValue g_voteNumber g_allValue g_allNumber m_allMany g_nodeL g_nodeR m_nodes g_part m_partMany g_wasMany g_wasLoss g_wasValue g_wasNumber g_path m_pathMany g_heavyValue g_heavyTimes hm3 g_fewest g_which g_met m_mostMet, kx_a g_row cyI 160 f]) [0, 1] rfl
                have hKc := hK
                refine vp_callSi (W.runV (As := [.int y_15, .int p2, .int k3]) (rest := []) ⟨hx, hb, hml, hown, hts⟩ (c_X5_times l dC dI h0 g_row g_many g_loss g_less g_voteValue g_voteNumber g_allValue g_allNumber g_nodeL g_nodeR g_part g_wasMany g_wasLoss g_wasValue g_wasNumber g_path g_heavyValue g_heavyTimes g_fewest g_which g_met m_n m_slots m_thrown m_allMany m_nodes m_partMany m_pathMany hm3 m_mostMet cyI f y_15 p2 k3 b3 (om_137 b5 i_5)) (cwV 3 hts gX5_laysHeavy_X5_times rfl rfl rfl (by decide +kernel) ⟨Nat.le_of_ble_eq_true rfl, Nat.le_of_ble_eq_true rfl⟩) ⟨fun a U g mk q => by obtain ⟨q0, qP, qK⟩ := q; exact ⟨q0, qP, va_K.moved (u := U) (U := U.calling g mk a) (Vm.Alike.refl U.vm) qK⟩, va_recv hKc hPc (ci := 5) (q0 := 0) rfl rfl, fun U hU hW => ⟨rfl, by rw [hU]; exact hPc, va_K.moved hW.alike hKc⟩⟩ rfl rfl hl.1 rfl (lv_room (Nat.le_of_ble_eq_true rfl)) dX5_laysHeavy_170 ⟨Nat.le_of_ble_eq_true rfl, Nat.le_of_ble_eq_true rfl⟩) (fun r_16 w_16 => ?_)
                have w_16 : r_16.toInt = (cnt f y_15 p2.toNatClampNeg (k3.toInt - p2.toInt).toNat : Int) := w_16
                refine lv_if_ne (tgt := 202) hx hb dX5_laysHeavy_173 (by decide) (fun c_17 => ?_) (fun c_17 => ?_)
                · have i_17 : ¬ r_16.toInt = 0 := kc_ne c_17
                  obtain ⟨x_18, ex_18⟩ : ∃ y : Int32, y = k3 + 1 := ⟨_, rfl⟩
                  have i_18 : x_18.toInt = k3.toInt + 1 := ki_add ex_18 rfl rfl (om_2 b3 LP2_h0) (om_3 b5 i_5)
                  refine lv_iinc (v := x_18) (lv' := [(8, .int x_18), (9, .int y_10), (7, .int y_3), (0, .ref h0), (1, .int p0), (2, .int p1), (3, .int p2), (4, .int p3), (5, .int p4), (6, .int p5)]) hx hb dX5_laysHeavy_202 hl (k := 1) rfl (by rw [ex_18]; rfl) (by decide) rfl (fun ls hl => ?_)
                  refine lv_goto (tgt := 106) hx hb dX5_laysHeavy_205 (by decide) ?_
                  exact ih2 x_18 hm3 jv3 jt3 (om_4 LP2_h0 i_18) (om_47 i_5 i_18) (om_8 LP2_h2) (om_271 LP2_h3 i_18) (om_mu hn2 (om_5 i_18) (om_6 i_5)) _ _ hP hD hS ls (lv_sub hl [0, 2, 3, 4, 5, 6, 7, 8, 9] rfl)
                · have i_17 : r_16.toInt = 0 := kc_eq c_17
                  refine lv_iload hx hb dX5_laysHeavy_176 (lv_at hl 0 rfl) ?_
                  refine lv_iload hx hb dX5_laysHeavy_178 (lv_at hl 9 rfl) ?_
                  refine lv_imul hx hb dX5_laysHeavy_180 ?_
                  refine lv_topi (fun y_19 ey_19 => ?_)
                  refine lv_iload hx hb dX5_laysHeavy_181 (lv_at hl 8 rfl) ?_
                  refine lv_iload hx hb dX5_laysHeavy_183 (lv_at hl 2 rfl) ?_
                  refine lv_imul hx hb dX5_laysHeavy_185 ?_
                  refine lv_topi (fun y_20 ey_20 => ?_)
                  refine lv_icmp_le (tgt := 202) hx hb dX5_laysHeavy_186 (by decide) (fun c_21 => ?_) (fun c_21 => ?_)
                  · have i_21 : y_19.toInt ≤ y_20.toInt := kc_le c_21
                    obtain ⟨x_22, ex_22⟩ : ∃ y : Int32, y = k3 + 1 := ⟨_, rfl⟩
                    have i_22 : x_22.toInt = k3.toInt + 1 := ki_add ex_22 rfl rfl (om_2 b3 LP2_h0) (om_3 b5 i_5)
                    refine lv_iinc (v := x_22) (lv' := [(8, .int x_22), (9, .int y_10), (7, .int y_3), (0, .ref h0), (1, .int p0), (2, .int p1), (3, .int p2), (4, .int p3), (5, .int p4), (6, .int p5)]) hx hb dX5_laysHeavy_202 hl (k := 1) rfl (by rw [ex_22]; rfl) (by decide) rfl (fun ls hl => ?_)
                    refine lv_goto (tgt := 106) hx hb dX5_laysHeavy_205 (by decide) ?_
                    exact ih2 x_22 hm3 jv3 jt3 (om_4 LP2_h0 i_22) (om_47 i_5 i_22) (om_8 LP2_h2) (om_271 LP2_h3 i_22) (om_mu hn2 (om_5 i_22) (om_6 i_5)) _ _ hP hD hS ls (lv_sub hl [0, 2, 3, 4, 5, 6, 7, 8, 9] rfl)
                  · have i_21 : y_20.toInt < y_19.toInt := kc_nle c_21
                    refine lv_aload_n hx hb dX5_laysHeavy_189 rfl (lv_at hl 3 rfl) ?_
                    refine lv_aload_n hx hb dX5_laysHeavy_190 rfl (lv_at hl 3 rfl) ?_
                    refine va_get (D := (dC, dI)) (ci := 5) (v := .ref g_row) (C := RX5) (T := TX5) (N := 30) hx hb hts hi_5 hown hK hP 0 rfl rfl 0 (by decide) hf_7 (fun _ h9 => h9) rfl dX5_laysHeavy_191 ?_
                    refine lv_iload hx hb dX5_laysHeavy_194 (lv_at hl 1 rfl) ?_
                    refine va_iald hx hb hK hP 1 0 rfl rfl (ki_in (om_0 b3 LP2_h0) (om_1 b5 i_5)) dX5_laysHeavy_196 ?_
                    refine lv_topi (fun y_23 ey_23 => ?_)
                    have j_23 : y_23.toInt = (f k3.toNatClampNeg).toInt := congrArg Int32.toInt ey_23
                    refine lv_iload hx hb dX5_laysHeavy_197 (lv_at hl 0 rfl) ?_
                    have hPc := hP.sub (ws' := [kx_5 h0 g_row m_n m_slots m_thrown g_many g_loss g_less g_voteValue g_voteNumber g_allValue g_allNumber m_allMany g_nodeL g_nodeR m_nodes g_part m_partMany g_wasMany g_wasLoss g_wasValue g_wasNumber g_path m_pathMany g_heavyValue g_heavyTimes hm3 g_fewest g_which g_met m_mostMet, kx_a g_heavyValue cyI 160 jv3, kx_a g_heavyTimes cyI 160 jt3]) [0, 2, 3] rfl
                    have hKc := hK
                    have hDc := hD.sub (ws' := [kx_5 h0 g_row m_n m_slots m_thrown g_many g_loss g_less g_voteValue g_voteNumber g_allValue g_allNumber m_allMany g_nodeL g_nodeR m_nodes g_part m_partMany g_wasMany g_wasLoss g_wasValue g_wasNumber g_path m_pathMany g_heavyValue g_heavyTimes hm3 g_fewest g_which g_met m_mostMet, kx_a g_heavyValue cyI 160 jv3, kx_a g_heavyTimes cyI 160 jt3]) [0, 2, 3] (by decide) rfl
                    have hFc := va_free (wc := [kx_5 h0 g_row m_n m_slots m_thrown g_many g_loss g_less g_voteValue g_voteNumber g_allValue g_allNumber m_allMany g_nodeL g_nodeR m_nodes g_part m_partMany g_wasMany g_wasLoss g_wasValue g_wasNumber g_path m_pathMany g_heavyValue g_heavyTimes hm3 g_fewest g_which g_met m_mostMet, kx_a g_heavyValue cyI 160 jv3, kx_a g_heavyTimes cyI 160 jt3]) hD hS hA [0, 2, 3] rfl
                    refine va_callv (va_runV (As := [.int y_23, .int y_10]) (rest := []) ⟨hx, hb, hml, hown, hts⟩ (c_X5_comes l dC dI h0 g_row g_many g_loss g_less g_voteValue g_voteNumber g_allValue g_allNumber g_nodeL g_nodeR g_part g_wasMany g_wasLoss g_wasValue g_wasNumber g_path g_heavyValue g_heavyTimes g_fewest g_which g_met m_n m_slots m_thrown m_allMany m_nodes m_partMany m_pathMany hm3 m_mostMet cyI jv3 jt3 y_23 y_10 H.size LP2_h2 (om_272 b6 LP2_h3 i_5)) (cwV 2 hts gX5_laysHeavy_X5_comes rfl rfl rfl (by decide +kernel) ⟨Nat.le_of_ble_eq_true rfl, Nat.le_of_ble_eq_true rfl⟩) ⟨fun a U g mk q => by obtain ⟨q0, q1, qP, qK, qD⟩ := q; exact ⟨q0, q1, qP, va_K.moved (u := U) (U := U.calling g mk a) (Vm.Alike.refl U.vm) qK, qD⟩, va_recv hKc hPc (ci := 5) (q0 := 0) rfl rfl, fun U hU hW => ⟨rfl, by rw [hU], by rw [hU]; exact hPc, va_K.moved hW.alike hKc, hDc.weaken (fun _ _ _ _ => trivial)⟩⟩ rfl rfl hl.1 rfl (lv_room (Nat.le_of_ble_eq_true rfl)) dX5_laysHeavy_199 ⟨Nat.le_of_ble_eq_true rfl, Nat.le_of_ble_eq_true rfl⟩) hS (fun q _ h => hFc q h) hFc (fun u t H1 locs ht hvm w_24 hB hz1 hk1 hS => ?_)
                    obtain ⟨o_25, o_26, o_27⟩ := u
                    dsimp only at w_24 hB
                    obtain ⟨hP1, hK1, hD1⟩ := hB
                    rw [ht] at hP1
                    have hK1 := va_K.moved hvm.symm hK1
                    obtain ⟨hP, hD⟩ := va_join (wr := [kx_a g_row cyI 160 f]) (w1 := [kx_5 h0 g_row m_n m_slots m_thrown g_many g_loss g_less g_voteValue g_voteNumber g_allValue g_allNumber m_allMany g_nodeL g_nodeR m_nodes g_part m_partMany g_wasMany g_wasLoss g_wasValue g_wasNumber g_path m_pathMany g_heavyValue g_heavyTimes o_25 g_fewest g_which g_met m_mostMet, kx_a g_heavyValue cyI 160 o_26, kx_a g_heavyTimes cyI 160 o_27]) hP hD [0, 2, 3] [1] rfl rfl (by decide) (by decide) hk1 hFc hP1 hD1
                    clear hP1 hD1 hK1 hk1 hz1 hFc hDc hPc hKc
                    generalize H1 = H at hP hS ⊢
                    have hP : va_P (dC, dI) vwCl [kx_a g_row cyI 160 f, kx_5 h0 g_row m_n m_slots m_thrown g_many g_loss g_less g_voteValue g_voteNumber g_allValue g_allNumber m_allMany g_nodeL g_nodeR m_nodes g_part m_partMany g_wasMany g_wasLoss g_wasValue g_wasNumber g_path m_pathMany g_heavyValue g_heavyTimes o_25 g_fewest g_which g_met m_mostMet, kx_a g_heavyValue cyI 160 o_26, kx_a g_heavyTimes cyI 160 o_27] H := hP
                    have hD : va_D A [kx_a g_row cyI 160 f, kx_5 h0 g_row m_n m_slots m_thrown g_many g_loss g_less g_voteValue g_voteNumber g_allValue g_allNumber m_allMany g_nodeL g_nodeR m_nodes g_part m_partMany g_wasMany g_wasLoss g_wasValue g_wasNumber g_path m_pathMany g_heavyValue g_heavyTimes o_25 g_fewest g_which g_met m_mostMet, kx_a g_heavyValue cyI 160 o_26, kx_a g_heavyTimes cyI 160 o_27] := hD
                    have w_24 : o_25.toInt = hm3.toInt + 1 := w_24
                    obtain ⟨x_28, ex_28⟩ : ∃ y : Int32, y = k3 + 1 := ⟨_, rfl⟩
                    have i_28 : x_28.toInt = k3.toInt + 1 := ki_add ex_28 rfl rfl (om_2 b3 LP2_h0) (om_3 b5 i_5)
                    refine lv_iinc (v := x_28) (lv' := [(8, .int x_28), (9, .int y_10), (7, .int y_3), (0, .ref h0), (1, .int p0), (2, .int p1), (3, .int p2), (4, .int p3), (5, .int p4), (6, .int p5)]) hx hb dX5_laysHeavy_202 hl (k := 1) rfl (by rw [ex_28]; rfl) (by decide) rfl (fun ls hl => ?_)
                    refine lv_goto (tgt := 106) hx hb dX5_laysHeavy_205 (by decide) ?_
                    have hP : va_P (dC, dI) vwCl [kx_5 h0 g_row m_n m_slots m_thrown g_many g_loss g_less g_voteValue g_voteNumber g_allValue g_allNumber m_allMany g_nodeL g_nodeR m_nodes g_part m_partMany g_wasMany g_wasLoss g_wasValue g_wasNumber g_path m_pathMany g_heavyValue g_heavyTimes o_25 g_fewest g_which g_met m_mostMet, kx_a g_row cyI 160 f, kx_a g_heavyValue cyI 160 o_26, kx_a g_heavyTimes cyI 160 o_27] _ := hP.sub [1, 0, 2, 3] rfl
                    have hD : va_D A [kx_5 h0 g_row m_n m_slots m_thrown g_many g_loss g_less g_voteValue g_voteNumber g_allValue g_allNumber m_allMany g_nodeL g_nodeR m_nodes g_part m_partMany g_wasMany g_wasLoss g_wasValue g_wasNumber g_path m_pathMany g_heavyValue g_heavyTimes o_25 g_fewest g_which g_met m_mostMet, kx_a g_row cyI 160 f, kx_a g_heavyValue cyI 160 o_26, kx_a g_heavyTimes cyI 160 o_27] := hD.sub [1, 0, 2, 3] (by decide) rfl
                    exact ih2 x_28 o_25 o_26 o_27 (om_4 LP2_h0 i_28) (om_47 i_5 i_28) (om_31 LP2_h2 w_24) (om_273 LP2_h3 w_24 i_28) (om_mu hn2 (om_5 i_28) (om_6 i_5)) _ _ hP hD hS ls (lv_sub hl [0, 2, 3, 4, 5, 6, 7, 8, 9] rfl)
        exact LP2 ((p3.toInt - p2.toInt : Int).toNat + 1) p2 hm jv jt om_7 (om_26 b4) (om_8 LP1_h2) (om_274 LP1_h1 LP1_h3) (Nat.lt_succ_self _) _ _ hP hD hS ls (lv_sub hl [0, 1, 2, 3, 4, 5, 6, 7, 8] rfl)
      · have i_4 : k.toInt < p1.toInt := kc_nle c_4
        refine lv_aload_n hx hb dX5_laysHeavy_24 rfl (lv_at hl 2 rfl) ?_
        refine lv_aload_n hx hb dX5_laysHeavy_25 rfl (lv_at hl 2 rfl) ?_
        refine va_get (D := (dC, dI)) (ci := 5) (v := .ref g_row) (C := RX5) (T := TX5) (N := 30) hx hb hts hi_5 hown hK hP 0 rfl rfl 0 (by decide) hf_7 (fun _ h9 => h9) rfl dX5_laysHeavy_26 ?_
        refine lv_iload hx hb dX5_laysHeavy_29 (lv_at hl 0 rfl) ?_
        refine va_iald hx hb hK hP 1 0 rfl rfl (ki_in (om_0 b0 LP1_h0) (om_1 b2 i_4)) dX5_laysHeavy_31 ?_
        refine lv_topi (fun y_29 ey_29 => ?_)
        have j_29 : y_29.toInt = (f k.toNatClampNeg).toInt := congrArg Int32.toInt ey_29
        refine lv_iload_n hx hb dX5_laysHeavy_32 rfl (lv_at hl 3 rfl) ?_
        refine lv_iload_n hx hb dX5_laysHeavy_33 rfl (lv_at hl 4 rfl) ?_
        have hPc := hP.sub (ws' := [kx_5 h0 g_row m_n m_slots m_thrown g_many g_loss g_less g_voteValue g_voteNumber g_allValue g_allNumber m_allMany g_nodeL g_nodeR m_nodes g_part m_partMany g_wasMany g_wasLoss g_wasValue g_wasNumber g_path m_pathMany g_heavyValue g_heavyTimes hm g_fewest g_which g_met m_mostMet, kx_a g_row cyI 160 f]) [0, 1] rfl
        have hKc := hK
        refine vp_callSi (W.runV (As := [.int y_29, .int p0, .int p1]) (rest := []) ⟨hx, hb, hml, hown, hts⟩ (c_X5_times l dC dI h0 g_row g_many g_loss g_less g_voteValue g_voteNumber g_allValue g_allNumber g_nodeL g_nodeR g_part g_wasMany g_wasLoss g_wasValue g_wasNumber g_path g_heavyValue g_heavyTimes g_fewest g_which g_met m_n m_slots m_thrown m_allMany m_nodes m_partMany m_pathMany hm m_mostMet cyI f y_29 p0 p1 b0 b2) (cwV 3 hts gX5_laysHeavy_X5_times rfl rfl rfl (by decide +kernel) ⟨Nat.le_of_ble_eq_true rfl, Nat.le_of_ble_eq_true rfl⟩) ⟨fun a U g mk q => by obtain ⟨q0, qP, qK⟩ := q; exact ⟨q0, qP, va_K.moved (u := U) (U := U.calling g mk a) (Vm.Alike.refl U.vm) qK⟩, va_recv hKc hPc (ci := 5) (q0 := 0) rfl rfl, fun U hU hW => ⟨rfl, by rw [hU]; exact hPc, va_K.moved hW.alike hKc⟩⟩ rfl rfl hl.1 rfl (lv_room (Nat.le_of_ble_eq_true rfl)) dX5_laysHeavy_34 ⟨Nat.le_of_ble_eq_true rfl, Nat.le_of_ble_eq_true rfl⟩) (fun r_30 w_30 => ?_)
        have w_30 : r_30.toInt = (cnt f y_29 p0.toNatClampNeg (p1.toInt - p0.toInt).toNat : Int) := w_30
        refine lv_aload_n hx hb dX5_laysHeavy_37 rfl (lv_at hl 2 rfl) ?_
        refine lv_aload_n hx hb dX5_laysHeavy_38 rfl (lv_at hl 2 rfl) ?_
        refine va_get (D := (dC, dI)) (ci := 5) (v := .ref g_row) (C := RX5) (T := TX5) (N := 30) hx hb hts hi_5 hown hK hP 0 rfl rfl 0 (by decide) hf_7 (fun _ h9 => h9) rfl dX5_laysHeavy_39 ?_
        refine lv_iload hx hb dX5_laysHeavy_42 (lv_at hl 0 rfl) ?_
        refine va_iald hx hb hK hP 1 0 rfl rfl (ki_in (om_0 b0 LP1_h0) (om_1 b2 i_4)) dX5_laysHeavy_44 ?_
        refine lv_topi (fun y_31 ey_31 => ?_)
        have j_31 : y_31.toInt = (f k.toNatClampNeg).toInt := congrArg Int32.toInt ey_31
        refine lv_iload_n hx hb dX5_laysHeavy_45 rfl (lv_at hl 5 rfl) ?_
        refine lv_iload hx hb dX5_laysHeavy_46 (lv_at hl 6 rfl) ?_
        have hPc := hP.sub (ws' := [kx_5 h0 g_row m_n m_slots m_thrown g_many g_loss g_less g_voteValue g_voteNumber g_allValue g_allNumber m_allMany g_nodeL g_nodeR m_nodes g_part m_partMany g_wasMany g_wasLoss g_wasValue g_wasNumber g_path m_pathMany g_heavyValue g_heavyTimes hm g_fewest g_which g_met m_mostMet, kx_a g_row cyI 160 f]) [0, 1] rfl
        have hKc := hK
        refine vp_callSi (W.runV (As := [.int y_31, .int p2, .int p3]) (rest := [.int r_30]) ⟨hx, hb, hml, hown, hts⟩ (c_X5_times l dC dI h0 g_row g_many g_loss g_less g_voteValue g_voteNumber g_allValue g_allNumber g_nodeL g_nodeR g_part g_wasMany g_wasLoss g_wasValue g_wasNumber g_path g_heavyValue g_heavyTimes g_fewest g_which g_met m_n m_slots m_thrown m_allMany m_nodes m_partMany m_pathMany hm m_mostMet cyI f y_31 p2 p3 b3 b5) (cwV 3 hts gX5_laysHeavy_X5_times rfl rfl rfl (by decide +kernel) ⟨Nat.le_of_ble_eq_true rfl, Nat.le_of_ble_eq_true rfl⟩) ⟨fun a U g mk q => by obtain ⟨q0, qP, qK⟩ := q; exact ⟨q0, qP, va_K.moved (u := U) (U := U.calling g mk a) (Vm.Alike.refl U.vm) qK⟩, va_recv hKc hPc (ci := 5) (q0 := 0) rfl rfl, fun U hU hW => ⟨rfl, by rw [hU]; exact hPc, va_K.moved hW.alike hKc⟩⟩ rfl rfl hl.1 rfl (lv_room (Nat.le_of_ble_eq_true rfl)) dX5_laysHeavy_48 ⟨Nat.le_of_ble_eq_true rfl, Nat.le_of_ble_eq_true rfl⟩) (fun r_32 w_32 => ?_)
        have w_32 : r_32.toInt = (cnt f y_31 p2.toNatClampNeg (p3.toInt - p2.toInt).toNat : Int) := w_32
        refine lv_iadd hx hb dX5_laysHeavy_51 ?_
        refine lv_topi (fun y_33 ey_33 => ?_)
        refine lv_istore (lv' := [(9, .int y_33), (8, .int k), (7, .int y_3), (0, .ref h0), (1, .int p0), (2, .int p1), (3, .int p2), (4, .int p3), (5, .int p4), (6, .int p5)]) hx hb dX5_laysHeavy_52 hl (by decide) rfl (fun ls hl => ?_)
        refine lv_aload_n hx hb dX5_laysHeavy_54 rfl (lv_at hl 3 rfl) ?_
        refine lv_aload_n hx hb dX5_laysHeavy_55 rfl (lv_at hl 3 rfl) ?_
        refine va_get (D := (dC, dI)) (ci := 5) (v := .ref g_row) (C := RX5) (T := TX5) (N := 30) hx hb hts hi_5 hown hK hP 0 rfl rfl 0 (by decide) hf_7 (fun _ h9 => h9) rfl dX5_laysHeavy_56 ?_
        refine lv_iload hx hb dX5_laysHeavy_59 (lv_at hl 1 rfl) ?_
        refine va_iald hx hb hK hP 1 0 rfl rfl (ki_in (om_0 b0 LP1_h0) (om_1 b2 i_4)) dX5_laysHeavy_61 ?_
        refine lv_topi (fun y_34 ey_34 => ?_)
        have j_34 : y_34.toInt = (f k.toNatClampNeg).toInt := congrArg Int32.toInt ey_34
        refine lv_iload_n hx hb dX5_laysHeavy_62 rfl (lv_at hl 4 rfl) ?_
        refine lv_iload hx hb dX5_laysHeavy_63 (lv_at hl 1 rfl) ?_
        have hPc := hP.sub (ws' := [kx_5 h0 g_row m_n m_slots m_thrown g_many g_loss g_less g_voteValue g_voteNumber g_allValue g_allNumber m_allMany g_nodeL g_nodeR m_nodes g_part m_partMany g_wasMany g_wasLoss g_wasValue g_wasNumber g_path m_pathMany g_heavyValue g_heavyTimes hm g_fewest g_which g_met m_mostMet, kx_a g_row cyI 160 f]) [0, 1] rfl
        have hKc := hK
        refine vp_callSi (W.runV (As := [.int y_34, .int p0, .int k]) (rest := []) ⟨hx, hb, hml, hown, hts⟩ (c_X5_times l dC dI h0 g_row g_many g_loss g_less g_voteValue g_voteNumber g_allValue g_allNumber g_nodeL g_nodeR g_part g_wasMany g_wasLoss g_wasValue g_wasNumber g_path g_heavyValue g_heavyTimes g_fewest g_which g_met m_n m_slots m_thrown m_allMany m_nodes m_partMany m_pathMany hm m_mostMet cyI f y_34 p0 k b0 (om_137 b2 i_4)) (cwV 3 hts gX5_laysHeavy_X5_times rfl rfl rfl (by decide +kernel) ⟨Nat.le_of_ble_eq_true rfl, Nat.le_of_ble_eq_true rfl⟩) ⟨fun a U g mk q => by obtain ⟨q0, qP, qK⟩ := q; exact ⟨q0, qP, va_K.moved (u := U) (U := U.calling g mk a) (Vm.Alike.refl U.vm) qK⟩, va_recv hKc hPc (ci := 5) (q0 := 0) rfl rfl, fun U hU hW => ⟨rfl, by rw [hU]; exact hPc, va_K.moved hW.alike hKc⟩⟩ rfl rfl hl.1 rfl (lv_room (Nat.le_of_ble_eq_true rfl)) dX5_laysHeavy_65 ⟨Nat.le_of_ble_eq_true rfl, Nat.le_of_ble_eq_true rfl⟩) (fun r_35 w_35 => ?_)
        have w_35 : r_35.toInt = (cnt f y_34 p0.toNatClampNeg (k.toInt - p0.toInt).toNat : Int) := w_35
        refine lv_if_ne (tgt := 97) hx hb dX5_laysHeavy_68 (by decide) (fun c_36 => ?_) (fun c_36 => ?_)
        · have i_36 : ¬ r_35.toInt = 0 := kc_ne c_36
          obtain ⟨x_37, ex_37⟩ : ∃ y : Int32, y = k + 1 := ⟨_, rfl⟩
          have i_37 : x_37.toInt = k.toInt + 1 := ki_add ex_37 rfl rfl (om_2 b0 LP1_h0) (om_3 b2 i_4)
          refine lv_iinc (v := x_37) (lv' := [(8, .int x_37), (9, .int y_33), (7, .int y_3), (0, .ref h0), (1, .int p0), (2, .int p1), (3, .int p2), (4, .int p3), (5, .int p4), (6, .int p5)]) hx hb dX5_laysHeavy_97 hl (k := 1) rfl (by rw [ex_37]; rfl) (by decide) rfl (fun ls hl => ?_)
          refine lv_goto (tgt := 18) hx hb dX5_laysHeavy_100 (by decide) ?_
          exact ih1 x_37 hm jv jt (om_4 LP1_h0 i_37) (om_47 i_4 i_37) (om_8 LP1_h2) (om_275 LP1_h3 i_37) (om_mu hn1 (om_5 i_37) (om_6 i_4)) _ _ hP hD hS ls (lv_sub hl [0, 2, 3, 4, 5, 6, 7, 8, 9] rfl)
        · have i_36 : r_35.toInt = 0 := kc_eq c_36
          refine lv_iload hx hb dX5_laysHeavy_71 (lv_at hl 0 rfl) ?_
          refine lv_iload hx hb dX5_laysHeavy_73 (lv_at hl 9 rfl) ?_
          refine lv_imul hx hb dX5_laysHeavy_75 ?_
          refine lv_topi (fun y_38 ey_38 => ?_)
          refine lv_iload hx hb dX5_laysHeavy_76 (lv_at hl 8 rfl) ?_
          refine lv_iload hx hb dX5_laysHeavy_78 (lv_at hl 2 rfl) ?_
          refine lv_imul hx hb dX5_laysHeavy_80 ?_
          refine lv_topi (fun y_39 ey_39 => ?_)
          refine lv_icmp_le (tgt := 97) hx hb dX5_laysHeavy_81 (by decide) (fun c_40 => ?_) (fun c_40 => ?_)
          · have i_40 : y_38.toInt ≤ y_39.toInt := kc_le c_40
            obtain ⟨x_41, ex_41⟩ : ∃ y : Int32, y = k + 1 := ⟨_, rfl⟩
            have i_41 : x_41.toInt = k.toInt + 1 := ki_add ex_41 rfl rfl (om_2 b0 LP1_h0) (om_3 b2 i_4)
            refine lv_iinc (v := x_41) (lv' := [(8, .int x_41), (9, .int y_33), (7, .int y_3), (0, .ref h0), (1, .int p0), (2, .int p1), (3, .int p2), (4, .int p3), (5, .int p4), (6, .int p5)]) hx hb dX5_laysHeavy_97 hl (k := 1) rfl (by rw [ex_41]; rfl) (by decide) rfl (fun ls hl => ?_)
            refine lv_goto (tgt := 18) hx hb dX5_laysHeavy_100 (by decide) ?_
            exact ih1 x_41 hm jv jt (om_4 LP1_h0 i_41) (om_47 i_4 i_41) (om_8 LP1_h2) (om_275 LP1_h3 i_41) (om_mu hn1 (om_5 i_41) (om_6 i_4)) _ _ hP hD hS ls (lv_sub hl [0, 2, 3, 4, 5, 6, 7, 8, 9] rfl)
          · have i_40 : y_39.toInt < y_38.toInt := kc_nle c_40
            refine lv_aload_n hx hb dX5_laysHeavy_84 rfl (lv_at hl 3 rfl) ?_
            refine lv_aload_n hx hb dX5_laysHeavy_85 rfl (lv_at hl 3 rfl) ?_
            refine va_get (D := (dC, dI)) (ci := 5) (v := .ref g_row) (C := RX5) (T := TX5) (N := 30) hx hb hts hi_5 hown hK hP 0 rfl rfl 0 (by decide) hf_7 (fun _ h9 => h9) rfl dX5_laysHeavy_86 ?_
            refine lv_iload hx hb dX5_laysHeavy_89 (lv_at hl 1 rfl) ?_
            refine va_iald hx hb hK hP 1 0 rfl rfl (ki_in (om_0 b0 LP1_h0) (om_1 b2 i_4)) dX5_laysHeavy_91 ?_
            refine lv_topi (fun y_42 ey_42 => ?_)
            have j_42 : y_42.toInt = (f k.toNatClampNeg).toInt := congrArg Int32.toInt ey_42
            refine lv_iload hx hb dX5_laysHeavy_92 (lv_at hl 0 rfl) ?_
            have hPc := hP.sub (ws' := [kx_5 h0 g_row m_n m_slots m_thrown g_many g_loss g_less g_voteValue g_voteNumber g_allValue g_allNumber m_allMany g_nodeL g_nodeR m_nodes g_part m_partMany g_wasMany g_wasLoss g_wasValue g_wasNumber g_path m_pathMany g_heavyValue g_heavyTimes hm g_fewest g_which g_met m_mostMet, kx_a g_heavyValue cyI 160 jv, kx_a g_heavyTimes cyI 160 jt]) [0, 2, 3] rfl
            have hKc := hK
            have hDc := hD.sub (ws' := [kx_5 h0 g_row m_n m_slots m_thrown g_many g_loss g_less g_voteValue g_voteNumber g_allValue g_allNumber m_allMany g_nodeL g_nodeR m_nodes g_part m_partMany g_wasMany g_wasLoss g_wasValue g_wasNumber g_path m_pathMany g_heavyValue g_heavyTimes hm g_fewest g_which g_met m_mostMet, kx_a g_heavyValue cyI 160 jv, kx_a g_heavyTimes cyI 160 jt]) [0, 2, 3] (by decide) rfl
            have hFc := va_free (wc := [kx_5 h0 g_row m_n m_slots m_thrown g_many g_loss g_less g_voteValue g_voteNumber g_allValue g_allNumber m_allMany g_nodeL g_nodeR m_nodes g_part m_partMany g_wasMany g_wasLoss g_wasValue g_wasNumber g_path m_pathMany g_heavyValue g_heavyTimes hm g_fewest g_which g_met m_mostMet, kx_a g_heavyValue cyI 160 jv, kx_a g_heavyTimes cyI 160 jt]) hD hS hA [0, 2, 3] rfl
            refine va_callv (va_runV (As := [.int y_42, .int y_33]) (rest := []) ⟨hx, hb, hml, hown, hts⟩ (c_X5_comes l dC dI h0 g_row g_many g_loss g_less g_voteValue g_voteNumber g_allValue g_allNumber g_nodeL g_nodeR g_part g_wasMany g_wasLoss g_wasValue g_wasNumber g_path g_heavyValue g_heavyTimes g_fewest g_which g_met m_n m_slots m_thrown m_allMany m_nodes m_partMany m_pathMany hm m_mostMet cyI jv jt y_42 y_33 H.size LP1_h2 (om_276 b4 b6 LP1_h3 i_4)) (cwV 2 hts gX5_laysHeavy_X5_comes rfl rfl rfl (by decide +kernel) ⟨Nat.le_of_ble_eq_true rfl, Nat.le_of_ble_eq_true rfl⟩) ⟨fun a U g mk q => by obtain ⟨q0, q1, qP, qK, qD⟩ := q; exact ⟨q0, q1, qP, va_K.moved (u := U) (U := U.calling g mk a) (Vm.Alike.refl U.vm) qK, qD⟩, va_recv hKc hPc (ci := 5) (q0 := 0) rfl rfl, fun U hU hW => ⟨rfl, by rw [hU], by rw [hU]; exact hPc, va_K.moved hW.alike hKc, hDc.weaken (fun _ _ _ _ => trivial)⟩⟩ rfl rfl hl.1 rfl (lv_room (Nat.le_of_ble_eq_true rfl)) dX5_laysHeavy_94 ⟨Nat.le_of_ble_eq_true rfl, Nat.le_of_ble_eq_true rfl⟩) hS (fun q _ h => hFc q h) hFc (fun u t H1 locs ht hvm w_43 hB hz1 hk1 hS => ?_)
            obtain ⟨o_44, o_45, o_46⟩ := u
            dsimp only at w_43 hB
            obtain ⟨hP1, hK1, hD1⟩ := hB
            rw [ht] at hP1
            have hK1 := va_K.moved hvm.symm hK1
            obtain ⟨hP, hD⟩ := va_join (wr := [kx_a g_row cyI 160 f]) (w1 := [kx_5 h0 g_row m_n m_slots m_thrown g_many g_loss g_less g_voteValue g_voteNumber g_allValue g_allNumber m_allMany g_nodeL g_nodeR m_nodes g_part m_partMany g_wasMany g_wasLoss g_wasValue g_wasNumber g_path m_pathMany g_heavyValue g_heavyTimes o_44 g_fewest g_which g_met m_mostMet, kx_a g_heavyValue cyI 160 o_45, kx_a g_heavyTimes cyI 160 o_46]) hP hD [0, 2, 3] [1] rfl rfl (by decide) (by decide) hk1 hFc hP1 hD1
            clear hP1 hD1 hK1 hk1 hz1 hFc hDc hPc hKc
            generalize H1 = H at hP hS ⊢
            have hP : va_P (dC, dI) vwCl [kx_a g_row cyI 160 f, kx_5 h0 g_row m_n m_slots m_thrown g_many g_loss g_less g_voteValue g_voteNumber g_allValue g_allNumber m_allMany g_nodeL g_nodeR m_nodes g_part m_partMany g_wasMany g_wasLoss g_wasValue g_wasNumber g_path m_pathMany g_heavyValue g_heavyTimes o_44 g_fewest g_which g_met m_mostMet, kx_a g_heavyValue cyI 160 o_45, kx_a g_heavyTimes cyI 160 o_46] H := hP
            have hD : va_D A [kx_a g_row cyI 160 f, kx_5 h0 g_row m_n m_slots m_thrown g_many g_loss g_less g_voteValue g_voteNumber g_allValue g_allNumber m_allMany g_nodeL g_nodeR m_nodes g_part m_partMany g_wasMany g_wasLoss g_wasValue g_wasNumber g_path m_pathMany g_heavyValue g_heavyTimes o_44 g_fewest g_which g_met m_mostMet, kx_a g_heavyValue cyI 160 o_45, kx_a g_heavyTimes cyI 160 o_46] := hD
            have w_43 : o_44.toInt = hm.toInt + 1 := w_43
            obtain ⟨x_47, ex_47⟩ : ∃ y : Int32, y = k + 1 := ⟨_, rfl⟩
            have i_47 : x_47.toInt = k.toInt + 1 := ki_add ex_47 rfl rfl (om_2 b0 LP1_h0) (om_3 b2 i_4)
            refine lv_iinc (v := x_47) (lv' := [(8, .int x_47), (9, .int y_33), (7, .int y_3), (0, .ref h0), (1, .int p0), (2, .int p1), (3, .int p2), (4, .int p3), (5, .int p4), (6, .int p5)]) hx hb dX5_laysHeavy_97 hl (k := 1) rfl (by rw [ex_47]; rfl) (by decide) rfl (fun ls hl => ?_)
            refine lv_goto (tgt := 18) hx hb dX5_laysHeavy_100 (by decide) ?_
            have hP : va_P (dC, dI) vwCl [kx_5 h0 g_row m_n m_slots m_thrown g_many g_loss g_less g_voteValue g_voteNumber g_allValue g_allNumber m_allMany g_nodeL g_nodeR m_nodes g_part m_partMany g_wasMany g_wasLoss g_wasValue g_wasNumber g_path m_pathMany g_heavyValue g_heavyTimes o_44 g_fewest g_which g_met m_mostMet, kx_a g_row cyI 160 f, kx_a g_heavyValue cyI 160 o_45, kx_a g_heavyTimes cyI 160 o_46] _ := hP.sub [1, 0, 2, 3] rfl
            have hD : va_D A [kx_5 h0 g_row m_n m_slots m_thrown g_many g_loss g_less g_voteValue g_voteNumber g_allValue g_allNumber m_allMany g_nodeL g_nodeR m_nodes g_part m_partMany g_wasMany g_wasLoss g_wasValue g_wasNumber g_path m_pathMany g_heavyValue g_heavyTimes o_44 g_fewest g_which g_met m_mostMet, kx_a g_row cyI 160 f, kx_a g_heavyValue cyI 160 o_45, kx_a g_heavyTimes cyI 160 o_46] := hD.sub [1, 0, 2, 3] (by decide) rfl
            exact ih1 x_47 o_44 o_45 o_46 (om_4 LP1_h0 i_47) (om_47 i_4 i_47) (om_31 LP1_h2 w_43) (om_277 LP1_h3 w_43 i_47) (om_mu hn1 (om_5 i_47) (om_6 i_4)) _ _ hP hD hS ls (lv_sub hl [0, 2, 3, 4, 5, 6, 7, 8, 9] rfl)
  have k_48 : (0 : Int32).toInt = 0 := rfl
  exact LP1 ((p1.toInt - p0.toInt : Int).toNat + 1) p0 0 zv zt om_7 (om_26 b1) om_32 om_278 (Nat.lt_succ_self _) _ _ hP hD hS ls (lv_sub hl [0, 1, 2, 3, 4, 5, 6, 7, 8] rfl)

set_option maxHeartbeats 4000000 in
set_option maxRecDepth 100000 in
theorem c_X5_heavy (l : Launch) (dC : Nat → ClassId) (dI : Nat → Nat → Nat) (h0 : Nat) (g_row : Nat) (g_many : Nat) (g_loss : Nat) (g_less : Nat) (g_voteValue : Nat) (g_voteNumber : Nat) (g_allValue : Nat) (g_allNumber : Nat) (g_nodeL : Nat) (g_nodeR : Nat) (g_part : Nat) (g_wasMany : Nat) (g_wasLoss : Nat) (g_wasValue : Nat) (g_wasNumber : Nat) (g_path : Nat) (g_heavyValue : Nat) (g_heavyTimes : Nat) (g_fewest : Nat) (g_which : Nat) (g_met : Nat) (m_n : Int32) (m_slots : Int32) (m_thrown : Int32) (m_allMany : Int32) (m_nodes : Int32) (m_partMany : Int32) (m_pathMany : Int32) (m_heavyMany : Int32) (m_mostMet : Int32) (cyI : ClassId) (f : Nat → Int32) (zv : Nat → Int32) (zt : Nat → Int32) (p0 : Int32) (p1 : Int32) (p2 : Int32) (p3 : Int32) (sz : Nat) (a0 : 0 ≤ m_n.toInt) (a1 : m_n.toInt ≤ 160) : Met l yX5_heavy wsX5_heavy ({ frames := 2, cells := 0, slots := 0, locals := 90 }) (va_Pc [.ref h0, .int p0, .int p1, .int p2, .int p3] (fun U => U.heap.size = sz ∧ va_P (dC, dI) vwCl [kx_5 h0 g_row m_n m_slots m_thrown g_many g_loss g_less g_voteValue g_voteNumber g_allValue g_allNumber m_allMany g_nodeL g_nodeR m_nodes g_part m_partMany g_wasMany g_wasLoss g_wasValue g_wasNumber g_path m_pathMany g_heavyValue g_heavyTimes m_heavyMany g_fewest g_which g_met m_mostMet, kx_a g_row cyI 160 f, kx_a g_heavyValue cyI 160 zv, kx_a g_heavyTimes cyI 160 zt] U.heap ∧ va_K (dC, dI) vwCl [(cyI, .int)] U ∧ va_D (fun _ => True) [kx_5 h0 g_row m_n m_slots m_thrown g_many g_loss g_less g_voteValue g_voteNumber g_allValue g_allNumber m_allMany g_nodeL g_nodeR m_nodes g_part m_partMany g_wasMany g_wasLoss g_wasValue g_wasNumber g_path m_pathMany g_heavyValue g_heavyTimes m_heavyMany g_fewest g_which g_met m_mostMet, kx_a g_row cyI 160 f, kx_a g_heavyValue cyI 160 zv, kx_a g_heavyTimes cyI 160 zt])) (va_Qi (fun (r : Int32) (u : Int32 × (Nat → Int32) × (Nat → Int32)) => True) (fun (u : Int32 × (Nat → Int32) × (Nat → Int32)) (t : State) => va_P (dC, dI) vwCl [kx_5 h0 g_row m_n m_slots 0 g_many g_loss g_less g_voteValue g_voteNumber g_allValue g_allNumber m_allMany g_nodeL g_nodeR m_nodes g_part m_partMany g_wasMany g_wasLoss g_wasValue g_wasNumber g_path m_pathMany g_heavyValue g_heavyTimes u.1 g_fewest g_which g_met m_mostMet, kx_a g_row cyI 160 f, kx_a g_heavyValue cyI 160 u.2.1, kx_a g_heavyTimes cyI 160 u.2.2] t.heap ∧ va_K (dC, dI) vwCl [(cyI, .int)] t ∧ va_D (va_A [kx_5 h0 g_row m_n m_slots m_thrown g_many g_loss g_less g_voteValue g_voteNumber g_allValue g_allNumber m_allMany g_nodeL g_nodeR m_nodes g_part m_partMany g_wasMany g_wasLoss g_wasValue g_wasNumber g_path m_pathMany g_heavyValue g_heavyTimes m_heavyMany g_fewest g_which g_met m_mostMet, kx_a g_row cyI 160 f, kx_a g_heavyValue cyI 160 zv, kx_a g_heavyTimes cyI 160 zt] sz) [kx_5 h0 g_row m_n m_slots 0 g_many g_loss g_less g_voteValue g_voteNumber g_allValue g_allNumber m_allMany g_nodeL g_nodeR m_nodes g_part m_partMany g_wasMany g_wasLoss g_wasValue g_wasNumber g_path m_pathMany g_heavyValue g_heavyTimes u.1 g_fewest g_which g_met m_mostMet, kx_a g_row cyI 160 f, kx_a g_heavyValue cyI 160 u.2.1, kx_a g_heavyTimes cyI 160 u.2.2]) (va_A [kx_5 h0 g_row m_n m_slots m_thrown g_many g_loss g_less g_voteValue g_voteNumber g_allValue g_allNumber m_allMany g_nodeL g_nodeR m_nodes g_part m_partMany g_wasMany g_wasLoss g_wasValue g_wasNumber g_path m_pathMany g_heavyValue g_heavyTimes m_heavyMany g_fewest g_which g_met m_mostMet, kx_a g_row cyI 160 f, kx_a g_heavyValue cyI 160 zv, kx_a g_heavyTimes cyI 160 zt] sz)) 0 0 (va_A [kx_5 h0 g_row m_n m_slots m_thrown g_many g_loss g_less g_voteValue g_voteNumber g_allValue g_allNumber m_allMany g_nodeL g_nodeR m_nodes g_part m_partMany g_wasMany g_wasLoss g_wasValue g_wasNumber g_path m_pathMany g_heavyValue g_heavyTimes m_heavyMany g_fewest g_which g_met m_mostMet, kx_a g_row cyI 160 f, kx_a g_heavyValue cyI 160 zv, kx_a g_heavyTimes cyI 160 zt] sz) := by
  refine Met.ofW (cc := cX5_heavy) (maxL := 5) (ret := (some .int)) (by decide) rfl ?_
  intro p e s m args below meth c s₁ B hml hv
  obtain ⟨rfl, hsz, hP, hK, hD0⟩ := hv
  have hx := B.exec
  have hb := B.bytes
  have hr := B.returns
  have hts := atoms_spec (ws := wsX5_heavy) B.pre
  have hown : s.vm.findClass RX5 = some m.cls := findClass_of_methodNamed B.named
  have hlocks := B.notSynchronized
  subst hsz
  have hD := hD0.self (sz := s.heap.size)
  generalize hAe : va_A [kx_5 h0 g_row m_n m_slots m_thrown g_many g_loss g_less g_voteValue g_voteNumber g_allValue g_allNumber m_allMany g_nodeL g_nodeR m_nodes g_part m_partMany g_wasMany g_wasLoss g_wasValue g_wasNumber g_path m_pathMany g_heavyValue g_heavyTimes m_heavyMany g_fewest g_which g_met m_mostMet, kx_a g_row cyI 160 f, kx_a g_heavyValue cyI 160 zv, kx_a g_heavyTimes cyI 160 zt] s.heap.size = A at hD ⊢
  have hA : ∀ q : Nat, s.heap.size ≤ q → A q := fun q h => by rw [← hAe]; exact Or.inr h
  have hS : va_S A s.heap s.heap [] := va_S.rf
  have hP : va_P (dC, dI) vwCl [kx_5 h0 g_row m_n m_slots m_thrown g_many g_loss g_less g_voteValue g_voteNumber g_allValue g_allNumber m_allMany g_nodeL g_nodeR m_nodes g_part m_partMany g_wasMany g_wasLoss g_wasValue g_wasNumber g_path m_pathMany g_heavyValue g_heavyTimes m_heavyMany g_fewest g_which g_met m_mostMet, kx_a g_row cyI 160 f, kx_a g_heavyValue cyI 160 zv, kx_a g_heavyTimes cyI 160 zt] s.heap := hP
  have hl := lv_entry ([.ref h0, .int p0, .int p1, .int p2, .int p3]) (n := 5) (Nat.le_of_ble_eq_true rfl)
  rw [lg_entry_eq]
  generalize (lg_sl ([.ref h0, .int p0, .int p1, .int p2, .int p3]) ++ List.replicate (5 - (lg_sl ([.ref h0, .int p0, .int p1, .int p2, .int p3])).length) Slot.unset).toArray = ls at hl ⊢
  have hl : lv_has ls 5 [(0, .ref h0), (1, .int p0), (2, .int p1), (3, .int p2), (4, .int p3)] := hl
  have hf_77 := hts (.fieldLink RX5 77 "MajorityIndexModel" "thrown" "I") (List.mem_of_getElem? (i := 1) rfl)
  have hi_5 : ∀ w ∈ u_ws RX5 TX5 30, w ∈ wsX5_heavy := fun w h => List.mem_cons_of_mem _ (List.mem_append_right _ h)
  have hf_178 := hts (.fieldLink RX5 178 "MajorityIndexModel" "heavyMany" "I") (List.mem_of_getElem? (i := 2) rfl)
  refine lv_aload_n hx hb dX5_heavy_0 rfl (lv_at hl 0 rfl) ?_
  refine lv_iconst (v := 0) hx hb dX5_heavy_1 (by decide) ?_
  refine va_put (D := (dC, dI)) (ci := 5) (v := .int 0) (ty := .int) (C := RX5) (T := TX5) (N := 30) hx hb hts hi_5 tyX5 tyX5_ok nmX5 hown hK hP hD hS 0 rfl rfl 3 (by decide) hf_77 (fun _ h9 => h9) rfl (by decide +kernel) rfl rfl (Nat.le_of_ble_eq_true rfl) dX5_heavy_2 (fun H locs hP hD hS => ?_)
  have hP : va_P (dC, dI) vwCl [kx_5 h0 g_row m_n m_slots 0 g_many g_loss g_less g_voteValue g_voteNumber g_allValue g_allNumber m_allMany g_nodeL g_nodeR m_nodes g_part m_partMany g_wasMany g_wasLoss g_wasValue g_wasNumber g_path m_pathMany g_heavyValue g_heavyTimes m_heavyMany g_fewest g_which g_met m_mostMet, kx_a g_row cyI 160 f, kx_a g_heavyValue cyI 160 zv, kx_a g_heavyTimes cyI 160 zt] H := hP
  have hD : va_D A [kx_5 h0 g_row m_n m_slots 0 g_many g_loss g_less g_voteValue g_voteNumber g_allValue g_allNumber m_allMany g_nodeL g_nodeR m_nodes g_part m_partMany g_wasMany g_wasLoss g_wasValue g_wasNumber g_path m_pathMany g_heavyValue g_heavyTimes m_heavyMany g_fewest g_which g_met m_mostMet, kx_a g_row cyI 160 f, kx_a g_heavyValue cyI 160 zv, kx_a g_heavyTimes cyI 160 zt] := hD
  refine lv_aload_n hx hb dX5_heavy_5 rfl (lv_at hl 0 rfl) ?_
  refine lv_iload_n hx hb dX5_heavy_6 rfl (lv_at hl 1 rfl) ?_
  refine lv_iload_n hx hb dX5_heavy_7 rfl (lv_at hl 2 rfl) ?_
  have hPc := hP.sub (ws' := [kx_5 h0 g_row m_n m_slots 0 g_many g_loss g_less g_voteValue g_voteNumber g_allValue g_allNumber m_allMany g_nodeL g_nodeR m_nodes g_part m_partMany g_wasMany g_wasLoss g_wasValue g_wasNumber g_path m_pathMany g_heavyValue g_heavyTimes m_heavyMany g_fewest g_which g_met m_mostMet]) [0] rfl
  have hKc := hK.sub (tys' := []) [] rfl
  refine vp_callSi (W.runV (As := [.int p0, .int p1]) (rest := []) ⟨hx, hb, hml, hown, hts⟩ (c_X5_isRange l dC dI h0 g_row g_many g_loss g_less g_voteValue g_voteNumber g_allValue g_allNumber g_nodeL g_nodeR g_part g_wasMany g_wasLoss g_wasValue g_wasNumber g_path g_heavyValue g_heavyTimes g_fewest g_which g_met m_n m_slots 0 m_allMany m_nodes m_partMany m_pathMany m_heavyMany m_mostMet p0 p1) (cwV 2 hts gX5_heavy_X5_isRange rfl rfl rfl (by decide +kernel) ⟨Nat.le_of_ble_eq_true rfl, Nat.le_of_ble_eq_true rfl⟩) ⟨fun a U g mk q => by obtain ⟨q0, qP, qK⟩ := q; exact ⟨q0, qP, va_K.moved (u := U) (U := U.calling g mk a) (Vm.Alike.refl U.vm) qK⟩, va_recv hKc hPc (ci := 5) (q0 := 0) rfl rfl, fun U hU hW => ⟨rfl, by rw [hU]; exact hPc, va_K.moved hW.alike hKc⟩⟩ rfl rfl hl.1 rfl (lv_room (Nat.le_of_ble_eq_true rfl)) dX5_heavy_8 ⟨Nat.le_of_ble_eq_true rfl, Nat.le_of_ble_eq_true rfl⟩) (fun r_1 w_1 => ?_)
  rcases w_1 with ⟨rfl, w_1⟩ | ⟨rfl, w_1⟩
  · have w_1 : (0 ≤ p0.toInt ∧ p0.toInt < p1.toInt ∧ p1.toInt ≤ m_n.toInt) := w_1
    refine lv_if_eq (tgt := 23) hx hb dX5_heavy_11 (by decide) (fun c_2 => ?_) (fun c_2 => ?_)
    · exact absurd c_2 (by decide)
    · refine lv_iload_n hx hb dX5_heavy_14 rfl (lv_at hl 3 rfl) ?_
      refine lv_iload hx hb dX5_heavy_15 (lv_at hl 4 rfl) ?_
      have hPc := hP.sub (ws' := []) [] rfl
      have hKc := hK.sub (tys' := []) [] rfl
      refine vp_callSi (W.runS (As := [.int p2, .int p3]) (rest := []) ⟨hx, hb, hml, hown, hts⟩ (c_X5_isShare l dC dI p2 p3) (va_cwS 2 hts gX5_heavy_X5_isShare rfl rfl rfl (by decide +kernel) ⟨Nat.le_of_ble_eq_true rfl, Nat.le_of_ble_eq_true rfl⟩) ⟨fun a U g mk q => by obtain ⟨q0, qP, qK⟩ := q; exact ⟨q0, qP, va_K.moved (u := U) (U := U.calling g mk a) (Vm.Alike.refl U.vm) qK⟩, fun U hU hW => ⟨rfl, by rw [hU]; exact hPc, va_K.moved hW.alike hKc⟩⟩ rfl rfl hl.1 rfl (lv_room (Nat.le_of_ble_eq_true rfl)) dX5_heavy_17 ⟨Nat.le_of_ble_eq_true rfl, Nat.le_of_ble_eq_true rfl⟩) (fun r_3 w_3 => ?_)
      rcases w_3 with ⟨rfl, w_3⟩ | ⟨rfl, w_3⟩
      · have w_3 : (1 ≤ p2.toInt ∧ p2.toInt ≤ p3.toInt ∧ p3.toInt ≤ 999) := w_3
        refine lv_if_ne (tgt := 25) hx hb dX5_heavy_20 (by decide) (fun c_4 => ?_) (fun c_4 => ?_)
        · refine lv_aload_n hx hb dX5_heavy_25 rfl (lv_at hl 0 rfl) ?_
          refine lv_iload_n hx hb dX5_heavy_26 rfl (lv_at hl 3 rfl) ?_
          refine lv_iload hx hb dX5_heavy_27 (lv_at hl 4 rfl) ?_
          have hPc := hP.sub (ws' := [kx_5 h0 g_row m_n m_slots 0 g_many g_loss g_less g_voteValue g_voteNumber g_allValue g_allNumber m_allMany g_nodeL g_nodeR m_nodes g_part m_partMany g_wasMany g_wasLoss g_wasValue g_wasNumber g_path m_pathMany g_heavyValue g_heavyTimes m_heavyMany g_fewest g_which g_met m_mostMet]) [0] rfl
          have hKc := hK.sub (tys' := []) [] rfl
          refine vp_callSi (W.runV (As := [.int p2, .int p3]) (rest := []) ⟨hx, hb, hml, hown, hts⟩ (c_X5_isEnough l dC dI h0 g_row g_many g_loss g_less g_voteValue g_voteNumber g_allValue g_allNumber g_nodeL g_nodeR g_part g_wasMany g_wasLoss g_wasValue g_wasNumber g_path g_heavyValue g_heavyTimes g_fewest g_which g_met m_n m_slots 0 m_allMany m_nodes m_partMany m_pathMany m_heavyMany m_mostMet p2 p3) (cwV 2 hts gX5_heavy_X5_isEnough rfl rfl rfl (by decide +kernel) ⟨Nat.le_of_ble_eq_true rfl, Nat.le_of_ble_eq_true rfl⟩) ⟨fun a U g mk q => by obtain ⟨q0, qP, qK⟩ := q; exact ⟨q0, qP, va_K.moved (u := U) (U := U.calling g mk a) (Vm.Alike.refl U.vm) qK⟩, va_recv hKc hPc (ci := 5) (q0 := 0) rfl rfl, fun U hU hW => ⟨rfl, by rw [hU]; exact hPc, va_K.moved hW.alike hKc⟩⟩ rfl rfl hl.1 rfl (lv_room (Nat.le_of_ble_eq_true rfl)) dX5_heavy_29 ⟨Nat.le_of_ble_eq_true rfl, Nat.le_of_ble_eq_true rfl⟩) (fun r_5 w_5 => ?_)
          rcases w_5 with ⟨rfl, w_5⟩ | ⟨rfl, w_5⟩
          · have w_5 : (0 : Int) ≤ 1 := w_5
            refine lv_if_ne (tgt := 38) hx hb dX5_heavy_32 (by decide) (fun c_6 => ?_) (fun c_6 => ?_)
            · refine lv_aload_n hx hb dX5_heavy_38 rfl (lv_at hl 0 rfl) ?_
              refine lv_iload_n hx hb dX5_heavy_39 rfl (lv_at hl 1 rfl) ?_
              refine lv_iload_n hx hb dX5_heavy_40 rfl (lv_at hl 2 rfl) ?_
              refine lv_iconst (v := 0) hx hb dX5_heavy_41 (by decide) ?_
              refine lv_iconst (v := 0) hx hb dX5_heavy_42 (by decide) ?_
              refine lv_iload_n hx hb dX5_heavy_43 rfl (lv_at hl 3 rfl) ?_
              refine lv_iload hx hb dX5_heavy_44 (lv_at hl 4 rfl) ?_
              have hPc := hP
              have hKc := hK
              have k_7 : (0 : Int32).toInt = 0 := rfl
              have hDc := hD
              have hFc := kx_free hD hS hA
              refine va_callv (va_runV (As := [.int p0, .int p1, .int 0, .int 0, .int p2, .int p3]) (rest := []) ⟨hx, hb, hml, hown, hts⟩ (c_X5_laysHeavy l dC dI h0 g_row g_many g_loss g_less g_voteValue g_voteNumber g_allValue g_allNumber g_nodeL g_nodeR g_part g_wasMany g_wasLoss g_wasValue g_wasNumber g_path g_heavyValue g_heavyTimes g_fewest g_which g_met m_n m_slots 0 m_allMany m_nodes m_partMany m_pathMany m_heavyMany m_mostMet cyI f zv zt p0 p1 0 0 p2 p3 H.size (by omega) (by omega) (by omega) om_32 om_32 om_279 (by omega)) (cwV 6 hts gX5_heavy_X5_laysHeavy rfl rfl rfl (by decide +kernel) ⟨Nat.le_of_ble_eq_true rfl, Nat.le_of_ble_eq_true rfl⟩) ⟨fun a U g mk q => by obtain ⟨q0, q1, qP, qK, qD⟩ := q; exact ⟨q0, q1, qP, va_K.moved (u := U) (U := U.calling g mk a) (Vm.Alike.refl U.vm) qK, qD⟩, va_recv hKc hPc (ci := 5) (q0 := 0) rfl rfl, fun U hU hW => ⟨rfl, by rw [hU], by rw [hU]; exact hPc, va_K.moved hW.alike hKc, hDc.weaken (fun _ _ _ _ => trivial)⟩⟩ rfl rfl hl.1 rfl (lv_room (Nat.le_of_ble_eq_true rfl)) dX5_heavy_46 ⟨Nat.le_of_ble_eq_true rfl, Nat.le_of_ble_eq_true rfl⟩) hS (fun q _ h => hFc q h) hFc (fun u t H1 locs ht hvm w_8 hB hz1 hk1 hS => ?_)
              obtain ⟨o_9, o_10, o_11⟩ := u
              dsimp only at w_8 hB
              obtain ⟨hP1, hK1, hD1⟩ := hB
              rw [ht] at hP1
              have hK1 := va_K.moved hvm.symm hK1
              have hD := hD1.weaken (fun _ q _ h => hFc q.1 h)
              have hP := hP1
              clear hP1 hD1 hK1 hk1 hz1 hFc hDc hPc hKc
              generalize H1 = H at hP hS ⊢
              have w_8 : 0 ≤ o_9.toInt ∧ o_9.toInt ≤ 160 := w_8
              refine lv_aload_n hx hb dX5_heavy_49 rfl (lv_at hl 0 rfl) ?_
              refine va_get (D := (dC, dI)) (ci := 5) (v := .int o_9) (C := RX5) (T := TX5) (N := 30) hx hb hts hi_5 hown hK hP 0 rfl rfl 25 (by decide) hf_178 (fun _ h9 => h9) rfl dX5_heavy_50 ?_
              have hP9 := hP
              have hD9 := hD
              have hK9 := hK
              exact W.iret (v := o_9) hx hb hr (fun t ht hW => ⟨⟨o_9, (o_9, o_10, o_11), rfl, trivial, by rw [ht]; exact hP9, va_K.moved hW.alike hK9, hD9⟩, hS.F ht⟩) hS.2.2 dX5_heavy_53
            · exact absurd c_6 (by decide)
          · have w_5 : (0 : Int) ≤ 1 := w_5
            refine lv_if_ne (tgt := 38) hx hb dX5_heavy_32 (by decide) (fun c_12 => ?_) (fun c_12 => ?_)
            · exact absurd c_12 (by decide)
            · refine lv_bipush (v := (-2)) hx hb dX5_heavy_35 (by decide) ?_
              have hP9 := hP
              have hD9 := hD
              have hK9 := hK
              exact W.iret (v := (-2)) hx hb hr (fun t ht hW => ⟨⟨(-2), (m_heavyMany, zv, zt), rfl, trivial, by rw [ht]; exact hP9, va_K.moved hW.alike hK9, hD9⟩, hS.F ht⟩) hS.2.2 dX5_heavy_37
        · exact absurd c_4 (by decide)
      · have w_3 : (p2.toInt < 1 ∨ p3.toInt < p2.toInt ∨ 999 < p3.toInt) := w_3
        refine lv_if_ne (tgt := 25) hx hb dX5_heavy_20 (by decide) (fun c_13 => ?_) (fun c_13 => ?_)
        · exact absurd c_13 (by decide)
        · refine lv_iconst (v := (-1)) hx hb dX5_heavy_23 (by decide) ?_
          have hP9 := hP
          have hD9 := hD
          have hK9 := hK
          exact W.iret (v := (-1)) hx hb hr (fun t ht hW => ⟨⟨(-1), (m_heavyMany, zv, zt), rfl, trivial, by rw [ht]; exact hP9, va_K.moved hW.alike hK9, hD9⟩, hS.F ht⟩) hS.2.2 dX5_heavy_24
  · have w_1 : (p0.toInt < 0 ∨ p1.toInt ≤ p0.toInt ∨ m_n.toInt < p1.toInt) := w_1
    refine lv_if_eq (tgt := 23) hx hb dX5_heavy_11 (by decide) (fun c_14 => ?_) (fun c_14 => ?_)
    · refine lv_iconst (v := (-1)) hx hb dX5_heavy_23 (by decide) ?_
      have hP9 := hP
      have hD9 := hD
      have hK9 := hK
      exact W.iret (v := (-1)) hx hb hr (fun t ht hW => ⟨⟨(-1), (m_heavyMany, zv, zt), rfl, trivial, by rw [ht]; exact hP9, va_K.moved hW.alike hK9, hD9⟩, hS.F ht⟩) hS.2.2 dX5_heavy_24
    · exact absurd c_14 (by decide)

set_option maxHeartbeats 4000000 in
set_option maxRecDepth 100000 in
theorem c_X5_heavyAt (l : Launch) (dC : Nat → ClassId) (dI : Nat → Nat → Nat) (h0 : Nat) (g_row : Nat) (g_many : Nat) (g_loss : Nat) (g_less : Nat) (g_voteValue : Nat) (g_voteNumber : Nat) (g_allValue : Nat) (g_allNumber : Nat) (g_nodeL : Nat) (g_nodeR : Nat) (g_part : Nat) (g_wasMany : Nat) (g_wasLoss : Nat) (g_wasValue : Nat) (g_wasNumber : Nat) (g_path : Nat) (g_heavyValue : Nat) (g_heavyTimes : Nat) (g_fewest : Nat) (g_which : Nat) (g_met : Nat) (m_n : Int32) (m_slots : Int32) (m_thrown : Int32) (m_allMany : Int32) (m_nodes : Int32) (m_partMany : Int32) (m_pathMany : Int32) (m_heavyMany : Int32) (m_mostMet : Int32) (cyI : ClassId) (f : Nat → Int32) (zv : Nat → Int32) (zt : Nat → Int32) (p0 : Int32) (p1 : Int32) (p2 : Int32) (p3 : Int32) (p4 : Int32) (p5 : Int32) (sz : Nat) (a0 : 0 ≤ m_n.toInt) (a1 : m_n.toInt ≤ 160) : Met l yX5_heavyAt wsX5_heavyAt ({ frames := 2, cells := 0, slots := 0, locals := 90 }) (va_Pc [.ref h0, .int p0, .int p1, .int p2, .int p3, .int p4, .int p5] (fun U => U.heap.size = sz ∧ va_P (dC, dI) vwCl [kx_5 h0 g_row m_n m_slots m_thrown g_many g_loss g_less g_voteValue g_voteNumber g_allValue g_allNumber m_allMany g_nodeL g_nodeR m_nodes g_part m_partMany g_wasMany g_wasLoss g_wasValue g_wasNumber g_path m_pathMany g_heavyValue g_heavyTimes m_heavyMany g_fewest g_which g_met m_mostMet, kx_a g_row cyI 160 f, kx_a g_heavyValue cyI 160 zv, kx_a g_heavyTimes cyI 160 zt] U.heap ∧ va_K (dC, dI) vwCl [(cyI, .int)] U ∧ va_D (fun _ => True) [kx_5 h0 g_row m_n m_slots m_thrown g_many g_loss g_less g_voteValue g_voteNumber g_allValue g_allNumber m_allMany g_nodeL g_nodeR m_nodes g_part m_partMany g_wasMany g_wasLoss g_wasValue g_wasNumber g_path m_pathMany g_heavyValue g_heavyTimes m_heavyMany g_fewest g_which g_met m_mostMet, kx_a g_row cyI 160 f, kx_a g_heavyValue cyI 160 zv, kx_a g_heavyTimes cyI 160 zt])) (va_Qi (fun (r : Int32) (u : Int32 × (Nat → Int32) × (Nat → Int32) × Int32) => True) (fun (u : Int32 × (Nat → Int32) × (Nat → Int32) × Int32) (t : State) => va_P (dC, dI) vwCl [kx_5 h0 g_row m_n m_slots u.2.2.2 g_many g_loss g_less g_voteValue g_voteNumber g_allValue g_allNumber m_allMany g_nodeL g_nodeR m_nodes g_part m_partMany g_wasMany g_wasLoss g_wasValue g_wasNumber g_path m_pathMany g_heavyValue g_heavyTimes u.1 g_fewest g_which g_met m_mostMet, kx_a g_row cyI 160 f, kx_a g_heavyValue cyI 160 u.2.1, kx_a g_heavyTimes cyI 160 u.2.2.1] t.heap ∧ va_K (dC, dI) vwCl [(cyI, .int)] t ∧ va_D (va_A [kx_5 h0 g_row m_n m_slots m_thrown g_many g_loss g_less g_voteValue g_voteNumber g_allValue g_allNumber m_allMany g_nodeL g_nodeR m_nodes g_part m_partMany g_wasMany g_wasLoss g_wasValue g_wasNumber g_path m_pathMany g_heavyValue g_heavyTimes m_heavyMany g_fewest g_which g_met m_mostMet, kx_a g_row cyI 160 f, kx_a g_heavyValue cyI 160 zv, kx_a g_heavyTimes cyI 160 zt] sz) [kx_5 h0 g_row m_n m_slots u.2.2.2 g_many g_loss g_less g_voteValue g_voteNumber g_allValue g_allNumber m_allMany g_nodeL g_nodeR m_nodes g_part m_partMany g_wasMany g_wasLoss g_wasValue g_wasNumber g_path m_pathMany g_heavyValue g_heavyTimes u.1 g_fewest g_which g_met m_mostMet, kx_a g_row cyI 160 f, kx_a g_heavyValue cyI 160 u.2.1, kx_a g_heavyTimes cyI 160 u.2.2.1]) (va_A [kx_5 h0 g_row m_n m_slots m_thrown g_many g_loss g_less g_voteValue g_voteNumber g_allValue g_allNumber m_allMany g_nodeL g_nodeR m_nodes g_part m_partMany g_wasMany g_wasLoss g_wasValue g_wasNumber g_path m_pathMany g_heavyValue g_heavyTimes m_heavyMany g_fewest g_which g_met m_mostMet, kx_a g_row cyI 160 f, kx_a g_heavyValue cyI 160 zv, kx_a g_heavyTimes cyI 160 zt] sz)) 0 0 (va_A [kx_5 h0 g_row m_n m_slots m_thrown g_many g_loss g_less g_voteValue g_voteNumber g_allValue g_allNumber m_allMany g_nodeL g_nodeR m_nodes g_part m_partMany g_wasMany g_wasLoss g_wasValue g_wasNumber g_path m_pathMany g_heavyValue g_heavyTimes m_heavyMany g_fewest g_which g_met m_mostMet, kx_a g_row cyI 160 f, kx_a g_heavyValue cyI 160 zv, kx_a g_heavyTimes cyI 160 zt] sz) := by
  refine Met.ofW (cc := cX5_heavyAt) (maxL := 7) (ret := (some .int)) (by decide) rfl ?_
  intro p e s m args below meth c s₁ B hml hv
  obtain ⟨rfl, hsz, hP, hK, hD0⟩ := hv
  have hx := B.exec
  have hb := B.bytes
  have hr := B.returns
  have hts := atoms_spec (ws := wsX5_heavyAt) B.pre
  have hown : s.vm.findClass RX5 = some m.cls := findClass_of_methodNamed B.named
  have hlocks := B.notSynchronized
  subst hsz
  have hD := hD0.self (sz := s.heap.size)
  generalize hAe : va_A [kx_5 h0 g_row m_n m_slots m_thrown g_many g_loss g_less g_voteValue g_voteNumber g_allValue g_allNumber m_allMany g_nodeL g_nodeR m_nodes g_part m_partMany g_wasMany g_wasLoss g_wasValue g_wasNumber g_path m_pathMany g_heavyValue g_heavyTimes m_heavyMany g_fewest g_which g_met m_mostMet, kx_a g_row cyI 160 f, kx_a g_heavyValue cyI 160 zv, kx_a g_heavyTimes cyI 160 zt] s.heap.size = A at hD ⊢
  have hA : ∀ q : Nat, s.heap.size ≤ q → A q := fun q h => by rw [← hAe]; exact Or.inr h
  have hS : va_S A s.heap s.heap [] := va_S.rf
  have hP : va_P (dC, dI) vwCl [kx_5 h0 g_row m_n m_slots m_thrown g_many g_loss g_less g_voteValue g_voteNumber g_allValue g_allNumber m_allMany g_nodeL g_nodeR m_nodes g_part m_partMany g_wasMany g_wasLoss g_wasValue g_wasNumber g_path m_pathMany g_heavyValue g_heavyTimes m_heavyMany g_fewest g_which g_met m_mostMet, kx_a g_row cyI 160 f, kx_a g_heavyValue cyI 160 zv, kx_a g_heavyTimes cyI 160 zt] s.heap := hP
  have hl := lv_entry ([.ref h0, .int p0, .int p1, .int p2, .int p3, .int p4, .int p5]) (n := 7) (Nat.le_of_ble_eq_true rfl)
  rw [lg_entry_eq]
  generalize (lg_sl ([.ref h0, .int p0, .int p1, .int p2, .int p3, .int p4, .int p5]) ++ List.replicate (7 - (lg_sl ([.ref h0, .int p0, .int p1, .int p2, .int p3, .int p4, .int p5])).length) Slot.unset).toArray = ls at hl ⊢
  have hl : lv_has ls 7 [(0, .ref h0), (1, .int p0), (2, .int p1), (3, .int p2), (4, .int p3), (5, .int p4), (6, .int p5)] := hl
  have hf_77 := hts (.fieldLink RX5 77 "MajorityIndexModel" "thrown" "I") (List.mem_of_getElem? (i := 1) rfl)
  have hi_5 : ∀ w ∈ u_ws RX5 TX5 30, w ∈ wsX5_heavyAt := fun w h => List.mem_cons_of_mem _ (List.mem_append_right _ h)
  have hf_178 := hts (.fieldLink RX5 178 "MajorityIndexModel" "heavyMany" "I") (List.mem_of_getElem? (i := 2) rfl)
  have hf_65 := hts (.fieldLink RX5 65 "MajorityIndexModel" "heavyTimes" "[I") (List.mem_of_getElem? (i := 4) rfl)
  have hf_62 := hts (.fieldLink RX5 62 "MajorityIndexModel" "heavyValue" "[I") (List.mem_of_getElem? (i := 3) rfl)
  refine lv_aload_n hx hb dX5_heavyAt_0 rfl (lv_at hl 0 rfl) ?_
  refine lv_iconst (v := 1) hx hb dX5_heavyAt_1 (by decide) ?_
  refine va_put (D := (dC, dI)) (ci := 5) (v := .int 1) (ty := .int) (C := RX5) (T := TX5) (N := 30) hx hb hts hi_5 tyX5 tyX5_ok nmX5 hown hK hP hD hS 0 rfl rfl 3 (by decide) hf_77 (fun _ h9 => h9) rfl (by decide +kernel) rfl rfl (Nat.le_of_ble_eq_true rfl) dX5_heavyAt_2 (fun H locs hP hD hS => ?_)
  have hP : va_P (dC, dI) vwCl [kx_5 h0 g_row m_n m_slots 1 g_many g_loss g_less g_voteValue g_voteNumber g_allValue g_allNumber m_allMany g_nodeL g_nodeR m_nodes g_part m_partMany g_wasMany g_wasLoss g_wasValue g_wasNumber g_path m_pathMany g_heavyValue g_heavyTimes m_heavyMany g_fewest g_which g_met m_mostMet, kx_a g_row cyI 160 f, kx_a g_heavyValue cyI 160 zv, kx_a g_heavyTimes cyI 160 zt] H := hP
  have hD : va_D A [kx_5 h0 g_row m_n m_slots 1 g_many g_loss g_less g_voteValue g_voteNumber g_allValue g_allNumber m_allMany g_nodeL g_nodeR m_nodes g_part m_partMany g_wasMany g_wasLoss g_wasValue g_wasNumber g_path m_pathMany g_heavyValue g_heavyTimes m_heavyMany g_fewest g_which g_met m_mostMet, kx_a g_row cyI 160 f, kx_a g_heavyValue cyI 160 zv, kx_a g_heavyTimes cyI 160 zt] := hD
  refine lv_aload_n hx hb dX5_heavyAt_5 rfl (lv_at hl 0 rfl) ?_
  refine lv_iload_n hx hb dX5_heavyAt_6 rfl (lv_at hl 1 rfl) ?_
  refine lv_iload_n hx hb dX5_heavyAt_7 rfl (lv_at hl 2 rfl) ?_
  have hPc := hP.sub (ws' := [kx_5 h0 g_row m_n m_slots 1 g_many g_loss g_less g_voteValue g_voteNumber g_allValue g_allNumber m_allMany g_nodeL g_nodeR m_nodes g_part m_partMany g_wasMany g_wasLoss g_wasValue g_wasNumber g_path m_pathMany g_heavyValue g_heavyTimes m_heavyMany g_fewest g_which g_met m_mostMet]) [0] rfl
  have hKc := hK.sub (tys' := []) [] rfl
  refine vp_callSi (W.runV (As := [.int p0, .int p1]) (rest := []) ⟨hx, hb, hml, hown, hts⟩ (c_X5_isRange l dC dI h0 g_row g_many g_loss g_less g_voteValue g_voteNumber g_allValue g_allNumber g_nodeL g_nodeR g_part g_wasMany g_wasLoss g_wasValue g_wasNumber g_path g_heavyValue g_heavyTimes g_fewest g_which g_met m_n m_slots 1 m_allMany m_nodes m_partMany m_pathMany m_heavyMany m_mostMet p0 p1) (cwV 2 hts gX5_heavyAt_X5_isRange rfl rfl rfl (by decide +kernel) ⟨Nat.le_of_ble_eq_true rfl, Nat.le_of_ble_eq_true rfl⟩) ⟨fun a U g mk q => by obtain ⟨q0, qP, qK⟩ := q; exact ⟨q0, qP, va_K.moved (u := U) (U := U.calling g mk a) (Vm.Alike.refl U.vm) qK⟩, va_recv hKc hPc (ci := 5) (q0 := 0) rfl rfl, fun U hU hW => ⟨rfl, by rw [hU]; exact hPc, va_K.moved hW.alike hKc⟩⟩ rfl rfl hl.1 rfl (lv_room (Nat.le_of_ble_eq_true rfl)) dX5_heavyAt_8 ⟨Nat.le_of_ble_eq_true rfl, Nat.le_of_ble_eq_true rfl⟩) (fun r_1 w_1 => ?_)
  rcases w_1 with ⟨rfl, w_1⟩ | ⟨rfl, w_1⟩
  · have w_1 : (0 ≤ p0.toInt ∧ p0.toInt < p1.toInt ∧ p1.toInt ≤ m_n.toInt) := w_1
    refine lv_if_eq (tgt := 43) hx hb dX5_heavyAt_11 (by decide) (fun c_2 => ?_) (fun c_2 => ?_)
    · exact absurd c_2 (by decide)
    · refine lv_iload_n hx hb dX5_heavyAt_14 rfl (lv_at hl 3 rfl) ?_
      refine lv_iload hx hb dX5_heavyAt_15 (lv_at hl 4 rfl) ?_
      have hPc := hP.sub (ws' := []) [] rfl
      have hKc := hK.sub (tys' := []) [] rfl
      refine vp_callSi (W.runS (As := [.int p2, .int p3]) (rest := []) ⟨hx, hb, hml, hown, hts⟩ (c_X5_isShare l dC dI p2 p3) (va_cwS 2 hts gX5_heavyAt_X5_isShare rfl rfl rfl (by decide +kernel) ⟨Nat.le_of_ble_eq_true rfl, Nat.le_of_ble_eq_true rfl⟩) ⟨fun a U g mk q => by obtain ⟨q0, qP, qK⟩ := q; exact ⟨q0, qP, va_K.moved (u := U) (U := U.calling g mk a) (Vm.Alike.refl U.vm) qK⟩, fun U hU hW => ⟨rfl, by rw [hU]; exact hPc, va_K.moved hW.alike hKc⟩⟩ rfl rfl hl.1 rfl (lv_room (Nat.le_of_ble_eq_true rfl)) dX5_heavyAt_17 ⟨Nat.le_of_ble_eq_true rfl, Nat.le_of_ble_eq_true rfl⟩) (fun r_3 w_3 => ?_)
      rcases w_3 with ⟨rfl, w_3⟩ | ⟨rfl, w_3⟩
      · have w_3 : (1 ≤ p2.toInt ∧ p2.toInt ≤ p3.toInt ∧ p3.toInt ≤ 999) := w_3
        refine lv_if_eq (tgt := 43) hx hb dX5_heavyAt_20 (by decide) (fun c_4 => ?_) (fun c_4 => ?_)
        · exact absurd c_4 (by decide)
        · refine lv_aload_n hx hb dX5_heavyAt_23 rfl (lv_at hl 0 rfl) ?_
          refine lv_iload_n hx hb dX5_heavyAt_24 rfl (lv_at hl 3 rfl) ?_
          refine lv_iload hx hb dX5_heavyAt_25 (lv_at hl 4 rfl) ?_
          have hPc := hP.sub (ws' := [kx_5 h0 g_row m_n m_slots 1 g_many g_loss g_less g_voteValue g_voteNumber g_allValue g_allNumber m_allMany g_nodeL g_nodeR m_nodes g_part m_partMany g_wasMany g_wasLoss g_wasValue g_wasNumber g_path m_pathMany g_heavyValue g_heavyTimes m_heavyMany g_fewest g_which g_met m_mostMet]) [0] rfl
          have hKc := hK.sub (tys' := []) [] rfl
          refine vp_callSi (W.runV (As := [.int p2, .int p3]) (rest := []) ⟨hx, hb, hml, hown, hts⟩ (c_X5_isEnough l dC dI h0 g_row g_many g_loss g_less g_voteValue g_voteNumber g_allValue g_allNumber g_nodeL g_nodeR g_part g_wasMany g_wasLoss g_wasValue g_wasNumber g_path g_heavyValue g_heavyTimes g_fewest g_which g_met m_n m_slots 1 m_allMany m_nodes m_partMany m_pathMany m_heavyMany m_mostMet p2 p3) (cwV 2 hts gX5_heavyAt_X5_isEnough rfl rfl rfl (by decide +kernel) ⟨Nat.le_of_ble_eq_true rfl, Nat.le_of_ble_eq_true rfl⟩) ⟨fun a U g mk q => by obtain ⟨q0, qP, qK⟩ := q; exact ⟨q0, qP, va_K.moved (u := U) (U := U.calling g mk a) (Vm.Alike.refl U.vm) qK⟩, va_recv hKc hPc (ci := 5) (q0 := 0) rfl rfl, fun U hU hW => ⟨rfl, by rw [hU]; exact hPc, va_K.moved hW.alike hKc⟩⟩ rfl rfl hl.1 rfl (lv_room (Nat.le_of_ble_eq_true rfl)) dX5_heavyAt_27 ⟨Nat.le_of_ble_eq_true rfl, Nat.le_of_ble_eq_true rfl⟩) (fun r_5 w_5 => ?_)
          rcases w_5 with ⟨rfl, w_5⟩ | ⟨rfl, w_5⟩
          · have w_5 : (0 : Int) ≤ 1 := w_5
            refine lv_if_eq (tgt := 43) hx hb dX5_heavyAt_30 (by decide) (fun c_6 => ?_) (fun c_6 => ?_)
            · exact absurd c_6 (by decide)
            · refine lv_iload hx hb dX5_heavyAt_33 (lv_at hl 6 rfl) ?_
              refine lv_iconst (v := 0) hx hb dX5_heavyAt_35 (by decide) ?_
              refine lv_iconst (v := 1) hx hb dX5_heavyAt_36 (by decide) ?_
              have hPc := hP.sub (ws' := []) [] rfl
              have hKc := hK.sub (tys' := []) [] rfl
              refine vp_callSi (W.runS (As := [.int p5, .int 0, .int 1]) (rest := []) ⟨hx, hb, hml, hown, hts⟩ (c_X5_within l dC dI p5 0 1) (va_cwS 3 hts gX5_heavyAt_X5_within rfl rfl rfl (by decide +kernel) ⟨Nat.le_of_ble_eq_true rfl, Nat.le_of_ble_eq_true rfl⟩) ⟨fun a U g mk q => by obtain ⟨q0, qP, qK⟩ := q; exact ⟨q0, qP, va_K.moved (u := U) (U := U.calling g mk a) (Vm.Alike.refl U.vm) qK⟩, fun U hU hW => ⟨rfl, by rw [hU]; exact hPc, va_K.moved hW.alike hKc⟩⟩ rfl rfl hl.1 rfl (lv_room (Nat.le_of_ble_eq_true rfl)) dX5_heavyAt_37 ⟨Nat.le_of_ble_eq_true rfl, Nat.le_of_ble_eq_true rfl⟩) (fun r_7 w_7 => ?_)
              rcases w_7 with ⟨rfl, w_7⟩ | ⟨rfl, w_7⟩
              · have w_7 : (0 ≤ p5.toInt ∧ p5.toInt ≤ 1) := w_7
                refine lv_if_ne (tgt := 45) hx hb dX5_heavyAt_40 (by decide) (fun c_8 => ?_) (fun c_8 => ?_)
                · refine lv_aload_n hx hb dX5_heavyAt_45 rfl (lv_at hl 0 rfl) ?_
                  refine lv_iload_n hx hb dX5_heavyAt_46 rfl (lv_at hl 1 rfl) ?_
                  refine lv_iload_n hx hb dX5_heavyAt_47 rfl (lv_at hl 2 rfl) ?_
                  refine lv_iconst (v := 0) hx hb dX5_heavyAt_48 (by decide) ?_
                  refine lv_iconst (v := 0) hx hb dX5_heavyAt_49 (by decide) ?_
                  refine lv_iload_n hx hb dX5_heavyAt_50 rfl (lv_at hl 3 rfl) ?_
                  refine lv_iload hx hb dX5_heavyAt_51 (lv_at hl 4 rfl) ?_
                  have hPc := hP
                  have hKc := hK
                  have k_9 : (0 : Int32).toInt = 0 := rfl
                  have hDc := hD
                  have hFc := kx_free hD hS hA
                  refine va_callv (va_runV (As := [.int p0, .int p1, .int 0, .int 0, .int p2, .int p3]) (rest := []) ⟨hx, hb, hml, hown, hts⟩ (c_X5_laysHeavy l dC dI h0 g_row g_many g_loss g_less g_voteValue g_voteNumber g_allValue g_allNumber g_nodeL g_nodeR g_part g_wasMany g_wasLoss g_wasValue g_wasNumber g_path g_heavyValue g_heavyTimes g_fewest g_which g_met m_n m_slots 1 m_allMany m_nodes m_partMany m_pathMany m_heavyMany m_mostMet cyI f zv zt p0 p1 0 0 p2 p3 H.size (by omega) (by omega) (by omega) om_32 om_32 om_279 (by omega)) (cwV 6 hts gX5_heavyAt_X5_laysHeavy rfl rfl rfl (by decide +kernel) ⟨Nat.le_of_ble_eq_true rfl, Nat.le_of_ble_eq_true rfl⟩) ⟨fun a U g mk q => by obtain ⟨q0, q1, qP, qK, qD⟩ := q; exact ⟨q0, q1, qP, va_K.moved (u := U) (U := U.calling g mk a) (Vm.Alike.refl U.vm) qK, qD⟩, va_recv hKc hPc (ci := 5) (q0 := 0) rfl rfl, fun U hU hW => ⟨rfl, by rw [hU], by rw [hU]; exact hPc, va_K.moved hW.alike hKc, hDc.weaken (fun _ _ _ _ => trivial)⟩⟩ rfl rfl hl.1 rfl (lv_room (Nat.le_of_ble_eq_true rfl)) dX5_heavyAt_53 ⟨Nat.le_of_ble_eq_true rfl, Nat.le_of_ble_eq_true rfl⟩) hS (fun q _ h => hFc q h) hFc (fun u t H1 locs ht hvm w_10 hB hz1 hk1 hS => ?_)
                  obtain ⟨o_11, o_12, o_13⟩ := u
                  dsimp only at w_10 hB
                  obtain ⟨hP1, hK1, hD1⟩ := hB
                  rw [ht] at hP1
                  have hK1 := va_K.moved hvm.symm hK1
                  have hD := hD1.weaken (fun _ q _ h => hFc q.1 h)
                  have hP := hP1
                  clear hP1 hD1 hK1 hk1 hz1 hFc hDc hPc hKc
                  generalize H1 = H at hP hS ⊢
                  have w_10 : 0 ≤ o_11.toInt ∧ o_11.toInt ≤ 160 := w_10
                  refine lv_iload hx hb dX5_heavyAt_56 (lv_at hl 5 rfl) ?_
                  refine lv_iconst (v := 0) hx hb dX5_heavyAt_58 (by decide) ?_
                  refine lv_aload_n hx hb dX5_heavyAt_59 rfl (lv_at hl 0 rfl) ?_
                  refine va_get (D := (dC, dI)) (ci := 5) (v := .int o_11) (C := RX5) (T := TX5) (N := 30) hx hb hts hi_5 hown hK hP 0 rfl rfl 25 (by decide) hf_178 (fun _ h9 => h9) rfl dX5_heavyAt_60 ?_
                  refine lv_iconst (v := 1) hx hb dX5_heavyAt_63 (by decide) ?_
                  refine lv_isub hx hb dX5_heavyAt_64 ?_
                  refine lv_topi (fun y_14 ey_14 => ?_)
                  have i_14 : y_14.toInt = o_11.toInt - 1 := ki_sub ey_14 rfl rfl (om_90 w_10.1) (om_68 w_10.2)
                  have hPc := hP.sub (ws' := []) [] rfl
                  have hKc := hK.sub (tys' := []) [] rfl
                  refine vp_callSi (W.runS (As := [.int p4, .int 0, .int y_14]) (rest := []) ⟨hx, hb, hml, hown, hts⟩ (c_X5_within l dC dI p4 0 y_14) (va_cwS 3 hts gX5_heavyAt_X5_within rfl rfl rfl (by decide +kernel) ⟨Nat.le_of_ble_eq_true rfl, Nat.le_of_ble_eq_true rfl⟩) ⟨fun a U g mk q => by obtain ⟨q0, qP, qK⟩ := q; exact ⟨q0, qP, va_K.moved (u := U) (U := U.calling g mk a) (Vm.Alike.refl U.vm) qK⟩, fun U hU hW => ⟨rfl, by rw [hU]; exact hPc, va_K.moved hW.alike hKc⟩⟩ rfl rfl hl.1 rfl (lv_room (Nat.le_of_ble_eq_true rfl)) dX5_heavyAt_65 ⟨Nat.le_of_ble_eq_true rfl, Nat.le_of_ble_eq_true rfl⟩) (fun r_15 w_15 => ?_)
                  rcases w_15 with ⟨rfl, w_15⟩ | ⟨rfl, w_15⟩
                  · have w_15 : (0 ≤ p4.toInt ∧ p4.toInt ≤ y_14.toInt) := w_15
                    refine lv_if_ne (tgt := 73) hx hb dX5_heavyAt_68 (by decide) (fun c_16 => ?_) (fun c_16 => ?_)
                    · refine lv_aload_n hx hb dX5_heavyAt_73 rfl (lv_at hl 0 rfl) ?_
                      refine lv_iconst (v := 0) hx hb dX5_heavyAt_74 (by decide) ?_
                      refine va_put (D := (dC, dI)) (ci := 5) (v := .int 0) (ty := .int) (C := RX5) (T := TX5) (N := 30) hx hb hts hi_5 tyX5 tyX5_ok nmX5 hown hK hP hD hS 0 rfl rfl 3 (by decide) hf_77 (fun _ h9 => h9) rfl (by decide +kernel) rfl rfl (Nat.le_of_ble_eq_true rfl) dX5_heavyAt_75 (fun H locs hP hD hS => ?_)
                      have hP : va_P (dC, dI) vwCl [kx_5 h0 g_row m_n m_slots 0 g_many g_loss g_less g_voteValue g_voteNumber g_allValue g_allNumber m_allMany g_nodeL g_nodeR m_nodes g_part m_partMany g_wasMany g_wasLoss g_wasValue g_wasNumber g_path m_pathMany g_heavyValue g_heavyTimes o_11 g_fewest g_which g_met m_mostMet, kx_a g_row cyI 160 f, kx_a g_heavyValue cyI 160 o_12, kx_a g_heavyTimes cyI 160 o_13] H := hP
                      have hD : va_D A [kx_5 h0 g_row m_n m_slots 0 g_many g_loss g_less g_voteValue g_voteNumber g_allValue g_allNumber m_allMany g_nodeL g_nodeR m_nodes g_part m_partMany g_wasMany g_wasLoss g_wasValue g_wasNumber g_path m_pathMany g_heavyValue g_heavyTimes o_11 g_fewest g_which g_met m_mostMet, kx_a g_row cyI 160 f, kx_a g_heavyValue cyI 160 o_12, kx_a g_heavyTimes cyI 160 o_13] := hD
                      refine lv_iload hx hb dX5_heavyAt_78 (lv_at hl 6 rfl) ?_
                      refine lv_if_ne (tgt := 93) hx hb dX5_heavyAt_80 (by decide) (fun c_17 => ?_) (fun c_17 => ?_)
                      · have i_17 : ¬ p5.toInt = 0 := kc_ne c_17
                        refine lv_aload_n hx hb dX5_heavyAt_93 rfl (lv_at hl 0 rfl) ?_
                        refine va_get (D := (dC, dI)) (ci := 5) (v := .ref g_heavyTimes) (C := RX5) (T := TX5) (N := 30) hx hb hts hi_5 hown hK hP 0 rfl rfl 24 (by decide) hf_65 (fun _ h9 => h9) rfl dX5_heavyAt_94 ?_
                        refine lv_iload hx hb dX5_heavyAt_97 (lv_at hl 5 rfl) ?_
                        refine va_iald hx hb hK hP 3 0 rfl rfl (ki_in (by omega) (by omega)) dX5_heavyAt_99 ?_
                        refine lv_topi (fun y_18 ey_18 => ?_)
                        have j_18 : y_18.toInt = (o_13 p4.toNatClampNeg).toInt := congrArg Int32.toInt ey_18
                        have hP9 := hP
                        have hD9 := hD
                        have hK9 := hK
                        exact W.iret (v := y_18) hx hb hr (fun t ht hW => ⟨⟨y_18, (o_11, o_12, o_13, 0), rfl, trivial, by rw [ht]; exact hP9, va_K.moved hW.alike hK9, hD9⟩, hS.F ht⟩) hS.2.2 dX5_heavyAt_100
                      · have i_17 : p5.toInt = 0 := kc_eq c_17
                        refine lv_aload_n hx hb dX5_heavyAt_83 rfl (lv_at hl 0 rfl) ?_
                        refine va_get (D := (dC, dI)) (ci := 5) (v := .ref g_heavyValue) (C := RX5) (T := TX5) (N := 30) hx hb hts hi_5 hown hK hP 0 rfl rfl 23 (by decide) hf_62 (fun _ h9 => h9) rfl dX5_heavyAt_84 ?_
                        refine lv_iload hx hb dX5_heavyAt_87 (lv_at hl 5 rfl) ?_
                        refine va_iald hx hb hK hP 2 0 rfl rfl (ki_in (by omega) (by omega)) dX5_heavyAt_89 ?_
                        refine lv_topi (fun y_19 ey_19 => ?_)
                        have j_19 : y_19.toInt = (o_12 p4.toNatClampNeg).toInt := congrArg Int32.toInt ey_19
                        refine lv_goto (tgt := 100) hx hb dX5_heavyAt_90 (by decide) ?_
                        have hP9 := hP
                        have hD9 := hD
                        have hK9 := hK
                        exact W.iret (v := y_19) hx hb hr (fun t ht hW => ⟨⟨y_19, (o_11, o_12, o_13, 0), rfl, trivial, by rw [ht]; exact hP9, va_K.moved hW.alike hK9, hD9⟩, hS.F ht⟩) hS.2.2 dX5_heavyAt_100
                    · exact absurd c_16 (by decide)
                  · have w_15 : (p4.toInt < 0 ∨ y_14.toInt < p4.toInt) := w_15
                    refine lv_if_ne (tgt := 73) hx hb dX5_heavyAt_68 (by decide) (fun c_20 => ?_) (fun c_20 => ?_)
                    · exact absurd c_20 (by decide)
                    · refine lv_iconst (v := 0) hx hb dX5_heavyAt_71 (by decide) ?_
                      have hP9 := hP
                      have hD9 := hD
                      have hK9 := hK
                      exact W.iret (v := 0) hx hb hr (fun t ht hW => ⟨⟨0, (o_11, o_12, o_13, 1), rfl, trivial, by rw [ht]; exact hP9, va_K.moved hW.alike hK9, hD9⟩, hS.F ht⟩) hS.2.2 dX5_heavyAt_72
                · exact absurd c_8 (by decide)
              · have w_7 : (p5.toInt < 0 ∨ 1 < p5.toInt) := w_7
                refine lv_if_ne (tgt := 45) hx hb dX5_heavyAt_40 (by decide) (fun c_21 => ?_) (fun c_21 => ?_)
                · exact absurd c_21 (by decide)
                · refine lv_iconst (v := 0) hx hb dX5_heavyAt_43 (by decide) ?_
                  have hP9 := hP
                  have hD9 := hD
                  have hK9 := hK
                  exact W.iret (v := 0) hx hb hr (fun t ht hW => ⟨⟨0, (m_heavyMany, zv, zt, 1), rfl, trivial, by rw [ht]; exact hP9, va_K.moved hW.alike hK9, hD9⟩, hS.F ht⟩) hS.2.2 dX5_heavyAt_44
          · have w_5 : (0 : Int) ≤ 1 := w_5
            refine lv_if_eq (tgt := 43) hx hb dX5_heavyAt_30 (by decide) (fun c_22 => ?_) (fun c_22 => ?_)
            · refine lv_iconst (v := 0) hx hb dX5_heavyAt_43 (by decide) ?_
              have hP9 := hP
              have hD9 := hD
              have hK9 := hK
              exact W.iret (v := 0) hx hb hr (fun t ht hW => ⟨⟨0, (m_heavyMany, zv, zt, 1), rfl, trivial, by rw [ht]; exact hP9, va_K.moved hW.alike hK9, hD9⟩, hS.F ht⟩) hS.2.2 dX5_heavyAt_44
            · exact absurd c_22 (by decide)
      · have w_3 : (p2.toInt < 1 ∨ p3.toInt < p2.toInt ∨ 999 < p3.toInt) := w_3
        refine lv_if_eq (tgt := 43) hx hb dX5_heavyAt_20 (by decide) (fun c_23 => ?_) (fun c_23 => ?_)
        · refine lv_iconst (v := 0) hx hb dX5_heavyAt_43 (by decide) ?_
          have hP9 := hP
          have hD9 := hD
          have hK9 := hK
          exact W.iret (v := 0) hx hb hr (fun t ht hW => ⟨⟨0, (m_heavyMany, zv, zt, 1), rfl, trivial, by rw [ht]; exact hP9, va_K.moved hW.alike hK9, hD9⟩, hS.F ht⟩) hS.2.2 dX5_heavyAt_44
        · exact absurd c_23 (by decide)
  · have w_1 : (p0.toInt < 0 ∨ p1.toInt ≤ p0.toInt ∨ m_n.toInt < p1.toInt) := w_1
    refine lv_if_eq (tgt := 43) hx hb dX5_heavyAt_11 (by decide) (fun c_24 => ?_) (fun c_24 => ?_)
    · refine lv_iconst (v := 0) hx hb dX5_heavyAt_43 (by decide) ?_
      have hP9 := hP
      have hD9 := hD
      have hK9 := hK
      exact W.iret (v := 0) hx hb hr (fun t ht hW => ⟨⟨0, (m_heavyMany, zv, zt, 1), rfl, trivial, by rw [ht]; exact hP9, va_K.moved hW.alike hK9, hD9⟩, hS.F ht⟩) hS.2.2 dX5_heavyAt_44
    · exact absurd c_24 (by decide)

set_option maxHeartbeats 4000000 in
set_option maxRecDepth 100000 in
theorem c_X5_both (l : Launch) (dC : Nat → ClassId) (dI : Nat → Nat → Nat) (h0 : Nat) (g_row : Nat) (g_many : Nat) (g_loss : Nat) (g_less : Nat) (g_voteValue : Nat) (g_voteNumber : Nat) (g_allValue : Nat) (g_allNumber : Nat) (g_nodeL : Nat) (g_nodeR : Nat) (g_part : Nat) (g_wasMany : Nat) (g_wasLoss : Nat) (g_wasValue : Nat) (g_wasNumber : Nat) (g_path : Nat) (g_heavyValue : Nat) (g_heavyTimes : Nat) (g_fewest : Nat) (g_which : Nat) (g_met : Nat) (m_n : Int32) (m_slots : Int32) (m_thrown : Int32) (m_allMany : Int32) (m_nodes : Int32) (m_partMany : Int32) (m_pathMany : Int32) (m_heavyMany : Int32) (m_mostMet : Int32) (cyI : ClassId) (f : Nat → Int32) (zv : Nat → Int32) (zt : Nat → Int32) (p0 : Int32) (p1 : Int32) (p2 : Int32) (p3 : Int32) (p4 : Int32) (p5 : Int32) (sz : Nat) (a0 : 0 ≤ m_n.toInt) (a1 : m_n.toInt ≤ 160) : Met l yX5_both wsX5_both ({ frames := 2, cells := 0, slots := 0, locals := 90 }) (va_Pc [.ref h0, .int p0, .int p1, .int p2, .int p3, .int p4, .int p5] (fun U => U.heap.size = sz ∧ va_P (dC, dI) vwCl [kx_5 h0 g_row m_n m_slots m_thrown g_many g_loss g_less g_voteValue g_voteNumber g_allValue g_allNumber m_allMany g_nodeL g_nodeR m_nodes g_part m_partMany g_wasMany g_wasLoss g_wasValue g_wasNumber g_path m_pathMany g_heavyValue g_heavyTimes m_heavyMany g_fewest g_which g_met m_mostMet, kx_a g_row cyI 160 f, kx_a g_heavyValue cyI 160 zv, kx_a g_heavyTimes cyI 160 zt] U.heap ∧ va_K (dC, dI) vwCl [(cyI, .int)] U ∧ va_D (fun _ => True) [kx_5 h0 g_row m_n m_slots m_thrown g_many g_loss g_less g_voteValue g_voteNumber g_allValue g_allNumber m_allMany g_nodeL g_nodeR m_nodes g_part m_partMany g_wasMany g_wasLoss g_wasValue g_wasNumber g_path m_pathMany g_heavyValue g_heavyTimes m_heavyMany g_fewest g_which g_met m_mostMet, kx_a g_row cyI 160 f, kx_a g_heavyValue cyI 160 zv, kx_a g_heavyTimes cyI 160 zt])) (va_Qi (fun (r : Int32) (u : Int32 × (Nat → Int32) × (Nat → Int32)) => -3 ≤ r.toInt ∧ r.toInt ≤ 160) (fun (u : Int32 × (Nat → Int32) × (Nat → Int32)) (t : State) => va_P (dC, dI) vwCl [kx_5 h0 g_row m_n m_slots 0 g_many g_loss g_less g_voteValue g_voteNumber g_allValue g_allNumber m_allMany g_nodeL g_nodeR m_nodes g_part m_partMany g_wasMany g_wasLoss g_wasValue g_wasNumber g_path m_pathMany g_heavyValue g_heavyTimes u.1 g_fewest g_which g_met m_mostMet, kx_a g_row cyI 160 f, kx_a g_heavyValue cyI 160 u.2.1, kx_a g_heavyTimes cyI 160 u.2.2] t.heap ∧ va_K (dC, dI) vwCl [(cyI, .int)] t ∧ va_D (va_A [kx_5 h0 g_row m_n m_slots m_thrown g_many g_loss g_less g_voteValue g_voteNumber g_allValue g_allNumber m_allMany g_nodeL g_nodeR m_nodes g_part m_partMany g_wasMany g_wasLoss g_wasValue g_wasNumber g_path m_pathMany g_heavyValue g_heavyTimes m_heavyMany g_fewest g_which g_met m_mostMet, kx_a g_row cyI 160 f, kx_a g_heavyValue cyI 160 zv, kx_a g_heavyTimes cyI 160 zt] sz) [kx_5 h0 g_row m_n m_slots 0 g_many g_loss g_less g_voteValue g_voteNumber g_allValue g_allNumber m_allMany g_nodeL g_nodeR m_nodes g_part m_partMany g_wasMany g_wasLoss g_wasValue g_wasNumber g_path m_pathMany g_heavyValue g_heavyTimes u.1 g_fewest g_which g_met m_mostMet, kx_a g_row cyI 160 f, kx_a g_heavyValue cyI 160 u.2.1, kx_a g_heavyTimes cyI 160 u.2.2]) (va_A [kx_5 h0 g_row m_n m_slots m_thrown g_many g_loss g_less g_voteValue g_voteNumber g_allValue g_allNumber m_allMany g_nodeL g_nodeR m_nodes g_part m_partMany g_wasMany g_wasLoss g_wasValue g_wasNumber g_path m_pathMany g_heavyValue g_heavyTimes m_heavyMany g_fewest g_which g_met m_mostMet, kx_a g_row cyI 160 f, kx_a g_heavyValue cyI 160 zv, kx_a g_heavyTimes cyI 160 zt] sz)) 0 0 (va_A [kx_5 h0 g_row m_n m_slots m_thrown g_many g_loss g_less g_voteValue g_voteNumber g_allValue g_allNumber m_allMany g_nodeL g_nodeR m_nodes g_part m_partMany g_wasMany g_wasLoss g_wasValue g_wasNumber g_path m_pathMany g_heavyValue g_heavyTimes m_heavyMany g_fewest g_which g_met m_mostMet, kx_a g_row cyI 160 f, kx_a g_heavyValue cyI 160 zv, kx_a g_heavyTimes cyI 160 zt] sz) := by
  refine Met.ofW (cc := cX5_both) (maxL := 7) (ret := (some .int)) (by decide) rfl ?_
  intro p e s m args below meth c s₁ B hml hv
  obtain ⟨rfl, hsz, hP, hK, hD0⟩ := hv
  have hx := B.exec
  have hb := B.bytes
  have hr := B.returns
  have hts := atoms_spec (ws := wsX5_both) B.pre
  have hown : s.vm.findClass RX5 = some m.cls := findClass_of_methodNamed B.named
  have hlocks := B.notSynchronized
  subst hsz
  have hD := hD0.self (sz := s.heap.size)
  generalize hAe : va_A [kx_5 h0 g_row m_n m_slots m_thrown g_many g_loss g_less g_voteValue g_voteNumber g_allValue g_allNumber m_allMany g_nodeL g_nodeR m_nodes g_part m_partMany g_wasMany g_wasLoss g_wasValue g_wasNumber g_path m_pathMany g_heavyValue g_heavyTimes m_heavyMany g_fewest g_which g_met m_mostMet, kx_a g_row cyI 160 f, kx_a g_heavyValue cyI 160 zv, kx_a g_heavyTimes cyI 160 zt] s.heap.size = A at hD ⊢
  have hA : ∀ q : Nat, s.heap.size ≤ q → A q := fun q h => by rw [← hAe]; exact Or.inr h
  have hS : va_S A s.heap s.heap [] := va_S.rf
  have hP : va_P (dC, dI) vwCl [kx_5 h0 g_row m_n m_slots m_thrown g_many g_loss g_less g_voteValue g_voteNumber g_allValue g_allNumber m_allMany g_nodeL g_nodeR m_nodes g_part m_partMany g_wasMany g_wasLoss g_wasValue g_wasNumber g_path m_pathMany g_heavyValue g_heavyTimes m_heavyMany g_fewest g_which g_met m_mostMet, kx_a g_row cyI 160 f, kx_a g_heavyValue cyI 160 zv, kx_a g_heavyTimes cyI 160 zt] s.heap := hP
  have hl := lv_entry ([.ref h0, .int p0, .int p1, .int p2, .int p3, .int p4, .int p5]) (n := 7) (Nat.le_of_ble_eq_true rfl)
  rw [lg_entry_eq]
  generalize (lg_sl ([.ref h0, .int p0, .int p1, .int p2, .int p3, .int p4, .int p5]) ++ List.replicate (7 - (lg_sl ([.ref h0, .int p0, .int p1, .int p2, .int p3, .int p4, .int p5])).length) Slot.unset).toArray = ls at hl ⊢
  have hl : lv_has ls 7 [(0, .ref h0), (1, .int p0), (2, .int p1), (3, .int p2), (4, .int p3), (5, .int p4), (6, .int p5)] := hl
  have hf_77 := hts (.fieldLink RX5 77 "MajorityIndexModel" "thrown" "I") (List.mem_of_getElem? (i := 1) rfl)
  have hi_5 : ∀ w ∈ u_ws RX5 TX5 30, w ∈ wsX5_both := fun w h => List.mem_cons_of_mem _ (List.mem_append_right _ h)
  have hf_178 := hts (.fieldLink RX5 178 "MajorityIndexModel" "heavyMany" "I") (List.mem_of_getElem? (i := 2) rfl)
  refine lv_aload_n hx hb dX5_both_0 rfl (lv_at hl 0 rfl) ?_
  refine lv_iconst (v := 0) hx hb dX5_both_1 (by decide) ?_
  refine va_put (D := (dC, dI)) (ci := 5) (v := .int 0) (ty := .int) (C := RX5) (T := TX5) (N := 30) hx hb hts hi_5 tyX5 tyX5_ok nmX5 hown hK hP hD hS 0 rfl rfl 3 (by decide) hf_77 (fun _ h9 => h9) rfl (by decide +kernel) rfl rfl (Nat.le_of_ble_eq_true rfl) dX5_both_2 (fun H locs hP hD hS => ?_)
  have hP : va_P (dC, dI) vwCl [kx_5 h0 g_row m_n m_slots 0 g_many g_loss g_less g_voteValue g_voteNumber g_allValue g_allNumber m_allMany g_nodeL g_nodeR m_nodes g_part m_partMany g_wasMany g_wasLoss g_wasValue g_wasNumber g_path m_pathMany g_heavyValue g_heavyTimes m_heavyMany g_fewest g_which g_met m_mostMet, kx_a g_row cyI 160 f, kx_a g_heavyValue cyI 160 zv, kx_a g_heavyTimes cyI 160 zt] H := hP
  have hD : va_D A [kx_5 h0 g_row m_n m_slots 0 g_many g_loss g_less g_voteValue g_voteNumber g_allValue g_allNumber m_allMany g_nodeL g_nodeR m_nodes g_part m_partMany g_wasMany g_wasLoss g_wasValue g_wasNumber g_path m_pathMany g_heavyValue g_heavyTimes m_heavyMany g_fewest g_which g_met m_mostMet, kx_a g_row cyI 160 f, kx_a g_heavyValue cyI 160 zv, kx_a g_heavyTimes cyI 160 zt] := hD
  refine lv_aload_n hx hb dX5_both_5 rfl (lv_at hl 0 rfl) ?_
  refine lv_iload_n hx hb dX5_both_6 rfl (lv_at hl 1 rfl) ?_
  refine lv_iload_n hx hb dX5_both_7 rfl (lv_at hl 2 rfl) ?_
  have hPc := hP.sub (ws' := [kx_5 h0 g_row m_n m_slots 0 g_many g_loss g_less g_voteValue g_voteNumber g_allValue g_allNumber m_allMany g_nodeL g_nodeR m_nodes g_part m_partMany g_wasMany g_wasLoss g_wasValue g_wasNumber g_path m_pathMany g_heavyValue g_heavyTimes m_heavyMany g_fewest g_which g_met m_mostMet]) [0] rfl
  have hKc := hK.sub (tys' := []) [] rfl
  refine vp_callSi (W.runV (As := [.int p0, .int p1]) (rest := []) ⟨hx, hb, hml, hown, hts⟩ (c_X5_isRange l dC dI h0 g_row g_many g_loss g_less g_voteValue g_voteNumber g_allValue g_allNumber g_nodeL g_nodeR g_part g_wasMany g_wasLoss g_wasValue g_wasNumber g_path g_heavyValue g_heavyTimes g_fewest g_which g_met m_n m_slots 0 m_allMany m_nodes m_partMany m_pathMany m_heavyMany m_mostMet p0 p1) (cwV 2 hts gX5_both_X5_isRange rfl rfl rfl (by decide +kernel) ⟨Nat.le_of_ble_eq_true rfl, Nat.le_of_ble_eq_true rfl⟩) ⟨fun a U g mk q => by obtain ⟨q0, qP, qK⟩ := q; exact ⟨q0, qP, va_K.moved (u := U) (U := U.calling g mk a) (Vm.Alike.refl U.vm) qK⟩, va_recv hKc hPc (ci := 5) (q0 := 0) rfl rfl, fun U hU hW => ⟨rfl, by rw [hU]; exact hPc, va_K.moved hW.alike hKc⟩⟩ rfl rfl hl.1 rfl (lv_room (Nat.le_of_ble_eq_true rfl)) dX5_both_8 ⟨Nat.le_of_ble_eq_true rfl, Nat.le_of_ble_eq_true rfl⟩) (fun r_1 w_1 => ?_)
  rcases w_1 with ⟨rfl, w_1⟩ | ⟨rfl, w_1⟩
  · have w_1 : (0 ≤ p0.toInt ∧ p0.toInt < p1.toInt ∧ p1.toInt ≤ m_n.toInt) := w_1
    refine lv_if_eq (tgt := 34) hx hb dX5_both_11 (by decide) (fun c_2 => ?_) (fun c_2 => ?_)
    · exact absurd c_2 (by decide)
    · refine lv_aload_n hx hb dX5_both_14 rfl (lv_at hl 0 rfl) ?_
      refine lv_iload_n hx hb dX5_both_15 rfl (lv_at hl 3 rfl) ?_
      refine lv_iload hx hb dX5_both_16 (lv_at hl 4 rfl) ?_
      have hPc := hP.sub (ws' := [kx_5 h0 g_row m_n m_slots 0 g_many g_loss g_less g_voteValue g_voteNumber g_allValue g_allNumber m_allMany g_nodeL g_nodeR m_nodes g_part m_partMany g_wasMany g_wasLoss g_wasValue g_wasNumber g_path m_pathMany g_heavyValue g_heavyTimes m_heavyMany g_fewest g_which g_met m_mostMet]) [0] rfl
      have hKc := hK.sub (tys' := []) [] rfl
      refine vp_callSi (W.runV (As := [.int p2, .int p3]) (rest := []) ⟨hx, hb, hml, hown, hts⟩ (c_X5_isRange l dC dI h0 g_row g_many g_loss g_less g_voteValue g_voteNumber g_allValue g_allNumber g_nodeL g_nodeR g_part g_wasMany g_wasLoss g_wasValue g_wasNumber g_path g_heavyValue g_heavyTimes g_fewest g_which g_met m_n m_slots 0 m_allMany m_nodes m_partMany m_pathMany m_heavyMany m_mostMet p2 p3) (cwV 2 hts gX5_both_X5_isRange rfl rfl rfl (by decide +kernel) ⟨Nat.le_of_ble_eq_true rfl, Nat.le_of_ble_eq_true rfl⟩) ⟨fun a U g mk q => by obtain ⟨q0, qP, qK⟩ := q; exact ⟨q0, qP, va_K.moved (u := U) (U := U.calling g mk a) (Vm.Alike.refl U.vm) qK⟩, va_recv hKc hPc (ci := 5) (q0 := 0) rfl rfl, fun U hU hW => ⟨rfl, by rw [hU]; exact hPc, va_K.moved hW.alike hKc⟩⟩ rfl rfl hl.1 rfl (lv_room (Nat.le_of_ble_eq_true rfl)) dX5_both_18 ⟨Nat.le_of_ble_eq_true rfl, Nat.le_of_ble_eq_true rfl⟩) (fun r_3 w_3 => ?_)
      rcases w_3 with ⟨rfl, w_3⟩ | ⟨rfl, w_3⟩
      · have w_3 : (0 ≤ p2.toInt ∧ p2.toInt < p3.toInt ∧ p3.toInt ≤ m_n.toInt) := w_3
        refine lv_if_eq (tgt := 34) hx hb dX5_both_21 (by decide) (fun c_4 => ?_) (fun c_4 => ?_)
        · exact absurd c_4 (by decide)
        · refine lv_iload hx hb dX5_both_24 (lv_at hl 5 rfl) ?_
          refine lv_iload hx hb dX5_both_26 (lv_at hl 6 rfl) ?_
          have hPc := hP.sub (ws' := []) [] rfl
          have hKc := hK.sub (tys' := []) [] rfl
          refine vp_callSi (W.runS (As := [.int p4, .int p5]) (rest := []) ⟨hx, hb, hml, hown, hts⟩ (c_X5_isShare l dC dI p4 p5) (va_cwS 2 hts gX5_both_X5_isShare rfl rfl rfl (by decide +kernel) ⟨Nat.le_of_ble_eq_true rfl, Nat.le_of_ble_eq_true rfl⟩) ⟨fun a U g mk q => by obtain ⟨q0, qP, qK⟩ := q; exact ⟨q0, qP, va_K.moved (u := U) (U := U.calling g mk a) (Vm.Alike.refl U.vm) qK⟩, fun U hU hW => ⟨rfl, by rw [hU]; exact hPc, va_K.moved hW.alike hKc⟩⟩ rfl rfl hl.1 rfl (lv_room (Nat.le_of_ble_eq_true rfl)) dX5_both_28 ⟨Nat.le_of_ble_eq_true rfl, Nat.le_of_ble_eq_true rfl⟩) (fun r_5 w_5 => ?_)
          rcases w_5 with ⟨rfl, w_5⟩ | ⟨rfl, w_5⟩
          · have w_5 : (1 ≤ p4.toInt ∧ p4.toInt ≤ p5.toInt ∧ p5.toInt ≤ 999) := w_5
            refine lv_if_ne (tgt := 36) hx hb dX5_both_31 (by decide) (fun c_6 => ?_) (fun c_6 => ?_)
            · refine lv_aload_n hx hb dX5_both_36 rfl (lv_at hl 0 rfl) ?_
              refine lv_iload hx hb dX5_both_37 (lv_at hl 5 rfl) ?_
              refine lv_iload hx hb dX5_both_39 (lv_at hl 6 rfl) ?_
              have hPc := hP.sub (ws' := [kx_5 h0 g_row m_n m_slots 0 g_many g_loss g_less g_voteValue g_voteNumber g_allValue g_allNumber m_allMany g_nodeL g_nodeR m_nodes g_part m_partMany g_wasMany g_wasLoss g_wasValue g_wasNumber g_path m_pathMany g_heavyValue g_heavyTimes m_heavyMany g_fewest g_which g_met m_mostMet]) [0] rfl
              have hKc := hK.sub (tys' := []) [] rfl
              refine vp_callSi (W.runV (As := [.int p4, .int p5]) (rest := []) ⟨hx, hb, hml, hown, hts⟩ (c_X5_isEnough l dC dI h0 g_row g_many g_loss g_less g_voteValue g_voteNumber g_allValue g_allNumber g_nodeL g_nodeR g_part g_wasMany g_wasLoss g_wasValue g_wasNumber g_path g_heavyValue g_heavyTimes g_fewest g_which g_met m_n m_slots 0 m_allMany m_nodes m_partMany m_pathMany m_heavyMany m_mostMet p4 p5) (cwV 2 hts gX5_both_X5_isEnough rfl rfl rfl (by decide +kernel) ⟨Nat.le_of_ble_eq_true rfl, Nat.le_of_ble_eq_true rfl⟩) ⟨fun a U g mk q => by obtain ⟨q0, qP, qK⟩ := q; exact ⟨q0, qP, va_K.moved (u := U) (U := U.calling g mk a) (Vm.Alike.refl U.vm) qK⟩, va_recv hKc hPc (ci := 5) (q0 := 0) rfl rfl, fun U hU hW => ⟨rfl, by rw [hU]; exact hPc, va_K.moved hW.alike hKc⟩⟩ rfl rfl hl.1 rfl (lv_room (Nat.le_of_ble_eq_true rfl)) dX5_both_41 ⟨Nat.le_of_ble_eq_true rfl, Nat.le_of_ble_eq_true rfl⟩) (fun r_7 w_7 => ?_)
              rcases w_7 with ⟨rfl, w_7⟩ | ⟨rfl, w_7⟩
              · have w_7 : (0 : Int) ≤ 1 := w_7
                refine lv_if_ne (tgt := 50) hx hb dX5_both_44 (by decide) (fun c_8 => ?_) (fun c_8 => ?_)
                · refine lv_iload_n hx hb dX5_both_50 rfl (lv_at hl 1 rfl) ?_
                  refine lv_iload hx hb dX5_both_51 (lv_at hl 4 rfl) ?_
                  refine lv_icmp_ge (tgt := 64) hx hb dX5_both_53 (by decide) (fun c_9 => ?_) (fun c_9 => ?_)
                  · have i_9 : p3.toInt ≤ p0.toInt := kc_le c_9
                    refine lv_aload_n hx hb dX5_both_64 rfl (lv_at hl 0 rfl) ?_
                    refine lv_iload_n hx hb dX5_both_65 rfl (lv_at hl 1 rfl) ?_
                    refine lv_iload_n hx hb dX5_both_66 rfl (lv_at hl 2 rfl) ?_
                    refine lv_iload_n hx hb dX5_both_67 rfl (lv_at hl 3 rfl) ?_
                    refine lv_iload hx hb dX5_both_68 (lv_at hl 4 rfl) ?_
                    refine lv_iload hx hb dX5_both_70 (lv_at hl 5 rfl) ?_
                    refine lv_iload hx hb dX5_both_72 (lv_at hl 6 rfl) ?_
                    have hPc := hP
                    have hKc := hK
                    have hDc := hD
                    have hFc := kx_free hD hS hA
                    refine va_callv (va_runV (As := [.int p0, .int p1, .int p2, .int p3, .int p4, .int p5]) (rest := []) ⟨hx, hb, hml, hown, hts⟩ (c_X5_laysHeavy l dC dI h0 g_row g_many g_loss g_less g_voteValue g_voteNumber g_allValue g_allNumber g_nodeL g_nodeR g_part g_wasMany g_wasLoss g_wasValue g_wasNumber g_path g_heavyValue g_heavyTimes g_fewest g_which g_met m_n m_slots 0 m_allMany m_nodes m_partMany m_pathMany m_heavyMany m_mostMet cyI f zv zt p0 p1 p2 p3 p4 p5 H.size (by omega) (by omega) (by omega) (by omega) (by omega) (by omega) (by omega)) (cwV 6 hts gX5_both_X5_laysHeavy rfl rfl rfl (by decide +kernel) ⟨Nat.le_of_ble_eq_true rfl, Nat.le_of_ble_eq_true rfl⟩) ⟨fun a U g mk q => by obtain ⟨q0, q1, qP, qK, qD⟩ := q; exact ⟨q0, q1, qP, va_K.moved (u := U) (U := U.calling g mk a) (Vm.Alike.refl U.vm) qK, qD⟩, va_recv hKc hPc (ci := 5) (q0 := 0) rfl rfl, fun U hU hW => ⟨rfl, by rw [hU], by rw [hU]; exact hPc, va_K.moved hW.alike hKc, hDc.weaken (fun _ _ _ _ => trivial)⟩⟩ rfl rfl hl.1 rfl (lv_room (Nat.le_of_ble_eq_true rfl)) dX5_both_74 ⟨Nat.le_of_ble_eq_true rfl, Nat.le_of_ble_eq_true rfl⟩) hS (fun q _ h => hFc q h) hFc (fun u t H1 locs ht hvm w_10 hB hz1 hk1 hS => ?_)
                    obtain ⟨o_11, o_12, o_13⟩ := u
                    dsimp only at w_10 hB
                    obtain ⟨hP1, hK1, hD1⟩ := hB
                    rw [ht] at hP1
                    have hK1 := va_K.moved hvm.symm hK1
                    have hD := hD1.weaken (fun _ q _ h => hFc q.1 h)
                    have hP := hP1
                    clear hP1 hD1 hK1 hk1 hz1 hFc hDc hPc hKc
                    generalize H1 = H at hP hS ⊢
                    have w_10 : 0 ≤ o_11.toInt ∧ o_11.toInt ≤ 160 := w_10
                    refine lv_aload_n hx hb dX5_both_77 rfl (lv_at hl 0 rfl) ?_
                    refine va_get (D := (dC, dI)) (ci := 5) (v := .int o_11) (C := RX5) (T := TX5) (N := 30) hx hb hts hi_5 hown hK hP 0 rfl rfl 25 (by decide) hf_178 (fun _ h9 => h9) rfl dX5_both_78 ?_
                    have hP9 := hP
                    have hD9 := hD
                    have hK9 := hK
                    exact W.iret (v := o_11) hx hb hr (fun t ht hW => ⟨⟨o_11, (o_11, o_12, o_13), rfl, ⟨(by (try dsimp only); omega), (by (try dsimp only); omega)⟩, by rw [ht]; exact hP9, va_K.moved hW.alike hK9, hD9⟩, hS.F ht⟩) hS.2.2 dX5_both_81
                  · have i_9 : p0.toInt < p3.toInt := kc_nle c_9
                    refine lv_iload_n hx hb dX5_both_56 rfl (lv_at hl 3 rfl) ?_
                    refine lv_iload_n hx hb dX5_both_57 rfl (lv_at hl 2 rfl) ?_
                    refine lv_icmp_ge (tgt := 64) hx hb dX5_both_58 (by decide) (fun c_14 => ?_) (fun c_14 => ?_)
                    · have i_14 : p1.toInt ≤ p2.toInt := kc_le c_14
                      refine lv_aload_n hx hb dX5_both_64 rfl (lv_at hl 0 rfl) ?_
                      refine lv_iload_n hx hb dX5_both_65 rfl (lv_at hl 1 rfl) ?_
                      refine lv_iload_n hx hb dX5_both_66 rfl (lv_at hl 2 rfl) ?_
                      refine lv_iload_n hx hb dX5_both_67 rfl (lv_at hl 3 rfl) ?_
                      refine lv_iload hx hb dX5_both_68 (lv_at hl 4 rfl) ?_
                      refine lv_iload hx hb dX5_both_70 (lv_at hl 5 rfl) ?_
                      refine lv_iload hx hb dX5_both_72 (lv_at hl 6 rfl) ?_
                      have hPc := hP
                      have hKc := hK
                      have hDc := hD
                      have hFc := kx_free hD hS hA
                      refine va_callv (va_runV (As := [.int p0, .int p1, .int p2, .int p3, .int p4, .int p5]) (rest := []) ⟨hx, hb, hml, hown, hts⟩ (c_X5_laysHeavy l dC dI h0 g_row g_many g_loss g_less g_voteValue g_voteNumber g_allValue g_allNumber g_nodeL g_nodeR g_part g_wasMany g_wasLoss g_wasValue g_wasNumber g_path g_heavyValue g_heavyTimes g_fewest g_which g_met m_n m_slots 0 m_allMany m_nodes m_partMany m_pathMany m_heavyMany m_mostMet cyI f zv zt p0 p1 p2 p3 p4 p5 H.size (by omega) (by omega) (by omega) (by omega) (by omega) (by omega) (by omega)) (cwV 6 hts gX5_both_X5_laysHeavy rfl rfl rfl (by decide +kernel) ⟨Nat.le_of_ble_eq_true rfl, Nat.le_of_ble_eq_true rfl⟩) ⟨fun a U g mk q => by obtain ⟨q0, q1, qP, qK, qD⟩ := q; exact ⟨q0, q1, qP, va_K.moved (u := U) (U := U.calling g mk a) (Vm.Alike.refl U.vm) qK, qD⟩, va_recv hKc hPc (ci := 5) (q0 := 0) rfl rfl, fun U hU hW => ⟨rfl, by rw [hU], by rw [hU]; exact hPc, va_K.moved hW.alike hKc, hDc.weaken (fun _ _ _ _ => trivial)⟩⟩ rfl rfl hl.1 rfl (lv_room (Nat.le_of_ble_eq_true rfl)) dX5_both_74 ⟨Nat.le_of_ble_eq_true rfl, Nat.le_of_ble_eq_true rfl⟩) hS (fun q _ h => hFc q h) hFc (fun u t H1 locs ht hvm w_15 hB hz1 hk1 hS => ?_)
                      obtain ⟨o_16, o_17, o_18⟩ := u
                      dsimp only at w_15 hB
                      obtain ⟨hP1, hK1, hD1⟩ := hB
                      rw [ht] at hP1
                      have hK1 := va_K.moved hvm.symm hK1
                      have hD := hD1.weaken (fun _ q _ h => hFc q.1 h)
                      have hP := hP1
                      clear hP1 hD1 hK1 hk1 hz1 hFc hDc hPc hKc
                      generalize H1 = H at hP hS ⊢
                      have w_15 : 0 ≤ o_16.toInt ∧ o_16.toInt ≤ 160 := w_15
                      refine lv_aload_n hx hb dX5_both_77 rfl (lv_at hl 0 rfl) ?_
                      refine va_get (D := (dC, dI)) (ci := 5) (v := .int o_16) (C := RX5) (T := TX5) (N := 30) hx hb hts hi_5 hown hK hP 0 rfl rfl 25 (by decide) hf_178 (fun _ h9 => h9) rfl dX5_both_78 ?_
                      have hP9 := hP
                      have hD9 := hD
                      have hK9 := hK
                      exact W.iret (v := o_16) hx hb hr (fun t ht hW => ⟨⟨o_16, (o_16, o_17, o_18), rfl, ⟨(by (try dsimp only); omega), (by (try dsimp only); omega)⟩, by rw [ht]; exact hP9, va_K.moved hW.alike hK9, hD9⟩, hS.F ht⟩) hS.2.2 dX5_both_81
                    · have i_14 : p2.toInt < p1.toInt := kc_nle c_14
                      refine lv_bipush (v := (-3)) hx hb dX5_both_61 (by decide) ?_
                      have hP9 := hP
                      have hD9 := hD
                      have hK9 := hK
                      exact W.iret (v := (-3)) hx hb hr (fun t ht hW => ⟨⟨(-3), (m_heavyMany, zv, zt), rfl, ⟨(by (try dsimp only); decide), (by (try dsimp only); decide)⟩, by rw [ht]; exact hP9, va_K.moved hW.alike hK9, hD9⟩, hS.F ht⟩) hS.2.2 dX5_both_63
                · exact absurd c_8 (by decide)
              · have w_7 : (0 : Int) ≤ 1 := w_7
                refine lv_if_ne (tgt := 50) hx hb dX5_both_44 (by decide) (fun c_19 => ?_) (fun c_19 => ?_)
                · exact absurd c_19 (by decide)
                · refine lv_bipush (v := (-2)) hx hb dX5_both_47 (by decide) ?_
                  have hP9 := hP
                  have hD9 := hD
                  have hK9 := hK
                  exact W.iret (v := (-2)) hx hb hr (fun t ht hW => ⟨⟨(-2), (m_heavyMany, zv, zt), rfl, ⟨(by (try dsimp only); decide), (by (try dsimp only); decide)⟩, by rw [ht]; exact hP9, va_K.moved hW.alike hK9, hD9⟩, hS.F ht⟩) hS.2.2 dX5_both_49
            · exact absurd c_6 (by decide)
          · have w_5 : (p4.toInt < 1 ∨ p5.toInt < p4.toInt ∨ 999 < p5.toInt) := w_5
            refine lv_if_ne (tgt := 36) hx hb dX5_both_31 (by decide) (fun c_20 => ?_) (fun c_20 => ?_)
            · exact absurd c_20 (by decide)
            · refine lv_iconst (v := (-1)) hx hb dX5_both_34 (by decide) ?_
              have hP9 := hP
              have hD9 := hD
              have hK9 := hK
              exact W.iret (v := (-1)) hx hb hr (fun t ht hW => ⟨⟨(-1), (m_heavyMany, zv, zt), rfl, ⟨(by (try dsimp only); decide), (by (try dsimp only); decide)⟩, by rw [ht]; exact hP9, va_K.moved hW.alike hK9, hD9⟩, hS.F ht⟩) hS.2.2 dX5_both_35
      · have w_3 : (p2.toInt < 0 ∨ p3.toInt ≤ p2.toInt ∨ m_n.toInt < p3.toInt) := w_3
        refine lv_if_eq (tgt := 34) hx hb dX5_both_21 (by decide) (fun c_21 => ?_) (fun c_21 => ?_)
        · refine lv_iconst (v := (-1)) hx hb dX5_both_34 (by decide) ?_
          have hP9 := hP
          have hD9 := hD
          have hK9 := hK
          exact W.iret (v := (-1)) hx hb hr (fun t ht hW => ⟨⟨(-1), (m_heavyMany, zv, zt), rfl, ⟨(by (try dsimp only); decide), (by (try dsimp only); decide)⟩, by rw [ht]; exact hP9, va_K.moved hW.alike hK9, hD9⟩, hS.F ht⟩) hS.2.2 dX5_both_35
        · exact absurd c_21 (by decide)
  · have w_1 : (p0.toInt < 0 ∨ p1.toInt ≤ p0.toInt ∨ m_n.toInt < p1.toInt) := w_1
    refine lv_if_eq (tgt := 34) hx hb dX5_both_11 (by decide) (fun c_22 => ?_) (fun c_22 => ?_)
    · refine lv_iconst (v := (-1)) hx hb dX5_both_34 (by decide) ?_
      have hP9 := hP
      have hD9 := hD
      have hK9 := hK
      exact W.iret (v := (-1)) hx hb hr (fun t ht hW => ⟨⟨(-1), (m_heavyMany, zv, zt), rfl, ⟨(by (try dsimp only); decide), (by (try dsimp only); decide)⟩, by rw [ht]; exact hP9, va_K.moved hW.alike hK9, hD9⟩, hS.F ht⟩) hS.2.2 dX5_both_35
    · exact absurd c_22 (by decide)

set_option maxHeartbeats 4000000 in
set_option maxRecDepth 100000 in
theorem c_X5_bothAt (l : Launch) (dC : Nat → ClassId) (dI : Nat → Nat → Nat) (h0 : Nat) (g_row : Nat) (g_many : Nat) (g_loss : Nat) (g_less : Nat) (g_voteValue : Nat) (g_voteNumber : Nat) (g_allValue : Nat) (g_allNumber : Nat) (g_nodeL : Nat) (g_nodeR : Nat) (g_part : Nat) (g_wasMany : Nat) (g_wasLoss : Nat) (g_wasValue : Nat) (g_wasNumber : Nat) (g_path : Nat) (g_heavyValue : Nat) (g_heavyTimes : Nat) (g_fewest : Nat) (g_which : Nat) (g_met : Nat) (m_n : Int32) (m_slots : Int32) (m_thrown : Int32) (m_allMany : Int32) (m_nodes : Int32) (m_partMany : Int32) (m_pathMany : Int32) (m_heavyMany : Int32) (m_mostMet : Int32) (cyI : ClassId) (f : Nat → Int32) (zv : Nat → Int32) (zt : Nat → Int32) (p0 : Int32) (p1 : Int32) (p2 : Int32) (p3 : Int32) (p4 : Int32) (p5 : Int32) (p6 : Int32) (sz : Nat) (a0 : 0 ≤ m_n.toInt) (a1 : m_n.toInt ≤ 160) : Met l yX5_bothAt wsX5_bothAt ({ frames := 3, cells := 0, slots := 0, locals := 135 }) (va_Pc [.ref h0, .int p0, .int p1, .int p2, .int p3, .int p4, .int p5, .int p6] (fun U => U.heap.size = sz ∧ va_P (dC, dI) vwCl [kx_5 h0 g_row m_n m_slots m_thrown g_many g_loss g_less g_voteValue g_voteNumber g_allValue g_allNumber m_allMany g_nodeL g_nodeR m_nodes g_part m_partMany g_wasMany g_wasLoss g_wasValue g_wasNumber g_path m_pathMany g_heavyValue g_heavyTimes m_heavyMany g_fewest g_which g_met m_mostMet, kx_a g_row cyI 160 f, kx_a g_heavyValue cyI 160 zv, kx_a g_heavyTimes cyI 160 zt] U.heap ∧ va_K (dC, dI) vwCl [(cyI, .int)] U ∧ va_D (fun _ => True) [kx_5 h0 g_row m_n m_slots m_thrown g_many g_loss g_less g_voteValue g_voteNumber g_allValue g_allNumber m_allMany g_nodeL g_nodeR m_nodes g_part m_partMany g_wasMany g_wasLoss g_wasValue g_wasNumber g_path m_pathMany g_heavyValue g_heavyTimes m_heavyMany g_fewest g_which g_met m_mostMet, kx_a g_row cyI 160 f, kx_a g_heavyValue cyI 160 zv, kx_a g_heavyTimes cyI 160 zt])) (va_Qi (fun (r : Int32) (u : Int32 × (Nat → Int32) × (Nat → Int32)) => True) (fun (u : Int32 × (Nat → Int32) × (Nat → Int32)) (t : State) => va_P (dC, dI) vwCl [kx_5 h0 g_row m_n m_slots 0 g_many g_loss g_less g_voteValue g_voteNumber g_allValue g_allNumber m_allMany g_nodeL g_nodeR m_nodes g_part m_partMany g_wasMany g_wasLoss g_wasValue g_wasNumber g_path m_pathMany g_heavyValue g_heavyTimes u.1 g_fewest g_which g_met m_mostMet, kx_a g_row cyI 160 f, kx_a g_heavyValue cyI 160 u.2.1, kx_a g_heavyTimes cyI 160 u.2.2] t.heap ∧ va_K (dC, dI) vwCl [(cyI, .int)] t ∧ va_D (va_A [kx_5 h0 g_row m_n m_slots m_thrown g_many g_loss g_less g_voteValue g_voteNumber g_allValue g_allNumber m_allMany g_nodeL g_nodeR m_nodes g_part m_partMany g_wasMany g_wasLoss g_wasValue g_wasNumber g_path m_pathMany g_heavyValue g_heavyTimes m_heavyMany g_fewest g_which g_met m_mostMet, kx_a g_row cyI 160 f, kx_a g_heavyValue cyI 160 zv, kx_a g_heavyTimes cyI 160 zt] sz) [kx_5 h0 g_row m_n m_slots 0 g_many g_loss g_less g_voteValue g_voteNumber g_allValue g_allNumber m_allMany g_nodeL g_nodeR m_nodes g_part m_partMany g_wasMany g_wasLoss g_wasValue g_wasNumber g_path m_pathMany g_heavyValue g_heavyTimes u.1 g_fewest g_which g_met m_mostMet, kx_a g_row cyI 160 f, kx_a g_heavyValue cyI 160 u.2.1, kx_a g_heavyTimes cyI 160 u.2.2]) (va_A [kx_5 h0 g_row m_n m_slots m_thrown g_many g_loss g_less g_voteValue g_voteNumber g_allValue g_allNumber m_allMany g_nodeL g_nodeR m_nodes g_part m_partMany g_wasMany g_wasLoss g_wasValue g_wasNumber g_path m_pathMany g_heavyValue g_heavyTimes m_heavyMany g_fewest g_which g_met m_mostMet, kx_a g_row cyI 160 f, kx_a g_heavyValue cyI 160 zv, kx_a g_heavyTimes cyI 160 zt] sz)) 0 0 (va_A [kx_5 h0 g_row m_n m_slots m_thrown g_many g_loss g_less g_voteValue g_voteNumber g_allValue g_allNumber m_allMany g_nodeL g_nodeR m_nodes g_part m_partMany g_wasMany g_wasLoss g_wasValue g_wasNumber g_path m_pathMany g_heavyValue g_heavyTimes m_heavyMany g_fewest g_which g_met m_mostMet, kx_a g_row cyI 160 f, kx_a g_heavyValue cyI 160 zv, kx_a g_heavyTimes cyI 160 zt] sz) := by
  refine Met.ofW (cc := cX5_bothAt) (maxL := 9) (ret := (some .int)) (by decide) rfl ?_
  intro p e s m args below meth c s₁ B hml hv
  obtain ⟨rfl, hsz, hP, hK, hD0⟩ := hv
  have hx := B.exec
  have hb := B.bytes
  have hr := B.returns
  have hts := atoms_spec (ws := wsX5_bothAt) B.pre
  have hown : s.vm.findClass RX5 = some m.cls := findClass_of_methodNamed B.named
  have hlocks := B.notSynchronized
  subst hsz
  have hD := hD0.self (sz := s.heap.size)
  generalize hAe : va_A [kx_5 h0 g_row m_n m_slots m_thrown g_many g_loss g_less g_voteValue g_voteNumber g_allValue g_allNumber m_allMany g_nodeL g_nodeR m_nodes g_part m_partMany g_wasMany g_wasLoss g_wasValue g_wasNumber g_path m_pathMany g_heavyValue g_heavyTimes m_heavyMany g_fewest g_which g_met m_mostMet, kx_a g_row cyI 160 f, kx_a g_heavyValue cyI 160 zv, kx_a g_heavyTimes cyI 160 zt] s.heap.size = A at hD ⊢
  have hA : ∀ q : Nat, s.heap.size ≤ q → A q := fun q h => by rw [← hAe]; exact Or.inr h
  have hS : va_S A s.heap s.heap [] := va_S.rf
  have hP : va_P (dC, dI) vwCl [kx_5 h0 g_row m_n m_slots m_thrown g_many g_loss g_less g_voteValue g_voteNumber g_allValue g_allNumber m_allMany g_nodeL g_nodeR m_nodes g_part m_partMany g_wasMany g_wasLoss g_wasValue g_wasNumber g_path m_pathMany g_heavyValue g_heavyTimes m_heavyMany g_fewest g_which g_met m_mostMet, kx_a g_row cyI 160 f, kx_a g_heavyValue cyI 160 zv, kx_a g_heavyTimes cyI 160 zt] s.heap := hP
  have hl := lv_entry ([.ref h0, .int p0, .int p1, .int p2, .int p3, .int p4, .int p5, .int p6]) (n := 9) (Nat.le_of_ble_eq_true rfl)
  rw [lg_entry_eq]
  generalize (lg_sl ([.ref h0, .int p0, .int p1, .int p2, .int p3, .int p4, .int p5, .int p6]) ++ List.replicate (9 - (lg_sl ([.ref h0, .int p0, .int p1, .int p2, .int p3, .int p4, .int p5, .int p6])).length) Slot.unset).toArray = ls at hl ⊢
  have hl : lv_has ls 9 [(0, .ref h0), (1, .int p0), (2, .int p1), (3, .int p2), (4, .int p3), (5, .int p4), (6, .int p5), (7, .int p6)] := hl
  have hf_62 := hts (.fieldLink RX5 62 "MajorityIndexModel" "heavyValue" "[I") (List.mem_of_getElem? (i := 1) rfl)
  have hi_5 : ∀ w ∈ u_ws RX5 TX5 30, w ∈ wsX5_bothAt := fun w h => List.mem_cons_of_mem _ (List.mem_append_right _ h)
  have hk_148 := hts (.constant RX5 148 (-40000)) (List.mem_of_getElem? (i := 2) rfl)
  refine lv_aload_n hx hb dX5_bothAt_0 rfl (lv_at hl 0 rfl) ?_
  refine lv_iload_n hx hb dX5_bothAt_1 rfl (lv_at hl 1 rfl) ?_
  refine lv_iload_n hx hb dX5_bothAt_2 rfl (lv_at hl 2 rfl) ?_
  refine lv_iload_n hx hb dX5_bothAt_3 rfl (lv_at hl 3 rfl) ?_
  refine lv_iload hx hb dX5_bothAt_4 (lv_at hl 4 rfl) ?_
  refine lv_iload hx hb dX5_bothAt_6 (lv_at hl 5 rfl) ?_
  refine lv_iload hx hb dX5_bothAt_8 (lv_at hl 6 rfl) ?_
  have hPc := hP
  have hKc := hK
  have hDc := hD
  have hFc := kx_free hD hS hA
  refine va_calli (va_runV (As := [.int p0, .int p1, .int p2, .int p3, .int p4, .int p5]) (rest := []) ⟨hx, hb, hml, hown, hts⟩ (c_X5_both l dC dI h0 g_row g_many g_loss g_less g_voteValue g_voteNumber g_allValue g_allNumber g_nodeL g_nodeR g_part g_wasMany g_wasLoss g_wasValue g_wasNumber g_path g_heavyValue g_heavyTimes g_fewest g_which g_met m_n m_slots m_thrown m_allMany m_nodes m_partMany m_pathMany m_heavyMany m_mostMet cyI f zv zt p0 p1 p2 p3 p4 p5 s.heap.size a0 a1) (cwV 6 hts gX5_bothAt_X5_both rfl rfl rfl (by decide +kernel) ⟨Nat.le_of_ble_eq_true rfl, Nat.le_of_ble_eq_true rfl⟩) ⟨fun a U g mk q => by obtain ⟨q0, q1, qP, qK, qD⟩ := q; exact ⟨q0, q1, qP, va_K.moved (u := U) (U := U.calling g mk a) (Vm.Alike.refl U.vm) qK, qD⟩, va_recv hKc hPc (ci := 5) (q0 := 0) rfl rfl, fun U hU hW => ⟨rfl, by rw [hU], by rw [hU]; exact hPc, va_K.moved hW.alike hKc, hDc.weaken (fun _ _ _ _ => trivial)⟩⟩ rfl rfl hl.1 rfl (lv_room (Nat.le_of_ble_eq_true rfl)) dX5_bothAt_10 ⟨Nat.le_of_ble_eq_true rfl, Nat.le_of_ble_eq_true rfl⟩) hS (fun q _ h => hFc q h) hFc (fun r_1 u t H1 locs ht hvm w_1 hB hz1 hk1 hS => ?_)
  obtain ⟨o_2, o_3, o_4⟩ := u
  dsimp only at w_1 hB
  obtain ⟨hP1, hK1, hD1⟩ := hB
  rw [ht] at hP1
  have hK1 := va_K.moved hvm.symm hK1
  have hD := hD1.weaken (fun _ q _ h => hFc q.1 h)
  have hP := hP1
  clear hP1 hD1 hK1 hk1 hz1 hFc hDc hPc hKc
  generalize H1 = H at hP hS ⊢
  have w_1 : -3 ≤ r_1.toInt ∧ r_1.toInt ≤ 160 := w_1
  refine lv_istore (lv' := [(8, .int r_1), (0, .ref h0), (1, .int p0), (2, .int p1), (3, .int p2), (4, .int p3), (5, .int p4), (6, .int p5), (7, .int p6)]) hx hb dX5_bothAt_13 hl (by decide) rfl (fun ls hl => ?_)
  refine lv_iload hx hb dX5_bothAt_15 (lv_at hl 8 rfl) ?_
  refine lv_iconst (v := 0) hx hb dX5_bothAt_17 (by decide) ?_
  refine lv_iload hx hb dX5_bothAt_18 (lv_at hl 0 rfl) ?_
  refine lv_iconst (v := 1) hx hb dX5_bothAt_20 (by decide) ?_
  refine lv_isub hx hb dX5_bothAt_21 ?_
  refine lv_topi (fun y_5 ey_5 => ?_)
  have i_5 : y_5.toInt = r_1.toInt - 1 := ki_sub ey_5 rfl rfl (om_280 w_1.1) (om_68 w_1.2)
  have hPc := hP.sub (ws' := []) [] rfl
  have hKc := hK.sub (tys' := []) [] rfl
  refine vp_callSi (W.runS (As := [.int p6, .int 0, .int y_5]) (rest := []) ⟨hx, hb, hml, hown, hts⟩ (c_X5_within l dC dI p6 0 y_5) (va_cwS 3 hts gX5_bothAt_X5_within rfl rfl rfl (by decide +kernel) ⟨Nat.le_of_ble_eq_true rfl, Nat.le_of_ble_eq_true rfl⟩) ⟨fun a U g mk q => by obtain ⟨q0, qP, qK⟩ := q; exact ⟨q0, qP, va_K.moved (u := U) (U := U.calling g mk a) (Vm.Alike.refl U.vm) qK⟩, fun U hU hW => ⟨rfl, by rw [hU]; exact hPc, va_K.moved hW.alike hKc⟩⟩ rfl rfl hl.1 rfl (lv_room (Nat.le_of_ble_eq_true rfl)) dX5_bothAt_22 ⟨Nat.le_of_ble_eq_true rfl, Nat.le_of_ble_eq_true rfl⟩) (fun r_6 w_6 => ?_)
  rcases w_6 with ⟨rfl, w_6⟩ | ⟨rfl, w_6⟩
  · have w_6 : (0 ≤ p6.toInt ∧ p6.toInt ≤ y_5.toInt) := w_6
    refine lv_if_eq (tgt := 38) hx hb dX5_bothAt_25 (by decide) (fun c_7 => ?_) (fun c_7 => ?_)
    · exact absurd c_7 (by decide)
    · refine lv_aload_n hx hb dX5_bothAt_28 rfl (lv_at hl 1 rfl) ?_
      refine va_get (D := (dC, dI)) (ci := 5) (v := .ref g_heavyValue) (C := RX5) (T := TX5) (N := 30) hx hb hts hi_5 hown hK hP 0 rfl rfl 23 (by decide) hf_62 (fun _ h9 => h9) rfl dX5_bothAt_29 ?_
      refine lv_iload hx hb dX5_bothAt_32 (lv_at hl 8 rfl) ?_
      refine va_iald hx hb hK hP 2 0 rfl rfl (ki_in (by omega) (by omega)) dX5_bothAt_34 ?_
      refine lv_topi (fun y_8 ey_8 => ?_)
      have j_8 : y_8.toInt = (o_3 p6.toNatClampNeg).toInt := congrArg Int32.toInt ey_8
      refine lv_goto (tgt := 40) hx hb dX5_bothAt_35 (by decide) ?_
      have hP9 := hP
      have hD9 := hD
      have hK9 := hK
      exact W.iret (v := y_8) hx hb hr (fun t ht hW => ⟨⟨y_8, (o_2, o_3, o_4), rfl, trivial, by rw [ht]; exact hP9, va_K.moved hW.alike hK9, hD9⟩, hS.F ht⟩) hS.2.2 dX5_bothAt_40
  · have w_6 : (p6.toInt < 0 ∨ y_5.toInt < p6.toInt) := w_6
    refine lv_if_eq (tgt := 38) hx hb dX5_bothAt_25 (by decide) (fun c_9 => ?_) (fun c_9 => ?_)
    · refine lv_ldc (v := (-40000)) hx hb hown hk_148 dX5_bothAt_38 ?_
      have hP9 := hP
      have hD9 := hD
      have hK9 := hK
      exact W.iret (v := (-40000)) hx hb hr (fun t ht hW => ⟨⟨(-40000), (o_2, o_3, o_4), rfl, trivial, by rw [ht]; exact hP9, va_K.moved hW.alike hK9, hD9⟩, hS.F ht⟩) hS.2.2 dX5_bothAt_40
    · exact absurd c_9 (by decide)


