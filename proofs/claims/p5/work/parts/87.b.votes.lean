set_option maxHeartbeats 4000000 in
set_option maxRecDepth 100000 in
theorem c_X5_adds_x (l : Launch) (dC : Nat → ClassId) (dI : Nat → Nat → Nat) (h0 : Nat) (g_row : Nat) (g_many : Nat) (g_loss : Nat) (g_less : Nat) (g_voteValue : Nat) (g_voteNumber : Nat) (g_allValue : Nat) (g_allNumber : Nat) (g_nodeL : Nat) (g_nodeR : Nat) (g_part : Nat) (g_wasMany : Nat) (g_wasLoss : Nat) (g_wasValue : Nat) (g_wasNumber : Nat) (g_path : Nat) (g_heavyValue : Nat) (g_heavyTimes : Nat) (g_fewest : Nat) (g_which : Nat) (g_met : Nat) (m_n : Int32) (m_slots : Int32) (m_thrown : Int32) (m_allMany : Int32) (m_nodes : Int32) (m_partMany : Int32) (m_pathMany : Int32) (m_heavyMany : Int32) (m_mostMet : Int32) (cyI : ClassId) (av : Nat → Int32) (an : Nat → Int32) (p0 : Int32) (p1 : Int32) (sz : Nat) (b0 : 0 ≤ m_allMany.toInt) (b1 : m_allMany.toInt < 12) : Met l yX5_adds wsX5_adds ({ frames := 0, cells := 0, slots := 0, locals := 0 }) (va_Pc [.ref h0, .int p0, .int p1] (fun U => U.heap.size = sz ∧ va_P (dC, dI) vwCl [kx_5 h0 g_row m_n m_slots m_thrown g_many g_loss g_less g_voteValue g_voteNumber g_allValue g_allNumber m_allMany g_nodeL g_nodeR m_nodes g_part m_partMany g_wasMany g_wasLoss g_wasValue g_wasNumber g_path m_pathMany g_heavyValue g_heavyTimes m_heavyMany g_fewest g_which g_met m_mostMet, kx_a g_allValue cyI 12 av, kx_a g_allNumber cyI 12 an] U.heap ∧ va_K (dC, dI) vwCl [(cyI, .int)] U ∧ va_D (fun _ => True) [kx_5 h0 g_row m_n m_slots m_thrown g_many g_loss g_less g_voteValue g_voteNumber g_allValue g_allNumber m_allMany g_nodeL g_nodeR m_nodes g_part m_partMany g_wasMany g_wasLoss g_wasValue g_wasNumber g_path m_pathMany g_heavyValue g_heavyTimes m_heavyMany g_fewest g_which g_met m_mostMet, kx_a g_allValue cyI 12 av, kx_a g_allNumber cyI 12 an])) (va_Qv (fun u : Int32 × (Nat → Int32) × (Nat → Int32) => mj_addR av an m_allMany.toNatClampNeg p0 p1 u.2.1 u.2.2 u.1.toNatClampNeg ∧ m_allMany.toInt ≤ u.1.toInt ∧ u.1.toInt ≤ m_allMany.toInt + 1) (fun (u : Int32 × (Nat → Int32) × (Nat → Int32)) (t : State) => va_P (dC, dI) vwCl [kx_5 h0 g_row m_n m_slots m_thrown g_many g_loss g_less g_voteValue g_voteNumber g_allValue g_allNumber u.1 g_nodeL g_nodeR m_nodes g_part m_partMany g_wasMany g_wasLoss g_wasValue g_wasNumber g_path m_pathMany g_heavyValue g_heavyTimes m_heavyMany g_fewest g_which g_met m_mostMet, kx_a g_allValue cyI 12 u.2.1, kx_a g_allNumber cyI 12 u.2.2] t.heap ∧ va_K (dC, dI) vwCl [(cyI, .int)] t ∧ va_D (va_A [kx_5 h0 g_row m_n m_slots m_thrown g_many g_loss g_less g_voteValue g_voteNumber g_allValue g_allNumber m_allMany g_nodeL g_nodeR m_nodes g_part m_partMany g_wasMany g_wasLoss g_wasValue g_wasNumber g_path m_pathMany g_heavyValue g_heavyTimes m_heavyMany g_fewest g_which g_met m_mostMet, kx_a g_allValue cyI 12 av, kx_a g_allNumber cyI 12 an] sz) [kx_5 h0 g_row m_n m_slots m_thrown g_many g_loss g_less g_voteValue g_voteNumber g_allValue g_allNumber u.1 g_nodeL g_nodeR m_nodes g_part m_partMany g_wasMany g_wasLoss g_wasValue g_wasNumber g_path m_pathMany g_heavyValue g_heavyTimes m_heavyMany g_fewest g_which g_met m_mostMet, kx_a g_allValue cyI 12 u.2.1, kx_a g_allNumber cyI 12 u.2.2]) (va_A [kx_5 h0 g_row m_n m_slots m_thrown g_many g_loss g_less g_voteValue g_voteNumber g_allValue g_allNumber m_allMany g_nodeL g_nodeR m_nodes g_part m_partMany g_wasMany g_wasLoss g_wasValue g_wasNumber g_path m_pathMany g_heavyValue g_heavyTimes m_heavyMany g_fewest g_which g_met m_mostMet, kx_a g_allValue cyI 12 av, kx_a g_allNumber cyI 12 an] sz)) 0 0 (va_A [kx_5 h0 g_row m_n m_slots m_thrown g_many g_loss g_less g_voteValue g_voteNumber g_allValue g_allNumber m_allMany g_nodeL g_nodeR m_nodes g_part m_partMany g_wasMany g_wasLoss g_wasValue g_wasNumber g_path m_pathMany g_heavyValue g_heavyTimes m_heavyMany g_fewest g_which g_met m_mostMet, kx_a g_allValue cyI 12 av, kx_a g_allNumber cyI 12 an] sz) := by
  refine Met.ofW (cc := cX5_adds) (maxL := 4) (ret := none) (by decide) rfl ?_
  intro p e s m args below meth c s₁ B hml hv
  obtain ⟨rfl, hsz, hP, hK, hD0⟩ := hv
  have hx := B.exec
  have hb := B.bytes
  have hr := B.returns
  have hts := atoms_spec (ws := wsX5_adds) B.pre
  have hown : s.vm.findClass RX5 = some m.cls := findClass_of_methodNamed B.named
  have hlocks := B.notSynchronized
  subst hsz
  have hD := hD0.self (sz := s.heap.size)
  generalize hAe : va_A [kx_5 h0 g_row m_n m_slots m_thrown g_many g_loss g_less g_voteValue g_voteNumber g_allValue g_allNumber m_allMany g_nodeL g_nodeR m_nodes g_part m_partMany g_wasMany g_wasLoss g_wasValue g_wasNumber g_path m_pathMany g_heavyValue g_heavyTimes m_heavyMany g_fewest g_which g_met m_mostMet, kx_a g_allValue cyI 12 av, kx_a g_allNumber cyI 12 an] s.heap.size = A at hD ⊢
  have hA : ∀ q : Nat, s.heap.size ≤ q → A q := fun q h => by rw [← hAe]; exact Or.inr h
  have hS : va_S A s.heap s.heap [] := va_S.rf
  have hP : va_P (dC, dI) vwCl [kx_5 h0 g_row m_n m_slots m_thrown g_many g_loss g_less g_voteValue g_voteNumber g_allValue g_allNumber m_allMany g_nodeL g_nodeR m_nodes g_part m_partMany g_wasMany g_wasLoss g_wasValue g_wasNumber g_path m_pathMany g_heavyValue g_heavyTimes m_heavyMany g_fewest g_which g_met m_mostMet, kx_a g_allValue cyI 12 av, kx_a g_allNumber cyI 12 an] s.heap := hP
  have hl := lv_entry ([.ref h0, .int p0, .int p1]) (n := 4) (Nat.le_of_ble_eq_true rfl)
  rw [lg_entry_eq]
  generalize (lg_sl ([.ref h0, .int p0, .int p1]) ++ List.replicate (4 - (lg_sl ([.ref h0, .int p0, .int p1])).length) Slot.unset).toArray = ls at hl ⊢
  have hl : lv_has ls 4 [(0, .ref h0), (1, .int p0), (2, .int p1)] := hl
  have hf_87 := hts (.fieldLink RX5 87 "MajorityIndexModel" "allMany" "I") (List.mem_of_getElem? (i := 1) rfl)
  have hi_5 : ∀ w ∈ u_ws RX5 TX5 30, w ∈ wsX5_adds := fun w h => List.mem_cons_of_mem _ (List.mem_append_right _ h)
  have hf_32 := hts (.fieldLink RX5 32 "MajorityIndexModel" "allValue" "[I") (List.mem_of_getElem? (i := 2) rfl)
  have hf_35 := hts (.fieldLink RX5 35 "MajorityIndexModel" "allNumber" "[I") (List.mem_of_getElem? (i := 3) rfl)
  refine lv_iconst (v := 0) hx hb dX5_adds_0 (by decide) ?_
  refine lv_istore_n (lv' := [(3, .int 0), (0, .ref h0), (1, .int p0), (2, .int p1)]) hx hb dX5_adds_1 rfl hl (by decide) rfl (fun ls hl => ?_)
  have LP1 : ∀ (n : Nat) (i : Int32), (0 ≤ i.toInt) → (∀ k : Nat, k < i.toNatClampNeg → ¬ av k = p0) → (m_allMany.toInt - i.toInt).toNat < n → ∀ (H : Heap) (locs : List Loc), va_P (dC, dI) vwCl [kx_5 h0 g_row m_n m_slots m_thrown g_many g_loss g_less g_voteValue g_voteNumber g_allValue g_allNumber m_allMany g_nodeL g_nodeR m_nodes g_part m_partMany g_wasMany g_wasLoss g_wasValue g_wasNumber g_path m_pathMany g_heavyValue g_heavyTimes m_heavyMany g_fewest g_which g_met m_mostMet, kx_a g_allValue cyI 12 av, kx_a g_allNumber cyI 12 an] H → va_D A [kx_5 h0 g_row m_n m_slots m_thrown g_many g_loss g_less g_voteValue g_voteNumber g_allValue g_allNumber m_allMany g_nodeL g_nodeR m_nodes g_part m_partMany g_wasMany g_wasLoss g_wasValue g_wasNumber g_path m_pathMany g_heavyValue g_heavyTimes m_heavyMany g_fewest g_which g_met m_mostMet, kx_a g_allValue cyI 12 av, kx_a g_allNumber cyI 12 an] → va_S A s.heap H locs → ∀ (ls : Array Slot), lv_has ls 4 [(3, .int i), (0, .ref h0), (1, .int p0), (2, .int p1)] → W p l e (headSpec wsX5_adds ({ frames := 0, cells := 0, slots := 0, locals := 0 })).room s m ([.ref h0, .int p0, .int p1] : List Value).toArray below meth c H locs 0 0 (MQ below (va_Qv (fun u : Int32 × (Nat → Int32) × (Nat → Int32) => mj_addR av an m_allMany.toNatClampNeg p0 p1 u.2.1 u.2.2 u.1.toNatClampNeg ∧ m_allMany.toInt ≤ u.1.toInt ∧ u.1.toInt ≤ m_allMany.toInt + 1) (fun (u : Int32 × (Nat → Int32) × (Nat → Int32)) (t : State) => va_P (dC, dI) vwCl [kx_5 h0 g_row m_n m_slots m_thrown g_many g_loss g_less g_voteValue g_voteNumber g_allValue g_allNumber u.1 g_nodeL g_nodeR m_nodes g_part m_partMany g_wasMany g_wasLoss g_wasValue g_wasNumber g_path m_pathMany g_heavyValue g_heavyTimes m_heavyMany g_fewest g_which g_met m_mostMet, kx_a g_allValue cyI 12 u.2.1, kx_a g_allNumber cyI 12 u.2.2] t.heap ∧ va_K (dC, dI) vwCl [(cyI, .int)] t ∧ va_D A [kx_5 h0 g_row m_n m_slots m_thrown g_many g_loss g_less g_voteValue g_voteNumber g_allValue g_allNumber u.1 g_nodeL g_nodeR m_nodes g_part m_partMany g_wasMany g_wasLoss g_wasValue g_wasNumber g_path m_pathMany g_heavyValue g_heavyTimes m_heavyMany g_fewest g_which g_met m_mostMet, kx_a g_allValue cyI 12 u.2.1, kx_a g_allNumber cyI 12 u.2.2]) A) ([.ref h0, .int p0, .int p1] : List Value).toArray s 0 0 A) (F0 m 2 ls []) := by
    intro n
    induction n with
    | zero => intro i LP1_h0 LP1_h1 hn; exact absurd hn (Nat.not_lt_zero _)
    | succ n ih1 =>
      intro i LP1_h0 LP1_h1 hn1 H locs hP hD hS ls hl
      have n_i := ki_nat i rfl (om_8 LP1_h0)
      refine lv_iload_n hx hb dX5_adds_2 rfl (lv_at hl 0 rfl) ?_
      refine lv_aload_n hx hb dX5_adds_3 rfl (lv_at hl 1 rfl) ?_
      refine va_get (D := (dC, dI)) (ci := 5) (v := .int m_allMany) (C := RX5) (T := TX5) (N := 30) hx hb hts hi_5 hown hK hP 0 rfl rfl 11 (by decide) hf_87 (fun _ h9 => h9) rfl dX5_adds_4 ?_
      refine lv_icmp_ge (tgt := 40) hx hb dX5_adds_7 (by decide) (fun c_1 => ?_) (fun c_1 => ?_)
      · have i_1 : m_allMany.toInt ≤ i.toInt := kc_le c_1
        refine lv_aload_n hx hb dX5_adds_40 rfl (lv_at hl 1 rfl) ?_
        refine va_get (D := (dC, dI)) (ci := 5) (v := .ref g_allValue) (C := RX5) (T := TX5) (N := 30) hx hb hts hi_5 hown hK hP 0 rfl rfl 9 (by decide) hf_32 (fun _ h9 => h9) rfl dX5_adds_41 ?_
        refine lv_aload_n hx hb dX5_adds_44 rfl (lv_at hl 1 rfl) ?_
        refine va_get (D := (dC, dI)) (ci := 5) (v := .int m_allMany) (C := RX5) (T := TX5) (N := 30) hx hb hts hi_5 hown hK hP 0 rfl rfl 11 (by decide) hf_87 (fun _ h9 => h9) rfl dX5_adds_45 ?_
        refine lv_iload_n hx hb dX5_adds_48 rfl (lv_at hl 2 rfl) ?_
        refine va_iast hx hb hK hP hD hS 1 0 rfl rfl (ki_in (om_8 b0) (om_27 b1)) dX5_adds_49 (fun H locs hP hD hS => ?_)
        have hP : va_P (dC, dI) vwCl [kx_5 h0 g_row m_n m_slots m_thrown g_many g_loss g_less g_voteValue g_voteNumber g_allValue g_allNumber m_allMany g_nodeL g_nodeR m_nodes g_part m_partMany g_wasMany g_wasLoss g_wasValue g_wasNumber g_path m_pathMany g_heavyValue g_heavyTimes m_heavyMany g_fewest g_which g_met m_mostMet, kx_a g_allValue cyI 12 (upd av m_allMany.toNatClampNeg p0), kx_a g_allNumber cyI 12 an] H := hP
        have hD : va_D A [kx_5 h0 g_row m_n m_slots m_thrown g_many g_loss g_less g_voteValue g_voteNumber g_allValue g_allNumber m_allMany g_nodeL g_nodeR m_nodes g_part m_partMany g_wasMany g_wasLoss g_wasValue g_wasNumber g_path m_pathMany g_heavyValue g_heavyTimes m_heavyMany g_fewest g_which g_met m_mostMet, kx_a g_allValue cyI 12 (upd av m_allMany.toNatClampNeg p0), kx_a g_allNumber cyI 12 an] := hD
        refine lv_aload_n hx hb dX5_adds_50 rfl (lv_at hl 1 rfl) ?_
        refine va_get (D := (dC, dI)) (ci := 5) (v := .ref g_allNumber) (C := RX5) (T := TX5) (N := 30) hx hb hts hi_5 hown hK hP 0 rfl rfl 10 (by decide) hf_35 (fun _ h9 => h9) rfl dX5_adds_51 ?_
        refine lv_aload_n hx hb dX5_adds_54 rfl (lv_at hl 1 rfl) ?_
        refine va_get (D := (dC, dI)) (ci := 5) (v := .int m_allMany) (C := RX5) (T := TX5) (N := 30) hx hb hts hi_5 hown hK hP 0 rfl rfl 11 (by decide) hf_87 (fun _ h9 => h9) rfl dX5_adds_55 ?_
        refine lv_iload_n hx hb dX5_adds_58 rfl (lv_at hl 3 rfl) ?_
        refine va_iast hx hb hK hP hD hS 2 0 rfl rfl (ki_in (om_8 b0) (om_27 b1)) dX5_adds_59 (fun H locs hP hD hS => ?_)
        have hP : va_P (dC, dI) vwCl [kx_5 h0 g_row m_n m_slots m_thrown g_many g_loss g_less g_voteValue g_voteNumber g_allValue g_allNumber m_allMany g_nodeL g_nodeR m_nodes g_part m_partMany g_wasMany g_wasLoss g_wasValue g_wasNumber g_path m_pathMany g_heavyValue g_heavyTimes m_heavyMany g_fewest g_which g_met m_mostMet, kx_a g_allValue cyI 12 (upd av m_allMany.toNatClampNeg p0), kx_a g_allNumber cyI 12 (upd an m_allMany.toNatClampNeg p1)] H := hP
        have hD : va_D A [kx_5 h0 g_row m_n m_slots m_thrown g_many g_loss g_less g_voteValue g_voteNumber g_allValue g_allNumber m_allMany g_nodeL g_nodeR m_nodes g_part m_partMany g_wasMany g_wasLoss g_wasValue g_wasNumber g_path m_pathMany g_heavyValue g_heavyTimes m_heavyMany g_fewest g_which g_met m_mostMet, kx_a g_allValue cyI 12 (upd av m_allMany.toNatClampNeg p0), kx_a g_allNumber cyI 12 (upd an m_allMany.toNatClampNeg p1)] := hD
        refine lv_aload_n hx hb dX5_adds_60 rfl (lv_at hl 1 rfl) ?_
        refine lv_dup hx hb dX5_adds_61 rfl ?_
        refine va_get (D := (dC, dI)) (ci := 5) (v := .int m_allMany) (C := RX5) (T := TX5) (N := 30) hx hb hts hi_5 hown hK hP 0 rfl rfl 11 (by decide) hf_87 (fun _ h9 => h9) rfl dX5_adds_62 ?_
        refine lv_iconst (v := 1) hx hb dX5_adds_65 (by decide) ?_
        refine lv_iadd hx hb dX5_adds_66 ?_
        refine lv_topi (fun y_2 ey_2 => ?_)
        have i_2 : y_2.toInt = m_allMany.toInt + 1 := ki_add ey_2 rfl rfl (om_10 b0) (om_163 b1)
        refine va_put (D := (dC, dI)) (ci := 5) (v := .int y_2) (ty := .int) (C := RX5) (T := TX5) (N := 30) hx hb hts hi_5 tyX5 tyX5_ok nmX5 hown hK hP hD hS 0 rfl rfl 11 (by decide) hf_87 (fun _ h9 => h9) rfl (by decide +kernel) rfl rfl (Nat.le_of_ble_eq_true rfl) dX5_adds_67 (fun H locs hP hD hS => ?_)
        have hP : va_P (dC, dI) vwCl [kx_5 h0 g_row m_n m_slots m_thrown g_many g_loss g_less g_voteValue g_voteNumber g_allValue g_allNumber y_2 g_nodeL g_nodeR m_nodes g_part m_partMany g_wasMany g_wasLoss g_wasValue g_wasNumber g_path m_pathMany g_heavyValue g_heavyTimes m_heavyMany g_fewest g_which g_met m_mostMet, kx_a g_allValue cyI 12 (upd av m_allMany.toNatClampNeg p0), kx_a g_allNumber cyI 12 (upd an m_allMany.toNatClampNeg p1)] H := hP
        have hD : va_D A [kx_5 h0 g_row m_n m_slots m_thrown g_many g_loss g_less g_voteValue g_voteNumber g_allValue g_allNumber y_2 g_nodeL g_nodeR m_nodes g_part m_partMany g_wasMany g_wasLoss g_wasValue g_wasNumber g_path m_pathMany g_heavyValue g_heavyTimes m_heavyMany g_fewest g_which g_met m_mostMet, kx_a g_allValue cyI 12 (upd av m_allMany.toNatClampNeg p0), kx_a g_allNumber cyI 12 (upd an m_allMany.toNatClampNeg p1)] := hD
        have hP9 := hP
        have hD9 := hD
        have hK9 := hK
        have n_3 := ki_nat m_allMany rfl (om_8 b0)
        have n_4 := ki_nat y_2 rfl (om_31 b0 i_2)
        exact W.vret hx hb hr (fun t ht hW => ⟨⟨(y_2, (upd av m_allMany.toNatClampNeg p0), (upd an m_allMany.toNatClampNeg p1)), rfl, ⟨Or.inr ⟨(fun k hk => LP1_h1 k (by omega)), rfl, rfl, (by (try dsimp only); omega)⟩, (by (try dsimp only); omega), (by (try dsimp only); omega)⟩, by rw [ht]; exact hP9, va_K.moved hW.alike hK9, hD9⟩, hS.F ht⟩) hS.2.2 dX5_adds_70
      · have i_1 : i.toInt < m_allMany.toInt := kc_nle c_1
        refine lv_aload_n hx hb dX5_adds_10 rfl (lv_at hl 1 rfl) ?_
        refine va_get (D := (dC, dI)) (ci := 5) (v := .ref g_allValue) (C := RX5) (T := TX5) (N := 30) hx hb hts hi_5 hown hK hP 0 rfl rfl 9 (by decide) hf_32 (fun _ h9 => h9) rfl dX5_adds_11 ?_
        refine lv_iload_n hx hb dX5_adds_14 rfl (lv_at hl 0 rfl) ?_
        refine va_iald hx hb hK hP 1 0 rfl rfl (ki_in (om_8 LP1_h0) (om_164 b1 i_1)) dX5_adds_15 ?_
        refine lv_topi (fun y_5 ey_5 => ?_)
        have j_5 : y_5.toInt = (av i.toNatClampNeg).toInt := congrArg Int32.toInt ey_5
        refine lv_iload_n hx hb dX5_adds_16 rfl (lv_at hl 2 rfl) ?_
        refine lv_icmp_eq (tgt := 23) hx hb dX5_adds_17 (by decide) (fun c_6 => ?_) (fun c_6 => ?_)
        · have i_6 : y_5.toInt = p0.toInt := kc_eq c_6
          refine lv_aload_n hx hb dX5_adds_23 rfl (lv_at hl 1 rfl) ?_
          refine va_get (D := (dC, dI)) (ci := 5) (v := .ref g_allNumber) (C := RX5) (T := TX5) (N := 30) hx hb hts hi_5 hown hK hP 0 rfl rfl 10 (by decide) hf_35 (fun _ h9 => h9) rfl dX5_adds_24 ?_
          refine lv_iload_n hx hb dX5_adds_27 rfl (lv_at hl 0 rfl) ?_
          refine lv_dup2_11 hx hb dX5_adds_28 rfl rfl ?_
          refine va_iald hx hb hK hP 2 0 rfl rfl (ki_in (om_8 LP1_h0) (om_164 b1 i_1)) dX5_adds_29 ?_
          refine lv_topi (fun y_7 ey_7 => ?_)
          have j_7 : y_7.toInt = (an i.toNatClampNeg).toInt := congrArg Int32.toInt ey_7
          refine lv_iload_n hx hb dX5_adds_30 rfl (lv_at hl 3 rfl) ?_
          refine lv_iadd hx hb dX5_adds_31 ?_
          refine lv_topi (fun y_8 ey_8 => ?_)
          refine va_iast hx hb hK hP hD hS 2 0 rfl rfl (ki_in (om_8 LP1_h0) (om_164 b1 i_1)) dX5_adds_32 (fun H locs hP hD hS => ?_)
          have hP : va_P (dC, dI) vwCl [kx_5 h0 g_row m_n m_slots m_thrown g_many g_loss g_less g_voteValue g_voteNumber g_allValue g_allNumber m_allMany g_nodeL g_nodeR m_nodes g_part m_partMany g_wasMany g_wasLoss g_wasValue g_wasNumber g_path m_pathMany g_heavyValue g_heavyTimes m_heavyMany g_fewest g_which g_met m_mostMet, kx_a g_allValue cyI 12 av, kx_a g_allNumber cyI 12 (upd an i.toNatClampNeg y_8)] H := hP
          have hD : va_D A [kx_5 h0 g_row m_n m_slots m_thrown g_many g_loss g_less g_voteValue g_voteNumber g_allValue g_allNumber m_allMany g_nodeL g_nodeR m_nodes g_part m_partMany g_wasMany g_wasLoss g_wasValue g_wasNumber g_path m_pathMany g_heavyValue g_heavyTimes m_heavyMany g_fewest g_which g_met m_mostMet, kx_a g_allValue cyI 12 av, kx_a g_allNumber cyI 12 (upd an i.toNatClampNeg y_8)] := hD
          have hP9 := hP
          have hD9 := hD
          have hK9 := hK
          have n_9 := ki_nat m_allMany rfl (om_8 b0)
          exact W.vret hx hb hr (fun t ht hW => ⟨⟨(m_allMany, av, (upd an i.toNatClampNeg y_8)), rfl, ⟨Or.inl ⟨i.toNatClampNeg, (by (try dsimp only); omega), (ey_5.symm.trans c_6), rfl, (by (try dsimp only); rw [ey_8, ey_7]), rfl⟩, (by (try dsimp only); omega), (by (try dsimp only); omega)⟩, by rw [ht]; exact hP9, va_K.moved hW.alike hK9, hD9⟩, hS.F ht⟩) hS.2.2 dX5_adds_33
        · have i_6 : ¬ y_5.toInt = p0.toInt := kc_ne c_6
          refine lv_goto (tgt := 34) hx hb dX5_adds_20 (by decide) ?_
          obtain ⟨x_10, ex_10⟩ : ∃ y : Int32, y = i + 1 := ⟨_, rfl⟩
          have i_10 : x_10.toInt = i.toInt + 1 := ki_add ex_10 rfl rfl (om_10 LP1_h0) (om_165 b1 i_1)
          refine lv_iinc (v := x_10) (lv' := [(3, .int x_10), (0, .ref h0), (1, .int p0), (2, .int p1)]) hx hb dX5_adds_34 hl (k := 0) rfl (by rw [ex_10]; rfl) (by decide) rfl (fun ls hl => ?_)
          refine lv_goto (tgt := 2) hx hb dX5_adds_37 (by decide) ?_
          have n_11 := ki_nat x_10 rfl (om_31 LP1_h0 i_10)
          exact ih1 x_10 (om_31 LP1_h0 i_10) (fun k hk => if h9 : k < i.toNatClampNeg then LP1_h1 k h9 else (by rw [show k = i.toNatClampNeg by omega]; exact fun h => c_6 (ey_5.trans h))) (om_mu hn1 (om_5 i_10) (om_6 i_1)) _ _ hP hD hS ls (lv_sub hl [0, 1, 2, 3] rfl)
  have k_12 : (0 : Int32).toInt = 0 := rfl
  exact LP1 ((m_allMany.toInt - 0 : Int).toNat + 1) 0 om_32 (fun k hk => absurd hk (Nat.not_lt_zero k)) (Nat.lt_succ_self _) _ _ hP hD hS ls (lv_sub hl [0, 1, 2, 3] rfl)

set_option maxHeartbeats 4000000 in
set_option maxRecDepth 100000 in
theorem c_X5_sorts (l : Launch) (dC : Nat → ClassId) (dI : Nat → Nat → Nat) (h0 : Nat) (g_row : Nat) (g_many : Nat) (g_loss : Nat) (g_less : Nat) (g_voteValue : Nat) (g_voteNumber : Nat) (g_allValue : Nat) (g_allNumber : Nat) (g_nodeL : Nat) (g_nodeR : Nat) (g_part : Nat) (g_wasMany : Nat) (g_wasLoss : Nat) (g_wasValue : Nat) (g_wasNumber : Nat) (g_path : Nat) (g_heavyValue : Nat) (g_heavyTimes : Nat) (g_fewest : Nat) (g_which : Nat) (g_met : Nat) (m_n : Int32) (m_slots : Int32) (m_thrown : Int32) (m_allMany : Int32) (m_nodes : Int32) (m_partMany : Int32) (m_pathMany : Int32) (m_heavyMany : Int32) (m_mostMet : Int32) (cyI : ClassId) (av : Nat → Int32) (an : Nat → Int32) (sz : Nat) (b0 : 0 ≤ m_allMany.toInt) (b1 : m_allMany.toInt ≤ 12) : Met l yX5_sorts wsX5_sorts ({ frames := 1, cells := 0, slots := 0, locals := 45 }) (va_Pc [.ref h0] (fun U => U.heap.size = sz ∧ va_P (dC, dI) vwCl [kx_5 h0 g_row m_n m_slots m_thrown g_many g_loss g_less g_voteValue g_voteNumber g_allValue g_allNumber m_allMany g_nodeL g_nodeR m_nodes g_part m_partMany g_wasMany g_wasLoss g_wasValue g_wasNumber g_path m_pathMany g_heavyValue g_heavyTimes m_heavyMany g_fewest g_which g_met m_mostMet, kx_a g_allValue cyI 12 av, kx_a g_allNumber cyI 12 an] U.heap ∧ va_K (dC, dI) vwCl [(cyI, .int)] U ∧ va_D (fun _ => True) [kx_5 h0 g_row m_n m_slots m_thrown g_many g_loss g_less g_voteValue g_voteNumber g_allValue g_allNumber m_allMany g_nodeL g_nodeR m_nodes g_part m_partMany g_wasMany g_wasLoss g_wasValue g_wasNumber g_path m_pathMany g_heavyValue g_heavyTimes m_heavyMany g_fewest g_which g_met m_mostMet, kx_a g_allValue cyI 12 av, kx_a g_allNumber cyI 12 an])) (va_Qv (fun u : (Nat → Int32) × (Nat → Int32) => mj_srt u.1 u.2 0 m_allMany.toNatClampNeg ∧ ∀ mu : Int32 → Int, mj_vs av an 0 m_allMany.toNatClampNeg mu → mj_vs u.1 u.2 0 m_allMany.toNatClampNeg mu) (fun (u : (Nat → Int32) × (Nat → Int32)) (t : State) => va_P (dC, dI) vwCl [kx_5 h0 g_row m_n m_slots m_thrown g_many g_loss g_less g_voteValue g_voteNumber g_allValue g_allNumber m_allMany g_nodeL g_nodeR m_nodes g_part m_partMany g_wasMany g_wasLoss g_wasValue g_wasNumber g_path m_pathMany g_heavyValue g_heavyTimes m_heavyMany g_fewest g_which g_met m_mostMet, kx_a g_allValue cyI 12 u.1, kx_a g_allNumber cyI 12 u.2] t.heap ∧ va_K (dC, dI) vwCl [(cyI, .int)] t ∧ va_D (va_A [kx_5 h0 g_row m_n m_slots m_thrown g_many g_loss g_less g_voteValue g_voteNumber g_allValue g_allNumber m_allMany g_nodeL g_nodeR m_nodes g_part m_partMany g_wasMany g_wasLoss g_wasValue g_wasNumber g_path m_pathMany g_heavyValue g_heavyTimes m_heavyMany g_fewest g_which g_met m_mostMet, kx_a g_allValue cyI 12 av, kx_a g_allNumber cyI 12 an] sz) [kx_5 h0 g_row m_n m_slots m_thrown g_many g_loss g_less g_voteValue g_voteNumber g_allValue g_allNumber m_allMany g_nodeL g_nodeR m_nodes g_part m_partMany g_wasMany g_wasLoss g_wasValue g_wasNumber g_path m_pathMany g_heavyValue g_heavyTimes m_heavyMany g_fewest g_which g_met m_mostMet, kx_a g_allValue cyI 12 u.1, kx_a g_allNumber cyI 12 u.2]) (va_A [kx_5 h0 g_row m_n m_slots m_thrown g_many g_loss g_less g_voteValue g_voteNumber g_allValue g_allNumber m_allMany g_nodeL g_nodeR m_nodes g_part m_partMany g_wasMany g_wasLoss g_wasValue g_wasNumber g_path m_pathMany g_heavyValue g_heavyTimes m_heavyMany g_fewest g_which g_met m_mostMet, kx_a g_allValue cyI 12 av, kx_a g_allNumber cyI 12 an] sz)) 0 0 (va_A [kx_5 h0 g_row m_n m_slots m_thrown g_many g_loss g_less g_voteValue g_voteNumber g_allValue g_allNumber m_allMany g_nodeL g_nodeR m_nodes g_part m_partMany g_wasMany g_wasLoss g_wasValue g_wasNumber g_path m_pathMany g_heavyValue g_heavyTimes m_heavyMany g_fewest g_which g_met m_mostMet, kx_a g_allValue cyI 12 av, kx_a g_allNumber cyI 12 an] sz) := by
  refine Met.ofW (cc := cX5_sorts) (maxL := 4) (ret := none) (by decide) rfl ?_
  intro p e s m args below meth c s₁ B hml hv
  obtain ⟨rfl, hsz, hP, hK, hD0⟩ := hv
  have hx := B.exec
  have hb := B.bytes
  have hr := B.returns
  have hts := atoms_spec (ws := wsX5_sorts) B.pre
  have hown : s.vm.findClass RX5 = some m.cls := findClass_of_methodNamed B.named
  have hlocks := B.notSynchronized
  subst hsz
  have hD := hD0.self (sz := s.heap.size)
  generalize hAe : va_A [kx_5 h0 g_row m_n m_slots m_thrown g_many g_loss g_less g_voteValue g_voteNumber g_allValue g_allNumber m_allMany g_nodeL g_nodeR m_nodes g_part m_partMany g_wasMany g_wasLoss g_wasValue g_wasNumber g_path m_pathMany g_heavyValue g_heavyTimes m_heavyMany g_fewest g_which g_met m_mostMet, kx_a g_allValue cyI 12 av, kx_a g_allNumber cyI 12 an] s.heap.size = A at hD ⊢
  have hA : ∀ q : Nat, s.heap.size ≤ q → A q := fun q h => by rw [← hAe]; exact Or.inr h
  have hS : va_S A s.heap s.heap [] := va_S.rf
  have hP : va_P (dC, dI) vwCl [kx_5 h0 g_row m_n m_slots m_thrown g_many g_loss g_less g_voteValue g_voteNumber g_allValue g_allNumber m_allMany g_nodeL g_nodeR m_nodes g_part m_partMany g_wasMany g_wasLoss g_wasValue g_wasNumber g_path m_pathMany g_heavyValue g_heavyTimes m_heavyMany g_fewest g_which g_met m_mostMet, kx_a g_allValue cyI 12 av, kx_a g_allNumber cyI 12 an] s.heap := hP
  have hl := lv_entry ([.ref h0]) (n := 4) (Nat.le_of_ble_eq_true rfl)
  rw [lg_entry_eq]
  generalize (lg_sl ([.ref h0]) ++ List.replicate (4 - (lg_sl ([.ref h0])).length) Slot.unset).toArray = ls at hl ⊢
  have hl : lv_has ls 4 [(0, .ref h0)] := hl
  have hf_87 := hts (.fieldLink RX5 87 "MajorityIndexModel" "allMany" "I") (List.mem_of_getElem? (i := 1) rfl)
  have hi_5 : ∀ w ∈ u_ws RX5 TX5 30, w ∈ wsX5_sorts := fun w h => List.mem_cons_of_mem _ (List.mem_append_right _ h)
  have hf_32 := hts (.fieldLink RX5 32 "MajorityIndexModel" "allValue" "[I") (List.mem_of_getElem? (i := 2) rfl)
  have hf_35 := hts (.fieldLink RX5 35 "MajorityIndexModel" "allNumber" "[I") (List.mem_of_getElem? (i := 3) rfl)
  have n_m := ki_nat m_allMany rfl (om_8 b0)
  refine lv_iconst (v := 0) hx hb dX5_sorts_0 (by decide) ?_
  refine lv_istore_n (lv' := [(1, .int 0), (0, .ref h0)]) hx hb dX5_sorts_1 rfl hl (by decide) rfl (fun ls hl => ?_)
  have LP1 : ∀ (n : Nat) (i : Int32) (gv : Nat → Int32) (gn : Nat → Int32), (0 ≤ i.toInt) → (i.toInt ≤ 12) → (mj_so gv gn m_allMany.toNatClampNeg i.toNatClampNeg (i.toNatClampNeg + 1)) → (∀ mu : Int32 → Int, mj_vs av an 0 m_allMany.toNatClampNeg mu → mj_vs gv gn 0 m_allMany.toNatClampNeg mu) → (m_allMany.toInt - i.toInt).toNat < n → ∀ (H : Heap) (locs : List Loc), va_P (dC, dI) vwCl [kx_5 h0 g_row m_n m_slots m_thrown g_many g_loss g_less g_voteValue g_voteNumber g_allValue g_allNumber m_allMany g_nodeL g_nodeR m_nodes g_part m_partMany g_wasMany g_wasLoss g_wasValue g_wasNumber g_path m_pathMany g_heavyValue g_heavyTimes m_heavyMany g_fewest g_which g_met m_mostMet, kx_a g_allValue cyI 12 gv, kx_a g_allNumber cyI 12 gn] H → va_D A [kx_5 h0 g_row m_n m_slots m_thrown g_many g_loss g_less g_voteValue g_voteNumber g_allValue g_allNumber m_allMany g_nodeL g_nodeR m_nodes g_part m_partMany g_wasMany g_wasLoss g_wasValue g_wasNumber g_path m_pathMany g_heavyValue g_heavyTimes m_heavyMany g_fewest g_which g_met m_mostMet, kx_a g_allValue cyI 12 gv, kx_a g_allNumber cyI 12 gn] → va_S A s.heap H locs → ∀ (ls : Array Slot), lv_has ls 4 [(1, .int i), (0, .ref h0)] → W p l e (headSpec wsX5_sorts ({ frames := 1, cells := 0, slots := 0, locals := 45 })).room s m ([.ref h0] : List Value).toArray below meth c H locs 0 0 (MQ below (va_Qv (fun u : (Nat → Int32) × (Nat → Int32) => mj_srt u.1 u.2 0 m_allMany.toNatClampNeg ∧ ∀ mu : Int32 → Int, mj_vs av an 0 m_allMany.toNatClampNeg mu → mj_vs u.1 u.2 0 m_allMany.toNatClampNeg mu) (fun (u : (Nat → Int32) × (Nat → Int32)) (t : State) => va_P (dC, dI) vwCl [kx_5 h0 g_row m_n m_slots m_thrown g_many g_loss g_less g_voteValue g_voteNumber g_allValue g_allNumber m_allMany g_nodeL g_nodeR m_nodes g_part m_partMany g_wasMany g_wasLoss g_wasValue g_wasNumber g_path m_pathMany g_heavyValue g_heavyTimes m_heavyMany g_fewest g_which g_met m_mostMet, kx_a g_allValue cyI 12 u.1, kx_a g_allNumber cyI 12 u.2] t.heap ∧ va_K (dC, dI) vwCl [(cyI, .int)] t ∧ va_D A [kx_5 h0 g_row m_n m_slots m_thrown g_many g_loss g_less g_voteValue g_voteNumber g_allValue g_allNumber m_allMany g_nodeL g_nodeR m_nodes g_part m_partMany g_wasMany g_wasLoss g_wasValue g_wasNumber g_path m_pathMany g_heavyValue g_heavyTimes m_heavyMany g_fewest g_which g_met m_mostMet, kx_a g_allValue cyI 12 u.1, kx_a g_allNumber cyI 12 u.2]) A) ([.ref h0] : List Value).toArray s 0 0 A) (F0 m 2 ls []) := by
    intro n
    induction n with
    | zero => intro i gv gn LP1_h0 LP1_h1 LP1_h2 LP1_h3 hn; exact absurd hn (Nat.not_lt_zero _)
    | succ n ih1 =>
      intro i gv gn LP1_h0 LP1_h1 LP1_h2 LP1_h3 hn1 H locs hP hD hS ls hl
      have n_i := ki_nat i rfl (om_8 LP1_h0)
      refine lv_iload_n hx hb dX5_sorts_2 rfl (lv_at hl 0 rfl) ?_
      refine lv_aload_n hx hb dX5_sorts_3 rfl (lv_at hl 1 rfl) ?_
      refine va_get (D := (dC, dI)) (ci := 5) (v := .int m_allMany) (C := RX5) (T := TX5) (N := 30) hx hb hts hi_5 hown hK hP 0 rfl rfl 11 (by decide) hf_87 (fun _ h9 => h9) rfl dX5_sorts_4 ?_
      refine lv_icmp_ge (tgt := 98) hx hb dX5_sorts_7 (by decide) (fun c_1 => ?_) (fun c_1 => ?_)
      · have i_1 : m_allMany.toInt ≤ i.toInt := kc_le c_1
        have hP9 := hP
        have hD9 := hD
        have hK9 := hK
        exact W.vret hx hb hr (fun t ht hW => ⟨⟨(gv, gn), rfl, ⟨mj_so_end LP1_h2 (by (try dsimp only); omega), LP1_h3⟩, by rw [ht]; exact hP9, va_K.moved hW.alike hK9, hD9⟩, hS.F ht⟩) hS.2.2 dX5_sorts_98
      · have i_1 : i.toInt < m_allMany.toInt := kc_nle c_1
        refine lv_iload_n hx hb dX5_sorts_10 rfl (lv_at hl 0 rfl) ?_
        refine lv_iconst (v := 1) hx hb dX5_sorts_11 (by decide) ?_
        refine lv_iadd hx hb dX5_sorts_12 ?_
        refine lv_topi (fun y_2 ey_2 => ?_)
        have i_2 : y_2.toInt = i.toInt + 1 := ki_add ey_2 rfl rfl (om_10 LP1_h0) (om_28 LP1_h1)
        refine lv_istore_n (lv' := [(2, .int y_2), (1, .int i), (0, .ref h0)]) hx hb dX5_sorts_13 rfl hl (by decide) rfl (fun ls hl => ?_)
        have LP2 : ∀ (n : Nat) (k : Int32) (kv : Nat → Int32) (kn : Nat → Int32), (i.toInt < k.toInt) → (k.toInt ≤ 13) → (mj_so kv kn m_allMany.toNatClampNeg i.toNatClampNeg k.toNatClampNeg) → (∀ mu : Int32 → Int, mj_vs av an 0 m_allMany.toNatClampNeg mu → mj_vs kv kn 0 m_allMany.toNatClampNeg mu) → (m_allMany.toInt - k.toInt).toNat < n → ∀ (H : Heap) (locs : List Loc), va_P (dC, dI) vwCl [kx_5 h0 g_row m_n m_slots m_thrown g_many g_loss g_less g_voteValue g_voteNumber g_allValue g_allNumber m_allMany g_nodeL g_nodeR m_nodes g_part m_partMany g_wasMany g_wasLoss g_wasValue g_wasNumber g_path m_pathMany g_heavyValue g_heavyTimes m_heavyMany g_fewest g_which g_met m_mostMet, kx_a g_allValue cyI 12 kv, kx_a g_allNumber cyI 12 kn] H → va_D A [kx_5 h0 g_row m_n m_slots m_thrown g_many g_loss g_less g_voteValue g_voteNumber g_allValue g_allNumber m_allMany g_nodeL g_nodeR m_nodes g_part m_partMany g_wasMany g_wasLoss g_wasValue g_wasNumber g_path m_pathMany g_heavyValue g_heavyTimes m_heavyMany g_fewest g_which g_met m_mostMet, kx_a g_allValue cyI 12 kv, kx_a g_allNumber cyI 12 kn] → va_S A s.heap H locs → ∀ (ls : Array Slot), lv_has ls 4 [(2, .int k), (1, .int i), (0, .ref h0)] → W p l e (headSpec wsX5_sorts ({ frames := 1, cells := 0, slots := 0, locals := 45 })).room s m ([.ref h0] : List Value).toArray below meth c H locs 0 0 (MQ below (va_Qv (fun u : (Nat → Int32) × (Nat → Int32) => mj_srt u.1 u.2 0 m_allMany.toNatClampNeg ∧ ∀ mu : Int32 → Int, mj_vs av an 0 m_allMany.toNatClampNeg mu → mj_vs u.1 u.2 0 m_allMany.toNatClampNeg mu) (fun (u : (Nat → Int32) × (Nat → Int32)) (t : State) => va_P (dC, dI) vwCl [kx_5 h0 g_row m_n m_slots m_thrown g_many g_loss g_less g_voteValue g_voteNumber g_allValue g_allNumber m_allMany g_nodeL g_nodeR m_nodes g_part m_partMany g_wasMany g_wasLoss g_wasValue g_wasNumber g_path m_pathMany g_heavyValue g_heavyTimes m_heavyMany g_fewest g_which g_met m_mostMet, kx_a g_allValue cyI 12 u.1, kx_a g_allNumber cyI 12 u.2] t.heap ∧ va_K (dC, dI) vwCl [(cyI, .int)] t ∧ va_D A [kx_5 h0 g_row m_n m_slots m_thrown g_many g_loss g_less g_voteValue g_voteNumber g_allValue g_allNumber m_allMany g_nodeL g_nodeR m_nodes g_part m_partMany g_wasMany g_wasLoss g_wasValue g_wasNumber g_path m_pathMany g_heavyValue g_heavyTimes m_heavyMany g_fewest g_which g_met m_mostMet, kx_a g_allValue cyI 12 u.1, kx_a g_allNumber cyI 12 u.2]) A) ([.ref h0] : List Value).toArray s 0 0 A) (F0 m 14 ls []) := by
          intro n
          induction n with
          | zero => intro k kv kn LP2_h0 LP2_h1 LP2_h2 LP2_h3 hn; exact absurd hn (Nat.not_lt_zero _)
          | succ n ih2 =>
            intro k kv kn LP2_h0 LP2_h1 LP2_h2 LP2_h3 hn2 H locs hP hD hS ls hl
            have n_k := ki_nat k rfl (om_18 LP1_h0 LP2_h0)
            refine lv_iload_n hx hb dX5_sorts_14 rfl (lv_at hl 0 rfl) ?_
            refine lv_aload_n hx hb dX5_sorts_15 rfl (lv_at hl 2 rfl) ?_
            refine va_get (D := (dC, dI)) (ci := 5) (v := .int m_allMany) (C := RX5) (T := TX5) (N := 30) hx hb hts hi_5 hown hK hP 0 rfl rfl 11 (by decide) hf_87 (fun _ h9 => h9) rfl dX5_sorts_16 ?_
            refine lv_icmp_ge (tgt := 92) hx hb dX5_sorts_19 (by decide) (fun c_3 => ?_) (fun c_3 => ?_)
            · have i_3 : m_allMany.toInt ≤ k.toInt := kc_le c_3
              obtain ⟨x_4, ex_4⟩ : ∃ y : Int32, y = i + 1 := ⟨_, rfl⟩
              have i_4 : x_4.toInt = i.toInt + 1 := ki_add ex_4 rfl rfl (om_10 LP1_h0) (om_28 LP1_h1)
              refine lv_iinc (v := x_4) (lv' := [(1, .int x_4), (2, .int k), (0, .ref h0)]) hx hb dX5_sorts_92 hl (k := 1) rfl (by rw [ex_4]; rfl) (by decide) rfl (fun ls hl => ?_)
              refine lv_goto (tgt := 2) hx hb dX5_sorts_95 (by decide) ?_
              have n_5 := ki_nat x_4 rfl (om_31 LP1_h0 i_4)
              exact ih1 x_4 kv kn (om_31 LP1_h0 i_4) (om_201 b1 i_1 i_4) (by rw [show x_4.toNatClampNeg = i.toNatClampNeg + 1 by omega]; exact mj_so_next LP2_h2 (by omega)) LP2_h3 (om_mu hn1 (om_5 i_4) (om_6 i_1)) _ _ hP hD hS ls (lv_sub hl [0, 2] rfl)
            · have i_3 : k.toInt < m_allMany.toInt := kc_nle c_3
              refine lv_aload_n hx hb dX5_sorts_22 rfl (lv_at hl 2 rfl) ?_
              refine lv_iload_n hx hb dX5_sorts_23 rfl (lv_at hl 0 rfl) ?_
              refine lv_iload_n hx hb dX5_sorts_24 rfl (lv_at hl 1 rfl) ?_
              have hPc := hP
              have hKc := hK
              refine vp_callSi (W.runV (As := [.int k, .int i]) (rest := []) ⟨hx, hb, hml, hown, hts⟩ (c_X5_isAhead l dC dI h0 g_row g_many g_loss g_less g_voteValue g_voteNumber g_allValue g_allNumber g_nodeL g_nodeR g_part g_wasMany g_wasLoss g_wasValue g_wasNumber g_path g_heavyValue g_heavyTimes g_fewest g_which g_met m_n m_slots m_thrown m_allMany m_nodes m_partMany m_pathMany m_heavyMany m_mostMet cyI kv kn k i (om_18 LP1_h0 LP2_h0) (om_51 b1 i_3) LP1_h0 (om_202 b1 LP1_h1 LP2_h0 i_3)) (cwV 2 hts gX5_sorts_X5_isAhead rfl rfl rfl (by decide +kernel) ⟨Nat.le_of_ble_eq_true rfl, Nat.le_of_ble_eq_true rfl⟩) ⟨fun a U g mk q => by obtain ⟨q0, qP, qK⟩ := q; exact ⟨q0, qP, va_K.moved (u := U) (U := U.calling g mk a) (Vm.Alike.refl U.vm) qK⟩, va_recv hKc hPc (ci := 5) (q0 := 0) rfl rfl, fun U hU hW => ⟨rfl, by rw [hU]; exact hPc, va_K.moved hW.alike hKc⟩⟩ rfl rfl hl.1 rfl (lv_room (Nat.le_of_ble_eq_true rfl)) dX5_sorts_25 ⟨Nat.le_of_ble_eq_true rfl, Nat.le_of_ble_eq_true rfl⟩) (fun r_6 w_6 => ?_)
              rcases w_6 with ⟨rfl, w_6⟩ | ⟨rfl, w_6⟩
              · have w_6 : ((kn i.toNatClampNeg).toInt < (kn k.toNatClampNeg).toInt ∨ ((kn k.toNatClampNeg).toInt = (kn i.toNatClampNeg).toInt ∧ (kv k.toNatClampNeg).toInt < (kv i.toNatClampNeg).toInt)) := w_6
                refine lv_if_ne (tgt := 34) hx hb dX5_sorts_28 (by decide) (fun c_7 => ?_) (fun c_7 => ?_)
                · refine lv_aload_n hx hb dX5_sorts_34 rfl (lv_at hl 2 rfl) ?_
                  refine va_get (D := (dC, dI)) (ci := 5) (v := .ref g_allValue) (C := RX5) (T := TX5) (N := 30) hx hb hts hi_5 hown hK hP 0 rfl rfl 9 (by decide) hf_32 (fun _ h9 => h9) rfl dX5_sorts_35 ?_
                  refine lv_iload_n hx hb dX5_sorts_38 rfl (lv_at hl 1 rfl) ?_
                  refine va_iald hx hb hK hP 1 0 rfl rfl (ki_in (om_8 LP1_h0) (om_203 b1 LP1_h1 LP2_h0 i_3)) dX5_sorts_39 ?_
                  refine lv_topi (fun y_8 ey_8 => ?_)
                  have j_8 : y_8.toInt = (kv i.toNatClampNeg).toInt := congrArg Int32.toInt ey_8
                  refine lv_istore_n (lv' := [(3, .int y_8), (2, .int k), (1, .int i), (0, .ref h0)]) hx hb dX5_sorts_40 rfl hl (by decide) rfl (fun ls hl => ?_)
                  refine lv_aload_n hx hb dX5_sorts_41 rfl (lv_at hl 3 rfl) ?_
                  refine va_get (D := (dC, dI)) (ci := 5) (v := .ref g_allValue) (C := RX5) (T := TX5) (N := 30) hx hb hts hi_5 hown hK hP 0 rfl rfl 9 (by decide) hf_32 (fun _ h9 => h9) rfl dX5_sorts_42 ?_
                  refine lv_iload_n hx hb dX5_sorts_45 rfl (lv_at hl 2 rfl) ?_
                  refine lv_aload_n hx hb dX5_sorts_46 rfl (lv_at hl 3 rfl) ?_
                  refine va_get (D := (dC, dI)) (ci := 5) (v := .ref g_allValue) (C := RX5) (T := TX5) (N := 30) hx hb hts hi_5 hown hK hP 0 rfl rfl 9 (by decide) hf_32 (fun _ h9 => h9) rfl dX5_sorts_47 ?_
                  refine lv_iload_n hx hb dX5_sorts_50 rfl (lv_at hl 1 rfl) ?_
                  refine va_iald hx hb hK hP 1 0 rfl rfl (ki_in (om_18 LP1_h0 LP2_h0) (om_29 b1 i_3)) dX5_sorts_51 ?_
                  refine lv_topi (fun y_9 ey_9 => ?_)
                  have j_9 : y_9.toInt = (kv k.toNatClampNeg).toInt := congrArg Int32.toInt ey_9
                  refine va_iast hx hb hK hP hD hS 1 0 rfl rfl (ki_in (om_8 LP1_h0) (om_203 b1 LP1_h1 LP2_h0 i_3)) dX5_sorts_52 (fun H locs hP hD hS => ?_)
                  have hP : va_P (dC, dI) vwCl [kx_5 h0 g_row m_n m_slots m_thrown g_many g_loss g_less g_voteValue g_voteNumber g_allValue g_allNumber m_allMany g_nodeL g_nodeR m_nodes g_part m_partMany g_wasMany g_wasLoss g_wasValue g_wasNumber g_path m_pathMany g_heavyValue g_heavyTimes m_heavyMany g_fewest g_which g_met m_mostMet, kx_a g_allValue cyI 12 (upd kv i.toNatClampNeg y_9), kx_a g_allNumber cyI 12 kn] H := hP
                  have hD : va_D A [kx_5 h0 g_row m_n m_slots m_thrown g_many g_loss g_less g_voteValue g_voteNumber g_allValue g_allNumber m_allMany g_nodeL g_nodeR m_nodes g_part m_partMany g_wasMany g_wasLoss g_wasValue g_wasNumber g_path m_pathMany g_heavyValue g_heavyTimes m_heavyMany g_fewest g_which g_met m_mostMet, kx_a g_allValue cyI 12 (upd kv i.toNatClampNeg y_9), kx_a g_allNumber cyI 12 kn] := hD
                  refine lv_aload_n hx hb dX5_sorts_53 rfl (lv_at hl 3 rfl) ?_
                  refine va_get (D := (dC, dI)) (ci := 5) (v := .ref g_allValue) (C := RX5) (T := TX5) (N := 30) hx hb hts hi_5 hown hK hP 0 rfl rfl 9 (by decide) hf_32 (fun _ h9 => h9) rfl dX5_sorts_54 ?_
                  refine lv_iload_n hx hb dX5_sorts_57 rfl (lv_at hl 1 rfl) ?_
                  refine lv_iload_n hx hb dX5_sorts_58 rfl (lv_at hl 0 rfl) ?_
                  refine va_iast hx hb hK hP hD hS 1 0 rfl rfl (ki_in (om_18 LP1_h0 LP2_h0) (om_29 b1 i_3)) dX5_sorts_59 (fun H locs hP hD hS => ?_)
                  have hP : va_P (dC, dI) vwCl [kx_5 h0 g_row m_n m_slots m_thrown g_many g_loss g_less g_voteValue g_voteNumber g_allValue g_allNumber m_allMany g_nodeL g_nodeR m_nodes g_part m_partMany g_wasMany g_wasLoss g_wasValue g_wasNumber g_path m_pathMany g_heavyValue g_heavyTimes m_heavyMany g_fewest g_which g_met m_mostMet, kx_a g_allValue cyI 12 (upd (upd kv i.toNatClampNeg y_9) k.toNatClampNeg y_8), kx_a g_allNumber cyI 12 kn] H := hP
                  have hD : va_D A [kx_5 h0 g_row m_n m_slots m_thrown g_many g_loss g_less g_voteValue g_voteNumber g_allValue g_allNumber m_allMany g_nodeL g_nodeR m_nodes g_part m_partMany g_wasMany g_wasLoss g_wasValue g_wasNumber g_path m_pathMany g_heavyValue g_heavyTimes m_heavyMany g_fewest g_which g_met m_mostMet, kx_a g_allValue cyI 12 (upd (upd kv i.toNatClampNeg y_9) k.toNatClampNeg y_8), kx_a g_allNumber cyI 12 kn] := hD
                  refine lv_aload_n hx hb dX5_sorts_60 rfl (lv_at hl 3 rfl) ?_
                  refine va_get (D := (dC, dI)) (ci := 5) (v := .ref g_allNumber) (C := RX5) (T := TX5) (N := 30) hx hb hts hi_5 hown hK hP 0 rfl rfl 10 (by decide) hf_35 (fun _ h9 => h9) rfl dX5_sorts_61 ?_
                  refine lv_iload_n hx hb dX5_sorts_64 rfl (lv_at hl 2 rfl) ?_
                  refine va_iald hx hb hK hP 2 0 rfl rfl (ki_in (om_8 LP1_h0) (om_203 b1 LP1_h1 LP2_h0 i_3)) dX5_sorts_65 ?_
                  refine lv_topi (fun y_10 ey_10 => ?_)
                  have j_10 : y_10.toInt = (kn i.toNatClampNeg).toInt := congrArg Int32.toInt ey_10
                  refine lv_istore_n (lv' := [(3, .int y_10), (2, .int k), (1, .int i), (0, .ref h0)]) hx hb dX5_sorts_66 rfl hl (by decide) rfl (fun ls hl => ?_)
                  refine lv_aload_n hx hb dX5_sorts_67 rfl (lv_at hl 3 rfl) ?_
                  refine va_get (D := (dC, dI)) (ci := 5) (v := .ref g_allNumber) (C := RX5) (T := TX5) (N := 30) hx hb hts hi_5 hown hK hP 0 rfl rfl 10 (by decide) hf_35 (fun _ h9 => h9) rfl dX5_sorts_68 ?_
                  refine lv_iload_n hx hb dX5_sorts_71 rfl (lv_at hl 2 rfl) ?_
                  refine lv_aload_n hx hb dX5_sorts_72 rfl (lv_at hl 3 rfl) ?_
                  refine va_get (D := (dC, dI)) (ci := 5) (v := .ref g_allNumber) (C := RX5) (T := TX5) (N := 30) hx hb hts hi_5 hown hK hP 0 rfl rfl 10 (by decide) hf_35 (fun _ h9 => h9) rfl dX5_sorts_73 ?_
                  refine lv_iload_n hx hb dX5_sorts_76 rfl (lv_at hl 1 rfl) ?_
                  refine va_iald hx hb hK hP 2 0 rfl rfl (ki_in (om_18 LP1_h0 LP2_h0) (om_29 b1 i_3)) dX5_sorts_77 ?_
                  refine lv_topi (fun y_11 ey_11 => ?_)
                  have j_11 : y_11.toInt = (kn k.toNatClampNeg).toInt := congrArg Int32.toInt ey_11
                  refine va_iast hx hb hK hP hD hS 2 0 rfl rfl (ki_in (om_8 LP1_h0) (om_203 b1 LP1_h1 LP2_h0 i_3)) dX5_sorts_78 (fun H locs hP hD hS => ?_)
                  have hP : va_P (dC, dI) vwCl [kx_5 h0 g_row m_n m_slots m_thrown g_many g_loss g_less g_voteValue g_voteNumber g_allValue g_allNumber m_allMany g_nodeL g_nodeR m_nodes g_part m_partMany g_wasMany g_wasLoss g_wasValue g_wasNumber g_path m_pathMany g_heavyValue g_heavyTimes m_heavyMany g_fewest g_which g_met m_mostMet, kx_a g_allValue cyI 12 (upd (upd kv i.toNatClampNeg y_9) k.toNatClampNeg y_8), kx_a g_allNumber cyI 12 (upd kn i.toNatClampNeg y_11)] H := hP
                  have hD : va_D A [kx_5 h0 g_row m_n m_slots m_thrown g_many g_loss g_less g_voteValue g_voteNumber g_allValue g_allNumber m_allMany g_nodeL g_nodeR m_nodes g_part m_partMany g_wasMany g_wasLoss g_wasValue g_wasNumber g_path m_pathMany g_heavyValue g_heavyTimes m_heavyMany g_fewest g_which g_met m_mostMet, kx_a g_allValue cyI 12 (upd (upd kv i.toNatClampNeg y_9) k.toNatClampNeg y_8), kx_a g_allNumber cyI 12 (upd kn i.toNatClampNeg y_11)] := hD
                  refine lv_aload_n hx hb dX5_sorts_79 rfl (lv_at hl 3 rfl) ?_
                  refine va_get (D := (dC, dI)) (ci := 5) (v := .ref g_allNumber) (C := RX5) (T := TX5) (N := 30) hx hb hts hi_5 hown hK hP 0 rfl rfl 10 (by decide) hf_35 (fun _ h9 => h9) rfl dX5_sorts_80 ?_
                  refine lv_iload_n hx hb dX5_sorts_83 rfl (lv_at hl 1 rfl) ?_
                  refine lv_iload_n hx hb dX5_sorts_84 rfl (lv_at hl 0 rfl) ?_
                  refine va_iast hx hb hK hP hD hS 2 0 rfl rfl (ki_in (om_18 LP1_h0 LP2_h0) (om_29 b1 i_3)) dX5_sorts_85 (fun H locs hP hD hS => ?_)
                  have hP : va_P (dC, dI) vwCl [kx_5 h0 g_row m_n m_slots m_thrown g_many g_loss g_less g_voteValue g_voteNumber g_allValue g_allNumber m_allMany g_nodeL g_nodeR m_nodes g_part m_partMany g_wasMany g_wasLoss g_wasValue g_wasNumber g_path m_pathMany g_heavyValue g_heavyTimes m_heavyMany g_fewest g_which g_met m_mostMet, kx_a g_allValue cyI 12 (upd (upd kv i.toNatClampNeg y_9) k.toNatClampNeg y_8), kx_a g_allNumber cyI 12 (upd (upd kn i.toNatClampNeg y_11) k.toNatClampNeg y_10)] H := hP
                  have hD : va_D A [kx_5 h0 g_row m_n m_slots m_thrown g_many g_loss g_less g_voteValue g_voteNumber g_allValue g_allNumber m_allMany g_nodeL g_nodeR m_nodes g_part m_partMany g_wasMany g_wasLoss g_wasValue g_wasNumber g_path m_pathMany g_heavyValue g_heavyTimes m_heavyMany g_fewest g_which g_met m_mostMet, kx_a g_allValue cyI 12 (upd (upd kv i.toNatClampNeg y_9) k.toNatClampNeg y_8), kx_a g_allNumber cyI 12 (upd (upd kn i.toNatClampNeg y_11) k.toNatClampNeg y_10)] := hD
                  obtain ⟨x_12, ex_12⟩ : ∃ y : Int32, y = k + 1 := ⟨_, rfl⟩
                  have i_12 : x_12.toInt = k.toInt + 1 := ki_add ex_12 rfl rfl (om_204 LP1_h0 LP2_h0) (om_205 LP2_h1)
                  refine lv_iinc (v := x_12) (lv' := [(2, .int x_12), (3, .int y_10), (1, .int i), (0, .ref h0)]) hx hb dX5_sorts_86 hl (k := 1) rfl (by rw [ex_12]; rfl) (by decide) rfl (fun ls hl => ?_)
                  refine lv_goto (tgt := 14) hx hb dX5_sorts_89 (by decide) ?_
                  have n_13 := ki_nat x_12 rfl (om_208 LP1_h0 LP2_h0 i_12)
                  exact ih2 x_12 (upd (upd kv i.toNatClampNeg y_9) k.toNatClampNeg y_8) (upd (upd kn i.toNatClampNeg y_11) k.toNatClampNeg y_10) (om_206 LP2_h0 i_12) (om_207 b1 LP2_h1 i_3 i_12) (by rw [ey_9, ey_8, ey_11, ey_10, show x_12.toNatClampNeg = k.toNatClampNeg + 1 by omega]; exact (show mj_so (mj_ex kv i.toNatClampNeg k.toNatClampNeg) (mj_ex kn i.toNatClampNeg k.toNatClampNeg) m_allMany.toNatClampNeg i.toNatClampNeg (k.toNatClampNeg + 1) from mj_so_swap (by omega) (by omega) LP2_h2 (by unfold mj_lea; omega))) (fun mu h => (by rw [ey_9, ey_8, ey_11, ey_10]; exact (show mj_vs (mj_ex kv i.toNatClampNeg k.toNatClampNeg) (mj_ex kn i.toNatClampNeg k.toNatClampNeg) 0 m_allMany.toNatClampNeg mu from mj_vs_ex (by omega) (by omega) (LP2_h3 mu h)))) (om_mu hn2 (om_5 i_12) (om_6 i_3)) _ _ hP hD hS ls (lv_sub hl [0, 2, 3] rfl)
                · exact absurd c_7 (by decide)
              · have w_6 : ((kn k.toNatClampNeg).toInt < (kn i.toNatClampNeg).toInt ∨ ((kn k.toNatClampNeg).toInt = (kn i.toNatClampNeg).toInt ∧ (kv i.toNatClampNeg).toInt ≤ (kv k.toNatClampNeg).toInt)) := w_6
                refine lv_if_ne (tgt := 34) hx hb dX5_sorts_28 (by decide) (fun c_14 => ?_) (fun c_14 => ?_)
                · exact absurd c_14 (by decide)
                · refine lv_goto (tgt := 86) hx hb dX5_sorts_31 (by decide) ?_
                  obtain ⟨x_15, ex_15⟩ : ∃ y : Int32, y = k + 1 := ⟨_, rfl⟩
                  have i_15 : x_15.toInt = k.toInt + 1 := ki_add ex_15 rfl rfl (om_204 LP1_h0 LP2_h0) (om_205 LP2_h1)
                  refine lv_iinc (v := x_15) (lv' := [(2, .int x_15), (1, .int i), (0, .ref h0)]) hx hb dX5_sorts_86 hl (k := 0) rfl (by rw [ex_15]; rfl) (by decide) rfl (fun ls hl => ?_)
                  refine lv_goto (tgt := 14) hx hb dX5_sorts_89 (by decide) ?_
                  have n_16 := ki_nat x_15 rfl (om_208 LP1_h0 LP2_h0 i_15)
                  exact ih2 x_15 kv kn (om_206 LP2_h0 i_15) (om_207 b1 LP2_h1 i_3 i_15) (by rw [show x_15.toNatClampNeg = k.toNatClampNeg + 1 by omega]; exact mj_so_keep LP2_h2 (by unfold mj_lea; omega)) LP2_h3 (om_mu hn2 (om_5 i_15) (om_6 i_3)) _ _ hP hD hS ls (lv_sub hl [0, 1, 2] rfl)
        have n_17 := ki_nat y_2 rfl (by omega)
        exact LP2 ((m_allMany.toInt - y_2.toInt : Int).toNat + 1) y_2 gv gn (om_209 i_2) (om_210 LP1_h1 i_2) (by rw [show y_2.toNatClampNeg = i.toNatClampNeg + 1 by omega]; exact LP1_h2) LP1_h3 (Nat.lt_succ_self _) _ _ hP hD hS ls (lv_sub hl [0, 1, 2] rfl)
  have k_18 : (0 : Int32).toInt = 0 := rfl
  exact LP1 ((m_allMany.toInt - 0 : Int).toNat + 1) 0 av an om_32 om_81 (mj_so_0 _ _ rfl (Nat.le_refl _)) (fun mu h => h) (Nat.lt_succ_self _) _ _ hP hD hS ls (lv_sub hl [0, 1] rfl)


