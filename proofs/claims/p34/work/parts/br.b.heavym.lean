set_option maxHeartbeats 4000000 in
set_option maxRecDepth 100000 in
theorem c_X5_comes_x (l : Launch) (dC : Nat → ClassId) (dI : Nat → Nat → Nat) (h0 : Nat) (g_row : Nat) (g_many : Nat) (g_loss : Nat) (g_less : Nat) (g_voteValue : Nat) (g_voteNumber : Nat) (g_allValue : Nat) (g_allNumber : Nat) (g_nodeL : Nat) (g_nodeR : Nat) (g_part : Nat) (g_wasMany : Nat) (g_wasLoss : Nat) (g_wasValue : Nat) (g_wasNumber : Nat) (g_path : Nat) (g_heavyValue : Nat) (g_heavyTimes : Nat) (g_fewest : Nat) (g_which : Nat) (g_met : Nat) (m_n : Int32) (m_slots : Int32) (m_thrown : Int32) (m_allMany : Int32) (m_nodes : Int32) (m_partMany : Int32) (m_pathMany : Int32) (m_heavyMany : Int32) (m_mostMet : Int32) (cyI : ClassId) (zv : Nat → Int32) (zt : Nat → Int32) (mu : Int32 → Int) (p0 : Int32) (p1 : Int32) (sz : Nat) (b0 : 0 ≤ m_heavyMany.toInt) (b1 : m_heavyMany.toInt < 160) (va : mj_vs zv zt 0 m_heavyMany.toNatClampNeg mu) (sr : mj_srt zv zt 0 m_heavyMany.toNatClampNeg) (nw : ∀ k : Nat, k < m_heavyMany.toNatClampNeg → ¬ zv k = p0) (ps : 0 < p1.toInt) : kx_MQ l (dC, dI) yX5_comes wsX5_comes ({ frames := 0, cells := 0, slots := 0, locals := 0 }) [.ref h0, .int p0, .int p1] [kx_5 h0 g_row m_n m_slots m_thrown g_many g_loss g_less g_voteValue g_voteNumber g_allValue g_allNumber m_allMany g_nodeL g_nodeR m_nodes g_part m_partMany g_wasMany g_wasLoss g_wasValue g_wasNumber g_path m_pathMany g_heavyValue g_heavyTimes m_heavyMany g_fewest g_which g_met m_mostMet, kx_a g_heavyValue cyI 160 zv, kx_a g_heavyTimes cyI 160 zt] [(cyI, .int)] sz (fun A => va_Qv (fun u : Int32 × (Nat → Int32) × (Nat → Int32) => u.1.toInt = m_heavyMany.toInt + 1 ∧ mj_vs u.2.1 u.2.2 0 u.1.toNatClampNeg (fun w => mu w + (if w = p0 then p1.toInt else 0)) ∧ mj_srt u.2.1 u.2.2 0 u.1.toNatClampNeg) (fun (u : Int32 × (Nat → Int32) × (Nat → Int32)) (t : State) => va_P (dC, dI) vwCl [kx_5 h0 g_row m_n m_slots m_thrown g_many g_loss g_less g_voteValue g_voteNumber g_allValue g_allNumber m_allMany g_nodeL g_nodeR m_nodes g_part m_partMany g_wasMany g_wasLoss g_wasValue g_wasNumber g_path m_pathMany g_heavyValue g_heavyTimes u.1 g_fewest g_which g_met m_mostMet, kx_a g_heavyValue cyI 160 u.2.1, kx_a g_heavyTimes cyI 160 u.2.2] t.heap ∧ va_K (dC, dI) vwCl [(cyI, .int)] t ∧ va_D A [kx_5 h0 g_row m_n m_slots m_thrown g_many g_loss g_less g_voteValue g_voteNumber g_allValue g_allNumber m_allMany g_nodeL g_nodeR m_nodes g_part m_partMany g_wasMany g_wasLoss g_wasValue g_wasNumber g_path m_pathMany g_heavyValue g_heavyTimes u.1 g_fewest g_which g_met m_mostMet, kx_a g_heavyValue cyI 160 u.2.1, kx_a g_heavyTimes cyI 160 u.2.2]) A) := by
  refine kx_stQ (ws := wsX5_comes) (cc := cX5_comes) (maxL := 4) (ret := none) (by decide) rfl (Nat.le_of_ble_eq_true rfl) ?_
  intro p e s m below meth c A ls hx hb hr hlocks hts hown hml hA hS hP hK hD hl
  have hown : s.vm.findClass RX5 = some m.cls := hown
  have hl : lv_has ls 4 [(0, .ref h0), (1, .int p0), (2, .int p1)] := hl
  have hf_178 := hts (.fieldLink RX5 178 "MajorityIndexModel" "heavyMany" "I") (List.mem_of_getElem? (i := 1) rfl)
  have hi_5 : ∀ w ∈ u_ws RX5 TX5 30, w ∈ wsX5_comes := fun w h => List.mem_cons_of_mem _ (List.mem_append_right _ h)
  have hf_62 := hts (.fieldLink RX5 62 "MajorityIndexModel" "heavyValue" "[I") (List.mem_of_getElem? (i := 3) rfl)
  have hf_65 := hts (.fieldLink RX5 65 "MajorityIndexModel" "heavyTimes" "[I") (List.mem_of_getElem? (i := 2) rfl)
  have n_hm := ki_nat m_heavyMany rfl (om_10 b0)
  refine lv_aload_n hx hb dX5_comes_0 rfl (lv_at hl 0 rfl) ?_
  refine va_get (D := (dC, dI)) (ci := 5) (v := .int m_heavyMany) (C := RX5) (T := TX5) (N := 30) hx hb hts hi_5 hown hK hP 0 rfl rfl 25 (by decide) hf_178 (fun _ h9 => h9) rfl dX5_comes_1 ?_
  refine lv_istore_n (lv' := [(3, .int m_heavyMany), (0, .ref h0), (1, .int p0), (2, .int p1)]) hx hb dX5_comes_4 rfl hl (by decide) rfl (fun ls hl => ?_)
  have LP1 : ∀ (n : Nat) (at9 : Int32) (jv : Nat → Int32) (jt : Nat → Int32), (0 ≤ at9.toInt) → (at9.toInt ≤ m_heavyMany.toInt) → (mj_sh zv jv at9.toNatClampNeg m_heavyMany.toNatClampNeg) → (mj_sh zt jt at9.toNatClampNeg m_heavyMany.toNatClampNeg) → (∀ j : Nat, at9.toNatClampNeg ≤ j → j < m_heavyMany.toNatClampNeg → (zt j).toInt < p1.toInt ∨ (p1.toInt = (zt j).toInt ∧ p0.toInt ≤ (zv j).toInt)) → (at9.toInt).toNat < n → ∀ (H : Heap) (locs : List Loc), va_P (dC, dI) vwCl [kx_5 h0 g_row m_n m_slots m_thrown g_many g_loss g_less g_voteValue g_voteNumber g_allValue g_allNumber m_allMany g_nodeL g_nodeR m_nodes g_part m_partMany g_wasMany g_wasLoss g_wasValue g_wasNumber g_path m_pathMany g_heavyValue g_heavyTimes m_heavyMany g_fewest g_which g_met m_mostMet, kx_a g_heavyValue cyI 160 jv, kx_a g_heavyTimes cyI 160 jt] H → va_D A [kx_5 h0 g_row m_n m_slots m_thrown g_many g_loss g_less g_voteValue g_voteNumber g_allValue g_allNumber m_allMany g_nodeL g_nodeR m_nodes g_part m_partMany g_wasMany g_wasLoss g_wasValue g_wasNumber g_path m_pathMany g_heavyValue g_heavyTimes m_heavyMany g_fewest g_which g_met m_mostMet, kx_a g_heavyValue cyI 160 jv, kx_a g_heavyTimes cyI 160 jt] → va_S A s.heap H locs → ∀ (ls : Array Slot), lv_has ls 4 [(3, .int at9), (0, .ref h0), (1, .int p0), (2, .int p1)] → W p l e (headSpec wsX5_comes ({ frames := 0, cells := 0, slots := 0, locals := 0 })).room s m ([.ref h0, .int p0, .int p1] : List Value).toArray below meth c H locs 0 0 (MQ below (va_Qv (fun u : Int32 × (Nat → Int32) × (Nat → Int32) => u.1.toInt = m_heavyMany.toInt + 1 ∧ mj_vs u.2.1 u.2.2 0 u.1.toNatClampNeg (fun w => mu w + (if w = p0 then p1.toInt else 0)) ∧ mj_srt u.2.1 u.2.2 0 u.1.toNatClampNeg) (fun (u : Int32 × (Nat → Int32) × (Nat → Int32)) (t : State) => va_P (dC, dI) vwCl [kx_5 h0 g_row m_n m_slots m_thrown g_many g_loss g_less g_voteValue g_voteNumber g_allValue g_allNumber m_allMany g_nodeL g_nodeR m_nodes g_part m_partMany g_wasMany g_wasLoss g_wasValue g_wasNumber g_path m_pathMany g_heavyValue g_heavyTimes u.1 g_fewest g_which g_met m_mostMet, kx_a g_heavyValue cyI 160 u.2.1, kx_a g_heavyTimes cyI 160 u.2.2] t.heap ∧ va_K (dC, dI) vwCl [(cyI, .int)] t ∧ va_D A [kx_5 h0 g_row m_n m_slots m_thrown g_many g_loss g_less g_voteValue g_voteNumber g_allValue g_allNumber m_allMany g_nodeL g_nodeR m_nodes g_part m_partMany g_wasMany g_wasLoss g_wasValue g_wasNumber g_path m_pathMany g_heavyValue g_heavyTimes u.1 g_fewest g_which g_met m_mostMet, kx_a g_heavyValue cyI 160 u.2.1, kx_a g_heavyTimes cyI 160 u.2.2]) A) ([.ref h0, .int p0, .int p1] : List Value).toArray s 0 0 A) (F0 m 5 ls []) := by
    intro n
    induction n with
    | zero => intro at9 jv jt LP1_h0 LP1_h1 LP1_h2 LP1_h3 LP1_h4 hn; exact absurd hn (Nat.not_lt_zero _)
    | succ n ih1 =>
      intro at9 jv jt LP1_h0 LP1_h1 LP1_h2 LP1_h3 LP1_h4 hn1 H locs hP hD hS ls hl
      have n_at := ki_nat at9 rfl (om_10 LP1_h0)
      refine lv_iload_n hx hb dX5_comes_5 rfl (lv_at hl 0 rfl) ?_
      refine lv_if_le (tgt := 79) hx hb dX5_comes_6 (by decide) (fun c_1 => ?_) (fun c_1 => ?_)
      · have i_1 : at9.toInt ≤ 0 := kc_le c_1
        refine lv_aload_n hx hb dX5_comes_79 rfl (lv_at hl 1 rfl) ?_
        refine va_get (D := (dC, dI)) (ci := 5) (v := .ref g_heavyValue) (C := RX5) (T := TX5) (N := 30) hx hb hts hi_5 hown hK hP 0 rfl rfl 23 (by decide) hf_62 (fun _ h9 => h9) rfl dX5_comes_80 ?_
        refine lv_iload_n hx hb dX5_comes_83 rfl (lv_at hl 0 rfl) ?_
        refine lv_iload_n hx hb dX5_comes_84 rfl (lv_at hl 2 rfl) ?_
        refine va_iast hx hb hK hP hD hS 1 0 rfl rfl (ki_in (om_10 LP1_h0) (om_400 i_1)) dX5_comes_85 (fun H locs hP hD hS => ?_)
        obtain ⟨hP, hD⟩ := kx_re (w2 := [kx_5 h0 g_row m_n m_slots m_thrown g_many g_loss g_less g_voteValue g_voteNumber g_allValue g_allNumber m_allMany g_nodeL g_nodeR m_nodes g_part m_partMany g_wasMany g_wasLoss g_wasValue g_wasNumber g_path m_pathMany g_heavyValue g_heavyTimes m_heavyMany g_fewest g_which g_met m_mostMet, kx_a g_heavyValue cyI 160 (upd jv at9.toNatClampNeg p0), kx_a g_heavyTimes cyI 160 jt]) hP hD rfl
        refine lv_aload_n hx hb dX5_comes_86 rfl (lv_at hl 1 rfl) ?_
        refine va_get (D := (dC, dI)) (ci := 5) (v := .ref g_heavyTimes) (C := RX5) (T := TX5) (N := 30) hx hb hts hi_5 hown hK hP 0 rfl rfl 24 (by decide) hf_65 (fun _ h9 => h9) rfl dX5_comes_87 ?_
        refine lv_iload_n hx hb dX5_comes_90 rfl (lv_at hl 0 rfl) ?_
        refine lv_iload_n hx hb dX5_comes_91 rfl (lv_at hl 3 rfl) ?_
        refine va_iast hx hb hK hP hD hS 2 0 rfl rfl (ki_in (om_10 LP1_h0) (om_400 i_1)) dX5_comes_92 (fun H locs hP hD hS => ?_)
        obtain ⟨hP, hD⟩ := kx_re (w2 := [kx_5 h0 g_row m_n m_slots m_thrown g_many g_loss g_less g_voteValue g_voteNumber g_allValue g_allNumber m_allMany g_nodeL g_nodeR m_nodes g_part m_partMany g_wasMany g_wasLoss g_wasValue g_wasNumber g_path m_pathMany g_heavyValue g_heavyTimes m_heavyMany g_fewest g_which g_met m_mostMet, kx_a g_heavyValue cyI 160 (upd jv at9.toNatClampNeg p0), kx_a g_heavyTimes cyI 160 (upd jt at9.toNatClampNeg p1)]) hP hD rfl
        refine lv_aload_n hx hb dX5_comes_93 rfl (lv_at hl 1 rfl) ?_
        refine lv_dup hx hb dX5_comes_94 rfl ?_
        refine va_get (D := (dC, dI)) (ci := 5) (v := .int m_heavyMany) (C := RX5) (T := TX5) (N := 30) hx hb hts hi_5 hown hK hP 0 rfl rfl 25 (by decide) hf_178 (fun _ h9 => h9) rfl dX5_comes_95 ?_
        refine lv_iconst (v := 1) hx hb dX5_comes_98 (by decide) ?_
        refine lv_iadd hx hb dX5_comes_99 ?_
        refine lv_topi (fun y_2 ey_2 => ?_)
        have i_2 : y_2.toInt = m_heavyMany.toInt + 1 := ki_add ey_2 rfl rfl (om_13 b0) (om_14 b1)
        refine va_put (D := (dC, dI)) (ci := 5) (v := .int y_2) (ty := .int) (C := RX5) (T := TX5) (N := 30) hx hb hts hi_5 tyX5 tyX5_ok nmX5 hown hK hP hD hS 0 rfl rfl 25 (by decide) hf_178 (fun _ h9 => h9) rfl (by decide +kernel) rfl rfl (Nat.le_of_ble_eq_true rfl) dX5_comes_100 (fun H locs hP hD hS => ?_)
        obtain ⟨hP, hD⟩ := kx_re (w2 := [kx_5 h0 g_row m_n m_slots m_thrown g_many g_loss g_less g_voteValue g_voteNumber g_allValue g_allNumber m_allMany g_nodeL g_nodeR m_nodes g_part m_partMany g_wasMany g_wasLoss g_wasValue g_wasNumber g_path m_pathMany g_heavyValue g_heavyTimes y_2 g_fewest g_which g_met m_mostMet, kx_a g_heavyValue cyI 160 (upd jv at9.toNatClampNeg p0), kx_a g_heavyTimes cyI 160 (upd jt at9.toNatClampNeg p1)]) hP hD rfl
        have hP9 := hP
        have hD9 := hD
        have hK9 := hK
        have n_3 := ki_nat y_2 rfl (om_34 b0 i_2)
        have h_e : ∀ j : Nat, j < m_heavyMany.toNatClampNeg + 1 → upd jv at9.toNatClampNeg p0 (0 + j) = mj_ins zv at9.toNatClampNeg p0 (0 + j) ∧ upd jt at9.toNatClampNeg p1 (0 + j) = mj_ins zt at9.toNatClampNeg p1 (0 + j) := fun j hj => by rw [Nat.zero_add]; exact ⟨mj_sh_ins LP1_h2 j hj, mj_sh_ins LP1_h3 j hj⟩
        have h_v := mj_vs_seg (mj_vs_ins va nw ps (a := at9.toNatClampNeg) (by omega)) h_e
        have h_s := mj_srt_seg (mj_srt_ins sr (by omega) (fun j hj => absurd hj (by omega)) LP1_h4) h_e
        exact W.vret hx hb hr (hlocks := hlocks) (fun t ht hW => ⟨⟨(y_2, (upd jv at9.toNatClampNeg p0), (upd jt at9.toNatClampNeg p1)), rfl, ⟨(by (try dsimp only); omega), (by (try dsimp only); rw [show y_2.toNatClampNeg = m_heavyMany.toNatClampNeg + 1 by omega]; exact h_v), (by (try dsimp only); rw [show y_2.toNatClampNeg = m_heavyMany.toNatClampNeg + 1 by omega]; exact h_s)⟩, by rw [ht]; exact hP9, va_K.moved hW.alike hK9, hD9⟩, hS.F ht⟩) hS.2.2 dX5_comes_103
      · have i_1 : 0 < at9.toInt := kc_nle c_1
        refine lv_aload_n hx hb dX5_comes_9 rfl (lv_at hl 1 rfl) ?_
        refine va_get (D := (dC, dI)) (ci := 5) (v := .ref g_heavyTimes) (C := RX5) (T := TX5) (N := 30) hx hb hts hi_5 hown hK hP 0 rfl rfl 24 (by decide) hf_65 (fun _ h9 => h9) rfl dX5_comes_10 ?_
        refine lv_iload_n hx hb dX5_comes_13 rfl (lv_at hl 0 rfl) ?_
        refine lv_iconst (v := 1) hx hb dX5_comes_14 (by decide) ?_
        refine lv_isub hx hb dX5_comes_15 ?_
        refine lv_topi (fun y_4 ey_4 => ?_)
        have i_4 : y_4.toInt = at9.toInt - 1 := ki_sub ey_4 rfl rfl (om_42 i_1) (om_18 b1 LP1_h1)
        have q_15 : y_4.toNatClampNeg + 1 = at9.toNatClampNeg := by have := ki_nat y_4 rfl (by omega); omega
        refine va_iald hx hb hK hP 2 0 rfl rfl (ki_in (om_45 i_1 i_4) (om_20 b1 LP1_h1 i_4)) dX5_comes_16 ?_
        refine lv_topi (fun y_5 ey_5 => ?_)
        have j_5 : y_5.toInt = (jt y_4.toNatClampNeg).toInt := congrArg Int32.toInt ey_5
        refine lv_iload_n hx hb dX5_comes_17 rfl (lv_at hl 3 rfl) ?_
        refine lv_icmp_lt (tgt := 45) hx hb dX5_comes_18 (by decide) (fun c_6 => ?_) (fun c_6 => ?_)
        · have i_6 : y_5.toInt < p1.toInt := kc_lt c_6
          refine lv_aload_n hx hb dX5_comes_45 rfl (lv_at hl 1 rfl) ?_
          refine va_get (D := (dC, dI)) (ci := 5) (v := .ref g_heavyValue) (C := RX5) (T := TX5) (N := 30) hx hb hts hi_5 hown hK hP 0 rfl rfl 23 (by decide) hf_62 (fun _ h9 => h9) rfl dX5_comes_46 ?_
          refine lv_iload_n hx hb dX5_comes_49 rfl (lv_at hl 0 rfl) ?_
          refine lv_aload_n hx hb dX5_comes_50 rfl (lv_at hl 1 rfl) ?_
          refine va_get (D := (dC, dI)) (ci := 5) (v := .ref g_heavyValue) (C := RX5) (T := TX5) (N := 30) hx hb hts hi_5 hown hK hP 0 rfl rfl 23 (by decide) hf_62 (fun _ h9 => h9) rfl dX5_comes_51 ?_
          refine lv_iload_n hx hb dX5_comes_54 rfl (lv_at hl 0 rfl) ?_
          refine lv_iconst (v := 1) hx hb dX5_comes_55 (by decide) ?_
          refine lv_isub hx hb dX5_comes_56 ?_
          refine lv_topi (fun y_7 ey_7 => ?_)
          have i_7 : y_7.toInt = at9.toInt - 1 := ki_sub ey_7 rfl rfl (om_42 i_1) (om_18 b1 LP1_h1)
          refine va_iald hx hb hK hP 1 0 rfl rfl (ki_in (om_45 i_1 i_7) (om_20 b1 LP1_h1 i_7)) dX5_comes_57 ?_
          refine lv_topi (fun y_8 ey_8 => ?_)
          have j_8 : y_8.toInt = (jv y_7.toNatClampNeg).toInt := congrArg Int32.toInt ey_8
          refine va_iast hx hb hK hP hD hS 1 0 rfl rfl (ki_in (om_365 i_1) (om_22 b1 LP1_h1)) dX5_comes_58 (fun H locs hP hD hS => ?_)
          obtain ⟨hP, hD⟩ := kx_re (w2 := [kx_5 h0 g_row m_n m_slots m_thrown g_many g_loss g_less g_voteValue g_voteNumber g_allValue g_allNumber m_allMany g_nodeL g_nodeR m_nodes g_part m_partMany g_wasMany g_wasLoss g_wasValue g_wasNumber g_path m_pathMany g_heavyValue g_heavyTimes m_heavyMany g_fewest g_which g_met m_mostMet, kx_a g_heavyValue cyI 160 (upd jv at9.toNatClampNeg y_8), kx_a g_heavyTimes cyI 160 jt]) hP hD rfl
          refine lv_aload_n hx hb dX5_comes_59 rfl (lv_at hl 1 rfl) ?_
          refine va_get (D := (dC, dI)) (ci := 5) (v := .ref g_heavyTimes) (C := RX5) (T := TX5) (N := 30) hx hb hts hi_5 hown hK hP 0 rfl rfl 24 (by decide) hf_65 (fun _ h9 => h9) rfl dX5_comes_60 ?_
          refine lv_iload_n hx hb dX5_comes_63 rfl (lv_at hl 0 rfl) ?_
          refine lv_aload_n hx hb dX5_comes_64 rfl (lv_at hl 1 rfl) ?_
          refine va_get (D := (dC, dI)) (ci := 5) (v := .ref g_heavyTimes) (C := RX5) (T := TX5) (N := 30) hx hb hts hi_5 hown hK hP 0 rfl rfl 24 (by decide) hf_65 (fun _ h9 => h9) rfl dX5_comes_65 ?_
          refine lv_iload_n hx hb dX5_comes_68 rfl (lv_at hl 0 rfl) ?_
          refine lv_iconst (v := 1) hx hb dX5_comes_69 (by decide) ?_
          refine lv_isub hx hb dX5_comes_70 ?_
          refine lv_topi (fun y_9 ey_9 => ?_)
          have i_9 : y_9.toInt = at9.toInt - 1 := ki_sub ey_9 rfl rfl (om_42 i_1) (om_18 b1 LP1_h1)
          refine va_iald hx hb hK hP 2 0 rfl rfl (ki_in (om_45 i_1 i_9) (om_20 b1 LP1_h1 i_9)) dX5_comes_71 ?_
          refine lv_topi (fun y_10 ey_10 => ?_)
          have j_10 : y_10.toInt = (jt y_9.toNatClampNeg).toInt := congrArg Int32.toInt ey_10
          refine va_iast hx hb hK hP hD hS 2 0 rfl rfl (ki_in (om_365 i_1) (om_22 b1 LP1_h1)) dX5_comes_72 (fun H locs hP hD hS => ?_)
          obtain ⟨hP, hD⟩ := kx_re (w2 := [kx_5 h0 g_row m_n m_slots m_thrown g_many g_loss g_less g_voteValue g_voteNumber g_allValue g_allNumber m_allMany g_nodeL g_nodeR m_nodes g_part m_partMany g_wasMany g_wasLoss g_wasValue g_wasNumber g_path m_pathMany g_heavyValue g_heavyTimes m_heavyMany g_fewest g_which g_met m_mostMet, kx_a g_heavyValue cyI 160 (upd jv at9.toNatClampNeg y_8), kx_a g_heavyTimes cyI 160 (upd jt at9.toNatClampNeg y_10)]) hP hD rfl
          obtain ⟨x_11, ex_11⟩ : ∃ y : Int32, y = at9 + (-1) := ⟨_, rfl⟩
          have i_11 : x_11.toInt = at9.toInt + (-1) := ki_add ex_11 rfl rfl (om_47 i_1) (om_24 b1 LP1_h1)
          refine lv_iinc (v := x_11) (lv' := [(3, .int x_11), (0, .ref h0), (1, .int p0), (2, .int p1)]) hx hb dX5_comes_73 hl (k := 0) rfl (by rw [ex_11]; rfl) (by decide) rfl (fun ls hl => ?_)
          refine lv_goto (tgt := 5) hx hb dX5_comes_76 (by decide) ?_
          have n_12 := ki_nat x_11 rfl (om_49 i_1 i_11)
          have n_13 := ki_nat y_7 rfl (om_45 i_1 i_7)
          have n_14 := ki_nat y_9 rfl (om_45 i_1 i_9)
          have v_z := LP1_h2.1 y_4.toNatClampNeg (by omega)
          have t_z := LP1_h3.1 y_4.toNatClampNeg (by omega)
          exact ih1 x_11 (upd jv at9.toNatClampNeg y_8) (upd jt at9.toNatClampNeg y_10) (om_49 i_1 i_11) (om_26 LP1_h1 i_11) (mj_sh_step LP1_h2 (by omega) (by rw [ey_8, show y_7.toNatClampNeg = x_11.toNatClampNeg by omega])) (mj_sh_step LP1_h3 (by omega) (by rw [ey_10, show y_9.toNatClampNeg = x_11.toNatClampNeg by omega])) (fun j h1 h2 => if h9 : at9.toNatClampNeg ≤ j then LP1_h4 j h9 h2 else (by rw [show j = y_4.toNatClampNeg by omega, ← t_z, ← v_z]; omega)) (om_mu hn1 (om_27 i_11) (om_50 i_1)) _ _ hP hD hS ls (lv_sub hl [0, 1, 2, 3] rfl)
        · have i_6 : p1.toInt ≤ y_5.toInt := kc_nlt c_6
          refine lv_aload_n hx hb dX5_comes_21 rfl (lv_at hl 1 rfl) ?_
          refine va_get (D := (dC, dI)) (ci := 5) (v := .ref g_heavyTimes) (C := RX5) (T := TX5) (N := 30) hx hb hts hi_5 hown hK hP 0 rfl rfl 24 (by decide) hf_65 (fun _ h9 => h9) rfl dX5_comes_22 ?_
          refine lv_iload_n hx hb dX5_comes_25 rfl (lv_at hl 0 rfl) ?_
          refine lv_iconst (v := 1) hx hb dX5_comes_26 (by decide) ?_
          refine lv_isub hx hb dX5_comes_27 ?_
          refine lv_topi (fun y_15 ey_15 => ?_)
          have i_15 : y_15.toInt = at9.toInt - 1 := ki_sub ey_15 rfl rfl (om_42 i_1) (om_18 b1 LP1_h1)
          refine va_iald hx hb hK hP 2 0 rfl rfl (ki_in (om_45 i_1 i_15) (om_20 b1 LP1_h1 i_15)) dX5_comes_28 ?_
          refine lv_topi (fun y_16 ey_16 => ?_)
          have j_16 : y_16.toInt = (jt y_15.toNatClampNeg).toInt := congrArg Int32.toInt ey_16
          refine lv_iload_n hx hb dX5_comes_29 rfl (lv_at hl 3 rfl) ?_
          refine lv_icmp_ne (tgt := 79) hx hb dX5_comes_30 (by decide) (fun c_17 => ?_) (fun c_17 => ?_)
          · have i_17 : ¬ y_16.toInt = p1.toInt := kc_ne c_17
            refine lv_aload_n hx hb dX5_comes_79 rfl (lv_at hl 1 rfl) ?_
            refine va_get (D := (dC, dI)) (ci := 5) (v := .ref g_heavyValue) (C := RX5) (T := TX5) (N := 30) hx hb hts hi_5 hown hK hP 0 rfl rfl 23 (by decide) hf_62 (fun _ h9 => h9) rfl dX5_comes_80 ?_
            refine lv_iload_n hx hb dX5_comes_83 rfl (lv_at hl 0 rfl) ?_
            refine lv_iload_n hx hb dX5_comes_84 rfl (lv_at hl 2 rfl) ?_
            refine va_iast hx hb hK hP hD hS 1 0 rfl rfl (ki_in (om_365 i_1) (om_22 b1 LP1_h1)) dX5_comes_85 (fun H locs hP hD hS => ?_)
            obtain ⟨hP, hD⟩ := kx_re (w2 := [kx_5 h0 g_row m_n m_slots m_thrown g_many g_loss g_less g_voteValue g_voteNumber g_allValue g_allNumber m_allMany g_nodeL g_nodeR m_nodes g_part m_partMany g_wasMany g_wasLoss g_wasValue g_wasNumber g_path m_pathMany g_heavyValue g_heavyTimes m_heavyMany g_fewest g_which g_met m_mostMet, kx_a g_heavyValue cyI 160 (upd jv at9.toNatClampNeg p0), kx_a g_heavyTimes cyI 160 jt]) hP hD rfl
            refine lv_aload_n hx hb dX5_comes_86 rfl (lv_at hl 1 rfl) ?_
            refine va_get (D := (dC, dI)) (ci := 5) (v := .ref g_heavyTimes) (C := RX5) (T := TX5) (N := 30) hx hb hts hi_5 hown hK hP 0 rfl rfl 24 (by decide) hf_65 (fun _ h9 => h9) rfl dX5_comes_87 ?_
            refine lv_iload_n hx hb dX5_comes_90 rfl (lv_at hl 0 rfl) ?_
            refine lv_iload_n hx hb dX5_comes_91 rfl (lv_at hl 3 rfl) ?_
            refine va_iast hx hb hK hP hD hS 2 0 rfl rfl (ki_in (om_365 i_1) (om_22 b1 LP1_h1)) dX5_comes_92 (fun H locs hP hD hS => ?_)
            obtain ⟨hP, hD⟩ := kx_re (w2 := [kx_5 h0 g_row m_n m_slots m_thrown g_many g_loss g_less g_voteValue g_voteNumber g_allValue g_allNumber m_allMany g_nodeL g_nodeR m_nodes g_part m_partMany g_wasMany g_wasLoss g_wasValue g_wasNumber g_path m_pathMany g_heavyValue g_heavyTimes m_heavyMany g_fewest g_which g_met m_mostMet, kx_a g_heavyValue cyI 160 (upd jv at9.toNatClampNeg p0), kx_a g_heavyTimes cyI 160 (upd jt at9.toNatClampNeg p1)]) hP hD rfl
            refine lv_aload_n hx hb dX5_comes_93 rfl (lv_at hl 1 rfl) ?_
            refine lv_dup hx hb dX5_comes_94 rfl ?_
            refine va_get (D := (dC, dI)) (ci := 5) (v := .int m_heavyMany) (C := RX5) (T := TX5) (N := 30) hx hb hts hi_5 hown hK hP 0 rfl rfl 25 (by decide) hf_178 (fun _ h9 => h9) rfl dX5_comes_95 ?_
            refine lv_iconst (v := 1) hx hb dX5_comes_98 (by decide) ?_
            refine lv_iadd hx hb dX5_comes_99 ?_
            refine lv_topi (fun y_18 ey_18 => ?_)
            have i_18 : y_18.toInt = m_heavyMany.toInt + 1 := ki_add ey_18 rfl rfl (om_13 b0) (om_14 b1)
            refine va_put (D := (dC, dI)) (ci := 5) (v := .int y_18) (ty := .int) (C := RX5) (T := TX5) (N := 30) hx hb hts hi_5 tyX5 tyX5_ok nmX5 hown hK hP hD hS 0 rfl rfl 25 (by decide) hf_178 (fun _ h9 => h9) rfl (by decide +kernel) rfl rfl (Nat.le_of_ble_eq_true rfl) dX5_comes_100 (fun H locs hP hD hS => ?_)
            obtain ⟨hP, hD⟩ := kx_re (w2 := [kx_5 h0 g_row m_n m_slots m_thrown g_many g_loss g_less g_voteValue g_voteNumber g_allValue g_allNumber m_allMany g_nodeL g_nodeR m_nodes g_part m_partMany g_wasMany g_wasLoss g_wasValue g_wasNumber g_path m_pathMany g_heavyValue g_heavyTimes y_18 g_fewest g_which g_met m_mostMet, kx_a g_heavyValue cyI 160 (upd jv at9.toNatClampNeg p0), kx_a g_heavyTimes cyI 160 (upd jt at9.toNatClampNeg p1)]) hP hD rfl
            have hP9 := hP
            have hD9 := hD
            have hK9 := hK
            have n_19 := ki_nat y_18 rfl (om_34 b0 i_18)
            have v_z := LP1_h2.1 y_4.toNatClampNeg (by omega)
            have t_z := LP1_h3.1 y_4.toNatClampNeg (by omega)
            have n_20 := ki_nat y_15 rfl (om_45 i_1 i_15)
            have q_28 : y_16.toInt = (jt y_4.toNatClampNeg).toInt := by rw [ey_16, show y_15.toNatClampNeg = y_4.toNatClampNeg by omega]
            have h_e : ∀ j : Nat, j < m_heavyMany.toNatClampNeg + 1 → upd jv at9.toNatClampNeg p0 (0 + j) = mj_ins zv at9.toNatClampNeg p0 (0 + j) ∧ upd jt at9.toNatClampNeg p1 (0 + j) = mj_ins zt at9.toNatClampNeg p1 (0 + j) := fun j hj => by rw [Nat.zero_add]; exact ⟨mj_sh_ins LP1_h2 j hj, mj_sh_ins LP1_h3 j hj⟩
            have h_v := mj_vs_seg (mj_vs_ins va nw ps (a := at9.toNatClampNeg) (by omega)) h_e
            have h_s := mj_srt_seg (mj_srt_ins sr (by omega) (mj_srt_le sr (by omega) (t := y_4.toNatClampNeg) (by omega) (by rw [← t_z, ← v_z]; omega)) LP1_h4) h_e
            exact W.vret hx hb hr (hlocks := hlocks) (fun t ht hW => ⟨⟨(y_18, (upd jv at9.toNatClampNeg p0), (upd jt at9.toNatClampNeg p1)), rfl, ⟨(by (try dsimp only); omega), (by (try dsimp only); rw [show y_18.toNatClampNeg = m_heavyMany.toNatClampNeg + 1 by omega]; exact h_v), (by (try dsimp only); rw [show y_18.toNatClampNeg = m_heavyMany.toNatClampNeg + 1 by omega]; exact h_s)⟩, by rw [ht]; exact hP9, va_K.moved hW.alike hK9, hD9⟩, hS.F ht⟩) hS.2.2 dX5_comes_103
          · have i_17 : y_16.toInt = p1.toInt := kc_eq c_17
            refine lv_aload_n hx hb dX5_comes_33 rfl (lv_at hl 1 rfl) ?_
            refine va_get (D := (dC, dI)) (ci := 5) (v := .ref g_heavyValue) (C := RX5) (T := TX5) (N := 30) hx hb hts hi_5 hown hK hP 0 rfl rfl 23 (by decide) hf_62 (fun _ h9 => h9) rfl dX5_comes_34 ?_
            refine lv_iload_n hx hb dX5_comes_37 rfl (lv_at hl 0 rfl) ?_
            refine lv_iconst (v := 1) hx hb dX5_comes_38 (by decide) ?_
            refine lv_isub hx hb dX5_comes_39 ?_
            refine lv_topi (fun y_21 ey_21 => ?_)
            have i_21 : y_21.toInt = at9.toInt - 1 := ki_sub ey_21 rfl rfl (om_42 i_1) (om_18 b1 LP1_h1)
            refine va_iald hx hb hK hP 1 0 rfl rfl (ki_in (om_45 i_1 i_21) (om_20 b1 LP1_h1 i_21)) dX5_comes_40 ?_
            refine lv_topi (fun y_22 ey_22 => ?_)
            have j_22 : y_22.toInt = (jv y_21.toNatClampNeg).toInt := congrArg Int32.toInt ey_22
            refine lv_iload_n hx hb dX5_comes_41 rfl (lv_at hl 2 rfl) ?_
            refine lv_icmp_le (tgt := 79) hx hb dX5_comes_42 (by decide) (fun c_23 => ?_) (fun c_23 => ?_)
            · have i_23 : y_22.toInt ≤ p0.toInt := kc_le c_23
              refine lv_aload_n hx hb dX5_comes_79 rfl (lv_at hl 1 rfl) ?_
              refine va_get (D := (dC, dI)) (ci := 5) (v := .ref g_heavyValue) (C := RX5) (T := TX5) (N := 30) hx hb hts hi_5 hown hK hP 0 rfl rfl 23 (by decide) hf_62 (fun _ h9 => h9) rfl dX5_comes_80 ?_
              refine lv_iload_n hx hb dX5_comes_83 rfl (lv_at hl 0 rfl) ?_
              refine lv_iload_n hx hb dX5_comes_84 rfl (lv_at hl 2 rfl) ?_
              refine va_iast hx hb hK hP hD hS 1 0 rfl rfl (ki_in (om_365 i_1) (om_22 b1 LP1_h1)) dX5_comes_85 (fun H locs hP hD hS => ?_)
              obtain ⟨hP, hD⟩ := kx_re (w2 := [kx_5 h0 g_row m_n m_slots m_thrown g_many g_loss g_less g_voteValue g_voteNumber g_allValue g_allNumber m_allMany g_nodeL g_nodeR m_nodes g_part m_partMany g_wasMany g_wasLoss g_wasValue g_wasNumber g_path m_pathMany g_heavyValue g_heavyTimes m_heavyMany g_fewest g_which g_met m_mostMet, kx_a g_heavyValue cyI 160 (upd jv at9.toNatClampNeg p0), kx_a g_heavyTimes cyI 160 jt]) hP hD rfl
              refine lv_aload_n hx hb dX5_comes_86 rfl (lv_at hl 1 rfl) ?_
              refine va_get (D := (dC, dI)) (ci := 5) (v := .ref g_heavyTimes) (C := RX5) (T := TX5) (N := 30) hx hb hts hi_5 hown hK hP 0 rfl rfl 24 (by decide) hf_65 (fun _ h9 => h9) rfl dX5_comes_87 ?_
              refine lv_iload_n hx hb dX5_comes_90 rfl (lv_at hl 0 rfl) ?_
              refine lv_iload_n hx hb dX5_comes_91 rfl (lv_at hl 3 rfl) ?_
              refine va_iast hx hb hK hP hD hS 2 0 rfl rfl (ki_in (om_365 i_1) (om_22 b1 LP1_h1)) dX5_comes_92 (fun H locs hP hD hS => ?_)
              obtain ⟨hP, hD⟩ := kx_re (w2 := [kx_5 h0 g_row m_n m_slots m_thrown g_many g_loss g_less g_voteValue g_voteNumber g_allValue g_allNumber m_allMany g_nodeL g_nodeR m_nodes g_part m_partMany g_wasMany g_wasLoss g_wasValue g_wasNumber g_path m_pathMany g_heavyValue g_heavyTimes m_heavyMany g_fewest g_which g_met m_mostMet, kx_a g_heavyValue cyI 160 (upd jv at9.toNatClampNeg p0), kx_a g_heavyTimes cyI 160 (upd jt at9.toNatClampNeg p1)]) hP hD rfl
              refine lv_aload_n hx hb dX5_comes_93 rfl (lv_at hl 1 rfl) ?_
              refine lv_dup hx hb dX5_comes_94 rfl ?_
              refine va_get (D := (dC, dI)) (ci := 5) (v := .int m_heavyMany) (C := RX5) (T := TX5) (N := 30) hx hb hts hi_5 hown hK hP 0 rfl rfl 25 (by decide) hf_178 (fun _ h9 => h9) rfl dX5_comes_95 ?_
              refine lv_iconst (v := 1) hx hb dX5_comes_98 (by decide) ?_
              refine lv_iadd hx hb dX5_comes_99 ?_
              refine lv_topi (fun y_24 ey_24 => ?_)
              have i_24 : y_24.toInt = m_heavyMany.toInt + 1 := ki_add ey_24 rfl rfl (om_13 b0) (om_14 b1)
              refine va_put (D := (dC, dI)) (ci := 5) (v := .int y_24) (ty := .int) (C := RX5) (T := TX5) (N := 30) hx hb hts hi_5 tyX5 tyX5_ok nmX5 hown hK hP hD hS 0 rfl rfl 25 (by decide) hf_178 (fun _ h9 => h9) rfl (by decide +kernel) rfl rfl (Nat.le_of_ble_eq_true rfl) dX5_comes_100 (fun H locs hP hD hS => ?_)
              obtain ⟨hP, hD⟩ := kx_re (w2 := [kx_5 h0 g_row m_n m_slots m_thrown g_many g_loss g_less g_voteValue g_voteNumber g_allValue g_allNumber m_allMany g_nodeL g_nodeR m_nodes g_part m_partMany g_wasMany g_wasLoss g_wasValue g_wasNumber g_path m_pathMany g_heavyValue g_heavyTimes y_24 g_fewest g_which g_met m_mostMet, kx_a g_heavyValue cyI 160 (upd jv at9.toNatClampNeg p0), kx_a g_heavyTimes cyI 160 (upd jt at9.toNatClampNeg p1)]) hP hD rfl
              have hP9 := hP
              have hD9 := hD
              have hK9 := hK
              have n_25 := ki_nat y_24 rfl (om_34 b0 i_24)
              have v_z := LP1_h2.1 y_4.toNatClampNeg (by omega)
              have t_z := LP1_h3.1 y_4.toNatClampNeg (by omega)
              have n_26 := ki_nat y_15 rfl (om_45 i_1 i_15)
              have q_28 : y_16.toInt = (jt y_4.toNatClampNeg).toInt := by rw [ey_16, show y_15.toNatClampNeg = y_4.toNatClampNeg by omega]
              have n_27 := ki_nat y_21 rfl (om_45 i_1 i_21)
              have q_40 : y_22.toInt = (jv y_4.toNatClampNeg).toInt := by rw [ey_22, show y_21.toNatClampNeg = y_4.toNatClampNeg by omega]
              have h_e : ∀ j : Nat, j < m_heavyMany.toNatClampNeg + 1 → upd jv at9.toNatClampNeg p0 (0 + j) = mj_ins zv at9.toNatClampNeg p0 (0 + j) ∧ upd jt at9.toNatClampNeg p1 (0 + j) = mj_ins zt at9.toNatClampNeg p1 (0 + j) := fun j hj => by rw [Nat.zero_add]; exact ⟨mj_sh_ins LP1_h2 j hj, mj_sh_ins LP1_h3 j hj⟩
              have h_v := mj_vs_seg (mj_vs_ins va nw ps (a := at9.toNatClampNeg) (by omega)) h_e
              have h_s := mj_srt_seg (mj_srt_ins sr (by omega) (mj_srt_le sr (by omega) (t := y_4.toNatClampNeg) (by omega) (by rw [← t_z, ← v_z]; omega)) LP1_h4) h_e
              exact W.vret hx hb hr (hlocks := hlocks) (fun t ht hW => ⟨⟨(y_24, (upd jv at9.toNatClampNeg p0), (upd jt at9.toNatClampNeg p1)), rfl, ⟨(by (try dsimp only); omega), (by (try dsimp only); rw [show y_24.toNatClampNeg = m_heavyMany.toNatClampNeg + 1 by omega]; exact h_v), (by (try dsimp only); rw [show y_24.toNatClampNeg = m_heavyMany.toNatClampNeg + 1 by omega]; exact h_s)⟩, by rw [ht]; exact hP9, va_K.moved hW.alike hK9, hD9⟩, hS.F ht⟩) hS.2.2 dX5_comes_103
            · have i_23 : p0.toInt < y_22.toInt := kc_nle c_23
              refine lv_aload_n hx hb dX5_comes_45 rfl (lv_at hl 1 rfl) ?_
              refine va_get (D := (dC, dI)) (ci := 5) (v := .ref g_heavyValue) (C := RX5) (T := TX5) (N := 30) hx hb hts hi_5 hown hK hP 0 rfl rfl 23 (by decide) hf_62 (fun _ h9 => h9) rfl dX5_comes_46 ?_
              refine lv_iload_n hx hb dX5_comes_49 rfl (lv_at hl 0 rfl) ?_
              refine lv_aload_n hx hb dX5_comes_50 rfl (lv_at hl 1 rfl) ?_
              refine va_get (D := (dC, dI)) (ci := 5) (v := .ref g_heavyValue) (C := RX5) (T := TX5) (N := 30) hx hb hts hi_5 hown hK hP 0 rfl rfl 23 (by decide) hf_62 (fun _ h9 => h9) rfl dX5_comes_51 ?_
              refine lv_iload_n hx hb dX5_comes_54 rfl (lv_at hl 0 rfl) ?_
              refine lv_iconst (v := 1) hx hb dX5_comes_55 (by decide) ?_
              refine lv_isub hx hb dX5_comes_56 ?_
              refine lv_topi (fun y_28 ey_28 => ?_)
              have i_28 : y_28.toInt = at9.toInt - 1 := ki_sub ey_28 rfl rfl (om_42 i_1) (om_18 b1 LP1_h1)
              refine va_iald hx hb hK hP 1 0 rfl rfl (ki_in (om_45 i_1 i_28) (om_20 b1 LP1_h1 i_28)) dX5_comes_57 ?_
              refine lv_topi (fun y_29 ey_29 => ?_)
              have j_29 : y_29.toInt = (jv y_28.toNatClampNeg).toInt := congrArg Int32.toInt ey_29
              refine va_iast hx hb hK hP hD hS 1 0 rfl rfl (ki_in (om_365 i_1) (om_22 b1 LP1_h1)) dX5_comes_58 (fun H locs hP hD hS => ?_)
              obtain ⟨hP, hD⟩ := kx_re (w2 := [kx_5 h0 g_row m_n m_slots m_thrown g_many g_loss g_less g_voteValue g_voteNumber g_allValue g_allNumber m_allMany g_nodeL g_nodeR m_nodes g_part m_partMany g_wasMany g_wasLoss g_wasValue g_wasNumber g_path m_pathMany g_heavyValue g_heavyTimes m_heavyMany g_fewest g_which g_met m_mostMet, kx_a g_heavyValue cyI 160 (upd jv at9.toNatClampNeg y_29), kx_a g_heavyTimes cyI 160 jt]) hP hD rfl
              refine lv_aload_n hx hb dX5_comes_59 rfl (lv_at hl 1 rfl) ?_
              refine va_get (D := (dC, dI)) (ci := 5) (v := .ref g_heavyTimes) (C := RX5) (T := TX5) (N := 30) hx hb hts hi_5 hown hK hP 0 rfl rfl 24 (by decide) hf_65 (fun _ h9 => h9) rfl dX5_comes_60 ?_
              refine lv_iload_n hx hb dX5_comes_63 rfl (lv_at hl 0 rfl) ?_
              refine lv_aload_n hx hb dX5_comes_64 rfl (lv_at hl 1 rfl) ?_
              refine va_get (D := (dC, dI)) (ci := 5) (v := .ref g_heavyTimes) (C := RX5) (T := TX5) (N := 30) hx hb hts hi_5 hown hK hP 0 rfl rfl 24 (by decide) hf_65 (fun _ h9 => h9) rfl dX5_comes_65 ?_
              refine lv_iload_n hx hb dX5_comes_68 rfl (lv_at hl 0 rfl) ?_
              refine lv_iconst (v := 1) hx hb dX5_comes_69 (by decide) ?_
              refine lv_isub hx hb dX5_comes_70 ?_
              refine lv_topi (fun y_30 ey_30 => ?_)
              have i_30 : y_30.toInt = at9.toInt - 1 := ki_sub ey_30 rfl rfl (om_42 i_1) (om_18 b1 LP1_h1)
              refine va_iald hx hb hK hP 2 0 rfl rfl (ki_in (om_45 i_1 i_30) (om_20 b1 LP1_h1 i_30)) dX5_comes_71 ?_
              refine lv_topi (fun y_31 ey_31 => ?_)
              have j_31 : y_31.toInt = (jt y_30.toNatClampNeg).toInt := congrArg Int32.toInt ey_31
              refine va_iast hx hb hK hP hD hS 2 0 rfl rfl (ki_in (om_365 i_1) (om_22 b1 LP1_h1)) dX5_comes_72 (fun H locs hP hD hS => ?_)
              obtain ⟨hP, hD⟩ := kx_re (w2 := [kx_5 h0 g_row m_n m_slots m_thrown g_many g_loss g_less g_voteValue g_voteNumber g_allValue g_allNumber m_allMany g_nodeL g_nodeR m_nodes g_part m_partMany g_wasMany g_wasLoss g_wasValue g_wasNumber g_path m_pathMany g_heavyValue g_heavyTimes m_heavyMany g_fewest g_which g_met m_mostMet, kx_a g_heavyValue cyI 160 (upd jv at9.toNatClampNeg y_29), kx_a g_heavyTimes cyI 160 (upd jt at9.toNatClampNeg y_31)]) hP hD rfl
              obtain ⟨x_32, ex_32⟩ : ∃ y : Int32, y = at9 + (-1) := ⟨_, rfl⟩
              have i_32 : x_32.toInt = at9.toInt + (-1) := ki_add ex_32 rfl rfl (om_47 i_1) (om_24 b1 LP1_h1)
              refine lv_iinc (v := x_32) (lv' := [(3, .int x_32), (0, .ref h0), (1, .int p0), (2, .int p1)]) hx hb dX5_comes_73 hl (k := 0) rfl (by rw [ex_32]; rfl) (by decide) rfl (fun ls hl => ?_)
              refine lv_goto (tgt := 5) hx hb dX5_comes_76 (by decide) ?_
              have n_33 := ki_nat x_32 rfl (om_49 i_1 i_32)
              have n_34 := ki_nat y_28 rfl (om_45 i_1 i_28)
              have n_35 := ki_nat y_30 rfl (om_45 i_1 i_30)
              have v_z := LP1_h2.1 y_4.toNatClampNeg (by omega)
              have t_z := LP1_h3.1 y_4.toNatClampNeg (by omega)
              have n_36 := ki_nat y_15 rfl (om_45 i_1 i_15)
              have q_28 : y_16.toInt = (jt y_4.toNatClampNeg).toInt := by rw [ey_16, show y_15.toNatClampNeg = y_4.toNatClampNeg by omega]
              have n_37 := ki_nat y_21 rfl (om_45 i_1 i_21)
              have q_40 : y_22.toInt = (jv y_4.toNatClampNeg).toInt := by rw [ey_22, show y_21.toNatClampNeg = y_4.toNatClampNeg by omega]
              exact ih1 x_32 (upd jv at9.toNatClampNeg y_29) (upd jt at9.toNatClampNeg y_31) (om_49 i_1 i_32) (om_26 LP1_h1 i_32) (mj_sh_step LP1_h2 (by omega) (by rw [ey_29, show y_28.toNatClampNeg = x_32.toNatClampNeg by omega])) (mj_sh_step LP1_h3 (by omega) (by rw [ey_31, show y_30.toNatClampNeg = x_32.toNatClampNeg by omega])) (fun j h1 h2 => if h9 : at9.toNatClampNeg ≤ j then LP1_h4 j h9 h2 else (by rw [show j = y_4.toNatClampNeg by omega, ← t_z, ← v_z]; omega)) (om_mu hn1 (om_27 i_32) (om_50 i_1)) _ _ hP hD hS ls (lv_sub hl [0, 1, 2, 3] rfl)
  exact LP1 ((m_heavyMany.toInt : Int).toNat + 1) m_heavyMany zv zt (om_10 b0) om_7 (mj_sh_0 _ (Nat.le_refl _)) (mj_sh_0 _ (Nat.le_refl _)) (fun j h1 h2 => absurd h1 (by omega)) (Nat.lt_succ_self _) _ _ hP hD hS ls (lv_sub hl [0, 1, 2, 3] rfl)

set_option maxHeartbeats 4000000 in
set_option maxRecDepth 100000 in
theorem c_X5_laysHeavy_x (l : Launch) (dC : Nat → ClassId) (dI : Nat → Nat → Nat) (h0 : Nat) (g_row : Nat) (g_many : Nat) (g_loss : Nat) (g_less : Nat) (g_voteValue : Nat) (g_voteNumber : Nat) (g_allValue : Nat) (g_allNumber : Nat) (g_nodeL : Nat) (g_nodeR : Nat) (g_part : Nat) (g_wasMany : Nat) (g_wasLoss : Nat) (g_wasValue : Nat) (g_wasNumber : Nat) (g_path : Nat) (g_heavyValue : Nat) (g_heavyTimes : Nat) (g_fewest : Nat) (g_which : Nat) (g_met : Nat) (m_n : Int32) (m_slots : Int32) (m_thrown : Int32) (m_allMany : Int32) (m_nodes : Int32) (m_partMany : Int32) (m_pathMany : Int32) (m_heavyMany : Int32) (m_mostMet : Int32) (cyI : ClassId) (f : Nat → Int32) (zv : Nat → Int32) (zt : Nat → Int32) (p0 : Int32) (p1 : Int32) (p2 : Int32) (p3 : Int32) (p4 : Int32) (p5 : Int32) (sz : Nat) (b0 : 0 ≤ p0.toInt) (b1 : p0.toInt ≤ p1.toInt) (b2 : p1.toInt ≤ 160) (b3 : 0 ≤ p2.toInt) (b4 : p2.toInt ≤ p3.toInt) (b5 : p3.toInt ≤ 160) (b6 : p1.toInt - p0.toInt + p3.toInt - p2.toInt ≤ 160) (e0 : 1 ≤ p4.toInt) (e1 : p4.toInt ≤ p5.toInt) (e2 : p5.toInt ≤ 999) : kx_MQ l (dC, dI) yX5_laysHeavy wsX5_laysHeavy ({ frames := 1, cells := 0, slots := 0, locals := 45 }) [.ref h0, .int p0, .int p1, .int p2, .int p3, .int p4, .int p5] [kx_5 h0 g_row m_n m_slots m_thrown g_many g_loss g_less g_voteValue g_voteNumber g_allValue g_allNumber m_allMany g_nodeL g_nodeR m_nodes g_part m_partMany g_wasMany g_wasLoss g_wasValue g_wasNumber g_path m_pathMany g_heavyValue g_heavyTimes m_heavyMany g_fewest g_which g_met m_mostMet, kx_a g_row cyI 160 f, kx_a g_heavyValue cyI 160 zv, kx_a g_heavyTimes cyI 160 zt] [(cyI, .int)] sz (fun A => va_Qv (fun u : Int32 × (Nat → Int32) × (Nat → Int32) × Int => u.2.2.2 = p1.toInt - p0.toInt + p3.toInt - p2.toInt ∧ mj_vs u.2.1 u.2.2.1 0 u.1.toNatClampNeg (mj_hvm p4.toInt p5.toInt u.2.2.2 (fun v => (cnt f v p0.toNatClampNeg (p1.toInt - p0.toInt).toNat : Int) + (cnt f v p2.toNatClampNeg ((p3.toInt : Int) - p2.toInt).toNat : Int))) ∧ mj_srt u.2.1 u.2.2.1 0 u.1.toNatClampNeg ∧ 0 ≤ u.1.toInt ∧ u.1.toInt ≤ 160) (fun (u : Int32 × (Nat → Int32) × (Nat → Int32) × Int) (t : State) => va_P (dC, dI) vwCl [kx_5 h0 g_row m_n m_slots m_thrown g_many g_loss g_less g_voteValue g_voteNumber g_allValue g_allNumber m_allMany g_nodeL g_nodeR m_nodes g_part m_partMany g_wasMany g_wasLoss g_wasValue g_wasNumber g_path m_pathMany g_heavyValue g_heavyTimes u.1 g_fewest g_which g_met m_mostMet, kx_a g_row cyI 160 f, kx_a g_heavyValue cyI 160 u.2.1, kx_a g_heavyTimes cyI 160 u.2.2.1] t.heap ∧ va_K (dC, dI) vwCl [(cyI, .int)] t ∧ va_D A [kx_5 h0 g_row m_n m_slots m_thrown g_many g_loss g_less g_voteValue g_voteNumber g_allValue g_allNumber m_allMany g_nodeL g_nodeR m_nodes g_part m_partMany g_wasMany g_wasLoss g_wasValue g_wasNumber g_path m_pathMany g_heavyValue g_heavyTimes u.1 g_fewest g_which g_met m_mostMet, kx_a g_row cyI 160 f, kx_a g_heavyValue cyI 160 u.2.1, kx_a g_heavyTimes cyI 160 u.2.2.1]) A) := by
  refine kx_stQ (ws := wsX5_laysHeavy) (cc := cX5_laysHeavy) (maxL := 10) (ret := none) (by decide) rfl (Nat.le_of_ble_eq_true rfl) ?_
  intro p e s m below meth c A ls hx hb hr hlocks hts hown hml hA hS hP hK hD hl
  have hown : s.vm.findClass RX5 = some m.cls := hown
  have hl : lv_has ls 10 [(0, .ref h0), (1, .int p0), (2, .int p1), (3, .int p2), (4, .int p3), (5, .int p4), (6, .int p5)] := hl
  have hf_178 := hts (.fieldLink RX5 178 "MajorityIndexModel" "heavyMany" "I") (List.mem_of_getElem? (i := 1) rfl)
  have hi_5 : ∀ w ∈ u_ws RX5 TX5 30, w ∈ wsX5_laysHeavy := fun w h => List.mem_cons_of_mem _ (List.mem_append_right _ h)
  have hf_7 := hts (.fieldLink RX5 7 "MajorityIndexModel" "row" "[I") (List.mem_of_getElem? (i := 2) rfl)
  refine lv_aload_n hx hb dX5_laysHeavy_0 rfl (lv_at hl 0 rfl) ?_
  refine lv_iconst (v := 0) hx hb dX5_laysHeavy_1 (by decide) ?_
  refine va_put (D := (dC, dI)) (ci := 5) (v := .int 0) (ty := .int) (C := RX5) (T := TX5) (N := 30) hx hb hts hi_5 tyX5 tyX5_ok nmX5 hown hK hP hD hS 0 rfl rfl 25 (by decide) hf_178 (fun _ h9 => h9) rfl (by decide +kernel) rfl rfl (Nat.le_of_ble_eq_true rfl) dX5_laysHeavy_2 (fun H locs hP hD hS => ?_)
  obtain ⟨hP, hD⟩ := kx_re (w2 := [kx_5 h0 g_row m_n m_slots m_thrown g_many g_loss g_less g_voteValue g_voteNumber g_allValue g_allNumber m_allMany g_nodeL g_nodeR m_nodes g_part m_partMany g_wasMany g_wasLoss g_wasValue g_wasNumber g_path m_pathMany g_heavyValue g_heavyTimes 0 g_fewest g_which g_met m_mostMet, kx_a g_row cyI 160 f, kx_a g_heavyValue cyI 160 zv, kx_a g_heavyTimes cyI 160 zt]) hP hD rfl
  refine lv_iload_n hx hb dX5_laysHeavy_5 rfl (lv_at hl 2 rfl) ?_
  refine lv_iload_n hx hb dX5_laysHeavy_6 rfl (lv_at hl 1 rfl) ?_
  refine lv_isub hx hb dX5_laysHeavy_7 ?_
  refine lv_topi (fun y_1 ey_1 => ?_)
  have i_1 : y_1.toInt = p1.toInt - p0.toInt := ki_sub ey_1 rfl rfl (om_184 b1) (om_401 b4 b6)
  refine lv_iload hx hb dX5_laysHeavy_8 (lv_at hl 4 rfl) ?_
  refine lv_iadd hx hb dX5_laysHeavy_10 ?_
  refine lv_topi (fun y_2 ey_2 => ?_)
  have i_2 : y_2.toInt = y_1.toInt + p3.toInt := ki_add ey_2 rfl rfl (om_402 b1 b3 b4 i_1) (om_403 b4 b5 b6 i_1)
  refine lv_iload_n hx hb dX5_laysHeavy_11 rfl (lv_at hl 3 rfl) ?_
  refine lv_isub hx hb dX5_laysHeavy_12 ?_
  refine lv_topi (fun y_3 ey_3 => ?_)
  have i_3 : y_3.toInt = y_2.toInt - p2.toInt := ki_sub ey_3 rfl rfl (om_404 b1 b4 i_1 i_2) (om_405 b6 i_1 i_2)
  refine lv_istore (lv' := [(7, .int y_3), (0, .ref h0), (1, .int p0), (2, .int p1), (3, .int p2), (4, .int p3), (5, .int p4), (6, .int p5)]) hx hb dX5_laysHeavy_13 hl (by decide) rfl (fun ls hl => ?_)
  have n_p0 := ki_nat p0 rfl (om_10 b0)
  have n_p1 := ki_nat p1 rfl (om_0 b0 b1)
  have n_p2 := ki_nat p2 rfl (om_10 b3)
  have n_p3 := ki_nat p3 rfl (om_0 b3 b4)
  refine lv_iload_n hx hb dX5_laysHeavy_15 rfl (lv_at hl 2 rfl) ?_
  refine lv_istore (lv' := [(8, .int p0), (7, .int y_3), (0, .ref h0), (1, .int p0), (2, .int p1), (3, .int p2), (4, .int p3), (5, .int p4), (6, .int p5)]) hx hb dX5_laysHeavy_16 hl (by decide) rfl (fun ls hl => ?_)
  have LP1 : ∀ (n : Nat) (k : Int32) (hm : Int32) (jv : Nat → Int32) (jt : Nat → Int32), (p0.toInt ≤ k.toInt) → (k.toInt ≤ p1.toInt) → (0 ≤ hm.toInt) → (hm.toInt ≤ k.toInt - p0.toInt) → (mj_vs jv jt 0 hm.toNatClampNeg (mj_hm2 p4.toInt p5.toInt y_3.toInt (fun v => (cnt f v p0.toNatClampNeg (p1.toInt - p0.toInt).toNat : Int) + (cnt f v p2.toNatClampNeg ((p3.toInt : Int) - p2.toInt).toNat : Int)) (fun v => cnt f v p0.toNatClampNeg (k.toNatClampNeg - p0.toNatClampNeg)))) → (mj_srt jv jt 0 hm.toNatClampNeg) → (p1.toInt - k.toInt).toNat < n → ∀ (H : Heap) (locs : List Loc), va_P (dC, dI) vwCl [kx_5 h0 g_row m_n m_slots m_thrown g_many g_loss g_less g_voteValue g_voteNumber g_allValue g_allNumber m_allMany g_nodeL g_nodeR m_nodes g_part m_partMany g_wasMany g_wasLoss g_wasValue g_wasNumber g_path m_pathMany g_heavyValue g_heavyTimes hm g_fewest g_which g_met m_mostMet, kx_a g_row cyI 160 f, kx_a g_heavyValue cyI 160 jv, kx_a g_heavyTimes cyI 160 jt] H → va_D A [kx_5 h0 g_row m_n m_slots m_thrown g_many g_loss g_less g_voteValue g_voteNumber g_allValue g_allNumber m_allMany g_nodeL g_nodeR m_nodes g_part m_partMany g_wasMany g_wasLoss g_wasValue g_wasNumber g_path m_pathMany g_heavyValue g_heavyTimes hm g_fewest g_which g_met m_mostMet, kx_a g_row cyI 160 f, kx_a g_heavyValue cyI 160 jv, kx_a g_heavyTimes cyI 160 jt] → va_S A s.heap H locs → ∀ (ls : Array Slot), lv_has ls 10 [(8, .int k), (7, .int y_3), (0, .ref h0), (1, .int p0), (2, .int p1), (3, .int p2), (4, .int p3), (5, .int p4), (6, .int p5)] → W p l e (headSpec wsX5_laysHeavy ({ frames := 1, cells := 0, slots := 0, locals := 45 })).room s m ([.ref h0, .int p0, .int p1, .int p2, .int p3, .int p4, .int p5] : List Value).toArray below meth c H locs 0 0 (MQ below (va_Qv (fun u : Int32 × (Nat → Int32) × (Nat → Int32) × Int => u.2.2.2 = p1.toInt - p0.toInt + p3.toInt - p2.toInt ∧ mj_vs u.2.1 u.2.2.1 0 u.1.toNatClampNeg (mj_hvm p4.toInt p5.toInt u.2.2.2 (fun v => (cnt f v p0.toNatClampNeg (p1.toInt - p0.toInt).toNat : Int) + (cnt f v p2.toNatClampNeg ((p3.toInt : Int) - p2.toInt).toNat : Int))) ∧ mj_srt u.2.1 u.2.2.1 0 u.1.toNatClampNeg ∧ 0 ≤ u.1.toInt ∧ u.1.toInt ≤ 160) (fun (u : Int32 × (Nat → Int32) × (Nat → Int32) × Int) (t : State) => va_P (dC, dI) vwCl [kx_5 h0 g_row m_n m_slots m_thrown g_many g_loss g_less g_voteValue g_voteNumber g_allValue g_allNumber m_allMany g_nodeL g_nodeR m_nodes g_part m_partMany g_wasMany g_wasLoss g_wasValue g_wasNumber g_path m_pathMany g_heavyValue g_heavyTimes u.1 g_fewest g_which g_met m_mostMet, kx_a g_row cyI 160 f, kx_a g_heavyValue cyI 160 u.2.1, kx_a g_heavyTimes cyI 160 u.2.2.1] t.heap ∧ va_K (dC, dI) vwCl [(cyI, .int)] t ∧ va_D A [kx_5 h0 g_row m_n m_slots m_thrown g_many g_loss g_less g_voteValue g_voteNumber g_allValue g_allNumber m_allMany g_nodeL g_nodeR m_nodes g_part m_partMany g_wasMany g_wasLoss g_wasValue g_wasNumber g_path m_pathMany g_heavyValue g_heavyTimes u.1 g_fewest g_which g_met m_mostMet, kx_a g_row cyI 160 f, kx_a g_heavyValue cyI 160 u.2.1, kx_a g_heavyTimes cyI 160 u.2.2.1]) A) ([.ref h0, .int p0, .int p1, .int p2, .int p3, .int p4, .int p5] : List Value).toArray s 0 0 A) (F0 m 18 ls []) := by
    intro n
    induction n with
    | zero => intro k hm jv jt LP1_h0 LP1_h1 LP1_h2 LP1_h3 LP1_h4 LP1_h5 hn; exact absurd hn (Nat.not_lt_zero _)
    | succ n ih1 =>
      intro k hm jv jt LP1_h0 LP1_h1 LP1_h2 LP1_h3 LP1_h4 LP1_h5 hn1 H locs hP hD hS ls hl
      have n_k := ki_nat k rfl (om_0 b0 LP1_h0)
      refine lv_iload hx hb dX5_laysHeavy_18 (lv_at hl 0 rfl) ?_
      refine lv_iload_n hx hb dX5_laysHeavy_20 rfl (lv_at hl 4 rfl) ?_
      refine lv_icmp_ge (tgt := 103) hx hb dX5_laysHeavy_21 (by decide) (fun c_4 => ?_) (fun c_4 => ?_)
      · have i_4 : p1.toInt ≤ k.toInt := kc_le c_4
        refine lv_iload_n hx hb dX5_laysHeavy_103 rfl (lv_at hl 5 rfl) ?_
        refine lv_istore (lv' := [(8, .int p2), (7, .int y_3), (0, .ref h0), (1, .int p0), (2, .int p1), (3, .int p2), (4, .int p3), (5, .int p4), (6, .int p5)]) hx hb dX5_laysHeavy_104 hl (by decide) rfl (fun ls hl => ?_)
        have LP2 : ∀ (n : Nat) (k3 : Int32) (hm3 : Int32) (jv3 : Nat → Int32) (jt3 : Nat → Int32), (p2.toInt ≤ k3.toInt) → (k3.toInt ≤ p3.toInt) → (0 ≤ hm3.toInt) → (hm3.toInt ≤ p1.toInt - p0.toInt + k3.toInt - p2.toInt) → (mj_vs jv3 jt3 0 hm3.toNatClampNeg (mj_hm2 p4.toInt p5.toInt y_3.toInt (fun v => (cnt f v p0.toNatClampNeg (p1.toInt - p0.toInt).toNat : Int) + (cnt f v p2.toNatClampNeg ((p3.toInt : Int) - p2.toInt).toNat : Int)) (fun v => cnt f v p0.toNatClampNeg (p1.toInt - p0.toInt).toNat + cnt f v p2.toNatClampNeg (k3.toNatClampNeg - p2.toNatClampNeg)))) → (mj_srt jv3 jt3 0 hm3.toNatClampNeg) → (p3.toInt - k3.toInt).toNat < n → ∀ (H : Heap) (locs : List Loc), va_P (dC, dI) vwCl [kx_5 h0 g_row m_n m_slots m_thrown g_many g_loss g_less g_voteValue g_voteNumber g_allValue g_allNumber m_allMany g_nodeL g_nodeR m_nodes g_part m_partMany g_wasMany g_wasLoss g_wasValue g_wasNumber g_path m_pathMany g_heavyValue g_heavyTimes hm3 g_fewest g_which g_met m_mostMet, kx_a g_row cyI 160 f, kx_a g_heavyValue cyI 160 jv3, kx_a g_heavyTimes cyI 160 jt3] H → va_D A [kx_5 h0 g_row m_n m_slots m_thrown g_many g_loss g_less g_voteValue g_voteNumber g_allValue g_allNumber m_allMany g_nodeL g_nodeR m_nodes g_part m_partMany g_wasMany g_wasLoss g_wasValue g_wasNumber g_path m_pathMany g_heavyValue g_heavyTimes hm3 g_fewest g_which g_met m_mostMet, kx_a g_row cyI 160 f, kx_a g_heavyValue cyI 160 jv3, kx_a g_heavyTimes cyI 160 jt3] → va_S A s.heap H locs → ∀ (ls : Array Slot), lv_has ls 10 [(8, .int k3), (7, .int y_3), (0, .ref h0), (1, .int p0), (2, .int p1), (3, .int p2), (4, .int p3), (5, .int p4), (6, .int p5)] → W p l e (headSpec wsX5_laysHeavy ({ frames := 1, cells := 0, slots := 0, locals := 45 })).room s m ([.ref h0, .int p0, .int p1, .int p2, .int p3, .int p4, .int p5] : List Value).toArray below meth c H locs 0 0 (MQ below (va_Qv (fun u : Int32 × (Nat → Int32) × (Nat → Int32) × Int => u.2.2.2 = p1.toInt - p0.toInt + p3.toInt - p2.toInt ∧ mj_vs u.2.1 u.2.2.1 0 u.1.toNatClampNeg (mj_hvm p4.toInt p5.toInt u.2.2.2 (fun v => (cnt f v p0.toNatClampNeg (p1.toInt - p0.toInt).toNat : Int) + (cnt f v p2.toNatClampNeg ((p3.toInt : Int) - p2.toInt).toNat : Int))) ∧ mj_srt u.2.1 u.2.2.1 0 u.1.toNatClampNeg ∧ 0 ≤ u.1.toInt ∧ u.1.toInt ≤ 160) (fun (u : Int32 × (Nat → Int32) × (Nat → Int32) × Int) (t : State) => va_P (dC, dI) vwCl [kx_5 h0 g_row m_n m_slots m_thrown g_many g_loss g_less g_voteValue g_voteNumber g_allValue g_allNumber m_allMany g_nodeL g_nodeR m_nodes g_part m_partMany g_wasMany g_wasLoss g_wasValue g_wasNumber g_path m_pathMany g_heavyValue g_heavyTimes u.1 g_fewest g_which g_met m_mostMet, kx_a g_row cyI 160 f, kx_a g_heavyValue cyI 160 u.2.1, kx_a g_heavyTimes cyI 160 u.2.2.1] t.heap ∧ va_K (dC, dI) vwCl [(cyI, .int)] t ∧ va_D A [kx_5 h0 g_row m_n m_slots m_thrown g_many g_loss g_less g_voteValue g_voteNumber g_allValue g_allNumber m_allMany g_nodeL g_nodeR m_nodes g_part m_partMany g_wasMany g_wasLoss g_wasValue g_wasNumber g_path m_pathMany g_heavyValue g_heavyTimes u.1 g_fewest g_which g_met m_mostMet, kx_a g_row cyI 160 f, kx_a g_heavyValue cyI 160 u.2.1, kx_a g_heavyTimes cyI 160 u.2.2.1]) A) ([.ref h0, .int p0, .int p1, .int p2, .int p3, .int p4, .int p5] : List Value).toArray s 0 0 A) (F0 m 106 ls []) := by
          intro n
          induction n with
          | zero => intro k3 hm3 jv3 jt3 LP2_h0 LP2_h1 LP2_h2 LP2_h3 LP2_h4 LP2_h5 hn; exact absurd hn (Nat.not_lt_zero _)
          | succ n ih2 =>
            intro k3 hm3 jv3 jt3 LP2_h0 LP2_h1 LP2_h2 LP2_h3 LP2_h4 LP2_h5 hn2 H locs hP hD hS ls hl
            have n_k3 := ki_nat k3 rfl (om_0 b3 LP2_h0)
            refine lv_iload hx hb dX5_laysHeavy_106 (lv_at hl 0 rfl) ?_
            refine lv_iload hx hb dX5_laysHeavy_108 (lv_at hl 6 rfl) ?_
            refine lv_icmp_ge (tgt := 208) hx hb dX5_laysHeavy_110 (by decide) (fun c_5 => ?_) (fun c_5 => ?_)
            · have i_5 : p3.toInt ≤ k3.toInt := kc_le c_5
              have hP9 := hP
              have hD9 := hD
              have hK9 := hK
              exact W.vret hx hb hr (hlocks := hlocks) (fun t ht hW => ⟨⟨(hm3, jv3, jt3, y_3.toInt), rfl, ⟨(by (try dsimp only); omega), (mj_vs_congr LP2_h4 (fun v => mj_hm2_all (fun v h9 => by have h8 : 0 < ((cnt f v p0.toNatClampNeg (p1.toInt - p0.toInt).toNat : Int) + (cnt f v p2.toNatClampNeg ((p3.toInt : Int) - p2.toInt).toNat : Int)) := h9; show 0 < cnt f v p0.toNatClampNeg (p1.toInt - p0.toInt).toNat + cnt f v p2.toNatClampNeg (k3.toNatClampNeg - p2.toNatClampNeg); rw [show k3.toNatClampNeg - p2.toNatClampNeg = ((p3.toInt : Int) - p2.toInt).toNat by omega]; omega) (Int.mul_nonneg (by omega) (by omega)) (fun v => by show 0 ≤ ((cnt f v p0.toNatClampNeg (p1.toInt - p0.toInt).toNat : Int) + (cnt f v p2.toNatClampNeg ((p3.toInt : Int) - p2.toInt).toNat : Int)); omega) v)), LP2_h5, (by (try dsimp only); omega), (by (try dsimp only); omega)⟩, by rw [ht]; exact hP9, va_K.moved hW.alike hK9, hD9⟩, hS.F ht⟩) hS.2.2 dX5_laysHeavy_208
            · have i_5 : k3.toInt < p3.toInt := kc_nle c_5
              refine lv_aload_n hx hb dX5_laysHeavy_113 rfl (lv_at hl 2 rfl) ?_
              refine lv_aload_n hx hb dX5_laysHeavy_114 rfl (lv_at hl 2 rfl) ?_
              refine va_get (D := (dC, dI)) (ci := 5) (v := .ref g_row) (C := RX5) (T := TX5) (N := 30) hx hb hts hi_5 hown hK hP 0 rfl rfl 0 (by decide) hf_7 (fun _ h9 => h9) rfl dX5_laysHeavy_115 ?_
              refine lv_iload hx hb dX5_laysHeavy_118 (lv_at hl 0 rfl) ?_
              refine va_iald hx hb hK hP 1 0 rfl rfl (ki_in (om_0 b3 LP2_h0) (om_1 b5 i_5)) dX5_laysHeavy_120 ?_
              refine lv_topi (fun y_6 ey_6 => ?_)
              have j_6 : y_6.toInt = (f k3.toNatClampNeg).toInt := congrArg Int32.toInt ey_6
              refine lv_iload_n hx hb dX5_laysHeavy_121 rfl (lv_at hl 3 rfl) ?_
              refine lv_iload_n hx hb dX5_laysHeavy_122 rfl (lv_at hl 4 rfl) ?_
              have hPc := hP.sub (ws' := [kx_5 h0 g_row m_n m_slots m_thrown g_many g_loss g_less g_voteValue g_voteNumber g_allValue g_allNumber m_allMany g_nodeL g_nodeR m_nodes g_part m_partMany g_wasMany g_wasLoss g_wasValue g_wasNumber g_path m_pathMany g_heavyValue g_heavyTimes hm3 g_fewest g_which g_met m_mostMet, kx_a g_row cyI 160 f]) [0, 1] rfl
              have hKc := hK
              refine vp_callSi (W.runV (As := [.int y_6, .int p0, .int p1]) (rest := []) ⟨hx, hb, hml, hown, hts⟩ (c_X5_times l dC dI h0 g_row g_many g_loss g_less g_voteValue g_voteNumber g_allValue g_allNumber g_nodeL g_nodeR g_part g_wasMany g_wasLoss g_wasValue g_wasNumber g_path g_heavyValue g_heavyTimes g_fewest g_which g_met m_n m_slots m_thrown m_allMany m_nodes m_partMany m_pathMany hm3 m_mostMet cyI f y_6 p0 p1 b0 b2) (cwV 3 hts gX5_laysHeavy_X5_times rfl rfl rfl (by decide +kernel) ⟨Nat.le_of_ble_eq_true rfl, Nat.le_of_ble_eq_true rfl⟩) ⟨fun a U g mk q => by obtain ⟨q0, qP, qK⟩ := q; exact ⟨q0, qP, va_K.moved (u := U) (U := U.calling g mk a) (Vm.Alike.refl U.vm) qK⟩, kx_rc5 hKc hPc (q0 := 0) rfl, fun U hU hW => ⟨rfl, by rw [hU]; exact hPc, va_K.moved hW.alike hKc⟩⟩ rfl rfl hl.1 rfl (lv_room (Nat.le_of_ble_eq_true rfl)) dX5_laysHeavy_123 ⟨Nat.le_of_ble_eq_true rfl, Nat.le_of_ble_eq_true rfl⟩) (fun r_7 w_7 => ?_)
              have w_7 : r_7.toInt = (cnt f y_6 p0.toNatClampNeg (p1.toInt - p0.toInt).toNat : Int) := w_7
              refine lv_aload_n hx hb dX5_laysHeavy_126 rfl (lv_at hl 2 rfl) ?_
              refine lv_aload_n hx hb dX5_laysHeavy_127 rfl (lv_at hl 2 rfl) ?_
              refine va_get (D := (dC, dI)) (ci := 5) (v := .ref g_row) (C := RX5) (T := TX5) (N := 30) hx hb hts hi_5 hown hK hP 0 rfl rfl 0 (by decide) hf_7 (fun _ h9 => h9) rfl dX5_laysHeavy_128 ?_
              refine lv_iload hx hb dX5_laysHeavy_131 (lv_at hl 0 rfl) ?_
              refine va_iald hx hb hK hP 1 0 rfl rfl (ki_in (om_0 b3 LP2_h0) (om_1 b5 i_5)) dX5_laysHeavy_133 ?_
              refine lv_topi (fun y_8 ey_8 => ?_)
              have j_8 : y_8.toInt = (f k3.toNatClampNeg).toInt := congrArg Int32.toInt ey_8
              refine lv_iload_n hx hb dX5_laysHeavy_134 rfl (lv_at hl 5 rfl) ?_
              refine lv_iload hx hb dX5_laysHeavy_135 (lv_at hl 6 rfl) ?_
              have hPc := hP.sub (ws' := [kx_5 h0 g_row m_n m_slots m_thrown g_many g_loss g_less g_voteValue g_voteNumber g_allValue g_allNumber m_allMany g_nodeL g_nodeR m_nodes g_part m_partMany g_wasMany g_wasLoss g_wasValue g_wasNumber g_path m_pathMany g_heavyValue g_heavyTimes hm3 g_fewest g_which g_met m_mostMet, kx_a g_row cyI 160 f]) [0, 1] rfl
              have hKc := hK
              refine vp_callSi (W.runV (As := [.int y_8, .int p2, .int p3]) (rest := [.int r_7]) ⟨hx, hb, hml, hown, hts⟩ (c_X5_times l dC dI h0 g_row g_many g_loss g_less g_voteValue g_voteNumber g_allValue g_allNumber g_nodeL g_nodeR g_part g_wasMany g_wasLoss g_wasValue g_wasNumber g_path g_heavyValue g_heavyTimes g_fewest g_which g_met m_n m_slots m_thrown m_allMany m_nodes m_partMany m_pathMany hm3 m_mostMet cyI f y_8 p2 p3 b3 b5) (cwV 3 hts gX5_laysHeavy_X5_times rfl rfl rfl (by decide +kernel) ⟨Nat.le_of_ble_eq_true rfl, Nat.le_of_ble_eq_true rfl⟩) ⟨fun a U g mk q => by obtain ⟨q0, qP, qK⟩ := q; exact ⟨q0, qP, va_K.moved (u := U) (U := U.calling g mk a) (Vm.Alike.refl U.vm) qK⟩, kx_rc5 hKc hPc (q0 := 0) rfl, fun U hU hW => ⟨rfl, by rw [hU]; exact hPc, va_K.moved hW.alike hKc⟩⟩ rfl rfl hl.1 rfl (lv_room (Nat.le_of_ble_eq_true rfl)) dX5_laysHeavy_137 ⟨Nat.le_of_ble_eq_true rfl, Nat.le_of_ble_eq_true rfl⟩) (fun r_9 w_9 => ?_)
              have w_9 : r_9.toInt = (cnt f y_8 p2.toNatClampNeg (p3.toInt - p2.toInt).toNat : Int) := w_9
              have l_1 := cnt_le f y_6 p0.toNatClampNeg (p1.toInt - p0.toInt).toNat
              have l_2 := cnt_le f y_8 p2.toNatClampNeg ((p3.toInt : Int) - p2.toInt).toNat
              refine lv_iadd hx hb dX5_laysHeavy_140 ?_
              refine lv_topi (fun y_10 ey_10 => ?_)
              have i_10 : y_10.toInt = r_7.toInt + r_9.toInt := ki_add ey_10 rfl rfl (by omega) (by omega)
              refine lv_istore (lv' := [(9, .int y_10), (8, .int k3), (7, .int y_3), (0, .ref h0), (1, .int p0), (2, .int p1), (3, .int p2), (4, .int p3), (5, .int p4), (6, .int p5)]) hx hb dX5_laysHeavy_141 hl (by decide) rfl (fun ls hl => ?_)
              refine lv_aload_n hx hb dX5_laysHeavy_143 rfl (lv_at hl 3 rfl) ?_
              refine lv_aload_n hx hb dX5_laysHeavy_144 rfl (lv_at hl 3 rfl) ?_
              refine va_get (D := (dC, dI)) (ci := 5) (v := .ref g_row) (C := RX5) (T := TX5) (N := 30) hx hb hts hi_5 hown hK hP 0 rfl rfl 0 (by decide) hf_7 (fun _ h9 => h9) rfl dX5_laysHeavy_145 ?_
              refine lv_iload hx hb dX5_laysHeavy_148 (lv_at hl 1 rfl) ?_
              refine va_iald hx hb hK hP 1 0 rfl rfl (ki_in (om_0 b3 LP2_h0) (om_1 b5 i_5)) dX5_laysHeavy_150 ?_
              refine lv_topi (fun y_11 ey_11 => ?_)
              have j_11 : y_11.toInt = (f k3.toNatClampNeg).toInt := congrArg Int32.toInt ey_11
              refine lv_iload_n hx hb dX5_laysHeavy_151 rfl (lv_at hl 4 rfl) ?_
              refine lv_iload_n hx hb dX5_laysHeavy_152 rfl (lv_at hl 5 rfl) ?_
              have hPc := hP.sub (ws' := [kx_5 h0 g_row m_n m_slots m_thrown g_many g_loss g_less g_voteValue g_voteNumber g_allValue g_allNumber m_allMany g_nodeL g_nodeR m_nodes g_part m_partMany g_wasMany g_wasLoss g_wasValue g_wasNumber g_path m_pathMany g_heavyValue g_heavyTimes hm3 g_fewest g_which g_met m_mostMet, kx_a g_row cyI 160 f]) [0, 1] rfl
              have hKc := hK
              refine vp_callSi (W.runV (As := [.int y_11, .int p0, .int p1]) (rest := []) ⟨hx, hb, hml, hown, hts⟩ (c_X5_times l dC dI h0 g_row g_many g_loss g_less g_voteValue g_voteNumber g_allValue g_allNumber g_nodeL g_nodeR g_part g_wasMany g_wasLoss g_wasValue g_wasNumber g_path g_heavyValue g_heavyTimes g_fewest g_which g_met m_n m_slots m_thrown m_allMany m_nodes m_partMany m_pathMany hm3 m_mostMet cyI f y_11 p0 p1 b0 b2) (cwV 3 hts gX5_laysHeavy_X5_times rfl rfl rfl (by decide +kernel) ⟨Nat.le_of_ble_eq_true rfl, Nat.le_of_ble_eq_true rfl⟩) ⟨fun a U g mk q => by obtain ⟨q0, qP, qK⟩ := q; exact ⟨q0, qP, va_K.moved (u := U) (U := U.calling g mk a) (Vm.Alike.refl U.vm) qK⟩, kx_rc5 hKc hPc (q0 := 0) rfl, fun U hU hW => ⟨rfl, by rw [hU]; exact hPc, va_K.moved hW.alike hKc⟩⟩ rfl rfl hl.1 rfl (lv_room (Nat.le_of_ble_eq_true rfl)) dX5_laysHeavy_153 ⟨Nat.le_of_ble_eq_true rfl, Nat.le_of_ble_eq_true rfl⟩) (fun r_12 w_12 => ?_)
              have w_12 : r_12.toInt = (cnt f y_11 p0.toNatClampNeg (p1.toInt - p0.toInt).toNat : Int) := w_12
              have q_51 : y_10.toInt = ((cnt f (f k3.toNatClampNeg) p0.toNatClampNeg (p1.toInt - p0.toInt).toNat : Int) + (cnt f (f k3.toNatClampNeg) p2.toNatClampNeg ((p3.toInt : Int) - p2.toInt).toNat : Int)) := by have a9 := w_7; have b9 := w_9; rw [ey_6] at a9; rw [ey_8] at b9; omega
              have q_153 : r_12.toInt = (cnt f (f k3.toNatClampNeg) p0.toNatClampNeg (p1.toInt - p0.toInt).toNat : Int) := by rw [← ey_11]; exact w_12
              refine lv_if_ne (tgt := 202) hx hb dX5_laysHeavy_156 (by decide) (fun c_13 => ?_) (fun c_13 => ?_)
              · have i_13 : ¬ r_12.toInt = 0 := kc_ne c_13
                obtain ⟨x_14, ex_14⟩ : ∃ y : Int32, y = k3 + 1 := ⟨_, rfl⟩
                have i_14 : x_14.toInt = k3.toInt + 1 := ki_add ex_14 rfl rfl (om_2 b3 LP2_h0) (om_3 b5 i_5)
                refine lv_iinc (v := x_14) (lv' := [(8, .int x_14), (9, .int y_10), (7, .int y_3), (0, .ref h0), (1, .int p0), (2, .int p1), (3, .int p2), (4, .int p3), (5, .int p4), (6, .int p5)]) hx hb dX5_laysHeavy_202 hl (k := 1) rfl (by rw [ex_14]; rfl) (by decide) rfl (fun ls hl => ?_)
                refine lv_goto (tgt := 106) hx hb dX5_laysHeavy_205 (by decide) ?_
                have n_15 := ki_nat x_14 rfl (om_89 b3 LP2_h0 i_14)
                have h_M : ∀ v : Int32, cnt f v p0.toNatClampNeg (p1.toInt - p0.toInt).toNat + cnt f v p2.toNatClampNeg (x_14.toNatClampNeg - p2.toNatClampNeg) = cnt f v p0.toNatClampNeg (p1.toInt - p0.toInt).toNat + cnt f v p2.toNatClampNeg (k3.toNatClampNeg - p2.toNatClampNeg) + (if f k3.toNatClampNeg = v then 1 else 0) := fun v => by rw [show x_14.toNatClampNeg - p2.toNatClampNeg = k3.toNatClampNeg - p2.toNatClampNeg + 1 by omega]; show cnt f v p0.toNatClampNeg (p1.toInt - p0.toInt).toNat + (cnt f v p2.toNatClampNeg (k3.toNatClampNeg - p2.toNatClampNeg) + (if f (p2.toNatClampNeg + (k3.toNatClampNeg - p2.toNatClampNeg)) = v then 1 else 0)) = _; rw [show p2.toNatClampNeg + (k3.toNatClampNeg - p2.toNatClampNeg) = k3.toNatClampNeg by omega]; omega
                exact ih2 x_14 hm3 jv3 jt3 (om_4 LP2_h0 i_14) (om_54 i_5 i_14) (om_10 LP2_h2) (om_406 LP2_h3 i_14) (mj_vs_congr LP2_h4 (fun v => mj_hm2_old h_M (Or.inl (by omega)) v)) LP2_h5 (om_mu hn2 (om_5 i_14) (om_6 i_5)) _ _ hP hD hS ls (lv_sub hl [0, 2, 3, 4, 5, 6, 7, 8, 9] rfl)
              · have i_13 : r_12.toInt = 0 := kc_eq c_13
                refine lv_aload_n hx hb dX5_laysHeavy_159 rfl (lv_at hl 3 rfl) ?_
                refine lv_aload_n hx hb dX5_laysHeavy_160 rfl (lv_at hl 3 rfl) ?_
                refine va_get (D := (dC, dI)) (ci := 5) (v := .ref g_row) (C := RX5) (T := TX5) (N := 30) hx hb hts hi_5 hown hK hP 0 rfl rfl 0 (by decide) hf_7 (fun _ h9 => h9) rfl dX5_laysHeavy_161 ?_
                refine lv_iload hx hb dX5_laysHeavy_164 (lv_at hl 1 rfl) ?_
                refine va_iald hx hb hK hP 1 0 rfl rfl (ki_in (om_0 b3 LP2_h0) (om_1 b5 i_5)) dX5_laysHeavy_166 ?_
                refine lv_topi (fun y_16 ey_16 => ?_)
                have j_16 : y_16.toInt = (f k3.toNatClampNeg).toInt := congrArg Int32.toInt ey_16
                refine lv_iload_n hx hb dX5_laysHeavy_167 rfl (lv_at hl 6 rfl) ?_
                refine lv_iload hx hb dX5_laysHeavy_168 (lv_at hl 1 rfl) ?_
                have hPc := hP.sub (ws' := [kx_5 h0 g_row m_n m_slots m_thrown g_many g_loss g_less g_voteValue g_voteNumber g_allValue g_allNumber m_allMany g_nodeL g_nodeR m_nodes g_part m_partMany g_wasMany g_wasLoss g_wasValue g_wasNumber g_path m_pathMany g_heavyValue g_heavyTimes hm3 g_fewest g_which g_met m_mostMet, kx_a g_row cyI 160 f]) [0, 1] rfl
                have hKc := hK
                refine vp_callSi (W.runV (As := [.int y_16, .int p2, .int k3]) (rest := []) ⟨hx, hb, hml, hown, hts⟩ (c_X5_times l dC dI h0 g_row g_many g_loss g_less g_voteValue g_voteNumber g_allValue g_allNumber g_nodeL g_nodeR g_part g_wasMany g_wasLoss g_wasValue g_wasNumber g_path g_heavyValue g_heavyTimes g_fewest g_which g_met m_n m_slots m_thrown m_allMany m_nodes m_partMany m_pathMany hm3 m_mostMet cyI f y_16 p2 k3 b3 (om_202 b5 i_5)) (cwV 3 hts gX5_laysHeavy_X5_times rfl rfl rfl (by decide +kernel) ⟨Nat.le_of_ble_eq_true rfl, Nat.le_of_ble_eq_true rfl⟩) ⟨fun a U g mk q => by obtain ⟨q0, qP, qK⟩ := q; exact ⟨q0, qP, va_K.moved (u := U) (U := U.calling g mk a) (Vm.Alike.refl U.vm) qK⟩, kx_rc5 hKc hPc (q0 := 0) rfl, fun U hU hW => ⟨rfl, by rw [hU]; exact hPc, va_K.moved hW.alike hKc⟩⟩ rfl rfl hl.1 rfl (lv_room (Nat.le_of_ble_eq_true rfl)) dX5_laysHeavy_170 ⟨Nat.le_of_ble_eq_true rfl, Nat.le_of_ble_eq_true rfl⟩) (fun r_17 w_17 => ?_)
                have w_17 : r_17.toInt = (cnt f y_16 p2.toNatClampNeg (k3.toInt - p2.toInt).toNat : Int) := w_17
                have q_170 : r_17.toInt = (cnt f (f k3.toNatClampNeg) p2.toNatClampNeg (k3.toNatClampNeg - p2.toNatClampNeg) : Int) := by rw [← ey_16, show k3.toNatClampNeg - p2.toNatClampNeg = (k3.toInt - p2.toInt).toNat by omega]; exact w_17
                refine lv_if_ne (tgt := 202) hx hb dX5_laysHeavy_173 (by decide) (fun c_18 => ?_) (fun c_18 => ?_)
                · have i_18 : ¬ r_17.toInt = 0 := kc_ne c_18
                  obtain ⟨x_19, ex_19⟩ : ∃ y : Int32, y = k3 + 1 := ⟨_, rfl⟩
                  have i_19 : x_19.toInt = k3.toInt + 1 := ki_add ex_19 rfl rfl (om_2 b3 LP2_h0) (om_3 b5 i_5)
                  refine lv_iinc (v := x_19) (lv' := [(8, .int x_19), (9, .int y_10), (7, .int y_3), (0, .ref h0), (1, .int p0), (2, .int p1), (3, .int p2), (4, .int p3), (5, .int p4), (6, .int p5)]) hx hb dX5_laysHeavy_202 hl (k := 1) rfl (by rw [ex_19]; rfl) (by decide) rfl (fun ls hl => ?_)
                  refine lv_goto (tgt := 106) hx hb dX5_laysHeavy_205 (by decide) ?_
                  have n_20 := ki_nat x_19 rfl (om_89 b3 LP2_h0 i_19)
                  have h_M : ∀ v : Int32, cnt f v p0.toNatClampNeg (p1.toInt - p0.toInt).toNat + cnt f v p2.toNatClampNeg (x_19.toNatClampNeg - p2.toNatClampNeg) = cnt f v p0.toNatClampNeg (p1.toInt - p0.toInt).toNat + cnt f v p2.toNatClampNeg (k3.toNatClampNeg - p2.toNatClampNeg) + (if f k3.toNatClampNeg = v then 1 else 0) := fun v => by rw [show x_19.toNatClampNeg - p2.toNatClampNeg = k3.toNatClampNeg - p2.toNatClampNeg + 1 by omega]; show cnt f v p0.toNatClampNeg (p1.toInt - p0.toInt).toNat + (cnt f v p2.toNatClampNeg (k3.toNatClampNeg - p2.toNatClampNeg) + (if f (p2.toNatClampNeg + (k3.toNatClampNeg - p2.toNatClampNeg)) = v then 1 else 0)) = _; rw [show p2.toNatClampNeg + (k3.toNatClampNeg - p2.toNatClampNeg) = k3.toNatClampNeg by omega]; omega
                  exact ih2 x_19 hm3 jv3 jt3 (om_4 LP2_h0 i_19) (om_54 i_5 i_19) (om_10 LP2_h2) (om_406 LP2_h3 i_19) (mj_vs_congr LP2_h4 (fun v => mj_hm2_old h_M (Or.inl (by omega)) v)) LP2_h5 (om_mu hn2 (om_5 i_19) (om_6 i_5)) _ _ hP hD hS ls (lv_sub hl [0, 2, 3, 4, 5, 6, 7, 8, 9] rfl)
                · have i_18 : r_17.toInt = 0 := kc_eq c_18
                  refine lv_iload hx hb dX5_laysHeavy_176 (lv_at hl 0 rfl) ?_
                  refine lv_iload hx hb dX5_laysHeavy_178 (lv_at hl 9 rfl) ?_
                  refine lv_imul hx hb dX5_laysHeavy_180 ?_
                  refine lv_topi (fun y_21 ey_21 => ?_)
                  refine lv_iload hx hb dX5_laysHeavy_181 (lv_at hl 8 rfl) ?_
                  refine lv_iload hx hb dX5_laysHeavy_183 (lv_at hl 2 rfl) ?_
                  refine lv_imul hx hb dX5_laysHeavy_185 ?_
                  refine lv_topi (fun y_22 ey_22 => ?_)
                  have b_1 := ki_mulb (a := y_10.toInt) (b := p5.toInt) (A := 320) (B := 999) (by omega) (by omega) (by omega) (by omega)
                  have b_2 := ki_mulb (a := p4.toInt) (b := y_3.toInt) (A := 999) (B := 320) (by omega) (by omega) (by omega) (by omega)
                  have m_1 : y_21.toInt = y_10.toInt * p5.toInt := ki_mul ey_21 rfl rfl (by omega) (by omega)
                  have m_2 : y_22.toInt = p4.toInt * y_3.toInt := ki_mul ey_22 rfl rfl (by omega) (by omega)
                  refine lv_icmp_le (tgt := 202) hx hb dX5_laysHeavy_186 (by decide) (fun c_23 => ?_) (fun c_23 => ?_)
                  · have i_23 : y_21.toInt ≤ y_22.toInt := kc_le c_23
                    obtain ⟨x_24, ex_24⟩ : ∃ y : Int32, y = k3 + 1 := ⟨_, rfl⟩
                    have i_24 : x_24.toInt = k3.toInt + 1 := ki_add ex_24 rfl rfl (om_2 b3 LP2_h0) (om_3 b5 i_5)
                    refine lv_iinc (v := x_24) (lv' := [(8, .int x_24), (9, .int y_10), (7, .int y_3), (0, .ref h0), (1, .int p0), (2, .int p1), (3, .int p2), (4, .int p3), (5, .int p4), (6, .int p5)]) hx hb dX5_laysHeavy_202 hl (k := 1) rfl (by rw [ex_24]; rfl) (by decide) rfl (fun ls hl => ?_)
                    refine lv_goto (tgt := 106) hx hb dX5_laysHeavy_205 (by decide) ?_
                    have n_25 := ki_nat x_24 rfl (om_89 b3 LP2_h0 i_24)
                    have h_M : ∀ v : Int32, cnt f v p0.toNatClampNeg (p1.toInt - p0.toInt).toNat + cnt f v p2.toNatClampNeg (x_24.toNatClampNeg - p2.toNatClampNeg) = cnt f v p0.toNatClampNeg (p1.toInt - p0.toInt).toNat + cnt f v p2.toNatClampNeg (k3.toNatClampNeg - p2.toNatClampNeg) + (if f k3.toNatClampNeg = v then 1 else 0) := fun v => by rw [show x_24.toNatClampNeg - p2.toNatClampNeg = k3.toNatClampNeg - p2.toNatClampNeg + 1 by omega]; show cnt f v p0.toNatClampNeg (p1.toInt - p0.toInt).toNat + (cnt f v p2.toNatClampNeg (k3.toNatClampNeg - p2.toNatClampNeg) + (if f (p2.toNatClampNeg + (k3.toNatClampNeg - p2.toNatClampNeg)) = v then 1 else 0)) = _; rw [show p2.toNatClampNeg + (k3.toNatClampNeg - p2.toNatClampNeg) = k3.toNatClampNeg by omega]; omega
                    exact ih2 x_24 hm3 jv3 jt3 (om_4 LP2_h0 i_24) (om_54 i_5 i_24) (om_10 LP2_h2) (om_406 LP2_h3 i_24) (mj_vs_congr LP2_h4 (fun v => mj_hm2_old h_M (Or.inr (by show ((cnt f (f k3.toNatClampNeg) p0.toNatClampNeg (p1.toInt - p0.toInt).toNat : Int) + (cnt f (f k3.toNatClampNeg) p2.toNatClampNeg ((p3.toInt : Int) - p2.toInt).toNat : Int)) * p5.toInt ≤ p4.toInt * y_3.toInt; rw [← q_51]; omega)) v)) LP2_h5 (om_mu hn2 (om_5 i_24) (om_6 i_5)) _ _ hP hD hS ls (lv_sub hl [0, 2, 3, 4, 5, 6, 7, 8, 9] rfl)
                  · have i_23 : y_22.toInt < y_21.toInt := kc_nle c_23
                    refine lv_aload_n hx hb dX5_laysHeavy_189 rfl (lv_at hl 3 rfl) ?_
                    refine lv_aload_n hx hb dX5_laysHeavy_190 rfl (lv_at hl 3 rfl) ?_
                    refine va_get (D := (dC, dI)) (ci := 5) (v := .ref g_row) (C := RX5) (T := TX5) (N := 30) hx hb hts hi_5 hown hK hP 0 rfl rfl 0 (by decide) hf_7 (fun _ h9 => h9) rfl dX5_laysHeavy_191 ?_
                    refine lv_iload hx hb dX5_laysHeavy_194 (lv_at hl 1 rfl) ?_
                    refine va_iald hx hb hK hP 1 0 rfl rfl (ki_in (om_0 b3 LP2_h0) (om_1 b5 i_5)) dX5_laysHeavy_196 ?_
                    refine lv_topi (fun y_26 ey_26 => ?_)
                    have j_26 : y_26.toInt = (f k3.toNatClampNeg).toInt := congrArg Int32.toInt ey_26
                    refine lv_iload hx hb dX5_laysHeavy_197 (lv_at hl 0 rfl) ?_
                    obtain ⟨hPc, hDc, hFc, hCc⟩ := kx_preM (wc := [kx_5 h0 g_row m_n m_slots m_thrown g_many g_loss g_less g_voteValue g_voteNumber g_allValue g_allNumber m_allMany g_nodeL g_nodeR m_nodes g_part m_partMany g_wasMany g_wasLoss g_wasValue g_wasNumber g_path m_pathMany g_heavyValue g_heavyTimes hm3 g_fewest g_which g_met m_mostMet, kx_a g_heavyValue cyI 160 jv3, kx_a g_heavyTimes cyI 160 jt3]) hP hD hS hA [true, false, true, true] rfl
                    have hKc := hK
                    refine va_callv (va_runV (As := [.int y_26, .int y_10]) (rest := []) ⟨hx, hb, hml, hown, hts⟩ (kx_un (c_X5_comes_x l dC dI h0 g_row g_many g_loss g_less g_voteValue g_voteNumber g_allValue g_allNumber g_nodeL g_nodeR g_part g_wasMany g_wasLoss g_wasValue g_wasNumber g_path g_heavyValue g_heavyTimes g_fewest g_which g_met m_n m_slots m_thrown m_allMany m_nodes m_partMany m_pathMany hm3 m_mostMet cyI jv3 jt3 (mj_hm2 p4.toInt p5.toInt y_3.toInt (fun v => (cnt f v p0.toNatClampNeg (p1.toInt - p0.toInt).toNat : Int) + (cnt f v p2.toNatClampNeg ((p3.toInt : Int) - p2.toInt).toNat : Int)) (fun v => cnt f v p0.toNatClampNeg (p1.toInt - p0.toInt).toNat + cnt f v p2.toNatClampNeg (k3.toNatClampNeg - p2.toNatClampNeg))) y_26 y_10 H.size (by omega) (by omega) LP2_h4 LP2_h5 (fun j hj e9 => by have z9 := (LP2_h4.1 j hj).2; rw [Nat.zero_add, e9, ey_26] at z9; unfold mj_hm2 at z9; rw [if_neg (fun y9 => by have y1 : 0 < cnt f (f k3.toNatClampNeg) p0.toNatClampNeg (p1.toInt - p0.toInt).toNat + cnt f (f k3.toNatClampNeg) p2.toNatClampNeg (k3.toNatClampNeg - p2.toNatClampNeg) := y9.1; omega)] at z9; omega) (ki_mulpos (z := p4.toInt * y_3.toInt) (b := p5.toInt) (by omega) (Int.mul_nonneg (by omega) (by omega)) (by omega)))) (cwV 2 hts gX5_laysHeavy_X5_comes rfl rfl rfl (by decide +kernel) ⟨Nat.le_of_ble_eq_true rfl, Nat.le_of_ble_eq_true rfl⟩) ⟨fun a U g mk q => by obtain ⟨q0, q1, qP, qK, qD⟩ := q; exact ⟨q0, q1, qP, va_K.moved (u := U) (U := U.calling g mk a) (Vm.Alike.refl U.vm) qK, qD⟩, kx_rc5 hKc hPc (q0 := 0) rfl, fun U hU hW => ⟨rfl, by rw [hU], by rw [hU]; exact hPc, va_K.moved hW.alike hKc, hDc.weaken (fun _ _ _ _ => trivial)⟩⟩ rfl rfl hl.1 rfl (lv_room (Nat.le_of_ble_eq_true rfl)) dX5_laysHeavy_199 ⟨Nat.le_of_ble_eq_true rfl, Nat.le_of_ble_eq_true rfl⟩) hS (fun q _ h => hFc q h) hFc (fun u t H1 locs ht hvm w_27 hB hz1 hk1 hS => ?_)
                    obtain ⟨o_28, o_29, o_30⟩ := u
                    dsimp only at w_27 hB
                    obtain ⟨hP1, hK1, hD1⟩ := hB
                    rw [ht] at hP1
                    have hK1 := va_K.moved hvm.symm hK1
                    obtain ⟨hP, hD⟩ := kx_joinM (w2 := [kx_5 h0 g_row m_n m_slots m_thrown g_many g_loss g_less g_voteValue g_voteNumber g_allValue g_allNumber m_allMany g_nodeL g_nodeR m_nodes g_part m_partMany g_wasMany g_wasLoss g_wasValue g_wasNumber g_path m_pathMany g_heavyValue g_heavyTimes o_28 g_fewest g_which g_met m_mostMet, kx_a g_row cyI 160 f, kx_a g_heavyValue cyI 160 o_29, kx_a g_heavyTimes cyI 160 o_30]) hP hD hP1 hD1 hk1 hFc [true, false, true, true] hCc rfl
                    clear hP1 hD1 hK1 hk1 hz1 hFc hDc hPc hKc hCc
                    generalize H1 = H at hP hS ⊢
                    have w_27 : o_28.toInt = hm3.toInt + 1 ∧ mj_vs o_29 o_30 0 o_28.toNatClampNeg (fun w => (mj_hm2 p4.toInt p5.toInt y_3.toInt (fun v => (cnt f v p0.toNatClampNeg (p1.toInt - p0.toInt).toNat : Int) + (cnt f v p2.toNatClampNeg ((p3.toInt : Int) - p2.toInt).toNat : Int)) (fun v => cnt f v p0.toNatClampNeg (p1.toInt - p0.toInt).toNat + cnt f v p2.toNatClampNeg (k3.toNatClampNeg - p2.toNatClampNeg))) w + (if w = y_26 then y_10.toInt else 0)) ∧ mj_srt o_29 o_30 0 o_28.toNatClampNeg := w_27
                    obtain ⟨x_31, ex_31⟩ : ∃ y : Int32, y = k3 + 1 := ⟨_, rfl⟩
                    have i_31 : x_31.toInt = k3.toInt + 1 := ki_add ex_31 rfl rfl (om_2 b3 LP2_h0) (om_3 b5 i_5)
                    refine lv_iinc (v := x_31) (lv' := [(8, .int x_31), (9, .int y_10), (7, .int y_3), (0, .ref h0), (1, .int p0), (2, .int p1), (3, .int p2), (4, .int p3), (5, .int p4), (6, .int p5)]) hx hb dX5_laysHeavy_202 hl (k := 1) rfl (by rw [ex_31]; rfl) (by decide) rfl (fun ls hl => ?_)
                    refine lv_goto (tgt := 106) hx hb dX5_laysHeavy_205 (by decide) ?_
                    have n_32 := ki_nat x_31 rfl (om_89 b3 LP2_h0 i_31)
                    have h_M : ∀ v : Int32, cnt f v p0.toNatClampNeg (p1.toInt - p0.toInt).toNat + cnt f v p2.toNatClampNeg (x_31.toNatClampNeg - p2.toNatClampNeg) = cnt f v p0.toNatClampNeg (p1.toInt - p0.toInt).toNat + cnt f v p2.toNatClampNeg (k3.toNatClampNeg - p2.toNatClampNeg) + (if f k3.toNatClampNeg = v then 1 else 0) := fun v => by rw [show x_31.toNatClampNeg - p2.toNatClampNeg = k3.toNatClampNeg - p2.toNatClampNeg + 1 by omega]; show cnt f v p0.toNatClampNeg (p1.toInt - p0.toInt).toNat + (cnt f v p2.toNatClampNeg (k3.toNatClampNeg - p2.toNatClampNeg) + (if f (p2.toNatClampNeg + (k3.toNatClampNeg - p2.toNatClampNeg)) = v then 1 else 0)) = _; rw [show p2.toNatClampNeg + (k3.toNatClampNeg - p2.toNatClampNeg) = k3.toNatClampNeg by omega]; omega
                    have h_9 := w_27.2.1
                    rw [ey_26] at h_9
                    have h_v9 : p4.toInt * y_3.toInt < ((cnt f (f k3.toNatClampNeg) p0.toNatClampNeg (p1.toInt - p0.toInt).toNat : Int) + (cnt f (f k3.toNatClampNeg) p2.toNatClampNeg ((p3.toInt : Int) - p2.toInt).toNat : Int)) * p5.toInt := by rw [← q_51]; omega
                    exact ih2 x_31 o_28 o_29 o_30 (om_4 LP2_h0 i_31) (om_54 i_5 i_31) (om_34 LP2_h2 w_27.1) (om_408 LP2_h3 w_27.1 i_31) (mj_vs_congr h_9 (fun v => mj_hm2_new h_M (by omega) h_v9 q_51 v)) w_27.2.2 (om_mu hn2 (om_5 i_31) (om_6 i_5)) _ _ hP hD hS ls (lv_sub hl [0, 2, 3, 4, 5, 6, 7, 8, 9] rfl)
        exact LP2 ((p3.toInt - p2.toInt : Int).toNat + 1) p2 hm jv jt om_7 (om_9 b4) (om_10 LP1_h2) (om_409 LP1_h1 LP1_h3) (mj_vs_congr LP1_h4 (fun v => mj_hm2_M (fun v => by show cnt f v p0.toNatClampNeg (k.toNatClampNeg - p0.toNatClampNeg) = cnt f v p0.toNatClampNeg (p1.toInt - p0.toInt).toNat + cnt f v p2.toNatClampNeg (p2.toNatClampNeg - p2.toNatClampNeg); rw [show k.toNatClampNeg - p0.toNatClampNeg = (p1.toInt - p0.toInt).toNat by omega, Nat.sub_self]; rfl) v)) LP1_h5 (Nat.lt_succ_self _) _ _ hP hD hS ls (lv_sub hl [0, 1, 2, 3, 4, 5, 6, 7, 8] rfl)
      · have i_4 : k.toInt < p1.toInt := kc_nle c_4
        refine lv_aload_n hx hb dX5_laysHeavy_24 rfl (lv_at hl 2 rfl) ?_
        refine lv_aload_n hx hb dX5_laysHeavy_25 rfl (lv_at hl 2 rfl) ?_
        refine va_get (D := (dC, dI)) (ci := 5) (v := .ref g_row) (C := RX5) (T := TX5) (N := 30) hx hb hts hi_5 hown hK hP 0 rfl rfl 0 (by decide) hf_7 (fun _ h9 => h9) rfl dX5_laysHeavy_26 ?_
        refine lv_iload hx hb dX5_laysHeavy_29 (lv_at hl 0 rfl) ?_
        refine va_iald hx hb hK hP 1 0 rfl rfl (ki_in (om_0 b0 LP1_h0) (om_1 b2 i_4)) dX5_laysHeavy_31 ?_
        refine lv_topi (fun y_33 ey_33 => ?_)
        have j_33 : y_33.toInt = (f k.toNatClampNeg).toInt := congrArg Int32.toInt ey_33
        refine lv_iload_n hx hb dX5_laysHeavy_32 rfl (lv_at hl 3 rfl) ?_
        refine lv_iload_n hx hb dX5_laysHeavy_33 rfl (lv_at hl 4 rfl) ?_
        have hPc := hP.sub (ws' := [kx_5 h0 g_row m_n m_slots m_thrown g_many g_loss g_less g_voteValue g_voteNumber g_allValue g_allNumber m_allMany g_nodeL g_nodeR m_nodes g_part m_partMany g_wasMany g_wasLoss g_wasValue g_wasNumber g_path m_pathMany g_heavyValue g_heavyTimes hm g_fewest g_which g_met m_mostMet, kx_a g_row cyI 160 f]) [0, 1] rfl
        have hKc := hK
        refine vp_callSi (W.runV (As := [.int y_33, .int p0, .int p1]) (rest := []) ⟨hx, hb, hml, hown, hts⟩ (c_X5_times l dC dI h0 g_row g_many g_loss g_less g_voteValue g_voteNumber g_allValue g_allNumber g_nodeL g_nodeR g_part g_wasMany g_wasLoss g_wasValue g_wasNumber g_path g_heavyValue g_heavyTimes g_fewest g_which g_met m_n m_slots m_thrown m_allMany m_nodes m_partMany m_pathMany hm m_mostMet cyI f y_33 p0 p1 b0 b2) (cwV 3 hts gX5_laysHeavy_X5_times rfl rfl rfl (by decide +kernel) ⟨Nat.le_of_ble_eq_true rfl, Nat.le_of_ble_eq_true rfl⟩) ⟨fun a U g mk q => by obtain ⟨q0, qP, qK⟩ := q; exact ⟨q0, qP, va_K.moved (u := U) (U := U.calling g mk a) (Vm.Alike.refl U.vm) qK⟩, kx_rc5 hKc hPc (q0 := 0) rfl, fun U hU hW => ⟨rfl, by rw [hU]; exact hPc, va_K.moved hW.alike hKc⟩⟩ rfl rfl hl.1 rfl (lv_room (Nat.le_of_ble_eq_true rfl)) dX5_laysHeavy_34 ⟨Nat.le_of_ble_eq_true rfl, Nat.le_of_ble_eq_true rfl⟩) (fun r_34 w_34 => ?_)
        have w_34 : r_34.toInt = (cnt f y_33 p0.toNatClampNeg (p1.toInt - p0.toInt).toNat : Int) := w_34
        refine lv_aload_n hx hb dX5_laysHeavy_37 rfl (lv_at hl 2 rfl) ?_
        refine lv_aload_n hx hb dX5_laysHeavy_38 rfl (lv_at hl 2 rfl) ?_
        refine va_get (D := (dC, dI)) (ci := 5) (v := .ref g_row) (C := RX5) (T := TX5) (N := 30) hx hb hts hi_5 hown hK hP 0 rfl rfl 0 (by decide) hf_7 (fun _ h9 => h9) rfl dX5_laysHeavy_39 ?_
        refine lv_iload hx hb dX5_laysHeavy_42 (lv_at hl 0 rfl) ?_
        refine va_iald hx hb hK hP 1 0 rfl rfl (ki_in (om_0 b0 LP1_h0) (om_1 b2 i_4)) dX5_laysHeavy_44 ?_
        refine lv_topi (fun y_35 ey_35 => ?_)
        have j_35 : y_35.toInt = (f k.toNatClampNeg).toInt := congrArg Int32.toInt ey_35
        refine lv_iload_n hx hb dX5_laysHeavy_45 rfl (lv_at hl 5 rfl) ?_
        refine lv_iload hx hb dX5_laysHeavy_46 (lv_at hl 6 rfl) ?_
        have hPc := hP.sub (ws' := [kx_5 h0 g_row m_n m_slots m_thrown g_many g_loss g_less g_voteValue g_voteNumber g_allValue g_allNumber m_allMany g_nodeL g_nodeR m_nodes g_part m_partMany g_wasMany g_wasLoss g_wasValue g_wasNumber g_path m_pathMany g_heavyValue g_heavyTimes hm g_fewest g_which g_met m_mostMet, kx_a g_row cyI 160 f]) [0, 1] rfl
        have hKc := hK
        refine vp_callSi (W.runV (As := [.int y_35, .int p2, .int p3]) (rest := [.int r_34]) ⟨hx, hb, hml, hown, hts⟩ (c_X5_times l dC dI h0 g_row g_many g_loss g_less g_voteValue g_voteNumber g_allValue g_allNumber g_nodeL g_nodeR g_part g_wasMany g_wasLoss g_wasValue g_wasNumber g_path g_heavyValue g_heavyTimes g_fewest g_which g_met m_n m_slots m_thrown m_allMany m_nodes m_partMany m_pathMany hm m_mostMet cyI f y_35 p2 p3 b3 b5) (cwV 3 hts gX5_laysHeavy_X5_times rfl rfl rfl (by decide +kernel) ⟨Nat.le_of_ble_eq_true rfl, Nat.le_of_ble_eq_true rfl⟩) ⟨fun a U g mk q => by obtain ⟨q0, qP, qK⟩ := q; exact ⟨q0, qP, va_K.moved (u := U) (U := U.calling g mk a) (Vm.Alike.refl U.vm) qK⟩, kx_rc5 hKc hPc (q0 := 0) rfl, fun U hU hW => ⟨rfl, by rw [hU]; exact hPc, va_K.moved hW.alike hKc⟩⟩ rfl rfl hl.1 rfl (lv_room (Nat.le_of_ble_eq_true rfl)) dX5_laysHeavy_48 ⟨Nat.le_of_ble_eq_true rfl, Nat.le_of_ble_eq_true rfl⟩) (fun r_36 w_36 => ?_)
        have w_36 : r_36.toInt = (cnt f y_35 p2.toNatClampNeg (p3.toInt - p2.toInt).toNat : Int) := w_36
        have l_1 := cnt_le f y_33 p0.toNatClampNeg (p1.toInt - p0.toInt).toNat
        have l_2 := cnt_le f y_35 p2.toNatClampNeg ((p3.toInt : Int) - p2.toInt).toNat
        refine lv_iadd hx hb dX5_laysHeavy_51 ?_
        refine lv_topi (fun y_37 ey_37 => ?_)
        have i_37 : y_37.toInt = r_34.toInt + r_36.toInt := ki_add ey_37 rfl rfl (by omega) (by omega)
        refine lv_istore (lv' := [(9, .int y_37), (8, .int k), (7, .int y_3), (0, .ref h0), (1, .int p0), (2, .int p1), (3, .int p2), (4, .int p3), (5, .int p4), (6, .int p5)]) hx hb dX5_laysHeavy_52 hl (by decide) rfl (fun ls hl => ?_)
        refine lv_aload_n hx hb dX5_laysHeavy_54 rfl (lv_at hl 3 rfl) ?_
        refine lv_aload_n hx hb dX5_laysHeavy_55 rfl (lv_at hl 3 rfl) ?_
        refine va_get (D := (dC, dI)) (ci := 5) (v := .ref g_row) (C := RX5) (T := TX5) (N := 30) hx hb hts hi_5 hown hK hP 0 rfl rfl 0 (by decide) hf_7 (fun _ h9 => h9) rfl dX5_laysHeavy_56 ?_
        refine lv_iload hx hb dX5_laysHeavy_59 (lv_at hl 1 rfl) ?_
        refine va_iald hx hb hK hP 1 0 rfl rfl (ki_in (om_0 b0 LP1_h0) (om_1 b2 i_4)) dX5_laysHeavy_61 ?_
        refine lv_topi (fun y_38 ey_38 => ?_)
        have j_38 : y_38.toInt = (f k.toNatClampNeg).toInt := congrArg Int32.toInt ey_38
        refine lv_iload_n hx hb dX5_laysHeavy_62 rfl (lv_at hl 4 rfl) ?_
        refine lv_iload hx hb dX5_laysHeavy_63 (lv_at hl 1 rfl) ?_
        have hPc := hP.sub (ws' := [kx_5 h0 g_row m_n m_slots m_thrown g_many g_loss g_less g_voteValue g_voteNumber g_allValue g_allNumber m_allMany g_nodeL g_nodeR m_nodes g_part m_partMany g_wasMany g_wasLoss g_wasValue g_wasNumber g_path m_pathMany g_heavyValue g_heavyTimes hm g_fewest g_which g_met m_mostMet, kx_a g_row cyI 160 f]) [0, 1] rfl
        have hKc := hK
        refine vp_callSi (W.runV (As := [.int y_38, .int p0, .int k]) (rest := []) ⟨hx, hb, hml, hown, hts⟩ (c_X5_times l dC dI h0 g_row g_many g_loss g_less g_voteValue g_voteNumber g_allValue g_allNumber g_nodeL g_nodeR g_part g_wasMany g_wasLoss g_wasValue g_wasNumber g_path g_heavyValue g_heavyTimes g_fewest g_which g_met m_n m_slots m_thrown m_allMany m_nodes m_partMany m_pathMany hm m_mostMet cyI f y_38 p0 k b0 (om_202 b2 i_4)) (cwV 3 hts gX5_laysHeavy_X5_times rfl rfl rfl (by decide +kernel) ⟨Nat.le_of_ble_eq_true rfl, Nat.le_of_ble_eq_true rfl⟩) ⟨fun a U g mk q => by obtain ⟨q0, qP, qK⟩ := q; exact ⟨q0, qP, va_K.moved (u := U) (U := U.calling g mk a) (Vm.Alike.refl U.vm) qK⟩, kx_rc5 hKc hPc (q0 := 0) rfl, fun U hU hW => ⟨rfl, by rw [hU]; exact hPc, va_K.moved hW.alike hKc⟩⟩ rfl rfl hl.1 rfl (lv_room (Nat.le_of_ble_eq_true rfl)) dX5_laysHeavy_65 ⟨Nat.le_of_ble_eq_true rfl, Nat.le_of_ble_eq_true rfl⟩) (fun r_39 w_39 => ?_)
        have w_39 : r_39.toInt = (cnt f y_38 p0.toNatClampNeg (k.toInt - p0.toInt).toNat : Int) := w_39
        have q_51 : y_37.toInt = ((cnt f (f k.toNatClampNeg) p0.toNatClampNeg (p1.toInt - p0.toInt).toNat : Int) + (cnt f (f k.toNatClampNeg) p2.toNatClampNeg ((p3.toInt : Int) - p2.toInt).toNat : Int)) := by have a9 := w_34; have b9 := w_36; rw [ey_33] at a9; rw [ey_35] at b9; omega
        have q_65 : r_39.toInt = (cnt f (f k.toNatClampNeg) p0.toNatClampNeg (k.toNatClampNeg - p0.toNatClampNeg) : Int) := by rw [← ey_38, show k.toNatClampNeg - p0.toNatClampNeg = (k.toInt - p0.toInt).toNat by omega]; exact w_39
        refine lv_if_ne (tgt := 97) hx hb dX5_laysHeavy_68 (by decide) (fun c_40 => ?_) (fun c_40 => ?_)
        · have i_40 : ¬ r_39.toInt = 0 := kc_ne c_40
          obtain ⟨x_41, ex_41⟩ : ∃ y : Int32, y = k + 1 := ⟨_, rfl⟩
          have i_41 : x_41.toInt = k.toInt + 1 := ki_add ex_41 rfl rfl (om_2 b0 LP1_h0) (om_3 b2 i_4)
          refine lv_iinc (v := x_41) (lv' := [(8, .int x_41), (9, .int y_37), (7, .int y_3), (0, .ref h0), (1, .int p0), (2, .int p1), (3, .int p2), (4, .int p3), (5, .int p4), (6, .int p5)]) hx hb dX5_laysHeavy_97 hl (k := 1) rfl (by rw [ex_41]; rfl) (by decide) rfl (fun ls hl => ?_)
          refine lv_goto (tgt := 18) hx hb dX5_laysHeavy_100 (by decide) ?_
          have n_42 := ki_nat x_41 rfl (om_89 b0 LP1_h0 i_41)
          have h_M : ∀ v : Int32, cnt f v p0.toNatClampNeg (x_41.toNatClampNeg - p0.toNatClampNeg) = cnt f v p0.toNatClampNeg (k.toNatClampNeg - p0.toNatClampNeg) + (if f k.toNatClampNeg = v then 1 else 0) := fun v => by rw [show x_41.toNatClampNeg - p0.toNatClampNeg = k.toNatClampNeg - p0.toNatClampNeg + 1 by omega]; show (cnt f v p0.toNatClampNeg (k.toNatClampNeg - p0.toNatClampNeg) + (if f (p0.toNatClampNeg + (k.toNatClampNeg - p0.toNatClampNeg)) = v then 1 else 0)) = _; rw [show p0.toNatClampNeg + (k.toNatClampNeg - p0.toNatClampNeg) = k.toNatClampNeg by omega]
          exact ih1 x_41 hm jv jt (om_4 LP1_h0 i_41) (om_54 i_4 i_41) (om_10 LP1_h2) (om_410 LP1_h3 i_41) (mj_vs_congr LP1_h4 (fun v => mj_hm2_old h_M (Or.inl (by omega)) v)) LP1_h5 (om_mu hn1 (om_5 i_41) (om_6 i_4)) _ _ hP hD hS ls (lv_sub hl [0, 2, 3, 4, 5, 6, 7, 8, 9] rfl)
        · have i_40 : r_39.toInt = 0 := kc_eq c_40
          refine lv_iload hx hb dX5_laysHeavy_71 (lv_at hl 0 rfl) ?_
          refine lv_iload hx hb dX5_laysHeavy_73 (lv_at hl 9 rfl) ?_
          refine lv_imul hx hb dX5_laysHeavy_75 ?_
          refine lv_topi (fun y_43 ey_43 => ?_)
          refine lv_iload hx hb dX5_laysHeavy_76 (lv_at hl 8 rfl) ?_
          refine lv_iload hx hb dX5_laysHeavy_78 (lv_at hl 2 rfl) ?_
          refine lv_imul hx hb dX5_laysHeavy_80 ?_
          refine lv_topi (fun y_44 ey_44 => ?_)
          have b_1 := ki_mulb (a := y_37.toInt) (b := p5.toInt) (A := 320) (B := 999) (by omega) (by omega) (by omega) (by omega)
          have b_2 := ki_mulb (a := p4.toInt) (b := y_3.toInt) (A := 999) (B := 320) (by omega) (by omega) (by omega) (by omega)
          have m_1 : y_43.toInt = y_37.toInt * p5.toInt := ki_mul ey_43 rfl rfl (by omega) (by omega)
          have m_2 : y_44.toInt = p4.toInt * y_3.toInt := ki_mul ey_44 rfl rfl (by omega) (by omega)
          refine lv_icmp_le (tgt := 97) hx hb dX5_laysHeavy_81 (by decide) (fun c_45 => ?_) (fun c_45 => ?_)
          · have i_45 : y_43.toInt ≤ y_44.toInt := kc_le c_45
            obtain ⟨x_46, ex_46⟩ : ∃ y : Int32, y = k + 1 := ⟨_, rfl⟩
            have i_46 : x_46.toInt = k.toInt + 1 := ki_add ex_46 rfl rfl (om_2 b0 LP1_h0) (om_3 b2 i_4)
            refine lv_iinc (v := x_46) (lv' := [(8, .int x_46), (9, .int y_37), (7, .int y_3), (0, .ref h0), (1, .int p0), (2, .int p1), (3, .int p2), (4, .int p3), (5, .int p4), (6, .int p5)]) hx hb dX5_laysHeavy_97 hl (k := 1) rfl (by rw [ex_46]; rfl) (by decide) rfl (fun ls hl => ?_)
            refine lv_goto (tgt := 18) hx hb dX5_laysHeavy_100 (by decide) ?_
            have n_47 := ki_nat x_46 rfl (om_89 b0 LP1_h0 i_46)
            have h_M : ∀ v : Int32, cnt f v p0.toNatClampNeg (x_46.toNatClampNeg - p0.toNatClampNeg) = cnt f v p0.toNatClampNeg (k.toNatClampNeg - p0.toNatClampNeg) + (if f k.toNatClampNeg = v then 1 else 0) := fun v => by rw [show x_46.toNatClampNeg - p0.toNatClampNeg = k.toNatClampNeg - p0.toNatClampNeg + 1 by omega]; show (cnt f v p0.toNatClampNeg (k.toNatClampNeg - p0.toNatClampNeg) + (if f (p0.toNatClampNeg + (k.toNatClampNeg - p0.toNatClampNeg)) = v then 1 else 0)) = _; rw [show p0.toNatClampNeg + (k.toNatClampNeg - p0.toNatClampNeg) = k.toNatClampNeg by omega]
            exact ih1 x_46 hm jv jt (om_4 LP1_h0 i_46) (om_54 i_4 i_46) (om_10 LP1_h2) (om_410 LP1_h3 i_46) (mj_vs_congr LP1_h4 (fun v => mj_hm2_old h_M (Or.inr (by show ((cnt f (f k.toNatClampNeg) p0.toNatClampNeg (p1.toInt - p0.toInt).toNat : Int) + (cnt f (f k.toNatClampNeg) p2.toNatClampNeg ((p3.toInt : Int) - p2.toInt).toNat : Int)) * p5.toInt ≤ p4.toInt * y_3.toInt; rw [← q_51]; omega)) v)) LP1_h5 (om_mu hn1 (om_5 i_46) (om_6 i_4)) _ _ hP hD hS ls (lv_sub hl [0, 2, 3, 4, 5, 6, 7, 8, 9] rfl)
          · have i_45 : y_44.toInt < y_43.toInt := kc_nle c_45
            refine lv_aload_n hx hb dX5_laysHeavy_84 rfl (lv_at hl 3 rfl) ?_
            refine lv_aload_n hx hb dX5_laysHeavy_85 rfl (lv_at hl 3 rfl) ?_
            refine va_get (D := (dC, dI)) (ci := 5) (v := .ref g_row) (C := RX5) (T := TX5) (N := 30) hx hb hts hi_5 hown hK hP 0 rfl rfl 0 (by decide) hf_7 (fun _ h9 => h9) rfl dX5_laysHeavy_86 ?_
            refine lv_iload hx hb dX5_laysHeavy_89 (lv_at hl 1 rfl) ?_
            refine va_iald hx hb hK hP 1 0 rfl rfl (ki_in (om_0 b0 LP1_h0) (om_1 b2 i_4)) dX5_laysHeavy_91 ?_
            refine lv_topi (fun y_48 ey_48 => ?_)
            have j_48 : y_48.toInt = (f k.toNatClampNeg).toInt := congrArg Int32.toInt ey_48
            refine lv_iload hx hb dX5_laysHeavy_92 (lv_at hl 0 rfl) ?_
            obtain ⟨hPc, hDc, hFc, hCc⟩ := kx_preM (wc := [kx_5 h0 g_row m_n m_slots m_thrown g_many g_loss g_less g_voteValue g_voteNumber g_allValue g_allNumber m_allMany g_nodeL g_nodeR m_nodes g_part m_partMany g_wasMany g_wasLoss g_wasValue g_wasNumber g_path m_pathMany g_heavyValue g_heavyTimes hm g_fewest g_which g_met m_mostMet, kx_a g_heavyValue cyI 160 jv, kx_a g_heavyTimes cyI 160 jt]) hP hD hS hA [true, false, true, true] rfl
            have hKc := hK
            refine va_callv (va_runV (As := [.int y_48, .int y_37]) (rest := []) ⟨hx, hb, hml, hown, hts⟩ (kx_un (c_X5_comes_x l dC dI h0 g_row g_many g_loss g_less g_voteValue g_voteNumber g_allValue g_allNumber g_nodeL g_nodeR g_part g_wasMany g_wasLoss g_wasValue g_wasNumber g_path g_heavyValue g_heavyTimes g_fewest g_which g_met m_n m_slots m_thrown m_allMany m_nodes m_partMany m_pathMany hm m_mostMet cyI jv jt (mj_hm2 p4.toInt p5.toInt y_3.toInt (fun v => (cnt f v p0.toNatClampNeg (p1.toInt - p0.toInt).toNat : Int) + (cnt f v p2.toNatClampNeg ((p3.toInt : Int) - p2.toInt).toNat : Int)) (fun v => cnt f v p0.toNatClampNeg (k.toNatClampNeg - p0.toNatClampNeg))) y_48 y_37 H.size (by omega) (by omega) LP1_h4 LP1_h5 (fun j hj e9 => by have z9 := (LP1_h4.1 j hj).2; rw [Nat.zero_add, e9, ey_48] at z9; unfold mj_hm2 at z9; rw [if_neg (fun y9 => by have y1 : 0 < cnt f (f k.toNatClampNeg) p0.toNatClampNeg (k.toNatClampNeg - p0.toNatClampNeg) := y9.1; omega)] at z9; omega) (ki_mulpos (z := p4.toInt * y_3.toInt) (b := p5.toInt) (by omega) (Int.mul_nonneg (by omega) (by omega)) (by omega)))) (cwV 2 hts gX5_laysHeavy_X5_comes rfl rfl rfl (by decide +kernel) ⟨Nat.le_of_ble_eq_true rfl, Nat.le_of_ble_eq_true rfl⟩) ⟨fun a U g mk q => by obtain ⟨q0, q1, qP, qK, qD⟩ := q; exact ⟨q0, q1, qP, va_K.moved (u := U) (U := U.calling g mk a) (Vm.Alike.refl U.vm) qK, qD⟩, kx_rc5 hKc hPc (q0 := 0) rfl, fun U hU hW => ⟨rfl, by rw [hU], by rw [hU]; exact hPc, va_K.moved hW.alike hKc, hDc.weaken (fun _ _ _ _ => trivial)⟩⟩ rfl rfl hl.1 rfl (lv_room (Nat.le_of_ble_eq_true rfl)) dX5_laysHeavy_94 ⟨Nat.le_of_ble_eq_true rfl, Nat.le_of_ble_eq_true rfl⟩) hS (fun q _ h => hFc q h) hFc (fun u t H1 locs ht hvm w_49 hB hz1 hk1 hS => ?_)
            obtain ⟨o_50, o_51, o_52⟩ := u
            dsimp only at w_49 hB
            obtain ⟨hP1, hK1, hD1⟩ := hB
            rw [ht] at hP1
            have hK1 := va_K.moved hvm.symm hK1
            obtain ⟨hP, hD⟩ := kx_joinM (w2 := [kx_5 h0 g_row m_n m_slots m_thrown g_many g_loss g_less g_voteValue g_voteNumber g_allValue g_allNumber m_allMany g_nodeL g_nodeR m_nodes g_part m_partMany g_wasMany g_wasLoss g_wasValue g_wasNumber g_path m_pathMany g_heavyValue g_heavyTimes o_50 g_fewest g_which g_met m_mostMet, kx_a g_row cyI 160 f, kx_a g_heavyValue cyI 160 o_51, kx_a g_heavyTimes cyI 160 o_52]) hP hD hP1 hD1 hk1 hFc [true, false, true, true] hCc rfl
            clear hP1 hD1 hK1 hk1 hz1 hFc hDc hPc hKc hCc
            generalize H1 = H at hP hS ⊢
            have w_49 : o_50.toInt = hm.toInt + 1 ∧ mj_vs o_51 o_52 0 o_50.toNatClampNeg (fun w => (mj_hm2 p4.toInt p5.toInt y_3.toInt (fun v => (cnt f v p0.toNatClampNeg (p1.toInt - p0.toInt).toNat : Int) + (cnt f v p2.toNatClampNeg ((p3.toInt : Int) - p2.toInt).toNat : Int)) (fun v => cnt f v p0.toNatClampNeg (k.toNatClampNeg - p0.toNatClampNeg))) w + (if w = y_48 then y_37.toInt else 0)) ∧ mj_srt o_51 o_52 0 o_50.toNatClampNeg := w_49
            obtain ⟨x_53, ex_53⟩ : ∃ y : Int32, y = k + 1 := ⟨_, rfl⟩
            have i_53 : x_53.toInt = k.toInt + 1 := ki_add ex_53 rfl rfl (om_2 b0 LP1_h0) (om_3 b2 i_4)
            refine lv_iinc (v := x_53) (lv' := [(8, .int x_53), (9, .int y_37), (7, .int y_3), (0, .ref h0), (1, .int p0), (2, .int p1), (3, .int p2), (4, .int p3), (5, .int p4), (6, .int p5)]) hx hb dX5_laysHeavy_97 hl (k := 1) rfl (by rw [ex_53]; rfl) (by decide) rfl (fun ls hl => ?_)
            refine lv_goto (tgt := 18) hx hb dX5_laysHeavy_100 (by decide) ?_
            have n_54 := ki_nat x_53 rfl (om_89 b0 LP1_h0 i_53)
            have h_M : ∀ v : Int32, cnt f v p0.toNatClampNeg (x_53.toNatClampNeg - p0.toNatClampNeg) = cnt f v p0.toNatClampNeg (k.toNatClampNeg - p0.toNatClampNeg) + (if f k.toNatClampNeg = v then 1 else 0) := fun v => by rw [show x_53.toNatClampNeg - p0.toNatClampNeg = k.toNatClampNeg - p0.toNatClampNeg + 1 by omega]; show (cnt f v p0.toNatClampNeg (k.toNatClampNeg - p0.toNatClampNeg) + (if f (p0.toNatClampNeg + (k.toNatClampNeg - p0.toNatClampNeg)) = v then 1 else 0)) = _; rw [show p0.toNatClampNeg + (k.toNatClampNeg - p0.toNatClampNeg) = k.toNatClampNeg by omega]
            have h_9 := w_49.2.1
            rw [ey_48] at h_9
            have h_v9 : p4.toInt * y_3.toInt < ((cnt f (f k.toNatClampNeg) p0.toNatClampNeg (p1.toInt - p0.toInt).toNat : Int) + (cnt f (f k.toNatClampNeg) p2.toNatClampNeg ((p3.toInt : Int) - p2.toInt).toNat : Int)) * p5.toInt := by rw [← q_51]; omega
            exact ih1 x_53 o_50 o_51 o_52 (om_4 LP1_h0 i_53) (om_54 i_4 i_53) (om_34 LP1_h2 w_49.1) (om_412 LP1_h3 w_49.1 i_53) (mj_vs_congr h_9 (fun v => mj_hm2_new h_M (by omega) h_v9 q_51 v)) w_49.2.2 (om_mu hn1 (om_5 i_53) (om_6 i_4)) _ _ hP hD hS ls (lv_sub hl [0, 2, 3, 4, 5, 6, 7, 8, 9] rfl)
  have k_55 : (0 : Int32).toInt = 0 := rfl
  exact LP1 ((p1.toInt - p0.toInt : Int).toNat + 1) p0 0 zv zt om_7 (om_9 b1) om_35 om_413 (mj_hv_0 rfl (fun v => by show cnt f v p0.toNatClampNeg (p0.toNatClampNeg - p0.toNatClampNeg) = 0; rw [Nat.sub_self]; rfl)) (mj_srt_1 _ _ (by decide)) (Nat.lt_succ_self _) _ _ hP hD hS ls (lv_sub hl [0, 1, 2, 3, 4, 5, 6, 7, 8] rfl)


