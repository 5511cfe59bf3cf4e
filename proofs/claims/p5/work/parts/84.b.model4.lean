set_option maxHeartbeats 4000000 in
set_option maxRecDepth 100000 in
theorem c_X5_windowsOf (l : Launch) (dC : Nat → ClassId) (dI : Nat → Nat → Nat) (h0 : Nat) (g_row : Nat) (g_many : Nat) (g_loss : Nat) (g_less : Nat) (g_voteValue : Nat) (g_voteNumber : Nat) (g_allValue : Nat) (g_allNumber : Nat) (g_nodeL : Nat) (g_nodeR : Nat) (g_part : Nat) (g_wasMany : Nat) (g_wasLoss : Nat) (g_wasValue : Nat) (g_wasNumber : Nat) (g_path : Nat) (g_heavyValue : Nat) (g_heavyTimes : Nat) (g_fewest : Nat) (g_which : Nat) (g_met : Nat) (m_n : Int32) (m_slots : Int32) (m_thrown : Int32) (m_allMany : Int32) (m_nodes : Int32) (m_partMany : Int32) (m_pathMany : Int32) (m_heavyMany : Int32) (m_mostMet : Int32) (cyI : ClassId) (f : Nat → Int32) (p0 : Int32) (p1 : Int32) (p2 : Int32) (p3 : Int32) (a0 : 0 ≤ m_n.toInt) (a1 : m_n.toInt ≤ 160) (b0 : 1 ≤ p1.toInt) (b1 : p1.toInt ≤ m_n.toInt) : Met l yX5_windowsOf wsX5_windowsOf ({ frames := 1, cells := 0, slots := 0, locals := 45 }) (va_Pc [.ref h0, .int p0, .int p1, .int p2, .int p3] (fun U => va_P (dC, dI) vwCl [kx_5 h0 g_row m_n m_slots m_thrown g_many g_loss g_less g_voteValue g_voteNumber g_allValue g_allNumber m_allMany g_nodeL g_nodeR m_nodes g_part m_partMany g_wasMany g_wasLoss g_wasValue g_wasNumber g_path m_pathMany g_heavyValue g_heavyTimes m_heavyMany g_fewest g_which g_met m_mostMet, kx_a g_row cyI 160 f] U.heap ∧ va_K (dC, dI) vwCl [(cyI, .int)] U)) (vp_Si (fun r : Int32 => True)) 0 0 (fun _ => False) := by
  refine Met.ofW (cc := cX5_windowsOf) (maxL := 8) (ret := (some .int)) (by decide) rfl ?_
  intro p e s m args below meth c s₁ B hml hv
  obtain ⟨rfl, hP, hK⟩ := hv
  have hx := B.exec
  have hb := B.bytes
  have hr := B.returns
  have hts := atoms_spec (ws := wsX5_windowsOf) B.pre
  have hown : s.vm.findClass RX5 = some m.cls := findClass_of_methodNamed B.named
  have hlocks := B.notSynchronized
  have hP : va_P (dC, dI) vwCl [kx_5 h0 g_row m_n m_slots m_thrown g_many g_loss g_less g_voteValue g_voteNumber g_allValue g_allNumber m_allMany g_nodeL g_nodeR m_nodes g_part m_partMany g_wasMany g_wasLoss g_wasValue g_wasNumber g_path m_pathMany g_heavyValue g_heavyTimes m_heavyMany g_fewest g_which g_met m_mostMet, kx_a g_row cyI 160 f] s.heap := hP
  have hl := lv_entry ([.ref h0, .int p0, .int p1, .int p2, .int p3]) (n := 8) (Nat.le_of_ble_eq_true rfl)
  rw [lg_entry_eq]
  generalize (lg_sl ([.ref h0, .int p0, .int p1, .int p2, .int p3]) ++ List.replicate (8 - (lg_sl ([.ref h0, .int p0, .int p1, .int p2, .int p3])).length) Slot.unset).toArray = ls at hl ⊢
  have hl : lv_has ls 8 [(0, .ref h0), (1, .int p0), (2, .int p1), (3, .int p2), (4, .int p3)] := hl
  have hf_84 := hts (.fieldLink RX5 84 "MajorityIndexModel" "n" "I") (List.mem_of_getElem? (i := 1) rfl)
  have hi_5 : ∀ w ∈ u_ws RX5 TX5 30, w ∈ wsX5_windowsOf := fun w h => List.mem_cons_of_mem _ (List.mem_append_right _ h)
  have hf_7 := hts (.fieldLink RX5 7 "MajorityIndexModel" "row" "[I") (List.mem_of_getElem? (i := 2) rfl)
  refine lv_iconst (v := 0) hx hb dX5_windowsOf_0 (by decide) ?_
  refine lv_istore (lv' := [(5, .int 0), (0, .ref h0), (1, .int p0), (2, .int p1), (3, .int p2), (4, .int p3)]) hx hb dX5_windowsOf_1 hl (by decide) rfl (fun ls hl => ?_)
  refine lv_aload_n hx hb dX5_windowsOf_3 rfl (lv_at hl 1 rfl) ?_
  refine lv_iload_n hx hb dX5_windowsOf_4 rfl (lv_at hl 2 rfl) ?_
  refine lv_iconst (v := 0) hx hb dX5_windowsOf_5 (by decide) ?_
  refine lv_iload_n hx hb dX5_windowsOf_6 rfl (lv_at hl 3 rfl) ?_
  refine lv_iconst (v := 1) hx hb dX5_windowsOf_7 (by decide) ?_
  refine lv_isub hx hb dX5_windowsOf_8 ?_
  refine lv_topi (fun y_1 ey_1 => ?_)
  have i_1 : y_1.toInt = p1.toInt - 1 := ki_sub ey_1 rfl rfl (om_122 b0) (om_123 a1 b1)
  have hPc := hP
  have hKc := hK
  have k_2 : (0 : Int32).toInt = 0 := rfl
  refine vp_callSi (W.runV (As := [.int p0, .int 0, .int y_1]) (rest := []) ⟨hx, hb, hml, hown, hts⟩ (c_X5_times l dC dI h0 g_row g_many g_loss g_less g_voteValue g_voteNumber g_allValue g_allNumber g_nodeL g_nodeR g_part g_wasMany g_wasLoss g_wasValue g_wasNumber g_path g_heavyValue g_heavyTimes g_fewest g_which g_met m_n m_slots m_thrown m_allMany m_nodes m_partMany m_pathMany m_heavyMany m_mostMet cyI f p0 0 y_1 om_32 (om_181 a1 b1 i_1)) (cwV 3 hts gX5_windowsOf_X5_times rfl rfl rfl (by decide +kernel) ⟨Nat.le_of_ble_eq_true rfl, Nat.le_of_ble_eq_true rfl⟩) ⟨fun a U g mk q => by obtain ⟨q0, qP, qK⟩ := q; exact ⟨q0, qP, va_K.moved (u := U) (U := U.calling g mk a) (Vm.Alike.refl U.vm) qK⟩, va_recv hKc hPc (ci := 5) (q0 := 0) rfl rfl, fun U hU hW => ⟨rfl, by rw [hU]; exact hPc, va_K.moved hW.alike hKc⟩⟩ rfl rfl hl.1 rfl (lv_room (Nat.le_of_ble_eq_true rfl)) dX5_windowsOf_9 ⟨Nat.le_of_ble_eq_true rfl, Nat.le_of_ble_eq_true rfl⟩) (fun r_3 w_3 => ?_)
  have w_3 : r_3.toInt = (cnt f p0 (0 : Int32).toNatClampNeg (y_1.toInt - 0).toNat : Int) := w_3
  refine lv_istore (lv' := [(6, .int r_3), (5, .int 0), (0, .ref h0), (1, .int p0), (2, .int p1), (3, .int p2), (4, .int p3)]) hx hb dX5_windowsOf_12 hl (by decide) rfl (fun ls hl => ?_)
  refine lv_iconst (v := 0) hx hb dX5_windowsOf_14 (by decide) ?_
  refine lv_istore (lv' := [(7, .int 0), (6, .int r_3), (5, .int 0), (0, .ref h0), (1, .int p0), (2, .int p1), (3, .int p2), (4, .int p3)]) hx hb dX5_windowsOf_15 hl (by decide) rfl (fun ls hl => ?_)
  have LP1 : ∀ (n : Nat) (i : Int32) (sm : Int32) (of : Int32), (0 ≤ i.toInt) → (i.toInt ≤ m_n.toInt) → (m_n.toInt - i.toInt).toNat < n → ∀ (ls : Array Slot), lv_has ls 8 [(7, .int i), (6, .int of), (5, .int sm), (0, .ref h0), (1, .int p0), (2, .int p1), (3, .int p2), (4, .int p3)] → W p l e (headSpec wsX5_windowsOf ({ frames := 1, cells := 0, slots := 0, locals := 45 })).room s m ([.ref h0, .int p0, .int p1, .int p2, .int p3] : List Value).toArray below meth c s.heap [] 0 0 (MQ below (vp_Si (fun r : Int32 => True)) ([.ref h0, .int p0, .int p1, .int p2, .int p3] : List Value).toArray s 0 0 (fun _ => False)) (F0 m 17 ls []) := by
    intro n
    induction n with
    | zero => intro i sm of LP1_h0 LP1_h1 hn; exact absurd hn (Nat.not_lt_zero _)
    | succ n ih1 =>
      intro i sm of LP1_h0 LP1_h1 hn1 ls hl
      refine lv_iload hx hb dX5_windowsOf_17 (lv_at hl 0 rfl) ?_
      refine lv_iload_n hx hb dX5_windowsOf_19 rfl (lv_at hl 5 rfl) ?_
      refine lv_iadd hx hb dX5_windowsOf_20 ?_
      refine lv_topi (fun y_4 ey_4 => ?_)
      have i_4 : y_4.toInt = i.toInt + p1.toInt := ki_add ey_4 rfl rfl (om_182 b0 LP1_h0) (om_183 a1 b1 LP1_h1)
      refine lv_aload_n hx hb dX5_windowsOf_21 rfl (lv_at hl 3 rfl) ?_
      refine va_get (D := (dC, dI)) (ci := 5) (v := .int m_n) (C := RX5) (T := TX5) (N := 30) hx hb hts hi_5 hown hK hP 0 rfl rfl 1 (by decide) hf_84 (fun _ h9 => h9) rfl dX5_windowsOf_22 ?_
      refine lv_icmp_gt (tgt := 80) hx hb dX5_windowsOf_25 (by decide) (fun c_5 => ?_) (fun c_5 => ?_)
      · have i_5 : m_n.toInt < y_4.toInt := kc_lt c_5
        refine lv_iload hx hb dX5_windowsOf_80 (lv_at hl 2 rfl) ?_
        exact W.iret (v := sm) hx hb hr (fun t ht hW => ⟨sm, rfl, trivial, ht⟩) (fun q hq => by cases hq) dX5_windowsOf_82
      · have i_5 : y_4.toInt ≤ m_n.toInt := kc_nlt c_5
        refine lv_aload_n hx hb dX5_windowsOf_28 rfl (lv_at hl 3 rfl) ?_
        refine va_get (D := (dC, dI)) (ci := 5) (v := .ref g_row) (C := RX5) (T := TX5) (N := 30) hx hb hts hi_5 hown hK hP 0 rfl rfl 0 (by decide) hf_7 (fun _ h9 => h9) rfl dX5_windowsOf_29 ?_
        refine lv_iload hx hb dX5_windowsOf_32 (lv_at hl 0 rfl) ?_
        refine lv_iload_n hx hb dX5_windowsOf_34 rfl (lv_at hl 5 rfl) ?_
        refine lv_iadd hx hb dX5_windowsOf_35 ?_
        refine lv_topi (fun y_6 ey_6 => ?_)
        have i_6 : y_6.toInt = i.toInt + p1.toInt := ki_add ey_6 rfl rfl (om_182 b0 LP1_h0) (om_184 a1 i_4 i_5)
        refine lv_iconst (v := 1) hx hb dX5_windowsOf_36 (by decide) ?_
        refine lv_isub hx hb dX5_windowsOf_37 ?_
        refine lv_topi (fun y_7 ey_7 => ?_)
        have i_7 : y_7.toInt = y_6.toInt - 1 := ki_sub ey_7 rfl rfl (om_185 b0 LP1_h0 i_6) (om_186 a1 i_4 i_5 i_6)
        refine va_iald hx hb hK hP 1 0 rfl rfl (ki_in (om_187 b0 LP1_h0 i_6 i_7) (om_188 a1 i_4 i_5 i_6 i_7)) dX5_windowsOf_38 ?_
        refine lv_topi (fun y_8 ey_8 => ?_)
        have j_8 : y_8.toInt = (f y_7.toNatClampNeg).toInt := congrArg Int32.toInt ey_8
        refine lv_iload_n hx hb dX5_windowsOf_39 rfl (lv_at hl 4 rfl) ?_
        refine lv_icmp_ne (tgt := 46) hx hb dX5_windowsOf_40 (by decide) (fun c_9 => ?_) (fun c_9 => ?_)
        · have i_9 : ¬ y_8.toInt = p0.toInt := kc_ne c_9
          refine lv_iload hx hb dX5_windowsOf_46 (lv_at hl 1 rfl) ?_
          refine lv_iload hx hb dX5_windowsOf_48 (lv_at hl 7 rfl) ?_
          refine lv_imul hx hb dX5_windowsOf_50 ?_
          refine lv_topi (fun y_10 ey_10 => ?_)
          refine lv_iload_n hx hb dX5_windowsOf_51 rfl (lv_at hl 6 rfl) ?_
          refine lv_iload_n hx hb dX5_windowsOf_52 rfl (lv_at hl 5 rfl) ?_
          refine lv_imul hx hb dX5_windowsOf_53 ?_
          refine lv_topi (fun y_11 ey_11 => ?_)
          refine lv_icmp_le (tgt := 60) hx hb dX5_windowsOf_54 (by decide) (fun c_12 => ?_) (fun c_12 => ?_)
          · have i_12 : y_10.toInt ≤ y_11.toInt := kc_le c_12
            refine lv_aload_n hx hb dX5_windowsOf_60 rfl (lv_at hl 3 rfl) ?_
            refine va_get (D := (dC, dI)) (ci := 5) (v := .ref g_row) (C := RX5) (T := TX5) (N := 30) hx hb hts hi_5 hown hK hP 0 rfl rfl 0 (by decide) hf_7 (fun _ h9 => h9) rfl dX5_windowsOf_61 ?_
            refine lv_iload hx hb dX5_windowsOf_64 (lv_at hl 0 rfl) ?_
            refine va_iald hx hb hK hP 1 0 rfl rfl (ki_in (om_8 LP1_h0) (om_189 a1 b0 i_4 i_5)) dX5_windowsOf_66 ?_
            refine lv_topi (fun y_13 ey_13 => ?_)
            have j_13 : y_13.toInt = (f i.toNatClampNeg).toInt := congrArg Int32.toInt ey_13
            refine lv_iload_n hx hb dX5_windowsOf_67 rfl (lv_at hl 4 rfl) ?_
            refine lv_icmp_ne (tgt := 74) hx hb dX5_windowsOf_68 (by decide) (fun c_14 => ?_) (fun c_14 => ?_)
            · have i_14 : ¬ y_13.toInt = p0.toInt := kc_ne c_14
              obtain ⟨x_15, ex_15⟩ : ∃ y : Int32, y = i + 1 := ⟨_, rfl⟩
              have i_15 : x_15.toInt = i.toInt + 1 := ki_add ex_15 rfl rfl (om_10 LP1_h0) (om_159 a1 LP1_h1)
              refine lv_iinc (v := x_15) (lv' := [(7, .int x_15), (6, .int of), (5, .int sm), (0, .ref h0), (1, .int p0), (2, .int p1), (3, .int p2), (4, .int p3)]) hx hb dX5_windowsOf_74 hl (k := 0) rfl (by rw [ex_15]; rfl) (by decide) rfl (fun ls hl => ?_)
              refine lv_goto (tgt := 17) hx hb dX5_windowsOf_77 (by decide) ?_
              exact ih1 x_15 sm of (om_31 LP1_h0 i_15) (om_190 b0 i_4 i_5 i_15) (om_mu hn1 (om_5 i_15) (om_191 b0 i_4 i_5)) ls (lv_sub hl [0, 1, 2, 3, 4, 5, 6, 7] rfl)
            · have i_14 : y_13.toInt = p0.toInt := kc_eq c_14
              obtain ⟨x_16, ex_16⟩ : ∃ y : Int32, y = of + (-1) := ⟨_, rfl⟩
              refine lv_iinc (v := x_16) (lv' := [(6, .int x_16), (7, .int i), (5, .int sm), (0, .ref h0), (1, .int p0), (2, .int p1), (3, .int p2), (4, .int p3)]) hx hb dX5_windowsOf_71 hl (k := 1) rfl (by rw [ex_16]; rfl) (by decide) rfl (fun ls hl => ?_)
              obtain ⟨x_17, ex_17⟩ : ∃ y : Int32, y = i + 1 := ⟨_, rfl⟩
              have i_17 : x_17.toInt = i.toInt + 1 := ki_add ex_17 rfl rfl (om_10 LP1_h0) (om_159 a1 LP1_h1)
              refine lv_iinc (v := x_17) (lv' := [(7, .int x_17), (6, .int x_16), (5, .int sm), (0, .ref h0), (1, .int p0), (2, .int p1), (3, .int p2), (4, .int p3)]) hx hb dX5_windowsOf_74 hl (k := 1) rfl (by rw [ex_17]; rfl) (by decide) rfl (fun ls hl => ?_)
              refine lv_goto (tgt := 17) hx hb dX5_windowsOf_77 (by decide) ?_
              exact ih1 x_17 sm x_16 (om_31 LP1_h0 i_17) (om_190 b0 i_4 i_5 i_17) (om_mu hn1 (om_5 i_17) (om_191 b0 i_4 i_5)) ls (lv_sub hl [0, 1, 2, 3, 4, 5, 6, 7] rfl)
          · have i_12 : y_11.toInt < y_10.toInt := kc_nle c_12
            obtain ⟨x_18, ex_18⟩ : ∃ y : Int32, y = sm + 1 := ⟨_, rfl⟩
            refine lv_iinc (v := x_18) (lv' := [(5, .int x_18), (7, .int i), (6, .int of), (0, .ref h0), (1, .int p0), (2, .int p1), (3, .int p2), (4, .int p3)]) hx hb dX5_windowsOf_57 hl (k := 2) rfl (by rw [ex_18]; rfl) (by decide) rfl (fun ls hl => ?_)
            refine lv_aload_n hx hb dX5_windowsOf_60 rfl (lv_at hl 3 rfl) ?_
            refine va_get (D := (dC, dI)) (ci := 5) (v := .ref g_row) (C := RX5) (T := TX5) (N := 30) hx hb hts hi_5 hown hK hP 0 rfl rfl 0 (by decide) hf_7 (fun _ h9 => h9) rfl dX5_windowsOf_61 ?_
            refine lv_iload hx hb dX5_windowsOf_64 (lv_at hl 1 rfl) ?_
            refine va_iald hx hb hK hP 1 0 rfl rfl (ki_in (om_8 LP1_h0) (om_189 a1 b0 i_4 i_5)) dX5_windowsOf_66 ?_
            refine lv_topi (fun y_19 ey_19 => ?_)
            have j_19 : y_19.toInt = (f i.toNatClampNeg).toInt := congrArg Int32.toInt ey_19
            refine lv_iload_n hx hb dX5_windowsOf_67 rfl (lv_at hl 4 rfl) ?_
            refine lv_icmp_ne (tgt := 74) hx hb dX5_windowsOf_68 (by decide) (fun c_20 => ?_) (fun c_20 => ?_)
            · have i_20 : ¬ y_19.toInt = p0.toInt := kc_ne c_20
              obtain ⟨x_21, ex_21⟩ : ∃ y : Int32, y = i + 1 := ⟨_, rfl⟩
              have i_21 : x_21.toInt = i.toInt + 1 := ki_add ex_21 rfl rfl (om_10 LP1_h0) (om_159 a1 LP1_h1)
              refine lv_iinc (v := x_21) (lv' := [(7, .int x_21), (5, .int x_18), (6, .int of), (0, .ref h0), (1, .int p0), (2, .int p1), (3, .int p2), (4, .int p3)]) hx hb dX5_windowsOf_74 hl (k := 1) rfl (by rw [ex_21]; rfl) (by decide) rfl (fun ls hl => ?_)
              refine lv_goto (tgt := 17) hx hb dX5_windowsOf_77 (by decide) ?_
              exact ih1 x_21 x_18 of (om_31 LP1_h0 i_21) (om_190 b0 i_4 i_5 i_21) (om_mu hn1 (om_5 i_21) (om_191 b0 i_4 i_5)) ls (lv_sub hl [0, 2, 1, 3, 4, 5, 6, 7] rfl)
            · have i_20 : y_19.toInt = p0.toInt := kc_eq c_20
              obtain ⟨x_22, ex_22⟩ : ∃ y : Int32, y = of + (-1) := ⟨_, rfl⟩
              refine lv_iinc (v := x_22) (lv' := [(6, .int x_22), (5, .int x_18), (7, .int i), (0, .ref h0), (1, .int p0), (2, .int p1), (3, .int p2), (4, .int p3)]) hx hb dX5_windowsOf_71 hl (k := 2) rfl (by rw [ex_22]; rfl) (by decide) rfl (fun ls hl => ?_)
              obtain ⟨x_23, ex_23⟩ : ∃ y : Int32, y = i + 1 := ⟨_, rfl⟩
              have i_23 : x_23.toInt = i.toInt + 1 := ki_add ex_23 rfl rfl (om_10 LP1_h0) (om_159 a1 LP1_h1)
              refine lv_iinc (v := x_23) (lv' := [(7, .int x_23), (6, .int x_22), (5, .int x_18), (0, .ref h0), (1, .int p0), (2, .int p1), (3, .int p2), (4, .int p3)]) hx hb dX5_windowsOf_74 hl (k := 2) rfl (by rw [ex_23]; rfl) (by decide) rfl (fun ls hl => ?_)
              refine lv_goto (tgt := 17) hx hb dX5_windowsOf_77 (by decide) ?_
              exact ih1 x_23 x_18 x_22 (om_31 LP1_h0 i_23) (om_190 b0 i_4 i_5 i_23) (om_mu hn1 (om_5 i_23) (om_191 b0 i_4 i_5)) ls (lv_sub hl [0, 1, 2, 3, 4, 5, 6, 7] rfl)
        · have i_9 : y_8.toInt = p0.toInt := kc_eq c_9
          obtain ⟨x_24, ex_24⟩ : ∃ y : Int32, y = of + 1 := ⟨_, rfl⟩
          refine lv_iinc (v := x_24) (lv' := [(6, .int x_24), (7, .int i), (5, .int sm), (0, .ref h0), (1, .int p0), (2, .int p1), (3, .int p2), (4, .int p3)]) hx hb dX5_windowsOf_43 hl (k := 1) rfl (by rw [ex_24]; rfl) (by decide) rfl (fun ls hl => ?_)
          refine lv_iload hx hb dX5_windowsOf_46 (lv_at hl 0 rfl) ?_
          refine lv_iload hx hb dX5_windowsOf_48 (lv_at hl 7 rfl) ?_
          refine lv_imul hx hb dX5_windowsOf_50 ?_
          refine lv_topi (fun y_25 ey_25 => ?_)
          refine lv_iload_n hx hb dX5_windowsOf_51 rfl (lv_at hl 6 rfl) ?_
          refine lv_iload_n hx hb dX5_windowsOf_52 rfl (lv_at hl 5 rfl) ?_
          refine lv_imul hx hb dX5_windowsOf_53 ?_
          refine lv_topi (fun y_26 ey_26 => ?_)
          refine lv_icmp_le (tgt := 60) hx hb dX5_windowsOf_54 (by decide) (fun c_27 => ?_) (fun c_27 => ?_)
          · have i_27 : y_25.toInt ≤ y_26.toInt := kc_le c_27
            refine lv_aload_n hx hb dX5_windowsOf_60 rfl (lv_at hl 3 rfl) ?_
            refine va_get (D := (dC, dI)) (ci := 5) (v := .ref g_row) (C := RX5) (T := TX5) (N := 30) hx hb hts hi_5 hown hK hP 0 rfl rfl 0 (by decide) hf_7 (fun _ h9 => h9) rfl dX5_windowsOf_61 ?_
            refine lv_iload hx hb dX5_windowsOf_64 (lv_at hl 1 rfl) ?_
            refine va_iald hx hb hK hP 1 0 rfl rfl (ki_in (om_8 LP1_h0) (om_189 a1 b0 i_4 i_5)) dX5_windowsOf_66 ?_
            refine lv_topi (fun y_28 ey_28 => ?_)
            have j_28 : y_28.toInt = (f i.toNatClampNeg).toInt := congrArg Int32.toInt ey_28
            refine lv_iload_n hx hb dX5_windowsOf_67 rfl (lv_at hl 4 rfl) ?_
            refine lv_icmp_ne (tgt := 74) hx hb dX5_windowsOf_68 (by decide) (fun c_29 => ?_) (fun c_29 => ?_)
            · have i_29 : ¬ y_28.toInt = p0.toInt := kc_ne c_29
              obtain ⟨x_30, ex_30⟩ : ∃ y : Int32, y = i + 1 := ⟨_, rfl⟩
              have i_30 : x_30.toInt = i.toInt + 1 := ki_add ex_30 rfl rfl (om_10 LP1_h0) (om_159 a1 LP1_h1)
              refine lv_iinc (v := x_30) (lv' := [(7, .int x_30), (6, .int x_24), (5, .int sm), (0, .ref h0), (1, .int p0), (2, .int p1), (3, .int p2), (4, .int p3)]) hx hb dX5_windowsOf_74 hl (k := 1) rfl (by rw [ex_30]; rfl) (by decide) rfl (fun ls hl => ?_)
              refine lv_goto (tgt := 17) hx hb dX5_windowsOf_77 (by decide) ?_
              exact ih1 x_30 sm x_24 (om_31 LP1_h0 i_30) (om_190 b0 i_4 i_5 i_30) (om_mu hn1 (om_5 i_30) (om_191 b0 i_4 i_5)) ls (lv_sub hl [0, 1, 2, 3, 4, 5, 6, 7] rfl)
            · have i_29 : y_28.toInt = p0.toInt := kc_eq c_29
              obtain ⟨x_31, ex_31⟩ : ∃ y : Int32, y = x_24 + (-1) := ⟨_, rfl⟩
              refine lv_iinc (v := x_31) (lv' := [(6, .int x_31), (7, .int i), (5, .int sm), (0, .ref h0), (1, .int p0), (2, .int p1), (3, .int p2), (4, .int p3)]) hx hb dX5_windowsOf_71 hl (k := 0) rfl (by rw [ex_31]; rfl) (by decide) rfl (fun ls hl => ?_)
              obtain ⟨x_32, ex_32⟩ : ∃ y : Int32, y = i + 1 := ⟨_, rfl⟩
              have i_32 : x_32.toInt = i.toInt + 1 := ki_add ex_32 rfl rfl (om_10 LP1_h0) (om_159 a1 LP1_h1)
              refine lv_iinc (v := x_32) (lv' := [(7, .int x_32), (6, .int x_31), (5, .int sm), (0, .ref h0), (1, .int p0), (2, .int p1), (3, .int p2), (4, .int p3)]) hx hb dX5_windowsOf_74 hl (k := 1) rfl (by rw [ex_32]; rfl) (by decide) rfl (fun ls hl => ?_)
              refine lv_goto (tgt := 17) hx hb dX5_windowsOf_77 (by decide) ?_
              exact ih1 x_32 sm x_31 (om_31 LP1_h0 i_32) (om_190 b0 i_4 i_5 i_32) (om_mu hn1 (om_5 i_32) (om_191 b0 i_4 i_5)) ls (lv_sub hl [0, 1, 2, 3, 4, 5, 6, 7] rfl)
          · have i_27 : y_26.toInt < y_25.toInt := kc_nle c_27
            obtain ⟨x_33, ex_33⟩ : ∃ y : Int32, y = sm + 1 := ⟨_, rfl⟩
            refine lv_iinc (v := x_33) (lv' := [(5, .int x_33), (6, .int x_24), (7, .int i), (0, .ref h0), (1, .int p0), (2, .int p1), (3, .int p2), (4, .int p3)]) hx hb dX5_windowsOf_57 hl (k := 2) rfl (by rw [ex_33]; rfl) (by decide) rfl (fun ls hl => ?_)
            refine lv_aload_n hx hb dX5_windowsOf_60 rfl (lv_at hl 3 rfl) ?_
            refine va_get (D := (dC, dI)) (ci := 5) (v := .ref g_row) (C := RX5) (T := TX5) (N := 30) hx hb hts hi_5 hown hK hP 0 rfl rfl 0 (by decide) hf_7 (fun _ h9 => h9) rfl dX5_windowsOf_61 ?_
            refine lv_iload hx hb dX5_windowsOf_64 (lv_at hl 2 rfl) ?_
            refine va_iald hx hb hK hP 1 0 rfl rfl (ki_in (om_8 LP1_h0) (om_189 a1 b0 i_4 i_5)) dX5_windowsOf_66 ?_
            refine lv_topi (fun y_34 ey_34 => ?_)
            have j_34 : y_34.toInt = (f i.toNatClampNeg).toInt := congrArg Int32.toInt ey_34
            refine lv_iload_n hx hb dX5_windowsOf_67 rfl (lv_at hl 4 rfl) ?_
            refine lv_icmp_ne (tgt := 74) hx hb dX5_windowsOf_68 (by decide) (fun c_35 => ?_) (fun c_35 => ?_)
            · have i_35 : ¬ y_34.toInt = p0.toInt := kc_ne c_35
              obtain ⟨x_36, ex_36⟩ : ∃ y : Int32, y = i + 1 := ⟨_, rfl⟩
              have i_36 : x_36.toInt = i.toInt + 1 := ki_add ex_36 rfl rfl (om_10 LP1_h0) (om_159 a1 LP1_h1)
              refine lv_iinc (v := x_36) (lv' := [(7, .int x_36), (5, .int x_33), (6, .int x_24), (0, .ref h0), (1, .int p0), (2, .int p1), (3, .int p2), (4, .int p3)]) hx hb dX5_windowsOf_74 hl (k := 2) rfl (by rw [ex_36]; rfl) (by decide) rfl (fun ls hl => ?_)
              refine lv_goto (tgt := 17) hx hb dX5_windowsOf_77 (by decide) ?_
              exact ih1 x_36 x_33 x_24 (om_31 LP1_h0 i_36) (om_190 b0 i_4 i_5 i_36) (om_mu hn1 (om_5 i_36) (om_191 b0 i_4 i_5)) ls (lv_sub hl [0, 2, 1, 3, 4, 5, 6, 7] rfl)
            · have i_35 : y_34.toInt = p0.toInt := kc_eq c_35
              obtain ⟨x_37, ex_37⟩ : ∃ y : Int32, y = x_24 + (-1) := ⟨_, rfl⟩
              refine lv_iinc (v := x_37) (lv' := [(6, .int x_37), (5, .int x_33), (7, .int i), (0, .ref h0), (1, .int p0), (2, .int p1), (3, .int p2), (4, .int p3)]) hx hb dX5_windowsOf_71 hl (k := 1) rfl (by rw [ex_37]; rfl) (by decide) rfl (fun ls hl => ?_)
              obtain ⟨x_38, ex_38⟩ : ∃ y : Int32, y = i + 1 := ⟨_, rfl⟩
              have i_38 : x_38.toInt = i.toInt + 1 := ki_add ex_38 rfl rfl (om_10 LP1_h0) (om_159 a1 LP1_h1)
              refine lv_iinc (v := x_38) (lv' := [(7, .int x_38), (6, .int x_37), (5, .int x_33), (0, .ref h0), (1, .int p0), (2, .int p1), (3, .int p2), (4, .int p3)]) hx hb dX5_windowsOf_74 hl (k := 2) rfl (by rw [ex_38]; rfl) (by decide) rfl (fun ls hl => ?_)
              refine lv_goto (tgt := 17) hx hb dX5_windowsOf_77 (by decide) ?_
              exact ih1 x_38 x_33 x_37 (om_31 LP1_h0 i_38) (om_190 b0 i_4 i_5 i_38) (om_mu hn1 (om_5 i_38) (om_191 b0 i_4 i_5)) ls (lv_sub hl [0, 1, 2, 3, 4, 5, 6, 7] rfl)
  have k_39 : (0 : Int32).toInt = 0 := rfl
  have k_40 : (0 : Int32).toInt = 0 := rfl
  exact LP1 ((m_n.toInt - 0 : Int).toNat + 1) 0 0 r_3 om_32 (om_8 a0) (Nat.lt_succ_self _) ls (lv_sub hl [0, 1, 2, 3, 4, 5, 6, 7] rfl)

set_option maxHeartbeats 4000000 in
set_option maxRecDepth 100000 in
theorem c_X5_anyWindows (l : Launch) (dC : Nat → ClassId) (dI : Nat → Nat → Nat) (h0 : Nat) (g_row : Nat) (g_many : Nat) (g_loss : Nat) (g_less : Nat) (g_voteValue : Nat) (g_voteNumber : Nat) (g_allValue : Nat) (g_allNumber : Nat) (g_nodeL : Nat) (g_nodeR : Nat) (g_part : Nat) (g_wasMany : Nat) (g_wasLoss : Nat) (g_wasValue : Nat) (g_wasNumber : Nat) (g_path : Nat) (g_heavyValue : Nat) (g_heavyTimes : Nat) (g_fewest : Nat) (g_which : Nat) (g_met : Nat) (m_n : Int32) (m_slots : Int32) (m_thrown : Int32) (m_allMany : Int32) (m_nodes : Int32) (m_partMany : Int32) (m_pathMany : Int32) (m_heavyMany : Int32) (m_mostMet : Int32) (cyI : ClassId) (f : Nat → Int32) (p0 : Int32) (p1 : Int32) (p2 : Int32) (a0 : 0 ≤ m_n.toInt) (a1 : m_n.toInt ≤ 160) (b0 : 1 ≤ p0.toInt) (b1 : p0.toInt ≤ m_n.toInt) : Met l yX5_anyWindows wsX5_anyWindows ({ frames := 1, cells := 0, slots := 0, locals := 45 }) (va_Pc [.ref h0, .int p0, .int p1, .int p2] (fun U => va_P (dC, dI) vwCl [kx_5 h0 g_row m_n m_slots m_thrown g_many g_loss g_less g_voteValue g_voteNumber g_allValue g_allNumber m_allMany g_nodeL g_nodeR m_nodes g_part m_partMany g_wasMany g_wasLoss g_wasValue g_wasNumber g_path m_pathMany g_heavyValue g_heavyTimes m_heavyMany g_fewest g_which g_met m_mostMet, kx_a g_row cyI 160 f] U.heap ∧ va_K (dC, dI) vwCl [(cyI, .int)] U)) (vp_Si (fun r : Int32 => True)) 0 0 (fun _ => False) := by
  refine Met.ofW (cc := cX5_anyWindows) (maxL := 8) (ret := (some .int)) (by decide) rfl ?_
  intro p e s m args below meth c s₁ B hml hv
  obtain ⟨rfl, hP, hK⟩ := hv
  have hx := B.exec
  have hb := B.bytes
  have hr := B.returns
  have hts := atoms_spec (ws := wsX5_anyWindows) B.pre
  have hown : s.vm.findClass RX5 = some m.cls := findClass_of_methodNamed B.named
  have hlocks := B.notSynchronized
  have hP : va_P (dC, dI) vwCl [kx_5 h0 g_row m_n m_slots m_thrown g_many g_loss g_less g_voteValue g_voteNumber g_allValue g_allNumber m_allMany g_nodeL g_nodeR m_nodes g_part m_partMany g_wasMany g_wasLoss g_wasValue g_wasNumber g_path m_pathMany g_heavyValue g_heavyTimes m_heavyMany g_fewest g_which g_met m_mostMet, kx_a g_row cyI 160 f] s.heap := hP
  have hl := lv_entry ([.ref h0, .int p0, .int p1, .int p2]) (n := 8) (Nat.le_of_ble_eq_true rfl)
  rw [lg_entry_eq]
  generalize (lg_sl ([.ref h0, .int p0, .int p1, .int p2]) ++ List.replicate (8 - (lg_sl ([.ref h0, .int p0, .int p1, .int p2])).length) Slot.unset).toArray = ls at hl ⊢
  have hl : lv_has ls 8 [(0, .ref h0), (1, .int p0), (2, .int p1), (3, .int p2)] := hl
  have hf_84 := hts (.fieldLink RX5 84 "MajorityIndexModel" "n" "I") (List.mem_of_getElem? (i := 1) rfl)
  have hi_5 : ∀ w ∈ u_ws RX5 TX5 30, w ∈ wsX5_anyWindows := fun w h => List.mem_cons_of_mem _ (List.mem_append_right _ h)
  have hf_7 := hts (.fieldLink RX5 7 "MajorityIndexModel" "row" "[I") (List.mem_of_getElem? (i := 2) rfl)
  refine lv_iconst (v := 0) hx hb dX5_anyWindows_0 (by decide) ?_
  refine lv_istore (lv' := [(4, .int 0), (0, .ref h0), (1, .int p0), (2, .int p1), (3, .int p2)]) hx hb dX5_anyWindows_1 hl (by decide) rfl (fun ls hl => ?_)
  refine lv_iconst (v := 0) hx hb dX5_anyWindows_3 (by decide) ?_
  refine lv_istore (lv' := [(5, .int 0), (4, .int 0), (0, .ref h0), (1, .int p0), (2, .int p1), (3, .int p2)]) hx hb dX5_anyWindows_4 hl (by decide) rfl (fun ls hl => ?_)
  have LP1 : ∀ (n : Nat) (i : Int32) (sm : Int32), (0 ≤ i.toInt) → (i.toInt ≤ m_n.toInt) → (m_n.toInt - i.toInt).toNat < n → ∀ (ls : Array Slot), lv_has ls 8 [(5, .int i), (4, .int sm), (0, .ref h0), (1, .int p0), (2, .int p1), (3, .int p2)] → W p l e (headSpec wsX5_anyWindows ({ frames := 1, cells := 0, slots := 0, locals := 45 })).room s m ([.ref h0, .int p0, .int p1, .int p2] : List Value).toArray below meth c s.heap [] 0 0 (MQ below (vp_Si (fun r : Int32 => True)) ([.ref h0, .int p0, .int p1, .int p2] : List Value).toArray s 0 0 (fun _ => False)) (F0 m 6 ls []) := by
    intro n
    induction n with
    | zero => intro i sm LP1_h0 LP1_h1 hn; exact absurd hn (Nat.not_lt_zero _)
    | succ n ih1 =>
      intro i sm LP1_h0 LP1_h1 hn1 ls hl
      refine lv_iload hx hb dX5_anyWindows_6 (lv_at hl 0 rfl) ?_
      refine lv_iload_n hx hb dX5_anyWindows_8 rfl (lv_at hl 3 rfl) ?_
      refine lv_iadd hx hb dX5_anyWindows_9 ?_
      refine lv_topi (fun y_1 ey_1 => ?_)
      have i_1 : y_1.toInt = i.toInt + p0.toInt := ki_add ey_1 rfl rfl (om_182 b0 LP1_h0) (om_183 a1 b1 LP1_h1)
      refine lv_aload_n hx hb dX5_anyWindows_10 rfl (lv_at hl 2 rfl) ?_
      refine va_get (D := (dC, dI)) (ci := 5) (v := .int m_n) (C := RX5) (T := TX5) (N := 30) hx hb hts hi_5 hown hK hP 0 rfl rfl 1 (by decide) hf_84 (fun _ h9 => h9) rfl dX5_anyWindows_11 ?_
      refine lv_icmp_gt (tgt := 90) hx hb dX5_anyWindows_14 (by decide) (fun c_2 => ?_) (fun c_2 => ?_)
      · have i_2 : m_n.toInt < y_1.toInt := kc_lt c_2
        refine lv_iload hx hb dX5_anyWindows_90 (lv_at hl 1 rfl) ?_
        exact W.iret (v := sm) hx hb hr (fun t ht hW => ⟨sm, rfl, trivial, ht⟩) (fun q hq => by cases hq) dX5_anyWindows_92
      · have i_2 : y_1.toInt ≤ m_n.toInt := kc_nlt c_2
        refine lv_iconst (v := 0) hx hb dX5_anyWindows_17 (by decide) ?_
        refine lv_istore (lv' := [(6, .int 0), (5, .int i), (4, .int sm), (0, .ref h0), (1, .int p0), (2, .int p1), (3, .int p2)]) hx hb dX5_anyWindows_18 hl (by decide) rfl (fun ls hl => ?_)
        refine lv_iload hx hb dX5_anyWindows_20 (lv_at hl 1 rfl) ?_
        refine lv_istore (lv' := [(7, .int i), (6, .int 0), (5, .int i), (4, .int sm), (0, .ref h0), (1, .int p0), (2, .int p1), (3, .int p2)]) hx hb dX5_anyWindows_22 hl (by decide) rfl (fun ls hl => ?_)
        have LP2 : ∀ (n : Nat) (j : Int32) (is : Int32), (i.toInt ≤ j.toInt) → (j.toInt ≤ i.toInt + p0.toInt) → (i.toInt + p0.toInt - j.toInt).toNat < n → ∀ (ls : Array Slot), lv_has ls 8 [(7, .int j), (6, .int is), (5, .int i), (4, .int sm), (0, .ref h0), (1, .int p0), (2, .int p1), (3, .int p2)] → W p l e (headSpec wsX5_anyWindows ({ frames := 1, cells := 0, slots := 0, locals := 45 })).room s m ([.ref h0, .int p0, .int p1, .int p2] : List Value).toArray below meth c s.heap [] 0 0 (MQ below (vp_Si (fun r : Int32 => True)) ([.ref h0, .int p0, .int p1, .int p2] : List Value).toArray s 0 0 (fun _ => False)) (F0 m 24 ls []) := by
          intro n
          induction n with
          | zero => intro j is LP2_h0 LP2_h1 hn; exact absurd hn (Nat.not_lt_zero _)
          | succ n ih2 =>
            intro j is LP2_h0 LP2_h1 hn2 ls hl
            refine lv_iload hx hb dX5_anyWindows_24 (lv_at hl 0 rfl) ?_
            refine lv_iload hx hb dX5_anyWindows_26 (lv_at hl 2 rfl) ?_
            refine lv_iload_n hx hb dX5_anyWindows_28 rfl (lv_at hl 5 rfl) ?_
            refine lv_iadd hx hb dX5_anyWindows_29 ?_
            refine lv_topi (fun y_3 ey_3 => ?_)
            have i_3 : y_3.toInt = i.toInt + p0.toInt := ki_add ey_3 rfl rfl (om_182 b0 LP1_h0) (om_184 a1 i_1 i_2)
            refine lv_icmp_ge (tgt := 76) hx hb dX5_anyWindows_30 (by decide) (fun c_4 => ?_) (fun c_4 => ?_)
            · have i_4 : y_3.toInt ≤ j.toInt := kc_le c_4
              refine lv_iload hx hb dX5_anyWindows_76 (lv_at hl 1 rfl) ?_
              refine lv_if_eq (tgt := 84) hx hb dX5_anyWindows_78 (by decide) (fun c_5 => ?_) (fun c_5 => ?_)
              · have i_5 : is.toInt = 0 := kc_eq c_5
                obtain ⟨x_6, ex_6⟩ : ∃ y : Int32, y = i + 1 := ⟨_, rfl⟩
                have i_6 : x_6.toInt = i.toInt + 1 := ki_add ex_6 rfl rfl (om_10 LP1_h0) (om_159 a1 LP1_h1)
                refine lv_iinc (v := x_6) (lv' := [(5, .int x_6), (7, .int j), (6, .int is), (4, .int sm), (0, .ref h0), (1, .int p0), (2, .int p1), (3, .int p2)]) hx hb dX5_anyWindows_84 hl (k := 2) rfl (by rw [ex_6]; rfl) (by decide) rfl (fun ls hl => ?_)
                refine lv_goto (tgt := 6) hx hb dX5_anyWindows_87 (by decide) ?_
                exact ih1 x_6 sm (om_31 LP1_h0 i_6) (om_190 b0 i_1 i_2 i_6) (om_mu hn1 (om_5 i_6) (om_191 b0 i_1 i_2)) ls (lv_sub hl [0, 3, 4, 5, 6, 7] rfl)
              · have i_5 : ¬ is.toInt = 0 := kc_ne c_5
                obtain ⟨x_7, ex_7⟩ : ∃ y : Int32, y = sm + 1 := ⟨_, rfl⟩
                refine lv_iinc (v := x_7) (lv' := [(4, .int x_7), (7, .int j), (6, .int is), (5, .int i), (0, .ref h0), (1, .int p0), (2, .int p1), (3, .int p2)]) hx hb dX5_anyWindows_81 hl (k := 3) rfl (by rw [ex_7]; rfl) (by decide) rfl (fun ls hl => ?_)
                obtain ⟨x_8, ex_8⟩ : ∃ y : Int32, y = i + 1 := ⟨_, rfl⟩
                have i_8 : x_8.toInt = i.toInt + 1 := ki_add ex_8 rfl rfl (om_10 LP1_h0) (om_159 a1 LP1_h1)
                refine lv_iinc (v := x_8) (lv' := [(5, .int x_8), (4, .int x_7), (7, .int j), (6, .int is), (0, .ref h0), (1, .int p0), (2, .int p1), (3, .int p2)]) hx hb dX5_anyWindows_84 hl (k := 3) rfl (by rw [ex_8]; rfl) (by decide) rfl (fun ls hl => ?_)
                refine lv_goto (tgt := 6) hx hb dX5_anyWindows_87 (by decide) ?_
                exact ih1 x_8 x_7 (om_31 LP1_h0 i_8) (om_190 b0 i_1 i_2 i_8) (om_mu hn1 (om_5 i_8) (om_191 b0 i_1 i_2)) ls (lv_sub hl [0, 1, 4, 5, 6, 7] rfl)
            · have i_4 : j.toInt < y_3.toInt := kc_nle c_4
              refine lv_iload hx hb dX5_anyWindows_33 (lv_at hl 1 rfl) ?_
              refine lv_if_ne (tgt := 76) hx hb dX5_anyWindows_35 (by decide) (fun c_9 => ?_) (fun c_9 => ?_)
              · have i_9 : ¬ is.toInt = 0 := kc_ne c_9
                refine lv_iload hx hb dX5_anyWindows_76 (lv_at hl 1 rfl) ?_
                refine lv_if_eq (tgt := 84) hx hb dX5_anyWindows_78 (by decide) (fun c_10 => ?_) (fun c_10 => ?_)
                · have i_10 : is.toInt = 0 := kc_eq c_10
                  obtain ⟨x_11, ex_11⟩ : ∃ y : Int32, y = i + 1 := ⟨_, rfl⟩
                  have i_11 : x_11.toInt = i.toInt + 1 := ki_add ex_11 rfl rfl (om_10 LP1_h0) (om_159 a1 LP1_h1)
                  refine lv_iinc (v := x_11) (lv' := [(5, .int x_11), (7, .int j), (6, .int is), (4, .int sm), (0, .ref h0), (1, .int p0), (2, .int p1), (3, .int p2)]) hx hb dX5_anyWindows_84 hl (k := 2) rfl (by rw [ex_11]; rfl) (by decide) rfl (fun ls hl => ?_)
                  refine lv_goto (tgt := 6) hx hb dX5_anyWindows_87 (by decide) ?_
                  exact ih1 x_11 sm (om_31 LP1_h0 i_11) (om_190 b0 i_1 i_2 i_11) (om_mu hn1 (om_5 i_11) (om_191 b0 i_1 i_2)) ls (lv_sub hl [0, 3, 4, 5, 6, 7] rfl)
                · have i_10 : ¬ is.toInt = 0 := kc_ne c_10
                  obtain ⟨x_12, ex_12⟩ : ∃ y : Int32, y = sm + 1 := ⟨_, rfl⟩
                  refine lv_iinc (v := x_12) (lv' := [(4, .int x_12), (7, .int j), (6, .int is), (5, .int i), (0, .ref h0), (1, .int p0), (2, .int p1), (3, .int p2)]) hx hb dX5_anyWindows_81 hl (k := 3) rfl (by rw [ex_12]; rfl) (by decide) rfl (fun ls hl => ?_)
                  obtain ⟨x_13, ex_13⟩ : ∃ y : Int32, y = i + 1 := ⟨_, rfl⟩
                  have i_13 : x_13.toInt = i.toInt + 1 := ki_add ex_13 rfl rfl (om_10 LP1_h0) (om_159 a1 LP1_h1)
                  refine lv_iinc (v := x_13) (lv' := [(5, .int x_13), (4, .int x_12), (7, .int j), (6, .int is), (0, .ref h0), (1, .int p0), (2, .int p1), (3, .int p2)]) hx hb dX5_anyWindows_84 hl (k := 3) rfl (by rw [ex_13]; rfl) (by decide) rfl (fun ls hl => ?_)
                  refine lv_goto (tgt := 6) hx hb dX5_anyWindows_87 (by decide) ?_
                  exact ih1 x_13 x_12 (om_31 LP1_h0 i_13) (om_190 b0 i_1 i_2 i_13) (om_mu hn1 (om_5 i_13) (om_191 b0 i_1 i_2)) ls (lv_sub hl [0, 1, 4, 5, 6, 7] rfl)
              · have i_9 : is.toInt = 0 := kc_eq c_9
                refine lv_aload_n hx hb dX5_anyWindows_38 rfl (lv_at hl 4 rfl) ?_
                refine lv_aload_n hx hb dX5_anyWindows_39 rfl (lv_at hl 4 rfl) ?_
                refine va_get (D := (dC, dI)) (ci := 5) (v := .ref g_row) (C := RX5) (T := TX5) (N := 30) hx hb hts hi_5 hown hK hP 0 rfl rfl 0 (by decide) hf_7 (fun _ h9 => h9) rfl dX5_anyWindows_40 ?_
                refine lv_iload hx hb dX5_anyWindows_43 (lv_at hl 0 rfl) ?_
                refine va_iald hx hb hK hP 1 0 rfl rfl (ki_in (om_0 LP1_h0 LP2_h0) (om_192 a1 i_1 i_2 i_3 i_4)) dX5_anyWindows_45 ?_
                refine lv_topi (fun y_14 ey_14 => ?_)
                have j_14 : y_14.toInt = (f j.toNatClampNeg).toInt := congrArg Int32.toInt ey_14
                refine lv_iload hx hb dX5_anyWindows_46 (lv_at hl 2 rfl) ?_
                refine lv_iload hx hb dX5_anyWindows_48 (lv_at hl 2 rfl) ?_
                refine lv_iload_n hx hb dX5_anyWindows_50 rfl (lv_at hl 5 rfl) ?_
                refine lv_iadd hx hb dX5_anyWindows_51 ?_
                refine lv_topi (fun y_15 ey_15 => ?_)
                have i_15 : y_15.toInt = i.toInt + p0.toInt := ki_add ey_15 rfl rfl (om_182 b0 LP1_h0) (om_184 a1 i_1 i_2)
                have hPc := hP
                have hKc := hK
                refine vp_callSi (W.runV (As := [.int y_14, .int i, .int y_15]) (rest := []) ⟨hx, hb, hml, hown, hts⟩ (c_X5_times l dC dI h0 g_row g_many g_loss g_less g_voteValue g_voteNumber g_allValue g_allNumber g_nodeL g_nodeR g_part g_wasMany g_wasLoss g_wasValue g_wasNumber g_path g_heavyValue g_heavyTimes g_fewest g_which g_met m_n m_slots m_thrown m_allMany m_nodes m_partMany m_pathMany m_heavyMany m_mostMet cyI f y_14 i y_15 LP1_h0 (om_193 a1 i_1 i_2 i_15)) (cwV 3 hts gX5_anyWindows_X5_times rfl rfl rfl (by decide +kernel) ⟨Nat.le_of_ble_eq_true rfl, Nat.le_of_ble_eq_true rfl⟩) ⟨fun a U g mk q => by obtain ⟨q0, qP, qK⟩ := q; exact ⟨q0, qP, va_K.moved (u := U) (U := U.calling g mk a) (Vm.Alike.refl U.vm) qK⟩, va_recv hKc hPc (ci := 5) (q0 := 0) rfl rfl, fun U hU hW => ⟨rfl, by rw [hU]; exact hPc, va_K.moved hW.alike hKc⟩⟩ rfl rfl hl.1 rfl (lv_room (Nat.le_of_ble_eq_true rfl)) dX5_anyWindows_52 ⟨Nat.le_of_ble_eq_true rfl, Nat.le_of_ble_eq_true rfl⟩) (fun r_16 w_16 => ?_)
                have w_16 : r_16.toInt = (cnt f y_14 i.toNatClampNeg (y_15.toInt - i.toInt).toNat : Int) := w_16
                refine lv_iload_n hx hb dX5_anyWindows_55 rfl (lv_at hl 7 rfl) ?_
                refine lv_imul hx hb dX5_anyWindows_56 ?_
                refine lv_topi (fun y_17 ey_17 => ?_)
                refine lv_iload_n hx hb dX5_anyWindows_57 rfl (lv_at hl 6 rfl) ?_
                refine lv_iload_n hx hb dX5_anyWindows_58 rfl (lv_at hl 5 rfl) ?_
                refine lv_imul hx hb dX5_anyWindows_59 ?_
                refine lv_topi (fun y_18 ey_18 => ?_)
                refine lv_icmp_le (tgt := 67) hx hb dX5_anyWindows_60 (by decide) (fun c_19 => ?_) (fun c_19 => ?_)
                · have i_19 : y_17.toInt ≤ y_18.toInt := kc_le c_19
                  refine lv_iconst (v := 0) hx hb dX5_anyWindows_67 (by decide) ?_
                  refine lv_istore (lv' := [(6, .int 0), (7, .int j), (5, .int i), (4, .int sm), (0, .ref h0), (1, .int p0), (2, .int p1), (3, .int p2)]) hx hb dX5_anyWindows_68 hl (by decide) rfl (fun ls hl => ?_)
                  obtain ⟨x_20, ex_20⟩ : ∃ y : Int32, y = j + 1 := ⟨_, rfl⟩
                  have i_20 : x_20.toInt = j.toInt + 1 := ki_add ex_20 rfl rfl (om_2 LP1_h0 LP2_h0) (om_194 a1 i_1 i_2 LP2_h1)
                  refine lv_iinc (v := x_20) (lv' := [(7, .int x_20), (6, .int 0), (5, .int i), (4, .int sm), (0, .ref h0), (1, .int p0), (2, .int p1), (3, .int p2)]) hx hb dX5_anyWindows_70 hl (k := 1) rfl (by rw [ex_20]; rfl) (by decide) rfl (fun ls hl => ?_)
                  refine lv_goto (tgt := 24) hx hb dX5_anyWindows_73 (by decide) ?_
                  have k_21 : (0 : Int32).toInt = 0 := rfl
                  exact ih2 x_20 0 (om_4 LP2_h0 i_20) (om_195 i_3 i_4 i_20) (om_mu hn2 (om_196 i_20) (om_197 i_3 i_4)) ls (lv_sub hl [0, 1, 2, 3, 4, 5, 6, 7] rfl)
                · have i_19 : y_18.toInt < y_17.toInt := kc_nle c_19
                  refine lv_iconst (v := 1) hx hb dX5_anyWindows_63 (by decide) ?_
                  refine lv_goto (tgt := 68) hx hb dX5_anyWindows_64 (by decide) ?_
                  refine lv_istore (lv' := [(6, .int 1), (7, .int j), (5, .int i), (4, .int sm), (0, .ref h0), (1, .int p0), (2, .int p1), (3, .int p2)]) hx hb dX5_anyWindows_68 hl (by decide) rfl (fun ls hl => ?_)
                  obtain ⟨x_22, ex_22⟩ : ∃ y : Int32, y = j + 1 := ⟨_, rfl⟩
                  have i_22 : x_22.toInt = j.toInt + 1 := ki_add ex_22 rfl rfl (om_2 LP1_h0 LP2_h0) (om_194 a1 i_1 i_2 LP2_h1)
                  refine lv_iinc (v := x_22) (lv' := [(7, .int x_22), (6, .int 1), (5, .int i), (4, .int sm), (0, .ref h0), (1, .int p0), (2, .int p1), (3, .int p2)]) hx hb dX5_anyWindows_70 hl (k := 1) rfl (by rw [ex_22]; rfl) (by decide) rfl (fun ls hl => ?_)
                  refine lv_goto (tgt := 24) hx hb dX5_anyWindows_73 (by decide) ?_
                  have k_23 : (1 : Int32).toInt = 1 := rfl
                  exact ih2 x_22 1 (om_4 LP2_h0 i_22) (om_195 i_3 i_4 i_22) (om_mu hn2 (om_196 i_22) (om_197 i_3 i_4)) ls (lv_sub hl [0, 1, 2, 3, 4, 5, 6, 7] rfl)
        have k_24 : (0 : Int32).toInt = 0 := rfl
        exact LP2 ((i.toInt + p0.toInt - i.toInt : Int).toNat + 1) i 0 om_7 (om_198 b0) (Nat.lt_succ_self _) ls (lv_sub hl [0, 1, 2, 3, 4, 5, 6, 7] rfl)
  have k_25 : (0 : Int32).toInt = 0 := rfl
  have k_26 : (0 : Int32).toInt = 0 := rfl
  exact LP1 ((m_n.toInt - 0 : Int).toNat + 1) 0 0 om_32 (om_8 a0) (Nat.lt_succ_self _) ls (lv_sub hl [0, 1, 2, 3, 4, 5] rfl)

set_option maxHeartbeats 4000000 in
set_option maxRecDepth 100000 in
theorem c_X5_windows (l : Launch) (dC : Nat → ClassId) (dI : Nat → Nat → Nat) (h0 : Nat) (g_row : Nat) (g_many : Nat) (g_loss : Nat) (g_less : Nat) (g_voteValue : Nat) (g_voteNumber : Nat) (g_allValue : Nat) (g_allNumber : Nat) (g_nodeL : Nat) (g_nodeR : Nat) (g_part : Nat) (g_wasMany : Nat) (g_wasLoss : Nat) (g_wasValue : Nat) (g_wasNumber : Nat) (g_path : Nat) (g_heavyValue : Nat) (g_heavyTimes : Nat) (g_fewest : Nat) (g_which : Nat) (g_met : Nat) (m_n : Int32) (m_slots : Int32) (m_thrown : Int32) (m_allMany : Int32) (m_nodes : Int32) (m_partMany : Int32) (m_pathMany : Int32) (m_heavyMany : Int32) (m_mostMet : Int32) (cyI : ClassId) (f : Nat → Int32) (p0 : Int32) (p1 : Int32) (p2 : Int32) (p3 : Int32) (sz : Nat) (a0 : 0 ≤ m_n.toInt) (a1 : m_n.toInt ≤ 160) : Met l yX5_windows wsX5_windows ({ frames := 2, cells := 0, slots := 0, locals := 90 }) (va_Pc [.ref h0, .int p0, .int p1, .int p2, .int p3] (fun U => U.heap.size = sz ∧ va_P (dC, dI) vwCl [kx_5 h0 g_row m_n m_slots m_thrown g_many g_loss g_less g_voteValue g_voteNumber g_allValue g_allNumber m_allMany g_nodeL g_nodeR m_nodes g_part m_partMany g_wasMany g_wasLoss g_wasValue g_wasNumber g_path m_pathMany g_heavyValue g_heavyTimes m_heavyMany g_fewest g_which g_met m_mostMet, kx_a g_row cyI 160 f] U.heap ∧ va_K (dC, dI) vwCl [(cyI, .int)] U ∧ va_D (fun _ => True) [kx_5 h0 g_row m_n m_slots m_thrown g_many g_loss g_less g_voteValue g_voteNumber g_allValue g_allNumber m_allMany g_nodeL g_nodeR m_nodes g_part m_partMany g_wasMany g_wasLoss g_wasValue g_wasNumber g_path m_pathMany g_heavyValue g_heavyTimes m_heavyMany g_fewest g_which g_met m_mostMet, kx_a g_row cyI 160 f])) (va_Qi (fun (r : Int32) (_ : Unit) => True) (fun (_ : Unit) (t : State) => va_P (dC, dI) vwCl [kx_5 h0 g_row m_n m_slots 0 g_many g_loss g_less g_voteValue g_voteNumber g_allValue g_allNumber m_allMany g_nodeL g_nodeR m_nodes g_part m_partMany g_wasMany g_wasLoss g_wasValue g_wasNumber g_path m_pathMany g_heavyValue g_heavyTimes m_heavyMany g_fewest g_which g_met m_mostMet, kx_a g_row cyI 160 f] t.heap ∧ va_K (dC, dI) vwCl [(cyI, .int)] t ∧ va_D (va_A [kx_5 h0 g_row m_n m_slots m_thrown g_many g_loss g_less g_voteValue g_voteNumber g_allValue g_allNumber m_allMany g_nodeL g_nodeR m_nodes g_part m_partMany g_wasMany g_wasLoss g_wasValue g_wasNumber g_path m_pathMany g_heavyValue g_heavyTimes m_heavyMany g_fewest g_which g_met m_mostMet, kx_a g_row cyI 160 f] sz) [kx_5 h0 g_row m_n m_slots 0 g_many g_loss g_less g_voteValue g_voteNumber g_allValue g_allNumber m_allMany g_nodeL g_nodeR m_nodes g_part m_partMany g_wasMany g_wasLoss g_wasValue g_wasNumber g_path m_pathMany g_heavyValue g_heavyTimes m_heavyMany g_fewest g_which g_met m_mostMet, kx_a g_row cyI 160 f]) (va_A [kx_5 h0 g_row m_n m_slots m_thrown g_many g_loss g_less g_voteValue g_voteNumber g_allValue g_allNumber m_allMany g_nodeL g_nodeR m_nodes g_part m_partMany g_wasMany g_wasLoss g_wasValue g_wasNumber g_path m_pathMany g_heavyValue g_heavyTimes m_heavyMany g_fewest g_which g_met m_mostMet, kx_a g_row cyI 160 f] sz)) 0 0 (va_A [kx_5 h0 g_row m_n m_slots m_thrown g_many g_loss g_less g_voteValue g_voteNumber g_allValue g_allNumber m_allMany g_nodeL g_nodeR m_nodes g_part m_partMany g_wasMany g_wasLoss g_wasValue g_wasNumber g_path m_pathMany g_heavyValue g_heavyTimes m_heavyMany g_fewest g_which g_met m_mostMet, kx_a g_row cyI 160 f] sz) := by
  refine Met.ofW (cc := cX5_windows) (maxL := 9) (ret := (some .int)) (by decide) rfl ?_
  intro p e s m args below meth c s₁ B hml hv
  obtain ⟨rfl, hsz, hP, hK, hD0⟩ := hv
  have hx := B.exec
  have hb := B.bytes
  have hr := B.returns
  have hts := atoms_spec (ws := wsX5_windows) B.pre
  have hown : s.vm.findClass RX5 = some m.cls := findClass_of_methodNamed B.named
  have hlocks := B.notSynchronized
  subst hsz
  have hD := hD0.self (sz := s.heap.size)
  generalize hAe : va_A [kx_5 h0 g_row m_n m_slots m_thrown g_many g_loss g_less g_voteValue g_voteNumber g_allValue g_allNumber m_allMany g_nodeL g_nodeR m_nodes g_part m_partMany g_wasMany g_wasLoss g_wasValue g_wasNumber g_path m_pathMany g_heavyValue g_heavyTimes m_heavyMany g_fewest g_which g_met m_mostMet, kx_a g_row cyI 160 f] s.heap.size = A at hD ⊢
  have hA : ∀ q : Nat, s.heap.size ≤ q → A q := fun q h => by rw [← hAe]; exact Or.inr h
  have hS : va_S A s.heap s.heap [] := va_S.rf
  have hP : va_P (dC, dI) vwCl [kx_5 h0 g_row m_n m_slots m_thrown g_many g_loss g_less g_voteValue g_voteNumber g_allValue g_allNumber m_allMany g_nodeL g_nodeR m_nodes g_part m_partMany g_wasMany g_wasLoss g_wasValue g_wasNumber g_path m_pathMany g_heavyValue g_heavyTimes m_heavyMany g_fewest g_which g_met m_mostMet, kx_a g_row cyI 160 f] s.heap := hP
  have hl := lv_entry ([.ref h0, .int p0, .int p1, .int p2, .int p3]) (n := 9) (Nat.le_of_ble_eq_true rfl)
  rw [lg_entry_eq]
  generalize (lg_sl ([.ref h0, .int p0, .int p1, .int p2, .int p3]) ++ List.replicate (9 - (lg_sl ([.ref h0, .int p0, .int p1, .int p2, .int p3])).length) Slot.unset).toArray = ls at hl ⊢
  have hl : lv_has ls 9 [(0, .ref h0), (1, .int p0), (2, .int p1), (3, .int p2), (4, .int p3)] := hl
  have hf_77 := hts (.fieldLink RX5 77 "MajorityIndexModel" "thrown" "I") (List.mem_of_getElem? (i := 1) rfl)
  have hi_5 : ∀ w ∈ u_ws RX5 TX5 30, w ∈ wsX5_windows := fun w h => List.mem_cons_of_mem _ (List.mem_append_right _ h)
  have hf_84 := hts (.fieldLink RX5 84 "MajorityIndexModel" "n" "I") (List.mem_of_getElem? (i := 2) rfl)
  have hk_148 := hts (.constant RX5 148 (-40000)) (List.mem_of_getElem? (i := 3) rfl)
  have hf_7 := hts (.fieldLink RX5 7 "MajorityIndexModel" "row" "[I") (List.mem_of_getElem? (i := 4) rfl)
  refine lv_aload_n hx hb dX5_windows_0 rfl (lv_at hl 0 rfl) ?_
  refine lv_iconst (v := 0) hx hb dX5_windows_1 (by decide) ?_
  refine va_put (D := (dC, dI)) (ci := 5) (v := .int 0) (ty := .int) (C := RX5) (T := TX5) (N := 30) hx hb hts hi_5 tyX5 tyX5_ok nmX5 hown hK hP hD hS 0 rfl rfl 3 (by decide) hf_77 (fun _ h9 => h9) rfl (by decide +kernel) rfl rfl (Nat.le_of_ble_eq_true rfl) dX5_windows_2 (fun H locs hP hD hS => ?_)
  have hP : va_P (dC, dI) vwCl [kx_5 h0 g_row m_n m_slots 0 g_many g_loss g_less g_voteValue g_voteNumber g_allValue g_allNumber m_allMany g_nodeL g_nodeR m_nodes g_part m_partMany g_wasMany g_wasLoss g_wasValue g_wasNumber g_path m_pathMany g_heavyValue g_heavyTimes m_heavyMany g_fewest g_which g_met m_mostMet, kx_a g_row cyI 160 f] H := hP
  have hD : va_D A [kx_5 h0 g_row m_n m_slots 0 g_many g_loss g_less g_voteValue g_voteNumber g_allValue g_allNumber m_allMany g_nodeL g_nodeR m_nodes g_part m_partMany g_wasMany g_wasLoss g_wasValue g_wasNumber g_path m_pathMany g_heavyValue g_heavyTimes m_heavyMany g_fewest g_which g_met m_mostMet, kx_a g_row cyI 160 f] := hD
  refine lv_iload_n hx hb dX5_windows_5 rfl (lv_at hl 1 rfl) ?_
  refine lv_iconst (v := 1) hx hb dX5_windows_6 (by decide) ?_
  refine lv_aload_n hx hb dX5_windows_7 rfl (lv_at hl 0 rfl) ?_
  refine va_get (D := (dC, dI)) (ci := 5) (v := .int m_n) (C := RX5) (T := TX5) (N := 30) hx hb hts hi_5 hown hK hP 0 rfl rfl 1 (by decide) hf_84 (fun _ h9 => h9) rfl dX5_windows_8 ?_
  have hPc := hP.sub (ws' := []) [] rfl
  have hKc := hK.sub (tys' := []) [] rfl
  refine vp_callSi (W.runS (As := [.int p0, .int 1, .int m_n]) (rest := []) ⟨hx, hb, hml, hown, hts⟩ (c_X5_within l dC dI p0 1 m_n) (va_cwS 3 hts gX5_windows_X5_within rfl rfl rfl (by decide +kernel) ⟨Nat.le_of_ble_eq_true rfl, Nat.le_of_ble_eq_true rfl⟩) ⟨fun a U g mk q => by obtain ⟨q0, qP, qK⟩ := q; exact ⟨q0, qP, va_K.moved (u := U) (U := U.calling g mk a) (Vm.Alike.refl U.vm) qK⟩, fun U hU hW => ⟨rfl, by rw [hU]; exact hPc, va_K.moved hW.alike hKc⟩⟩ rfl rfl hl.1 rfl (lv_room (Nat.le_of_ble_eq_true rfl)) dX5_windows_11 ⟨Nat.le_of_ble_eq_true rfl, Nat.le_of_ble_eq_true rfl⟩) (fun r_1 w_1 => ?_)
  rcases w_1 with ⟨rfl, w_1⟩ | ⟨rfl, w_1⟩
  · have w_1 : (1 ≤ p0.toInt ∧ p0.toInt ≤ m_n.toInt) := w_1
    refine lv_if_eq (tgt := 35) hx hb dX5_windows_14 (by decide) (fun c_2 => ?_) (fun c_2 => ?_)
    · exact absurd c_2 (by decide)
    · refine lv_iload_n hx hb dX5_windows_17 rfl (lv_at hl 2 rfl) ?_
      refine lv_iload_n hx hb dX5_windows_18 rfl (lv_at hl 3 rfl) ?_
      have hPc := hP.sub (ws' := []) [] rfl
      have hKc := hK.sub (tys' := []) [] rfl
      refine vp_callSi (W.runS (As := [.int p1, .int p2]) (rest := []) ⟨hx, hb, hml, hown, hts⟩ (c_X5_isShare l dC dI p1 p2) (va_cwS 2 hts gX5_windows_X5_isShare rfl rfl rfl (by decide +kernel) ⟨Nat.le_of_ble_eq_true rfl, Nat.le_of_ble_eq_true rfl⟩) ⟨fun a U g mk q => by obtain ⟨q0, qP, qK⟩ := q; exact ⟨q0, qP, va_K.moved (u := U) (U := U.calling g mk a) (Vm.Alike.refl U.vm) qK⟩, fun U hU hW => ⟨rfl, by rw [hU]; exact hPc, va_K.moved hW.alike hKc⟩⟩ rfl rfl hl.1 rfl (lv_room (Nat.le_of_ble_eq_true rfl)) dX5_windows_19 ⟨Nat.le_of_ble_eq_true rfl, Nat.le_of_ble_eq_true rfl⟩) (fun r_3 w_3 => ?_)
      rcases w_3 with ⟨rfl, w_3⟩ | ⟨rfl, w_3⟩
      · have w_3 : (1 ≤ p1.toInt ∧ p1.toInt ≤ p2.toInt ∧ p2.toInt ≤ 999) := w_3
        refine lv_if_eq (tgt := 35) hx hb dX5_windows_22 (by decide) (fun c_4 => ?_) (fun c_4 => ?_)
        · exact absurd c_4 (by decide)
        · refine lv_iload hx hb dX5_windows_25 (lv_at hl 4 rfl) ?_
          refine lv_iconst (v := 0) hx hb dX5_windows_27 (by decide) ?_
          refine lv_iconst (v := 2) hx hb dX5_windows_28 (by decide) ?_
          have hPc := hP.sub (ws' := []) [] rfl
          have hKc := hK.sub (tys' := []) [] rfl
          refine vp_callSi (W.runS (As := [.int p3, .int 0, .int 2]) (rest := []) ⟨hx, hb, hml, hown, hts⟩ (c_X5_within l dC dI p3 0 2) (va_cwS 3 hts gX5_windows_X5_within rfl rfl rfl (by decide +kernel) ⟨Nat.le_of_ble_eq_true rfl, Nat.le_of_ble_eq_true rfl⟩) ⟨fun a U g mk q => by obtain ⟨q0, qP, qK⟩ := q; exact ⟨q0, qP, va_K.moved (u := U) (U := U.calling g mk a) (Vm.Alike.refl U.vm) qK⟩, fun U hU hW => ⟨rfl, by rw [hU]; exact hPc, va_K.moved hW.alike hKc⟩⟩ rfl rfl hl.1 rfl (lv_room (Nat.le_of_ble_eq_true rfl)) dX5_windows_29 ⟨Nat.le_of_ble_eq_true rfl, Nat.le_of_ble_eq_true rfl⟩) (fun r_5 w_5 => ?_)
          rcases w_5 with ⟨rfl, w_5⟩ | ⟨rfl, w_5⟩
          · have w_5 : (0 ≤ p3.toInt ∧ p3.toInt ≤ 2) := w_5
            refine lv_if_ne (tgt := 48) hx hb dX5_windows_32 (by decide) (fun c_6 => ?_) (fun c_6 => ?_)
            · refine lv_iload hx hb dX5_windows_48 (lv_at hl 4 rfl) ?_
              refine lv_if_ne (tgt := 61) hx hb dX5_windows_50 (by decide) (fun c_7 => ?_) (fun c_7 => ?_)
              · have i_7 : ¬ p3.toInt = 0 := kc_ne c_7
                refine lv_ldc (v := (-40000)) hx hb hown hk_148 dX5_windows_61 ?_
                refine lv_istore (lv' := [(5, .int (-40000)), (0, .ref h0), (1, .int p0), (2, .int p1), (3, .int p2), (4, .int p3)]) hx hb dX5_windows_63 hl (by decide) rfl (fun ls hl => ?_)
                refine lv_iconst (v := 0) hx hb dX5_windows_65 (by decide) ?_
                refine lv_istore (lv' := [(6, .int 0), (5, .int (-40000)), (0, .ref h0), (1, .int p0), (2, .int p1), (3, .int p2), (4, .int p3)]) hx hb dX5_windows_66 hl (by decide) rfl (fun ls hl => ?_)
                refine lv_iconst (v := 0) hx hb dX5_windows_68 (by decide) ?_
                refine lv_istore (lv' := [(7, .int 0), (6, .int 0), (5, .int (-40000)), (0, .ref h0), (1, .int p0), (2, .int p1), (3, .int p2), (4, .int p3)]) hx hb dX5_windows_69 hl (by decide) rfl (fun ls hl => ?_)
                have LP1 : ∀ (n : Nat) (i : Int32) (best : Int32) (most : Int32), (0 ≤ i.toInt) → (m_n.toInt - i.toInt).toNat < n → ∀ (H : Heap) (locs : List Loc), va_P (dC, dI) vwCl [kx_5 h0 g_row m_n m_slots 0 g_many g_loss g_less g_voteValue g_voteNumber g_allValue g_allNumber m_allMany g_nodeL g_nodeR m_nodes g_part m_partMany g_wasMany g_wasLoss g_wasValue g_wasNumber g_path m_pathMany g_heavyValue g_heavyTimes m_heavyMany g_fewest g_which g_met m_mostMet, kx_a g_row cyI 160 f] H → va_D A [kx_5 h0 g_row m_n m_slots 0 g_many g_loss g_less g_voteValue g_voteNumber g_allValue g_allNumber m_allMany g_nodeL g_nodeR m_nodes g_part m_partMany g_wasMany g_wasLoss g_wasValue g_wasNumber g_path m_pathMany g_heavyValue g_heavyTimes m_heavyMany g_fewest g_which g_met m_mostMet, kx_a g_row cyI 160 f] → va_S A s.heap H locs → ∀ (ls : Array Slot), lv_has ls 9 [(7, .int i), (6, .int most), (5, .int best), (0, .ref h0), (1, .int p0), (2, .int p1), (3, .int p2), (4, .int p3)] → W p l e (headSpec wsX5_windows ({ frames := 2, cells := 0, slots := 0, locals := 90 })).room s m ([.ref h0, .int p0, .int p1, .int p2, .int p3] : List Value).toArray below meth c H locs 0 0 (MQ below (va_Qi (fun (r : Int32) (_ : Unit) => True) (fun (_ : Unit) (t : State) => va_P (dC, dI) vwCl [kx_5 h0 g_row m_n m_slots 0 g_many g_loss g_less g_voteValue g_voteNumber g_allValue g_allNumber m_allMany g_nodeL g_nodeR m_nodes g_part m_partMany g_wasMany g_wasLoss g_wasValue g_wasNumber g_path m_pathMany g_heavyValue g_heavyTimes m_heavyMany g_fewest g_which g_met m_mostMet, kx_a g_row cyI 160 f] t.heap ∧ va_K (dC, dI) vwCl [(cyI, .int)] t ∧ va_D A [kx_5 h0 g_row m_n m_slots 0 g_many g_loss g_less g_voteValue g_voteNumber g_allValue g_allNumber m_allMany g_nodeL g_nodeR m_nodes g_part m_partMany g_wasMany g_wasLoss g_wasValue g_wasNumber g_path m_pathMany g_heavyValue g_heavyTimes m_heavyMany g_fewest g_which g_met m_mostMet, kx_a g_row cyI 160 f]) A) ([.ref h0, .int p0, .int p1, .int p2, .int p3] : List Value).toArray s 0 0 A) (F0 m 71 ls []) := by
                  intro n
                  induction n with
                  | zero => intro i best most LP1_h0 hn; exact absurd hn (Nat.not_lt_zero _)
                  | succ n ih1 =>
                    intro i best most LP1_h0 hn1 H locs hP hD hS ls hl
                    refine lv_iload hx hb dX5_windows_71 (lv_at hl 0 rfl) ?_
                    refine lv_aload_n hx hb dX5_windows_73 rfl (lv_at hl 3 rfl) ?_
                    refine va_get (D := (dC, dI)) (ci := 5) (v := .int m_n) (C := RX5) (T := TX5) (N := 30) hx hb hts hi_5 hown hK hP 0 rfl rfl 1 (by decide) hf_84 (fun _ h9 => h9) rfl dX5_windows_74 ?_
                    refine lv_icmp_ge (tgt := 169) hx hb dX5_windows_77 (by decide) (fun c_8 => ?_) (fun c_8 => ?_)
                    · have i_8 : m_n.toInt ≤ i.toInt := kc_le c_8
                      refine lv_iload hx hb dX5_windows_169 (lv_at hl 7 rfl) ?_
                      refine lv_iconst (v := 1) hx hb dX5_windows_171 (by decide) ?_
                      refine lv_icmp_ne (tgt := 180) hx hb dX5_windows_172 (by decide) (fun c_9 => ?_) (fun c_9 => ?_)
                      · have i_9 : ¬ p3.toInt = 1 := kc_ne c_9
                        refine lv_iload hx hb dX5_windows_180 (lv_at hl 1 rfl) ?_
                        have hP9 := hP
                        have hD9 := hD
                        have hK9 := hK
                        exact W.iret (v := most) hx hb hr (fun t ht hW => ⟨⟨most, (), rfl, trivial, by rw [ht]; exact hP9, va_K.moved hW.alike hK9, hD9⟩, hS.F ht⟩) hS.2.2 dX5_windows_182
                      · have i_9 : p3.toInt = 1 := kc_eq c_9
                        refine lv_iload hx hb dX5_windows_175 (lv_at hl 2 rfl) ?_
                        refine lv_goto (tgt := 182) hx hb dX5_windows_177 (by decide) ?_
                        have hP9 := hP
                        have hD9 := hD
                        have hK9 := hK
                        exact W.iret (v := best) hx hb hr (fun t ht hW => ⟨⟨best, (), rfl, trivial, by rw [ht]; exact hP9, va_K.moved hW.alike hK9, hD9⟩, hS.F ht⟩) hS.2.2 dX5_windows_182
                    · have i_8 : i.toInt < m_n.toInt := kc_nle c_8
                      refine lv_aload_n hx hb dX5_windows_80 rfl (lv_at hl 3 rfl) ?_
                      refine lv_aload_n hx hb dX5_windows_81 rfl (lv_at hl 3 rfl) ?_
                      refine va_get (D := (dC, dI)) (ci := 5) (v := .ref g_row) (C := RX5) (T := TX5) (N := 30) hx hb hts hi_5 hown hK hP 0 rfl rfl 0 (by decide) hf_7 (fun _ h9 => h9) rfl dX5_windows_82 ?_
                      refine lv_iload hx hb dX5_windows_85 (lv_at hl 0 rfl) ?_
                      refine va_iald hx hb hK hP 1 0 rfl rfl (ki_in (om_8 LP1_h0) (om_1 a1 i_8)) dX5_windows_87 ?_
                      refine lv_topi (fun y_10 ey_10 => ?_)
                      have j_10 : y_10.toInt = (f i.toNatClampNeg).toInt := congrArg Int32.toInt ey_10
                      refine lv_iconst (v := 0) hx hb dX5_windows_88 (by decide) ?_
                      refine lv_iload hx hb dX5_windows_89 (lv_at hl 0 rfl) ?_
                      have hPc := hP
                      have hKc := hK
                      have k_11 : (0 : Int32).toInt = 0 := rfl
                      refine vp_callSi (W.runV (As := [.int y_10, .int 0, .int i]) (rest := []) ⟨hx, hb, hml, hown, hts⟩ (c_X5_times l dC dI h0 g_row g_many g_loss g_less g_voteValue g_voteNumber g_allValue g_allNumber g_nodeL g_nodeR g_part g_wasMany g_wasLoss g_wasValue g_wasNumber g_path g_heavyValue g_heavyTimes g_fewest g_which g_met m_n m_slots 0 m_allMany m_nodes m_partMany m_pathMany m_heavyMany m_mostMet cyI f y_10 0 i om_32 (om_137 a1 i_8)) (cwV 3 hts gX5_windows_X5_times rfl rfl rfl (by decide +kernel) ⟨Nat.le_of_ble_eq_true rfl, Nat.le_of_ble_eq_true rfl⟩) ⟨fun a U g mk q => by obtain ⟨q0, qP, qK⟩ := q; exact ⟨q0, qP, va_K.moved (u := U) (U := U.calling g mk a) (Vm.Alike.refl U.vm) qK⟩, va_recv hKc hPc (ci := 5) (q0 := 0) rfl rfl, fun U hU hW => ⟨rfl, by rw [hU]; exact hPc, va_K.moved hW.alike hKc⟩⟩ rfl rfl hl.1 rfl (lv_room (Nat.le_of_ble_eq_true rfl)) dX5_windows_91 ⟨Nat.le_of_ble_eq_true rfl, Nat.le_of_ble_eq_true rfl⟩) (fun r_12 w_12 => ?_)
                      have w_12 : r_12.toInt = (cnt f y_10 (0 : Int32).toNatClampNeg (i.toInt - 0).toNat : Int) := w_12
                      refine lv_if_le (tgt := 100) hx hb dX5_windows_94 (by decide) (fun c_13 => ?_) (fun c_13 => ?_)
                      · have i_13 : r_12.toInt ≤ 0 := kc_le c_13
                        refine lv_aload_n hx hb dX5_windows_100 rfl (lv_at hl 3 rfl) ?_
                        refine lv_aload_n hx hb dX5_windows_101 rfl (lv_at hl 3 rfl) ?_
                        refine va_get (D := (dC, dI)) (ci := 5) (v := .ref g_row) (C := RX5) (T := TX5) (N := 30) hx hb hts hi_5 hown hK hP 0 rfl rfl 0 (by decide) hf_7 (fun _ h9 => h9) rfl dX5_windows_102 ?_
                        refine lv_iload hx hb dX5_windows_105 (lv_at hl 0 rfl) ?_
                        refine va_iald hx hb hK hP 1 0 rfl rfl (ki_in (om_8 LP1_h0) (om_1 a1 i_8)) dX5_windows_107 ?_
                        refine lv_topi (fun y_14 ey_14 => ?_)
                        have j_14 : y_14.toInt = (f i.toNatClampNeg).toInt := congrArg Int32.toInt ey_14
                        refine lv_iload_n hx hb dX5_windows_108 rfl (lv_at hl 4 rfl) ?_
                        refine lv_iload_n hx hb dX5_windows_109 rfl (lv_at hl 5 rfl) ?_
                        refine lv_iload_n hx hb dX5_windows_110 rfl (lv_at hl 6 rfl) ?_
                        have hPc := hP
                        have hKc := hK
                        refine vp_callSi (W.runV (As := [.int y_14, .int p0, .int p1, .int p2]) (rest := []) ⟨hx, hb, hml, hown, hts⟩ (c_X5_windowsOf l dC dI h0 g_row g_many g_loss g_less g_voteValue g_voteNumber g_allValue g_allNumber g_nodeL g_nodeR g_part g_wasMany g_wasLoss g_wasValue g_wasNumber g_path g_heavyValue g_heavyTimes g_fewest g_which g_met m_n m_slots 0 m_allMany m_nodes m_partMany m_pathMany m_heavyMany m_mostMet cyI f y_14 p0 p1 p2 a0 a1 (by omega) (by omega)) (cwV 4 hts gX5_windows_X5_windowsOf rfl rfl rfl (by decide +kernel) ⟨Nat.le_of_ble_eq_true rfl, Nat.le_of_ble_eq_true rfl⟩) ⟨fun a U g mk q => by obtain ⟨q0, qP, qK⟩ := q; exact ⟨q0, qP, va_K.moved (u := U) (U := U.calling g mk a) (Vm.Alike.refl U.vm) qK⟩, va_recv hKc hPc (ci := 5) (q0 := 0) rfl rfl, fun U hU hW => ⟨rfl, by rw [hU]; exact hPc, va_K.moved hW.alike hKc⟩⟩ rfl rfl hl.1 rfl (lv_room (Nat.le_of_ble_eq_true rfl)) dX5_windows_111 ⟨Nat.le_of_ble_eq_true rfl, Nat.le_of_ble_eq_true rfl⟩) (fun r_15 w_15 => ?_)
                        refine lv_istore (lv' := [(8, .int r_15), (7, .int i), (6, .int most), (5, .int best), (0, .ref h0), (1, .int p0), (2, .int p1), (3, .int p2), (4, .int p3)]) hx hb dX5_windows_114 hl (by decide) rfl (fun ls hl => ?_)
                        refine lv_iload hx hb dX5_windows_116 (lv_at hl 0 rfl) ?_
                        refine lv_iload hx hb dX5_windows_118 (lv_at hl 2 rfl) ?_
                        refine lv_icmp_lt (tgt := 163) hx hb dX5_windows_120 (by decide) (fun c_16 => ?_) (fun c_16 => ?_)
                        · have i_16 : r_15.toInt < most.toInt := kc_lt c_16
                          obtain ⟨x_17, ex_17⟩ : ∃ y : Int32, y = i + 1 := ⟨_, rfl⟩
                          have i_17 : x_17.toInt = i.toInt + 1 := ki_add ex_17 rfl rfl (om_10 LP1_h0) (om_3 a1 i_8)
                          refine lv_iinc (v := x_17) (lv' := [(7, .int x_17), (8, .int r_15), (6, .int most), (5, .int best), (0, .ref h0), (1, .int p0), (2, .int p1), (3, .int p2), (4, .int p3)]) hx hb dX5_windows_163 hl (k := 1) rfl (by rw [ex_17]; rfl) (by decide) rfl (fun ls hl => ?_)
                          refine lv_goto (tgt := 71) hx hb dX5_windows_166 (by decide) ?_
                          exact ih1 x_17 best most (om_31 LP1_h0 i_17) (om_mu hn1 (om_5 i_17) (om_6 i_8)) _ _ hP hD hS ls (lv_sub hl [0, 2, 3, 4, 5, 6, 7, 8] rfl)
                        · have i_16 : most.toInt ≤ r_15.toInt := kc_nlt c_16
                          refine lv_iload hx hb dX5_windows_123 (lv_at hl 0 rfl) ?_
                          refine lv_if_eq (tgt := 163) hx hb dX5_windows_125 (by decide) (fun c_18 => ?_) (fun c_18 => ?_)
                          · have i_18 : r_15.toInt = 0 := kc_eq c_18
                            obtain ⟨x_19, ex_19⟩ : ∃ y : Int32, y = i + 1 := ⟨_, rfl⟩
                            have i_19 : x_19.toInt = i.toInt + 1 := ki_add ex_19 rfl rfl (om_10 LP1_h0) (om_3 a1 i_8)
                            refine lv_iinc (v := x_19) (lv' := [(7, .int x_19), (8, .int r_15), (6, .int most), (5, .int best), (0, .ref h0), (1, .int p0), (2, .int p1), (3, .int p2), (4, .int p3)]) hx hb dX5_windows_163 hl (k := 1) rfl (by rw [ex_19]; rfl) (by decide) rfl (fun ls hl => ?_)
                            refine lv_goto (tgt := 71) hx hb dX5_windows_166 (by decide) ?_
                            exact ih1 x_19 best most (om_31 LP1_h0 i_19) (om_mu hn1 (om_5 i_19) (om_6 i_8)) _ _ hP hD hS ls (lv_sub hl [0, 2, 3, 4, 5, 6, 7, 8] rfl)
                          · have i_18 : ¬ r_15.toInt = 0 := kc_ne c_18
                            refine lv_iload hx hb dX5_windows_128 (lv_at hl 0 rfl) ?_
                            refine lv_iload hx hb dX5_windows_130 (lv_at hl 2 rfl) ?_
                            refine lv_icmp_ne (tgt := 150) hx hb dX5_windows_132 (by decide) (fun c_20 => ?_) (fun c_20 => ?_)
                            · have i_20 : ¬ r_15.toInt = most.toInt := kc_ne c_20
                              refine lv_aload_n hx hb dX5_windows_150 rfl (lv_at hl 4 rfl) ?_
                              refine va_get (D := (dC, dI)) (ci := 5) (v := .ref g_row) (C := RX5) (T := TX5) (N := 30) hx hb hts hi_5 hown hK hP 0 rfl rfl 0 (by decide) hf_7 (fun _ h9 => h9) rfl dX5_windows_151 ?_
                              refine lv_iload hx hb dX5_windows_154 (lv_at hl 1 rfl) ?_
                              refine va_iald hx hb hK hP 1 0 rfl rfl (ki_in (om_8 LP1_h0) (om_1 a1 i_8)) dX5_windows_156 ?_
                              refine lv_topi (fun y_21 ey_21 => ?_)
                              have j_21 : y_21.toInt = (f i.toNatClampNeg).toInt := congrArg Int32.toInt ey_21
                              refine lv_istore (lv' := [(5, .int y_21), (8, .int r_15), (7, .int i), (6, .int most), (0, .ref h0), (1, .int p0), (2, .int p1), (3, .int p2), (4, .int p3)]) hx hb dX5_windows_157 hl (by decide) rfl (fun ls hl => ?_)
                              refine lv_iload hx hb dX5_windows_159 (lv_at hl 1 rfl) ?_
                              refine lv_istore (lv' := [(6, .int r_15), (5, .int y_21), (8, .int r_15), (7, .int i), (0, .ref h0), (1, .int p0), (2, .int p1), (3, .int p2), (4, .int p3)]) hx hb dX5_windows_161 hl (by decide) rfl (fun ls hl => ?_)
                              obtain ⟨x_22, ex_22⟩ : ∃ y : Int32, y = i + 1 := ⟨_, rfl⟩
                              have i_22 : x_22.toInt = i.toInt + 1 := ki_add ex_22 rfl rfl (om_10 LP1_h0) (om_3 a1 i_8)
                              refine lv_iinc (v := x_22) (lv' := [(7, .int x_22), (6, .int r_15), (5, .int y_21), (8, .int r_15), (0, .ref h0), (1, .int p0), (2, .int p1), (3, .int p2), (4, .int p3)]) hx hb dX5_windows_163 hl (k := 3) rfl (by rw [ex_22]; rfl) (by decide) rfl (fun ls hl => ?_)
                              refine lv_goto (tgt := 71) hx hb dX5_windows_166 (by decide) ?_
                              exact ih1 x_22 y_21 r_15 (om_31 LP1_h0 i_22) (om_mu hn1 (om_5 i_22) (om_6 i_8)) _ _ hP hD hS ls (lv_sub hl [0, 1, 2, 4, 5, 6, 7, 8] rfl)
                            · have i_20 : r_15.toInt = most.toInt := kc_eq c_20
                              refine lv_aload_n hx hb dX5_windows_135 rfl (lv_at hl 4 rfl) ?_
                              refine va_get (D := (dC, dI)) (ci := 5) (v := .ref g_row) (C := RX5) (T := TX5) (N := 30) hx hb hts hi_5 hown hK hP 0 rfl rfl 0 (by decide) hf_7 (fun _ h9 => h9) rfl dX5_windows_136 ?_
                              refine lv_iload hx hb dX5_windows_139 (lv_at hl 1 rfl) ?_
                              refine va_iald hx hb hK hP 1 0 rfl rfl (ki_in (om_8 LP1_h0) (om_1 a1 i_8)) dX5_windows_141 ?_
                              refine lv_topi (fun y_23 ey_23 => ?_)
                              have j_23 : y_23.toInt = (f i.toNatClampNeg).toInt := congrArg Int32.toInt ey_23
                              refine lv_iload hx hb dX5_windows_142 (lv_at hl 3 rfl) ?_
                              refine lv_icmp_le (tgt := 150) hx hb dX5_windows_144 (by decide) (fun c_24 => ?_) (fun c_24 => ?_)
                              · have i_24 : y_23.toInt ≤ best.toInt := kc_le c_24
                                refine lv_aload_n hx hb dX5_windows_150 rfl (lv_at hl 4 rfl) ?_
                                refine va_get (D := (dC, dI)) (ci := 5) (v := .ref g_row) (C := RX5) (T := TX5) (N := 30) hx hb hts hi_5 hown hK hP 0 rfl rfl 0 (by decide) hf_7 (fun _ h9 => h9) rfl dX5_windows_151 ?_
                                refine lv_iload hx hb dX5_windows_154 (lv_at hl 1 rfl) ?_
                                refine va_iald hx hb hK hP 1 0 rfl rfl (ki_in (om_8 LP1_h0) (om_1 a1 i_8)) dX5_windows_156 ?_
                                refine lv_topi (fun y_25 ey_25 => ?_)
                                have j_25 : y_25.toInt = (f i.toNatClampNeg).toInt := congrArg Int32.toInt ey_25
                                refine lv_istore (lv' := [(5, .int y_25), (8, .int r_15), (7, .int i), (6, .int most), (0, .ref h0), (1, .int p0), (2, .int p1), (3, .int p2), (4, .int p3)]) hx hb dX5_windows_157 hl (by decide) rfl (fun ls hl => ?_)
                                refine lv_iload hx hb dX5_windows_159 (lv_at hl 1 rfl) ?_
                                refine lv_istore (lv' := [(6, .int r_15), (5, .int y_25), (8, .int r_15), (7, .int i), (0, .ref h0), (1, .int p0), (2, .int p1), (3, .int p2), (4, .int p3)]) hx hb dX5_windows_161 hl (by decide) rfl (fun ls hl => ?_)
                                obtain ⟨x_26, ex_26⟩ : ∃ y : Int32, y = i + 1 := ⟨_, rfl⟩
                                have i_26 : x_26.toInt = i.toInt + 1 := ki_add ex_26 rfl rfl (om_10 LP1_h0) (om_3 a1 i_8)
                                refine lv_iinc (v := x_26) (lv' := [(7, .int x_26), (6, .int r_15), (5, .int y_25), (8, .int r_15), (0, .ref h0), (1, .int p0), (2, .int p1), (3, .int p2), (4, .int p3)]) hx hb dX5_windows_163 hl (k := 3) rfl (by rw [ex_26]; rfl) (by decide) rfl (fun ls hl => ?_)
                                refine lv_goto (tgt := 71) hx hb dX5_windows_166 (by decide) ?_
                                exact ih1 x_26 y_25 r_15 (om_31 LP1_h0 i_26) (om_mu hn1 (om_5 i_26) (om_6 i_8)) _ _ hP hD hS ls (lv_sub hl [0, 1, 2, 4, 5, 6, 7, 8] rfl)
                              · have i_24 : best.toInt < y_23.toInt := kc_nle c_24
                                refine lv_goto (tgt := 163) hx hb dX5_windows_147 (by decide) ?_
                                obtain ⟨x_27, ex_27⟩ : ∃ y : Int32, y = i + 1 := ⟨_, rfl⟩
                                have i_27 : x_27.toInt = i.toInt + 1 := ki_add ex_27 rfl rfl (om_10 LP1_h0) (om_3 a1 i_8)
                                refine lv_iinc (v := x_27) (lv' := [(7, .int x_27), (8, .int r_15), (6, .int most), (5, .int best), (0, .ref h0), (1, .int p0), (2, .int p1), (3, .int p2), (4, .int p3)]) hx hb dX5_windows_163 hl (k := 1) rfl (by rw [ex_27]; rfl) (by decide) rfl (fun ls hl => ?_)
                                refine lv_goto (tgt := 71) hx hb dX5_windows_166 (by decide) ?_
                                exact ih1 x_27 best most (om_31 LP1_h0 i_27) (om_mu hn1 (om_5 i_27) (om_6 i_8)) _ _ hP hD hS ls (lv_sub hl [0, 2, 3, 4, 5, 6, 7, 8] rfl)
                      · have i_13 : 0 < r_12.toInt := kc_nle c_13
                        refine lv_goto (tgt := 163) hx hb dX5_windows_97 (by decide) ?_
                        obtain ⟨x_28, ex_28⟩ : ∃ y : Int32, y = i + 1 := ⟨_, rfl⟩
                        have i_28 : x_28.toInt = i.toInt + 1 := ki_add ex_28 rfl rfl (om_10 LP1_h0) (om_3 a1 i_8)
                        refine lv_iinc (v := x_28) (lv' := [(7, .int x_28), (6, .int most), (5, .int best), (0, .ref h0), (1, .int p0), (2, .int p1), (3, .int p2), (4, .int p3)]) hx hb dX5_windows_163 hl (k := 0) rfl (by rw [ex_28]; rfl) (by decide) rfl (fun ls hl => ?_)
                        refine lv_goto (tgt := 71) hx hb dX5_windows_166 (by decide) ?_
                        exact ih1 x_28 best most (om_31 LP1_h0 i_28) (om_mu hn1 (om_5 i_28) (om_6 i_8)) _ _ hP hD hS ls (lv_sub hl [0, 1, 2, 3, 4, 5, 6, 7] rfl)
                have k_29 : (0 : Int32).toInt = 0 := rfl
                have k_30 : ((-40000) : Int32).toInt = -40000 := rfl
                have k_31 : (0 : Int32).toInt = 0 := rfl
                exact LP1 ((m_n.toInt - 0 : Int).toNat + 1) 0 (-40000) 0 om_32 (Nat.lt_succ_self _) _ _ hP hD hS ls (lv_sub hl [0, 1, 2, 3, 4, 5, 6, 7] rfl)
              · have i_7 : p3.toInt = 0 := kc_eq c_7
                refine lv_aload_n hx hb dX5_windows_53 rfl (lv_at hl 0 rfl) ?_
                refine lv_iload_n hx hb dX5_windows_54 rfl (lv_at hl 1 rfl) ?_
                refine lv_iload_n hx hb dX5_windows_55 rfl (lv_at hl 2 rfl) ?_
                refine lv_iload_n hx hb dX5_windows_56 rfl (lv_at hl 3 rfl) ?_
                have hPc := hP
                have hKc := hK
                refine vp_callSi (W.runV (As := [.int p0, .int p1, .int p2]) (rest := []) ⟨hx, hb, hml, hown, hts⟩ (c_X5_anyWindows l dC dI h0 g_row g_many g_loss g_less g_voteValue g_voteNumber g_allValue g_allNumber g_nodeL g_nodeR g_part g_wasMany g_wasLoss g_wasValue g_wasNumber g_path g_heavyValue g_heavyTimes g_fewest g_which g_met m_n m_slots 0 m_allMany m_nodes m_partMany m_pathMany m_heavyMany m_mostMet cyI f p0 p1 p2 a0 a1 (by omega) (by omega)) (cwV 3 hts gX5_windows_X5_anyWindows rfl rfl rfl (by decide +kernel) ⟨Nat.le_of_ble_eq_true rfl, Nat.le_of_ble_eq_true rfl⟩) ⟨fun a U g mk q => by obtain ⟨q0, qP, qK⟩ := q; exact ⟨q0, qP, va_K.moved (u := U) (U := U.calling g mk a) (Vm.Alike.refl U.vm) qK⟩, va_recv hKc hPc (ci := 5) (q0 := 0) rfl rfl, fun U hU hW => ⟨rfl, by rw [hU]; exact hPc, va_K.moved hW.alike hKc⟩⟩ rfl rfl hl.1 rfl (lv_room (Nat.le_of_ble_eq_true rfl)) dX5_windows_57 ⟨Nat.le_of_ble_eq_true rfl, Nat.le_of_ble_eq_true rfl⟩) (fun r_32 w_32 => ?_)
                have hP9 := hP
                have hD9 := hD
                have hK9 := hK
                exact W.iret (v := r_32) hx hb hr (fun t ht hW => ⟨⟨r_32, (), rfl, trivial, by rw [ht]; exact hP9, va_K.moved hW.alike hK9, hD9⟩, hS.F ht⟩) hS.2.2 dX5_windows_60
            · exact absurd c_6 (by decide)
          · have w_5 : (p3.toInt < 0 ∨ 2 < p3.toInt) := w_5
            refine lv_if_ne (tgt := 48) hx hb dX5_windows_32 (by decide) (fun c_33 => ?_) (fun c_33 => ?_)
            · exact absurd c_33 (by decide)
            · refine lv_iload hx hb dX5_windows_35 (lv_at hl 4 rfl) ?_
              refine lv_iconst (v := 1) hx hb dX5_windows_37 (by decide) ?_
              refine lv_icmp_ne (tgt := 46) hx hb dX5_windows_38 (by decide) (fun c_34 => ?_) (fun c_34 => ?_)
              · have i_34 : ¬ p3.toInt = 1 := kc_ne c_34
                refine lv_iconst (v := (-1)) hx hb dX5_windows_46 (by decide) ?_
                have hP9 := hP
                have hD9 := hD
                have hK9 := hK
                exact W.iret (v := (-1)) hx hb hr (fun t ht hW => ⟨⟨(-1), (), rfl, trivial, by rw [ht]; exact hP9, va_K.moved hW.alike hK9, hD9⟩, hS.F ht⟩) hS.2.2 dX5_windows_47
              · have i_34 : p3.toInt = 1 := kc_eq c_34
                exfalso; omega
      · have w_3 : (p1.toInt < 1 ∨ p2.toInt < p1.toInt ∨ 999 < p2.toInt) := w_3
        refine lv_if_eq (tgt := 35) hx hb dX5_windows_22 (by decide) (fun c_35 => ?_) (fun c_35 => ?_)
        · refine lv_iload hx hb dX5_windows_35 (lv_at hl 4 rfl) ?_
          refine lv_iconst (v := 1) hx hb dX5_windows_37 (by decide) ?_
          refine lv_icmp_ne (tgt := 46) hx hb dX5_windows_38 (by decide) (fun c_36 => ?_) (fun c_36 => ?_)
          · have i_36 : ¬ p3.toInt = 1 := kc_ne c_36
            refine lv_iconst (v := (-1)) hx hb dX5_windows_46 (by decide) ?_
            have hP9 := hP
            have hD9 := hD
            have hK9 := hK
            exact W.iret (v := (-1)) hx hb hr (fun t ht hW => ⟨⟨(-1), (), rfl, trivial, by rw [ht]; exact hP9, va_K.moved hW.alike hK9, hD9⟩, hS.F ht⟩) hS.2.2 dX5_windows_47
          · have i_36 : p3.toInt = 1 := kc_eq c_36
            refine lv_ldc (v := (-40000)) hx hb hown hk_148 dX5_windows_41 ?_
            refine lv_goto (tgt := 47) hx hb dX5_windows_43 (by decide) ?_
            have hP9 := hP
            have hD9 := hD
            have hK9 := hK
            exact W.iret (v := (-40000)) hx hb hr (fun t ht hW => ⟨⟨(-40000), (), rfl, trivial, by rw [ht]; exact hP9, va_K.moved hW.alike hK9, hD9⟩, hS.F ht⟩) hS.2.2 dX5_windows_47
        · exact absurd c_35 (by decide)
  · have w_1 : (p0.toInt < 1 ∨ m_n.toInt < p0.toInt) := w_1
    refine lv_if_eq (tgt := 35) hx hb dX5_windows_14 (by decide) (fun c_37 => ?_) (fun c_37 => ?_)
    · refine lv_iload hx hb dX5_windows_35 (lv_at hl 4 rfl) ?_
      refine lv_iconst (v := 1) hx hb dX5_windows_37 (by decide) ?_
      refine lv_icmp_ne (tgt := 46) hx hb dX5_windows_38 (by decide) (fun c_38 => ?_) (fun c_38 => ?_)
      · have i_38 : ¬ p3.toInt = 1 := kc_ne c_38
        refine lv_iconst (v := (-1)) hx hb dX5_windows_46 (by decide) ?_
        have hP9 := hP
        have hD9 := hD
        have hK9 := hK
        exact W.iret (v := (-1)) hx hb hr (fun t ht hW => ⟨⟨(-1), (), rfl, trivial, by rw [ht]; exact hP9, va_K.moved hW.alike hK9, hD9⟩, hS.F ht⟩) hS.2.2 dX5_windows_47
      · have i_38 : p3.toInt = 1 := kc_eq c_38
        refine lv_ldc (v := (-40000)) hx hb hown hk_148 dX5_windows_41 ?_
        refine lv_goto (tgt := 47) hx hb dX5_windows_43 (by decide) ?_
        have hP9 := hP
        have hD9 := hD
        have hK9 := hK
        exact W.iret (v := (-40000)) hx hb hr (fun t ht hW => ⟨⟨(-40000), (), rfl, trivial, by rw [ht]; exact hP9, va_K.moved hW.alike hK9, hD9⟩, hS.F ht⟩) hS.2.2 dX5_windows_47
    · exact absurd c_37 (by decide)

set_option maxHeartbeats 4000000 in
set_option maxRecDepth 100000 in
theorem c_X5_needs (l : Launch) (dC : Nat → ClassId) (dI : Nat → Nat → Nat) (h0 : Nat) (g_row : Nat) (g_many : Nat) (g_loss : Nat) (g_less : Nat) (g_voteValue : Nat) (g_voteNumber : Nat) (g_allValue : Nat) (g_allNumber : Nat) (g_nodeL : Nat) (g_nodeR : Nat) (g_part : Nat) (g_wasMany : Nat) (g_wasLoss : Nat) (g_wasValue : Nat) (g_wasNumber : Nat) (g_path : Nat) (g_heavyValue : Nat) (g_heavyTimes : Nat) (g_fewest : Nat) (g_which : Nat) (g_met : Nat) (m_n : Int32) (m_slots : Int32) (m_thrown : Int32) (m_allMany : Int32) (m_nodes : Int32) (m_partMany : Int32) (m_pathMany : Int32) (m_heavyMany : Int32) (m_mostMet : Int32) (cyI : ClassId) (f : Nat → Int32) (p0 : Int32) (p1 : Int32) (p2 : Int32) (p3 : Int32) (p4 : Int32) (sz : Nat) (a0 : 0 ≤ m_n.toInt) (a1 : m_n.toInt ≤ 160) : Met l yX5_needs wsX5_needs ({ frames := 2, cells := 0, slots := 0, locals := 90 }) (va_Pc [.ref h0, .int p0, .int p1, .int p2, .int p3, .int p4] (fun U => U.heap.size = sz ∧ va_P (dC, dI) vwCl [kx_5 h0 g_row m_n m_slots m_thrown g_many g_loss g_less g_voteValue g_voteNumber g_allValue g_allNumber m_allMany g_nodeL g_nodeR m_nodes g_part m_partMany g_wasMany g_wasLoss g_wasValue g_wasNumber g_path m_pathMany g_heavyValue g_heavyTimes m_heavyMany g_fewest g_which g_met m_mostMet, kx_a g_row cyI 160 f] U.heap ∧ va_K (dC, dI) vwCl [(cyI, .int)] U ∧ va_D (fun _ => True) [kx_5 h0 g_row m_n m_slots m_thrown g_many g_loss g_less g_voteValue g_voteNumber g_allValue g_allNumber m_allMany g_nodeL g_nodeR m_nodes g_part m_partMany g_wasMany g_wasLoss g_wasValue g_wasNumber g_path m_pathMany g_heavyValue g_heavyTimes m_heavyMany g_fewest g_which g_met m_mostMet, kx_a g_row cyI 160 f])) (va_Qi (fun (r : Int32) (_ : Unit) => True) (fun (_ : Unit) (t : State) => va_P (dC, dI) vwCl [kx_5 h0 g_row m_n m_slots 0 g_many g_loss g_less g_voteValue g_voteNumber g_allValue g_allNumber m_allMany g_nodeL g_nodeR m_nodes g_part m_partMany g_wasMany g_wasLoss g_wasValue g_wasNumber g_path m_pathMany g_heavyValue g_heavyTimes m_heavyMany g_fewest g_which g_met m_mostMet, kx_a g_row cyI 160 f] t.heap ∧ va_K (dC, dI) vwCl [(cyI, .int)] t ∧ va_D (va_A [kx_5 h0 g_row m_n m_slots m_thrown g_many g_loss g_less g_voteValue g_voteNumber g_allValue g_allNumber m_allMany g_nodeL g_nodeR m_nodes g_part m_partMany g_wasMany g_wasLoss g_wasValue g_wasNumber g_path m_pathMany g_heavyValue g_heavyTimes m_heavyMany g_fewest g_which g_met m_mostMet, kx_a g_row cyI 160 f] sz) [kx_5 h0 g_row m_n m_slots 0 g_many g_loss g_less g_voteValue g_voteNumber g_allValue g_allNumber m_allMany g_nodeL g_nodeR m_nodes g_part m_partMany g_wasMany g_wasLoss g_wasValue g_wasNumber g_path m_pathMany g_heavyValue g_heavyTimes m_heavyMany g_fewest g_which g_met m_mostMet, kx_a g_row cyI 160 f]) (va_A [kx_5 h0 g_row m_n m_slots m_thrown g_many g_loss g_less g_voteValue g_voteNumber g_allValue g_allNumber m_allMany g_nodeL g_nodeR m_nodes g_part m_partMany g_wasMany g_wasLoss g_wasValue g_wasNumber g_path m_pathMany g_heavyValue g_heavyTimes m_heavyMany g_fewest g_which g_met m_mostMet, kx_a g_row cyI 160 f] sz)) 0 0 (va_A [kx_5 h0 g_row m_n m_slots m_thrown g_many g_loss g_less g_voteValue g_voteNumber g_allValue g_allNumber m_allMany g_nodeL g_nodeR m_nodes g_part m_partMany g_wasMany g_wasLoss g_wasValue g_wasNumber g_path m_pathMany g_heavyValue g_heavyTimes m_heavyMany g_fewest g_which g_met m_mostMet, kx_a g_row cyI 160 f] sz) := by
  refine Met.ofW (cc := cX5_needs) (maxL := 8) (ret := (some .int)) (by decide) rfl ?_
  intro p e s m args below meth c s₁ B hml hv
  obtain ⟨rfl, hsz, hP, hK, hD0⟩ := hv
  have hx := B.exec
  have hb := B.bytes
  have hr := B.returns
  have hts := atoms_spec (ws := wsX5_needs) B.pre
  have hown : s.vm.findClass RX5 = some m.cls := findClass_of_methodNamed B.named
  have hlocks := B.notSynchronized
  subst hsz
  have hD := hD0.self (sz := s.heap.size)
  generalize hAe : va_A [kx_5 h0 g_row m_n m_slots m_thrown g_many g_loss g_less g_voteValue g_voteNumber g_allValue g_allNumber m_allMany g_nodeL g_nodeR m_nodes g_part m_partMany g_wasMany g_wasLoss g_wasValue g_wasNumber g_path m_pathMany g_heavyValue g_heavyTimes m_heavyMany g_fewest g_which g_met m_mostMet, kx_a g_row cyI 160 f] s.heap.size = A at hD ⊢
  have hA : ∀ q : Nat, s.heap.size ≤ q → A q := fun q h => by rw [← hAe]; exact Or.inr h
  have hS : va_S A s.heap s.heap [] := va_S.rf
  have hP : va_P (dC, dI) vwCl [kx_5 h0 g_row m_n m_slots m_thrown g_many g_loss g_less g_voteValue g_voteNumber g_allValue g_allNumber m_allMany g_nodeL g_nodeR m_nodes g_part m_partMany g_wasMany g_wasLoss g_wasValue g_wasNumber g_path m_pathMany g_heavyValue g_heavyTimes m_heavyMany g_fewest g_which g_met m_mostMet, kx_a g_row cyI 160 f] s.heap := hP
  have hl := lv_entry ([.ref h0, .int p0, .int p1, .int p2, .int p3, .int p4]) (n := 8) (Nat.le_of_ble_eq_true rfl)
  rw [lg_entry_eq]
  generalize (lg_sl ([.ref h0, .int p0, .int p1, .int p2, .int p3, .int p4]) ++ List.replicate (8 - (lg_sl ([.ref h0, .int p0, .int p1, .int p2, .int p3, .int p4])).length) Slot.unset).toArray = ls at hl ⊢
  have hl : lv_has ls 8 [(0, .ref h0), (1, .int p0), (2, .int p1), (3, .int p2), (4, .int p3), (5, .int p4)] := hl
  have hf_77 := hts (.fieldLink RX5 77 "MajorityIndexModel" "thrown" "I") (List.mem_of_getElem? (i := 1) rfl)
  have hi_5 : ∀ w ∈ u_ws RX5 TX5 30, w ∈ wsX5_needs := fun w h => List.mem_cons_of_mem _ (List.mem_append_right _ h)
  refine lv_aload_n hx hb dX5_needs_0 rfl (lv_at hl 0 rfl) ?_
  refine lv_iconst (v := 0) hx hb dX5_needs_1 (by decide) ?_
  refine va_put (D := (dC, dI)) (ci := 5) (v := .int 0) (ty := .int) (C := RX5) (T := TX5) (N := 30) hx hb hts hi_5 tyX5 tyX5_ok nmX5 hown hK hP hD hS 0 rfl rfl 3 (by decide) hf_77 (fun _ h9 => h9) rfl (by decide +kernel) rfl rfl (Nat.le_of_ble_eq_true rfl) dX5_needs_2 (fun H locs hP hD hS => ?_)
  have hP : va_P (dC, dI) vwCl [kx_5 h0 g_row m_n m_slots 0 g_many g_loss g_less g_voteValue g_voteNumber g_allValue g_allNumber m_allMany g_nodeL g_nodeR m_nodes g_part m_partMany g_wasMany g_wasLoss g_wasValue g_wasNumber g_path m_pathMany g_heavyValue g_heavyTimes m_heavyMany g_fewest g_which g_met m_mostMet, kx_a g_row cyI 160 f] H := hP
  have hD : va_D A [kx_5 h0 g_row m_n m_slots 0 g_many g_loss g_less g_voteValue g_voteNumber g_allValue g_allNumber m_allMany g_nodeL g_nodeR m_nodes g_part m_partMany g_wasMany g_wasLoss g_wasValue g_wasNumber g_path m_pathMany g_heavyValue g_heavyTimes m_heavyMany g_fewest g_which g_met m_mostMet, kx_a g_row cyI 160 f] := hD
  refine lv_iload_n hx hb dX5_needs_5 rfl (lv_at hl 1 rfl) ?_
  have hPc := hP.sub (ws' := []) [] rfl
  have hKc := hK.sub (tys' := []) [] rfl
  refine vp_callSi (W.runS (As := [.int p0]) (rest := []) ⟨hx, hb, hml, hown, hts⟩ (c_X5_isValue l dC dI p0) (va_cwS 1 hts gX5_needs_X5_isValue rfl rfl rfl (by decide +kernel) ⟨Nat.le_of_ble_eq_true rfl, Nat.le_of_ble_eq_true rfl⟩) ⟨fun a U g mk q => by obtain ⟨q0, qP, qK⟩ := q; exact ⟨q0, qP, va_K.moved (u := U) (U := U.calling g mk a) (Vm.Alike.refl U.vm) qK⟩, fun U hU hW => ⟨rfl, by rw [hU]; exact hPc, va_K.moved hW.alike hKc⟩⟩ rfl rfl hl.1 rfl (lv_room (Nat.le_of_ble_eq_true rfl)) dX5_needs_6 ⟨Nat.le_of_ble_eq_true rfl, Nat.le_of_ble_eq_true rfl⟩) (fun r_1 w_1 => ?_)
  rcases w_1 with ⟨rfl, w_1⟩ | ⟨rfl, w_1⟩
  · have w_1 : (-32768 ≤ p0.toInt ∧ p0.toInt ≤ 32767) := w_1
    refine lv_if_eq (tgt := 31) hx hb dX5_needs_9 (by decide) (fun c_2 => ?_) (fun c_2 => ?_)
    · exact absurd c_2 (by decide)
    · refine lv_aload_n hx hb dX5_needs_12 rfl (lv_at hl 0 rfl) ?_
      refine lv_iload_n hx hb dX5_needs_13 rfl (lv_at hl 2 rfl) ?_
      refine lv_iload_n hx hb dX5_needs_14 rfl (lv_at hl 3 rfl) ?_
      have hPc := hP.sub (ws' := [kx_5 h0 g_row m_n m_slots 0 g_many g_loss g_less g_voteValue g_voteNumber g_allValue g_allNumber m_allMany g_nodeL g_nodeR m_nodes g_part m_partMany g_wasMany g_wasLoss g_wasValue g_wasNumber g_path m_pathMany g_heavyValue g_heavyTimes m_heavyMany g_fewest g_which g_met m_mostMet]) [0] rfl
      have hKc := hK.sub (tys' := []) [] rfl
      refine vp_callSi (W.runV (As := [.int p1, .int p2]) (rest := []) ⟨hx, hb, hml, hown, hts⟩ (c_X5_isRange l dC dI h0 g_row g_many g_loss g_less g_voteValue g_voteNumber g_allValue g_allNumber g_nodeL g_nodeR g_part g_wasMany g_wasLoss g_wasValue g_wasNumber g_path g_heavyValue g_heavyTimes g_fewest g_which g_met m_n m_slots 0 m_allMany m_nodes m_partMany m_pathMany m_heavyMany m_mostMet p1 p2) (cwV 2 hts gX5_needs_X5_isRange rfl rfl rfl (by decide +kernel) ⟨Nat.le_of_ble_eq_true rfl, Nat.le_of_ble_eq_true rfl⟩) ⟨fun a U g mk q => by obtain ⟨q0, qP, qK⟩ := q; exact ⟨q0, qP, va_K.moved (u := U) (U := U.calling g mk a) (Vm.Alike.refl U.vm) qK⟩, va_recv hKc hPc (ci := 5) (q0 := 0) rfl rfl, fun U hU hW => ⟨rfl, by rw [hU]; exact hPc, va_K.moved hW.alike hKc⟩⟩ rfl rfl hl.1 rfl (lv_room (Nat.le_of_ble_eq_true rfl)) dX5_needs_15 ⟨Nat.le_of_ble_eq_true rfl, Nat.le_of_ble_eq_true rfl⟩) (fun r_3 w_3 => ?_)
      rcases w_3 with ⟨rfl, w_3⟩ | ⟨rfl, w_3⟩
      · have w_3 : (0 ≤ p1.toInt ∧ p1.toInt < p2.toInt ∧ p2.toInt ≤ m_n.toInt) := w_3
        refine lv_if_eq (tgt := 31) hx hb dX5_needs_18 (by decide) (fun c_4 => ?_) (fun c_4 => ?_)
        · exact absurd c_4 (by decide)
        · refine lv_iload hx hb dX5_needs_21 (lv_at hl 4 rfl) ?_
          refine lv_iload hx hb dX5_needs_23 (lv_at hl 5 rfl) ?_
          have hPc := hP.sub (ws' := []) [] rfl
          have hKc := hK.sub (tys' := []) [] rfl
          refine vp_callSi (W.runS (As := [.int p3, .int p4]) (rest := []) ⟨hx, hb, hml, hown, hts⟩ (c_X5_isShare l dC dI p3 p4) (va_cwS 2 hts gX5_needs_X5_isShare rfl rfl rfl (by decide +kernel) ⟨Nat.le_of_ble_eq_true rfl, Nat.le_of_ble_eq_true rfl⟩) ⟨fun a U g mk q => by obtain ⟨q0, qP, qK⟩ := q; exact ⟨q0, qP, va_K.moved (u := U) (U := U.calling g mk a) (Vm.Alike.refl U.vm) qK⟩, fun U hU hW => ⟨rfl, by rw [hU]; exact hPc, va_K.moved hW.alike hKc⟩⟩ rfl rfl hl.1 rfl (lv_room (Nat.le_of_ble_eq_true rfl)) dX5_needs_25 ⟨Nat.le_of_ble_eq_true rfl, Nat.le_of_ble_eq_true rfl⟩) (fun r_5 w_5 => ?_)
          rcases w_5 with ⟨rfl, w_5⟩ | ⟨rfl, w_5⟩
          · have w_5 : (1 ≤ p3.toInt ∧ p3.toInt ≤ p4.toInt ∧ p4.toInt ≤ 999) := w_5
            refine lv_if_ne (tgt := 33) hx hb dX5_needs_28 (by decide) (fun c_6 => ?_) (fun c_6 => ?_)
            · refine lv_aload_n hx hb dX5_needs_33 rfl (lv_at hl 0 rfl) ?_
              refine lv_iload_n hx hb dX5_needs_34 rfl (lv_at hl 1 rfl) ?_
              refine lv_iload_n hx hb dX5_needs_35 rfl (lv_at hl 2 rfl) ?_
              refine lv_iload_n hx hb dX5_needs_36 rfl (lv_at hl 3 rfl) ?_
              have hPc := hP
              have hKc := hK
              refine vp_callSi (W.runV (As := [.int p0, .int p1, .int p2]) (rest := []) ⟨hx, hb, hml, hown, hts⟩ (c_X5_times l dC dI h0 g_row g_many g_loss g_less g_voteValue g_voteNumber g_allValue g_allNumber g_nodeL g_nodeR g_part g_wasMany g_wasLoss g_wasValue g_wasNumber g_path g_heavyValue g_heavyTimes g_fewest g_which g_met m_n m_slots 0 m_allMany m_nodes m_partMany m_pathMany m_heavyMany m_mostMet cyI f p0 p1 p2 (by omega) (by omega)) (cwV 3 hts gX5_needs_X5_times rfl rfl rfl (by decide +kernel) ⟨Nat.le_of_ble_eq_true rfl, Nat.le_of_ble_eq_true rfl⟩) ⟨fun a U g mk q => by obtain ⟨q0, qP, qK⟩ := q; exact ⟨q0, qP, va_K.moved (u := U) (U := U.calling g mk a) (Vm.Alike.refl U.vm) qK⟩, va_recv hKc hPc (ci := 5) (q0 := 0) rfl rfl, fun U hU hW => ⟨rfl, by rw [hU]; exact hPc, va_K.moved hW.alike hKc⟩⟩ rfl rfl hl.1 rfl (lv_room (Nat.le_of_ble_eq_true rfl)) dX5_needs_37 ⟨Nat.le_of_ble_eq_true rfl, Nat.le_of_ble_eq_true rfl⟩) (fun r_7 w_7 => ?_)
              have w_7 : r_7.toInt = (cnt f p0 p1.toNatClampNeg (p2.toInt - p1.toInt).toNat : Int) := w_7
              have hle := cnt_le f p0 p1.toNatClampNeg (p2.toInt - p1.toInt).toNat
              refine lv_istore (lv' := [(6, .int r_7), (0, .ref h0), (1, .int p0), (2, .int p1), (3, .int p2), (4, .int p3), (5, .int p4)]) hx hb dX5_needs_40 hl (by decide) rfl (fun ls hl => ?_)
              refine lv_iconst (v := 0) hx hb dX5_needs_42 (by decide) ?_
              refine lv_istore (lv' := [(7, .int 0), (6, .int r_7), (0, .ref h0), (1, .int p0), (2, .int p1), (3, .int p2), (4, .int p3), (5, .int p4)]) hx hb dX5_needs_43 hl (by decide) rfl (fun ls hl => ?_)
              have LP1 : ∀ (n : Nat) (i : Int32), (0 ≤ i.toInt) → (i.toInt ≤ p2.toInt - p1.toInt + 1) → (p2.toInt - p1.toInt + 1 - i.toInt).toNat < n → ∀ (H : Heap) (locs : List Loc), va_P (dC, dI) vwCl [kx_5 h0 g_row m_n m_slots 0 g_many g_loss g_less g_voteValue g_voteNumber g_allValue g_allNumber m_allMany g_nodeL g_nodeR m_nodes g_part m_partMany g_wasMany g_wasLoss g_wasValue g_wasNumber g_path m_pathMany g_heavyValue g_heavyTimes m_heavyMany g_fewest g_which g_met m_mostMet, kx_a g_row cyI 160 f] H → va_D A [kx_5 h0 g_row m_n m_slots 0 g_many g_loss g_less g_voteValue g_voteNumber g_allValue g_allNumber m_allMany g_nodeL g_nodeR m_nodes g_part m_partMany g_wasMany g_wasLoss g_wasValue g_wasNumber g_path m_pathMany g_heavyValue g_heavyTimes m_heavyMany g_fewest g_which g_met m_mostMet, kx_a g_row cyI 160 f] → va_S A s.heap H locs → ∀ (ls : Array Slot), lv_has ls 8 [(7, .int i), (6, .int r_7), (0, .ref h0), (1, .int p0), (2, .int p1), (3, .int p2), (4, .int p3), (5, .int p4)] → W p l e (headSpec wsX5_needs ({ frames := 2, cells := 0, slots := 0, locals := 90 })).room s m ([.ref h0, .int p0, .int p1, .int p2, .int p3, .int p4] : List Value).toArray below meth c H locs 0 0 (MQ below (va_Qi (fun (r : Int32) (_ : Unit) => True) (fun (_ : Unit) (t : State) => va_P (dC, dI) vwCl [kx_5 h0 g_row m_n m_slots 0 g_many g_loss g_less g_voteValue g_voteNumber g_allValue g_allNumber m_allMany g_nodeL g_nodeR m_nodes g_part m_partMany g_wasMany g_wasLoss g_wasValue g_wasNumber g_path m_pathMany g_heavyValue g_heavyTimes m_heavyMany g_fewest g_which g_met m_mostMet, kx_a g_row cyI 160 f] t.heap ∧ va_K (dC, dI) vwCl [(cyI, .int)] t ∧ va_D A [kx_5 h0 g_row m_n m_slots 0 g_many g_loss g_less g_voteValue g_voteNumber g_allValue g_allNumber m_allMany g_nodeL g_nodeR m_nodes g_part m_partMany g_wasMany g_wasLoss g_wasValue g_wasNumber g_path m_pathMany g_heavyValue g_heavyTimes m_heavyMany g_fewest g_which g_met m_mostMet, kx_a g_row cyI 160 f]) A) ([.ref h0, .int p0, .int p1, .int p2, .int p3, .int p4] : List Value).toArray s 0 0 A) (F0 m 45 ls []) := by
                intro n
                induction n with
                | zero => intro i LP1_h0 LP1_h1 hn; exact absurd hn (Nat.not_lt_zero _)
                | succ n ih1 =>
                  intro i LP1_h0 LP1_h1 hn1 H locs hP hD hS ls hl
                  refine lv_iload hx hb dX5_needs_45 (lv_at hl 1 rfl) ?_
                  refine lv_iload hx hb dX5_needs_47 (lv_at hl 0 rfl) ?_
                  refine lv_iadd hx hb dX5_needs_49 ?_
                  refine lv_topi (fun y_8 ey_8 => ?_)
                  have i_8 : y_8.toInt = r_7.toInt + i.toInt := ki_add ey_8 rfl rfl (by omega) (by omega)
                  refine lv_iload_n hx hb dX5_needs_50 rfl (lv_at hl 5 rfl) ?_
                  refine lv_iload_n hx hb dX5_needs_51 rfl (lv_at hl 4 rfl) ?_
                  refine lv_isub hx hb dX5_needs_52 ?_
                  refine lv_topi (fun y_9 ey_9 => ?_)
                  have i_9 : y_9.toInt = p2.toInt - p1.toInt := ki_sub ey_9 rfl rfl (om_199 LP1_h0 LP1_h1) (by omega)
                  refine lv_icmp_gt (tgt := 82) hx hb dX5_needs_53 (by decide) (fun c_10 => ?_) (fun c_10 => ?_)
                  · have i_10 : y_9.toInt < y_8.toInt := kc_lt c_10
                    refine lv_bipush (v := (-2)) hx hb dX5_needs_82 (by decide) ?_
                    have hP9 := hP
                    have hD9 := hD
                    have hK9 := hK
                    exact W.iret (v := (-2)) hx hb hr (fun t ht hW => ⟨⟨(-2), (), rfl, trivial, by rw [ht]; exact hP9, va_K.moved hW.alike hK9, hD9⟩, hS.F ht⟩) hS.2.2 dX5_needs_84
                  · have i_10 : y_8.toInt ≤ y_9.toInt := kc_nlt c_10
                    refine lv_iload hx hb dX5_needs_56 (lv_at hl 1 rfl) ?_
                    refine lv_iload hx hb dX5_needs_58 (lv_at hl 0 rfl) ?_
                    refine lv_iadd hx hb dX5_needs_60 ?_
                    refine lv_topi (fun y_11 ey_11 => ?_)
                    have i_11 : y_11.toInt = r_7.toInt + i.toInt := ki_add ey_11 rfl rfl (by omega) (by omega)
                    refine lv_iload hx hb dX5_needs_61 (lv_at hl 7 rfl) ?_
                    refine lv_imul hx hb dX5_needs_63 ?_
                    refine lv_topi (fun y_12 ey_12 => ?_)
                    refine lv_iload hx hb dX5_needs_64 (lv_at hl 6 rfl) ?_
                    refine lv_iload_n hx hb dX5_needs_66 rfl (lv_at hl 5 rfl) ?_
                    refine lv_iload_n hx hb dX5_needs_67 rfl (lv_at hl 4 rfl) ?_
                    refine lv_isub hx hb dX5_needs_68 ?_
                    refine lv_topi (fun y_13 ey_13 => ?_)
                    have i_13 : y_13.toInt = p2.toInt - p1.toInt := ki_sub ey_13 rfl rfl (om_199 LP1_h0 LP1_h1) (by omega)
                    refine lv_imul hx hb dX5_needs_69 ?_
                    refine lv_topi (fun y_14 ey_14 => ?_)
                    refine lv_icmp_le (tgt := 76) hx hb dX5_needs_70 (by decide) (fun c_15 => ?_) (fun c_15 => ?_)
                    · have i_15 : y_12.toInt ≤ y_14.toInt := kc_le c_15
                      obtain ⟨x_16, ex_16⟩ : ∃ y : Int32, y = i + 1 := ⟨_, rfl⟩
                      have i_16 : x_16.toInt = i.toInt + 1 := ki_add ex_16 rfl rfl (om_10 LP1_h0) (by omega)
                      refine lv_iinc (v := x_16) (lv' := [(7, .int x_16), (6, .int r_7), (0, .ref h0), (1, .int p0), (2, .int p1), (3, .int p2), (4, .int p3), (5, .int p4)]) hx hb dX5_needs_76 hl (k := 0) rfl (by rw [ex_16]; rfl) (by decide) rfl (fun ls hl => ?_)
                      refine lv_goto (tgt := 45) hx hb dX5_needs_79 (by decide) ?_
                      exact ih1 x_16 (om_31 LP1_h0 i_16) (by omega) (by omega) _ _ hP hD hS ls (lv_sub hl [0, 1, 2, 3, 4, 5, 6, 7] rfl)
                    · have i_15 : y_14.toInt < y_12.toInt := kc_nle c_15
                      refine lv_iload hx hb dX5_needs_73 (lv_at hl 0 rfl) ?_
                      have hP9 := hP
                      have hD9 := hD
                      have hK9 := hK
                      exact W.iret (v := i) hx hb hr (fun t ht hW => ⟨⟨i, (), rfl, trivial, by rw [ht]; exact hP9, va_K.moved hW.alike hK9, hD9⟩, hS.F ht⟩) hS.2.2 dX5_needs_75
              have k_17 : (0 : Int32).toInt = 0 := rfl
              exact LP1 ((p2.toInt - p1.toInt + 1 - 0 : Int).toNat + 1) 0 om_32 (by omega) (Nat.lt_succ_self _) _ _ hP hD hS ls (lv_sub hl [0, 1, 2, 3, 4, 5, 6, 7] rfl)
            · exact absurd c_6 (by decide)
          · have w_5 : (p3.toInt < 1 ∨ p4.toInt < p3.toInt ∨ 999 < p4.toInt) := w_5
            refine lv_if_ne (tgt := 33) hx hb dX5_needs_28 (by decide) (fun c_18 => ?_) (fun c_18 => ?_)
            · exact absurd c_18 (by decide)
            · refine lv_iconst (v := (-1)) hx hb dX5_needs_31 (by decide) ?_
              have hP9 := hP
              have hD9 := hD
              have hK9 := hK
              exact W.iret (v := (-1)) hx hb hr (fun t ht hW => ⟨⟨(-1), (), rfl, trivial, by rw [ht]; exact hP9, va_K.moved hW.alike hK9, hD9⟩, hS.F ht⟩) hS.2.2 dX5_needs_32
      · have w_3 : (p1.toInt < 0 ∨ p2.toInt ≤ p1.toInt ∨ m_n.toInt < p2.toInt) := w_3
        refine lv_if_eq (tgt := 31) hx hb dX5_needs_18 (by decide) (fun c_19 => ?_) (fun c_19 => ?_)
        · refine lv_iconst (v := (-1)) hx hb dX5_needs_31 (by decide) ?_
          have hP9 := hP
          have hD9 := hD
          have hK9 := hK
          exact W.iret (v := (-1)) hx hb hr (fun t ht hW => ⟨⟨(-1), (), rfl, trivial, by rw [ht]; exact hP9, va_K.moved hW.alike hK9, hD9⟩, hS.F ht⟩) hS.2.2 dX5_needs_32
        · exact absurd c_19 (by decide)
  · have w_1 : (p0.toInt < -32768 ∨ 32767 < p0.toInt) := w_1
    refine lv_if_eq (tgt := 31) hx hb dX5_needs_9 (by decide) (fun c_20 => ?_) (fun c_20 => ?_)
    · refine lv_iconst (v := (-1)) hx hb dX5_needs_31 (by decide) ?_
      have hP9 := hP
      have hD9 := hD
      have hK9 := hK
      exact W.iret (v := (-1)) hx hb hr (fun t ht hW => ⟨⟨(-1), (), rfl, trivial, by rw [ht]; exact hP9, va_K.moved hW.alike hK9, hD9⟩, hS.F ht⟩) hS.2.2 dX5_needs_32
    · exact absurd c_20 (by decide)


