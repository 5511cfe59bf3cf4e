set_option maxHeartbeats 4000000 in
set_option maxRecDepth 100000 in
theorem c_X5_majorityOf_x (l : Launch) (dC : Nat → ClassId) (dI : Nat → Nat → Nat) (h0 : Nat) (g_row : Nat) (g_many : Nat) (g_loss : Nat) (g_less : Nat) (g_voteValue : Nat) (g_voteNumber : Nat) (g_allValue : Nat) (g_allNumber : Nat) (g_nodeL : Nat) (g_nodeR : Nat) (g_part : Nat) (g_wasMany : Nat) (g_wasLoss : Nat) (g_wasValue : Nat) (g_wasNumber : Nat) (g_path : Nat) (g_heavyValue : Nat) (g_heavyTimes : Nat) (g_fewest : Nat) (g_which : Nat) (g_met : Nat) (m_n : Int32) (m_slots : Int32) (m_thrown : Int32) (m_allMany : Int32) (m_nodes : Int32) (m_partMany : Int32) (m_pathMany : Int32) (m_heavyMany : Int32) (m_mostMet : Int32) (cyI : ClassId) (f : Nat → Int32) (p0 : Int32) (p1 : Int32) (d0 : 0 ≤ p0.toInt) (d1 : p1.toInt ≤ 160) (d2 : p0.toInt < p1.toInt) : Met l yX5_majorityOf wsX5_majorityOf ({ frames := 1, cells := 0, slots := 0, locals := 45 }) (va_Pc [.ref h0, .int p0, .int p1] (fun U => va_P (dC, dI) vwCl [kx_5 h0 g_row m_n m_slots m_thrown g_many g_loss g_less g_voteValue g_voteNumber g_allValue g_allNumber m_allMany g_nodeL g_nodeR m_nodes g_part m_partMany g_wasMany g_wasLoss g_wasValue g_wasNumber g_path m_pathMany g_heavyValue g_heavyTimes m_heavyMany g_fewest g_which g_met m_mostMet, kx_a g_row cyI 160 f] U.heap ∧ va_K (dC, dI) vwCl [(cyI, .int)] U)) (vp_Si (fun r : Int32 => mj_maj f p0.toNatClampNeg p1.toNatClampNeg r)) 0 0 (fun _ => False) := by
  refine Met.ofW (cc := cX5_majorityOf) (maxL := 4) (ret := (some .int)) (by decide) rfl ?_
  intro p e s m args below meth c s₁ B hml hv
  obtain ⟨rfl, hP, hK⟩ := hv
  have hx := B.exec
  have hb := B.bytes
  have hr := B.returns
  have hts := atoms_spec (ws := wsX5_majorityOf) B.pre
  have hown : s.vm.findClass RX5 = some m.cls := findClass_of_methodNamed B.named
  have hlocks := B.notSynchronized
  have hP : va_P (dC, dI) vwCl [kx_5 h0 g_row m_n m_slots m_thrown g_many g_loss g_less g_voteValue g_voteNumber g_allValue g_allNumber m_allMany g_nodeL g_nodeR m_nodes g_part m_partMany g_wasMany g_wasLoss g_wasValue g_wasNumber g_path m_pathMany g_heavyValue g_heavyTimes m_heavyMany g_fewest g_which g_met m_mostMet, kx_a g_row cyI 160 f] s.heap := hP
  have hl := lv_entry ([.ref h0, .int p0, .int p1]) (n := 4) (Nat.le_of_ble_eq_true rfl)
  rw [lg_entry_eq]
  generalize (lg_sl ([.ref h0, .int p0, .int p1]) ++ List.replicate (4 - (lg_sl ([.ref h0, .int p0, .int p1])).length) Slot.unset).toArray = ls at hl ⊢
  have hl : lv_has ls 4 [(0, .ref h0), (1, .int p0), (2, .int p1)] := hl
  have hk_148 := hts (.constant RX5 148 (-40000)) (List.mem_of_getElem? (i := 2) rfl)
  have hf_7 := hts (.fieldLink RX5 7 "MajorityIndexModel" "row" "[I") (List.mem_of_getElem? (i := 1) rfl)
  have hi_5 : ∀ w ∈ u_ws RX5 TX5 30, w ∈ wsX5_majorityOf := fun w h => List.mem_cons_of_mem _ (List.mem_append_right _ h)
  have n_p0 := ki_nat p0 rfl (om_8 d0)
  have n_p1 := ki_nat p1 rfl (om_18 d0 d2)
  refine lv_iload_n hx hb dX5_majorityOf_0 rfl (lv_at hl 1 rfl) ?_
  refine lv_istore_n (lv' := [(3, .int p0), (0, .ref h0), (1, .int p0), (2, .int p1)]) hx hb dX5_majorityOf_1 rfl hl (by decide) rfl (fun ls hl => ?_)
  have LP1 : ∀ (n : Nat) (i : Int32), (p0.toInt ≤ i.toInt) → (∀ k : Nat, p0.toNatClampNeg ≤ k → k < i.toNatClampNeg → 2 * (cnt f (f k) p0.toNatClampNeg (p1.toNatClampNeg - p0.toNatClampNeg) : Int) ≤ ((p1.toNatClampNeg - p0.toNatClampNeg : Nat) : Int)) → (p1.toInt - i.toInt).toNat < n → ∀ (ls : Array Slot), lv_has ls 4 [(3, .int i), (0, .ref h0), (1, .int p0), (2, .int p1)] → W p l e (headSpec wsX5_majorityOf ({ frames := 1, cells := 0, slots := 0, locals := 45 })).room s m ([.ref h0, .int p0, .int p1] : List Value).toArray below meth c s.heap [] 0 0 (MQ below (vp_Si (fun r : Int32 => mj_maj f p0.toNatClampNeg p1.toNatClampNeg r)) ([.ref h0, .int p0, .int p1] : List Value).toArray s 0 0 (fun _ => False)) (F0 m 2 ls []) := by
    intro n
    induction n with
    | zero => intro i LP1_h0 LP1_h1 hn; exact absurd hn (Nat.not_lt_zero _)
    | succ n ih1 =>
      intro i LP1_h0 LP1_h1 hn1 ls hl
      have n_i := ki_nat i rfl (om_0 d0 LP1_h0)
      refine lv_iload_n hx hb dX5_majorityOf_2 rfl (lv_at hl 0 rfl) ?_
      refine lv_iload_n hx hb dX5_majorityOf_3 rfl (lv_at hl 3 rfl) ?_
      refine lv_icmp_ge (tgt := 40) hx hb dX5_majorityOf_4 (by decide) (fun c_1 => ?_) (fun c_1 => ?_)
      · have i_1 : p1.toInt ≤ i.toInt := kc_le c_1
        refine lv_ldc (v := (-40000)) hx hb hown hk_148 dX5_majorityOf_40 ?_
        exact W.iret (v := (-40000)) hx hb hr (fun t ht hW => ⟨(-40000), rfl, (Or.inr ⟨rfl, fun k h1 h2 => LP1_h1 k h1 (by (try dsimp only); omega)⟩), ht⟩) (fun q hq => by cases hq) dX5_majorityOf_42
      · have i_1 : i.toInt < p1.toInt := kc_nle c_1
        refine lv_iconst (v := 2) hx hb dX5_majorityOf_7 (by decide) ?_
        refine lv_aload_n hx hb dX5_majorityOf_8 rfl (lv_at hl 1 rfl) ?_
        refine lv_aload_n hx hb dX5_majorityOf_9 rfl (lv_at hl 1 rfl) ?_
        refine va_get (D := (dC, dI)) (ci := 5) (v := .ref g_row) (C := RX5) (T := TX5) (N := 30) hx hb hts hi_5 hown hK hP 0 rfl rfl 0 (by decide) hf_7 (fun _ h9 => h9) rfl dX5_majorityOf_10 ?_
        refine lv_iload_n hx hb dX5_majorityOf_13 rfl (lv_at hl 0 rfl) ?_
        refine va_iald hx hb hK hP 1 0 rfl rfl (ki_in (om_0 d0 LP1_h0) (om_1 d1 i_1)) dX5_majorityOf_14 ?_
        refine lv_topi (fun y_2 ey_2 => ?_)
        have j_2 : y_2.toInt = (f i.toNatClampNeg).toInt := congrArg Int32.toInt ey_2
        refine lv_iload_n hx hb dX5_majorityOf_15 rfl (lv_at hl 2 rfl) ?_
        refine lv_iload_n hx hb dX5_majorityOf_16 rfl (lv_at hl 3 rfl) ?_
        have hPc := hP
        have hKc := hK
        refine vp_callSi (W.runV (As := [.int y_2, .int p0, .int p1]) (rest := [.int 2]) ⟨hx, hb, hml, hown, hts⟩ (c_X5_times l dC dI h0 g_row g_many g_loss g_less g_voteValue g_voteNumber g_allValue g_allNumber g_nodeL g_nodeR g_part g_wasMany g_wasLoss g_wasValue g_wasNumber g_path g_heavyValue g_heavyTimes g_fewest g_which g_met m_n m_slots m_thrown m_allMany m_nodes m_partMany m_pathMany m_heavyMany m_mostMet cyI f y_2 p0 p1 d0 d1) (cwV 3 hts gX5_majorityOf_X5_times rfl rfl rfl (by decide +kernel) ⟨Nat.le_of_ble_eq_true rfl, Nat.le_of_ble_eq_true rfl⟩) ⟨fun a U g mk q => by obtain ⟨q0, qP, qK⟩ := q; exact ⟨q0, qP, va_K.moved (u := U) (U := U.calling g mk a) (Vm.Alike.refl U.vm) qK⟩, va_recv hKc hPc (ci := 5) (q0 := 0) rfl rfl, fun U hU hW => ⟨rfl, by rw [hU]; exact hPc, va_K.moved hW.alike hKc⟩⟩ rfl rfl hl.1 rfl (lv_room (Nat.le_of_ble_eq_true rfl)) dX5_majorityOf_17 ⟨Nat.le_of_ble_eq_true rfl, Nat.le_of_ble_eq_true rfl⟩) (fun r_3 w_3 => ?_)
        have w_3 : r_3.toInt = (cnt f y_2 p0.toNatClampNeg (p1.toInt - p0.toInt).toNat : Int) := w_3
        have hle := cnt_le f y_2 p0.toNatClampNeg (p1.toInt - p0.toInt).toNat
        refine lv_imul hx hb dX5_majorityOf_20 ?_
        refine lv_topi (fun y_4 ey_4 => ?_)
        have i_4 : y_4.toInt = 2 * r_3.toInt := ki_mul ey_4 rfl rfl (by omega) (by omega)
        refine lv_iload_n hx hb dX5_majorityOf_21 rfl (lv_at hl 3 rfl) ?_
        refine lv_iload_n hx hb dX5_majorityOf_22 rfl (lv_at hl 2 rfl) ?_
        refine lv_isub hx hb dX5_majorityOf_23 ?_
        refine lv_topi (fun y_5 ey_5 => ?_)
        have i_5 : y_5.toInt = p1.toInt - p0.toInt := ki_sub ey_5 rfl rfl (om_228 d2) (om_290 d0 d1)
        refine lv_icmp_le (tgt := 34) hx hb dX5_majorityOf_24 (by decide) (fun c_6 => ?_) (fun c_6 => ?_)
        · have i_6 : y_4.toInt ≤ y_5.toInt := kc_le c_6
          obtain ⟨x_7, ex_7⟩ : ∃ y : Int32, y = i + 1 := ⟨_, rfl⟩
          have i_7 : x_7.toInt = i.toInt + 1 := ki_add ex_7 rfl rfl (om_2 d0 LP1_h0) (om_3 d1 i_1)
          refine lv_iinc (v := x_7) (lv' := [(3, .int x_7), (0, .ref h0), (1, .int p0), (2, .int p1)]) hx hb dX5_majorityOf_34 hl (k := 0) rfl (by rw [ex_7]; rfl) (by decide) rfl (fun ls hl => ?_)
          refine lv_goto (tgt := 2) hx hb dX5_majorityOf_37 (by decide) ?_
          have n_8 := ki_nat x_7 rfl (om_70 d0 LP1_h0 i_7)
          exact ih1 x_7 (om_4 LP1_h0 i_7) (fun k h1 h2 => if h9 : k < i.toNatClampNeg then LP1_h1 k h1 h9 else (by rw [show k = i.toNatClampNeg by omega, ← ey_2, show p1.toNatClampNeg - p0.toNatClampNeg = (p1.toInt - p0.toInt).toNat by omega]; omega)) (om_mu hn1 (om_5 i_7) (om_6 i_1)) ls (lv_sub hl [0, 1, 2, 3] rfl)
        · have i_6 : y_5.toInt < y_4.toInt := kc_nle c_6
          refine lv_aload_n hx hb dX5_majorityOf_27 rfl (lv_at hl 1 rfl) ?_
          refine va_get (D := (dC, dI)) (ci := 5) (v := .ref g_row) (C := RX5) (T := TX5) (N := 30) hx hb hts hi_5 hown hK hP 0 rfl rfl 0 (by decide) hf_7 (fun _ h9 => h9) rfl dX5_majorityOf_28 ?_
          refine lv_iload_n hx hb dX5_majorityOf_31 rfl (lv_at hl 0 rfl) ?_
          refine va_iald hx hb hK hP 1 0 rfl rfl (ki_in (om_0 d0 LP1_h0) (om_1 d1 i_1)) dX5_majorityOf_32 ?_
          refine lv_topi (fun y_9 ey_9 => ?_)
          have j_9 : y_9.toInt = (f i.toNatClampNeg).toInt := congrArg Int32.toInt ey_9
          exact W.iret (v := y_9) hx hb hr (fun t ht hW => ⟨y_9, rfl, (Or.inl ⟨i.toNatClampNeg, (by (try dsimp only); omega), (by (try dsimp only); omega), ey_9.symm, (by (try dsimp only); rw [show p1.toNatClampNeg - p0.toNatClampNeg = (p1.toInt - p0.toInt).toNat by omega, ey_9, ← ey_2]; omega)⟩), ht⟩) (fun q hq => by cases hq) dX5_majorityOf_33
  exact LP1 ((p1.toInt - p0.toInt : Int).toNat + 1) p0 om_7 (fun k h1 h2 => absurd h2 (by omega)) (Nat.lt_succ_self _) ls (lv_sub hl [0, 1, 2, 3] rfl)

set_option maxHeartbeats 4000000 in
set_option maxRecDepth 100000 in
theorem c_X5_reach (l : Launch) (dC : Nat → ClassId) (dI : Nat → Nat → Nat) (h0 : Nat) (g_row : Nat) (g_many : Nat) (g_loss : Nat) (g_less : Nat) (g_voteValue : Nat) (g_voteNumber : Nat) (g_allValue : Nat) (g_allNumber : Nat) (g_nodeL : Nat) (g_nodeR : Nat) (g_part : Nat) (g_wasMany : Nat) (g_wasLoss : Nat) (g_wasValue : Nat) (g_wasNumber : Nat) (g_path : Nat) (g_heavyValue : Nat) (g_heavyTimes : Nat) (g_fewest : Nat) (g_which : Nat) (g_met : Nat) (m_n : Int32) (m_slots : Int32) (m_thrown : Int32) (m_allMany : Int32) (m_nodes : Int32) (m_partMany : Int32) (m_pathMany : Int32) (m_heavyMany : Int32) (m_mostMet : Int32) (cyI : ClassId) (f : Nat → Int32) (p0 : Int32) (sz : Nat) (a0 : 0 ≤ m_n.toInt) (a1 : m_n.toInt ≤ 160) (s1 : shorts f) : Met l yX5_reach wsX5_reach ({ frames := 2, cells := 0, slots := 0, locals := 90 }) (va_Pc [.ref h0, .int p0] (fun U => U.heap.size = sz ∧ va_P (dC, dI) vwCl [kx_5 h0 g_row m_n m_slots m_thrown g_many g_loss g_less g_voteValue g_voteNumber g_allValue g_allNumber m_allMany g_nodeL g_nodeR m_nodes g_part m_partMany g_wasMany g_wasLoss g_wasValue g_wasNumber g_path m_pathMany g_heavyValue g_heavyTimes m_heavyMany g_fewest g_which g_met m_mostMet, kx_a g_row cyI 160 f] U.heap ∧ va_K (dC, dI) vwCl [(cyI, .int)] U ∧ va_D (fun _ => True) [kx_5 h0 g_row m_n m_slots m_thrown g_many g_loss g_less g_voteValue g_voteNumber g_allValue g_allNumber m_allMany g_nodeL g_nodeR m_nodes g_part m_partMany g_wasMany g_wasLoss g_wasValue g_wasNumber g_path m_pathMany g_heavyValue g_heavyTimes m_heavyMany g_fewest g_which g_met m_mostMet, kx_a g_row cyI 160 f])) (va_Qi (fun (r : Int32) (_ : Unit) => True) (fun (_ : Unit) (t : State) => va_P (dC, dI) vwCl [kx_5 h0 g_row m_n m_slots 0 g_many g_loss g_less g_voteValue g_voteNumber g_allValue g_allNumber m_allMany g_nodeL g_nodeR m_nodes g_part m_partMany g_wasMany g_wasLoss g_wasValue g_wasNumber g_path m_pathMany g_heavyValue g_heavyTimes m_heavyMany g_fewest g_which g_met m_mostMet, kx_a g_row cyI 160 f] t.heap ∧ va_K (dC, dI) vwCl [(cyI, .int)] t ∧ va_D (va_A [kx_5 h0 g_row m_n m_slots m_thrown g_many g_loss g_less g_voteValue g_voteNumber g_allValue g_allNumber m_allMany g_nodeL g_nodeR m_nodes g_part m_partMany g_wasMany g_wasLoss g_wasValue g_wasNumber g_path m_pathMany g_heavyValue g_heavyTimes m_heavyMany g_fewest g_which g_met m_mostMet, kx_a g_row cyI 160 f] sz) [kx_5 h0 g_row m_n m_slots 0 g_many g_loss g_less g_voteValue g_voteNumber g_allValue g_allNumber m_allMany g_nodeL g_nodeR m_nodes g_part m_partMany g_wasMany g_wasLoss g_wasValue g_wasNumber g_path m_pathMany g_heavyValue g_heavyTimes m_heavyMany g_fewest g_which g_met m_mostMet, kx_a g_row cyI 160 f]) (va_A [kx_5 h0 g_row m_n m_slots m_thrown g_many g_loss g_less g_voteValue g_voteNumber g_allValue g_allNumber m_allMany g_nodeL g_nodeR m_nodes g_part m_partMany g_wasMany g_wasLoss g_wasValue g_wasNumber g_path m_pathMany g_heavyValue g_heavyTimes m_heavyMany g_fewest g_which g_met m_mostMet, kx_a g_row cyI 160 f] sz)) 0 0 (va_A [kx_5 h0 g_row m_n m_slots m_thrown g_many g_loss g_less g_voteValue g_voteNumber g_allValue g_allNumber m_allMany g_nodeL g_nodeR m_nodes g_part m_partMany g_wasMany g_wasLoss g_wasValue g_wasNumber g_path m_pathMany g_heavyValue g_heavyTimes m_heavyMany g_fewest g_which g_met m_mostMet, kx_a g_row cyI 160 f] sz) := by
  refine Met.ofW (cc := cX5_reach) (maxL := 3) (ret := (some .int)) (by decide) rfl ?_
  intro p e s m args below meth c s₁ B hml hv
  obtain ⟨rfl, hsz, hP, hK, hD0⟩ := hv
  have hx := B.exec
  have hb := B.bytes
  have hr := B.returns
  have hts := atoms_spec (ws := wsX5_reach) B.pre
  have hown : s.vm.findClass RX5 = some m.cls := findClass_of_methodNamed B.named
  have hlocks := B.notSynchronized
  subst hsz
  have hD := hD0.self (sz := s.heap.size)
  generalize hAe : va_A [kx_5 h0 g_row m_n m_slots m_thrown g_many g_loss g_less g_voteValue g_voteNumber g_allValue g_allNumber m_allMany g_nodeL g_nodeR m_nodes g_part m_partMany g_wasMany g_wasLoss g_wasValue g_wasNumber g_path m_pathMany g_heavyValue g_heavyTimes m_heavyMany g_fewest g_which g_met m_mostMet, kx_a g_row cyI 160 f] s.heap.size = A at hD ⊢
  have hA : ∀ q : Nat, s.heap.size ≤ q → A q := fun q h => by rw [← hAe]; exact Or.inr h
  have hS : va_S A s.heap s.heap [] := va_S.rf
  have hP : va_P (dC, dI) vwCl [kx_5 h0 g_row m_n m_slots m_thrown g_many g_loss g_less g_voteValue g_voteNumber g_allValue g_allNumber m_allMany g_nodeL g_nodeR m_nodes g_part m_partMany g_wasMany g_wasLoss g_wasValue g_wasNumber g_path m_pathMany g_heavyValue g_heavyTimes m_heavyMany g_fewest g_which g_met m_mostMet, kx_a g_row cyI 160 f] s.heap := hP
  have hl := lv_entry ([.ref h0, .int p0]) (n := 3) (Nat.le_of_ble_eq_true rfl)
  rw [lg_entry_eq]
  generalize (lg_sl ([.ref h0, .int p0]) ++ List.replicate (3 - (lg_sl ([.ref h0, .int p0])).length) Slot.unset).toArray = ls at hl ⊢
  have hl : lv_has ls 3 [(0, .ref h0), (1, .int p0)] := hl
  have hf_77 := hts (.fieldLink RX5 77 "MajorityIndexModel" "thrown" "I") (List.mem_of_getElem? (i := 1) rfl)
  have hi_5 : ∀ w ∈ u_ws RX5 TX5 30, w ∈ wsX5_reach := fun w h => List.mem_cons_of_mem _ (List.mem_append_right _ h)
  have hf_84 := hts (.fieldLink RX5 84 "MajorityIndexModel" "n" "I") (List.mem_of_getElem? (i := 2) rfl)
  have hk_148 := hts (.constant RX5 148 (-40000)) (List.mem_of_getElem? (i := 3) rfl)
  refine lv_aload_n hx hb dX5_reach_0 rfl (lv_at hl 0 rfl) ?_
  refine lv_iconst (v := 0) hx hb dX5_reach_1 (by decide) ?_
  refine va_put (D := (dC, dI)) (ci := 5) (v := .int 0) (ty := .int) (C := RX5) (T := TX5) (N := 30) hx hb hts hi_5 tyX5 tyX5_ok nmX5 hown hK hP hD hS 0 rfl rfl 3 (by decide) hf_77 (fun _ h9 => h9) rfl (by decide +kernel) rfl rfl (Nat.le_of_ble_eq_true rfl) dX5_reach_2 (fun H locs hP hD hS => ?_)
  have hP : va_P (dC, dI) vwCl [kx_5 h0 g_row m_n m_slots 0 g_many g_loss g_less g_voteValue g_voteNumber g_allValue g_allNumber m_allMany g_nodeL g_nodeR m_nodes g_part m_partMany g_wasMany g_wasLoss g_wasValue g_wasNumber g_path m_pathMany g_heavyValue g_heavyTimes m_heavyMany g_fewest g_which g_met m_mostMet, kx_a g_row cyI 160 f] H := hP
  have hD : va_D A [kx_5 h0 g_row m_n m_slots 0 g_many g_loss g_less g_voteValue g_voteNumber g_allValue g_allNumber m_allMany g_nodeL g_nodeR m_nodes g_part m_partMany g_wasMany g_wasLoss g_wasValue g_wasNumber g_path m_pathMany g_heavyValue g_heavyTimes m_heavyMany g_fewest g_which g_met m_mostMet, kx_a g_row cyI 160 f] := hD
  refine lv_aload_n hx hb dX5_reach_5 rfl (lv_at hl 0 rfl) ?_
  refine lv_iload_n hx hb dX5_reach_6 rfl (lv_at hl 1 rfl) ?_
  have hPc := hP.sub (ws' := [kx_5 h0 g_row m_n m_slots 0 g_many g_loss g_less g_voteValue g_voteNumber g_allValue g_allNumber m_allMany g_nodeL g_nodeR m_nodes g_part m_partMany g_wasMany g_wasLoss g_wasValue g_wasNumber g_path m_pathMany g_heavyValue g_heavyTimes m_heavyMany g_fewest g_which g_met m_mostMet]) [0] rfl
  have hKc := hK.sub (tys' := []) [] rfl
  refine vp_callSi (W.runV (As := [.int p0]) (rest := []) ⟨hx, hb, hml, hown, hts⟩ (c_X5_isPlace l dC dI h0 g_row g_many g_loss g_less g_voteValue g_voteNumber g_allValue g_allNumber g_nodeL g_nodeR g_part g_wasMany g_wasLoss g_wasValue g_wasNumber g_path g_heavyValue g_heavyTimes g_fewest g_which g_met m_n m_slots 0 m_allMany m_nodes m_partMany m_pathMany m_heavyMany m_mostMet p0 a0 a1) (cwV 1 hts gX5_reach_X5_isPlace rfl rfl rfl (by decide +kernel) ⟨Nat.le_of_ble_eq_true rfl, Nat.le_of_ble_eq_true rfl⟩) ⟨fun a U g mk q => by obtain ⟨q0, qP, qK⟩ := q; exact ⟨q0, qP, va_K.moved (u := U) (U := U.calling g mk a) (Vm.Alike.refl U.vm) qK⟩, va_recv hKc hPc (ci := 5) (q0 := 0) rfl rfl, fun U hU hW => ⟨rfl, by rw [hU]; exact hPc, va_K.moved hW.alike hKc⟩⟩ rfl rfl hl.1 rfl (lv_room (Nat.le_of_ble_eq_true rfl)) dX5_reach_7 ⟨Nat.le_of_ble_eq_true rfl, Nat.le_of_ble_eq_true rfl⟩) (fun r_1 w_1 => ?_)
  rcases w_1 with ⟨rfl, w_1⟩ | ⟨rfl, w_1⟩
  · have w_1 : (0 ≤ p0.toInt ∧ p0.toInt < m_n.toInt) := w_1
    refine lv_if_ne (tgt := 15) hx hb dX5_reach_10 (by decide) (fun c_2 => ?_) (fun c_2 => ?_)
    · refine lv_aload_n hx hb dX5_reach_15 rfl (lv_at hl 0 rfl) ?_
      refine va_get (D := (dC, dI)) (ci := 5) (v := .int m_n) (C := RX5) (T := TX5) (N := 30) hx hb hts hi_5 hown hK hP 0 rfl rfl 1 (by decide) hf_84 (fun _ h9 => h9) rfl dX5_reach_16 ?_
      refine lv_istore_n (lv' := [(2, .int m_n), (0, .ref h0), (1, .int p0)]) hx hb dX5_reach_19 rfl hl (by decide) rfl (fun ls hl => ?_)
      have LP1 : ∀ (n : Nat) (rr : Int32), (p0.toInt < rr.toInt) → (rr.toInt ≤ m_n.toInt) → (rr.toInt).toNat < n → ∀ (H : Heap) (locs : List Loc), va_P (dC, dI) vwCl [kx_5 h0 g_row m_n m_slots 0 g_many g_loss g_less g_voteValue g_voteNumber g_allValue g_allNumber m_allMany g_nodeL g_nodeR m_nodes g_part m_partMany g_wasMany g_wasLoss g_wasValue g_wasNumber g_path m_pathMany g_heavyValue g_heavyTimes m_heavyMany g_fewest g_which g_met m_mostMet, kx_a g_row cyI 160 f] H → va_D A [kx_5 h0 g_row m_n m_slots 0 g_many g_loss g_less g_voteValue g_voteNumber g_allValue g_allNumber m_allMany g_nodeL g_nodeR m_nodes g_part m_partMany g_wasMany g_wasLoss g_wasValue g_wasNumber g_path m_pathMany g_heavyValue g_heavyTimes m_heavyMany g_fewest g_which g_met m_mostMet, kx_a g_row cyI 160 f] → va_S A s.heap H locs → ∀ (ls : Array Slot), lv_has ls 3 [(2, .int rr), (0, .ref h0), (1, .int p0)] → W p l e (headSpec wsX5_reach ({ frames := 2, cells := 0, slots := 0, locals := 90 })).room s m ([.ref h0, .int p0] : List Value).toArray below meth c H locs 0 0 (MQ below (va_Qi (fun (r : Int32) (_ : Unit) => True) (fun (_ : Unit) (t : State) => va_P (dC, dI) vwCl [kx_5 h0 g_row m_n m_slots 0 g_many g_loss g_less g_voteValue g_voteNumber g_allValue g_allNumber m_allMany g_nodeL g_nodeR m_nodes g_part m_partMany g_wasMany g_wasLoss g_wasValue g_wasNumber g_path m_pathMany g_heavyValue g_heavyTimes m_heavyMany g_fewest g_which g_met m_mostMet, kx_a g_row cyI 160 f] t.heap ∧ va_K (dC, dI) vwCl [(cyI, .int)] t ∧ va_D A [kx_5 h0 g_row m_n m_slots 0 g_many g_loss g_less g_voteValue g_voteNumber g_allValue g_allNumber m_allMany g_nodeL g_nodeR m_nodes g_part m_partMany g_wasMany g_wasLoss g_wasValue g_wasNumber g_path m_pathMany g_heavyValue g_heavyTimes m_heavyMany g_fewest g_which g_met m_mostMet, kx_a g_row cyI 160 f]) A) ([.ref h0, .int p0] : List Value).toArray s 0 0 A) (F0 m 20 ls []) := by
        intro n
        induction n with
        | zero => intro rr LP1_h0 LP1_h1 hn; exact absurd hn (Nat.not_lt_zero _)
        | succ n ih1 =>
          intro rr LP1_h0 LP1_h1 hn1 H locs hP hD hS ls hl
          refine lv_aload_n hx hb dX5_reach_20 rfl (lv_at hl 1 rfl) ?_
          refine lv_iload_n hx hb dX5_reach_21 rfl (lv_at hl 2 rfl) ?_
          refine lv_iload_n hx hb dX5_reach_22 rfl (lv_at hl 0 rfl) ?_
          have hPc := hP
          have hKc := hK
          refine vp_callSi (W.runV (As := [.int p0, .int rr]) (rest := []) ⟨hx, hb, hml, hown, hts⟩ (c_X5_majorityOf_x l dC dI h0 g_row g_many g_loss g_less g_voteValue g_voteNumber g_allValue g_allNumber g_nodeL g_nodeR g_part g_wasMany g_wasLoss g_wasValue g_wasNumber g_path g_heavyValue g_heavyTimes g_fewest g_which g_met m_n m_slots 0 m_allMany m_nodes m_partMany m_pathMany m_heavyMany m_mostMet cyI f p0 rr (by omega) (om_291 a1 LP1_h1) LP1_h0) (cwV 2 hts gX5_reach_X5_majorityOf rfl rfl rfl (by decide +kernel) ⟨Nat.le_of_ble_eq_true rfl, Nat.le_of_ble_eq_true rfl⟩) ⟨fun a U g mk q => by obtain ⟨q0, qP, qK⟩ := q; exact ⟨q0, qP, va_K.moved (u := U) (U := U.calling g mk a) (Vm.Alike.refl U.vm) qK⟩, va_recv hKc hPc (ci := 5) (q0 := 0) rfl rfl, fun U hU hW => ⟨rfl, by rw [hU]; exact hPc, va_K.moved hW.alike hKc⟩⟩ rfl rfl hl.1 rfl (lv_room (Nat.le_of_ble_eq_true rfl)) dX5_reach_23 ⟨Nat.le_of_ble_eq_true rfl, Nat.le_of_ble_eq_true rfl⟩) (fun r_3 w_3 => ?_)
          have w_3 : mj_maj f p0.toNatClampNeg rr.toNatClampNeg r_3 := w_3
          refine lv_ldc (v := (-40000)) hx hb hown hk_148 dX5_reach_26 ?_
          refine lv_icmp_ne (tgt := 37) hx hb dX5_reach_28 (by decide) (fun c_4 => ?_) (fun c_4 => ?_)
          · have i_4 : ¬ r_3.toInt = (-40000) := kc_ne c_4
            refine lv_iload_n hx hb dX5_reach_37 rfl (lv_at hl 0 rfl) ?_
            have hP9 := hP
            have hD9 := hD
            have hK9 := hK
            exact W.iret (v := rr) hx hb hr (fun t ht hW => ⟨⟨rr, (), rfl, trivial, by rw [ht]; exact hP9, va_K.moved hW.alike hK9, hD9⟩, hS.F ht⟩) hS.2.2 dX5_reach_38
          · have i_4 : r_3.toInt = (-40000) := kc_eq c_4
            have n_p0 := ki_nat p0 rfl (by omega)
            have n_rr := ki_nat rr rfl (by omega)
            have hne := mj_maj_one w_3 s1 (by omega) c_4
            obtain ⟨x_5, ex_5⟩ : ∃ y : Int32, y = rr + (-1) := ⟨_, rfl⟩
            have i_5 : x_5.toInt = rr.toInt + (-1) := ki_add ex_5 rfl rfl (by omega) (om_155 a1 LP1_h1)
            refine lv_iinc (v := x_5) (lv' := [(2, .int x_5), (0, .ref h0), (1, .int p0)]) hx hb dX5_reach_31 hl (k := 0) rfl (by rw [ex_5]; rfl) (by decide) rfl (fun ls hl => ?_)
            refine lv_goto (tgt := 20) hx hb dX5_reach_34 (by decide) ?_
            exact ih1 x_5 (by omega) (om_23 LP1_h1 i_5) (by omega) _ _ hP hD hS ls (lv_sub hl [0, 1, 2] rfl)
      exact LP1 ((m_n.toInt : Int).toNat + 1) m_n (by omega) om_7 (Nat.lt_succ_self _) _ _ hP hD hS ls (lv_sub hl [0, 1, 2] rfl)
    · exact absurd c_2 (by decide)
  · have w_1 : (p0.toInt < 0 ∨ m_n.toInt ≤ p0.toInt) := w_1
    refine lv_if_ne (tgt := 15) hx hb dX5_reach_10 (by decide) (fun c_6 => ?_) (fun c_6 => ?_)
    · exact absurd c_6 (by decide)
    · refine lv_iconst (v := (-1)) hx hb dX5_reach_13 (by decide) ?_
      have hP9 := hP
      have hD9 := hD
      have hK9 := hK
      exact W.iret (v := (-1)) hx hb hr (fun t ht hW => ⟨⟨(-1), (), rfl, trivial, by rw [ht]; exact hP9, va_K.moved hW.alike hK9, hD9⟩, hS.F ht⟩) hS.2.2 dX5_reach_14

set_option maxHeartbeats 4000000 in
set_option maxRecDepth 100000 in
theorem c_X5_spares (l : Launch) (dC : Nat → ClassId) (dI : Nat → Nat → Nat) (h0 : Nat) (g_row : Nat) (g_many : Nat) (g_loss : Nat) (g_less : Nat) (g_voteValue : Nat) (g_voteNumber : Nat) (g_allValue : Nat) (g_allNumber : Nat) (g_nodeL : Nat) (g_nodeR : Nat) (g_part : Nat) (g_wasMany : Nat) (g_wasLoss : Nat) (g_wasValue : Nat) (g_wasNumber : Nat) (g_path : Nat) (g_heavyValue : Nat) (g_heavyTimes : Nat) (g_fewest : Nat) (g_which : Nat) (g_met : Nat) (m_n : Int32) (m_slots : Int32) (m_thrown : Int32) (m_allMany : Int32) (m_nodes : Int32) (m_partMany : Int32) (m_pathMany : Int32) (m_heavyMany : Int32) (m_mostMet : Int32) (cyI : ClassId) (f : Nat → Int32) (p0 : Int32) (p1 : Int32) (p2 : Int32) (p3 : Int32) (p4 : Int32) (sz : Nat) (a0 : 0 ≤ m_n.toInt) (a1 : m_n.toInt ≤ 160) : Met l yX5_spares wsX5_spares ({ frames := 2, cells := 0, slots := 0, locals := 90 }) (va_Pc [.ref h0, .int p0, .int p1, .int p2, .int p3, .int p4] (fun U => U.heap.size = sz ∧ va_P (dC, dI) vwCl [kx_5 h0 g_row m_n m_slots m_thrown g_many g_loss g_less g_voteValue g_voteNumber g_allValue g_allNumber m_allMany g_nodeL g_nodeR m_nodes g_part m_partMany g_wasMany g_wasLoss g_wasValue g_wasNumber g_path m_pathMany g_heavyValue g_heavyTimes m_heavyMany g_fewest g_which g_met m_mostMet, kx_a g_row cyI 160 f] U.heap ∧ va_K (dC, dI) vwCl [(cyI, .int)] U ∧ va_D (fun _ => True) [kx_5 h0 g_row m_n m_slots m_thrown g_many g_loss g_less g_voteValue g_voteNumber g_allValue g_allNumber m_allMany g_nodeL g_nodeR m_nodes g_part m_partMany g_wasMany g_wasLoss g_wasValue g_wasNumber g_path m_pathMany g_heavyValue g_heavyTimes m_heavyMany g_fewest g_which g_met m_mostMet, kx_a g_row cyI 160 f])) (va_Qi (fun (r : Int32) (_ : Unit) => True) (fun (_ : Unit) (t : State) => va_P (dC, dI) vwCl [kx_5 h0 g_row m_n m_slots 0 g_many g_loss g_less g_voteValue g_voteNumber g_allValue g_allNumber m_allMany g_nodeL g_nodeR m_nodes g_part m_partMany g_wasMany g_wasLoss g_wasValue g_wasNumber g_path m_pathMany g_heavyValue g_heavyTimes m_heavyMany g_fewest g_which g_met m_mostMet, kx_a g_row cyI 160 f] t.heap ∧ va_K (dC, dI) vwCl [(cyI, .int)] t ∧ va_D (va_A [kx_5 h0 g_row m_n m_slots m_thrown g_many g_loss g_less g_voteValue g_voteNumber g_allValue g_allNumber m_allMany g_nodeL g_nodeR m_nodes g_part m_partMany g_wasMany g_wasLoss g_wasValue g_wasNumber g_path m_pathMany g_heavyValue g_heavyTimes m_heavyMany g_fewest g_which g_met m_mostMet, kx_a g_row cyI 160 f] sz) [kx_5 h0 g_row m_n m_slots 0 g_many g_loss g_less g_voteValue g_voteNumber g_allValue g_allNumber m_allMany g_nodeL g_nodeR m_nodes g_part m_partMany g_wasMany g_wasLoss g_wasValue g_wasNumber g_path m_pathMany g_heavyValue g_heavyTimes m_heavyMany g_fewest g_which g_met m_mostMet, kx_a g_row cyI 160 f]) (va_A [kx_5 h0 g_row m_n m_slots m_thrown g_many g_loss g_less g_voteValue g_voteNumber g_allValue g_allNumber m_allMany g_nodeL g_nodeR m_nodes g_part m_partMany g_wasMany g_wasLoss g_wasValue g_wasNumber g_path m_pathMany g_heavyValue g_heavyTimes m_heavyMany g_fewest g_which g_met m_mostMet, kx_a g_row cyI 160 f] sz)) 0 0 (va_A [kx_5 h0 g_row m_n m_slots m_thrown g_many g_loss g_less g_voteValue g_voteNumber g_allValue g_allNumber m_allMany g_nodeL g_nodeR m_nodes g_part m_partMany g_wasMany g_wasLoss g_wasValue g_wasNumber g_path m_pathMany g_heavyValue g_heavyTimes m_heavyMany g_fewest g_which g_met m_mostMet, kx_a g_row cyI 160 f] sz) := by
  refine Met.ofW (cc := cX5_spares) (maxL := 8) (ret := (some .int)) (by decide) rfl ?_
  intro p e s m args below meth c s₁ B hml hv
  obtain ⟨rfl, hsz, hP, hK, hD0⟩ := hv
  have hx := B.exec
  have hb := B.bytes
  have hr := B.returns
  have hts := atoms_spec (ws := wsX5_spares) B.pre
  have hown : s.vm.findClass RX5 = some m.cls := findClass_of_methodNamed B.named
  have hlocks := B.notSynchronized
  subst hsz
  have hD := hD0.self (sz := s.heap.size)
  generalize hAe : va_A [kx_5 h0 g_row m_n m_slots m_thrown g_many g_loss g_less g_voteValue g_voteNumber g_allValue g_allNumber m_allMany g_nodeL g_nodeR m_nodes g_part m_partMany g_wasMany g_wasLoss g_wasValue g_wasNumber g_path m_pathMany g_heavyValue g_heavyTimes m_heavyMany g_fewest g_which g_met m_mostMet, kx_a g_row cyI 160 f] s.heap.size = A at hD ⊢
  have hA : ∀ q : Nat, s.heap.size ≤ q → A q := fun q h => by rw [← hAe]; exact Or.inr h
  have hS : va_S A s.heap s.heap [] := va_S.rf
  have hP : va_P (dC, dI) vwCl [kx_5 h0 g_row m_n m_slots m_thrown g_many g_loss g_less g_voteValue g_voteNumber g_allValue g_allNumber m_allMany g_nodeL g_nodeR m_nodes g_part m_partMany g_wasMany g_wasLoss g_wasValue g_wasNumber g_path m_pathMany g_heavyValue g_heavyTimes m_heavyMany g_fewest g_which g_met m_mostMet, kx_a g_row cyI 160 f] s.heap := hP
  have hl := lv_entry ([.ref h0, .int p0, .int p1, .int p2, .int p3, .int p4]) (n := 8) (Nat.le_of_ble_eq_true rfl)
  rw [lg_entry_eq]
  generalize (lg_sl ([.ref h0, .int p0, .int p1, .int p2, .int p3, .int p4]) ++ List.replicate (8 - (lg_sl ([.ref h0, .int p0, .int p1, .int p2, .int p3, .int p4])).length) Slot.unset).toArray = ls at hl ⊢
  have hl : lv_has ls 8 [(0, .ref h0), (1, .int p0), (2, .int p1), (3, .int p2), (4, .int p3), (5, .int p4)] := hl
  have hf_77 := hts (.fieldLink RX5 77 "MajorityIndexModel" "thrown" "I") (List.mem_of_getElem? (i := 1) rfl)
  have hi_5 : ∀ w ∈ u_ws RX5 TX5 30, w ∈ wsX5_spares := fun w h => List.mem_cons_of_mem _ (List.mem_append_right _ h)
  refine lv_aload_n hx hb dX5_spares_0 rfl (lv_at hl 0 rfl) ?_
  refine lv_iconst (v := 0) hx hb dX5_spares_1 (by decide) ?_
  refine va_put (D := (dC, dI)) (ci := 5) (v := .int 0) (ty := .int) (C := RX5) (T := TX5) (N := 30) hx hb hts hi_5 tyX5 tyX5_ok nmX5 hown hK hP hD hS 0 rfl rfl 3 (by decide) hf_77 (fun _ h9 => h9) rfl (by decide +kernel) rfl rfl (Nat.le_of_ble_eq_true rfl) dX5_spares_2 (fun H locs hP hD hS => ?_)
  have hP : va_P (dC, dI) vwCl [kx_5 h0 g_row m_n m_slots 0 g_many g_loss g_less g_voteValue g_voteNumber g_allValue g_allNumber m_allMany g_nodeL g_nodeR m_nodes g_part m_partMany g_wasMany g_wasLoss g_wasValue g_wasNumber g_path m_pathMany g_heavyValue g_heavyTimes m_heavyMany g_fewest g_which g_met m_mostMet, kx_a g_row cyI 160 f] H := hP
  have hD : va_D A [kx_5 h0 g_row m_n m_slots 0 g_many g_loss g_less g_voteValue g_voteNumber g_allValue g_allNumber m_allMany g_nodeL g_nodeR m_nodes g_part m_partMany g_wasMany g_wasLoss g_wasValue g_wasNumber g_path m_pathMany g_heavyValue g_heavyTimes m_heavyMany g_fewest g_which g_met m_mostMet, kx_a g_row cyI 160 f] := hD
  refine lv_iload_n hx hb dX5_spares_5 rfl (lv_at hl 1 rfl) ?_
  have hPc := hP.sub (ws' := []) [] rfl
  have hKc := hK.sub (tys' := []) [] rfl
  refine vp_callSi (W.runS (As := [.int p0]) (rest := []) ⟨hx, hb, hml, hown, hts⟩ (c_X5_isValue l dC dI p0) (va_cwS 1 hts gX5_spares_X5_isValue rfl rfl rfl (by decide +kernel) ⟨Nat.le_of_ble_eq_true rfl, Nat.le_of_ble_eq_true rfl⟩) ⟨fun a U g mk q => by obtain ⟨q0, qP, qK⟩ := q; exact ⟨q0, qP, va_K.moved (u := U) (U := U.calling g mk a) (Vm.Alike.refl U.vm) qK⟩, fun U hU hW => ⟨rfl, by rw [hU]; exact hPc, va_K.moved hW.alike hKc⟩⟩ rfl rfl hl.1 rfl (lv_room (Nat.le_of_ble_eq_true rfl)) dX5_spares_6 ⟨Nat.le_of_ble_eq_true rfl, Nat.le_of_ble_eq_true rfl⟩) (fun r_1 w_1 => ?_)
  rcases w_1 with ⟨rfl, w_1⟩ | ⟨rfl, w_1⟩
  · have w_1 : (-32768 ≤ p0.toInt ∧ p0.toInt ≤ 32767) := w_1
    refine lv_if_eq (tgt := 31) hx hb dX5_spares_9 (by decide) (fun c_2 => ?_) (fun c_2 => ?_)
    · exact absurd c_2 (by decide)
    · refine lv_aload_n hx hb dX5_spares_12 rfl (lv_at hl 0 rfl) ?_
      refine lv_iload_n hx hb dX5_spares_13 rfl (lv_at hl 2 rfl) ?_
      refine lv_iload_n hx hb dX5_spares_14 rfl (lv_at hl 3 rfl) ?_
      have hPc := hP.sub (ws' := [kx_5 h0 g_row m_n m_slots 0 g_many g_loss g_less g_voteValue g_voteNumber g_allValue g_allNumber m_allMany g_nodeL g_nodeR m_nodes g_part m_partMany g_wasMany g_wasLoss g_wasValue g_wasNumber g_path m_pathMany g_heavyValue g_heavyTimes m_heavyMany g_fewest g_which g_met m_mostMet]) [0] rfl
      have hKc := hK.sub (tys' := []) [] rfl
      refine vp_callSi (W.runV (As := [.int p1, .int p2]) (rest := []) ⟨hx, hb, hml, hown, hts⟩ (c_X5_isRange l dC dI h0 g_row g_many g_loss g_less g_voteValue g_voteNumber g_allValue g_allNumber g_nodeL g_nodeR g_part g_wasMany g_wasLoss g_wasValue g_wasNumber g_path g_heavyValue g_heavyTimes g_fewest g_which g_met m_n m_slots 0 m_allMany m_nodes m_partMany m_pathMany m_heavyMany m_mostMet p1 p2) (cwV 2 hts gX5_spares_X5_isRange rfl rfl rfl (by decide +kernel) ⟨Nat.le_of_ble_eq_true rfl, Nat.le_of_ble_eq_true rfl⟩) ⟨fun a U g mk q => by obtain ⟨q0, qP, qK⟩ := q; exact ⟨q0, qP, va_K.moved (u := U) (U := U.calling g mk a) (Vm.Alike.refl U.vm) qK⟩, va_recv hKc hPc (ci := 5) (q0 := 0) rfl rfl, fun U hU hW => ⟨rfl, by rw [hU]; exact hPc, va_K.moved hW.alike hKc⟩⟩ rfl rfl hl.1 rfl (lv_room (Nat.le_of_ble_eq_true rfl)) dX5_spares_15 ⟨Nat.le_of_ble_eq_true rfl, Nat.le_of_ble_eq_true rfl⟩) (fun r_3 w_3 => ?_)
      rcases w_3 with ⟨rfl, w_3⟩ | ⟨rfl, w_3⟩
      · have w_3 : (0 ≤ p1.toInt ∧ p1.toInt < p2.toInt ∧ p2.toInt ≤ m_n.toInt) := w_3
        refine lv_if_eq (tgt := 31) hx hb dX5_spares_18 (by decide) (fun c_4 => ?_) (fun c_4 => ?_)
        · exact absurd c_4 (by decide)
        · refine lv_iload hx hb dX5_spares_21 (lv_at hl 4 rfl) ?_
          refine lv_iload hx hb dX5_spares_23 (lv_at hl 5 rfl) ?_
          have hPc := hP.sub (ws' := []) [] rfl
          have hKc := hK.sub (tys' := []) [] rfl
          refine vp_callSi (W.runS (As := [.int p3, .int p4]) (rest := []) ⟨hx, hb, hml, hown, hts⟩ (c_X5_isShare l dC dI p3 p4) (va_cwS 2 hts gX5_spares_X5_isShare rfl rfl rfl (by decide +kernel) ⟨Nat.le_of_ble_eq_true rfl, Nat.le_of_ble_eq_true rfl⟩) ⟨fun a U g mk q => by obtain ⟨q0, qP, qK⟩ := q; exact ⟨q0, qP, va_K.moved (u := U) (U := U.calling g mk a) (Vm.Alike.refl U.vm) qK⟩, fun U hU hW => ⟨rfl, by rw [hU]; exact hPc, va_K.moved hW.alike hKc⟩⟩ rfl rfl hl.1 rfl (lv_room (Nat.le_of_ble_eq_true rfl)) dX5_spares_25 ⟨Nat.le_of_ble_eq_true rfl, Nat.le_of_ble_eq_true rfl⟩) (fun r_5 w_5 => ?_)
          rcases w_5 with ⟨rfl, w_5⟩ | ⟨rfl, w_5⟩
          · have w_5 : (1 ≤ p3.toInt ∧ p3.toInt ≤ p4.toInt ∧ p4.toInt ≤ 999) := w_5
            refine lv_if_ne (tgt := 33) hx hb dX5_spares_28 (by decide) (fun c_6 => ?_) (fun c_6 => ?_)
            · refine lv_aload_n hx hb dX5_spares_33 rfl (lv_at hl 0 rfl) ?_
              refine lv_iload_n hx hb dX5_spares_34 rfl (lv_at hl 1 rfl) ?_
              refine lv_iload_n hx hb dX5_spares_35 rfl (lv_at hl 2 rfl) ?_
              refine lv_iload_n hx hb dX5_spares_36 rfl (lv_at hl 3 rfl) ?_
              have hPc := hP
              have hKc := hK
              refine vp_callSi (W.runV (As := [.int p0, .int p1, .int p2]) (rest := []) ⟨hx, hb, hml, hown, hts⟩ (c_X5_times l dC dI h0 g_row g_many g_loss g_less g_voteValue g_voteNumber g_allValue g_allNumber g_nodeL g_nodeR g_part g_wasMany g_wasLoss g_wasValue g_wasNumber g_path g_heavyValue g_heavyTimes g_fewest g_which g_met m_n m_slots 0 m_allMany m_nodes m_partMany m_pathMany m_heavyMany m_mostMet cyI f p0 p1 p2 (by omega) (by omega)) (cwV 3 hts gX5_spares_X5_times rfl rfl rfl (by decide +kernel) ⟨Nat.le_of_ble_eq_true rfl, Nat.le_of_ble_eq_true rfl⟩) ⟨fun a U g mk q => by obtain ⟨q0, qP, qK⟩ := q; exact ⟨q0, qP, va_K.moved (u := U) (U := U.calling g mk a) (Vm.Alike.refl U.vm) qK⟩, va_recv hKc hPc (ci := 5) (q0 := 0) rfl rfl, fun U hU hW => ⟨rfl, by rw [hU]; exact hPc, va_K.moved hW.alike hKc⟩⟩ rfl rfl hl.1 rfl (lv_room (Nat.le_of_ble_eq_true rfl)) dX5_spares_37 ⟨Nat.le_of_ble_eq_true rfl, Nat.le_of_ble_eq_true rfl⟩) (fun r_7 w_7 => ?_)
              have w_7 : r_7.toInt = (cnt f p0 p1.toNatClampNeg (p2.toInt - p1.toInt).toNat : Int) := w_7
              have hle := cnt_le f p0 p1.toNatClampNeg (p2.toInt - p1.toInt).toNat
              refine lv_istore (lv' := [(6, .int r_7), (0, .ref h0), (1, .int p0), (2, .int p1), (3, .int p2), (4, .int p3), (5, .int p4)]) hx hb dX5_spares_40 hl (by decide) rfl (fun ls hl => ?_)
              refine lv_iconst (v := 0) hx hb dX5_spares_42 (by decide) ?_
              refine lv_istore (lv' := [(7, .int 0), (6, .int r_7), (0, .ref h0), (1, .int p0), (2, .int p1), (3, .int p2), (4, .int p3), (5, .int p4)]) hx hb dX5_spares_43 hl (by decide) rfl (fun ls hl => ?_)
              have LP1 : ∀ (n : Nat) (k : Int32), (0 ≤ k.toInt) → (k.toInt ≤ r_7.toInt) → (r_7.toInt - k.toInt).toNat < n → ∀ (H : Heap) (locs : List Loc), va_P (dC, dI) vwCl [kx_5 h0 g_row m_n m_slots 0 g_many g_loss g_less g_voteValue g_voteNumber g_allValue g_allNumber m_allMany g_nodeL g_nodeR m_nodes g_part m_partMany g_wasMany g_wasLoss g_wasValue g_wasNumber g_path m_pathMany g_heavyValue g_heavyTimes m_heavyMany g_fewest g_which g_met m_mostMet, kx_a g_row cyI 160 f] H → va_D A [kx_5 h0 g_row m_n m_slots 0 g_many g_loss g_less g_voteValue g_voteNumber g_allValue g_allNumber m_allMany g_nodeL g_nodeR m_nodes g_part m_partMany g_wasMany g_wasLoss g_wasValue g_wasNumber g_path m_pathMany g_heavyValue g_heavyTimes m_heavyMany g_fewest g_which g_met m_mostMet, kx_a g_row cyI 160 f] → va_S A s.heap H locs → ∀ (ls : Array Slot), lv_has ls 8 [(7, .int k), (6, .int r_7), (0, .ref h0), (1, .int p0), (2, .int p1), (3, .int p2), (4, .int p3), (5, .int p4)] → W p l e (headSpec wsX5_spares ({ frames := 2, cells := 0, slots := 0, locals := 90 })).room s m ([.ref h0, .int p0, .int p1, .int p2, .int p3, .int p4] : List Value).toArray below meth c H locs 0 0 (MQ below (va_Qi (fun (r : Int32) (_ : Unit) => True) (fun (_ : Unit) (t : State) => va_P (dC, dI) vwCl [kx_5 h0 g_row m_n m_slots 0 g_many g_loss g_less g_voteValue g_voteNumber g_allValue g_allNumber m_allMany g_nodeL g_nodeR m_nodes g_part m_partMany g_wasMany g_wasLoss g_wasValue g_wasNumber g_path m_pathMany g_heavyValue g_heavyTimes m_heavyMany g_fewest g_which g_met m_mostMet, kx_a g_row cyI 160 f] t.heap ∧ va_K (dC, dI) vwCl [(cyI, .int)] t ∧ va_D A [kx_5 h0 g_row m_n m_slots 0 g_many g_loss g_less g_voteValue g_voteNumber g_allValue g_allNumber m_allMany g_nodeL g_nodeR m_nodes g_part m_partMany g_wasMany g_wasLoss g_wasValue g_wasNumber g_path m_pathMany g_heavyValue g_heavyTimes m_heavyMany g_fewest g_which g_met m_mostMet, kx_a g_row cyI 160 f]) A) ([.ref h0, .int p0, .int p1, .int p2, .int p3, .int p4] : List Value).toArray s 0 0 A) (F0 m 45 ls []) := by
                intro n
                induction n with
                | zero => intro k LP1_h0 LP1_h1 hn; exact absurd hn (Nat.not_lt_zero _)
                | succ n ih1 =>
                  intro k LP1_h0 LP1_h1 hn1 H locs hP hD hS ls hl
                  refine lv_iload hx hb dX5_spares_45 (lv_at hl 1 rfl) ?_
                  refine lv_iload hx hb dX5_spares_47 (lv_at hl 0 rfl) ?_
                  refine lv_isub hx hb dX5_spares_49 ?_
                  refine lv_topi (fun y_8 ey_8 => ?_)
                  have i_8 : y_8.toInt = r_7.toInt - k.toInt := ki_sub ey_8 rfl rfl (om_124 LP1_h1) (by omega)
                  refine lv_iload hx hb dX5_spares_50 (lv_at hl 7 rfl) ?_
                  refine lv_imul hx hb dX5_spares_52 ?_
                  refine lv_topi (fun y_9 ey_9 => ?_)
                  refine lv_iload hx hb dX5_spares_53 (lv_at hl 6 rfl) ?_
                  refine lv_iload_n hx hb dX5_spares_55 rfl (lv_at hl 5 rfl) ?_
                  refine lv_iload_n hx hb dX5_spares_56 rfl (lv_at hl 4 rfl) ?_
                  refine lv_isub hx hb dX5_spares_57 ?_
                  refine lv_topi (fun y_10 ey_10 => ?_)
                  have i_10 : y_10.toInt = p2.toInt - p1.toInt := ki_sub ey_10 rfl rfl (by omega) (by omega)
                  refine lv_imul hx hb dX5_spares_58 ?_
                  refine lv_topi (fun y_11 ey_11 => ?_)
                  have b1 := ki_mulb (a := y_8.toInt) (b := p4.toInt) (A := 160) (B := 999) (by omega) (by omega) (by omega) (by omega)
                  have b2 := ki_mulb (a := p3.toInt) (b := y_10.toInt) (A := 999) (B := 160) (by omega) (by omega) (by omega) (by omega)
                  have m1 : y_9.toInt = y_8.toInt * p4.toInt := ki_mul ey_9 rfl rfl (by omega) (by omega)
                  have m2 : y_11.toInt = p3.toInt * y_10.toInt := ki_mul ey_11 rfl rfl (by omega) (by omega)
                  refine lv_icmp_le (tgt := 68) hx hb dX5_spares_59 (by decide) (fun c_12 => ?_) (fun c_12 => ?_)
                  · have i_12 : y_9.toInt ≤ y_11.toInt := kc_le c_12
                    refine lv_iload hx hb dX5_spares_68 (lv_at hl 0 rfl) ?_
                    have hP9 := hP
                    have hD9 := hD
                    have hK9 := hK
                    exact W.iret (v := k) hx hb hr (fun t ht hW => ⟨⟨k, (), rfl, trivial, by rw [ht]; exact hP9, va_K.moved hW.alike hK9, hD9⟩, hS.F ht⟩) hS.2.2 dX5_spares_70
                  · have i_12 : y_11.toInt < y_9.toInt := kc_nle c_12
                    have h3 := ki_mulpos (z := p3.toInt * y_10.toInt) (a := y_8.toInt) (b := p4.toInt) (by omega) (by omega) (by omega)
                    obtain ⟨x_13, ex_13⟩ : ∃ y : Int32, y = k + 1 := ⟨_, rfl⟩
                    have i_13 : x_13.toInt = k.toInt + 1 := ki_add ex_13 rfl rfl (om_10 LP1_h0) (by omega)
                    refine lv_iinc (v := x_13) (lv' := [(7, .int x_13), (6, .int r_7), (0, .ref h0), (1, .int p0), (2, .int p1), (3, .int p2), (4, .int p3), (5, .int p4)]) hx hb dX5_spares_62 hl (k := 0) rfl (by rw [ex_13]; rfl) (by decide) rfl (fun ls hl => ?_)
                    refine lv_goto (tgt := 45) hx hb dX5_spares_65 (by decide) ?_
                    exact ih1 x_13 (om_31 LP1_h0 i_13) (by omega) (by omega) _ _ hP hD hS ls (lv_sub hl [0, 1, 2, 3, 4, 5, 6, 7] rfl)
              have k_14 : (0 : Int32).toInt = 0 := rfl
              exact LP1 ((r_7.toInt - 0 : Int).toNat + 1) 0 om_32 (by omega) (Nat.lt_succ_self _) _ _ hP hD hS ls (lv_sub hl [0, 1, 2, 3, 4, 5, 6, 7] rfl)
            · exact absurd c_6 (by decide)
          · have w_5 : (p3.toInt < 1 ∨ p4.toInt < p3.toInt ∨ 999 < p4.toInt) := w_5
            refine lv_if_ne (tgt := 33) hx hb dX5_spares_28 (by decide) (fun c_15 => ?_) (fun c_15 => ?_)
            · exact absurd c_15 (by decide)
            · refine lv_iconst (v := (-1)) hx hb dX5_spares_31 (by decide) ?_
              have hP9 := hP
              have hD9 := hD
              have hK9 := hK
              exact W.iret (v := (-1)) hx hb hr (fun t ht hW => ⟨⟨(-1), (), rfl, trivial, by rw [ht]; exact hP9, va_K.moved hW.alike hK9, hD9⟩, hS.F ht⟩) hS.2.2 dX5_spares_32
      · have w_3 : (p1.toInt < 0 ∨ p2.toInt ≤ p1.toInt ∨ m_n.toInt < p2.toInt) := w_3
        refine lv_if_eq (tgt := 31) hx hb dX5_spares_18 (by decide) (fun c_16 => ?_) (fun c_16 => ?_)
        · refine lv_iconst (v := (-1)) hx hb dX5_spares_31 (by decide) ?_
          have hP9 := hP
          have hD9 := hD
          have hK9 := hK
          exact W.iret (v := (-1)) hx hb hr (fun t ht hW => ⟨⟨(-1), (), rfl, trivial, by rw [ht]; exact hP9, va_K.moved hW.alike hK9, hD9⟩, hS.F ht⟩) hS.2.2 dX5_spares_32
        · exact absurd c_16 (by decide)
  · have w_1 : (p0.toInt < -32768 ∨ 32767 < p0.toInt) := w_1
    refine lv_if_eq (tgt := 31) hx hb dX5_spares_9 (by decide) (fun c_17 => ?_) (fun c_17 => ?_)
    · refine lv_iconst (v := (-1)) hx hb dX5_spares_31 (by decide) ?_
      have hP9 := hP
      have hD9 := hD
      have hK9 := hK
      exact W.iret (v := (-1)) hx hb hr (fun t ht hW => ⟨⟨(-1), (), rfl, trivial, by rw [ht]; exact hP9, va_K.moved hW.alike hK9, hD9⟩, hS.F ht⟩) hS.2.2 dX5_spares_32
    · exact absurd c_17 (by decide)

set_option maxHeartbeats 4000000 in
set_option maxRecDepth 100000 in
theorem c_X5_swings (l : Launch) (dC : Nat → ClassId) (dI : Nat → Nat → Nat) (h0 : Nat) (g_row : Nat) (g_many : Nat) (g_loss : Nat) (g_less : Nat) (g_voteValue : Nat) (g_voteNumber : Nat) (g_allValue : Nat) (g_allNumber : Nat) (g_nodeL : Nat) (g_nodeR : Nat) (g_part : Nat) (g_wasMany : Nat) (g_wasLoss : Nat) (g_wasValue : Nat) (g_wasNumber : Nat) (g_path : Nat) (g_heavyValue : Nat) (g_heavyTimes : Nat) (g_fewest : Nat) (g_which : Nat) (g_met : Nat) (m_n : Int32) (m_slots : Int32) (m_thrown : Int32) (m_allMany : Int32) (m_nodes : Int32) (m_partMany : Int32) (m_pathMany : Int32) (m_heavyMany : Int32) (m_mostMet : Int32) (cyI : ClassId) (fm : Nat → Int32) (fl : Nat → Int32) (fe : Nat → Int32) (vv : Nat → Int32) (vn : Nat → Int32) (f : Nat → Int32) (av : Nat → Int32) (an : Nat → Int32) (nl : Nat → Int32) (nr : Nat → Int32) (p0 : Int32) (p1 : Int32) (p2 : Int32) (p3 : Int32) (sz : Nat) (a0 : 0 ≤ m_n.toInt) (a1 : m_n.toInt ≤ 160) (sl0 : 1 ≤ m_slots.toInt) (sl1 : m_slots.toInt ≤ 6) (s4 : six4 fm) : Met l yX5_swings wsX5_swings ({ frames := 12, cells := 0, slots := 0, locals := 540 }) (va_Pc [.ref h0, .int p0, .int p1, .int p2, .int p3] (fun U => U.heap.size = sz ∧ va_P (dC, dI) vwCl [kx_5 h0 g_row m_n m_slots m_thrown g_many g_loss g_less g_voteValue g_voteNumber g_allValue g_allNumber m_allMany g_nodeL g_nodeR m_nodes g_part m_partMany g_wasMany g_wasLoss g_wasValue g_wasNumber g_path m_pathMany g_heavyValue g_heavyTimes m_heavyMany g_fewest g_which g_met m_mostMet, kx_a g_row cyI 160 f, kx_a g_many cyI 324 fm, kx_a g_loss cyI 324 fl, kx_a g_less cyI 324 fe, kx_a g_voteValue cyI 1944 vv, kx_a g_voteNumber cyI 1944 vn, kx_a g_allValue cyI 12 av, kx_a g_allNumber cyI 12 an, kx_a g_nodeL cyI 320 nl, kx_a g_nodeR cyI 320 nr] U.heap ∧ va_K (dC, dI) vwCl [(cyI, .int)] U ∧ va_D (fun _ => True) [kx_5 h0 g_row m_n m_slots m_thrown g_many g_loss g_less g_voteValue g_voteNumber g_allValue g_allNumber m_allMany g_nodeL g_nodeR m_nodes g_part m_partMany g_wasMany g_wasLoss g_wasValue g_wasNumber g_path m_pathMany g_heavyValue g_heavyTimes m_heavyMany g_fewest g_which g_met m_mostMet, kx_a g_row cyI 160 f, kx_a g_many cyI 324 fm, kx_a g_loss cyI 324 fl, kx_a g_less cyI 324 fe, kx_a g_voteValue cyI 1944 vv, kx_a g_voteNumber cyI 1944 vn, kx_a g_allValue cyI 12 av, kx_a g_allNumber cyI 12 an, kx_a g_nodeL cyI 320 nl, kx_a g_nodeR cyI 320 nr])) (va_Qi (fun (r : Int32) (u : Int32 × Int32 × (Nat → Int32) × (Nat → Int32) × (Nat → Int32) × (Nat → Int32) × (Nat → Int32) × (Nat → Int32) × (Nat → Int32) × (Nat → Int32) × (Nat → Int32) × (Nat → Int32)) => six4 u.2.2.1 ∧ u.2.2.2.2.2.2.2.2.2.2.2 = f) (fun (u : Int32 × Int32 × (Nat → Int32) × (Nat → Int32) × (Nat → Int32) × (Nat → Int32) × (Nat → Int32) × (Nat → Int32) × (Nat → Int32) × (Nat → Int32) × (Nat → Int32) × (Nat → Int32)) (t : State) => va_P (dC, dI) vwCl [kx_5 h0 g_row m_n m_slots 0 g_many g_loss g_less g_voteValue g_voteNumber g_allValue g_allNumber u.2.1 g_nodeL g_nodeR u.1 g_part m_partMany g_wasMany g_wasLoss g_wasValue g_wasNumber g_path m_pathMany g_heavyValue g_heavyTimes m_heavyMany g_fewest g_which g_met m_mostMet, kx_a g_row cyI 160 u.2.2.2.2.2.2.2.2.2.2.2, kx_a g_many cyI 324 u.2.2.1, kx_a g_loss cyI 324 u.2.2.2.1, kx_a g_less cyI 324 u.2.2.2.2.1, kx_a g_voteValue cyI 1944 u.2.2.2.2.2.1, kx_a g_voteNumber cyI 1944 u.2.2.2.2.2.2.1, kx_a g_allValue cyI 12 u.2.2.2.2.2.2.2.1, kx_a g_allNumber cyI 12 u.2.2.2.2.2.2.2.2.1, kx_a g_nodeL cyI 320 u.2.2.2.2.2.2.2.2.2.1, kx_a g_nodeR cyI 320 u.2.2.2.2.2.2.2.2.2.2.1] t.heap ∧ va_K (dC, dI) vwCl [(cyI, .int)] t ∧ va_D (va_A [kx_5 h0 g_row m_n m_slots m_thrown g_many g_loss g_less g_voteValue g_voteNumber g_allValue g_allNumber m_allMany g_nodeL g_nodeR m_nodes g_part m_partMany g_wasMany g_wasLoss g_wasValue g_wasNumber g_path m_pathMany g_heavyValue g_heavyTimes m_heavyMany g_fewest g_which g_met m_mostMet, kx_a g_row cyI 160 f, kx_a g_many cyI 324 fm, kx_a g_loss cyI 324 fl, kx_a g_less cyI 324 fe, kx_a g_voteValue cyI 1944 vv, kx_a g_voteNumber cyI 1944 vn, kx_a g_allValue cyI 12 av, kx_a g_allNumber cyI 12 an, kx_a g_nodeL cyI 320 nl, kx_a g_nodeR cyI 320 nr] sz) [kx_5 h0 g_row m_n m_slots 0 g_many g_loss g_less g_voteValue g_voteNumber g_allValue g_allNumber u.2.1 g_nodeL g_nodeR u.1 g_part m_partMany g_wasMany g_wasLoss g_wasValue g_wasNumber g_path m_pathMany g_heavyValue g_heavyTimes m_heavyMany g_fewest g_which g_met m_mostMet, kx_a g_row cyI 160 u.2.2.2.2.2.2.2.2.2.2.2, kx_a g_many cyI 324 u.2.2.1, kx_a g_loss cyI 324 u.2.2.2.1, kx_a g_less cyI 324 u.2.2.2.2.1, kx_a g_voteValue cyI 1944 u.2.2.2.2.2.1, kx_a g_voteNumber cyI 1944 u.2.2.2.2.2.2.1, kx_a g_allValue cyI 12 u.2.2.2.2.2.2.2.1, kx_a g_allNumber cyI 12 u.2.2.2.2.2.2.2.2.1, kx_a g_nodeL cyI 320 u.2.2.2.2.2.2.2.2.2.1, kx_a g_nodeR cyI 320 u.2.2.2.2.2.2.2.2.2.2.1]) (va_A [kx_5 h0 g_row m_n m_slots m_thrown g_many g_loss g_less g_voteValue g_voteNumber g_allValue g_allNumber m_allMany g_nodeL g_nodeR m_nodes g_part m_partMany g_wasMany g_wasLoss g_wasValue g_wasNumber g_path m_pathMany g_heavyValue g_heavyTimes m_heavyMany g_fewest g_which g_met m_mostMet, kx_a g_row cyI 160 f, kx_a g_many cyI 324 fm, kx_a g_loss cyI 324 fl, kx_a g_less cyI 324 fe, kx_a g_voteValue cyI 1944 vv, kx_a g_voteNumber cyI 1944 vn, kx_a g_allValue cyI 12 av, kx_a g_allNumber cyI 12 an, kx_a g_nodeL cyI 320 nl, kx_a g_nodeR cyI 320 nr] sz)) 0 0 (va_A [kx_5 h0 g_row m_n m_slots m_thrown g_many g_loss g_less g_voteValue g_voteNumber g_allValue g_allNumber m_allMany g_nodeL g_nodeR m_nodes g_part m_partMany g_wasMany g_wasLoss g_wasValue g_wasNumber g_path m_pathMany g_heavyValue g_heavyTimes m_heavyMany g_fewest g_which g_met m_mostMet, kx_a g_row cyI 160 f, kx_a g_many cyI 324 fm, kx_a g_loss cyI 324 fl, kx_a g_less cyI 324 fe, kx_a g_voteValue cyI 1944 vv, kx_a g_voteNumber cyI 1944 vn, kx_a g_allValue cyI 12 av, kx_a g_allNumber cyI 12 an, kx_a g_nodeL cyI 320 nl, kx_a g_nodeR cyI 320 nr] sz) := by
  refine Met.ofW (cc := cX5_swings) (maxL := 10) (ret := (some .int)) (by decide) rfl ?_
  intro p e s m args below meth c s₁ B hml hv
  obtain ⟨rfl, hsz, hP, hK, hD0⟩ := hv
  have hx := B.exec
  have hb := B.bytes
  have hr := B.returns
  have hts := atoms_spec (ws := wsX5_swings) B.pre
  have hown : s.vm.findClass RX5 = some m.cls := findClass_of_methodNamed B.named
  have hlocks := B.notSynchronized
  subst hsz
  have hD := hD0.self (sz := s.heap.size)
  generalize hAe : va_A [kx_5 h0 g_row m_n m_slots m_thrown g_many g_loss g_less g_voteValue g_voteNumber g_allValue g_allNumber m_allMany g_nodeL g_nodeR m_nodes g_part m_partMany g_wasMany g_wasLoss g_wasValue g_wasNumber g_path m_pathMany g_heavyValue g_heavyTimes m_heavyMany g_fewest g_which g_met m_mostMet, kx_a g_row cyI 160 f, kx_a g_many cyI 324 fm, kx_a g_loss cyI 324 fl, kx_a g_less cyI 324 fe, kx_a g_voteValue cyI 1944 vv, kx_a g_voteNumber cyI 1944 vn, kx_a g_allValue cyI 12 av, kx_a g_allNumber cyI 12 an, kx_a g_nodeL cyI 320 nl, kx_a g_nodeR cyI 320 nr] s.heap.size = A at hD ⊢
  have hA : ∀ q : Nat, s.heap.size ≤ q → A q := fun q h => by rw [← hAe]; exact Or.inr h
  have hS : va_S A s.heap s.heap [] := va_S.rf
  have hP : va_P (dC, dI) vwCl [kx_5 h0 g_row m_n m_slots m_thrown g_many g_loss g_less g_voteValue g_voteNumber g_allValue g_allNumber m_allMany g_nodeL g_nodeR m_nodes g_part m_partMany g_wasMany g_wasLoss g_wasValue g_wasNumber g_path m_pathMany g_heavyValue g_heavyTimes m_heavyMany g_fewest g_which g_met m_mostMet, kx_a g_row cyI 160 f, kx_a g_many cyI 324 fm, kx_a g_loss cyI 324 fl, kx_a g_less cyI 324 fe, kx_a g_voteValue cyI 1944 vv, kx_a g_voteNumber cyI 1944 vn, kx_a g_allValue cyI 12 av, kx_a g_allNumber cyI 12 an, kx_a g_nodeL cyI 320 nl, kx_a g_nodeR cyI 320 nr] s.heap := hP
  have hl := lv_entry ([.ref h0, .int p0, .int p1, .int p2, .int p3]) (n := 10) (Nat.le_of_ble_eq_true rfl)
  rw [lg_entry_eq]
  generalize (lg_sl ([.ref h0, .int p0, .int p1, .int p2, .int p3]) ++ List.replicate (10 - (lg_sl ([.ref h0, .int p0, .int p1, .int p2, .int p3])).length) Slot.unset).toArray = ls at hl ⊢
  have hl : lv_has ls 10 [(0, .ref h0), (1, .int p0), (2, .int p1), (3, .int p2), (4, .int p3)] := hl
  have hf_77 := hts (.fieldLink RX5 77 "MajorityIndexModel" "thrown" "I") (List.mem_of_getElem? (i := 1) rfl)
  have hi_5 : ∀ w ∈ u_ws RX5 TX5 30, w ∈ wsX5_swings := fun w h => List.mem_cons_of_mem _ (List.mem_append_right _ h)
  have hf_7 := hts (.fieldLink RX5 7 "MajorityIndexModel" "row" "[I") (List.mem_of_getElem? (i := 2) rfl)
  have hf_13 := hts (.fieldLink RX5 13 "MajorityIndexModel" "slots" "I") (List.mem_of_getElem? (i := 3) rfl)
  refine lv_aload_n hx hb dX5_swings_0 rfl (lv_at hl 0 rfl) ?_
  refine lv_iconst (v := 0) hx hb dX5_swings_1 (by decide) ?_
  refine va_put (D := (dC, dI)) (ci := 5) (v := .int 0) (ty := .int) (C := RX5) (T := TX5) (N := 30) hx hb hts hi_5 tyX5 tyX5_ok nmX5 hown hK hP hD hS 0 rfl rfl 3 (by decide) hf_77 (fun _ h9 => h9) rfl (by decide +kernel) rfl rfl (Nat.le_of_ble_eq_true rfl) dX5_swings_2 (fun H locs hP hD hS => ?_)
  have hP : va_P (dC, dI) vwCl [kx_5 h0 g_row m_n m_slots 0 g_many g_loss g_less g_voteValue g_voteNumber g_allValue g_allNumber m_allMany g_nodeL g_nodeR m_nodes g_part m_partMany g_wasMany g_wasLoss g_wasValue g_wasNumber g_path m_pathMany g_heavyValue g_heavyTimes m_heavyMany g_fewest g_which g_met m_mostMet, kx_a g_row cyI 160 f, kx_a g_many cyI 324 fm, kx_a g_loss cyI 324 fl, kx_a g_less cyI 324 fe, kx_a g_voteValue cyI 1944 vv, kx_a g_voteNumber cyI 1944 vn, kx_a g_allValue cyI 12 av, kx_a g_allNumber cyI 12 an, kx_a g_nodeL cyI 320 nl, kx_a g_nodeR cyI 320 nr] H := hP
  have hD : va_D A [kx_5 h0 g_row m_n m_slots 0 g_many g_loss g_less g_voteValue g_voteNumber g_allValue g_allNumber m_allMany g_nodeL g_nodeR m_nodes g_part m_partMany g_wasMany g_wasLoss g_wasValue g_wasNumber g_path m_pathMany g_heavyValue g_heavyTimes m_heavyMany g_fewest g_which g_met m_mostMet, kx_a g_row cyI 160 f, kx_a g_many cyI 324 fm, kx_a g_loss cyI 324 fl, kx_a g_less cyI 324 fe, kx_a g_voteValue cyI 1944 vv, kx_a g_voteNumber cyI 1944 vn, kx_a g_allValue cyI 12 av, kx_a g_allNumber cyI 12 an, kx_a g_nodeL cyI 320 nl, kx_a g_nodeR cyI 320 nr] := hD
  refine lv_aload_n hx hb dX5_swings_5 rfl (lv_at hl 0 rfl) ?_
  refine lv_iload_n hx hb dX5_swings_6 rfl (lv_at hl 1 rfl) ?_
  refine lv_iload_n hx hb dX5_swings_7 rfl (lv_at hl 2 rfl) ?_
  have hPc := hP.sub (ws' := [kx_5 h0 g_row m_n m_slots 0 g_many g_loss g_less g_voteValue g_voteNumber g_allValue g_allNumber m_allMany g_nodeL g_nodeR m_nodes g_part m_partMany g_wasMany g_wasLoss g_wasValue g_wasNumber g_path m_pathMany g_heavyValue g_heavyTimes m_heavyMany g_fewest g_which g_met m_mostMet]) [0] rfl
  have hKc := hK.sub (tys' := []) [] rfl
  refine vp_callSi (W.runV (As := [.int p0, .int p1]) (rest := []) ⟨hx, hb, hml, hown, hts⟩ (c_X5_isRange l dC dI h0 g_row g_many g_loss g_less g_voteValue g_voteNumber g_allValue g_allNumber g_nodeL g_nodeR g_part g_wasMany g_wasLoss g_wasValue g_wasNumber g_path g_heavyValue g_heavyTimes g_fewest g_which g_met m_n m_slots 0 m_allMany m_nodes m_partMany m_pathMany m_heavyMany m_mostMet p0 p1) (cwV 2 hts gX5_swings_X5_isRange rfl rfl rfl (by decide +kernel) ⟨Nat.le_of_ble_eq_true rfl, Nat.le_of_ble_eq_true rfl⟩) ⟨fun a U g mk q => by obtain ⟨q0, qP, qK⟩ := q; exact ⟨q0, qP, va_K.moved (u := U) (U := U.calling g mk a) (Vm.Alike.refl U.vm) qK⟩, va_recv hKc hPc (ci := 5) (q0 := 0) rfl rfl, fun U hU hW => ⟨rfl, by rw [hU]; exact hPc, va_K.moved hW.alike hKc⟩⟩ rfl rfl hl.1 rfl (lv_room (Nat.le_of_ble_eq_true rfl)) dX5_swings_8 ⟨Nat.le_of_ble_eq_true rfl, Nat.le_of_ble_eq_true rfl⟩) (fun r_1 w_1 => ?_)
  rcases w_1 with ⟨rfl, w_1⟩ | ⟨rfl, w_1⟩
  · have w_1 : (0 ≤ p0.toInt ∧ p0.toInt < p1.toInt ∧ p1.toInt ≤ m_n.toInt) := w_1
    refine lv_if_eq (tgt := 39) hx hb dX5_swings_11 (by decide) (fun c_2 => ?_) (fun c_2 => ?_)
    · exact absurd c_2 (by decide)
    · refine lv_iload_n hx hb dX5_swings_14 rfl (lv_at hl 2 rfl) ?_
      refine lv_iload_n hx hb dX5_swings_15 rfl (lv_at hl 1 rfl) ?_
      refine lv_isub hx hb dX5_swings_16 ?_
      refine lv_topi (fun y_3 ey_3 => ?_)
      have i_3 : y_3.toInt = p1.toInt - p0.toInt := ki_sub ey_3 rfl rfl (by omega) (by omega)
      refine lv_bipush (v := 40) hx hb dX5_swings_17 (by decide) ?_
      refine lv_icmp_gt (tgt := 39) hx hb dX5_swings_19 (by decide) (fun c_4 => ?_) (fun c_4 => ?_)
      · have i_4 : 40 < y_3.toInt := kc_lt c_4
        refine lv_iconst (v := (-1)) hx hb dX5_swings_39 (by decide) ?_
        have hP9 := hP
        have hD9 := hD
        have hK9 := hK
        exact W.iret (v := (-1)) hx hb hr (fun t ht hW => ⟨⟨(-1), (m_nodes, m_allMany, fm, fl, fe, vv, vn, av, an, nl, nr, f), rfl, ⟨s4, rfl⟩, by rw [ht]; exact hP9, va_K.moved hW.alike hK9, hD9⟩, hS.F ht⟩) hS.2.2 dX5_swings_40
      · have i_4 : y_3.toInt ≤ 40 := kc_nlt c_4
        refine lv_iload_n hx hb dX5_swings_22 rfl (lv_at hl 3 rfl) ?_
        have hPc := hP.sub (ws' := []) [] rfl
        have hKc := hK.sub (tys' := []) [] rfl
        refine vp_callSi (W.runS (As := [.int p2]) (rest := []) ⟨hx, hb, hml, hown, hts⟩ (c_X5_isValue l dC dI p2) (va_cwS 1 hts gX5_swings_X5_isValue rfl rfl rfl (by decide +kernel) ⟨Nat.le_of_ble_eq_true rfl, Nat.le_of_ble_eq_true rfl⟩) ⟨fun a U g mk q => by obtain ⟨q0, qP, qK⟩ := q; exact ⟨q0, qP, va_K.moved (u := U) (U := U.calling g mk a) (Vm.Alike.refl U.vm) qK⟩, fun U hU hW => ⟨rfl, by rw [hU]; exact hPc, va_K.moved hW.alike hKc⟩⟩ rfl rfl hl.1 rfl (lv_room (Nat.le_of_ble_eq_true rfl)) dX5_swings_23 ⟨Nat.le_of_ble_eq_true rfl, Nat.le_of_ble_eq_true rfl⟩) (fun r_5 w_5 => ?_)
        rcases w_5 with ⟨rfl, w_5⟩ | ⟨rfl, w_5⟩
        · have w_5 : (-32768 ≤ p2.toInt ∧ p2.toInt ≤ 32767) := w_5
          refine lv_if_eq (tgt := 39) hx hb dX5_swings_26 (by decide) (fun c_6 => ?_) (fun c_6 => ?_)
          · exact absurd c_6 (by decide)
          · refine lv_iload hx hb dX5_swings_29 (lv_at hl 4 rfl) ?_
            refine lv_iconst (v := 0) hx hb dX5_swings_31 (by decide) ?_
            refine lv_iconst (v := 1) hx hb dX5_swings_32 (by decide) ?_
            have hPc := hP.sub (ws' := []) [] rfl
            have hKc := hK.sub (tys' := []) [] rfl
            refine vp_callSi (W.runS (As := [.int p3, .int 0, .int 1]) (rest := []) ⟨hx, hb, hml, hown, hts⟩ (c_X5_within l dC dI p3 0 1) (va_cwS 3 hts gX5_swings_X5_within rfl rfl rfl (by decide +kernel) ⟨Nat.le_of_ble_eq_true rfl, Nat.le_of_ble_eq_true rfl⟩) ⟨fun a U g mk q => by obtain ⟨q0, qP, qK⟩ := q; exact ⟨q0, qP, va_K.moved (u := U) (U := U.calling g mk a) (Vm.Alike.refl U.vm) qK⟩, fun U hU hW => ⟨rfl, by rw [hU]; exact hPc, va_K.moved hW.alike hKc⟩⟩ rfl rfl hl.1 rfl (lv_room (Nat.le_of_ble_eq_true rfl)) dX5_swings_33 ⟨Nat.le_of_ble_eq_true rfl, Nat.le_of_ble_eq_true rfl⟩) (fun r_7 w_7 => ?_)
            rcases w_7 with ⟨rfl, w_7⟩ | ⟨rfl, w_7⟩
            · have w_7 : (0 ≤ p3.toInt ∧ p3.toInt ≤ 1) := w_7
              refine lv_if_ne (tgt := 41) hx hb dX5_swings_36 (by decide) (fun c_8 => ?_) (fun c_8 => ?_)
              · refine lv_iconst (v := (-1)) hx hb dX5_swings_41 (by decide) ?_
                refine lv_istore (lv' := [(5, .int (-1)), (0, .ref h0), (1, .int p0), (2, .int p1), (3, .int p2), (4, .int p3)]) hx hb dX5_swings_42 hl (by decide) rfl (fun ls hl => ?_)
                refine lv_iconst (v := (-1)) hx hb dX5_swings_44 (by decide) ?_
                refine lv_istore (lv' := [(6, .int (-1)), (5, .int (-1)), (0, .ref h0), (1, .int p0), (2, .int p1), (3, .int p2), (4, .int p3)]) hx hb dX5_swings_45 hl (by decide) rfl (fun ls hl => ?_)
                refine lv_iload_n hx hb dX5_swings_47 rfl (lv_at hl 3 rfl) ?_
                refine lv_istore (lv' := [(7, .int p0), (6, .int (-1)), (5, .int (-1)), (0, .ref h0), (1, .int p0), (2, .int p1), (3, .int p2), (4, .int p3)]) hx hb dX5_swings_48 hl (by decide) rfl (fun ls hl => ?_)
                have LP1 : ∀ (n : Nat) (i : Int32) (bp : Int32) (bt : Int32) (gc : Nat → Int32) (x_nd : Int32) (x_am : Int32) (x_m : Nat → Int32) (x_l : Nat → Int32) (x_e : Nat → Int32) (x_vv : Nat → Int32) (x_vn : Nat → Int32) (x_av : Nat → Int32) (x_an : Nat → Int32) (x_nl : Nat → Int32) (x_nr : Nat → Int32), (p0.toInt ≤ i.toInt) → (six4 x_m) → (gc = f) → (p1.toInt - i.toInt).toNat < n → ∀ (H : Heap) (locs : List Loc), va_P (dC, dI) vwCl [kx_5 h0 g_row m_n m_slots 0 g_many g_loss g_less g_voteValue g_voteNumber g_allValue g_allNumber x_am g_nodeL g_nodeR x_nd g_part m_partMany g_wasMany g_wasLoss g_wasValue g_wasNumber g_path m_pathMany g_heavyValue g_heavyTimes m_heavyMany g_fewest g_which g_met m_mostMet, kx_a g_row cyI 160 gc, kx_a g_many cyI 324 x_m, kx_a g_loss cyI 324 x_l, kx_a g_less cyI 324 x_e, kx_a g_voteValue cyI 1944 x_vv, kx_a g_voteNumber cyI 1944 x_vn, kx_a g_allValue cyI 12 x_av, kx_a g_allNumber cyI 12 x_an, kx_a g_nodeL cyI 320 x_nl, kx_a g_nodeR cyI 320 x_nr] H → va_D A [kx_5 h0 g_row m_n m_slots 0 g_many g_loss g_less g_voteValue g_voteNumber g_allValue g_allNumber x_am g_nodeL g_nodeR x_nd g_part m_partMany g_wasMany g_wasLoss g_wasValue g_wasNumber g_path m_pathMany g_heavyValue g_heavyTimes m_heavyMany g_fewest g_which g_met m_mostMet, kx_a g_row cyI 160 gc, kx_a g_many cyI 324 x_m, kx_a g_loss cyI 324 x_l, kx_a g_less cyI 324 x_e, kx_a g_voteValue cyI 1944 x_vv, kx_a g_voteNumber cyI 1944 x_vn, kx_a g_allValue cyI 12 x_av, kx_a g_allNumber cyI 12 x_an, kx_a g_nodeL cyI 320 x_nl, kx_a g_nodeR cyI 320 x_nr] → va_S A s.heap H locs → ∀ (ls : Array Slot), lv_has ls 10 [(7, .int i), (6, .int bt), (5, .int bp), (0, .ref h0), (1, .int p0), (2, .int p1), (3, .int p2), (4, .int p3)] → W p l e (headSpec wsX5_swings ({ frames := 12, cells := 0, slots := 0, locals := 540 })).room s m ([.ref h0, .int p0, .int p1, .int p2, .int p3] : List Value).toArray below meth c H locs 0 0 (MQ below (va_Qi (fun (r : Int32) (u : Int32 × Int32 × (Nat → Int32) × (Nat → Int32) × (Nat → Int32) × (Nat → Int32) × (Nat → Int32) × (Nat → Int32) × (Nat → Int32) × (Nat → Int32) × (Nat → Int32) × (Nat → Int32)) => six4 u.2.2.1 ∧ u.2.2.2.2.2.2.2.2.2.2.2 = f) (fun (u : Int32 × Int32 × (Nat → Int32) × (Nat → Int32) × (Nat → Int32) × (Nat → Int32) × (Nat → Int32) × (Nat → Int32) × (Nat → Int32) × (Nat → Int32) × (Nat → Int32) × (Nat → Int32)) (t : State) => va_P (dC, dI) vwCl [kx_5 h0 g_row m_n m_slots 0 g_many g_loss g_less g_voteValue g_voteNumber g_allValue g_allNumber u.2.1 g_nodeL g_nodeR u.1 g_part m_partMany g_wasMany g_wasLoss g_wasValue g_wasNumber g_path m_pathMany g_heavyValue g_heavyTimes m_heavyMany g_fewest g_which g_met m_mostMet, kx_a g_row cyI 160 u.2.2.2.2.2.2.2.2.2.2.2, kx_a g_many cyI 324 u.2.2.1, kx_a g_loss cyI 324 u.2.2.2.1, kx_a g_less cyI 324 u.2.2.2.2.1, kx_a g_voteValue cyI 1944 u.2.2.2.2.2.1, kx_a g_voteNumber cyI 1944 u.2.2.2.2.2.2.1, kx_a g_allValue cyI 12 u.2.2.2.2.2.2.2.1, kx_a g_allNumber cyI 12 u.2.2.2.2.2.2.2.2.1, kx_a g_nodeL cyI 320 u.2.2.2.2.2.2.2.2.2.1, kx_a g_nodeR cyI 320 u.2.2.2.2.2.2.2.2.2.2.1] t.heap ∧ va_K (dC, dI) vwCl [(cyI, .int)] t ∧ va_D A [kx_5 h0 g_row m_n m_slots 0 g_many g_loss g_less g_voteValue g_voteNumber g_allValue g_allNumber u.2.1 g_nodeL g_nodeR u.1 g_part m_partMany g_wasMany g_wasLoss g_wasValue g_wasNumber g_path m_pathMany g_heavyValue g_heavyTimes m_heavyMany g_fewest g_which g_met m_mostMet, kx_a g_row cyI 160 u.2.2.2.2.2.2.2.2.2.2.2, kx_a g_many cyI 324 u.2.2.1, kx_a g_loss cyI 324 u.2.2.2.1, kx_a g_less cyI 324 u.2.2.2.2.1, kx_a g_voteValue cyI 1944 u.2.2.2.2.2.1, kx_a g_voteNumber cyI 1944 u.2.2.2.2.2.2.1, kx_a g_allValue cyI 12 u.2.2.2.2.2.2.2.1, kx_a g_allNumber cyI 12 u.2.2.2.2.2.2.2.2.1, kx_a g_nodeL cyI 320 u.2.2.2.2.2.2.2.2.2.1, kx_a g_nodeR cyI 320 u.2.2.2.2.2.2.2.2.2.2.1]) A) ([.ref h0, .int p0, .int p1, .int p2, .int p3] : List Value).toArray s 0 0 A) (F0 m 50 ls []) := by
                  intro n
                  induction n with
                  | zero => intro i bp bt gc x_nd x_am x_m x_l x_e x_vv x_vn x_av x_an x_nl x_nr LP1_h0 LP1_h1 LP1_h2 hn; exact absurd hn (Nat.not_lt_zero _)
                  | succ n ih1 =>
                    intro i bp bt gc x_nd x_am x_m x_l x_e x_vv x_vn x_av x_an x_nl x_nr LP1_h0 LP1_h1 LP1_h2 hn1 H locs hP hD hS ls hl
                    refine lv_iload hx hb dX5_swings_50 (lv_at hl 0 rfl) ?_
                    refine lv_iload_n hx hb dX5_swings_52 rfl (lv_at hl 5 rfl) ?_
                    refine lv_icmp_ge (tgt := 121) hx hb dX5_swings_53 (by decide) (fun c_9 => ?_) (fun c_9 => ?_)
                    · have i_9 : p1.toInt ≤ i.toInt := kc_le c_9
                      refine lv_iload hx hb dX5_swings_121 (lv_at hl 7 rfl) ?_
                      refine lv_if_ne (tgt := 131) hx hb dX5_swings_123 (by decide) (fun c_10 => ?_) (fun c_10 => ?_)
                      · have i_10 : ¬ p3.toInt = 0 := kc_ne c_10
                        refine lv_iload hx hb dX5_swings_131 (lv_at hl 1 rfl) ?_
                        have hP9 := hP
                        have hD9 := hD
                        have hK9 := hK
                        exact W.iret (v := bt) hx hb hr (fun t ht hW => ⟨⟨bt, (x_nd, x_am, x_m, x_l, x_e, x_vv, x_vn, x_av, x_an, x_nl, x_nr, gc), rfl, ⟨LP1_h1, LP1_h2⟩, by rw [ht]; exact hP9, va_K.moved hW.alike hK9, hD9⟩, hS.F ht⟩) hS.2.2 dX5_swings_133
                      · have i_10 : p3.toInt = 0 := kc_eq c_10
                        refine lv_iload hx hb dX5_swings_126 (lv_at hl 2 rfl) ?_
                        refine lv_goto (tgt := 133) hx hb dX5_swings_128 (by decide) ?_
                        have hP9 := hP
                        have hD9 := hD
                        have hK9 := hK
                        exact W.iret (v := bp) hx hb hr (fun t ht hW => ⟨⟨bp, (x_nd, x_am, x_m, x_l, x_e, x_vv, x_vn, x_av, x_an, x_nl, x_nr, gc), rfl, ⟨LP1_h1, LP1_h2⟩, by rw [ht]; exact hP9, va_K.moved hW.alike hK9, hD9⟩, hS.F ht⟩) hS.2.2 dX5_swings_133
                    · have i_9 : i.toInt < p1.toInt := kc_nle c_9
                      refine lv_aload_n hx hb dX5_swings_56 rfl (lv_at hl 3 rfl) ?_
                      refine va_get (D := (dC, dI)) (ci := 5) (v := .ref g_row) (C := RX5) (T := TX5) (N := 30) hx hb hts hi_5 hown hK hP 0 rfl rfl 0 (by decide) hf_7 (fun _ h9 => h9) rfl dX5_swings_57 ?_
                      refine lv_iload hx hb dX5_swings_60 (lv_at hl 0 rfl) ?_
                      refine va_iald hx hb hK hP 1 0 rfl rfl (ki_in (by omega) (by omega)) dX5_swings_62 ?_
                      refine lv_topi (fun y_11 ey_11 => ?_)
                      have j_11 : y_11.toInt = (gc i.toNatClampNeg).toInt := congrArg Int32.toInt ey_11
                      refine lv_istore (lv' := [(8, .int y_11), (7, .int i), (6, .int bt), (5, .int bp), (0, .ref h0), (1, .int p0), (2, .int p1), (3, .int p2), (4, .int p3)]) hx hb dX5_swings_63 hl (by decide) rfl (fun ls hl => ?_)
                      refine lv_aload_n hx hb dX5_swings_65 rfl (lv_at hl 4 rfl) ?_
                      refine va_get (D := (dC, dI)) (ci := 5) (v := .ref g_row) (C := RX5) (T := TX5) (N := 30) hx hb hts hi_5 hown hK hP 0 rfl rfl 0 (by decide) hf_7 (fun _ h9 => h9) rfl dX5_swings_66 ?_
                      refine lv_iload hx hb dX5_swings_69 (lv_at hl 1 rfl) ?_
                      refine lv_iload_n hx hb dX5_swings_71 rfl (lv_at hl 7 rfl) ?_
                      refine va_iast hx hb hK hP hD hS 1 0 rfl rfl (ki_in (by omega) (by omega)) dX5_swings_72 (fun H locs hP hD hS => ?_)
                      have hP : va_P (dC, dI) vwCl [kx_5 h0 g_row m_n m_slots 0 g_many g_loss g_less g_voteValue g_voteNumber g_allValue g_allNumber x_am g_nodeL g_nodeR x_nd g_part m_partMany g_wasMany g_wasLoss g_wasValue g_wasNumber g_path m_pathMany g_heavyValue g_heavyTimes m_heavyMany g_fewest g_which g_met m_mostMet, kx_a g_row cyI 160 (upd gc i.toNatClampNeg p2), kx_a g_many cyI 324 x_m, kx_a g_loss cyI 324 x_l, kx_a g_less cyI 324 x_e, kx_a g_voteValue cyI 1944 x_vv, kx_a g_voteNumber cyI 1944 x_vn, kx_a g_allValue cyI 12 x_av, kx_a g_allNumber cyI 12 x_an, kx_a g_nodeL cyI 320 x_nl, kx_a g_nodeR cyI 320 x_nr] H := hP
                      have hD : va_D A [kx_5 h0 g_row m_n m_slots 0 g_many g_loss g_less g_voteValue g_voteNumber g_allValue g_allNumber x_am g_nodeL g_nodeR x_nd g_part m_partMany g_wasMany g_wasLoss g_wasValue g_wasNumber g_path m_pathMany g_heavyValue g_heavyTimes m_heavyMany g_fewest g_which g_met m_mostMet, kx_a g_row cyI 160 (upd gc i.toNatClampNeg p2), kx_a g_many cyI 324 x_m, kx_a g_loss cyI 324 x_l, kx_a g_less cyI 324 x_e, kx_a g_voteValue cyI 1944 x_vv, kx_a g_voteNumber cyI 1944 x_vn, kx_a g_allValue cyI 12 x_av, kx_a g_allNumber cyI 12 x_an, kx_a g_nodeL cyI 320 x_nl, kx_a g_nodeR cyI 320 x_nr] := hD
                      refine lv_aload_n hx hb dX5_swings_73 rfl (lv_at hl 4 rfl) ?_
                      refine lv_aload_n hx hb dX5_swings_74 rfl (lv_at hl 4 rfl) ?_
                      refine va_get (D := (dC, dI)) (ci := 5) (v := .int m_slots) (C := RX5) (T := TX5) (N := 30) hx hb hts hi_5 hown hK hP 0 rfl rfl 2 (by decide) hf_13 (fun _ h9 => h9) rfl dX5_swings_75 ?_
                      have hPc := hP
                      have hKc := hK
                      have hDc := hD
                      have hFc := kx_free hD hS hA
                      refine va_callv (va_runV (As := [.int m_slots]) (rest := []) ⟨hx, hb, hml, hown, hts⟩ (c_X5_laysAll l dC dI h0 g_row g_many g_loss g_less g_voteValue g_voteNumber g_allValue g_allNumber g_nodeL g_nodeR g_part g_wasMany g_wasLoss g_wasValue g_wasNumber g_path g_heavyValue g_heavyTimes g_fewest g_which g_met m_n m_slots 0 x_am x_nd m_partMany m_pathMany m_heavyMany m_mostMet cyI x_m x_l x_e x_vv x_vn (upd gc i.toNatClampNeg p2) x_av x_an x_nl x_nr m_slots H.size a0 a1 sl0 sl1 LP1_h1) (cwV 1 hts gX5_swings_X5_laysAll rfl rfl rfl (by decide +kernel) ⟨Nat.le_of_ble_eq_true rfl, Nat.le_of_ble_eq_true rfl⟩) ⟨fun a U g mk q => by obtain ⟨q0, q1, qP, qK, qD⟩ := q; exact ⟨q0, q1, qP, va_K.moved (u := U) (U := U.calling g mk a) (Vm.Alike.refl U.vm) qK, qD⟩, va_recv hKc hPc (ci := 5) (q0 := 0) rfl rfl, fun U hU hW => ⟨rfl, by rw [hU], by rw [hU]; exact hPc, va_K.moved hW.alike hKc, hDc.weaken (fun _ _ _ _ => trivial)⟩⟩ rfl rfl hl.1 rfl (lv_room (Nat.le_of_ble_eq_true rfl)) dX5_swings_78 ⟨Nat.le_of_ble_eq_true rfl, Nat.le_of_ble_eq_true rfl⟩) hS (fun q _ h => hFc q h) hFc (fun u t H1 locs ht hvm w_12 hB hz1 hk1 hS => ?_)
                      obtain ⟨o_13, o_14, o_15, o_16, o_17, o_18, o_19, o_20, o_21, o_22, o_23⟩ := u
                      dsimp only at w_12 hB
                      obtain ⟨hP1, hK1, hD1⟩ := hB
                      rw [ht] at hP1
                      have hK1 := va_K.moved hvm.symm hK1
                      have hD := hD1.weaken (fun _ q _ h => hFc q.1 h)
                      have hP := hP1
                      clear hP1 hD1 hK1 hk1 hz1 hFc hDc hPc hKc
                      generalize H1 = H at hP hS ⊢
                      have w_12 : mj_L m_slots.toNatClampNeg (upd gc i.toNatClampNeg p2) o_22 o_23 o_15 o_16 o_17 o_18 o_19 m_n.toInt o_13.toInt ∧ six4 o_15 ∧ 0 ≤ o_13.toInt ∧ o_13.toInt ≤ 319 := w_12
                      refine lv_aload_n hx hb dX5_swings_81 rfl (lv_at hl 4 rfl) ?_
                      refine va_get (D := (dC, dI)) (ci := 5) (v := .ref g_row) (C := RX5) (T := TX5) (N := 30) hx hb hts hi_5 hown hK hP 0 rfl rfl 0 (by decide) hf_7 (fun _ h9 => h9) rfl dX5_swings_82 ?_
                      refine lv_iload hx hb dX5_swings_85 (lv_at hl 1 rfl) ?_
                      refine lv_iload hx hb dX5_swings_87 (lv_at hl 0 rfl) ?_
                      refine va_iast hx hb hK hP hD hS 1 0 rfl rfl (ki_in (by omega) (by omega)) dX5_swings_89 (fun H locs hP hD hS => ?_)
                      have hP : va_P (dC, dI) vwCl [kx_5 h0 g_row m_n m_slots 0 g_many g_loss g_less g_voteValue g_voteNumber g_allValue g_allNumber o_14 g_nodeL g_nodeR o_13 g_part m_partMany g_wasMany g_wasLoss g_wasValue g_wasNumber g_path m_pathMany g_heavyValue g_heavyTimes m_heavyMany g_fewest g_which g_met m_mostMet, kx_a g_row cyI 160 (upd (upd gc i.toNatClampNeg p2) i.toNatClampNeg y_11), kx_a g_many cyI 324 o_15, kx_a g_loss cyI 324 o_16, kx_a g_less cyI 324 o_17, kx_a g_voteValue cyI 1944 o_18, kx_a g_voteNumber cyI 1944 o_19, kx_a g_allValue cyI 12 o_20, kx_a g_allNumber cyI 12 o_21, kx_a g_nodeL cyI 320 o_22, kx_a g_nodeR cyI 320 o_23] H := hP
                      have hD : va_D A [kx_5 h0 g_row m_n m_slots 0 g_many g_loss g_less g_voteValue g_voteNumber g_allValue g_allNumber o_14 g_nodeL g_nodeR o_13 g_part m_partMany g_wasMany g_wasLoss g_wasValue g_wasNumber g_path m_pathMany g_heavyValue g_heavyTimes m_heavyMany g_fewest g_which g_met m_mostMet, kx_a g_row cyI 160 (upd (upd gc i.toNatClampNeg p2) i.toNatClampNeg y_11), kx_a g_many cyI 324 o_15, kx_a g_loss cyI 324 o_16, kx_a g_less cyI 324 o_17, kx_a g_voteValue cyI 1944 o_18, kx_a g_voteNumber cyI 1944 o_19, kx_a g_allValue cyI 12 o_20, kx_a g_allNumber cyI 12 o_21, kx_a g_nodeL cyI 320 o_22, kx_a g_nodeR cyI 320 o_23] := hD
                      refine lv_aload_n hx hb dX5_swings_90 rfl (lv_at hl 4 rfl) ?_
                      refine lv_iconst (v := 0) hx hb dX5_swings_91 (by decide) ?_
                      have hPc := hP.sub (ws' := [kx_5 h0 g_row m_n m_slots 0 g_many g_loss g_less g_voteValue g_voteNumber g_allValue g_allNumber o_14 g_nodeL g_nodeR o_13 g_part m_partMany g_wasMany g_wasLoss g_wasValue g_wasNumber g_path m_pathMany g_heavyValue g_heavyTimes m_heavyMany g_fewest g_which g_met m_mostMet, kx_a g_many cyI 324 o_15, kx_a g_voteNumber cyI 1944 o_19]) [0, 2, 6] rfl
                      have hKc := hK
                      have k_24 : (0 : Int32).toInt = 0 := rfl
                      refine vp_callSi (W.runV (As := [.int 0]) (rest := []) ⟨hx, hb, hml, hown, hts⟩ (c_X5_numbersOf l dC dI h0 g_row g_many g_loss g_less g_voteValue g_voteNumber g_allValue g_allNumber g_nodeL g_nodeR g_part g_wasMany g_wasLoss g_wasValue g_wasNumber g_path g_heavyValue g_heavyTimes g_fewest g_which g_met m_n m_slots 0 o_14 o_13 m_partMany m_pathMany m_heavyMany m_mostMet cyI o_15 o_19 0 om_32 om_292 w_12.2.1) (cwV 1 hts gX5_swings_X5_numbersOf rfl rfl rfl (by decide +kernel) ⟨Nat.le_of_ble_eq_true rfl, Nat.le_of_ble_eq_true rfl⟩) ⟨fun a U g mk q => by obtain ⟨q0, qP, qK⟩ := q; exact ⟨q0, qP, va_K.moved (u := U) (U := U.calling g mk a) (Vm.Alike.refl U.vm) qK⟩, va_recv hKc hPc (ci := 5) (q0 := 0) rfl rfl, fun U hU hW => ⟨rfl, by rw [hU]; exact hPc, va_K.moved hW.alike hKc⟩⟩ rfl rfl hl.1 rfl (lv_room (Nat.le_of_ble_eq_true rfl)) dX5_swings_92 ⟨Nat.le_of_ble_eq_true rfl, Nat.le_of_ble_eq_true rfl⟩) (fun r_25 w_25 => ?_)
                      refine lv_istore (lv' := [(9, .int r_25), (8, .int y_11), (7, .int i), (6, .int bt), (5, .int bp), (0, .ref h0), (1, .int p0), (2, .int p1), (3, .int p2), (4, .int p3)]) hx hb dX5_swings_95 hl (by decide) rfl (fun ls hl => ?_)
                      refine lv_iload hx hb dX5_swings_97 (lv_at hl 0 rfl) ?_
                      refine lv_iload hx hb dX5_swings_99 (lv_at hl 3 rfl) ?_
                      refine lv_icmp_gt (tgt := 107) hx hb dX5_swings_101 (by decide) (fun c_26 => ?_) (fun c_26 => ?_)
                      · have i_26 : bt.toInt < r_25.toInt := kc_lt c_26
                        refine lv_iload hx hb dX5_swings_107 (lv_at hl 2 rfl) ?_
                        refine lv_istore (lv' := [(5, .int i), (9, .int r_25), (8, .int y_11), (7, .int i), (6, .int bt), (0, .ref h0), (1, .int p0), (2, .int p1), (3, .int p2), (4, .int p3)]) hx hb dX5_swings_109 hl (by decide) rfl (fun ls hl => ?_)
                        refine lv_iload hx hb dX5_swings_111 (lv_at hl 1 rfl) ?_
                        refine lv_istore (lv' := [(6, .int r_25), (5, .int i), (9, .int r_25), (8, .int y_11), (7, .int i), (0, .ref h0), (1, .int p0), (2, .int p1), (3, .int p2), (4, .int p3)]) hx hb dX5_swings_113 hl (by decide) rfl (fun ls hl => ?_)
                        obtain ⟨x_27, ex_27⟩ : ∃ y : Int32, y = i + 1 := ⟨_, rfl⟩
                        have i_27 : x_27.toInt = i.toInt + 1 := ki_add ex_27 rfl rfl (by omega) (by omega)
                        refine lv_iinc (v := x_27) (lv' := [(7, .int x_27), (6, .int r_25), (5, .int i), (9, .int r_25), (8, .int y_11), (0, .ref h0), (1, .int p0), (2, .int p1), (3, .int p2), (4, .int p3)]) hx hb dX5_swings_115 hl (k := 4) rfl (by rw [ex_27]; rfl) (by decide) rfl (fun ls hl => ?_)
                        refine lv_goto (tgt := 50) hx hb dX5_swings_118 (by decide) ?_
                        exact ih1 x_27 i r_25 (upd (upd gc i.toNatClampNeg p2) i.toNatClampNeg y_11) o_13 o_14 o_15 o_16 o_17 o_18 o_19 o_20 o_21 o_22 o_23 (om_4 LP1_h0 i_27) w_12.2.1 (by rw [ey_11, upd_back]; exact LP1_h2) (om_mu hn1 (om_5 i_27) (om_6 i_9)) _ _ hP hD hS ls (lv_sub hl [0, 1, 2, 5, 6, 7, 8, 9] rfl)
                      · have i_26 : r_25.toInt ≤ bt.toInt := kc_nlt c_26
                        refine lv_goto (tgt := 115) hx hb dX5_swings_104 (by decide) ?_
                        obtain ⟨x_28, ex_28⟩ : ∃ y : Int32, y = i + 1 := ⟨_, rfl⟩
                        have i_28 : x_28.toInt = i.toInt + 1 := ki_add ex_28 rfl rfl (by omega) (by omega)
                        refine lv_iinc (v := x_28) (lv' := [(7, .int x_28), (9, .int r_25), (8, .int y_11), (6, .int bt), (5, .int bp), (0, .ref h0), (1, .int p0), (2, .int p1), (3, .int p2), (4, .int p3)]) hx hb dX5_swings_115 hl (k := 2) rfl (by rw [ex_28]; rfl) (by decide) rfl (fun ls hl => ?_)
                        refine lv_goto (tgt := 50) hx hb dX5_swings_118 (by decide) ?_
                        exact ih1 x_28 bp bt (upd (upd gc i.toNatClampNeg p2) i.toNatClampNeg y_11) o_13 o_14 o_15 o_16 o_17 o_18 o_19 o_20 o_21 o_22 o_23 (om_4 LP1_h0 i_28) w_12.2.1 (by rw [ey_11, upd_back]; exact LP1_h2) (om_mu hn1 (om_5 i_28) (om_6 i_9)) _ _ hP hD hS ls (lv_sub hl [0, 3, 4, 5, 6, 7, 8, 9] rfl)
                have k_29 : ((-1) : Int32).toInt = -1 := rfl
                have k_30 : ((-1) : Int32).toInt = -1 := rfl
                exact LP1 ((p1.toInt - p0.toInt : Int).toNat + 1) p0 (-1) (-1) f m_nodes m_allMany fm fl fe vv vn av an nl nr om_7 s4 rfl (Nat.lt_succ_self _) _ _ hP hD hS ls (lv_sub hl [0, 1, 2, 3, 4, 5, 6, 7] rfl)
              · exact absurd c_8 (by decide)
            · have w_7 : (p3.toInt < 0 ∨ 1 < p3.toInt) := w_7
              refine lv_if_ne (tgt := 41) hx hb dX5_swings_36 (by decide) (fun c_31 => ?_) (fun c_31 => ?_)
              · exact absurd c_31 (by decide)
              · refine lv_iconst (v := (-1)) hx hb dX5_swings_39 (by decide) ?_
                have hP9 := hP
                have hD9 := hD
                have hK9 := hK
                exact W.iret (v := (-1)) hx hb hr (fun t ht hW => ⟨⟨(-1), (m_nodes, m_allMany, fm, fl, fe, vv, vn, av, an, nl, nr, f), rfl, ⟨s4, rfl⟩, by rw [ht]; exact hP9, va_K.moved hW.alike hK9, hD9⟩, hS.F ht⟩) hS.2.2 dX5_swings_40
        · have w_5 : (p2.toInt < -32768 ∨ 32767 < p2.toInt) := w_5
          refine lv_if_eq (tgt := 39) hx hb dX5_swings_26 (by decide) (fun c_32 => ?_) (fun c_32 => ?_)
          · refine lv_iconst (v := (-1)) hx hb dX5_swings_39 (by decide) ?_
            have hP9 := hP
            have hD9 := hD
            have hK9 := hK
            exact W.iret (v := (-1)) hx hb hr (fun t ht hW => ⟨⟨(-1), (m_nodes, m_allMany, fm, fl, fe, vv, vn, av, an, nl, nr, f), rfl, ⟨s4, rfl⟩, by rw [ht]; exact hP9, va_K.moved hW.alike hK9, hD9⟩, hS.F ht⟩) hS.2.2 dX5_swings_40
          · exact absurd c_32 (by decide)
  · have w_1 : (p0.toInt < 0 ∨ p1.toInt ≤ p0.toInt ∨ m_n.toInt < p1.toInt) := w_1
    refine lv_if_eq (tgt := 39) hx hb dX5_swings_11 (by decide) (fun c_33 => ?_) (fun c_33 => ?_)
    · refine lv_iconst (v := (-1)) hx hb dX5_swings_39 (by decide) ?_
      have hP9 := hP
      have hD9 := hD
      have hK9 := hK
      exact W.iret (v := (-1)) hx hb hr (fun t ht hW => ⟨⟨(-1), (m_nodes, m_allMany, fm, fl, fe, vv, vn, av, an, nl, nr, f), rfl, ⟨s4, rfl⟩, by rw [ht]; exact hP9, va_K.moved hW.alike hK9, hD9⟩, hS.F ht⟩) hS.2.2 dX5_swings_40
    · exact absurd c_33 (by decide)

set_option maxHeartbeats 4000000 in
set_option maxRecDepth 100000 in
theorem c_X5_deep_0 (l : Launch) (dC : Nat → ClassId) (dI : Nat → Nat → Nat) (h0 : Nat) (g_row : Nat) (g_many : Nat) (g_loss : Nat) (g_less : Nat) (g_voteValue : Nat) (g_voteNumber : Nat) (g_allValue : Nat) (g_allNumber : Nat) (g_nodeL : Nat) (g_nodeR : Nat) (g_part : Nat) (g_wasMany : Nat) (g_wasLoss : Nat) (g_wasValue : Nat) (g_wasNumber : Nat) (g_path : Nat) (g_heavyValue : Nat) (g_heavyTimes : Nat) (g_fewest : Nat) (g_which : Nat) (g_met : Nat) (m_n : Int32) (m_slots : Int32) (m_thrown : Int32) (m_allMany : Int32) (m_nodes : Int32) (m_partMany : Int32) (m_pathMany : Int32) (m_heavyMany : Int32) (m_mostMet : Int32) (p0 : Int32) (p1 : Int32) (b0 : 0 ≤ p0.toInt) (b1 : p0.toInt ≤ p1.toInt) (b2 : p1.toInt ≤ 160) (b3 : p1.toInt - p0.toInt ≤ 1) : Met l yX5_deep wsX5_deep ({ frames := 0, cells := 0, slots := 0, locals := 0 }) (va_Pc [.ref h0, .int p0, .int p1] (fun U => va_P (dC, dI) vwCl [kx_5 h0 g_row m_n m_slots m_thrown g_many g_loss g_less g_voteValue g_voteNumber g_allValue g_allNumber m_allMany g_nodeL g_nodeR m_nodes g_part m_partMany g_wasMany g_wasLoss g_wasValue g_wasNumber g_path m_pathMany g_heavyValue g_heavyTimes m_heavyMany g_fewest g_which g_met m_mostMet] U.heap ∧ va_K (dC, dI) vwCl [] U)) (vp_Si (fun r : Int32 => 0 ≤ r.toInt ∧ r.toInt ≤ 1)) 0 0 (fun _ => False) := by
  refine Met.ofW (cc := cX5_deep) (maxL := 6) (ret := (some .int)) (by decide) rfl ?_
  intro p e s m args below meth c s₁ B hml hv
  obtain ⟨rfl, hP, hK⟩ := hv
  have hx := B.exec
  have hb := B.bytes
  have hr := B.returns
  have hts := atoms_spec (ws := wsX5_deep) B.pre
  have hown : s.vm.findClass RX5 = some m.cls := findClass_of_methodNamed B.named
  have hlocks := B.notSynchronized
  have hP : va_P (dC, dI) vwCl [kx_5 h0 g_row m_n m_slots m_thrown g_many g_loss g_less g_voteValue g_voteNumber g_allValue g_allNumber m_allMany g_nodeL g_nodeR m_nodes g_part m_partMany g_wasMany g_wasLoss g_wasValue g_wasNumber g_path m_pathMany g_heavyValue g_heavyTimes m_heavyMany g_fewest g_which g_met m_mostMet] s.heap := hP
  have hl := lv_entry ([.ref h0, .int p0, .int p1]) (n := 6) (Nat.le_of_ble_eq_true rfl)
  rw [lg_entry_eq]
  generalize (lg_sl ([.ref h0, .int p0, .int p1]) ++ List.replicate (6 - (lg_sl ([.ref h0, .int p0, .int p1])).length) Slot.unset).toArray = ls at hl ⊢
  have hl : lv_has ls 6 [(0, .ref h0), (1, .int p0), (2, .int p1)] := hl
  refine lv_iload_n hx hb dX5_deep_0 rfl (lv_at hl 2 rfl) ?_
  refine lv_iload_n hx hb dX5_deep_1 rfl (lv_at hl 1 rfl) ?_
  refine lv_isub hx hb dX5_deep_2 ?_
  refine lv_topi (fun y_1 ey_1 => ?_)
  have i_1 : y_1.toInt = p1.toInt - p0.toInt := ki_sub ey_1 rfl rfl (om_124 b1) (om_229 b3)
  refine lv_iconst (v := 2) hx hb dX5_deep_3 (by decide) ?_
  refine lv_icmp_ge (tgt := 11) hx hb dX5_deep_4 (by decide) (fun c_2 => ?_) (fun c_2 => ?_)
  · have i_2 : 2 ≤ y_1.toInt := kc_le c_2
    exfalso; omega
  · have i_2 : y_1.toInt < 2 := kc_nle c_2
    refine lv_iload_n hx hb dX5_deep_7 rfl (lv_at hl 2 rfl) ?_
    refine lv_iload_n hx hb dX5_deep_8 rfl (lv_at hl 1 rfl) ?_
    refine lv_isub hx hb dX5_deep_9 ?_
    refine lv_topi (fun y_3 ey_3 => ?_)
    have i_3 : y_3.toInt = p1.toInt - p0.toInt := ki_sub ey_3 rfl rfl (om_124 b1) (om_229 b3)
    exact W.iret (v := y_3) hx hb hr (fun t ht hW => ⟨y_3, rfl, (by (try dsimp only); omega), ht⟩) (fun q hq => by cases hq) dX5_deep_10

set_option maxHeartbeats 4000000 in
set_option maxRecDepth 100000 in
theorem c_X5_deep_1 (l : Launch) (dC : Nat → ClassId) (dI : Nat → Nat → Nat) (h0 : Nat) (g_row : Nat) (g_many : Nat) (g_loss : Nat) (g_less : Nat) (g_voteValue : Nat) (g_voteNumber : Nat) (g_allValue : Nat) (g_allNumber : Nat) (g_nodeL : Nat) (g_nodeR : Nat) (g_part : Nat) (g_wasMany : Nat) (g_wasLoss : Nat) (g_wasValue : Nat) (g_wasNumber : Nat) (g_path : Nat) (g_heavyValue : Nat) (g_heavyTimes : Nat) (g_fewest : Nat) (g_which : Nat) (g_met : Nat) (m_n : Int32) (m_slots : Int32) (m_thrown : Int32) (m_allMany : Int32) (m_nodes : Int32) (m_partMany : Int32) (m_pathMany : Int32) (m_heavyMany : Int32) (m_mostMet : Int32) (p0 : Int32) (p1 : Int32) (b0 : 0 ≤ p0.toInt) (b1 : p0.toInt ≤ p1.toInt) (b2 : p1.toInt ≤ 160) (b3 : p1.toInt - p0.toInt ≤ 2) : Met l yX5_deep wsX5_deep ({ frames := 1, cells := 0, slots := 0, locals := 45 }) (va_Pc [.ref h0, .int p0, .int p1] (fun U => va_P (dC, dI) vwCl [kx_5 h0 g_row m_n m_slots m_thrown g_many g_loss g_less g_voteValue g_voteNumber g_allValue g_allNumber m_allMany g_nodeL g_nodeR m_nodes g_part m_partMany g_wasMany g_wasLoss g_wasValue g_wasNumber g_path m_pathMany g_heavyValue g_heavyTimes m_heavyMany g_fewest g_which g_met m_mostMet] U.heap ∧ va_K (dC, dI) vwCl [] U)) (vp_Si (fun r : Int32 => 0 ≤ r.toInt ∧ r.toInt ≤ 2)) 0 0 (fun _ => False) := by
  refine Met.ofW (cc := cX5_deep) (maxL := 6) (ret := (some .int)) (by decide) rfl ?_
  intro p e s m args below meth c s₁ B hml hv
  obtain ⟨rfl, hP, hK⟩ := hv
  have hx := B.exec
  have hb := B.bytes
  have hr := B.returns
  have hts := atoms_spec (ws := wsX5_deep) B.pre
  have hown : s.vm.findClass RX5 = some m.cls := findClass_of_methodNamed B.named
  have hlocks := B.notSynchronized
  have hP : va_P (dC, dI) vwCl [kx_5 h0 g_row m_n m_slots m_thrown g_many g_loss g_less g_voteValue g_voteNumber g_allValue g_allNumber m_allMany g_nodeL g_nodeR m_nodes g_part m_partMany g_wasMany g_wasLoss g_wasValue g_wasNumber g_path m_pathMany g_heavyValue g_heavyTimes m_heavyMany g_fewest g_which g_met m_mostMet] s.heap := hP
  have hl := lv_entry ([.ref h0, .int p0, .int p1]) (n := 6) (Nat.le_of_ble_eq_true rfl)
  rw [lg_entry_eq]
  generalize (lg_sl ([.ref h0, .int p0, .int p1]) ++ List.replicate (6 - (lg_sl ([.ref h0, .int p0, .int p1])).length) Slot.unset).toArray = ls at hl ⊢
  have hl : lv_has ls 6 [(0, .ref h0), (1, .int p0), (2, .int p1)] := hl
  refine lv_iload_n hx hb dX5_deep_0 rfl (lv_at hl 2 rfl) ?_
  refine lv_iload_n hx hb dX5_deep_1 rfl (lv_at hl 1 rfl) ?_
  refine lv_isub hx hb dX5_deep_2 ?_
  refine lv_topi (fun y_1 ey_1 => ?_)
  have i_1 : y_1.toInt = p1.toInt - p0.toInt := ki_sub ey_1 rfl rfl (om_124 b1) (om_231 b3)
  refine lv_iconst (v := 2) hx hb dX5_deep_3 (by decide) ?_
  refine lv_icmp_ge (tgt := 11) hx hb dX5_deep_4 (by decide) (fun c_2 => ?_) (fun c_2 => ?_)
  · have i_2 : 2 ≤ y_1.toInt := kc_le c_2
    refine lv_iload_n hx hb dX5_deep_11 rfl (lv_at hl 1 rfl) ?_
    refine lv_iload_n hx hb dX5_deep_12 rfl (lv_at hl 2 rfl) ?_
    refine lv_iadd hx hb dX5_deep_13 ?_
    refine lv_topi (fun y_3 ey_3 => ?_)
    have i_3 : y_3.toInt = p0.toInt + p1.toInt := ki_add ey_3 rfl rfl (om_293 b0 b1) (om_294 b1 b2)
    refine lv_iconst (v := 2) hx hb dX5_deep_14 (by decide) ?_
    refine lv_idiv hx hb dX5_deep_15 (by decide) ?_
    refine lv_topi (fun y_4 ey_4 => ?_)
    have i_4 : y_4.toInt = y_3.toInt / 2 := ki_div2 ey_4 rfl (by omega)
    refine lv_istore_n (lv' := [(3, .int y_4), (0, .ref h0), (1, .int p0), (2, .int p1)]) hx hb dX5_deep_16 rfl hl (by decide) rfl (fun ls hl => ?_)
    refine lv_aload_n hx hb dX5_deep_17 rfl (lv_at hl 1 rfl) ?_
    refine lv_iload_n hx hb dX5_deep_18 rfl (lv_at hl 2 rfl) ?_
    refine lv_iload_n hx hb dX5_deep_19 rfl (lv_at hl 0 rfl) ?_
    have hPc := hP
    have hKc := hK
    refine vp_callSi (W.runV (As := [.int p0, .int y_4]) (rest := []) ⟨hx, hb, hml, hown, hts⟩ (c_X5_deep_0 l dC dI h0 g_row g_many g_loss g_less g_voteValue g_voteNumber g_allValue g_allNumber g_nodeL g_nodeR g_part g_wasMany g_wasLoss g_wasValue g_wasNumber g_path g_heavyValue g_heavyTimes g_fewest g_which g_met m_n m_slots m_thrown m_allMany m_nodes m_partMany m_pathMany m_heavyMany m_mostMet p0 y_4 b0 (by omega) (by omega) (by omega)) (cwV 2 hts gX5_deep_X5_deep rfl rfl rfl (by decide +kernel) ⟨Nat.le_of_ble_eq_true rfl, Nat.le_of_ble_eq_true rfl⟩) ⟨fun a U g mk q => by obtain ⟨q0, qP, qK⟩ := q; exact ⟨q0, qP, va_K.moved (u := U) (U := U.calling g mk a) (Vm.Alike.refl U.vm) qK⟩, va_recv hKc hPc (ci := 5) (q0 := 0) rfl rfl, fun U hU hW => ⟨rfl, by rw [hU]; exact hPc, va_K.moved hW.alike hKc⟩⟩ rfl rfl hl.1 rfl (lv_room (Nat.le_of_ble_eq_true rfl)) dX5_deep_20 ⟨Nat.le_of_ble_eq_true rfl, Nat.le_of_ble_eq_true rfl⟩) (fun r_5 w_5 => ?_)
    have w_5 : 0 ≤ r_5.toInt ∧ r_5.toInt ≤ 1 := w_5
    refine lv_istore (lv' := [(4, .int r_5), (3, .int y_4), (0, .ref h0), (1, .int p0), (2, .int p1)]) hx hb dX5_deep_23 hl (by decide) rfl (fun ls hl => ?_)
    refine lv_aload_n hx hb dX5_deep_25 rfl (lv_at hl 2 rfl) ?_
    refine lv_iload_n hx hb dX5_deep_26 rfl (lv_at hl 1 rfl) ?_
    refine lv_iload_n hx hb dX5_deep_27 rfl (lv_at hl 4 rfl) ?_
    have hPc := hP
    have hKc := hK
    refine vp_callSi (W.runV (As := [.int y_4, .int p1]) (rest := []) ⟨hx, hb, hml, hown, hts⟩ (c_X5_deep_0 l dC dI h0 g_row g_many g_loss g_less g_voteValue g_voteNumber g_allValue g_allNumber g_nodeL g_nodeR g_part g_wasMany g_wasLoss g_wasValue g_wasNumber g_path g_heavyValue g_heavyTimes g_fewest g_which g_met m_n m_slots m_thrown m_allMany m_nodes m_partMany m_pathMany m_heavyMany m_mostMet y_4 p1 (by omega) (by omega) b2 (by omega)) (cwV 2 hts gX5_deep_X5_deep rfl rfl rfl (by decide +kernel) ⟨Nat.le_of_ble_eq_true rfl, Nat.le_of_ble_eq_true rfl⟩) ⟨fun a U g mk q => by obtain ⟨q0, qP, qK⟩ := q; exact ⟨q0, qP, va_K.moved (u := U) (U := U.calling g mk a) (Vm.Alike.refl U.vm) qK⟩, va_recv hKc hPc (ci := 5) (q0 := 0) rfl rfl, fun U hU hW => ⟨rfl, by rw [hU]; exact hPc, va_K.moved hW.alike hKc⟩⟩ rfl rfl hl.1 rfl (lv_room (Nat.le_of_ble_eq_true rfl)) dX5_deep_28 ⟨Nat.le_of_ble_eq_true rfl, Nat.le_of_ble_eq_true rfl⟩) (fun r_6 w_6 => ?_)
    have w_6 : 0 ≤ r_6.toInt ∧ r_6.toInt ≤ 1 := w_6
    refine lv_istore (lv' := [(5, .int r_6), (4, .int r_5), (3, .int y_4), (0, .ref h0), (1, .int p0), (2, .int p1)]) hx hb dX5_deep_31 hl (by decide) rfl (fun ls hl => ?_)
    refine lv_iconst (v := 1) hx hb dX5_deep_33 (by decide) ?_
    refine lv_iload hx hb dX5_deep_34 (lv_at hl 1 rfl) ?_
    refine lv_iload hx hb dX5_deep_36 (lv_at hl 0 rfl) ?_
    refine lv_icmp_le (tgt := 46) hx hb dX5_deep_38 (by decide) (fun c_7 => ?_) (fun c_7 => ?_)
    · have i_7 : r_5.toInt ≤ r_6.toInt := kc_le c_7
      refine lv_iload hx hb dX5_deep_46 (lv_at hl 0 rfl) ?_
      refine lv_iadd hx hb dX5_deep_48 ?_
      refine lv_topi (fun y_8 ey_8 => ?_)
      have i_8 : y_8.toInt = 1 + r_6.toInt := ki_add ey_8 rfl rfl (om_295 w_6.1) (om_296 w_6.2)
      exact W.iret (v := y_8) hx hb hr (fun t ht hW => ⟨y_8, rfl, (by (try dsimp only); omega), ht⟩) (fun q hq => by cases hq) dX5_deep_49
    · have i_7 : r_6.toInt < r_5.toInt := kc_nle c_7
      refine lv_iload hx hb dX5_deep_41 (lv_at hl 1 rfl) ?_
      refine lv_goto (tgt := 48) hx hb dX5_deep_43 (by decide) ?_
      refine lv_iadd hx hb dX5_deep_48 ?_
      refine lv_topi (fun y_9 ey_9 => ?_)
      have i_9 : y_9.toInt = 1 + r_5.toInt := ki_add ey_9 rfl rfl (om_295 w_5.1) (om_296 w_5.2)
      exact W.iret (v := y_9) hx hb hr (fun t ht hW => ⟨y_9, rfl, (by (try dsimp only); omega), ht⟩) (fun q hq => by cases hq) dX5_deep_49
  · have i_2 : y_1.toInt < 2 := kc_nle c_2
    refine lv_iload_n hx hb dX5_deep_7 rfl (lv_at hl 2 rfl) ?_
    refine lv_iload_n hx hb dX5_deep_8 rfl (lv_at hl 1 rfl) ?_
    refine lv_isub hx hb dX5_deep_9 ?_
    refine lv_topi (fun y_10 ey_10 => ?_)
    have i_10 : y_10.toInt = p1.toInt - p0.toInt := ki_sub ey_10 rfl rfl (om_124 b1) (om_231 b3)
    exact W.iret (v := y_10) hx hb hr (fun t ht hW => ⟨y_10, rfl, (by (try dsimp only); omega), ht⟩) (fun q hq => by cases hq) dX5_deep_10

set_option maxHeartbeats 4000000 in
set_option maxRecDepth 100000 in
theorem c_X5_deep_2 (l : Launch) (dC : Nat → ClassId) (dI : Nat → Nat → Nat) (h0 : Nat) (g_row : Nat) (g_many : Nat) (g_loss : Nat) (g_less : Nat) (g_voteValue : Nat) (g_voteNumber : Nat) (g_allValue : Nat) (g_allNumber : Nat) (g_nodeL : Nat) (g_nodeR : Nat) (g_part : Nat) (g_wasMany : Nat) (g_wasLoss : Nat) (g_wasValue : Nat) (g_wasNumber : Nat) (g_path : Nat) (g_heavyValue : Nat) (g_heavyTimes : Nat) (g_fewest : Nat) (g_which : Nat) (g_met : Nat) (m_n : Int32) (m_slots : Int32) (m_thrown : Int32) (m_allMany : Int32) (m_nodes : Int32) (m_partMany : Int32) (m_pathMany : Int32) (m_heavyMany : Int32) (m_mostMet : Int32) (p0 : Int32) (p1 : Int32) (b0 : 0 ≤ p0.toInt) (b1 : p0.toInt ≤ p1.toInt) (b2 : p1.toInt ≤ 160) (b3 : p1.toInt - p0.toInt ≤ 4) : Met l yX5_deep wsX5_deep ({ frames := 2, cells := 0, slots := 0, locals := 90 }) (va_Pc [.ref h0, .int p0, .int p1] (fun U => va_P (dC, dI) vwCl [kx_5 h0 g_row m_n m_slots m_thrown g_many g_loss g_less g_voteValue g_voteNumber g_allValue g_allNumber m_allMany g_nodeL g_nodeR m_nodes g_part m_partMany g_wasMany g_wasLoss g_wasValue g_wasNumber g_path m_pathMany g_heavyValue g_heavyTimes m_heavyMany g_fewest g_which g_met m_mostMet] U.heap ∧ va_K (dC, dI) vwCl [] U)) (vp_Si (fun r : Int32 => 0 ≤ r.toInt ∧ r.toInt ≤ 3)) 0 0 (fun _ => False) := by
  refine Met.ofW (cc := cX5_deep) (maxL := 6) (ret := (some .int)) (by decide) rfl ?_
  intro p e s m args below meth c s₁ B hml hv
  obtain ⟨rfl, hP, hK⟩ := hv
  have hx := B.exec
  have hb := B.bytes
  have hr := B.returns
  have hts := atoms_spec (ws := wsX5_deep) B.pre
  have hown : s.vm.findClass RX5 = some m.cls := findClass_of_methodNamed B.named
  have hlocks := B.notSynchronized
  have hP : va_P (dC, dI) vwCl [kx_5 h0 g_row m_n m_slots m_thrown g_many g_loss g_less g_voteValue g_voteNumber g_allValue g_allNumber m_allMany g_nodeL g_nodeR m_nodes g_part m_partMany g_wasMany g_wasLoss g_wasValue g_wasNumber g_path m_pathMany g_heavyValue g_heavyTimes m_heavyMany g_fewest g_which g_met m_mostMet] s.heap := hP
  have hl := lv_entry ([.ref h0, .int p0, .int p1]) (n := 6) (Nat.le_of_ble_eq_true rfl)
  rw [lg_entry_eq]
  generalize (lg_sl ([.ref h0, .int p0, .int p1]) ++ List.replicate (6 - (lg_sl ([.ref h0, .int p0, .int p1])).length) Slot.unset).toArray = ls at hl ⊢
  have hl : lv_has ls 6 [(0, .ref h0), (1, .int p0), (2, .int p1)] := hl
  refine lv_iload_n hx hb dX5_deep_0 rfl (lv_at hl 2 rfl) ?_
  refine lv_iload_n hx hb dX5_deep_1 rfl (lv_at hl 1 rfl) ?_
  refine lv_isub hx hb dX5_deep_2 ?_
  refine lv_topi (fun y_1 ey_1 => ?_)
  have i_1 : y_1.toInt = p1.toInt - p0.toInt := ki_sub ey_1 rfl rfl (om_124 b1) (om_235 b3)
  refine lv_iconst (v := 2) hx hb dX5_deep_3 (by decide) ?_
  refine lv_icmp_ge (tgt := 11) hx hb dX5_deep_4 (by decide) (fun c_2 => ?_) (fun c_2 => ?_)
  · have i_2 : 2 ≤ y_1.toInt := kc_le c_2
    refine lv_iload_n hx hb dX5_deep_11 rfl (lv_at hl 1 rfl) ?_
    refine lv_iload_n hx hb dX5_deep_12 rfl (lv_at hl 2 rfl) ?_
    refine lv_iadd hx hb dX5_deep_13 ?_
    refine lv_topi (fun y_3 ey_3 => ?_)
    have i_3 : y_3.toInt = p0.toInt + p1.toInt := ki_add ey_3 rfl rfl (om_293 b0 b1) (om_294 b1 b2)
    refine lv_iconst (v := 2) hx hb dX5_deep_14 (by decide) ?_
    refine lv_idiv hx hb dX5_deep_15 (by decide) ?_
    refine lv_topi (fun y_4 ey_4 => ?_)
    have i_4 : y_4.toInt = y_3.toInt / 2 := ki_div2 ey_4 rfl (by omega)
    refine lv_istore_n (lv' := [(3, .int y_4), (0, .ref h0), (1, .int p0), (2, .int p1)]) hx hb dX5_deep_16 rfl hl (by decide) rfl (fun ls hl => ?_)
    refine lv_aload_n hx hb dX5_deep_17 rfl (lv_at hl 1 rfl) ?_
    refine lv_iload_n hx hb dX5_deep_18 rfl (lv_at hl 2 rfl) ?_
    refine lv_iload_n hx hb dX5_deep_19 rfl (lv_at hl 0 rfl) ?_
    have hPc := hP
    have hKc := hK
    refine vp_callSi (W.runV (As := [.int p0, .int y_4]) (rest := []) ⟨hx, hb, hml, hown, hts⟩ (c_X5_deep_1 l dC dI h0 g_row g_many g_loss g_less g_voteValue g_voteNumber g_allValue g_allNumber g_nodeL g_nodeR g_part g_wasMany g_wasLoss g_wasValue g_wasNumber g_path g_heavyValue g_heavyTimes g_fewest g_which g_met m_n m_slots m_thrown m_allMany m_nodes m_partMany m_pathMany m_heavyMany m_mostMet p0 y_4 b0 (by omega) (by omega) (by omega)) (cwV 2 hts gX5_deep_X5_deep rfl rfl rfl (by decide +kernel) ⟨Nat.le_of_ble_eq_true rfl, Nat.le_of_ble_eq_true rfl⟩) ⟨fun a U g mk q => by obtain ⟨q0, qP, qK⟩ := q; exact ⟨q0, qP, va_K.moved (u := U) (U := U.calling g mk a) (Vm.Alike.refl U.vm) qK⟩, va_recv hKc hPc (ci := 5) (q0 := 0) rfl rfl, fun U hU hW => ⟨rfl, by rw [hU]; exact hPc, va_K.moved hW.alike hKc⟩⟩ rfl rfl hl.1 rfl (lv_room (Nat.le_of_ble_eq_true rfl)) dX5_deep_20 ⟨Nat.le_of_ble_eq_true rfl, Nat.le_of_ble_eq_true rfl⟩) (fun r_5 w_5 => ?_)
    have w_5 : 0 ≤ r_5.toInt ∧ r_5.toInt ≤ 2 := w_5
    refine lv_istore (lv' := [(4, .int r_5), (3, .int y_4), (0, .ref h0), (1, .int p0), (2, .int p1)]) hx hb dX5_deep_23 hl (by decide) rfl (fun ls hl => ?_)
    refine lv_aload_n hx hb dX5_deep_25 rfl (lv_at hl 2 rfl) ?_
    refine lv_iload_n hx hb dX5_deep_26 rfl (lv_at hl 1 rfl) ?_
    refine lv_iload_n hx hb dX5_deep_27 rfl (lv_at hl 4 rfl) ?_
    have hPc := hP
    have hKc := hK
    refine vp_callSi (W.runV (As := [.int y_4, .int p1]) (rest := []) ⟨hx, hb, hml, hown, hts⟩ (c_X5_deep_1 l dC dI h0 g_row g_many g_loss g_less g_voteValue g_voteNumber g_allValue g_allNumber g_nodeL g_nodeR g_part g_wasMany g_wasLoss g_wasValue g_wasNumber g_path g_heavyValue g_heavyTimes g_fewest g_which g_met m_n m_slots m_thrown m_allMany m_nodes m_partMany m_pathMany m_heavyMany m_mostMet y_4 p1 (by omega) (by omega) b2 (by omega)) (cwV 2 hts gX5_deep_X5_deep rfl rfl rfl (by decide +kernel) ⟨Nat.le_of_ble_eq_true rfl, Nat.le_of_ble_eq_true rfl⟩) ⟨fun a U g mk q => by obtain ⟨q0, qP, qK⟩ := q; exact ⟨q0, qP, va_K.moved (u := U) (U := U.calling g mk a) (Vm.Alike.refl U.vm) qK⟩, va_recv hKc hPc (ci := 5) (q0 := 0) rfl rfl, fun U hU hW => ⟨rfl, by rw [hU]; exact hPc, va_K.moved hW.alike hKc⟩⟩ rfl rfl hl.1 rfl (lv_room (Nat.le_of_ble_eq_true rfl)) dX5_deep_28 ⟨Nat.le_of_ble_eq_true rfl, Nat.le_of_ble_eq_true rfl⟩) (fun r_6 w_6 => ?_)
    have w_6 : 0 ≤ r_6.toInt ∧ r_6.toInt ≤ 2 := w_6
    refine lv_istore (lv' := [(5, .int r_6), (4, .int r_5), (3, .int y_4), (0, .ref h0), (1, .int p0), (2, .int p1)]) hx hb dX5_deep_31 hl (by decide) rfl (fun ls hl => ?_)
    refine lv_iconst (v := 1) hx hb dX5_deep_33 (by decide) ?_
    refine lv_iload hx hb dX5_deep_34 (lv_at hl 1 rfl) ?_
    refine lv_iload hx hb dX5_deep_36 (lv_at hl 0 rfl) ?_
    refine lv_icmp_le (tgt := 46) hx hb dX5_deep_38 (by decide) (fun c_7 => ?_) (fun c_7 => ?_)
    · have i_7 : r_5.toInt ≤ r_6.toInt := kc_le c_7
      refine lv_iload hx hb dX5_deep_46 (lv_at hl 0 rfl) ?_
      refine lv_iadd hx hb dX5_deep_48 ?_
      refine lv_topi (fun y_8 ey_8 => ?_)
      have i_8 : y_8.toInt = 1 + r_6.toInt := ki_add ey_8 rfl rfl (om_295 w_6.1) (om_297 w_6.2)
      exact W.iret (v := y_8) hx hb hr (fun t ht hW => ⟨y_8, rfl, (by (try dsimp only); omega), ht⟩) (fun q hq => by cases hq) dX5_deep_49
    · have i_7 : r_6.toInt < r_5.toInt := kc_nle c_7
      refine lv_iload hx hb dX5_deep_41 (lv_at hl 1 rfl) ?_
      refine lv_goto (tgt := 48) hx hb dX5_deep_43 (by decide) ?_
      refine lv_iadd hx hb dX5_deep_48 ?_
      refine lv_topi (fun y_9 ey_9 => ?_)
      have i_9 : y_9.toInt = 1 + r_5.toInt := ki_add ey_9 rfl rfl (om_295 w_5.1) (om_297 w_5.2)
      exact W.iret (v := y_9) hx hb hr (fun t ht hW => ⟨y_9, rfl, (by (try dsimp only); omega), ht⟩) (fun q hq => by cases hq) dX5_deep_49
  · have i_2 : y_1.toInt < 2 := kc_nle c_2
    refine lv_iload_n hx hb dX5_deep_7 rfl (lv_at hl 2 rfl) ?_
    refine lv_iload_n hx hb dX5_deep_8 rfl (lv_at hl 1 rfl) ?_
    refine lv_isub hx hb dX5_deep_9 ?_
    refine lv_topi (fun y_10 ey_10 => ?_)
    have i_10 : y_10.toInt = p1.toInt - p0.toInt := ki_sub ey_10 rfl rfl (om_124 b1) (om_235 b3)
    exact W.iret (v := y_10) hx hb hr (fun t ht hW => ⟨y_10, rfl, (by (try dsimp only); omega), ht⟩) (fun q hq => by cases hq) dX5_deep_10

set_option maxHeartbeats 4000000 in
set_option maxRecDepth 100000 in
theorem c_X5_deep_3 (l : Launch) (dC : Nat → ClassId) (dI : Nat → Nat → Nat) (h0 : Nat) (g_row : Nat) (g_many : Nat) (g_loss : Nat) (g_less : Nat) (g_voteValue : Nat) (g_voteNumber : Nat) (g_allValue : Nat) (g_allNumber : Nat) (g_nodeL : Nat) (g_nodeR : Nat) (g_part : Nat) (g_wasMany : Nat) (g_wasLoss : Nat) (g_wasValue : Nat) (g_wasNumber : Nat) (g_path : Nat) (g_heavyValue : Nat) (g_heavyTimes : Nat) (g_fewest : Nat) (g_which : Nat) (g_met : Nat) (m_n : Int32) (m_slots : Int32) (m_thrown : Int32) (m_allMany : Int32) (m_nodes : Int32) (m_partMany : Int32) (m_pathMany : Int32) (m_heavyMany : Int32) (m_mostMet : Int32) (p0 : Int32) (p1 : Int32) (b0 : 0 ≤ p0.toInt) (b1 : p0.toInt ≤ p1.toInt) (b2 : p1.toInt ≤ 160) (b3 : p1.toInt - p0.toInt ≤ 8) : Met l yX5_deep wsX5_deep ({ frames := 3, cells := 0, slots := 0, locals := 135 }) (va_Pc [.ref h0, .int p0, .int p1] (fun U => va_P (dC, dI) vwCl [kx_5 h0 g_row m_n m_slots m_thrown g_many g_loss g_less g_voteValue g_voteNumber g_allValue g_allNumber m_allMany g_nodeL g_nodeR m_nodes g_part m_partMany g_wasMany g_wasLoss g_wasValue g_wasNumber g_path m_pathMany g_heavyValue g_heavyTimes m_heavyMany g_fewest g_which g_met m_mostMet] U.heap ∧ va_K (dC, dI) vwCl [] U)) (vp_Si (fun r : Int32 => 0 ≤ r.toInt ∧ r.toInt ≤ 4)) 0 0 (fun _ => False) := by
  refine Met.ofW (cc := cX5_deep) (maxL := 6) (ret := (some .int)) (by decide) rfl ?_
  intro p e s m args below meth c s₁ B hml hv
  obtain ⟨rfl, hP, hK⟩ := hv
  have hx := B.exec
  have hb := B.bytes
  have hr := B.returns
  have hts := atoms_spec (ws := wsX5_deep) B.pre
  have hown : s.vm.findClass RX5 = some m.cls := findClass_of_methodNamed B.named
  have hlocks := B.notSynchronized
  have hP : va_P (dC, dI) vwCl [kx_5 h0 g_row m_n m_slots m_thrown g_many g_loss g_less g_voteValue g_voteNumber g_allValue g_allNumber m_allMany g_nodeL g_nodeR m_nodes g_part m_partMany g_wasMany g_wasLoss g_wasValue g_wasNumber g_path m_pathMany g_heavyValue g_heavyTimes m_heavyMany g_fewest g_which g_met m_mostMet] s.heap := hP
  have hl := lv_entry ([.ref h0, .int p0, .int p1]) (n := 6) (Nat.le_of_ble_eq_true rfl)
  rw [lg_entry_eq]
  generalize (lg_sl ([.ref h0, .int p0, .int p1]) ++ List.replicate (6 - (lg_sl ([.ref h0, .int p0, .int p1])).length) Slot.unset).toArray = ls at hl ⊢
  have hl : lv_has ls 6 [(0, .ref h0), (1, .int p0), (2, .int p1)] := hl
  refine lv_iload_n hx hb dX5_deep_0 rfl (lv_at hl 2 rfl) ?_
  refine lv_iload_n hx hb dX5_deep_1 rfl (lv_at hl 1 rfl) ?_
  refine lv_isub hx hb dX5_deep_2 ?_
  refine lv_topi (fun y_1 ey_1 => ?_)
  have i_1 : y_1.toInt = p1.toInt - p0.toInt := ki_sub ey_1 rfl rfl (om_124 b1) (om_236 b3)
  refine lv_iconst (v := 2) hx hb dX5_deep_3 (by decide) ?_
  refine lv_icmp_ge (tgt := 11) hx hb dX5_deep_4 (by decide) (fun c_2 => ?_) (fun c_2 => ?_)
  · have i_2 : 2 ≤ y_1.toInt := kc_le c_2
    refine lv_iload_n hx hb dX5_deep_11 rfl (lv_at hl 1 rfl) ?_
    refine lv_iload_n hx hb dX5_deep_12 rfl (lv_at hl 2 rfl) ?_
    refine lv_iadd hx hb dX5_deep_13 ?_
    refine lv_topi (fun y_3 ey_3 => ?_)
    have i_3 : y_3.toInt = p0.toInt + p1.toInt := ki_add ey_3 rfl rfl (om_293 b0 b1) (om_294 b1 b2)
    refine lv_iconst (v := 2) hx hb dX5_deep_14 (by decide) ?_
    refine lv_idiv hx hb dX5_deep_15 (by decide) ?_
    refine lv_topi (fun y_4 ey_4 => ?_)
    have i_4 : y_4.toInt = y_3.toInt / 2 := ki_div2 ey_4 rfl (by omega)
    refine lv_istore_n (lv' := [(3, .int y_4), (0, .ref h0), (1, .int p0), (2, .int p1)]) hx hb dX5_deep_16 rfl hl (by decide) rfl (fun ls hl => ?_)
    refine lv_aload_n hx hb dX5_deep_17 rfl (lv_at hl 1 rfl) ?_
    refine lv_iload_n hx hb dX5_deep_18 rfl (lv_at hl 2 rfl) ?_
    refine lv_iload_n hx hb dX5_deep_19 rfl (lv_at hl 0 rfl) ?_
    have hPc := hP
    have hKc := hK
    refine vp_callSi (W.runV (As := [.int p0, .int y_4]) (rest := []) ⟨hx, hb, hml, hown, hts⟩ (c_X5_deep_2 l dC dI h0 g_row g_many g_loss g_less g_voteValue g_voteNumber g_allValue g_allNumber g_nodeL g_nodeR g_part g_wasMany g_wasLoss g_wasValue g_wasNumber g_path g_heavyValue g_heavyTimes g_fewest g_which g_met m_n m_slots m_thrown m_allMany m_nodes m_partMany m_pathMany m_heavyMany m_mostMet p0 y_4 b0 (by omega) (by omega) (by omega)) (cwV 2 hts gX5_deep_X5_deep rfl rfl rfl (by decide +kernel) ⟨Nat.le_of_ble_eq_true rfl, Nat.le_of_ble_eq_true rfl⟩) ⟨fun a U g mk q => by obtain ⟨q0, qP, qK⟩ := q; exact ⟨q0, qP, va_K.moved (u := U) (U := U.calling g mk a) (Vm.Alike.refl U.vm) qK⟩, va_recv hKc hPc (ci := 5) (q0 := 0) rfl rfl, fun U hU hW => ⟨rfl, by rw [hU]; exact hPc, va_K.moved hW.alike hKc⟩⟩ rfl rfl hl.1 rfl (lv_room (Nat.le_of_ble_eq_true rfl)) dX5_deep_20 ⟨Nat.le_of_ble_eq_true rfl, Nat.le_of_ble_eq_true rfl⟩) (fun r_5 w_5 => ?_)
    have w_5 : 0 ≤ r_5.toInt ∧ r_5.toInt ≤ 3 := w_5
    refine lv_istore (lv' := [(4, .int r_5), (3, .int y_4), (0, .ref h0), (1, .int p0), (2, .int p1)]) hx hb dX5_deep_23 hl (by decide) rfl (fun ls hl => ?_)
    refine lv_aload_n hx hb dX5_deep_25 rfl (lv_at hl 2 rfl) ?_
    refine lv_iload_n hx hb dX5_deep_26 rfl (lv_at hl 1 rfl) ?_
    refine lv_iload_n hx hb dX5_deep_27 rfl (lv_at hl 4 rfl) ?_
    have hPc := hP
    have hKc := hK
    refine vp_callSi (W.runV (As := [.int y_4, .int p1]) (rest := []) ⟨hx, hb, hml, hown, hts⟩ (c_X5_deep_2 l dC dI h0 g_row g_many g_loss g_less g_voteValue g_voteNumber g_allValue g_allNumber g_nodeL g_nodeR g_part g_wasMany g_wasLoss g_wasValue g_wasNumber g_path g_heavyValue g_heavyTimes g_fewest g_which g_met m_n m_slots m_thrown m_allMany m_nodes m_partMany m_pathMany m_heavyMany m_mostMet y_4 p1 (by omega) (by omega) b2 (by omega)) (cwV 2 hts gX5_deep_X5_deep rfl rfl rfl (by decide +kernel) ⟨Nat.le_of_ble_eq_true rfl, Nat.le_of_ble_eq_true rfl⟩) ⟨fun a U g mk q => by obtain ⟨q0, qP, qK⟩ := q; exact ⟨q0, qP, va_K.moved (u := U) (U := U.calling g mk a) (Vm.Alike.refl U.vm) qK⟩, va_recv hKc hPc (ci := 5) (q0 := 0) rfl rfl, fun U hU hW => ⟨rfl, by rw [hU]; exact hPc, va_K.moved hW.alike hKc⟩⟩ rfl rfl hl.1 rfl (lv_room (Nat.le_of_ble_eq_true rfl)) dX5_deep_28 ⟨Nat.le_of_ble_eq_true rfl, Nat.le_of_ble_eq_true rfl⟩) (fun r_6 w_6 => ?_)
    have w_6 : 0 ≤ r_6.toInt ∧ r_6.toInt ≤ 3 := w_6
    refine lv_istore (lv' := [(5, .int r_6), (4, .int r_5), (3, .int y_4), (0, .ref h0), (1, .int p0), (2, .int p1)]) hx hb dX5_deep_31 hl (by decide) rfl (fun ls hl => ?_)
    refine lv_iconst (v := 1) hx hb dX5_deep_33 (by decide) ?_
    refine lv_iload hx hb dX5_deep_34 (lv_at hl 1 rfl) ?_
    refine lv_iload hx hb dX5_deep_36 (lv_at hl 0 rfl) ?_
    refine lv_icmp_le (tgt := 46) hx hb dX5_deep_38 (by decide) (fun c_7 => ?_) (fun c_7 => ?_)
    · have i_7 : r_5.toInt ≤ r_6.toInt := kc_le c_7
      refine lv_iload hx hb dX5_deep_46 (lv_at hl 0 rfl) ?_
      refine lv_iadd hx hb dX5_deep_48 ?_
      refine lv_topi (fun y_8 ey_8 => ?_)
      have i_8 : y_8.toInt = 1 + r_6.toInt := ki_add ey_8 rfl rfl (om_295 w_6.1) (om_298 w_6.2)
      exact W.iret (v := y_8) hx hb hr (fun t ht hW => ⟨y_8, rfl, (by (try dsimp only); omega), ht⟩) (fun q hq => by cases hq) dX5_deep_49
    · have i_7 : r_6.toInt < r_5.toInt := kc_nle c_7
      refine lv_iload hx hb dX5_deep_41 (lv_at hl 1 rfl) ?_
      refine lv_goto (tgt := 48) hx hb dX5_deep_43 (by decide) ?_
      refine lv_iadd hx hb dX5_deep_48 ?_
      refine lv_topi (fun y_9 ey_9 => ?_)
      have i_9 : y_9.toInt = 1 + r_5.toInt := ki_add ey_9 rfl rfl (om_295 w_5.1) (om_298 w_5.2)
      exact W.iret (v := y_9) hx hb hr (fun t ht hW => ⟨y_9, rfl, (by (try dsimp only); omega), ht⟩) (fun q hq => by cases hq) dX5_deep_49
  · have i_2 : y_1.toInt < 2 := kc_nle c_2
    refine lv_iload_n hx hb dX5_deep_7 rfl (lv_at hl 2 rfl) ?_
    refine lv_iload_n hx hb dX5_deep_8 rfl (lv_at hl 1 rfl) ?_
    refine lv_isub hx hb dX5_deep_9 ?_
    refine lv_topi (fun y_10 ey_10 => ?_)
    have i_10 : y_10.toInt = p1.toInt - p0.toInt := ki_sub ey_10 rfl rfl (om_124 b1) (om_236 b3)
    exact W.iret (v := y_10) hx hb hr (fun t ht hW => ⟨y_10, rfl, (by (try dsimp only); omega), ht⟩) (fun q hq => by cases hq) dX5_deep_10

set_option maxHeartbeats 4000000 in
set_option maxRecDepth 100000 in
theorem c_X5_deep_4 (l : Launch) (dC : Nat → ClassId) (dI : Nat → Nat → Nat) (h0 : Nat) (g_row : Nat) (g_many : Nat) (g_loss : Nat) (g_less : Nat) (g_voteValue : Nat) (g_voteNumber : Nat) (g_allValue : Nat) (g_allNumber : Nat) (g_nodeL : Nat) (g_nodeR : Nat) (g_part : Nat) (g_wasMany : Nat) (g_wasLoss : Nat) (g_wasValue : Nat) (g_wasNumber : Nat) (g_path : Nat) (g_heavyValue : Nat) (g_heavyTimes : Nat) (g_fewest : Nat) (g_which : Nat) (g_met : Nat) (m_n : Int32) (m_slots : Int32) (m_thrown : Int32) (m_allMany : Int32) (m_nodes : Int32) (m_partMany : Int32) (m_pathMany : Int32) (m_heavyMany : Int32) (m_mostMet : Int32) (p0 : Int32) (p1 : Int32) (b0 : 0 ≤ p0.toInt) (b1 : p0.toInt ≤ p1.toInt) (b2 : p1.toInt ≤ 160) (b3 : p1.toInt - p0.toInt ≤ 16) : Met l yX5_deep wsX5_deep ({ frames := 4, cells := 0, slots := 0, locals := 180 }) (va_Pc [.ref h0, .int p0, .int p1] (fun U => va_P (dC, dI) vwCl [kx_5 h0 g_row m_n m_slots m_thrown g_many g_loss g_less g_voteValue g_voteNumber g_allValue g_allNumber m_allMany g_nodeL g_nodeR m_nodes g_part m_partMany g_wasMany g_wasLoss g_wasValue g_wasNumber g_path m_pathMany g_heavyValue g_heavyTimes m_heavyMany g_fewest g_which g_met m_mostMet] U.heap ∧ va_K (dC, dI) vwCl [] U)) (vp_Si (fun r : Int32 => 0 ≤ r.toInt ∧ r.toInt ≤ 5)) 0 0 (fun _ => False) := by
  refine Met.ofW (cc := cX5_deep) (maxL := 6) (ret := (some .int)) (by decide) rfl ?_
  intro p e s m args below meth c s₁ B hml hv
  obtain ⟨rfl, hP, hK⟩ := hv
  have hx := B.exec
  have hb := B.bytes
  have hr := B.returns
  have hts := atoms_spec (ws := wsX5_deep) B.pre
  have hown : s.vm.findClass RX5 = some m.cls := findClass_of_methodNamed B.named
  have hlocks := B.notSynchronized
  have hP : va_P (dC, dI) vwCl [kx_5 h0 g_row m_n m_slots m_thrown g_many g_loss g_less g_voteValue g_voteNumber g_allValue g_allNumber m_allMany g_nodeL g_nodeR m_nodes g_part m_partMany g_wasMany g_wasLoss g_wasValue g_wasNumber g_path m_pathMany g_heavyValue g_heavyTimes m_heavyMany g_fewest g_which g_met m_mostMet] s.heap := hP
  have hl := lv_entry ([.ref h0, .int p0, .int p1]) (n := 6) (Nat.le_of_ble_eq_true rfl)
  rw [lg_entry_eq]
  generalize (lg_sl ([.ref h0, .int p0, .int p1]) ++ List.replicate (6 - (lg_sl ([.ref h0, .int p0, .int p1])).length) Slot.unset).toArray = ls at hl ⊢
  have hl : lv_has ls 6 [(0, .ref h0), (1, .int p0), (2, .int p1)] := hl
  refine lv_iload_n hx hb dX5_deep_0 rfl (lv_at hl 2 rfl) ?_
  refine lv_iload_n hx hb dX5_deep_1 rfl (lv_at hl 1 rfl) ?_
  refine lv_isub hx hb dX5_deep_2 ?_
  refine lv_topi (fun y_1 ey_1 => ?_)
  have i_1 : y_1.toInt = p1.toInt - p0.toInt := ki_sub ey_1 rfl rfl (om_124 b1) (om_237 b3)
  refine lv_iconst (v := 2) hx hb dX5_deep_3 (by decide) ?_
  refine lv_icmp_ge (tgt := 11) hx hb dX5_deep_4 (by decide) (fun c_2 => ?_) (fun c_2 => ?_)
  · have i_2 : 2 ≤ y_1.toInt := kc_le c_2
    refine lv_iload_n hx hb dX5_deep_11 rfl (lv_at hl 1 rfl) ?_
    refine lv_iload_n hx hb dX5_deep_12 rfl (lv_at hl 2 rfl) ?_
    refine lv_iadd hx hb dX5_deep_13 ?_
    refine lv_topi (fun y_3 ey_3 => ?_)
    have i_3 : y_3.toInt = p0.toInt + p1.toInt := ki_add ey_3 rfl rfl (om_293 b0 b1) (om_294 b1 b2)
    refine lv_iconst (v := 2) hx hb dX5_deep_14 (by decide) ?_
    refine lv_idiv hx hb dX5_deep_15 (by decide) ?_
    refine lv_topi (fun y_4 ey_4 => ?_)
    have i_4 : y_4.toInt = y_3.toInt / 2 := ki_div2 ey_4 rfl (by omega)
    refine lv_istore_n (lv' := [(3, .int y_4), (0, .ref h0), (1, .int p0), (2, .int p1)]) hx hb dX5_deep_16 rfl hl (by decide) rfl (fun ls hl => ?_)
    refine lv_aload_n hx hb dX5_deep_17 rfl (lv_at hl 1 rfl) ?_
    refine lv_iload_n hx hb dX5_deep_18 rfl (lv_at hl 2 rfl) ?_
    refine lv_iload_n hx hb dX5_deep_19 rfl (lv_at hl 0 rfl) ?_
    have hPc := hP
    have hKc := hK
    refine vp_callSi (W.runV (As := [.int p0, .int y_4]) (rest := []) ⟨hx, hb, hml, hown, hts⟩ (c_X5_deep_3 l dC dI h0 g_row g_many g_loss g_less g_voteValue g_voteNumber g_allValue g_allNumber g_nodeL g_nodeR g_part g_wasMany g_wasLoss g_wasValue g_wasNumber g_path g_heavyValue g_heavyTimes g_fewest g_which g_met m_n m_slots m_thrown m_allMany m_nodes m_partMany m_pathMany m_heavyMany m_mostMet p0 y_4 b0 (by omega) (by omega) (by omega)) (cwV 2 hts gX5_deep_X5_deep rfl rfl rfl (by decide +kernel) ⟨Nat.le_of_ble_eq_true rfl, Nat.le_of_ble_eq_true rfl⟩) ⟨fun a U g mk q => by obtain ⟨q0, qP, qK⟩ := q; exact ⟨q0, qP, va_K.moved (u := U) (U := U.calling g mk a) (Vm.Alike.refl U.vm) qK⟩, va_recv hKc hPc (ci := 5) (q0 := 0) rfl rfl, fun U hU hW => ⟨rfl, by rw [hU]; exact hPc, va_K.moved hW.alike hKc⟩⟩ rfl rfl hl.1 rfl (lv_room (Nat.le_of_ble_eq_true rfl)) dX5_deep_20 ⟨Nat.le_of_ble_eq_true rfl, Nat.le_of_ble_eq_true rfl⟩) (fun r_5 w_5 => ?_)
    have w_5 : 0 ≤ r_5.toInt ∧ r_5.toInt ≤ 4 := w_5
    refine lv_istore (lv' := [(4, .int r_5), (3, .int y_4), (0, .ref h0), (1, .int p0), (2, .int p1)]) hx hb dX5_deep_23 hl (by decide) rfl (fun ls hl => ?_)
    refine lv_aload_n hx hb dX5_deep_25 rfl (lv_at hl 2 rfl) ?_
    refine lv_iload_n hx hb dX5_deep_26 rfl (lv_at hl 1 rfl) ?_
    refine lv_iload_n hx hb dX5_deep_27 rfl (lv_at hl 4 rfl) ?_
    have hPc := hP
    have hKc := hK
    refine vp_callSi (W.runV (As := [.int y_4, .int p1]) (rest := []) ⟨hx, hb, hml, hown, hts⟩ (c_X5_deep_3 l dC dI h0 g_row g_many g_loss g_less g_voteValue g_voteNumber g_allValue g_allNumber g_nodeL g_nodeR g_part g_wasMany g_wasLoss g_wasValue g_wasNumber g_path g_heavyValue g_heavyTimes g_fewest g_which g_met m_n m_slots m_thrown m_allMany m_nodes m_partMany m_pathMany m_heavyMany m_mostMet y_4 p1 (by omega) (by omega) b2 (by omega)) (cwV 2 hts gX5_deep_X5_deep rfl rfl rfl (by decide +kernel) ⟨Nat.le_of_ble_eq_true rfl, Nat.le_of_ble_eq_true rfl⟩) ⟨fun a U g mk q => by obtain ⟨q0, qP, qK⟩ := q; exact ⟨q0, qP, va_K.moved (u := U) (U := U.calling g mk a) (Vm.Alike.refl U.vm) qK⟩, va_recv hKc hPc (ci := 5) (q0 := 0) rfl rfl, fun U hU hW => ⟨rfl, by rw [hU]; exact hPc, va_K.moved hW.alike hKc⟩⟩ rfl rfl hl.1 rfl (lv_room (Nat.le_of_ble_eq_true rfl)) dX5_deep_28 ⟨Nat.le_of_ble_eq_true rfl, Nat.le_of_ble_eq_true rfl⟩) (fun r_6 w_6 => ?_)
    have w_6 : 0 ≤ r_6.toInt ∧ r_6.toInt ≤ 4 := w_6
    refine lv_istore (lv' := [(5, .int r_6), (4, .int r_5), (3, .int y_4), (0, .ref h0), (1, .int p0), (2, .int p1)]) hx hb dX5_deep_31 hl (by decide) rfl (fun ls hl => ?_)
    refine lv_iconst (v := 1) hx hb dX5_deep_33 (by decide) ?_
    refine lv_iload hx hb dX5_deep_34 (lv_at hl 1 rfl) ?_
    refine lv_iload hx hb dX5_deep_36 (lv_at hl 0 rfl) ?_
    refine lv_icmp_le (tgt := 46) hx hb dX5_deep_38 (by decide) (fun c_7 => ?_) (fun c_7 => ?_)
    · have i_7 : r_5.toInt ≤ r_6.toInt := kc_le c_7
      refine lv_iload hx hb dX5_deep_46 (lv_at hl 0 rfl) ?_
      refine lv_iadd hx hb dX5_deep_48 ?_
      refine lv_topi (fun y_8 ey_8 => ?_)
      have i_8 : y_8.toInt = 1 + r_6.toInt := ki_add ey_8 rfl rfl (om_295 w_6.1) (om_299 w_6.2)
      exact W.iret (v := y_8) hx hb hr (fun t ht hW => ⟨y_8, rfl, (by (try dsimp only); omega), ht⟩) (fun q hq => by cases hq) dX5_deep_49
    · have i_7 : r_6.toInt < r_5.toInt := kc_nle c_7
      refine lv_iload hx hb dX5_deep_41 (lv_at hl 1 rfl) ?_
      refine lv_goto (tgt := 48) hx hb dX5_deep_43 (by decide) ?_
      refine lv_iadd hx hb dX5_deep_48 ?_
      refine lv_topi (fun y_9 ey_9 => ?_)
      have i_9 : y_9.toInt = 1 + r_5.toInt := ki_add ey_9 rfl rfl (om_295 w_5.1) (om_299 w_5.2)
      exact W.iret (v := y_9) hx hb hr (fun t ht hW => ⟨y_9, rfl, (by (try dsimp only); omega), ht⟩) (fun q hq => by cases hq) dX5_deep_49
  · have i_2 : y_1.toInt < 2 := kc_nle c_2
    refine lv_iload_n hx hb dX5_deep_7 rfl (lv_at hl 2 rfl) ?_
    refine lv_iload_n hx hb dX5_deep_8 rfl (lv_at hl 1 rfl) ?_
    refine lv_isub hx hb dX5_deep_9 ?_
    refine lv_topi (fun y_10 ey_10 => ?_)
    have i_10 : y_10.toInt = p1.toInt - p0.toInt := ki_sub ey_10 rfl rfl (om_124 b1) (om_237 b3)
    exact W.iret (v := y_10) hx hb hr (fun t ht hW => ⟨y_10, rfl, (by (try dsimp only); omega), ht⟩) (fun q hq => by cases hq) dX5_deep_10

set_option maxHeartbeats 4000000 in
set_option maxRecDepth 100000 in
theorem c_X5_deep_5 (l : Launch) (dC : Nat → ClassId) (dI : Nat → Nat → Nat) (h0 : Nat) (g_row : Nat) (g_many : Nat) (g_loss : Nat) (g_less : Nat) (g_voteValue : Nat) (g_voteNumber : Nat) (g_allValue : Nat) (g_allNumber : Nat) (g_nodeL : Nat) (g_nodeR : Nat) (g_part : Nat) (g_wasMany : Nat) (g_wasLoss : Nat) (g_wasValue : Nat) (g_wasNumber : Nat) (g_path : Nat) (g_heavyValue : Nat) (g_heavyTimes : Nat) (g_fewest : Nat) (g_which : Nat) (g_met : Nat) (m_n : Int32) (m_slots : Int32) (m_thrown : Int32) (m_allMany : Int32) (m_nodes : Int32) (m_partMany : Int32) (m_pathMany : Int32) (m_heavyMany : Int32) (m_mostMet : Int32) (p0 : Int32) (p1 : Int32) (b0 : 0 ≤ p0.toInt) (b1 : p0.toInt ≤ p1.toInt) (b2 : p1.toInt ≤ 160) (b3 : p1.toInt - p0.toInt ≤ 32) : Met l yX5_deep wsX5_deep ({ frames := 5, cells := 0, slots := 0, locals := 225 }) (va_Pc [.ref h0, .int p0, .int p1] (fun U => va_P (dC, dI) vwCl [kx_5 h0 g_row m_n m_slots m_thrown g_many g_loss g_less g_voteValue g_voteNumber g_allValue g_allNumber m_allMany g_nodeL g_nodeR m_nodes g_part m_partMany g_wasMany g_wasLoss g_wasValue g_wasNumber g_path m_pathMany g_heavyValue g_heavyTimes m_heavyMany g_fewest g_which g_met m_mostMet] U.heap ∧ va_K (dC, dI) vwCl [] U)) (vp_Si (fun r : Int32 => 0 ≤ r.toInt ∧ r.toInt ≤ 6)) 0 0 (fun _ => False) := by
  refine Met.ofW (cc := cX5_deep) (maxL := 6) (ret := (some .int)) (by decide) rfl ?_
  intro p e s m args below meth c s₁ B hml hv
  obtain ⟨rfl, hP, hK⟩ := hv
  have hx := B.exec
  have hb := B.bytes
  have hr := B.returns
  have hts := atoms_spec (ws := wsX5_deep) B.pre
  have hown : s.vm.findClass RX5 = some m.cls := findClass_of_methodNamed B.named
  have hlocks := B.notSynchronized
  have hP : va_P (dC, dI) vwCl [kx_5 h0 g_row m_n m_slots m_thrown g_many g_loss g_less g_voteValue g_voteNumber g_allValue g_allNumber m_allMany g_nodeL g_nodeR m_nodes g_part m_partMany g_wasMany g_wasLoss g_wasValue g_wasNumber g_path m_pathMany g_heavyValue g_heavyTimes m_heavyMany g_fewest g_which g_met m_mostMet] s.heap := hP
  have hl := lv_entry ([.ref h0, .int p0, .int p1]) (n := 6) (Nat.le_of_ble_eq_true rfl)
  rw [lg_entry_eq]
  generalize (lg_sl ([.ref h0, .int p0, .int p1]) ++ List.replicate (6 - (lg_sl ([.ref h0, .int p0, .int p1])).length) Slot.unset).toArray = ls at hl ⊢
  have hl : lv_has ls 6 [(0, .ref h0), (1, .int p0), (2, .int p1)] := hl
  refine lv_iload_n hx hb dX5_deep_0 rfl (lv_at hl 2 rfl) ?_
  refine lv_iload_n hx hb dX5_deep_1 rfl (lv_at hl 1 rfl) ?_
  refine lv_isub hx hb dX5_deep_2 ?_
  refine lv_topi (fun y_1 ey_1 => ?_)
  have i_1 : y_1.toInt = p1.toInt - p0.toInt := ki_sub ey_1 rfl rfl (om_124 b1) (om_238 b3)
  refine lv_iconst (v := 2) hx hb dX5_deep_3 (by decide) ?_
  refine lv_icmp_ge (tgt := 11) hx hb dX5_deep_4 (by decide) (fun c_2 => ?_) (fun c_2 => ?_)
  · have i_2 : 2 ≤ y_1.toInt := kc_le c_2
    refine lv_iload_n hx hb dX5_deep_11 rfl (lv_at hl 1 rfl) ?_
    refine lv_iload_n hx hb dX5_deep_12 rfl (lv_at hl 2 rfl) ?_
    refine lv_iadd hx hb dX5_deep_13 ?_
    refine lv_topi (fun y_3 ey_3 => ?_)
    have i_3 : y_3.toInt = p0.toInt + p1.toInt := ki_add ey_3 rfl rfl (om_293 b0 b1) (om_294 b1 b2)
    refine lv_iconst (v := 2) hx hb dX5_deep_14 (by decide) ?_
    refine lv_idiv hx hb dX5_deep_15 (by decide) ?_
    refine lv_topi (fun y_4 ey_4 => ?_)
    have i_4 : y_4.toInt = y_3.toInt / 2 := ki_div2 ey_4 rfl (by omega)
    refine lv_istore_n (lv' := [(3, .int y_4), (0, .ref h0), (1, .int p0), (2, .int p1)]) hx hb dX5_deep_16 rfl hl (by decide) rfl (fun ls hl => ?_)
    refine lv_aload_n hx hb dX5_deep_17 rfl (lv_at hl 1 rfl) ?_
    refine lv_iload_n hx hb dX5_deep_18 rfl (lv_at hl 2 rfl) ?_
    refine lv_iload_n hx hb dX5_deep_19 rfl (lv_at hl 0 rfl) ?_
    have hPc := hP
    have hKc := hK
    refine vp_callSi (W.runV (As := [.int p0, .int y_4]) (rest := []) ⟨hx, hb, hml, hown, hts⟩ (c_X5_deep_4 l dC dI h0 g_row g_many g_loss g_less g_voteValue g_voteNumber g_allValue g_allNumber g_nodeL g_nodeR g_part g_wasMany g_wasLoss g_wasValue g_wasNumber g_path g_heavyValue g_heavyTimes g_fewest g_which g_met m_n m_slots m_thrown m_allMany m_nodes m_partMany m_pathMany m_heavyMany m_mostMet p0 y_4 b0 (by omega) (by omega) (by omega)) (cwV 2 hts gX5_deep_X5_deep rfl rfl rfl (by decide +kernel) ⟨Nat.le_of_ble_eq_true rfl, Nat.le_of_ble_eq_true rfl⟩) ⟨fun a U g mk q => by obtain ⟨q0, qP, qK⟩ := q; exact ⟨q0, qP, va_K.moved (u := U) (U := U.calling g mk a) (Vm.Alike.refl U.vm) qK⟩, va_recv hKc hPc (ci := 5) (q0 := 0) rfl rfl, fun U hU hW => ⟨rfl, by rw [hU]; exact hPc, va_K.moved hW.alike hKc⟩⟩ rfl rfl hl.1 rfl (lv_room (Nat.le_of_ble_eq_true rfl)) dX5_deep_20 ⟨Nat.le_of_ble_eq_true rfl, Nat.le_of_ble_eq_true rfl⟩) (fun r_5 w_5 => ?_)
    have w_5 : 0 ≤ r_5.toInt ∧ r_5.toInt ≤ 5 := w_5
    refine lv_istore (lv' := [(4, .int r_5), (3, .int y_4), (0, .ref h0), (1, .int p0), (2, .int p1)]) hx hb dX5_deep_23 hl (by decide) rfl (fun ls hl => ?_)
    refine lv_aload_n hx hb dX5_deep_25 rfl (lv_at hl 2 rfl) ?_
    refine lv_iload_n hx hb dX5_deep_26 rfl (lv_at hl 1 rfl) ?_
    refine lv_iload_n hx hb dX5_deep_27 rfl (lv_at hl 4 rfl) ?_
    have hPc := hP
    have hKc := hK
    refine vp_callSi (W.runV (As := [.int y_4, .int p1]) (rest := []) ⟨hx, hb, hml, hown, hts⟩ (c_X5_deep_4 l dC dI h0 g_row g_many g_loss g_less g_voteValue g_voteNumber g_allValue g_allNumber g_nodeL g_nodeR g_part g_wasMany g_wasLoss g_wasValue g_wasNumber g_path g_heavyValue g_heavyTimes g_fewest g_which g_met m_n m_slots m_thrown m_allMany m_nodes m_partMany m_pathMany m_heavyMany m_mostMet y_4 p1 (by omega) (by omega) b2 (by omega)) (cwV 2 hts gX5_deep_X5_deep rfl rfl rfl (by decide +kernel) ⟨Nat.le_of_ble_eq_true rfl, Nat.le_of_ble_eq_true rfl⟩) ⟨fun a U g mk q => by obtain ⟨q0, qP, qK⟩ := q; exact ⟨q0, qP, va_K.moved (u := U) (U := U.calling g mk a) (Vm.Alike.refl U.vm) qK⟩, va_recv hKc hPc (ci := 5) (q0 := 0) rfl rfl, fun U hU hW => ⟨rfl, by rw [hU]; exact hPc, va_K.moved hW.alike hKc⟩⟩ rfl rfl hl.1 rfl (lv_room (Nat.le_of_ble_eq_true rfl)) dX5_deep_28 ⟨Nat.le_of_ble_eq_true rfl, Nat.le_of_ble_eq_true rfl⟩) (fun r_6 w_6 => ?_)
    have w_6 : 0 ≤ r_6.toInt ∧ r_6.toInt ≤ 5 := w_6
    refine lv_istore (lv' := [(5, .int r_6), (4, .int r_5), (3, .int y_4), (0, .ref h0), (1, .int p0), (2, .int p1)]) hx hb dX5_deep_31 hl (by decide) rfl (fun ls hl => ?_)
    refine lv_iconst (v := 1) hx hb dX5_deep_33 (by decide) ?_
    refine lv_iload hx hb dX5_deep_34 (lv_at hl 1 rfl) ?_
    refine lv_iload hx hb dX5_deep_36 (lv_at hl 0 rfl) ?_
    refine lv_icmp_le (tgt := 46) hx hb dX5_deep_38 (by decide) (fun c_7 => ?_) (fun c_7 => ?_)
    · have i_7 : r_5.toInt ≤ r_6.toInt := kc_le c_7
      refine lv_iload hx hb dX5_deep_46 (lv_at hl 0 rfl) ?_
      refine lv_iadd hx hb dX5_deep_48 ?_
      refine lv_topi (fun y_8 ey_8 => ?_)
      have i_8 : y_8.toInt = 1 + r_6.toInt := ki_add ey_8 rfl rfl (om_295 w_6.1) (om_300 w_6.2)
      exact W.iret (v := y_8) hx hb hr (fun t ht hW => ⟨y_8, rfl, (by (try dsimp only); omega), ht⟩) (fun q hq => by cases hq) dX5_deep_49
    · have i_7 : r_6.toInt < r_5.toInt := kc_nle c_7
      refine lv_iload hx hb dX5_deep_41 (lv_at hl 1 rfl) ?_
      refine lv_goto (tgt := 48) hx hb dX5_deep_43 (by decide) ?_
      refine lv_iadd hx hb dX5_deep_48 ?_
      refine lv_topi (fun y_9 ey_9 => ?_)
      have i_9 : y_9.toInt = 1 + r_5.toInt := ki_add ey_9 rfl rfl (om_295 w_5.1) (om_300 w_5.2)
      exact W.iret (v := y_9) hx hb hr (fun t ht hW => ⟨y_9, rfl, (by (try dsimp only); omega), ht⟩) (fun q hq => by cases hq) dX5_deep_49
  · have i_2 : y_1.toInt < 2 := kc_nle c_2
    refine lv_iload_n hx hb dX5_deep_7 rfl (lv_at hl 2 rfl) ?_
    refine lv_iload_n hx hb dX5_deep_8 rfl (lv_at hl 1 rfl) ?_
    refine lv_isub hx hb dX5_deep_9 ?_
    refine lv_topi (fun y_10 ey_10 => ?_)
    have i_10 : y_10.toInt = p1.toInt - p0.toInt := ki_sub ey_10 rfl rfl (om_124 b1) (om_238 b3)
    exact W.iret (v := y_10) hx hb hr (fun t ht hW => ⟨y_10, rfl, (by (try dsimp only); omega), ht⟩) (fun q hq => by cases hq) dX5_deep_10

set_option maxHeartbeats 4000000 in
set_option maxRecDepth 100000 in
theorem c_X5_deep_6 (l : Launch) (dC : Nat → ClassId) (dI : Nat → Nat → Nat) (h0 : Nat) (g_row : Nat) (g_many : Nat) (g_loss : Nat) (g_less : Nat) (g_voteValue : Nat) (g_voteNumber : Nat) (g_allValue : Nat) (g_allNumber : Nat) (g_nodeL : Nat) (g_nodeR : Nat) (g_part : Nat) (g_wasMany : Nat) (g_wasLoss : Nat) (g_wasValue : Nat) (g_wasNumber : Nat) (g_path : Nat) (g_heavyValue : Nat) (g_heavyTimes : Nat) (g_fewest : Nat) (g_which : Nat) (g_met : Nat) (m_n : Int32) (m_slots : Int32) (m_thrown : Int32) (m_allMany : Int32) (m_nodes : Int32) (m_partMany : Int32) (m_pathMany : Int32) (m_heavyMany : Int32) (m_mostMet : Int32) (p0 : Int32) (p1 : Int32) (b0 : 0 ≤ p0.toInt) (b1 : p0.toInt ≤ p1.toInt) (b2 : p1.toInt ≤ 160) (b3 : p1.toInt - p0.toInt ≤ 64) : Met l yX5_deep wsX5_deep ({ frames := 6, cells := 0, slots := 0, locals := 270 }) (va_Pc [.ref h0, .int p0, .int p1] (fun U => va_P (dC, dI) vwCl [kx_5 h0 g_row m_n m_slots m_thrown g_many g_loss g_less g_voteValue g_voteNumber g_allValue g_allNumber m_allMany g_nodeL g_nodeR m_nodes g_part m_partMany g_wasMany g_wasLoss g_wasValue g_wasNumber g_path m_pathMany g_heavyValue g_heavyTimes m_heavyMany g_fewest g_which g_met m_mostMet] U.heap ∧ va_K (dC, dI) vwCl [] U)) (vp_Si (fun r : Int32 => 0 ≤ r.toInt ∧ r.toInt ≤ 7)) 0 0 (fun _ => False) := by
  refine Met.ofW (cc := cX5_deep) (maxL := 6) (ret := (some .int)) (by decide) rfl ?_
  intro p e s m args below meth c s₁ B hml hv
  obtain ⟨rfl, hP, hK⟩ := hv
  have hx := B.exec
  have hb := B.bytes
  have hr := B.returns
  have hts := atoms_spec (ws := wsX5_deep) B.pre
  have hown : s.vm.findClass RX5 = some m.cls := findClass_of_methodNamed B.named
  have hlocks := B.notSynchronized
  have hP : va_P (dC, dI) vwCl [kx_5 h0 g_row m_n m_slots m_thrown g_many g_loss g_less g_voteValue g_voteNumber g_allValue g_allNumber m_allMany g_nodeL g_nodeR m_nodes g_part m_partMany g_wasMany g_wasLoss g_wasValue g_wasNumber g_path m_pathMany g_heavyValue g_heavyTimes m_heavyMany g_fewest g_which g_met m_mostMet] s.heap := hP
  have hl := lv_entry ([.ref h0, .int p0, .int p1]) (n := 6) (Nat.le_of_ble_eq_true rfl)
  rw [lg_entry_eq]
  generalize (lg_sl ([.ref h0, .int p0, .int p1]) ++ List.replicate (6 - (lg_sl ([.ref h0, .int p0, .int p1])).length) Slot.unset).toArray = ls at hl ⊢
  have hl : lv_has ls 6 [(0, .ref h0), (1, .int p0), (2, .int p1)] := hl
  refine lv_iload_n hx hb dX5_deep_0 rfl (lv_at hl 2 rfl) ?_
  refine lv_iload_n hx hb dX5_deep_1 rfl (lv_at hl 1 rfl) ?_
  refine lv_isub hx hb dX5_deep_2 ?_
  refine lv_topi (fun y_1 ey_1 => ?_)
  have i_1 : y_1.toInt = p1.toInt - p0.toInt := ki_sub ey_1 rfl rfl (om_124 b1) (om_239 b3)
  refine lv_iconst (v := 2) hx hb dX5_deep_3 (by decide) ?_
  refine lv_icmp_ge (tgt := 11) hx hb dX5_deep_4 (by decide) (fun c_2 => ?_) (fun c_2 => ?_)
  · have i_2 : 2 ≤ y_1.toInt := kc_le c_2
    refine lv_iload_n hx hb dX5_deep_11 rfl (lv_at hl 1 rfl) ?_
    refine lv_iload_n hx hb dX5_deep_12 rfl (lv_at hl 2 rfl) ?_
    refine lv_iadd hx hb dX5_deep_13 ?_
    refine lv_topi (fun y_3 ey_3 => ?_)
    have i_3 : y_3.toInt = p0.toInt + p1.toInt := ki_add ey_3 rfl rfl (om_293 b0 b1) (om_294 b1 b2)
    refine lv_iconst (v := 2) hx hb dX5_deep_14 (by decide) ?_
    refine lv_idiv hx hb dX5_deep_15 (by decide) ?_
    refine lv_topi (fun y_4 ey_4 => ?_)
    have i_4 : y_4.toInt = y_3.toInt / 2 := ki_div2 ey_4 rfl (by omega)
    refine lv_istore_n (lv' := [(3, .int y_4), (0, .ref h0), (1, .int p0), (2, .int p1)]) hx hb dX5_deep_16 rfl hl (by decide) rfl (fun ls hl => ?_)
    refine lv_aload_n hx hb dX5_deep_17 rfl (lv_at hl 1 rfl) ?_
    refine lv_iload_n hx hb dX5_deep_18 rfl (lv_at hl 2 rfl) ?_
    refine lv_iload_n hx hb dX5_deep_19 rfl (lv_at hl 0 rfl) ?_
    have hPc := hP
    have hKc := hK
    refine vp_callSi (W.runV (As := [.int p0, .int y_4]) (rest := []) ⟨hx, hb, hml, hown, hts⟩ (c_X5_deep_5 l dC dI h0 g_row g_many g_loss g_less g_voteValue g_voteNumber g_allValue g_allNumber g_nodeL g_nodeR g_part g_wasMany g_wasLoss g_wasValue g_wasNumber g_path g_heavyValue g_heavyTimes g_fewest g_which g_met m_n m_slots m_thrown m_allMany m_nodes m_partMany m_pathMany m_heavyMany m_mostMet p0 y_4 b0 (by omega) (by omega) (by omega)) (cwV 2 hts gX5_deep_X5_deep rfl rfl rfl (by decide +kernel) ⟨Nat.le_of_ble_eq_true rfl, Nat.le_of_ble_eq_true rfl⟩) ⟨fun a U g mk q => by obtain ⟨q0, qP, qK⟩ := q; exact ⟨q0, qP, va_K.moved (u := U) (U := U.calling g mk a) (Vm.Alike.refl U.vm) qK⟩, va_recv hKc hPc (ci := 5) (q0 := 0) rfl rfl, fun U hU hW => ⟨rfl, by rw [hU]; exact hPc, va_K.moved hW.alike hKc⟩⟩ rfl rfl hl.1 rfl (lv_room (Nat.le_of_ble_eq_true rfl)) dX5_deep_20 ⟨Nat.le_of_ble_eq_true rfl, Nat.le_of_ble_eq_true rfl⟩) (fun r_5 w_5 => ?_)
    have w_5 : 0 ≤ r_5.toInt ∧ r_5.toInt ≤ 6 := w_5
    refine lv_istore (lv' := [(4, .int r_5), (3, .int y_4), (0, .ref h0), (1, .int p0), (2, .int p1)]) hx hb dX5_deep_23 hl (by decide) rfl (fun ls hl => ?_)
    refine lv_aload_n hx hb dX5_deep_25 rfl (lv_at hl 2 rfl) ?_
    refine lv_iload_n hx hb dX5_deep_26 rfl (lv_at hl 1 rfl) ?_
    refine lv_iload_n hx hb dX5_deep_27 rfl (lv_at hl 4 rfl) ?_
    have hPc := hP
    have hKc := hK
    refine vp_callSi (W.runV (As := [.int y_4, .int p1]) (rest := []) ⟨hx, hb, hml, hown, hts⟩ (c_X5_deep_5 l dC dI h0 g_row g_many g_loss g_less g_voteValue g_voteNumber g_allValue g_allNumber g_nodeL g_nodeR g_part g_wasMany g_wasLoss g_wasValue g_wasNumber g_path g_heavyValue g_heavyTimes g_fewest g_which g_met m_n m_slots m_thrown m_allMany m_nodes m_partMany m_pathMany m_heavyMany m_mostMet y_4 p1 (by omega) (by omega) b2 (by omega)) (cwV 2 hts gX5_deep_X5_deep rfl rfl rfl (by decide +kernel) ⟨Nat.le_of_ble_eq_true rfl, Nat.le_of_ble_eq_true rfl⟩) ⟨fun a U g mk q => by obtain ⟨q0, qP, qK⟩ := q; exact ⟨q0, qP, va_K.moved (u := U) (U := U.calling g mk a) (Vm.Alike.refl U.vm) qK⟩, va_recv hKc hPc (ci := 5) (q0 := 0) rfl rfl, fun U hU hW => ⟨rfl, by rw [hU]; exact hPc, va_K.moved hW.alike hKc⟩⟩ rfl rfl hl.1 rfl (lv_room (Nat.le_of_ble_eq_true rfl)) dX5_deep_28 ⟨Nat.le_of_ble_eq_true rfl, Nat.le_of_ble_eq_true rfl⟩) (fun r_6 w_6 => ?_)
    have w_6 : 0 ≤ r_6.toInt ∧ r_6.toInt ≤ 6 := w_6
    refine lv_istore (lv' := [(5, .int r_6), (4, .int r_5), (3, .int y_4), (0, .ref h0), (1, .int p0), (2, .int p1)]) hx hb dX5_deep_31 hl (by decide) rfl (fun ls hl => ?_)
    refine lv_iconst (v := 1) hx hb dX5_deep_33 (by decide) ?_
    refine lv_iload hx hb dX5_deep_34 (lv_at hl 1 rfl) ?_
    refine lv_iload hx hb dX5_deep_36 (lv_at hl 0 rfl) ?_
    refine lv_icmp_le (tgt := 46) hx hb dX5_deep_38 (by decide) (fun c_7 => ?_) (fun c_7 => ?_)
    · have i_7 : r_5.toInt ≤ r_6.toInt := kc_le c_7
      refine lv_iload hx hb dX5_deep_46 (lv_at hl 0 rfl) ?_
      refine lv_iadd hx hb dX5_deep_48 ?_
      refine lv_topi (fun y_8 ey_8 => ?_)
      have i_8 : y_8.toInt = 1 + r_6.toInt := ki_add ey_8 rfl rfl (om_295 w_6.1) (om_301 w_6.2)
      exact W.iret (v := y_8) hx hb hr (fun t ht hW => ⟨y_8, rfl, (by (try dsimp only); omega), ht⟩) (fun q hq => by cases hq) dX5_deep_49
    · have i_7 : r_6.toInt < r_5.toInt := kc_nle c_7
      refine lv_iload hx hb dX5_deep_41 (lv_at hl 1 rfl) ?_
      refine lv_goto (tgt := 48) hx hb dX5_deep_43 (by decide) ?_
      refine lv_iadd hx hb dX5_deep_48 ?_
      refine lv_topi (fun y_9 ey_9 => ?_)
      have i_9 : y_9.toInt = 1 + r_5.toInt := ki_add ey_9 rfl rfl (om_295 w_5.1) (om_301 w_5.2)
      exact W.iret (v := y_9) hx hb hr (fun t ht hW => ⟨y_9, rfl, (by (try dsimp only); omega), ht⟩) (fun q hq => by cases hq) dX5_deep_49
  · have i_2 : y_1.toInt < 2 := kc_nle c_2
    refine lv_iload_n hx hb dX5_deep_7 rfl (lv_at hl 2 rfl) ?_
    refine lv_iload_n hx hb dX5_deep_8 rfl (lv_at hl 1 rfl) ?_
    refine lv_isub hx hb dX5_deep_9 ?_
    refine lv_topi (fun y_10 ey_10 => ?_)
    have i_10 : y_10.toInt = p1.toInt - p0.toInt := ki_sub ey_10 rfl rfl (om_124 b1) (om_239 b3)
    exact W.iret (v := y_10) hx hb hr (fun t ht hW => ⟨y_10, rfl, (by (try dsimp only); omega), ht⟩) (fun q hq => by cases hq) dX5_deep_10

set_option maxHeartbeats 4000000 in
set_option maxRecDepth 100000 in
theorem c_X5_deep_7 (l : Launch) (dC : Nat → ClassId) (dI : Nat → Nat → Nat) (h0 : Nat) (g_row : Nat) (g_many : Nat) (g_loss : Nat) (g_less : Nat) (g_voteValue : Nat) (g_voteNumber : Nat) (g_allValue : Nat) (g_allNumber : Nat) (g_nodeL : Nat) (g_nodeR : Nat) (g_part : Nat) (g_wasMany : Nat) (g_wasLoss : Nat) (g_wasValue : Nat) (g_wasNumber : Nat) (g_path : Nat) (g_heavyValue : Nat) (g_heavyTimes : Nat) (g_fewest : Nat) (g_which : Nat) (g_met : Nat) (m_n : Int32) (m_slots : Int32) (m_thrown : Int32) (m_allMany : Int32) (m_nodes : Int32) (m_partMany : Int32) (m_pathMany : Int32) (m_heavyMany : Int32) (m_mostMet : Int32) (p0 : Int32) (p1 : Int32) (b0 : 0 ≤ p0.toInt) (b1 : p0.toInt ≤ p1.toInt) (b2 : p1.toInt ≤ 160) (b3 : p1.toInt - p0.toInt ≤ 128) : Met l yX5_deep wsX5_deep ({ frames := 7, cells := 0, slots := 0, locals := 315 }) (va_Pc [.ref h0, .int p0, .int p1] (fun U => va_P (dC, dI) vwCl [kx_5 h0 g_row m_n m_slots m_thrown g_many g_loss g_less g_voteValue g_voteNumber g_allValue g_allNumber m_allMany g_nodeL g_nodeR m_nodes g_part m_partMany g_wasMany g_wasLoss g_wasValue g_wasNumber g_path m_pathMany g_heavyValue g_heavyTimes m_heavyMany g_fewest g_which g_met m_mostMet] U.heap ∧ va_K (dC, dI) vwCl [] U)) (vp_Si (fun r : Int32 => 0 ≤ r.toInt ∧ r.toInt ≤ 8)) 0 0 (fun _ => False) := by
  refine Met.ofW (cc := cX5_deep) (maxL := 6) (ret := (some .int)) (by decide) rfl ?_
  intro p e s m args below meth c s₁ B hml hv
  obtain ⟨rfl, hP, hK⟩ := hv
  have hx := B.exec
  have hb := B.bytes
  have hr := B.returns
  have hts := atoms_spec (ws := wsX5_deep) B.pre
  have hown : s.vm.findClass RX5 = some m.cls := findClass_of_methodNamed B.named
  have hlocks := B.notSynchronized
  have hP : va_P (dC, dI) vwCl [kx_5 h0 g_row m_n m_slots m_thrown g_many g_loss g_less g_voteValue g_voteNumber g_allValue g_allNumber m_allMany g_nodeL g_nodeR m_nodes g_part m_partMany g_wasMany g_wasLoss g_wasValue g_wasNumber g_path m_pathMany g_heavyValue g_heavyTimes m_heavyMany g_fewest g_which g_met m_mostMet] s.heap := hP
  have hl := lv_entry ([.ref h0, .int p0, .int p1]) (n := 6) (Nat.le_of_ble_eq_true rfl)
  rw [lg_entry_eq]
  generalize (lg_sl ([.ref h0, .int p0, .int p1]) ++ List.replicate (6 - (lg_sl ([.ref h0, .int p0, .int p1])).length) Slot.unset).toArray = ls at hl ⊢
  have hl : lv_has ls 6 [(0, .ref h0), (1, .int p0), (2, .int p1)] := hl
  refine lv_iload_n hx hb dX5_deep_0 rfl (lv_at hl 2 rfl) ?_
  refine lv_iload_n hx hb dX5_deep_1 rfl (lv_at hl 1 rfl) ?_
  refine lv_isub hx hb dX5_deep_2 ?_
  refine lv_topi (fun y_1 ey_1 => ?_)
  have i_1 : y_1.toInt = p1.toInt - p0.toInt := ki_sub ey_1 rfl rfl (om_124 b1) (om_240 b3)
  refine lv_iconst (v := 2) hx hb dX5_deep_3 (by decide) ?_
  refine lv_icmp_ge (tgt := 11) hx hb dX5_deep_4 (by decide) (fun c_2 => ?_) (fun c_2 => ?_)
  · have i_2 : 2 ≤ y_1.toInt := kc_le c_2
    refine lv_iload_n hx hb dX5_deep_11 rfl (lv_at hl 1 rfl) ?_
    refine lv_iload_n hx hb dX5_deep_12 rfl (lv_at hl 2 rfl) ?_
    refine lv_iadd hx hb dX5_deep_13 ?_
    refine lv_topi (fun y_3 ey_3 => ?_)
    have i_3 : y_3.toInt = p0.toInt + p1.toInt := ki_add ey_3 rfl rfl (om_293 b0 b1) (om_294 b1 b2)
    refine lv_iconst (v := 2) hx hb dX5_deep_14 (by decide) ?_
    refine lv_idiv hx hb dX5_deep_15 (by decide) ?_
    refine lv_topi (fun y_4 ey_4 => ?_)
    have i_4 : y_4.toInt = y_3.toInt / 2 := ki_div2 ey_4 rfl (by omega)
    refine lv_istore_n (lv' := [(3, .int y_4), (0, .ref h0), (1, .int p0), (2, .int p1)]) hx hb dX5_deep_16 rfl hl (by decide) rfl (fun ls hl => ?_)
    refine lv_aload_n hx hb dX5_deep_17 rfl (lv_at hl 1 rfl) ?_
    refine lv_iload_n hx hb dX5_deep_18 rfl (lv_at hl 2 rfl) ?_
    refine lv_iload_n hx hb dX5_deep_19 rfl (lv_at hl 0 rfl) ?_
    have hPc := hP
    have hKc := hK
    refine vp_callSi (W.runV (As := [.int p0, .int y_4]) (rest := []) ⟨hx, hb, hml, hown, hts⟩ (c_X5_deep_6 l dC dI h0 g_row g_many g_loss g_less g_voteValue g_voteNumber g_allValue g_allNumber g_nodeL g_nodeR g_part g_wasMany g_wasLoss g_wasValue g_wasNumber g_path g_heavyValue g_heavyTimes g_fewest g_which g_met m_n m_slots m_thrown m_allMany m_nodes m_partMany m_pathMany m_heavyMany m_mostMet p0 y_4 b0 (by omega) (by omega) (by omega)) (cwV 2 hts gX5_deep_X5_deep rfl rfl rfl (by decide +kernel) ⟨Nat.le_of_ble_eq_true rfl, Nat.le_of_ble_eq_true rfl⟩) ⟨fun a U g mk q => by obtain ⟨q0, qP, qK⟩ := q; exact ⟨q0, qP, va_K.moved (u := U) (U := U.calling g mk a) (Vm.Alike.refl U.vm) qK⟩, va_recv hKc hPc (ci := 5) (q0 := 0) rfl rfl, fun U hU hW => ⟨rfl, by rw [hU]; exact hPc, va_K.moved hW.alike hKc⟩⟩ rfl rfl hl.1 rfl (lv_room (Nat.le_of_ble_eq_true rfl)) dX5_deep_20 ⟨Nat.le_of_ble_eq_true rfl, Nat.le_of_ble_eq_true rfl⟩) (fun r_5 w_5 => ?_)
    have w_5 : 0 ≤ r_5.toInt ∧ r_5.toInt ≤ 7 := w_5
    refine lv_istore (lv' := [(4, .int r_5), (3, .int y_4), (0, .ref h0), (1, .int p0), (2, .int p1)]) hx hb dX5_deep_23 hl (by decide) rfl (fun ls hl => ?_)
    refine lv_aload_n hx hb dX5_deep_25 rfl (lv_at hl 2 rfl) ?_
    refine lv_iload_n hx hb dX5_deep_26 rfl (lv_at hl 1 rfl) ?_
    refine lv_iload_n hx hb dX5_deep_27 rfl (lv_at hl 4 rfl) ?_
    have hPc := hP
    have hKc := hK
    refine vp_callSi (W.runV (As := [.int y_4, .int p1]) (rest := []) ⟨hx, hb, hml, hown, hts⟩ (c_X5_deep_6 l dC dI h0 g_row g_many g_loss g_less g_voteValue g_voteNumber g_allValue g_allNumber g_nodeL g_nodeR g_part g_wasMany g_wasLoss g_wasValue g_wasNumber g_path g_heavyValue g_heavyTimes g_fewest g_which g_met m_n m_slots m_thrown m_allMany m_nodes m_partMany m_pathMany m_heavyMany m_mostMet y_4 p1 (by omega) (by omega) b2 (by omega)) (cwV 2 hts gX5_deep_X5_deep rfl rfl rfl (by decide +kernel) ⟨Nat.le_of_ble_eq_true rfl, Nat.le_of_ble_eq_true rfl⟩) ⟨fun a U g mk q => by obtain ⟨q0, qP, qK⟩ := q; exact ⟨q0, qP, va_K.moved (u := U) (U := U.calling g mk a) (Vm.Alike.refl U.vm) qK⟩, va_recv hKc hPc (ci := 5) (q0 := 0) rfl rfl, fun U hU hW => ⟨rfl, by rw [hU]; exact hPc, va_K.moved hW.alike hKc⟩⟩ rfl rfl hl.1 rfl (lv_room (Nat.le_of_ble_eq_true rfl)) dX5_deep_28 ⟨Nat.le_of_ble_eq_true rfl, Nat.le_of_ble_eq_true rfl⟩) (fun r_6 w_6 => ?_)
    have w_6 : 0 ≤ r_6.toInt ∧ r_6.toInt ≤ 7 := w_6
    refine lv_istore (lv' := [(5, .int r_6), (4, .int r_5), (3, .int y_4), (0, .ref h0), (1, .int p0), (2, .int p1)]) hx hb dX5_deep_31 hl (by decide) rfl (fun ls hl => ?_)
    refine lv_iconst (v := 1) hx hb dX5_deep_33 (by decide) ?_
    refine lv_iload hx hb dX5_deep_34 (lv_at hl 1 rfl) ?_
    refine lv_iload hx hb dX5_deep_36 (lv_at hl 0 rfl) ?_
    refine lv_icmp_le (tgt := 46) hx hb dX5_deep_38 (by decide) (fun c_7 => ?_) (fun c_7 => ?_)
    · have i_7 : r_5.toInt ≤ r_6.toInt := kc_le c_7
      refine lv_iload hx hb dX5_deep_46 (lv_at hl 0 rfl) ?_
      refine lv_iadd hx hb dX5_deep_48 ?_
      refine lv_topi (fun y_8 ey_8 => ?_)
      have i_8 : y_8.toInt = 1 + r_6.toInt := ki_add ey_8 rfl rfl (om_295 w_6.1) (om_302 w_6.2)
      exact W.iret (v := y_8) hx hb hr (fun t ht hW => ⟨y_8, rfl, (by (try dsimp only); omega), ht⟩) (fun q hq => by cases hq) dX5_deep_49
    · have i_7 : r_6.toInt < r_5.toInt := kc_nle c_7
      refine lv_iload hx hb dX5_deep_41 (lv_at hl 1 rfl) ?_
      refine lv_goto (tgt := 48) hx hb dX5_deep_43 (by decide) ?_
      refine lv_iadd hx hb dX5_deep_48 ?_
      refine lv_topi (fun y_9 ey_9 => ?_)
      have i_9 : y_9.toInt = 1 + r_5.toInt := ki_add ey_9 rfl rfl (om_295 w_5.1) (om_302 w_5.2)
      exact W.iret (v := y_9) hx hb hr (fun t ht hW => ⟨y_9, rfl, (by (try dsimp only); omega), ht⟩) (fun q hq => by cases hq) dX5_deep_49
  · have i_2 : y_1.toInt < 2 := kc_nle c_2
    refine lv_iload_n hx hb dX5_deep_7 rfl (lv_at hl 2 rfl) ?_
    refine lv_iload_n hx hb dX5_deep_8 rfl (lv_at hl 1 rfl) ?_
    refine lv_isub hx hb dX5_deep_9 ?_
    refine lv_topi (fun y_10 ey_10 => ?_)
    have i_10 : y_10.toInt = p1.toInt - p0.toInt := ki_sub ey_10 rfl rfl (om_124 b1) (om_240 b3)
    exact W.iret (v := y_10) hx hb hr (fun t ht hW => ⟨y_10, rfl, (by (try dsimp only); omega), ht⟩) (fun q hq => by cases hq) dX5_deep_10

set_option maxHeartbeats 4000000 in
set_option maxRecDepth 100000 in
theorem c_X5_deep_8 (l : Launch) (dC : Nat → ClassId) (dI : Nat → Nat → Nat) (h0 : Nat) (g_row : Nat) (g_many : Nat) (g_loss : Nat) (g_less : Nat) (g_voteValue : Nat) (g_voteNumber : Nat) (g_allValue : Nat) (g_allNumber : Nat) (g_nodeL : Nat) (g_nodeR : Nat) (g_part : Nat) (g_wasMany : Nat) (g_wasLoss : Nat) (g_wasValue : Nat) (g_wasNumber : Nat) (g_path : Nat) (g_heavyValue : Nat) (g_heavyTimes : Nat) (g_fewest : Nat) (g_which : Nat) (g_met : Nat) (m_n : Int32) (m_slots : Int32) (m_thrown : Int32) (m_allMany : Int32) (m_nodes : Int32) (m_partMany : Int32) (m_pathMany : Int32) (m_heavyMany : Int32) (m_mostMet : Int32) (p0 : Int32) (p1 : Int32) (b0 : 0 ≤ p0.toInt) (b1 : p0.toInt ≤ p1.toInt) (b2 : p1.toInt ≤ 160) (b3 : p1.toInt - p0.toInt ≤ 256) : Met l yX5_deep wsX5_deep ({ frames := 8, cells := 0, slots := 0, locals := 360 }) (va_Pc [.ref h0, .int p0, .int p1] (fun U => va_P (dC, dI) vwCl [kx_5 h0 g_row m_n m_slots m_thrown g_many g_loss g_less g_voteValue g_voteNumber g_allValue g_allNumber m_allMany g_nodeL g_nodeR m_nodes g_part m_partMany g_wasMany g_wasLoss g_wasValue g_wasNumber g_path m_pathMany g_heavyValue g_heavyTimes m_heavyMany g_fewest g_which g_met m_mostMet] U.heap ∧ va_K (dC, dI) vwCl [] U)) (vp_Si (fun r : Int32 => 0 ≤ r.toInt ∧ r.toInt ≤ 9)) 0 0 (fun _ => False) := by
  refine Met.ofW (cc := cX5_deep) (maxL := 6) (ret := (some .int)) (by decide) rfl ?_
  intro p e s m args below meth c s₁ B hml hv
  obtain ⟨rfl, hP, hK⟩ := hv
  have hx := B.exec
  have hb := B.bytes
  have hr := B.returns
  have hts := atoms_spec (ws := wsX5_deep) B.pre
  have hown : s.vm.findClass RX5 = some m.cls := findClass_of_methodNamed B.named
  have hlocks := B.notSynchronized
  have hP : va_P (dC, dI) vwCl [kx_5 h0 g_row m_n m_slots m_thrown g_many g_loss g_less g_voteValue g_voteNumber g_allValue g_allNumber m_allMany g_nodeL g_nodeR m_nodes g_part m_partMany g_wasMany g_wasLoss g_wasValue g_wasNumber g_path m_pathMany g_heavyValue g_heavyTimes m_heavyMany g_fewest g_which g_met m_mostMet] s.heap := hP
  have hl := lv_entry ([.ref h0, .int p0, .int p1]) (n := 6) (Nat.le_of_ble_eq_true rfl)
  rw [lg_entry_eq]
  generalize (lg_sl ([.ref h0, .int p0, .int p1]) ++ List.replicate (6 - (lg_sl ([.ref h0, .int p0, .int p1])).length) Slot.unset).toArray = ls at hl ⊢
  have hl : lv_has ls 6 [(0, .ref h0), (1, .int p0), (2, .int p1)] := hl
  refine lv_iload_n hx hb dX5_deep_0 rfl (lv_at hl 2 rfl) ?_
  refine lv_iload_n hx hb dX5_deep_1 rfl (lv_at hl 1 rfl) ?_
  refine lv_isub hx hb dX5_deep_2 ?_
  refine lv_topi (fun y_1 ey_1 => ?_)
  have i_1 : y_1.toInt = p1.toInt - p0.toInt := ki_sub ey_1 rfl rfl (om_124 b1) (om_241 b3)
  refine lv_iconst (v := 2) hx hb dX5_deep_3 (by decide) ?_
  refine lv_icmp_ge (tgt := 11) hx hb dX5_deep_4 (by decide) (fun c_2 => ?_) (fun c_2 => ?_)
  · have i_2 : 2 ≤ y_1.toInt := kc_le c_2
    refine lv_iload_n hx hb dX5_deep_11 rfl (lv_at hl 1 rfl) ?_
    refine lv_iload_n hx hb dX5_deep_12 rfl (lv_at hl 2 rfl) ?_
    refine lv_iadd hx hb dX5_deep_13 ?_
    refine lv_topi (fun y_3 ey_3 => ?_)
    have i_3 : y_3.toInt = p0.toInt + p1.toInt := ki_add ey_3 rfl rfl (om_293 b0 b1) (om_294 b1 b2)
    refine lv_iconst (v := 2) hx hb dX5_deep_14 (by decide) ?_
    refine lv_idiv hx hb dX5_deep_15 (by decide) ?_
    refine lv_topi (fun y_4 ey_4 => ?_)
    have i_4 : y_4.toInt = y_3.toInt / 2 := ki_div2 ey_4 rfl (by omega)
    refine lv_istore_n (lv' := [(3, .int y_4), (0, .ref h0), (1, .int p0), (2, .int p1)]) hx hb dX5_deep_16 rfl hl (by decide) rfl (fun ls hl => ?_)
    refine lv_aload_n hx hb dX5_deep_17 rfl (lv_at hl 1 rfl) ?_
    refine lv_iload_n hx hb dX5_deep_18 rfl (lv_at hl 2 rfl) ?_
    refine lv_iload_n hx hb dX5_deep_19 rfl (lv_at hl 0 rfl) ?_
    have hPc := hP
    have hKc := hK
    refine vp_callSi (W.runV (As := [.int p0, .int y_4]) (rest := []) ⟨hx, hb, hml, hown, hts⟩ (c_X5_deep_7 l dC dI h0 g_row g_many g_loss g_less g_voteValue g_voteNumber g_allValue g_allNumber g_nodeL g_nodeR g_part g_wasMany g_wasLoss g_wasValue g_wasNumber g_path g_heavyValue g_heavyTimes g_fewest g_which g_met m_n m_slots m_thrown m_allMany m_nodes m_partMany m_pathMany m_heavyMany m_mostMet p0 y_4 b0 (by omega) (by omega) (by omega)) (cwV 2 hts gX5_deep_X5_deep rfl rfl rfl (by decide +kernel) ⟨Nat.le_of_ble_eq_true rfl, Nat.le_of_ble_eq_true rfl⟩) ⟨fun a U g mk q => by obtain ⟨q0, qP, qK⟩ := q; exact ⟨q0, qP, va_K.moved (u := U) (U := U.calling g mk a) (Vm.Alike.refl U.vm) qK⟩, va_recv hKc hPc (ci := 5) (q0 := 0) rfl rfl, fun U hU hW => ⟨rfl, by rw [hU]; exact hPc, va_K.moved hW.alike hKc⟩⟩ rfl rfl hl.1 rfl (lv_room (Nat.le_of_ble_eq_true rfl)) dX5_deep_20 ⟨Nat.le_of_ble_eq_true rfl, Nat.le_of_ble_eq_true rfl⟩) (fun r_5 w_5 => ?_)
    have w_5 : 0 ≤ r_5.toInt ∧ r_5.toInt ≤ 8 := w_5
    refine lv_istore (lv' := [(4, .int r_5), (3, .int y_4), (0, .ref h0), (1, .int p0), (2, .int p1)]) hx hb dX5_deep_23 hl (by decide) rfl (fun ls hl => ?_)
    refine lv_aload_n hx hb dX5_deep_25 rfl (lv_at hl 2 rfl) ?_
    refine lv_iload_n hx hb dX5_deep_26 rfl (lv_at hl 1 rfl) ?_
    refine lv_iload_n hx hb dX5_deep_27 rfl (lv_at hl 4 rfl) ?_
    have hPc := hP
    have hKc := hK
    refine vp_callSi (W.runV (As := [.int y_4, .int p1]) (rest := []) ⟨hx, hb, hml, hown, hts⟩ (c_X5_deep_7 l dC dI h0 g_row g_many g_loss g_less g_voteValue g_voteNumber g_allValue g_allNumber g_nodeL g_nodeR g_part g_wasMany g_wasLoss g_wasValue g_wasNumber g_path g_heavyValue g_heavyTimes g_fewest g_which g_met m_n m_slots m_thrown m_allMany m_nodes m_partMany m_pathMany m_heavyMany m_mostMet y_4 p1 (by omega) (by omega) b2 (by omega)) (cwV 2 hts gX5_deep_X5_deep rfl rfl rfl (by decide +kernel) ⟨Nat.le_of_ble_eq_true rfl, Nat.le_of_ble_eq_true rfl⟩) ⟨fun a U g mk q => by obtain ⟨q0, qP, qK⟩ := q; exact ⟨q0, qP, va_K.moved (u := U) (U := U.calling g mk a) (Vm.Alike.refl U.vm) qK⟩, va_recv hKc hPc (ci := 5) (q0 := 0) rfl rfl, fun U hU hW => ⟨rfl, by rw [hU]; exact hPc, va_K.moved hW.alike hKc⟩⟩ rfl rfl hl.1 rfl (lv_room (Nat.le_of_ble_eq_true rfl)) dX5_deep_28 ⟨Nat.le_of_ble_eq_true rfl, Nat.le_of_ble_eq_true rfl⟩) (fun r_6 w_6 => ?_)
    have w_6 : 0 ≤ r_6.toInt ∧ r_6.toInt ≤ 8 := w_6
    refine lv_istore (lv' := [(5, .int r_6), (4, .int r_5), (3, .int y_4), (0, .ref h0), (1, .int p0), (2, .int p1)]) hx hb dX5_deep_31 hl (by decide) rfl (fun ls hl => ?_)
    refine lv_iconst (v := 1) hx hb dX5_deep_33 (by decide) ?_
    refine lv_iload hx hb dX5_deep_34 (lv_at hl 1 rfl) ?_
    refine lv_iload hx hb dX5_deep_36 (lv_at hl 0 rfl) ?_
    refine lv_icmp_le (tgt := 46) hx hb dX5_deep_38 (by decide) (fun c_7 => ?_) (fun c_7 => ?_)
    · have i_7 : r_5.toInt ≤ r_6.toInt := kc_le c_7
      refine lv_iload hx hb dX5_deep_46 (lv_at hl 0 rfl) ?_
      refine lv_iadd hx hb dX5_deep_48 ?_
      refine lv_topi (fun y_8 ey_8 => ?_)
      have i_8 : y_8.toInt = 1 + r_6.toInt := ki_add ey_8 rfl rfl (om_295 w_6.1) (om_303 w_6.2)
      exact W.iret (v := y_8) hx hb hr (fun t ht hW => ⟨y_8, rfl, (by (try dsimp only); omega), ht⟩) (fun q hq => by cases hq) dX5_deep_49
    · have i_7 : r_6.toInt < r_5.toInt := kc_nle c_7
      refine lv_iload hx hb dX5_deep_41 (lv_at hl 1 rfl) ?_
      refine lv_goto (tgt := 48) hx hb dX5_deep_43 (by decide) ?_
      refine lv_iadd hx hb dX5_deep_48 ?_
      refine lv_topi (fun y_9 ey_9 => ?_)
      have i_9 : y_9.toInt = 1 + r_5.toInt := ki_add ey_9 rfl rfl (om_295 w_5.1) (om_303 w_5.2)
      exact W.iret (v := y_9) hx hb hr (fun t ht hW => ⟨y_9, rfl, (by (try dsimp only); omega), ht⟩) (fun q hq => by cases hq) dX5_deep_49
  · have i_2 : y_1.toInt < 2 := kc_nle c_2
    refine lv_iload_n hx hb dX5_deep_7 rfl (lv_at hl 2 rfl) ?_
    refine lv_iload_n hx hb dX5_deep_8 rfl (lv_at hl 1 rfl) ?_
    refine lv_isub hx hb dX5_deep_9 ?_
    refine lv_topi (fun y_10 ey_10 => ?_)
    have i_10 : y_10.toInt = p1.toInt - p0.toInt := ki_sub ey_10 rfl rfl (om_124 b1) (om_241 b3)
    exact W.iret (v := y_10) hx hb hr (fun t ht hW => ⟨y_10, rfl, (by (try dsimp only); omega), ht⟩) (fun q hq => by cases hq) dX5_deep_10

set_option maxHeartbeats 4000000 in
set_option maxRecDepth 100000 in
theorem c_X5_nodesWithMajority (l : Launch) (dC : Nat → ClassId) (dI : Nat → Nat → Nat) (h0 : Nat) (g_row : Nat) (g_many : Nat) (g_loss : Nat) (g_less : Nat) (g_voteValue : Nat) (g_voteNumber : Nat) (g_allValue : Nat) (g_allNumber : Nat) (g_nodeL : Nat) (g_nodeR : Nat) (g_part : Nat) (g_wasMany : Nat) (g_wasLoss : Nat) (g_wasValue : Nat) (g_wasNumber : Nat) (g_path : Nat) (g_heavyValue : Nat) (g_heavyTimes : Nat) (g_fewest : Nat) (g_which : Nat) (g_met : Nat) (m_n : Int32) (m_slots : Int32) (m_thrown : Int32) (m_allMany : Int32) (m_nodes : Int32) (m_partMany : Int32) (m_pathMany : Int32) (m_heavyMany : Int32) (m_mostMet : Int32) (cyI : ClassId) (f : Nat → Int32) (nl : Nat → Int32) (nr : Nat → Int32) (b0 : 0 ≤ m_nodes.toInt) (b1 : m_nodes.toInt ≤ 319) (ok : nodesOk nl nr m_nodes.toInt) : Met l yX5_nodesWithMajority wsX5_nodesWithMajority ({ frames := 2, cells := 0, slots := 0, locals := 90 }) (va_Pc [.ref h0] (fun U => va_P (dC, dI) vwCl [kx_5 h0 g_row m_n m_slots m_thrown g_many g_loss g_less g_voteValue g_voteNumber g_allValue g_allNumber m_allMany g_nodeL g_nodeR m_nodes g_part m_partMany g_wasMany g_wasLoss g_wasValue g_wasNumber g_path m_pathMany g_heavyValue g_heavyTimes m_heavyMany g_fewest g_which g_met m_mostMet, kx_a g_row cyI 160 f, kx_a g_nodeL cyI 320 nl, kx_a g_nodeR cyI 320 nr] U.heap ∧ va_K (dC, dI) vwCl [(cyI, .int)] U)) (vp_Si (fun r : Int32 => True)) 0 0 (fun _ => False) := by
  refine Met.ofW (cc := cX5_nodesWithMajority) (maxL := 3) (ret := (some .int)) (by decide) rfl ?_
  intro p e s m args below meth c s₁ B hml hv
  obtain ⟨rfl, hP, hK⟩ := hv
  have hx := B.exec
  have hb := B.bytes
  have hr := B.returns
  have hts := atoms_spec (ws := wsX5_nodesWithMajority) B.pre
  have hown : s.vm.findClass RX5 = some m.cls := findClass_of_methodNamed B.named
  have hlocks := B.notSynchronized
  have hP : va_P (dC, dI) vwCl [kx_5 h0 g_row m_n m_slots m_thrown g_many g_loss g_less g_voteValue g_voteNumber g_allValue g_allNumber m_allMany g_nodeL g_nodeR m_nodes g_part m_partMany g_wasMany g_wasLoss g_wasValue g_wasNumber g_path m_pathMany g_heavyValue g_heavyTimes m_heavyMany g_fewest g_which g_met m_mostMet, kx_a g_row cyI 160 f, kx_a g_nodeL cyI 320 nl, kx_a g_nodeR cyI 320 nr] s.heap := hP
  have hl := lv_entry ([.ref h0]) (n := 3) (Nat.le_of_ble_eq_true rfl)
  rw [lg_entry_eq]
  generalize (lg_sl ([.ref h0]) ++ List.replicate (3 - (lg_sl ([.ref h0])).length) Slot.unset).toArray = ls at hl ⊢
  have hl : lv_has ls 3 [(0, .ref h0)] := hl
  have hf_101 := hts (.fieldLink RX5 101 "MajorityIndexModel" "nodes" "I") (List.mem_of_getElem? (i := 1) rfl)
  have hi_5 : ∀ w ∈ u_ws RX5 TX5 30, w ∈ wsX5_nodesWithMajority := fun w h => List.mem_cons_of_mem _ (List.mem_append_right _ h)
  have hf_38 := hts (.fieldLink RX5 38 "MajorityIndexModel" "nodeL" "[I") (List.mem_of_getElem? (i := 2) rfl)
  have hf_41 := hts (.fieldLink RX5 41 "MajorityIndexModel" "nodeR" "[I") (List.mem_of_getElem? (i := 3) rfl)
  have hk_148 := hts (.constant RX5 148 (-40000)) (List.mem_of_getElem? (i := 4) rfl)
  refine lv_iconst (v := 0) hx hb dX5_nodesWithMajority_0 (by decide) ?_
  refine lv_istore_n (lv' := [(1, .int 0), (0, .ref h0)]) hx hb dX5_nodesWithMajority_1 rfl hl (by decide) rfl (fun ls hl => ?_)
  refine lv_iconst (v := 0) hx hb dX5_nodesWithMajority_2 (by decide) ?_
  refine lv_istore_n (lv' := [(2, .int 0), (1, .int 0), (0, .ref h0)]) hx hb dX5_nodesWithMajority_3 rfl hl (by decide) rfl (fun ls hl => ?_)
  have LP1 : ∀ (n : Nat) (i : Int32) (sm : Int32), (0 ≤ i.toInt) → (m_nodes.toInt - i.toInt).toNat < n → ∀ (ls : Array Slot), lv_has ls 3 [(2, .int i), (1, .int sm), (0, .ref h0)] → W p l e (headSpec wsX5_nodesWithMajority ({ frames := 2, cells := 0, slots := 0, locals := 90 })).room s m ([.ref h0] : List Value).toArray below meth c s.heap [] 0 0 (MQ below (vp_Si (fun r : Int32 => True)) ([.ref h0] : List Value).toArray s 0 0 (fun _ => False)) (F0 m 4 ls []) := by
    intro n
    induction n with
    | zero => intro i sm LP1_h0 hn; exact absurd hn (Nat.not_lt_zero _)
    | succ n ih1 =>
      intro i sm LP1_h0 hn1 ls hl
      refine lv_iload_n hx hb dX5_nodesWithMajority_4 rfl (lv_at hl 0 rfl) ?_
      refine lv_aload_n hx hb dX5_nodesWithMajority_5 rfl (lv_at hl 2 rfl) ?_
      refine va_get (D := (dC, dI)) (ci := 5) (v := .int m_nodes) (C := RX5) (T := TX5) (N := 30) hx hb hts hi_5 hown hK hP 0 rfl rfl 14 (by decide) hf_101 (fun _ h9 => h9) rfl dX5_nodesWithMajority_6 ?_
      refine lv_icmp_ge (tgt := 42) hx hb dX5_nodesWithMajority_9 (by decide) (fun c_1 => ?_) (fun c_1 => ?_)
      · have i_1 : m_nodes.toInt ≤ i.toInt := kc_le c_1
        refine lv_iload_n hx hb dX5_nodesWithMajority_42 rfl (lv_at hl 1 rfl) ?_
        exact W.iret (v := sm) hx hb hr (fun t ht hW => ⟨sm, rfl, trivial, ht⟩) (fun q hq => by cases hq) dX5_nodesWithMajority_43
      · have i_1 : i.toInt < m_nodes.toInt := kc_nle c_1
        refine lv_aload_n hx hb dX5_nodesWithMajority_12 rfl (lv_at hl 2 rfl) ?_
        refine lv_aload_n hx hb dX5_nodesWithMajority_13 rfl (lv_at hl 2 rfl) ?_
        refine va_get (D := (dC, dI)) (ci := 5) (v := .ref g_nodeL) (C := RX5) (T := TX5) (N := 30) hx hb hts hi_5 hown hK hP 0 rfl rfl 12 (by decide) hf_38 (fun _ h9 => h9) rfl dX5_nodesWithMajority_14 ?_
        refine lv_iload_n hx hb dX5_nodesWithMajority_17 rfl (lv_at hl 0 rfl) ?_
        refine va_iald hx hb hK hP 2 0 rfl rfl (ki_in (om_8 LP1_h0) (om_286 b1 i_1)) dX5_nodesWithMajority_18 ?_
        refine lv_topi (fun y_2 ey_2 => ?_)
        have j_2 : y_2.toInt = (nl i.toNatClampNeg).toInt := congrArg Int32.toInt ey_2
        have n_3 : (i.toNatClampNeg : Int) = i.toInt := ki_nat _ rfl (om_8 LP1_h0)
        have i_4 := ok i.toNatClampNeg (by omega)
        refine lv_aload_n hx hb dX5_nodesWithMajority_19 rfl (lv_at hl 2 rfl) ?_
        refine va_get (D := (dC, dI)) (ci := 5) (v := .ref g_nodeR) (C := RX5) (T := TX5) (N := 30) hx hb hts hi_5 hown hK hP 0 rfl rfl 13 (by decide) hf_41 (fun _ h9 => h9) rfl dX5_nodesWithMajority_20 ?_
        refine lv_iload_n hx hb dX5_nodesWithMajority_23 rfl (lv_at hl 0 rfl) ?_
        refine va_iald hx hb hK hP 3 0 rfl rfl (ki_in (om_8 LP1_h0) (om_286 b1 i_1)) dX5_nodesWithMajority_24 ?_
        refine lv_topi (fun y_5 ey_5 => ?_)
        have j_5 : y_5.toInt = (nr i.toNatClampNeg).toInt := congrArg Int32.toInt ey_5
        have n_6 : (i.toNatClampNeg : Int) = i.toInt := ki_nat _ rfl (om_8 LP1_h0)
        have i_7 := ok i.toNatClampNeg (by omega)
        have hPc := hP.sub (ws' := [kx_5 h0 g_row m_n m_slots m_thrown g_many g_loss g_less g_voteValue g_voteNumber g_allValue g_allNumber m_allMany g_nodeL g_nodeR m_nodes g_part m_partMany g_wasMany g_wasLoss g_wasValue g_wasNumber g_path m_pathMany g_heavyValue g_heavyTimes m_heavyMany g_fewest g_which g_met m_mostMet, kx_a g_row cyI 160 f]) [0, 1] rfl
        have hKc := hK
        refine vp_callSi (W.runV (As := [.int y_2, .int y_5]) (rest := []) ⟨hx, hb, hml, hown, hts⟩ (c_X5_majorityOf_x l dC dI h0 g_row g_many g_loss g_less g_voteValue g_voteNumber g_allValue g_allNumber g_nodeL g_nodeR g_part g_wasMany g_wasLoss g_wasValue g_wasNumber g_path g_heavyValue g_heavyTimes g_fewest g_which g_met m_n m_slots m_thrown m_allMany m_nodes m_partMany m_pathMany m_heavyMany m_mostMet cyI f y_2 y_5 (by omega) (by omega) (by omega)) (cwV 2 hts gX5_nodesWithMajority_X5_majorityOf rfl rfl rfl (by decide +kernel) ⟨Nat.le_of_ble_eq_true rfl, Nat.le_of_ble_eq_true rfl⟩) ⟨fun a U g mk q => by obtain ⟨q0, qP, qK⟩ := q; exact ⟨q0, qP, va_K.moved (u := U) (U := U.calling g mk a) (Vm.Alike.refl U.vm) qK⟩, va_recv hKc hPc (ci := 5) (q0 := 0) rfl rfl, fun U hU hW => ⟨rfl, by rw [hU]; exact hPc, va_K.moved hW.alike hKc⟩⟩ rfl rfl hl.1 rfl (lv_room (Nat.le_of_ble_eq_true rfl)) dX5_nodesWithMajority_25 ⟨Nat.le_of_ble_eq_true rfl, Nat.le_of_ble_eq_true rfl⟩) (fun r_8 w_8 => ?_)
        have w_8 : mj_maj f y_2.toNatClampNeg y_5.toNatClampNeg r_8 := w_8
        refine lv_ldc (v := (-40000)) hx hb hown hk_148 dX5_nodesWithMajority_28 ?_
        refine lv_icmp_eq (tgt := 36) hx hb dX5_nodesWithMajority_30 (by decide) (fun c_9 => ?_) (fun c_9 => ?_)
        · have i_9 : r_8.toInt = (-40000) := kc_eq c_9
          obtain ⟨x_10, ex_10⟩ : ∃ y : Int32, y = i + 1 := ⟨_, rfl⟩
          have i_10 : x_10.toInt = i.toInt + 1 := ki_add ex_10 rfl rfl (om_10 LP1_h0) (om_102 b1 i_1)
          refine lv_iinc (v := x_10) (lv' := [(2, .int x_10), (1, .int sm), (0, .ref h0)]) hx hb dX5_nodesWithMajority_36 hl (k := 0) rfl (by rw [ex_10]; rfl) (by decide) rfl (fun ls hl => ?_)
          refine lv_goto (tgt := 4) hx hb dX5_nodesWithMajority_39 (by decide) ?_
          exact ih1 x_10 sm (om_31 LP1_h0 i_10) (om_mu hn1 (om_5 i_10) (om_6 i_1)) ls (lv_sub hl [0, 1, 2] rfl)
        · have i_9 : ¬ r_8.toInt = (-40000) := kc_ne c_9
          obtain ⟨x_11, ex_11⟩ : ∃ y : Int32, y = sm + 1 := ⟨_, rfl⟩
          refine lv_iinc (v := x_11) (lv' := [(1, .int x_11), (2, .int i), (0, .ref h0)]) hx hb dX5_nodesWithMajority_33 hl (k := 1) rfl (by rw [ex_11]; rfl) (by decide) rfl (fun ls hl => ?_)
          obtain ⟨x_12, ex_12⟩ : ∃ y : Int32, y = i + 1 := ⟨_, rfl⟩
          have i_12 : x_12.toInt = i.toInt + 1 := ki_add ex_12 rfl rfl (om_10 LP1_h0) (om_102 b1 i_1)
          refine lv_iinc (v := x_12) (lv' := [(2, .int x_12), (1, .int x_11), (0, .ref h0)]) hx hb dX5_nodesWithMajority_36 hl (k := 1) rfl (by rw [ex_12]; rfl) (by decide) rfl (fun ls hl => ?_)
          refine lv_goto (tgt := 4) hx hb dX5_nodesWithMajority_39 (by decide) ?_
          exact ih1 x_12 x_11 (om_31 LP1_h0 i_12) (om_mu hn1 (om_5 i_12) (om_6 i_1)) ls (lv_sub hl [0, 1, 2] rfl)
  have k_13 : (0 : Int32).toInt = 0 := rfl
  have k_14 : (0 : Int32).toInt = 0 := rfl
  exact LP1 ((m_nodes.toInt - 0 : Int).toNat + 1) 0 0 om_32 (Nat.lt_succ_self _) ls (lv_sub hl [0, 1, 2] rfl)

set_option maxHeartbeats 4000000 in
set_option maxRecDepth 100000 in
theorem c_X5_told (l : Launch) (dC : Nat → ClassId) (dI : Nat → Nat → Nat) (h0 : Nat) (g_row : Nat) (g_many : Nat) (g_loss : Nat) (g_less : Nat) (g_voteValue : Nat) (g_voteNumber : Nat) (g_allValue : Nat) (g_allNumber : Nat) (g_nodeL : Nat) (g_nodeR : Nat) (g_part : Nat) (g_wasMany : Nat) (g_wasLoss : Nat) (g_wasValue : Nat) (g_wasNumber : Nat) (g_path : Nat) (g_heavyValue : Nat) (g_heavyTimes : Nat) (g_fewest : Nat) (g_which : Nat) (g_met : Nat) (m_n : Int32) (m_slots : Int32) (m_thrown : Int32) (m_allMany : Int32) (m_nodes : Int32) (m_partMany : Int32) (m_pathMany : Int32) (m_heavyMany : Int32) (m_mostMet : Int32) (cyI : ClassId) (fm : Nat → Int32) (fl : Nat → Int32) (fe : Nat → Int32) (vv : Nat → Int32) (vn : Nat → Int32) (f : Nat → Int32) (av : Nat → Int32) (an : Nat → Int32) (nl : Nat → Int32) (nr : Nat → Int32) (p0 : Int32) (sz : Nat) (a0 : 0 ≤ m_n.toInt) (a1 : m_n.toInt ≤ 160) (sl0 : 1 ≤ m_slots.toInt) (sl1 : m_slots.toInt ≤ 6) (s4 : six4 fm) : Met l yX5_told wsX5_told ({ frames := 12, cells := 0, slots := 0, locals := 540 }) (va_Pc [.ref h0, .int p0] (fun U => U.heap.size = sz ∧ va_P (dC, dI) vwCl [kx_5 h0 g_row m_n m_slots m_thrown g_many g_loss g_less g_voteValue g_voteNumber g_allValue g_allNumber m_allMany g_nodeL g_nodeR m_nodes g_part m_partMany g_wasMany g_wasLoss g_wasValue g_wasNumber g_path m_pathMany g_heavyValue g_heavyTimes m_heavyMany g_fewest g_which g_met m_mostMet, kx_a g_row cyI 160 f, kx_a g_many cyI 324 fm, kx_a g_loss cyI 324 fl, kx_a g_less cyI 324 fe, kx_a g_voteValue cyI 1944 vv, kx_a g_voteNumber cyI 1944 vn, kx_a g_allValue cyI 12 av, kx_a g_allNumber cyI 12 an, kx_a g_nodeL cyI 320 nl, kx_a g_nodeR cyI 320 nr] U.heap ∧ va_K (dC, dI) vwCl [(cyI, .int)] U ∧ va_D (fun _ => True) [kx_5 h0 g_row m_n m_slots m_thrown g_many g_loss g_less g_voteValue g_voteNumber g_allValue g_allNumber m_allMany g_nodeL g_nodeR m_nodes g_part m_partMany g_wasMany g_wasLoss g_wasValue g_wasNumber g_path m_pathMany g_heavyValue g_heavyTimes m_heavyMany g_fewest g_which g_met m_mostMet, kx_a g_row cyI 160 f, kx_a g_many cyI 324 fm, kx_a g_loss cyI 324 fl, kx_a g_less cyI 324 fe, kx_a g_voteValue cyI 1944 vv, kx_a g_voteNumber cyI 1944 vn, kx_a g_allValue cyI 12 av, kx_a g_allNumber cyI 12 an, kx_a g_nodeL cyI 320 nl, kx_a g_nodeR cyI 320 nr])) (va_Qi (fun (r : Int32) (u : Int32 × Int32 × (Nat → Int32) × (Nat → Int32) × (Nat → Int32) × (Nat → Int32) × (Nat → Int32) × (Nat → Int32) × (Nat → Int32) × (Nat → Int32) × (Nat → Int32)) => six4 u.2.2.1) (fun (u : Int32 × Int32 × (Nat → Int32) × (Nat → Int32) × (Nat → Int32) × (Nat → Int32) × (Nat → Int32) × (Nat → Int32) × (Nat → Int32) × (Nat → Int32) × (Nat → Int32)) (t : State) => va_P (dC, dI) vwCl [kx_5 h0 g_row m_n m_slots 0 g_many g_loss g_less g_voteValue g_voteNumber g_allValue g_allNumber u.2.1 g_nodeL g_nodeR u.1 g_part m_partMany g_wasMany g_wasLoss g_wasValue g_wasNumber g_path m_pathMany g_heavyValue g_heavyTimes m_heavyMany g_fewest g_which g_met m_mostMet, kx_a g_row cyI 160 f, kx_a g_many cyI 324 u.2.2.1, kx_a g_loss cyI 324 u.2.2.2.1, kx_a g_less cyI 324 u.2.2.2.2.1, kx_a g_voteValue cyI 1944 u.2.2.2.2.2.1, kx_a g_voteNumber cyI 1944 u.2.2.2.2.2.2.1, kx_a g_allValue cyI 12 u.2.2.2.2.2.2.2.1, kx_a g_allNumber cyI 12 u.2.2.2.2.2.2.2.2.1, kx_a g_nodeL cyI 320 u.2.2.2.2.2.2.2.2.2.1, kx_a g_nodeR cyI 320 u.2.2.2.2.2.2.2.2.2.2] t.heap ∧ va_K (dC, dI) vwCl [(cyI, .int)] t ∧ va_D (va_A [kx_5 h0 g_row m_n m_slots m_thrown g_many g_loss g_less g_voteValue g_voteNumber g_allValue g_allNumber m_allMany g_nodeL g_nodeR m_nodes g_part m_partMany g_wasMany g_wasLoss g_wasValue g_wasNumber g_path m_pathMany g_heavyValue g_heavyTimes m_heavyMany g_fewest g_which g_met m_mostMet, kx_a g_row cyI 160 f, kx_a g_many cyI 324 fm, kx_a g_loss cyI 324 fl, kx_a g_less cyI 324 fe, kx_a g_voteValue cyI 1944 vv, kx_a g_voteNumber cyI 1944 vn, kx_a g_allValue cyI 12 av, kx_a g_allNumber cyI 12 an, kx_a g_nodeL cyI 320 nl, kx_a g_nodeR cyI 320 nr] sz) [kx_5 h0 g_row m_n m_slots 0 g_many g_loss g_less g_voteValue g_voteNumber g_allValue g_allNumber u.2.1 g_nodeL g_nodeR u.1 g_part m_partMany g_wasMany g_wasLoss g_wasValue g_wasNumber g_path m_pathMany g_heavyValue g_heavyTimes m_heavyMany g_fewest g_which g_met m_mostMet, kx_a g_row cyI 160 f, kx_a g_many cyI 324 u.2.2.1, kx_a g_loss cyI 324 u.2.2.2.1, kx_a g_less cyI 324 u.2.2.2.2.1, kx_a g_voteValue cyI 1944 u.2.2.2.2.2.1, kx_a g_voteNumber cyI 1944 u.2.2.2.2.2.2.1, kx_a g_allValue cyI 12 u.2.2.2.2.2.2.2.1, kx_a g_allNumber cyI 12 u.2.2.2.2.2.2.2.2.1, kx_a g_nodeL cyI 320 u.2.2.2.2.2.2.2.2.2.1, kx_a g_nodeR cyI 320 u.2.2.2.2.2.2.2.2.2.2]) (va_A [kx_5 h0 g_row m_n m_slots m_thrown g_many g_loss g_less g_voteValue g_voteNumber g_allValue g_allNumber m_allMany g_nodeL g_nodeR m_nodes g_part m_partMany g_wasMany g_wasLoss g_wasValue g_wasNumber g_path m_pathMany g_heavyValue g_heavyTimes m_heavyMany g_fewest g_which g_met m_mostMet, kx_a g_row cyI 160 f, kx_a g_many cyI 324 fm, kx_a g_loss cyI 324 fl, kx_a g_less cyI 324 fe, kx_a g_voteValue cyI 1944 vv, kx_a g_voteNumber cyI 1944 vn, kx_a g_allValue cyI 12 av, kx_a g_allNumber cyI 12 an, kx_a g_nodeL cyI 320 nl, kx_a g_nodeR cyI 320 nr] sz)) 0 0 (va_A [kx_5 h0 g_row m_n m_slots m_thrown g_many g_loss g_less g_voteValue g_voteNumber g_allValue g_allNumber m_allMany g_nodeL g_nodeR m_nodes g_part m_partMany g_wasMany g_wasLoss g_wasValue g_wasNumber g_path m_pathMany g_heavyValue g_heavyTimes m_heavyMany g_fewest g_which g_met m_mostMet, kx_a g_row cyI 160 f, kx_a g_many cyI 324 fm, kx_a g_loss cyI 324 fl, kx_a g_less cyI 324 fe, kx_a g_voteValue cyI 1944 vv, kx_a g_voteNumber cyI 1944 vn, kx_a g_allValue cyI 12 av, kx_a g_allNumber cyI 12 an, kx_a g_nodeL cyI 320 nl, kx_a g_nodeR cyI 320 nr] sz) := by
  refine Met.ofW (cc := cX5_told) (maxL := 4) (ret := (some .int)) (by decide) rfl ?_
  intro p e s m args below meth c s₁ B hml hv
  obtain ⟨rfl, hsz, hP, hK, hD0⟩ := hv
  have hx := B.exec
  have hb := B.bytes
  have hr := B.returns
  have hts := atoms_spec (ws := wsX5_told) B.pre
  have hown : s.vm.findClass RX5 = some m.cls := findClass_of_methodNamed B.named
  have hlocks := B.notSynchronized
  subst hsz
  have hD := hD0.self (sz := s.heap.size)
  generalize hAe : va_A [kx_5 h0 g_row m_n m_slots m_thrown g_many g_loss g_less g_voteValue g_voteNumber g_allValue g_allNumber m_allMany g_nodeL g_nodeR m_nodes g_part m_partMany g_wasMany g_wasLoss g_wasValue g_wasNumber g_path m_pathMany g_heavyValue g_heavyTimes m_heavyMany g_fewest g_which g_met m_mostMet, kx_a g_row cyI 160 f, kx_a g_many cyI 324 fm, kx_a g_loss cyI 324 fl, kx_a g_less cyI 324 fe, kx_a g_voteValue cyI 1944 vv, kx_a g_voteNumber cyI 1944 vn, kx_a g_allValue cyI 12 av, kx_a g_allNumber cyI 12 an, kx_a g_nodeL cyI 320 nl, kx_a g_nodeR cyI 320 nr] s.heap.size = A at hD ⊢
  have hA : ∀ q : Nat, s.heap.size ≤ q → A q := fun q h => by rw [← hAe]; exact Or.inr h
  have hS : va_S A s.heap s.heap [] := va_S.rf
  have hP : va_P (dC, dI) vwCl [kx_5 h0 g_row m_n m_slots m_thrown g_many g_loss g_less g_voteValue g_voteNumber g_allValue g_allNumber m_allMany g_nodeL g_nodeR m_nodes g_part m_partMany g_wasMany g_wasLoss g_wasValue g_wasNumber g_path m_pathMany g_heavyValue g_heavyTimes m_heavyMany g_fewest g_which g_met m_mostMet, kx_a g_row cyI 160 f, kx_a g_many cyI 324 fm, kx_a g_loss cyI 324 fl, kx_a g_less cyI 324 fe, kx_a g_voteValue cyI 1944 vv, kx_a g_voteNumber cyI 1944 vn, kx_a g_allValue cyI 12 av, kx_a g_allNumber cyI 12 an, kx_a g_nodeL cyI 320 nl, kx_a g_nodeR cyI 320 nr] s.heap := hP
  have hl := lv_entry ([.ref h0, .int p0]) (n := 4) (Nat.le_of_ble_eq_true rfl)
  rw [lg_entry_eq]
  generalize (lg_sl ([.ref h0, .int p0]) ++ List.replicate (4 - (lg_sl ([.ref h0, .int p0])).length) Slot.unset).toArray = ls at hl ⊢
  have hl : lv_has ls 4 [(0, .ref h0), (1, .int p0)] := hl
  have hf_77 := hts (.fieldLink RX5 77 "MajorityIndexModel" "thrown" "I") (List.mem_of_getElem? (i := 1) rfl)
  have hi_5 : ∀ w ∈ u_ws RX5 TX5 30, w ∈ wsX5_told := fun w h => List.mem_cons_of_mem _ (List.mem_append_right _ h)
  have hf_13 := hts (.fieldLink RX5 13 "MajorityIndexModel" "slots" "I") (List.mem_of_getElem? (i := 2) rfl)
  have hf_84 := hts (.fieldLink RX5 84 "MajorityIndexModel" "n" "I") (List.mem_of_getElem? (i := 3) rfl)
  have hf_101 := hts (.fieldLink RX5 101 "MajorityIndexModel" "nodes" "I") (List.mem_of_getElem? (i := 4) rfl)
  have hf_20 := hts (.fieldLink RX5 20 "MajorityIndexModel" "loss" "[I") (List.mem_of_getElem? (i := 5) rfl)
  refine lv_aload_n hx hb dX5_told_0 rfl (lv_at hl 0 rfl) ?_
  refine lv_iconst (v := 0) hx hb dX5_told_1 (by decide) ?_
  refine va_put (D := (dC, dI)) (ci := 5) (v := .int 0) (ty := .int) (C := RX5) (T := TX5) (N := 30) hx hb hts hi_5 tyX5 tyX5_ok nmX5 hown hK hP hD hS 0 rfl rfl 3 (by decide) hf_77 (fun _ h9 => h9) rfl (by decide +kernel) rfl rfl (Nat.le_of_ble_eq_true rfl) dX5_told_2 (fun H locs hP hD hS => ?_)
  have hP : va_P (dC, dI) vwCl [kx_5 h0 g_row m_n m_slots 0 g_many g_loss g_less g_voteValue g_voteNumber g_allValue g_allNumber m_allMany g_nodeL g_nodeR m_nodes g_part m_partMany g_wasMany g_wasLoss g_wasValue g_wasNumber g_path m_pathMany g_heavyValue g_heavyTimes m_heavyMany g_fewest g_which g_met m_mostMet, kx_a g_row cyI 160 f, kx_a g_many cyI 324 fm, kx_a g_loss cyI 324 fl, kx_a g_less cyI 324 fe, kx_a g_voteValue cyI 1944 vv, kx_a g_voteNumber cyI 1944 vn, kx_a g_allValue cyI 12 av, kx_a g_allNumber cyI 12 an, kx_a g_nodeL cyI 320 nl, kx_a g_nodeR cyI 320 nr] H := hP
  have hD : va_D A [kx_5 h0 g_row m_n m_slots 0 g_many g_loss g_less g_voteValue g_voteNumber g_allValue g_allNumber m_allMany g_nodeL g_nodeR m_nodes g_part m_partMany g_wasMany g_wasLoss g_wasValue g_wasNumber g_path m_pathMany g_heavyValue g_heavyTimes m_heavyMany g_fewest g_which g_met m_mostMet, kx_a g_row cyI 160 f, kx_a g_many cyI 324 fm, kx_a g_loss cyI 324 fl, kx_a g_less cyI 324 fe, kx_a g_voteValue cyI 1944 vv, kx_a g_voteNumber cyI 1944 vn, kx_a g_allValue cyI 12 av, kx_a g_allNumber cyI 12 an, kx_a g_nodeL cyI 320 nl, kx_a g_nodeR cyI 320 nr] := hD
  refine lv_aload_n hx hb dX5_told_5 rfl (lv_at hl 0 rfl) ?_
  refine lv_aload_n hx hb dX5_told_6 rfl (lv_at hl 0 rfl) ?_
  refine va_get (D := (dC, dI)) (ci := 5) (v := .int m_slots) (C := RX5) (T := TX5) (N := 30) hx hb hts hi_5 hown hK hP 0 rfl rfl 2 (by decide) hf_13 (fun _ h9 => h9) rfl dX5_told_7 ?_
  have hPc := hP
  have hKc := hK
  have hDc := hD
  have hFc := kx_free hD hS hA
  refine va_callv (va_runV (As := [.int m_slots]) (rest := []) ⟨hx, hb, hml, hown, hts⟩ (c_X5_laysAll l dC dI h0 g_row g_many g_loss g_less g_voteValue g_voteNumber g_allValue g_allNumber g_nodeL g_nodeR g_part g_wasMany g_wasLoss g_wasValue g_wasNumber g_path g_heavyValue g_heavyTimes g_fewest g_which g_met m_n m_slots 0 m_allMany m_nodes m_partMany m_pathMany m_heavyMany m_mostMet cyI fm fl fe vv vn f av an nl nr m_slots H.size a0 a1 sl0 sl1 s4) (cwV 1 hts gX5_told_X5_laysAll rfl rfl rfl (by decide +kernel) ⟨Nat.le_of_ble_eq_true rfl, Nat.le_of_ble_eq_true rfl⟩) ⟨fun a U g mk q => by obtain ⟨q0, q1, qP, qK, qD⟩ := q; exact ⟨q0, q1, qP, va_K.moved (u := U) (U := U.calling g mk a) (Vm.Alike.refl U.vm) qK, qD⟩, va_recv hKc hPc (ci := 5) (q0 := 0) rfl rfl, fun U hU hW => ⟨rfl, by rw [hU], by rw [hU]; exact hPc, va_K.moved hW.alike hKc, hDc.weaken (fun _ _ _ _ => trivial)⟩⟩ rfl rfl hl.1 rfl (lv_room (Nat.le_of_ble_eq_true rfl)) dX5_told_10 ⟨Nat.le_of_ble_eq_true rfl, Nat.le_of_ble_eq_true rfl⟩) hS (fun q _ h => hFc q h) hFc (fun u t H1 locs ht hvm w_1 hB hz1 hk1 hS => ?_)
  obtain ⟨o_2, o_3, o_4, o_5, o_6, o_7, o_8, o_9, o_10, o_11, o_12⟩ := u
  dsimp only at w_1 hB
  obtain ⟨hP1, hK1, hD1⟩ := hB
  rw [ht] at hP1
  have hK1 := va_K.moved hvm.symm hK1
  have hD := hD1.weaken (fun _ q _ h => hFc q.1 h)
  have hP := hP1
  clear hP1 hD1 hK1 hk1 hz1 hFc hDc hPc hKc
  generalize H1 = H at hP hS ⊢
  have w_1 : mj_L m_slots.toNatClampNeg f o_11 o_12 o_4 o_5 o_6 o_7 o_8 m_n.toInt o_2.toInt ∧ six4 o_4 ∧ 0 ≤ o_2.toInt ∧ o_2.toInt ≤ 319 := w_1
  have hok : nodesOk o_11 o_12 o_2.toInt := fun k hk => by have := mj_L_ok w_1.1 k hk; omega
  refine lv_iload_n hx hb dX5_told_13 rfl (lv_at hl 1 rfl) ?_
  by_cases s_13 : p0.toInt = 0
  · refine lv_tableIn (tgt := 56) (off := 42) hx hb dX5_told_14 (by omega) (by omega) (by rw [s_13]; rfl) (by decide) ?_
    refine lv_aload_n hx hb dX5_told_56 rfl (lv_at hl 0 rfl) ?_
    refine va_get (D := (dC, dI)) (ci := 5) (v := .int m_n) (C := RX5) (T := TX5) (N := 30) hx hb hts hi_5 hown hK hP 0 rfl rfl 1 (by decide) hf_84 (fun _ h9 => h9) rfl dX5_told_57 ?_
    have hP9 := hP
    have hD9 := hD
    have hK9 := hK
    exact W.iret (v := m_n) hx hb hr (fun t ht hW => ⟨⟨m_n, (o_2, o_3, o_4, o_5, o_6, o_7, o_8, o_9, o_10, o_11, o_12), rfl, w_1.2.1, by rw [ht]; exact hP9, va_K.moved hW.alike hK9, hD9⟩, hS.F ht⟩) hS.2.2 dX5_told_60
  by_cases s_14 : p0.toInt = 1
  · refine lv_tableIn (tgt := 61) (off := 47) hx hb dX5_told_14 (by omega) (by omega) (by rw [s_14]; rfl) (by decide) ?_
    refine lv_aload_n hx hb dX5_told_61 rfl (lv_at hl 0 rfl) ?_
    refine va_get (D := (dC, dI)) (ci := 5) (v := .int m_slots) (C := RX5) (T := TX5) (N := 30) hx hb hts hi_5 hown hK hP 0 rfl rfl 2 (by decide) hf_13 (fun _ h9 => h9) rfl dX5_told_62 ?_
    have hP9 := hP
    have hD9 := hD
    have hK9 := hK
    exact W.iret (v := m_slots) hx hb hr (fun t ht hW => ⟨⟨m_slots, (o_2, o_3, o_4, o_5, o_6, o_7, o_8, o_9, o_10, o_11, o_12), rfl, w_1.2.1, by rw [ht]; exact hP9, va_K.moved hW.alike hK9, hD9⟩, hS.F ht⟩) hS.2.2 dX5_told_65
  by_cases s_15 : p0.toInt = 2
  · refine lv_tableIn (tgt := 66) (off := 52) hx hb dX5_told_14 (by omega) (by omega) (by rw [s_15]; rfl) (by decide) ?_
    refine lv_aload_n hx hb dX5_told_66 rfl (lv_at hl 0 rfl) ?_
    refine va_get (D := (dC, dI)) (ci := 5) (v := .int o_2) (C := RX5) (T := TX5) (N := 30) hx hb hts hi_5 hown hK hP 0 rfl rfl 14 (by decide) hf_101 (fun _ h9 => h9) rfl dX5_told_67 ?_
    have hP9 := hP
    have hD9 := hD
    have hK9 := hK
    exact W.iret (v := o_2) hx hb hr (fun t ht hW => ⟨⟨o_2, (o_2, o_3, o_4, o_5, o_6, o_7, o_8, o_9, o_10, o_11, o_12), rfl, w_1.2.1, by rw [ht]; exact hP9, va_K.moved hW.alike hK9, hD9⟩, hS.F ht⟩) hS.2.2 dX5_told_70
  by_cases s_16 : p0.toInt = 3
  · refine lv_tableIn (tgt := 71) (off := 57) hx hb dX5_told_14 (by omega) (by omega) (by rw [s_16]; rfl) (by decide) ?_
    refine lv_aload_n hx hb dX5_told_71 rfl (lv_at hl 0 rfl) ?_
    have hPc := hP.sub (ws' := [kx_5 h0 g_row m_n m_slots 0 g_many g_loss g_less g_voteValue g_voteNumber g_allValue g_allNumber o_3 g_nodeL g_nodeR o_2 g_part m_partMany g_wasMany g_wasLoss g_wasValue g_wasNumber g_path m_pathMany g_heavyValue g_heavyTimes m_heavyMany g_fewest g_which g_met m_mostMet, kx_a g_row cyI 160 f, kx_a g_nodeL cyI 320 o_11, kx_a g_nodeR cyI 320 o_12]) [0, 1, 9, 10] rfl
    have hKc := hK
    refine vp_callSi (W.runV (As := []) (rest := []) ⟨hx, hb, hml, hown, hts⟩ (c_X5_nodesWithMajority l dC dI h0 g_row g_many g_loss g_less g_voteValue g_voteNumber g_allValue g_allNumber g_nodeL g_nodeR g_part g_wasMany g_wasLoss g_wasValue g_wasNumber g_path g_heavyValue g_heavyTimes g_fewest g_which g_met m_n m_slots 0 o_3 o_2 m_partMany m_pathMany m_heavyMany m_mostMet cyI f o_11 o_12 w_1.2.2.1 w_1.2.2.2 hok) (cwV 0 hts gX5_told_X5_nodesWithMajority rfl rfl rfl (by decide +kernel) ⟨Nat.le_of_ble_eq_true rfl, Nat.le_of_ble_eq_true rfl⟩) ⟨fun a U g mk q => by obtain ⟨q0, qP, qK⟩ := q; exact ⟨q0, qP, va_K.moved (u := U) (U := U.calling g mk a) (Vm.Alike.refl U.vm) qK⟩, va_recv hKc hPc (ci := 5) (q0 := 0) rfl rfl, fun U hU hW => ⟨rfl, by rw [hU]; exact hPc, va_K.moved hW.alike hKc⟩⟩ rfl rfl hl.1 rfl (lv_room (Nat.le_of_ble_eq_true rfl)) dX5_told_72 ⟨Nat.le_of_ble_eq_true rfl, Nat.le_of_ble_eq_true rfl⟩) (fun r_17 w_17 => ?_)
    have hP9 := hP
    have hD9 := hD
    have hK9 := hK
    exact W.iret (v := r_17) hx hb hr (fun t ht hW => ⟨⟨r_17, (o_2, o_3, o_4, o_5, o_6, o_7, o_8, o_9, o_10, o_11, o_12), rfl, w_1.2.1, by rw [ht]; exact hP9, va_K.moved hW.alike hK9, hD9⟩, hS.F ht⟩) hS.2.2 dX5_told_75
  by_cases s_18 : p0.toInt = 4
  · refine lv_tableIn (tgt := 76) (off := 62) hx hb dX5_told_14 (by omega) (by omega) (by rw [s_18]; rfl) (by decide) ?_
    refine lv_aload_n hx hb dX5_told_76 rfl (lv_at hl 0 rfl) ?_
    refine lv_iconst (v := 0) hx hb dX5_told_77 (by decide) ?_
    refine lv_aload_n hx hb dX5_told_78 rfl (lv_at hl 0 rfl) ?_
    refine va_get (D := (dC, dI)) (ci := 5) (v := .int m_n) (C := RX5) (T := TX5) (N := 30) hx hb hts hi_5 hown hK hP 0 rfl rfl 1 (by decide) hf_84 (fun _ h9 => h9) rfl dX5_told_79 ?_
    have hPc := hP.sub (ws' := [kx_5 h0 g_row m_n m_slots 0 g_many g_loss g_less g_voteValue g_voteNumber g_allValue g_allNumber o_3 g_nodeL g_nodeR o_2 g_part m_partMany g_wasMany g_wasLoss g_wasValue g_wasNumber g_path m_pathMany g_heavyValue g_heavyTimes m_heavyMany g_fewest g_which g_met m_mostMet]) [0] rfl
    have hKc := hK.sub (tys' := []) [] rfl
    have k_19 : (0 : Int32).toInt = 0 := rfl
    refine vp_callSi (W.runV (As := [.int 0, .int m_n]) (rest := []) ⟨hx, hb, hml, hown, hts⟩ (c_X5_deep_8 l dC dI h0 g_row g_many g_loss g_less g_voteValue g_voteNumber g_allValue g_allNumber g_nodeL g_nodeR g_part g_wasMany g_wasLoss g_wasValue g_wasNumber g_path g_heavyValue g_heavyTimes g_fewest g_which g_met m_n m_slots 0 o_3 o_2 m_partMany m_pathMany m_heavyMany m_mostMet 0 m_n om_32 a0 a1 (om_243 a1)) (cwV 2 hts gX5_told_X5_deep rfl rfl rfl (by decide +kernel) ⟨Nat.le_of_ble_eq_true rfl, Nat.le_of_ble_eq_true rfl⟩) ⟨fun a U g mk q => by obtain ⟨q0, qP, qK⟩ := q; exact ⟨q0, qP, va_K.moved (u := U) (U := U.calling g mk a) (Vm.Alike.refl U.vm) qK⟩, va_recv hKc hPc (ci := 5) (q0 := 0) rfl rfl, fun U hU hW => ⟨rfl, by rw [hU]; exact hPc, va_K.moved hW.alike hKc⟩⟩ rfl rfl hl.1 rfl (lv_room (Nat.le_of_ble_eq_true rfl)) dX5_told_82 ⟨Nat.le_of_ble_eq_true rfl, Nat.le_of_ble_eq_true rfl⟩) (fun r_20 w_20 => ?_)
    have w_20 : 0 ≤ r_20.toInt ∧ r_20.toInt ≤ 9 := w_20
    have hP9 := hP
    have hD9 := hD
    have hK9 := hK
    exact W.iret (v := r_20) hx hb hr (fun t ht hW => ⟨⟨r_20, (o_2, o_3, o_4, o_5, o_6, o_7, o_8, o_9, o_10, o_11, o_12), rfl, w_1.2.1, by rw [ht]; exact hP9, va_K.moved hW.alike hK9, hD9⟩, hS.F ht⟩) hS.2.2 dX5_told_85
  by_cases s_21 : p0.toInt = 5
  · refine lv_tableIn (tgt := 86) (off := 72) hx hb dX5_told_14 (by omega) (by omega) (by rw [s_21]; rfl) (by decide) ?_
    refine lv_aload_n hx hb dX5_told_86 rfl (lv_at hl 0 rfl) ?_
    refine va_get (D := (dC, dI)) (ci := 5) (v := .int m_n) (C := RX5) (T := TX5) (N := 30) hx hb hts hi_5 hown hK hP 0 rfl rfl 1 (by decide) hf_84 (fun _ h9 => h9) rfl dX5_told_87 ?_
    refine lv_if_ne (tgt := 97) hx hb dX5_told_90 (by decide) (fun c_22 => ?_) (fun c_22 => ?_)
    · have i_22 : ¬ m_n.toInt = 0 := kc_ne c_22
      refine lv_aload_n hx hb dX5_told_97 rfl (lv_at hl 0 rfl) ?_
      refine va_get (D := (dC, dI)) (ci := 5) (v := .ref g_loss) (C := RX5) (T := TX5) (N := 30) hx hb hts hi_5 hown hK hP 0 rfl rfl 5 (by decide) hf_20 (fun _ h9 => h9) rfl dX5_told_98 ?_
      refine lv_iconst (v := 0) hx hb dX5_told_101 (by decide) ?_
      refine va_iald hx hb hK hP 3 0 rfl rfl (ki_inl (by decide)) dX5_told_102 ?_
      refine lv_topi (fun y_23 ey_23 => ?_)
      have j_23 : y_23.toInt = (o_5 (0 : Int32).toNatClampNeg).toInt := congrArg Int32.toInt ey_23
      have hP9 := hP
      have hD9 := hD
      have hK9 := hK
      exact W.iret (v := y_23) hx hb hr (fun t ht hW => ⟨⟨y_23, (o_2, o_3, o_4, o_5, o_6, o_7, o_8, o_9, o_10, o_11, o_12), rfl, w_1.2.1, by rw [ht]; exact hP9, va_K.moved hW.alike hK9, hD9⟩, hS.F ht⟩) hS.2.2 dX5_told_103
    · have i_22 : m_n.toInt = 0 := kc_eq c_22
      refine lv_iconst (v := 0) hx hb dX5_told_93 (by decide) ?_
      refine lv_goto (tgt := 103) hx hb dX5_told_94 (by decide) ?_
      have hP9 := hP
      have hD9 := hD
      have hK9 := hK
      exact W.iret (v := 0) hx hb hr (fun t ht hW => ⟨⟨0, (o_2, o_3, o_4, o_5, o_6, o_7, o_8, o_9, o_10, o_11, o_12), rfl, w_1.2.1, by rw [ht]; exact hP9, va_K.moved hW.alike hK9, hD9⟩, hS.F ht⟩) hS.2.2 dX5_told_103
  by_cases s_24 : p0.toInt = 6
  · refine lv_tableIn (tgt := 104) (off := 90) hx hb dX5_told_14 (by omega) (by omega) (by rw [s_24]; rfl) (by decide) ?_
    refine lv_iconst (v := 0) hx hb dX5_told_104 (by decide) ?_
    refine lv_istore_n (lv' := [(2, .int 0), (0, .ref h0), (1, .int p0)]) hx hb dX5_told_105 rfl hl (by decide) rfl (fun ls hl => ?_)
    refine lv_iconst (v := 0) hx hb dX5_told_106 (by decide) ?_
    refine lv_istore_n (lv' := [(3, .int 0), (2, .int 0), (0, .ref h0), (1, .int p0)]) hx hb dX5_told_107 rfl hl (by decide) rfl (fun ls hl => ?_)
    have LP1 : ∀ (n : Nat) (i : Int32) (sm : Int32), (0 ≤ i.toInt) → (o_2.toInt - i.toInt).toNat < n → ∀ (H : Heap) (locs : List Loc), va_P (dC, dI) vwCl [kx_5 h0 g_row m_n m_slots 0 g_many g_loss g_less g_voteValue g_voteNumber g_allValue g_allNumber o_3 g_nodeL g_nodeR o_2 g_part m_partMany g_wasMany g_wasLoss g_wasValue g_wasNumber g_path m_pathMany g_heavyValue g_heavyTimes m_heavyMany g_fewest g_which g_met m_mostMet, kx_a g_row cyI 160 f, kx_a g_many cyI 324 o_4, kx_a g_loss cyI 324 o_5, kx_a g_less cyI 324 o_6, kx_a g_voteValue cyI 1944 o_7, kx_a g_voteNumber cyI 1944 o_8, kx_a g_allValue cyI 12 o_9, kx_a g_allNumber cyI 12 o_10, kx_a g_nodeL cyI 320 o_11, kx_a g_nodeR cyI 320 o_12] H → va_D A [kx_5 h0 g_row m_n m_slots 0 g_many g_loss g_less g_voteValue g_voteNumber g_allValue g_allNumber o_3 g_nodeL g_nodeR o_2 g_part m_partMany g_wasMany g_wasLoss g_wasValue g_wasNumber g_path m_pathMany g_heavyValue g_heavyTimes m_heavyMany g_fewest g_which g_met m_mostMet, kx_a g_row cyI 160 f, kx_a g_many cyI 324 o_4, kx_a g_loss cyI 324 o_5, kx_a g_less cyI 324 o_6, kx_a g_voteValue cyI 1944 o_7, kx_a g_voteNumber cyI 1944 o_8, kx_a g_allValue cyI 12 o_9, kx_a g_allNumber cyI 12 o_10, kx_a g_nodeL cyI 320 o_11, kx_a g_nodeR cyI 320 o_12] → va_S A s.heap H locs → ∀ (ls : Array Slot), lv_has ls 4 [(3, .int i), (2, .int sm), (0, .ref h0), (1, .int p0)] → W p l e (headSpec wsX5_told ({ frames := 12, cells := 0, slots := 0, locals := 540 })).room s m ([.ref h0, .int p0] : List Value).toArray below meth c H locs 0 0 (MQ below (va_Qi (fun (r : Int32) (u : Int32 × Int32 × (Nat → Int32) × (Nat → Int32) × (Nat → Int32) × (Nat → Int32) × (Nat → Int32) × (Nat → Int32) × (Nat → Int32) × (Nat → Int32) × (Nat → Int32)) => six4 u.2.2.1) (fun (u : Int32 × Int32 × (Nat → Int32) × (Nat → Int32) × (Nat → Int32) × (Nat → Int32) × (Nat → Int32) × (Nat → Int32) × (Nat → Int32) × (Nat → Int32) × (Nat → Int32)) (t : State) => va_P (dC, dI) vwCl [kx_5 h0 g_row m_n m_slots 0 g_many g_loss g_less g_voteValue g_voteNumber g_allValue g_allNumber u.2.1 g_nodeL g_nodeR u.1 g_part m_partMany g_wasMany g_wasLoss g_wasValue g_wasNumber g_path m_pathMany g_heavyValue g_heavyTimes m_heavyMany g_fewest g_which g_met m_mostMet, kx_a g_row cyI 160 f, kx_a g_many cyI 324 u.2.2.1, kx_a g_loss cyI 324 u.2.2.2.1, kx_a g_less cyI 324 u.2.2.2.2.1, kx_a g_voteValue cyI 1944 u.2.2.2.2.2.1, kx_a g_voteNumber cyI 1944 u.2.2.2.2.2.2.1, kx_a g_allValue cyI 12 u.2.2.2.2.2.2.2.1, kx_a g_allNumber cyI 12 u.2.2.2.2.2.2.2.2.1, kx_a g_nodeL cyI 320 u.2.2.2.2.2.2.2.2.2.1, kx_a g_nodeR cyI 320 u.2.2.2.2.2.2.2.2.2.2] t.heap ∧ va_K (dC, dI) vwCl [(cyI, .int)] t ∧ va_D A [kx_5 h0 g_row m_n m_slots 0 g_many g_loss g_less g_voteValue g_voteNumber g_allValue g_allNumber u.2.1 g_nodeL g_nodeR u.1 g_part m_partMany g_wasMany g_wasLoss g_wasValue g_wasNumber g_path m_pathMany g_heavyValue g_heavyTimes m_heavyMany g_fewest g_which g_met m_mostMet, kx_a g_row cyI 160 f, kx_a g_many cyI 324 u.2.2.1, kx_a g_loss cyI 324 u.2.2.2.1, kx_a g_less cyI 324 u.2.2.2.2.1, kx_a g_voteValue cyI 1944 u.2.2.2.2.2.1, kx_a g_voteNumber cyI 1944 u.2.2.2.2.2.2.1, kx_a g_allValue cyI 12 u.2.2.2.2.2.2.2.1, kx_a g_allNumber cyI 12 u.2.2.2.2.2.2.2.2.1, kx_a g_nodeL cyI 320 u.2.2.2.2.2.2.2.2.2.1, kx_a g_nodeR cyI 320 u.2.2.2.2.2.2.2.2.2.2]) A) ([.ref h0, .int p0] : List Value).toArray s 0 0 A) (F0 m 108 ls []) := by
      intro n
      induction n with
      | zero => intro i sm LP1_h0 hn; exact absurd hn (Nat.not_lt_zero _)
      | succ n ih1 =>
        intro i sm LP1_h0 hn1 H locs hP hD hS ls hl
        refine lv_iload_n hx hb dX5_told_108 rfl (lv_at hl 0 rfl) ?_
        refine lv_aload_n hx hb dX5_told_109 rfl (lv_at hl 2 rfl) ?_
        refine va_get (D := (dC, dI)) (ci := 5) (v := .int o_2) (C := RX5) (T := TX5) (N := 30) hx hb hts hi_5 hown hK hP 0 rfl rfl 14 (by decide) hf_101 (fun _ h9 => h9) rfl dX5_told_110 ?_
        refine lv_icmp_ge (tgt := 131) hx hb dX5_told_113 (by decide) (fun c_25 => ?_) (fun c_25 => ?_)
        · have i_25 : o_2.toInt ≤ i.toInt := kc_le c_25
          refine lv_iload_n hx hb dX5_told_131 rfl (lv_at hl 1 rfl) ?_
          have hP9 := hP
          have hD9 := hD
          have hK9 := hK
          exact W.iret (v := sm) hx hb hr (fun t ht hW => ⟨⟨sm, (o_2, o_3, o_4, o_5, o_6, o_7, o_8, o_9, o_10, o_11, o_12), rfl, w_1.2.1, by rw [ht]; exact hP9, va_K.moved hW.alike hK9, hD9⟩, hS.F ht⟩) hS.2.2 dX5_told_132
        · have i_25 : i.toInt < o_2.toInt := kc_nle c_25
          refine lv_iload_n hx hb dX5_told_116 rfl (lv_at hl 1 rfl) ?_
          refine lv_aload_n hx hb dX5_told_117 rfl (lv_at hl 2 rfl) ?_
          refine va_get (D := (dC, dI)) (ci := 5) (v := .ref g_loss) (C := RX5) (T := TX5) (N := 30) hx hb hts hi_5 hown hK hP 0 rfl rfl 5 (by decide) hf_20 (fun _ h9 => h9) rfl dX5_told_118 ?_
          refine lv_iload_n hx hb dX5_told_121 rfl (lv_at hl 0 rfl) ?_
          refine va_iald hx hb hK hP 3 0 rfl rfl (ki_in (om_8 LP1_h0) (om_285 w_1.2.2.2 i_25)) dX5_told_122 ?_
          refine lv_topi (fun y_26 ey_26 => ?_)
          have j_26 : y_26.toInt = (o_5 i.toNatClampNeg).toInt := congrArg Int32.toInt ey_26
          refine lv_iadd hx hb dX5_told_123 ?_
          refine lv_topi (fun y_27 ey_27 => ?_)
          refine lv_istore_n (lv' := [(2, .int y_27), (3, .int i), (0, .ref h0), (1, .int p0)]) hx hb dX5_told_124 rfl hl (by decide) rfl (fun ls hl => ?_)
          obtain ⟨x_28, ex_28⟩ : ∃ y : Int32, y = i + 1 := ⟨_, rfl⟩
          have i_28 : x_28.toInt = i.toInt + 1 := ki_add ex_28 rfl rfl (om_10 LP1_h0) (om_102 w_1.2.2.2 i_25)
          refine lv_iinc (v := x_28) (lv' := [(3, .int x_28), (2, .int y_27), (0, .ref h0), (1, .int p0)]) hx hb dX5_told_125 hl (k := 1) rfl (by rw [ex_28]; rfl) (by decide) rfl (fun ls hl => ?_)
          refine lv_goto (tgt := 108) hx hb dX5_told_128 (by decide) ?_
          exact ih1 x_28 y_27 (om_31 LP1_h0 i_28) (om_mu hn1 (om_5 i_28) (om_6 i_25)) _ _ hP hD hS ls (lv_sub hl [0, 1, 2, 3] rfl)
    have k_29 : (0 : Int32).toInt = 0 := rfl
    have k_30 : (0 : Int32).toInt = 0 := rfl
    exact LP1 ((o_2.toInt - 0 : Int).toNat + 1) 0 0 om_32 (Nat.lt_succ_self _) _ _ hP hD hS ls (lv_sub hl [0, 1, 2, 3] rfl)
  refine lv_tableOut (tgt := 133) hx hb dX5_told_14 (by omega) (by decide) ?_
  refine lv_iconst (v := (-1)) hx hb dX5_told_133 (by decide) ?_
  have hP9 := hP
  have hD9 := hD
  have hK9 := hK
  exact W.iret (v := (-1)) hx hb hr (fun t ht hW => ⟨⟨(-1), (o_2, o_3, o_4, o_5, o_6, o_7, o_8, o_9, o_10, o_11, o_12), rfl, w_1.2.1, by rw [ht]; exact hP9, va_K.moved hW.alike hK9, hD9⟩, hS.F ht⟩) hS.2.2 dX5_told_134


