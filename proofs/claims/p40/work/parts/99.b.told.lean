set_option maxHeartbeats 4000000 in
set_option maxRecDepth 100000 in
theorem c_X5_majorityOf_x (l : Launch) (dC : Nat → ClassId) (dI : Nat → Nat → Nat) (h0 : Nat) (g_row : Nat) (g_many : Nat) (g_loss : Nat) (g_less : Nat) (g_voteValue : Nat) (g_voteNumber : Nat) (g_allValue : Nat) (g_allNumber : Nat) (g_nodeL : Nat) (g_nodeR : Nat) (g_part : Nat) (g_wasMany : Nat) (g_wasLoss : Nat) (g_wasValue : Nat) (g_wasNumber : Nat) (g_path : Nat) (g_heavyValue : Nat) (g_heavyTimes : Nat) (g_fewest : Nat) (g_which : Nat) (g_met : Nat) (m_n : Int32) (m_slots : Int32) (m_thrown : Int32) (m_allMany : Int32) (m_nodes : Int32) (m_partMany : Int32) (m_pathMany : Int32) (m_heavyMany : Int32) (m_mostMet : Int32) (cyI : ClassId) (f : Nat → Int32) (p0 : Int32) (p1 : Int32) (d0 : 0 ≤ p0.toInt) (d1 : p1.toInt ≤ 160) (d2 : p0.toInt < p1.toInt) : Met l yX5_majorityOf wsX5_majorityOf ({ frames := 1, cells := 0, slots := 0, locals := 45 }) (va_Pc [.ref h0, .int p0, .int p1] (fun U => va_P (dC, dI) vwCl [kx_5 h0 g_row m_n m_slots m_thrown g_many g_loss g_less g_voteValue g_voteNumber g_allValue g_allNumber m_allMany g_nodeL g_nodeR m_nodes g_part m_partMany g_wasMany g_wasLoss g_wasValue g_wasNumber g_path m_pathMany g_heavyValue g_heavyTimes m_heavyMany g_fewest g_which g_met m_mostMet, kx_a g_row cyI 160 f] U.heap ∧ va_K (dC, dI) vwCl [(cyI, .int)] U)) (vp_Si (fun r : Int32 => mj_maj f p0.toNatClampNeg p1.toNatClampNeg r)) 0 0 (fun _ => False) := by
  refine kx_stS (ws := wsX5_majorityOf) (cc := cX5_majorityOf) (maxL := 4) (ret := (some .int)) (by decide) rfl (Nat.le_of_ble_eq_true rfl) ?_
  intro p e s m below meth c ls hx hb hr hlocks hts hown hml hP hK hl
  have hown : s.vm.findClass RX5 = some m.cls := hown
  have hl : lv_has ls 4 [(0, .ref h0), (1, .int p0), (2, .int p1)] := hl
  have hk_148 := hts (.constant RX5 148 (-40000)) (List.mem_of_getElem? (i := 2) rfl)
  have hf_7 := hts (.fieldLink RX5 7 "MajorityIndexModel" "row" "[I") (List.mem_of_getElem? (i := 1) rfl)
  have hi_5 : ∀ w ∈ u_ws RX5 TX5 30, w ∈ wsX5_majorityOf := fun w h => List.mem_cons_of_mem _ (List.mem_append_right _ h)
  have n_p0 := ki_nat p0 rfl (om_10 d0)
  have n_p1 := ki_nat p1 rfl (om_21 d0 d2)
  refine lv_iload_n hx hb dX5_majorityOf_0 rfl (lv_at hl 1 rfl) ?_
  refine lv_istore_n (lv' := [(3, .int p0), (0, .ref h0), (1, .int p0), (2, .int p1)]) hx hb dX5_majorityOf_1 rfl hl (by decide) rfl (fun ls hl => ?_)
  have LP1 : ∀ (n : Nat) (i : Int32), (p0.toInt ≤ i.toInt) → (∀ k : Nat, p0.toNatClampNeg ≤ k → k < i.toNatClampNeg → 2 * (cnt f (f k) p0.toNatClampNeg (p1.toNatClampNeg - p0.toNatClampNeg) : Int) ≤ ((p1.toNatClampNeg - p0.toNatClampNeg : Nat) : Int)) → (p1.toInt - i.toInt).toNat < n → ∀ (ls : Array Slot), lv_has ls 4 [(3, .int i), (0, .ref h0), (1, .int p0), (2, .int p1)] → W p l e (headSpec wsX5_majorityOf ({ frames := 1, cells := 0, slots := 0, locals := 45 })).room s m ([.ref h0, .int p0, .int p1] : List Value).toArray below meth c s.heap [] 0 0 (MQ below (vp_Si (fun r : Int32 => mj_maj f p0.toNatClampNeg p1.toNatClampNeg r)) ([.ref h0, .int p0, .int p1] : List Value).toArray s 0 0 (fun _ => False)) (F0 m 2 ls []) := by
    intro n
    induction n with
    | zero => intro i LP1_h0 LP1_h1 hn; exact absurd hn (Nat.not_lt_zero _)
    | succ n ih1 =>
      intro i LP1_h0 LP1_h1 hn1 ls hl
      have n_i := ki_nat i rfl (om_0 d0 LP1_h0)
      refine lv_iload_n hx hb dX5_majorityOf_2 rfl (lv_at hl 0 rfl) ?_
      refine lv_iload_n hx hb dX5_majorityOf_3 rfl (lv_at hl 3 rfl) ?_
      refine lv_icmp_ge (tgt := 40) hx hb dX5_majorityOf_4 (by decide) (fun c_1 => ?_) (fun c_1 => ?_)
      · have i_1 : p1.toInt ≤ i.toInt := kc_le c_1
        refine lv_ldc (v := (-40000)) hx hb hown hk_148 dX5_majorityOf_40 ?_
        exact W.iret (v := (-40000)) hx hb hr (hlocks := hlocks) (fun t ht hW => ⟨(-40000), rfl, (Or.inr ⟨rfl, fun k h1 h2 => LP1_h1 k h1 (by (try dsimp only); omega)⟩), ht⟩) (fun q hq => by cases hq) dX5_majorityOf_42
      · have i_1 : i.toInt < p1.toInt := kc_nle c_1
        refine lv_iconst (v := 2) hx hb dX5_majorityOf_7 (by decide) ?_
        refine lv_aload_n hx hb dX5_majorityOf_8 rfl (lv_at hl 1 rfl) ?_
        refine lv_aload_n hx hb dX5_majorityOf_9 rfl (lv_at hl 1 rfl) ?_
        refine va_get (D := (dC, dI)) (ci := 5) (v := .ref g_row) (C := RX5) (T := TX5) (N := 30) hx hb hts hi_5 hown hK hP 0 rfl rfl 0 (by decide) hf_7 (fun _ h9 => h9) rfl dX5_majorityOf_10 ?_
        refine lv_iload_n hx hb dX5_majorityOf_13 rfl (lv_at hl 0 rfl) ?_
        refine va_iald hx hb hK hP 1 0 rfl rfl (ki_in (om_0 d0 LP1_h0) (om_1 d1 i_1)) dX5_majorityOf_14 ?_
        refine lv_topi (fun y_2 ey_2 => ?_)
        have j_2 : y_2.toInt = (f i.toNatClampNeg).toInt := congrArg Int32.toInt ey_2
        refine lv_iload_n hx hb dX5_majorityOf_15 rfl (lv_at hl 2 rfl) ?_
        refine lv_iload_n hx hb dX5_majorityOf_16 rfl (lv_at hl 3 rfl) ?_
        have hPc := hP
        have hKc := hK
        refine vp_callSi (W.runV (As := [.int y_2, .int p0, .int p1]) (rest := [.int 2]) ⟨hx, hb, hml, hown, hts⟩ (c_X5_times l dC dI h0 g_row g_many g_loss g_less g_voteValue g_voteNumber g_allValue g_allNumber g_nodeL g_nodeR g_part g_wasMany g_wasLoss g_wasValue g_wasNumber g_path g_heavyValue g_heavyTimes g_fewest g_which g_met m_n m_slots m_thrown m_allMany m_nodes m_partMany m_pathMany m_heavyMany m_mostMet cyI f y_2 p0 p1 d0 d1) (cwV 3 hts gX5_majorityOf_X5_times rfl rfl rfl (by decide +kernel) ⟨Nat.le_of_ble_eq_true rfl, Nat.le_of_ble_eq_true rfl⟩) ⟨fun a U g mk q => by obtain ⟨q0, qP, qK⟩ := q; exact ⟨q0, qP, va_K.moved (u := U) (U := U.calling g mk a) (Vm.Alike.refl U.vm) qK⟩, kx_rc5 hKc hPc (q0 := 0) rfl, fun U hU hW => ⟨rfl, by rw [hU]; exact hPc, va_K.moved hW.alike hKc⟩⟩ rfl rfl hl.1 rfl (lv_room (Nat.le_of_ble_eq_true rfl)) dX5_majorityOf_17 ⟨Nat.le_of_ble_eq_true rfl, Nat.le_of_ble_eq_true rfl⟩) (fun r_3 w_3 => ?_)
        have w_3 : r_3.toInt = (cnt f y_2 p0.toNatClampNeg (p1.toInt - p0.toInt).toNat : Int) := w_3
        have hle := cnt_le f y_2 p0.toNatClampNeg (p1.toInt - p0.toInt).toNat
        refine lv_imul hx hb dX5_majorityOf_20 ?_
        refine lv_topi (fun y_4 ey_4 => ?_)
        have i_4 : y_4.toInt = 2 * r_3.toInt := ki_mul ey_4 rfl rfl (by omega) (by omega)
        refine lv_iload_n hx hb dX5_majorityOf_21 rfl (lv_at hl 3 rfl) ?_
        refine lv_iload_n hx hb dX5_majorityOf_22 rfl (lv_at hl 2 rfl) ?_
        refine lv_isub hx hb dX5_majorityOf_23 ?_
        refine lv_topi (fun y_5 ey_5 => ?_)
        have i_5 : y_5.toInt = p1.toInt - p0.toInt := ki_sub ey_5 rfl rfl (om_168 d2) (om_445 d0 d1)
        refine lv_icmp_le (tgt := 34) hx hb dX5_majorityOf_24 (by decide) (fun c_6 => ?_) (fun c_6 => ?_)
        · have i_6 : y_4.toInt ≤ y_5.toInt := kc_le c_6
          obtain ⟨x_7, ex_7⟩ : ∃ y : Int32, y = i + 1 := ⟨_, rfl⟩
          have i_7 : x_7.toInt = i.toInt + 1 := ki_add ex_7 rfl rfl (om_2 d0 LP1_h0) (om_3 d1 i_1)
          refine lv_iinc (v := x_7) (lv' := [(3, .int x_7), (0, .ref h0), (1, .int p0), (2, .int p1)]) hx hb dX5_majorityOf_34 hl (k := 0) rfl (by rw [ex_7]; rfl) (by decide) rfl (fun ls hl => ?_)
          refine lv_goto (tgt := 2) hx hb dX5_majorityOf_37 (by decide) ?_
          have n_8 := ki_nat x_7 rfl (om_89 d0 LP1_h0 i_7)
          exact ih1 x_7 (om_4 LP1_h0 i_7) (fun k h1 h2 => if h9 : k < i.toNatClampNeg then LP1_h1 k h1 h9 else (by rw [show k = i.toNatClampNeg by omega, ← ey_2, show p1.toNatClampNeg - p0.toNatClampNeg = (p1.toInt - p0.toInt).toNat by omega]; omega)) (om_mu hn1 (om_5 i_7) (om_6 i_1)) ls (lv_sub hl [0, 1, 2, 3] rfl)
        · have i_6 : y_5.toInt < y_4.toInt := kc_nle c_6
          refine lv_aload_n hx hb dX5_majorityOf_27 rfl (lv_at hl 1 rfl) ?_
          refine va_get (D := (dC, dI)) (ci := 5) (v := .ref g_row) (C := RX5) (T := TX5) (N := 30) hx hb hts hi_5 hown hK hP 0 rfl rfl 0 (by decide) hf_7 (fun _ h9 => h9) rfl dX5_majorityOf_28 ?_
          refine lv_iload_n hx hb dX5_majorityOf_31 rfl (lv_at hl 0 rfl) ?_
          refine va_iald hx hb hK hP 1 0 rfl rfl (ki_in (om_0 d0 LP1_h0) (om_1 d1 i_1)) dX5_majorityOf_32 ?_
          refine lv_topi (fun y_9 ey_9 => ?_)
          have j_9 : y_9.toInt = (f i.toNatClampNeg).toInt := congrArg Int32.toInt ey_9
          exact W.iret (v := y_9) hx hb hr (hlocks := hlocks) (fun t ht hW => ⟨y_9, rfl, (Or.inl ⟨i.toNatClampNeg, (by (try dsimp only); omega), (by (try dsimp only); omega), ey_9.symm, (by (try dsimp only); rw [show p1.toNatClampNeg - p0.toNatClampNeg = (p1.toInt - p0.toInt).toNat by omega, ey_9, ← ey_2]; omega)⟩), ht⟩) (fun q hq => by cases hq) dX5_majorityOf_33
  exact LP1 ((p1.toInt - p0.toInt : Int).toNat + 1) p0 om_7 (fun k h1 h2 => absurd h2 (by omega)) (Nat.lt_succ_self _) ls (lv_sub hl [0, 1, 2, 3] rfl)

set_option maxHeartbeats 4000000 in
set_option maxRecDepth 100000 in
theorem c_X5_reach (l : Launch) (dC : Nat → ClassId) (dI : Nat → Nat → Nat) (h0 : Nat) (g_row : Nat) (g_many : Nat) (g_loss : Nat) (g_less : Nat) (g_voteValue : Nat) (g_voteNumber : Nat) (g_allValue : Nat) (g_allNumber : Nat) (g_nodeL : Nat) (g_nodeR : Nat) (g_part : Nat) (g_wasMany : Nat) (g_wasLoss : Nat) (g_wasValue : Nat) (g_wasNumber : Nat) (g_path : Nat) (g_heavyValue : Nat) (g_heavyTimes : Nat) (g_fewest : Nat) (g_which : Nat) (g_met : Nat) (m_n : Int32) (m_slots : Int32) (m_thrown : Int32) (m_allMany : Int32) (m_nodes : Int32) (m_partMany : Int32) (m_pathMany : Int32) (m_heavyMany : Int32) (m_mostMet : Int32) (cyI : ClassId) (f : Nat → Int32) (p0 : Int32) (sz : Nat) (a0 : 0 ≤ m_n.toInt) (a1 : m_n.toInt ≤ 160) (s1 : shorts f) : kx_MQ l (dC, dI) yX5_reach wsX5_reach ({ frames := 2, cells := 0, slots := 0, locals := 90 }) [.ref h0, .int p0] [kx_5 h0 g_row m_n m_slots m_thrown g_many g_loss g_less g_voteValue g_voteNumber g_allValue g_allNumber m_allMany g_nodeL g_nodeR m_nodes g_part m_partMany g_wasMany g_wasLoss g_wasValue g_wasNumber g_path m_pathMany g_heavyValue g_heavyTimes m_heavyMany g_fewest g_which g_met m_mostMet, kx_a g_row cyI 160 f] [(cyI, .int)] sz (fun A => va_Qi (fun (r : Int32) (_ : Unit) => True) (fun (_ : Unit) (t : State) => va_P (dC, dI) vwCl [kx_5 h0 g_row m_n m_slots 0 g_many g_loss g_less g_voteValue g_voteNumber g_allValue g_allNumber m_allMany g_nodeL g_nodeR m_nodes g_part m_partMany g_wasMany g_wasLoss g_wasValue g_wasNumber g_path m_pathMany g_heavyValue g_heavyTimes m_heavyMany g_fewest g_which g_met m_mostMet, kx_a g_row cyI 160 f] t.heap ∧ va_K (dC, dI) vwCl [(cyI, .int)] t ∧ va_D A [kx_5 h0 g_row m_n m_slots 0 g_many g_loss g_less g_voteValue g_voteNumber g_allValue g_allNumber m_allMany g_nodeL g_nodeR m_nodes g_part m_partMany g_wasMany g_wasLoss g_wasValue g_wasNumber g_path m_pathMany g_heavyValue g_heavyTimes m_heavyMany g_fewest g_which g_met m_mostMet, kx_a g_row cyI 160 f]) A) := by
  refine kx_stQ (ws := wsX5_reach) (cc := cX5_reach) (maxL := 3) (ret := (some .int)) (by decide) rfl (Nat.le_of_ble_eq_true rfl) ?_
  intro p e s m below meth c A ls hx hb hr hlocks hts hown hml hA hS hP hK hD hl
  have hown : s.vm.findClass RX5 = some m.cls := hown
  have hl : lv_has ls 3 [(0, .ref h0), (1, .int p0)] := hl
  have hf_77 := hts (.fieldLink RX5 77 "MajorityIndexModel" "thrown" "I") (List.mem_of_getElem? (i := 1) rfl)
  have hi_5 : ∀ w ∈ u_ws RX5 TX5 30, w ∈ wsX5_reach := fun w h => List.mem_cons_of_mem _ (List.mem_append_right _ h)
  have hf_84 := hts (.fieldLink RX5 84 "MajorityIndexModel" "n" "I") (List.mem_of_getElem? (i := 2) rfl)
  have hk_148 := hts (.constant RX5 148 (-40000)) (List.mem_of_getElem? (i := 3) rfl)
  refine lv_aload_n hx hb dX5_reach_0 rfl (lv_at hl 0 rfl) ?_
  refine lv_iconst (v := 0) hx hb dX5_reach_1 (by decide) ?_
  refine va_put (D := (dC, dI)) (ci := 5) (v := .int 0) (ty := .int) (C := RX5) (T := TX5) (N := 30) hx hb hts hi_5 tyX5 tyX5_ok nmX5 hown hK hP hD hS 0 rfl rfl 3 (by decide) hf_77 (fun _ h9 => h9) rfl (by decide +kernel) rfl rfl (Nat.le_of_ble_eq_true rfl) dX5_reach_2 (fun H locs hP hD hS => ?_)
  obtain ⟨hP, hD⟩ := kx_re (w2 := [kx_5 h0 g_row m_n m_slots 0 g_many g_loss g_less g_voteValue g_voteNumber g_allValue g_allNumber m_allMany g_nodeL g_nodeR m_nodes g_part m_partMany g_wasMany g_wasLoss g_wasValue g_wasNumber g_path m_pathMany g_heavyValue g_heavyTimes m_heavyMany g_fewest g_which g_met m_mostMet, kx_a g_row cyI 160 f]) hP hD rfl
  refine lv_aload_n hx hb dX5_reach_5 rfl (lv_at hl 0 rfl) ?_
  refine lv_iload_n hx hb dX5_reach_6 rfl (lv_at hl 1 rfl) ?_
  have hPc := hP.sub (ws' := [kx_5 h0 g_row m_n m_slots 0 g_many g_loss g_less g_voteValue g_voteNumber g_allValue g_allNumber m_allMany g_nodeL g_nodeR m_nodes g_part m_partMany g_wasMany g_wasLoss g_wasValue g_wasNumber g_path m_pathMany g_heavyValue g_heavyTimes m_heavyMany g_fewest g_which g_met m_mostMet]) [0] rfl
  have hKc := hK.sub (tys' := []) [] rfl
  refine vp_callSi (W.runV (As := [.int p0]) (rest := []) ⟨hx, hb, hml, hown, hts⟩ (c_X5_isPlace l dC dI h0 g_row g_many g_loss g_less g_voteValue g_voteNumber g_allValue g_allNumber g_nodeL g_nodeR g_part g_wasMany g_wasLoss g_wasValue g_wasNumber g_path g_heavyValue g_heavyTimes g_fewest g_which g_met m_n m_slots 0 m_allMany m_nodes m_partMany m_pathMany m_heavyMany m_mostMet p0 a0 a1) (cwV 1 hts gX5_reach_X5_isPlace rfl rfl rfl (by decide +kernel) ⟨Nat.le_of_ble_eq_true rfl, Nat.le_of_ble_eq_true rfl⟩) ⟨fun a U g mk q => by obtain ⟨q0, qP, qK⟩ := q; exact ⟨q0, qP, va_K.moved (u := U) (U := U.calling g mk a) (Vm.Alike.refl U.vm) qK⟩, kx_rc5 hKc hPc (q0 := 0) rfl, fun U hU hW => ⟨rfl, by rw [hU]; exact hPc, va_K.moved hW.alike hKc⟩⟩ rfl rfl hl.1 rfl (lv_room (Nat.le_of_ble_eq_true rfl)) dX5_reach_7 ⟨Nat.le_of_ble_eq_true rfl, Nat.le_of_ble_eq_true rfl⟩) (fun r_1 w_1 => ?_)
  rcases w_1 with ⟨rfl, w_1⟩ | ⟨rfl, w_1⟩
  · have w_1 : (0 ≤ p0.toInt ∧ p0.toInt < m_n.toInt) := w_1
    refine lv_if_ne (tgt := 15) hx hb dX5_reach_10 (by decide) (fun c_2 => ?_) (fun c_2 => ?_)
    · refine lv_aload_n hx hb dX5_reach_15 rfl (lv_at hl 0 rfl) ?_
      refine va_get (D := (dC, dI)) (ci := 5) (v := .int m_n) (C := RX5) (T := TX5) (N := 30) hx hb hts hi_5 hown hK hP 0 rfl rfl 1 (by decide) hf_84 (fun _ h9 => h9) rfl dX5_reach_16 ?_
      refine lv_istore_n (lv' := [(2, .int m_n), (0, .ref h0), (1, .int p0)]) hx hb dX5_reach_19 rfl hl (by decide) rfl (fun ls hl => ?_)
      have LP1 : ∀ (n : Nat) (rr : Int32), (p0.toInt < rr.toInt) → (rr.toInt ≤ m_n.toInt) → (rr.toInt).toNat < n → ∀ (H : Heap) (locs : List Loc), va_P (dC, dI) vwCl [kx_5 h0 g_row m_n m_slots 0 g_many g_loss g_less g_voteValue g_voteNumber g_allValue g_allNumber m_allMany g_nodeL g_nodeR m_nodes g_part m_partMany g_wasMany g_wasLoss g_wasValue g_wasNumber g_path m_pathMany g_heavyValue g_heavyTimes m_heavyMany g_fewest g_which g_met m_mostMet, kx_a g_row cyI 160 f] H → va_D A [kx_5 h0 g_row m_n m_slots 0 g_many g_loss g_less g_voteValue g_voteNumber g_allValue g_allNumber m_allMany g_nodeL g_nodeR m_nodes g_part m_partMany g_wasMany g_wasLoss g_wasValue g_wasNumber g_path m_pathMany g_heavyValue g_heavyTimes m_heavyMany g_fewest g_which g_met m_mostMet, kx_a g_row cyI 160 f] → va_S A s.heap H locs → ∀ (ls : Array Slot), lv_has ls 3 [(2, .int rr), (0, .ref h0), (1, .int p0)] → W p l e (headSpec wsX5_reach ({ frames := 2, cells := 0, slots := 0, locals := 90 })).room s m ([.ref h0, .int p0] : List Value).toArray below meth c H locs 0 0 (MQ below (va_Qi (fun (r : Int32) (_ : Unit) => True) (fun (_ : Unit) (t : State) => va_P (dC, dI) vwCl [kx_5 h0 g_row m_n m_slots 0 g_many g_loss g_less g_voteValue g_voteNumber g_allValue g_allNumber m_allMany g_nodeL g_nodeR m_nodes g_part m_partMany g_wasMany g_wasLoss g_wasValue g_wasNumber g_path m_pathMany g_heavyValue g_heavyTimes m_heavyMany g_fewest g_which g_met m_mostMet, kx_a g_row cyI 160 f] t.heap ∧ va_K (dC, dI) vwCl [(cyI, .int)] t ∧ va_D A [kx_5 h0 g_row m_n m_slots 0 g_many g_loss g_less g_voteValue g_voteNumber g_allValue g_allNumber m_allMany g_nodeL g_nodeR m_nodes g_part m_partMany g_wasMany g_wasLoss g_wasValue g_wasNumber g_path m_pathMany g_heavyValue g_heavyTimes m_heavyMany g_fewest g_which g_met m_mostMet, kx_a g_row cyI 160 f]) A) ([.ref h0, .int p0] : List Value).toArray s 0 0 A) (F0 m 20 ls []) := by
        intro n
        induction n with
        | zero => intro rr LP1_h0 LP1_h1 hn; exact absurd hn (Nat.not_lt_zero _)
        | succ n ih1 =>
          intro rr LP1_h0 LP1_h1 hn1 H locs hP hD hS ls hl
          refine lv_aload_n hx hb dX5_reach_20 rfl (lv_at hl 1 rfl) ?_
          refine lv_iload_n hx hb dX5_reach_21 rfl (lv_at hl 2 rfl) ?_
          refine lv_iload_n hx hb dX5_reach_22 rfl (lv_at hl 0 rfl) ?_
          have hPc := hP
          have hKc := hK
          refine vp_callSi (W.runV (As := [.int p0, .int rr]) (rest := []) ⟨hx, hb, hml, hown, hts⟩ (c_X5_majorityOf_x l dC dI h0 g_row g_many g_loss g_less g_voteValue g_voteNumber g_allValue g_allNumber g_nodeL g_nodeR g_part g_wasMany g_wasLoss g_wasValue g_wasNumber g_path g_heavyValue g_heavyTimes g_fewest g_which g_met m_n m_slots 0 m_allMany m_nodes m_partMany m_pathMany m_heavyMany m_mostMet cyI f p0 rr (om_10 w_1.1) (om_167 a1 LP1_h1) LP1_h0) (cwV 2 hts gX5_reach_X5_majorityOf rfl rfl rfl (by decide +kernel) ⟨Nat.le_of_ble_eq_true rfl, Nat.le_of_ble_eq_true rfl⟩) ⟨fun a U g mk q => by obtain ⟨q0, qP, qK⟩ := q; exact ⟨q0, qP, va_K.moved (u := U) (U := U.calling g mk a) (Vm.Alike.refl U.vm) qK⟩, kx_rc5 hKc hPc (q0 := 0) rfl, fun U hU hW => ⟨rfl, by rw [hU]; exact hPc, va_K.moved hW.alike hKc⟩⟩ rfl rfl hl.1 rfl (lv_room (Nat.le_of_ble_eq_true rfl)) dX5_reach_23 ⟨Nat.le_of_ble_eq_true rfl, Nat.le_of_ble_eq_true rfl⟩) (fun r_3 w_3 => ?_)
          have w_3 : mj_maj f p0.toNatClampNeg rr.toNatClampNeg r_3 := w_3
          refine lv_ldc (v := (-40000)) hx hb hown hk_148 dX5_reach_26 ?_
          refine lv_icmp_ne (tgt := 37) hx hb dX5_reach_28 (by decide) (fun c_4 => ?_) (fun c_4 => ?_)
          · have i_4 : ¬ r_3.toInt = (-40000) := kc_ne c_4
            refine lv_iload_n hx hb dX5_reach_37 rfl (lv_at hl 0 rfl) ?_
            have hP9 := hP
            have hD9 := hD
            have hK9 := hK
            exact W.iret (v := rr) hx hb hr (hlocks := hlocks) (fun t ht hW => ⟨⟨rr, (), rfl, trivial, by rw [ht]; exact hP9, va_K.moved hW.alike hK9, hD9⟩, hS.F ht⟩) hS.2.2 dX5_reach_38
          · have i_4 : r_3.toInt = (-40000) := kc_eq c_4
            have n_p0 := ki_nat p0 rfl (om_10 w_1.1)
            have n_rr := ki_nat rr rfl (om_21 w_1.1 LP1_h0)
            have hne := mj_maj_one w_3 s1 (by omega) c_4
            obtain ⟨x_5, ex_5⟩ : ∃ y : Int32, y = rr + (-1) := ⟨_, rfl⟩
            have i_5 : x_5.toInt = rr.toInt + (-1) := ki_add ex_5 rfl rfl (om_23 w_1.1 LP1_h0) (om_233 a1 LP1_h1)
            refine lv_iinc (v := x_5) (lv' := [(2, .int x_5), (0, .ref h0), (1, .int p0)]) hx hb dX5_reach_31 hl (k := 0) rfl (by rw [ex_5]; rfl) (by decide) rfl (fun ls hl => ?_)
            refine lv_goto (tgt := 20) hx hb dX5_reach_34 (by decide) ?_
            exact ih1 x_5 (by omega) (om_26 LP1_h1 i_5) (om_mu hn1 (om_27 i_5) (om_28 w_1.1 LP1_h0)) _ _ hP hD hS ls (lv_sub hl [0, 1, 2] rfl)
      exact LP1 ((m_n.toInt : Int).toNat + 1) m_n (om_11 w_1.2) om_7 (Nat.lt_succ_self _) _ _ hP hD hS ls (lv_sub hl [0, 1, 2] rfl)
    · exact absurd c_2 (by decide)
  · have w_1 : (p0.toInt < 0 ∨ m_n.toInt ≤ p0.toInt) := w_1
    refine lv_if_ne (tgt := 15) hx hb dX5_reach_10 (by decide) (fun c_6 => ?_) (fun c_6 => ?_)
    · exact absurd c_6 (by decide)
    · refine lv_iconst (v := (-1)) hx hb dX5_reach_13 (by decide) ?_
      have hP9 := hP
      have hD9 := hD
      have hK9 := hK
      exact W.iret (v := (-1)) hx hb hr (hlocks := hlocks) (fun t ht hW => ⟨⟨(-1), (), rfl, trivial, by rw [ht]; exact hP9, va_K.moved hW.alike hK9, hD9⟩, hS.F ht⟩) hS.2.2 dX5_reach_14

set_option maxHeartbeats 4000000 in
set_option maxRecDepth 100000 in
theorem c_X5_spares (l : Launch) (dC : Nat → ClassId) (dI : Nat → Nat → Nat) (h0 : Nat) (g_row : Nat) (g_many : Nat) (g_loss : Nat) (g_less : Nat) (g_voteValue : Nat) (g_voteNumber : Nat) (g_allValue : Nat) (g_allNumber : Nat) (g_nodeL : Nat) (g_nodeR : Nat) (g_part : Nat) (g_wasMany : Nat) (g_wasLoss : Nat) (g_wasValue : Nat) (g_wasNumber : Nat) (g_path : Nat) (g_heavyValue : Nat) (g_heavyTimes : Nat) (g_fewest : Nat) (g_which : Nat) (g_met : Nat) (m_n : Int32) (m_slots : Int32) (m_thrown : Int32) (m_allMany : Int32) (m_nodes : Int32) (m_partMany : Int32) (m_pathMany : Int32) (m_heavyMany : Int32) (m_mostMet : Int32) (cyI : ClassId) (f : Nat → Int32) (p0 : Int32) (p1 : Int32) (p2 : Int32) (p3 : Int32) (p4 : Int32) (sz : Nat) (a0 : 0 ≤ m_n.toInt) (a1 : m_n.toInt ≤ 160) : kx_MQ l (dC, dI) yX5_spares wsX5_spares ({ frames := 2, cells := 0, slots := 0, locals := 90 }) [.ref h0, .int p0, .int p1, .int p2, .int p3, .int p4] [kx_5 h0 g_row m_n m_slots m_thrown g_many g_loss g_less g_voteValue g_voteNumber g_allValue g_allNumber m_allMany g_nodeL g_nodeR m_nodes g_part m_partMany g_wasMany g_wasLoss g_wasValue g_wasNumber g_path m_pathMany g_heavyValue g_heavyTimes m_heavyMany g_fewest g_which g_met m_mostMet, kx_a g_row cyI 160 f] [(cyI, .int)] sz (fun A => va_Qi (fun (r : Int32) (_ : Unit) => True) (fun (_ : Unit) (t : State) => va_P (dC, dI) vwCl [kx_5 h0 g_row m_n m_slots 0 g_many g_loss g_less g_voteValue g_voteNumber g_allValue g_allNumber m_allMany g_nodeL g_nodeR m_nodes g_part m_partMany g_wasMany g_wasLoss g_wasValue g_wasNumber g_path m_pathMany g_heavyValue g_heavyTimes m_heavyMany g_fewest g_which g_met m_mostMet, kx_a g_row cyI 160 f] t.heap ∧ va_K (dC, dI) vwCl [(cyI, .int)] t ∧ va_D A [kx_5 h0 g_row m_n m_slots 0 g_many g_loss g_less g_voteValue g_voteNumber g_allValue g_allNumber m_allMany g_nodeL g_nodeR m_nodes g_part m_partMany g_wasMany g_wasLoss g_wasValue g_wasNumber g_path m_pathMany g_heavyValue g_heavyTimes m_heavyMany g_fewest g_which g_met m_mostMet, kx_a g_row cyI 160 f]) A) := by
  refine kx_stQ (ws := wsX5_spares) (cc := cX5_spares) (maxL := 8) (ret := (some .int)) (by decide) rfl (Nat.le_of_ble_eq_true rfl) ?_
  intro p e s m below meth c A ls hx hb hr hlocks hts hown hml hA hS hP hK hD hl
  have hown : s.vm.findClass RX5 = some m.cls := hown
  have hl : lv_has ls 8 [(0, .ref h0), (1, .int p0), (2, .int p1), (3, .int p2), (4, .int p3), (5, .int p4)] := hl
  have hf_77 := hts (.fieldLink RX5 77 "MajorityIndexModel" "thrown" "I") (List.mem_of_getElem? (i := 1) rfl)
  have hi_5 : ∀ w ∈ u_ws RX5 TX5 30, w ∈ wsX5_spares := fun w h => List.mem_cons_of_mem _ (List.mem_append_right _ h)
  refine lv_aload_n hx hb dX5_spares_0 rfl (lv_at hl 0 rfl) ?_
  refine lv_iconst (v := 0) hx hb dX5_spares_1 (by decide) ?_
  refine va_put (D := (dC, dI)) (ci := 5) (v := .int 0) (ty := .int) (C := RX5) (T := TX5) (N := 30) hx hb hts hi_5 tyX5 tyX5_ok nmX5 hown hK hP hD hS 0 rfl rfl 3 (by decide) hf_77 (fun _ h9 => h9) rfl (by decide +kernel) rfl rfl (Nat.le_of_ble_eq_true rfl) dX5_spares_2 (fun H locs hP hD hS => ?_)
  obtain ⟨hP, hD⟩ := kx_re (w2 := [kx_5 h0 g_row m_n m_slots 0 g_many g_loss g_less g_voteValue g_voteNumber g_allValue g_allNumber m_allMany g_nodeL g_nodeR m_nodes g_part m_partMany g_wasMany g_wasLoss g_wasValue g_wasNumber g_path m_pathMany g_heavyValue g_heavyTimes m_heavyMany g_fewest g_which g_met m_mostMet, kx_a g_row cyI 160 f]) hP hD rfl
  refine lv_iload_n hx hb dX5_spares_5 rfl (lv_at hl 1 rfl) ?_
  have hPc := hP.sub (ws' := []) [] rfl
  have hKc := hK.sub (tys' := []) [] rfl
  refine vp_callSi (W.runS (As := [.int p0]) (rest := []) ⟨hx, hb, hml, hown, hts⟩ (c_X5_isValue l dC dI p0) (va_cwS 1 hts gX5_spares_X5_isValue rfl rfl rfl (by decide +kernel) ⟨Nat.le_of_ble_eq_true rfl, Nat.le_of_ble_eq_true rfl⟩) ⟨fun a U g mk q => by obtain ⟨q0, qP, qK⟩ := q; exact ⟨q0, qP, va_K.moved (u := U) (U := U.calling g mk a) (Vm.Alike.refl U.vm) qK⟩, fun U hU hW => ⟨rfl, by rw [hU]; exact hPc, va_K.moved hW.alike hKc⟩⟩ rfl rfl hl.1 rfl (lv_room (Nat.le_of_ble_eq_true rfl)) dX5_spares_6 ⟨Nat.le_of_ble_eq_true rfl, Nat.le_of_ble_eq_true rfl⟩) (fun r_1 w_1 => ?_)
  rcases w_1 with ⟨rfl, w_1⟩ | ⟨rfl, w_1⟩
  · have w_1 : (-32768 ≤ p0.toInt ∧ p0.toInt ≤ 32767) := w_1
    refine lv_if_eq (tgt := 31) hx hb dX5_spares_9 (by decide) (fun c_2 => ?_) (fun c_2 => ?_)
    · exact absurd c_2 (by decide)
    · refine lv_aload_n hx hb dX5_spares_12 rfl (lv_at hl 0 rfl) ?_
      refine lv_iload_n hx hb dX5_spares_13 rfl (lv_at hl 2 rfl) ?_
      refine lv_iload_n hx hb dX5_spares_14 rfl (lv_at hl 3 rfl) ?_
      have hPc := hP.sub (ws' := [kx_5 h0 g_row m_n m_slots 0 g_many g_loss g_less g_voteValue g_voteNumber g_allValue g_allNumber m_allMany g_nodeL g_nodeR m_nodes g_part m_partMany g_wasMany g_wasLoss g_wasValue g_wasNumber g_path m_pathMany g_heavyValue g_heavyTimes m_heavyMany g_fewest g_which g_met m_mostMet]) [0] rfl
      have hKc := hK.sub (tys' := []) [] rfl
      refine vp_callSi (W.runV (As := [.int p1, .int p2]) (rest := []) ⟨hx, hb, hml, hown, hts⟩ (c_X5_isRange l dC dI h0 g_row g_many g_loss g_less g_voteValue g_voteNumber g_allValue g_allNumber g_nodeL g_nodeR g_part g_wasMany g_wasLoss g_wasValue g_wasNumber g_path g_heavyValue g_heavyTimes g_fewest g_which g_met m_n m_slots 0 m_allMany m_nodes m_partMany m_pathMany m_heavyMany m_mostMet p1 p2) (cwV 2 hts gX5_spares_X5_isRange rfl rfl rfl (by decide +kernel) ⟨Nat.le_of_ble_eq_true rfl, Nat.le_of_ble_eq_true rfl⟩) ⟨fun a U g mk q => by obtain ⟨q0, qP, qK⟩ := q; exact ⟨q0, qP, va_K.moved (u := U) (U := U.calling g mk a) (Vm.Alike.refl U.vm) qK⟩, kx_rc5 hKc hPc (q0 := 0) rfl, fun U hU hW => ⟨rfl, by rw [hU]; exact hPc, va_K.moved hW.alike hKc⟩⟩ rfl rfl hl.1 rfl (lv_room (Nat.le_of_ble_eq_true rfl)) dX5_spares_15 ⟨Nat.le_of_ble_eq_true rfl, Nat.le_of_ble_eq_true rfl⟩) (fun r_3 w_3 => ?_)
      rcases w_3 with ⟨rfl, w_3⟩ | ⟨rfl, w_3⟩
      · have w_3 : (0 ≤ p1.toInt ∧ p1.toInt < p2.toInt ∧ p2.toInt ≤ m_n.toInt) := w_3
        refine lv_if_eq (tgt := 31) hx hb dX5_spares_18 (by decide) (fun c_4 => ?_) (fun c_4 => ?_)
        · exact absurd c_4 (by decide)
        · refine lv_iload hx hb dX5_spares_21 (lv_at hl 4 rfl) ?_
          refine lv_iload hx hb dX5_spares_23 (lv_at hl 5 rfl) ?_
          have hPc := hP.sub (ws' := []) [] rfl
          have hKc := hK.sub (tys' := []) [] rfl
          refine vp_callSi (W.runS (As := [.int p3, .int p4]) (rest := []) ⟨hx, hb, hml, hown, hts⟩ (c_X5_isShare l dC dI p3 p4) (va_cwS 2 hts gX5_spares_X5_isShare rfl rfl rfl (by decide +kernel) ⟨Nat.le_of_ble_eq_true rfl, Nat.le_of_ble_eq_true rfl⟩) ⟨fun a U g mk q => by obtain ⟨q0, qP, qK⟩ := q; exact ⟨q0, qP, va_K.moved (u := U) (U := U.calling g mk a) (Vm.Alike.refl U.vm) qK⟩, fun U hU hW => ⟨rfl, by rw [hU]; exact hPc, va_K.moved hW.alike hKc⟩⟩ rfl rfl hl.1 rfl (lv_room (Nat.le_of_ble_eq_true rfl)) dX5_spares_25 ⟨Nat.le_of_ble_eq_true rfl, Nat.le_of_ble_eq_true rfl⟩) (fun r_5 w_5 => ?_)
          rcases w_5 with ⟨rfl, w_5⟩ | ⟨rfl, w_5⟩
          · have w_5 : (1 ≤ p3.toInt ∧ p3.toInt ≤ p4.toInt ∧ p4.toInt ≤ 999) := w_5
            refine lv_if_ne (tgt := 33) hx hb dX5_spares_28 (by decide) (fun c_6 => ?_) (fun c_6 => ?_)
            · refine lv_aload_n hx hb dX5_spares_33 rfl (lv_at hl 0 rfl) ?_
              refine lv_iload_n hx hb dX5_spares_34 rfl (lv_at hl 1 rfl) ?_
              refine lv_iload_n hx hb dX5_spares_35 rfl (lv_at hl 2 rfl) ?_
              refine lv_iload_n hx hb dX5_spares_36 rfl (lv_at hl 3 rfl) ?_
              have hPc := hP
              have hKc := hK
              refine vp_callSi (W.runV (As := [.int p0, .int p1, .int p2]) (rest := []) ⟨hx, hb, hml, hown, hts⟩ (c_X5_times l dC dI h0 g_row g_many g_loss g_less g_voteValue g_voteNumber g_allValue g_allNumber g_nodeL g_nodeR g_part g_wasMany g_wasLoss g_wasValue g_wasNumber g_path g_heavyValue g_heavyTimes g_fewest g_which g_met m_n m_slots 0 m_allMany m_nodes m_partMany m_pathMany m_heavyMany m_mostMet cyI f p0 p1 p2 (om_10 w_3.1) (om_167 a1 w_3.2.2)) (cwV 3 hts gX5_spares_X5_times rfl rfl rfl (by decide +kernel) ⟨Nat.le_of_ble_eq_true rfl, Nat.le_of_ble_eq_true rfl⟩) ⟨fun a U g mk q => by obtain ⟨q0, qP, qK⟩ := q; exact ⟨q0, qP, va_K.moved (u := U) (U := U.calling g mk a) (Vm.Alike.refl U.vm) qK⟩, kx_rc5 hKc hPc (q0 := 0) rfl, fun U hU hW => ⟨rfl, by rw [hU]; exact hPc, va_K.moved hW.alike hKc⟩⟩ rfl rfl hl.1 rfl (lv_room (Nat.le_of_ble_eq_true rfl)) dX5_spares_37 ⟨Nat.le_of_ble_eq_true rfl, Nat.le_of_ble_eq_true rfl⟩) (fun r_7 w_7 => ?_)
              have w_7 : r_7.toInt = (cnt f p0 p1.toNatClampNeg (p2.toInt - p1.toInt).toNat : Int) := w_7
              have hle := cnt_le f p0 p1.toNatClampNeg (p2.toInt - p1.toInt).toNat
              refine lv_istore (lv' := [(6, .int r_7), (0, .ref h0), (1, .int p0), (2, .int p1), (3, .int p2), (4, .int p3), (5, .int p4)]) hx hb dX5_spares_40 hl (by decide) rfl (fun ls hl => ?_)
              refine lv_iconst (v := 0) hx hb dX5_spares_42 (by decide) ?_
              refine lv_istore (lv' := [(7, .int 0), (6, .int r_7), (0, .ref h0), (1, .int p0), (2, .int p1), (3, .int p2), (4, .int p3), (5, .int p4)]) hx hb dX5_spares_43 hl (by decide) rfl (fun ls hl => ?_)
              have LP1 : ∀ (n : Nat) (k : Int32), (0 ≤ k.toInt) → (k.toInt ≤ r_7.toInt) → (r_7.toInt - k.toInt).toNat < n → ∀ (H : Heap) (locs : List Loc), va_P (dC, dI) vwCl [kx_5 h0 g_row m_n m_slots 0 g_many g_loss g_less g_voteValue g_voteNumber g_allValue g_allNumber m_allMany g_nodeL g_nodeR m_nodes g_part m_partMany g_wasMany g_wasLoss g_wasValue g_wasNumber g_path m_pathMany g_heavyValue g_heavyTimes m_heavyMany g_fewest g_which g_met m_mostMet, kx_a g_row cyI 160 f] H → va_D A [kx_5 h0 g_row m_n m_slots 0 g_many g_loss g_less g_voteValue g_voteNumber g_allValue g_allNumber m_allMany g_nodeL g_nodeR m_nodes g_part m_partMany g_wasMany g_wasLoss g_wasValue g_wasNumber g_path m_pathMany g_heavyValue g_heavyTimes m_heavyMany g_fewest g_which g_met m_mostMet, kx_a g_row cyI 160 f] → va_S A s.heap H locs → ∀ (ls : Array Slot), lv_has ls 8 [(7, .int k), (6, .int r_7), (0, .ref h0), (1, .int p0), (2, .int p1), (3, .int p2), (4, .int p3), (5, .int p4)] → W p l e (headSpec wsX5_spares ({ frames := 2, cells := 0, slots := 0, locals := 90 })).room s m ([.ref h0, .int p0, .int p1, .int p2, .int p3, .int p4] : List Value).toArray below meth c H locs 0 0 (MQ below (va_Qi (fun (r : Int32) (_ : Unit) => True) (fun (_ : Unit) (t : State) => va_P (dC, dI) vwCl [kx_5 h0 g_row m_n m_slots 0 g_many g_loss g_less g_voteValue g_voteNumber g_allValue g_allNumber m_allMany g_nodeL g_nodeR m_nodes g_part m_partMany g_wasMany g_wasLoss g_wasValue g_wasNumber g_path m_pathMany g_heavyValue g_heavyTimes m_heavyMany g_fewest g_which g_met m_mostMet, kx_a g_row cyI 160 f] t.heap ∧ va_K (dC, dI) vwCl [(cyI, .int)] t ∧ va_D A [kx_5 h0 g_row m_n m_slots 0 g_many g_loss g_less g_voteValue g_voteNumber g_allValue g_allNumber m_allMany g_nodeL g_nodeR m_nodes g_part m_partMany g_wasMany g_wasLoss g_wasValue g_wasNumber g_path m_pathMany g_heavyValue g_heavyTimes m_heavyMany g_fewest g_which g_met m_mostMet, kx_a g_row cyI 160 f]) A) ([.ref h0, .int p0, .int p1, .int p2, .int p3, .int p4] : List Value).toArray s 0 0 A) (F0 m 45 ls []) := by
                intro n
                induction n with
                | zero => intro k LP1_h0 LP1_h1 hn; exact absurd hn (Nat.not_lt_zero _)
                | succ n ih1 =>
                  intro k LP1_h0 LP1_h1 hn1 H locs hP hD hS ls hl
                  refine lv_iload hx hb dX5_spares_45 (lv_at hl 1 rfl) ?_
                  refine lv_iload hx hb dX5_spares_47 (lv_at hl 0 rfl) ?_
                  refine lv_isub hx hb dX5_spares_49 ?_
                  refine lv_topi (fun y_8 ey_8 => ?_)
                  have i_8 : y_8.toInt = r_7.toInt - k.toInt := ki_sub ey_8 rfl rfl (om_184 LP1_h1) (by omega)
                  refine lv_iload hx hb dX5_spares_50 (lv_at hl 7 rfl) ?_
                  refine lv_imul hx hb dX5_spares_52 ?_
                  refine lv_topi (fun y_9 ey_9 => ?_)
                  refine lv_iload hx hb dX5_spares_53 (lv_at hl 6 rfl) ?_
                  refine lv_iload_n hx hb dX5_spares_55 rfl (lv_at hl 5 rfl) ?_
                  refine lv_iload_n hx hb dX5_spares_56 rfl (lv_at hl 4 rfl) ?_
                  refine lv_isub hx hb dX5_spares_57 ?_
                  refine lv_topi (fun y_10 ey_10 => ?_)
                  have i_10 : y_10.toInt = p2.toInt - p1.toInt := ki_sub ey_10 rfl rfl (om_168 w_3.2.1) (om_169 a1 w_3.1 w_3.2.2)
                  refine lv_imul hx hb dX5_spares_58 ?_
                  refine lv_topi (fun y_11 ey_11 => ?_)
                  have b1 := ki_mulb (a := y_8.toInt) (b := p4.toInt) (A := 160) (B := 999) (by omega) (by omega) (by omega) (by omega)
                  have b2 := ki_mulb (a := p3.toInt) (b := y_10.toInt) (A := 999) (B := 160) (by omega) (by omega) (by omega) (by omega)
                  have m1 : y_9.toInt = y_8.toInt * p4.toInt := ki_mul ey_9 rfl rfl (by omega) (by omega)
                  have m2 : y_11.toInt = p3.toInt * y_10.toInt := ki_mul ey_11 rfl rfl (by omega) (by omega)
                  refine lv_icmp_le (tgt := 68) hx hb dX5_spares_59 (by decide) (fun c_12 => ?_) (fun c_12 => ?_)
                  · have i_12 : y_9.toInt ≤ y_11.toInt := kc_le c_12
                    refine lv_iload hx hb dX5_spares_68 (lv_at hl 0 rfl) ?_
                    have hP9 := hP
                    have hD9 := hD
                    have hK9 := hK
                    exact W.iret (v := k) hx hb hr (hlocks := hlocks) (fun t ht hW => ⟨⟨k, (), rfl, trivial, by rw [ht]; exact hP9, va_K.moved hW.alike hK9, hD9⟩, hS.F ht⟩) hS.2.2 dX5_spares_70
                  · have i_12 : y_11.toInt < y_9.toInt := kc_nle c_12
                    have h3 := ki_mulpos (z := p3.toInt * y_10.toInt) (a := y_8.toInt) (b := p4.toInt) (by omega) (by omega) (by omega)
                    obtain ⟨x_13, ex_13⟩ : ∃ y : Int32, y = k + 1 := ⟨_, rfl⟩
                    have i_13 : x_13.toInt = k.toInt + 1 := ki_add ex_13 rfl rfl (om_13 LP1_h0) (by omega)
                    refine lv_iinc (v := x_13) (lv' := [(7, .int x_13), (6, .int r_7), (0, .ref h0), (1, .int p0), (2, .int p1), (3, .int p2), (4, .int p3), (5, .int p4)]) hx hb dX5_spares_62 hl (k := 0) rfl (by rw [ex_13]; rfl) (by decide) rfl (fun ls hl => ?_)
                    refine lv_goto (tgt := 45) hx hb dX5_spares_65 (by decide) ?_
                    exact ih1 x_13 (om_34 LP1_h0 i_13) (by omega) (by omega) _ _ hP hD hS ls (lv_sub hl [0, 1, 2, 3, 4, 5, 6, 7] rfl)
              have k_14 : (0 : Int32).toInt = 0 := rfl
              exact LP1 ((r_7.toInt - 0 : Int).toNat + 1) 0 om_35 (by omega) (Nat.lt_succ_self _) _ _ hP hD hS ls (lv_sub hl [0, 1, 2, 3, 4, 5, 6, 7] rfl)
            · exact absurd c_6 (by decide)
          · have w_5 : (p3.toInt < 1 ∨ p4.toInt < p3.toInt ∨ 999 < p4.toInt) := w_5
            refine lv_if_ne (tgt := 33) hx hb dX5_spares_28 (by decide) (fun c_15 => ?_) (fun c_15 => ?_)
            · exact absurd c_15 (by decide)
            · refine lv_iconst (v := (-1)) hx hb dX5_spares_31 (by decide) ?_
              have hP9 := hP
              have hD9 := hD
              have hK9 := hK
              exact W.iret (v := (-1)) hx hb hr (hlocks := hlocks) (fun t ht hW => ⟨⟨(-1), (), rfl, trivial, by rw [ht]; exact hP9, va_K.moved hW.alike hK9, hD9⟩, hS.F ht⟩) hS.2.2 dX5_spares_32
      · have w_3 : (p1.toInt < 0 ∨ p2.toInt ≤ p1.toInt ∨ m_n.toInt < p2.toInt) := w_3
        refine lv_if_eq (tgt := 31) hx hb dX5_spares_18 (by decide) (fun c_16 => ?_) (fun c_16 => ?_)
        · refine lv_iconst (v := (-1)) hx hb dX5_spares_31 (by decide) ?_
          have hP9 := hP
          have hD9 := hD
          have hK9 := hK
          exact W.iret (v := (-1)) hx hb hr (hlocks := hlocks) (fun t ht hW => ⟨⟨(-1), (), rfl, trivial, by rw [ht]; exact hP9, va_K.moved hW.alike hK9, hD9⟩, hS.F ht⟩) hS.2.2 dX5_spares_32
        · exact absurd c_16 (by decide)
  · have w_1 : (p0.toInt < -32768 ∨ 32767 < p0.toInt) := w_1
    refine lv_if_eq (tgt := 31) hx hb dX5_spares_9 (by decide) (fun c_17 => ?_) (fun c_17 => ?_)
    · refine lv_iconst (v := (-1)) hx hb dX5_spares_31 (by decide) ?_
      have hP9 := hP
      have hD9 := hD
      have hK9 := hK
      exact W.iret (v := (-1)) hx hb hr (hlocks := hlocks) (fun t ht hW => ⟨⟨(-1), (), rfl, trivial, by rw [ht]; exact hP9, va_K.moved hW.alike hK9, hD9⟩, hS.F ht⟩) hS.2.2 dX5_spares_32
    · exact absurd c_17 (by decide)

set_option maxHeartbeats 4000000 in
set_option maxRecDepth 100000 in
theorem c_X5_swings (l : Launch) (dC : Nat → ClassId) (dI : Nat → Nat → Nat) (h0 : Nat) (g_row : Nat) (g_many : Nat) (g_loss : Nat) (g_less : Nat) (g_voteValue : Nat) (g_voteNumber : Nat) (g_allValue : Nat) (g_allNumber : Nat) (g_nodeL : Nat) (g_nodeR : Nat) (g_part : Nat) (g_wasMany : Nat) (g_wasLoss : Nat) (g_wasValue : Nat) (g_wasNumber : Nat) (g_path : Nat) (g_heavyValue : Nat) (g_heavyTimes : Nat) (g_fewest : Nat) (g_which : Nat) (g_met : Nat) (m_n : Int32) (m_slots : Int32) (m_thrown : Int32) (m_allMany : Int32) (m_nodes : Int32) (m_partMany : Int32) (m_pathMany : Int32) (m_heavyMany : Int32) (m_mostMet : Int32) (cyI : ClassId) (fm : Nat → Int32) (fl : Nat → Int32) (fe : Nat → Int32) (vv : Nat → Int32) (vn : Nat → Int32) (f : Nat → Int32) (av : Nat → Int32) (an : Nat → Int32) (nl : Nat → Int32) (nr : Nat → Int32) (p0 : Int32) (p1 : Int32) (p2 : Int32) (p3 : Int32) (sz : Nat) (a0 : 0 ≤ m_n.toInt) (a1 : m_n.toInt ≤ 160) (sl0 : 1 ≤ m_slots.toInt) (sl1 : m_slots.toInt ≤ 6) (s4 : six4 fm) : kx_MQ l (dC, dI) yX5_swings wsX5_swings ({ frames := 12, cells := 0, slots := 0, locals := 540 }) [.ref h0, .int p0, .int p1, .int p2, .int p3] [kx_5 h0 g_row m_n m_slots m_thrown g_many g_loss g_less g_voteValue g_voteNumber g_allValue g_allNumber m_allMany g_nodeL g_nodeR m_nodes g_part m_partMany g_wasMany g_wasLoss g_wasValue g_wasNumber g_path m_pathMany g_heavyValue g_heavyTimes m_heavyMany g_fewest g_which g_met m_mostMet, kx_a g_row cyI 160 f, kx_a g_many cyI 324 fm, kx_a g_loss cyI 324 fl, kx_a g_less cyI 324 fe, kx_a g_voteValue cyI 1944 vv, kx_a g_voteNumber cyI 1944 vn, kx_a g_allValue cyI 12 av, kx_a g_allNumber cyI 12 an, kx_a g_nodeL cyI 320 nl, kx_a g_nodeR cyI 320 nr] [(cyI, .int)] sz (fun A => va_Qi (fun (r : Int32) (u : Int32 × Int32 × (Nat → Int32) × (Nat → Int32) × (Nat → Int32) × (Nat → Int32) × (Nat → Int32) × (Nat → Int32) × (Nat → Int32) × (Nat → Int32) × (Nat → Int32) × (Nat → Int32)) => six4 u.2.2.1 ∧ u.2.2.2.2.2.2.2.2.2.2.2 = f) (fun (u : Int32 × Int32 × (Nat → Int32) × (Nat → Int32) × (Nat → Int32) × (Nat → Int32) × (Nat → Int32) × (Nat → Int32) × (Nat → Int32) × (Nat → Int32) × (Nat → Int32) × (Nat → Int32)) (t : State) => va_P (dC, dI) vwCl [kx_5 h0 g_row m_n m_slots 0 g_many g_loss g_less g_voteValue g_voteNumber g_allValue g_allNumber u.2.1 g_nodeL g_nodeR u.1 g_part m_partMany g_wasMany g_wasLoss g_wasValue g_wasNumber g_path m_pathMany g_heavyValue g_heavyTimes m_heavyMany g_fewest g_which g_met m_mostMet, kx_a g_row cyI 160 u.2.2.2.2.2.2.2.2.2.2.2, kx_a g_many cyI 324 u.2.2.1, kx_a g_loss cyI 324 u.2.2.2.1, kx_a g_less cyI 324 u.2.2.2.2.1, kx_a g_voteValue cyI 1944 u.2.2.2.2.2.1, kx_a g_voteNumber cyI 1944 u.2.2.2.2.2.2.1, kx_a g_allValue cyI 12 u.2.2.2.2.2.2.2.1, kx_a g_allNumber cyI 12 u.2.2.2.2.2.2.2.2.1, kx_a g_nodeL cyI 320 u.2.2.2.2.2.2.2.2.2.1, kx_a g_nodeR cyI 320 u.2.2.2.2.2.2.2.2.2.2.1] t.heap ∧ va_K (dC, dI) vwCl [(cyI, .int)] t ∧ va_D A [kx_5 h0 g_row m_n m_slots 0 g_many g_loss g_less g_voteValue g_voteNumber g_allValue g_allNumber u.2.1 g_nodeL g_nodeR u.1 g_part m_partMany g_wasMany g_wasLoss g_wasValue g_wasNumber g_path m_pathMany g_heavyValue g_heavyTimes m_heavyMany g_fewest g_which g_met m_mostMet, kx_a g_row cyI 160 u.2.2.2.2.2.2.2.2.2.2.2, kx_a g_many cyI 324 u.2.2.1, kx_a g_loss cyI 324 u.2.2.2.1, kx_a g_less cyI 324 u.2.2.2.2.1, kx_a g_voteValue cyI 1944 u.2.2.2.2.2.1, kx_a g_voteNumber cyI 1944 u.2.2.2.2.2.2.1, kx_a g_allValue cyI 12 u.2.2.2.2.2.2.2.1, kx_a g_allNumber cyI 12 u.2.2.2.2.2.2.2.2.1, kx_a g_nodeL cyI 320 u.2.2.2.2.2.2.2.2.2.1, kx_a g_nodeR cyI 320 u.2.2.2.2.2.2.2.2.2.2.1]) A) := by
  refine kx_stQ (ws := wsX5_swings) (cc := cX5_swings) (maxL := 10) (ret := (some .int)) (by decide) rfl (Nat.le_of_ble_eq_true rfl) ?_
  intro p e s m below meth c A ls hx hb hr hlocks hts hown hml hA hS hP hK hD hl
  have hown : s.vm.findClass RX5 = some m.cls := hown
  have hl : lv_has ls 10 [(0, .ref h0), (1, .int p0), (2, .int p1), (3, .int p2), (4, .int p3)] := hl
  have hf_77 := hts (.fieldLink RX5 77 "MajorityIndexModel" "thrown" "I") (List.mem_of_getElem? (i := 1) rfl)
  have hi_5 : ∀ w ∈ u_ws RX5 TX5 30, w ∈ wsX5_swings := fun w h => List.mem_cons_of_mem _ (List.mem_append_right _ h)
  have hf_7 := hts (.fieldLink RX5 7 "MajorityIndexModel" "row" "[I") (List.mem_of_getElem? (i := 2) rfl)
  have hf_13 := hts (.fieldLink RX5 13 "MajorityIndexModel" "slots" "I") (List.mem_of_getElem? (i := 3) rfl)
  refine lv_aload_n hx hb dX5_swings_0 rfl (lv_at hl 0 rfl) ?_
  refine lv_iconst (v := 0) hx hb dX5_swings_1 (by decide) ?_
  refine va_put (D := (dC, dI)) (ci := 5) (v := .int 0) (ty := .int) (C := RX5) (T := TX5) (N := 30) hx hb hts hi_5 tyX5 tyX5_ok nmX5 hown hK hP hD hS 0 rfl rfl 3 (by decide) hf_77 (fun _ h9 => h9) rfl (by decide +kernel) rfl rfl (Nat.le_of_ble_eq_true rfl) dX5_swings_2 (fun H locs hP hD hS => ?_)
  obtain ⟨hP, hD⟩ := kx_re (w2 := [kx_5 h0 g_row m_n m_slots 0 g_many g_loss g_less g_voteValue g_voteNumber g_allValue g_allNumber m_allMany g_nodeL g_nodeR m_nodes g_part m_partMany g_wasMany g_wasLoss g_wasValue g_wasNumber g_path m_pathMany g_heavyValue g_heavyTimes m_heavyMany g_fewest g_which g_met m_mostMet, kx_a g_row cyI 160 f, kx_a g_many cyI 324 fm, kx_a g_loss cyI 324 fl, kx_a g_less cyI 324 fe, kx_a g_voteValue cyI 1944 vv, kx_a g_voteNumber cyI 1944 vn, kx_a g_allValue cyI 12 av, kx_a g_allNumber cyI 12 an, kx_a g_nodeL cyI 320 nl, kx_a g_nodeR cyI 320 nr]) hP hD rfl
  refine lv_aload_n hx hb dX5_swings_5 rfl (lv_at hl 0 rfl) ?_
  refine lv_iload_n hx hb dX5_swings_6 rfl (lv_at hl 1 rfl) ?_
  refine lv_iload_n hx hb dX5_swings_7 rfl (lv_at hl 2 rfl) ?_
  have hPc := hP.sub (ws' := [kx_5 h0 g_row m_n m_slots 0 g_many g_loss g_less g_voteValue g_voteNumber g_allValue g_allNumber m_allMany g_nodeL g_nodeR m_nodes g_part m_partMany g_wasMany g_wasLoss g_wasValue g_wasNumber g_path m_pathMany g_heavyValue g_heavyTimes m_heavyMany g_fewest g_which g_met m_mostMet]) [0] rfl
  have hKc := hK.sub (tys' := []) [] rfl
  refine vp_callSi (W.runV (As := [.int p0, .int p1]) (rest := []) ⟨hx, hb, hml, hown, hts⟩ (c_X5_isRange l dC dI h0 g_row g_many g_loss g_less g_voteValue g_voteNumber g_allValue g_allNumber g_nodeL g_nodeR g_part g_wasMany g_wasLoss g_wasValue g_wasNumber g_path g_heavyValue g_heavyTimes g_fewest g_which g_met m_n m_slots 0 m_allMany m_nodes m_partMany m_pathMany m_heavyMany m_mostMet p0 p1) (cwV 2 hts gX5_swings_X5_isRange rfl rfl rfl (by decide +kernel) ⟨Nat.le_of_ble_eq_true rfl, Nat.le_of_ble_eq_true rfl⟩) ⟨fun a U g mk q => by obtain ⟨q0, qP, qK⟩ := q; exact ⟨q0, qP, va_K.moved (u := U) (U := U.calling g mk a) (Vm.Alike.refl U.vm) qK⟩, kx_rc5 hKc hPc (q0 := 0) rfl, fun U hU hW => ⟨rfl, by rw [hU]; exact hPc, va_K.moved hW.alike hKc⟩⟩ rfl rfl hl.1 rfl (lv_room (Nat.le_of_ble_eq_true rfl)) dX5_swings_8 ⟨Nat.le_of_ble_eq_true rfl, Nat.le_of_ble_eq_true rfl⟩) (fun r_1 w_1 => ?_)
  rcases w_1 with ⟨rfl, w_1⟩ | ⟨rfl, w_1⟩
  · have w_1 : (0 ≤ p0.toInt ∧ p0.toInt < p1.toInt ∧ p1.toInt ≤ m_n.toInt) := w_1
    refine lv_if_eq (tgt := 39) hx hb dX5_swings_11 (by decide) (fun c_2 => ?_) (fun c_2 => ?_)
    · exact absurd c_2 (by decide)
    · refine lv_iload_n hx hb dX5_swings_14 rfl (lv_at hl 2 rfl) ?_
      refine lv_iload_n hx hb dX5_swings_15 rfl (lv_at hl 1 rfl) ?_
      refine lv_isub hx hb dX5_swings_16 ?_
      refine lv_topi (fun y_3 ey_3 => ?_)
      have i_3 : y_3.toInt = p1.toInt - p0.toInt := ki_sub ey_3 rfl rfl (om_168 w_1.2.1) (om_169 a1 w_1.1 w_1.2.2)
      refine lv_bipush (v := 40) hx hb dX5_swings_17 (by decide) ?_
      refine lv_icmp_gt (tgt := 39) hx hb dX5_swings_19 (by decide) (fun c_4 => ?_) (fun c_4 => ?_)
      · have i_4 : 40 < y_3.toInt := kc_lt c_4
        refine lv_iconst (v := (-1)) hx hb dX5_swings_39 (by decide) ?_
        have hP9 := hP
        have hD9 := hD
        have hK9 := hK
        exact W.iret (v := (-1)) hx hb hr (hlocks := hlocks) (fun t ht hW => ⟨⟨(-1), (m_nodes, m_allMany, fm, fl, fe, vv, vn, av, an, nl, nr, f), rfl, ⟨s4, rfl⟩, by rw [ht]; exact hP9, va_K.moved hW.alike hK9, hD9⟩, hS.F ht⟩) hS.2.2 dX5_swings_40
      · have i_4 : y_3.toInt ≤ 40 := kc_nlt c_4
        refine lv_iload_n hx hb dX5_swings_22 rfl (lv_at hl 3 rfl) ?_
        have hPc := hP.sub (ws' := []) [] rfl
        have hKc := hK.sub (tys' := []) [] rfl
        refine vp_callSi (W.runS (As := [.int p2]) (rest := []) ⟨hx, hb, hml, hown, hts⟩ (c_X5_isValue l dC dI p2) (va_cwS 1 hts gX5_swings_X5_isValue rfl rfl rfl (by decide +kernel) ⟨Nat.le_of_ble_eq_true rfl, Nat.le_of_ble_eq_true rfl⟩) ⟨fun a U g mk q => by obtain ⟨q0, qP, qK⟩ := q; exact ⟨q0, qP, va_K.moved (u := U) (U := U.calling g mk a) (Vm.Alike.refl U.vm) qK⟩, fun U hU hW => ⟨rfl, by rw [hU]; exact hPc, va_K.moved hW.alike hKc⟩⟩ rfl rfl hl.1 rfl (lv_room (Nat.le_of_ble_eq_true rfl)) dX5_swings_23 ⟨Nat.le_of_ble_eq_true rfl, Nat.le_of_ble_eq_true rfl⟩) (fun r_5 w_5 => ?_)
        rcases w_5 with ⟨rfl, w_5⟩ | ⟨rfl, w_5⟩
        · have w_5 : (-32768 ≤ p2.toInt ∧ p2.toInt ≤ 32767) := w_5
          refine lv_if_eq (tgt := 39) hx hb dX5_swings_26 (by decide) (fun c_6 => ?_) (fun c_6 => ?_)
          · exact absurd c_6 (by decide)
          · refine lv_iload hx hb dX5_swings_29 (lv_at hl 4 rfl) ?_
            refine lv_iconst (v := 0) hx hb dX5_swings_31 (by decide) ?_
            refine lv_iconst (v := 1) hx hb dX5_swings_32 (by decide) ?_
            have hPc := hP.sub (ws' := []) [] rfl
            have hKc := hK.sub (tys' := []) [] rfl
            refine vp_callSi (W.runS (As := [.int p3, .int 0, .int 1]) (rest := []) ⟨hx, hb, hml, hown, hts⟩ (c_X5_within l dC dI p3 0 1) (va_cwS 3 hts gX5_swings_X5_within rfl rfl rfl (by decide +kernel) ⟨Nat.le_of_ble_eq_true rfl, Nat.le_of_ble_eq_true rfl⟩) ⟨fun a U g mk q => by obtain ⟨q0, qP, qK⟩ := q; exact ⟨q0, qP, va_K.moved (u := U) (U := U.calling g mk a) (Vm.Alike.refl U.vm) qK⟩, fun U hU hW => ⟨rfl, by rw [hU]; exact hPc, va_K.moved hW.alike hKc⟩⟩ rfl rfl hl.1 rfl (lv_room (Nat.le_of_ble_eq_true rfl)) dX5_swings_33 ⟨Nat.le_of_ble_eq_true rfl, Nat.le_of_ble_eq_true rfl⟩) (fun r_7 w_7 => ?_)
            rcases w_7 with ⟨rfl, w_7⟩ | ⟨rfl, w_7⟩
            · have w_7 : (0 ≤ p3.toInt ∧ p3.toInt ≤ 1) := w_7
              refine lv_if_ne (tgt := 41) hx hb dX5_swings_36 (by decide) (fun c_8 => ?_) (fun c_8 => ?_)
              · refine lv_iconst (v := (-1)) hx hb dX5_swings_41 (by decide) ?_
                refine lv_istore (lv' := [(5, .int (-1)), (0, .ref h0), (1, .int p0), (2, .int p1), (3, .int p2), (4, .int p3)]) hx hb dX5_swings_42 hl (by decide) rfl (fun ls hl => ?_)
                refine lv_iconst (v := (-1)) hx hb dX5_swings_44 (by decide) ?_
                refine lv_istore (lv' := [(6, .int (-1)), (5, .int (-1)), (0, .ref h0), (1, .int p0), (2, .int p1), (3, .int p2), (4, .int p3)]) hx hb dX5_swings_45 hl (by decide) rfl (fun ls hl => ?_)
                refine lv_iload_n hx hb dX5_swings_47 rfl (lv_at hl 3 rfl) ?_
                refine lv_istore (lv' := [(7, .int p0), (6, .int (-1)), (5, .int (-1)), (0, .ref h0), (1, .int p0), (2, .int p1), (3, .int p2), (4, .int p3)]) hx hb dX5_swings_48 hl (by decide) rfl (fun ls hl => ?_)
                have LP1 : ∀ (n : Nat) (i : Int32) (bp : Int32) (bt : Int32) (gc : Nat → Int32) (x_nd : Int32) (x_am : Int32) (x_m : Nat → Int32) (x_l : Nat → Int32) (x_e : Nat → Int32) (x_vv : Nat → Int32) (x_vn : Nat → Int32) (x_av : Nat → Int32) (x_an : Nat → Int32) (x_nl : Nat → Int32) (x_nr : Nat → Int32), (p0.toInt ≤ i.toInt) → (six4 x_m) → (gc = f) → (p1.toInt - i.toInt).toNat < n → ∀ (H : Heap) (locs : List Loc), va_P (dC, dI) vwCl [kx_5 h0 g_row m_n m_slots 0 g_many g_loss g_less g_voteValue g_voteNumber g_allValue g_allNumber x_am g_nodeL g_nodeR x_nd g_part m_partMany g_wasMany g_wasLoss g_wasValue g_wasNumber g_path m_pathMany g_heavyValue g_heavyTimes m_heavyMany g_fewest g_which g_met m_mostMet, kx_a g_row cyI 160 gc, kx_a g_many cyI 324 x_m, kx_a g_loss cyI 324 x_l, kx_a g_less cyI 324 x_e, kx_a g_voteValue cyI 1944 x_vv, kx_a g_voteNumber cyI 1944 x_vn, kx_a g_allValue cyI 12 x_av, kx_a g_allNumber cyI 12 x_an, kx_a g_nodeL cyI 320 x_nl, kx_a g_nodeR cyI 320 x_nr] H → va_D A [kx_5 h0 g_row m_n m_slots 0 g_many g_loss g_less g_voteValue g_voteNumber g_allValue g_allNumber x_am g_nodeL g_nodeR x_nd g_part m_partMany g_wasMany g_wasLoss g_wasValue g_wasNumber g_path m_pathMany g_heavyValue g_heavyTimes m_heavyMany g_fewest g_which g_met m_mostMet, kx_a g_row cyI 160 gc, kx_a g_many cyI 324 x_m, kx_a g_loss cyI 324 x_l, kx_a g_less cyI 324 x_e, kx_a g_voteValue cyI 1944 x_vv, kx_a g_voteNumber cyI 1944 x_vn, kx_a g_allValue cyI 12 x_av, kx_a g_allNumber cyI 12 x_an, kx_a g_nodeL cyI 320 x_nl, kx_a g_nodeR cyI 320 x_nr] → va_S A s.heap H locs → ∀ (ls : Array Slot), lv_has ls 10 [(7, .int i), (6, .int bt), (5, .int bp), (0, .ref h0), (1, .int p0), (2, .int p1), (3, .int p2), (4, .int p3)] → W p l e (headSpec wsX5_swings ({ frames := 12, cells := 0, slots := 0, locals := 540 })).room s m ([.ref h0, .int p0, .int p1, .int p2, .int p3] : List Value).toArray below meth c H locs 0 0 (MQ below (va_Qi (fun (r : Int32) (u : Int32 × Int32 × (Nat → Int32) × (Nat → Int32) × (Nat → Int32) × (Nat → Int32) × (Nat → Int32) × (Nat → Int32) × (Nat → Int32) × (Nat → Int32) × (Nat → Int32) × (Nat → Int32)) => six4 u.2.2.1 ∧ u.2.2.2.2.2.2.2.2.2.2.2 = f) (fun (u : Int32 × Int32 × (Nat → Int32) × (Nat → Int32) × (Nat → Int32) × (Nat → Int32) × (Nat → Int32) × (Nat → Int32) × (Nat → Int32) × (Nat → Int32) × (Nat → Int32) × (Nat → Int32)) (t : State) => va_P (dC, dI) vwCl [kx_5 h0 g_row m_n m_slots 0 g_many g_loss g_less g_voteValue g_voteNumber g_allValue g_allNumber u.2.1 g_nodeL g_nodeR u.1 g_part m_partMany g_wasMany g_wasLoss g_wasValue g_wasNumber g_path m_pathMany g_heavyValue g_heavyTimes m_heavyMany g_fewest g_which g_met m_mostMet, kx_a g_row cyI 160 u.2.2.2.2.2.2.2.2.2.2.2, kx_a g_many cyI 324 u.2.2.1, kx_a g_loss cyI 324 u.2.2.2.1, kx_a g_less cyI 324 u.2.2.2.2.1, kx_a g_voteValue cyI 1944 u.2.2.2.2.2.1, kx_a g_voteNumber cyI 1944 u.2.2.2.2.2.2.1, kx_a g_allValue cyI 12 u.2.2.2.2.2.2.2.1, kx_a g_allNumber cyI 12 u.2.2.2.2.2.2.2.2.1, kx_a g_nodeL cyI 320 u.2.2.2.2.2.2.2.2.2.1, kx_a g_nodeR cyI 320 u.2.2.2.2.2.2.2.2.2.2.1] t.heap ∧ va_K (dC, dI) vwCl [(cyI, .int)] t ∧ va_D A [kx_5 h0 g_row m_n m_slots 0 g_many g_loss g_less g_voteValue g_voteNumber g_allValue g_allNumber u.2.1 g_nodeL g_nodeR u.1 g_part m_partMany g_wasMany g_wasLoss g_wasValue g_wasNumber g_path m_pathMany g_heavyValue g_heavyTimes m_heavyMany g_fewest g_which g_met m_mostMet, kx_a g_row cyI 160 u.2.2.2.2.2.2.2.2.2.2.2, kx_a g_many cyI 324 u.2.2.1, kx_a g_loss cyI 324 u.2.2.2.1, kx_a g_less cyI 324 u.2.2.2.2.1, kx_a g_voteValue cyI 1944 u.2.2.2.2.2.1, kx_a g_voteNumber cyI 1944 u.2.2.2.2.2.2.1, kx_a g_allValue cyI 12 u.2.2.2.2.2.2.2.1, kx_a g_allNumber cyI 12 u.2.2.2.2.2.2.2.2.1, kx_a g_nodeL cyI 320 u.2.2.2.2.2.2.2.2.2.1, kx_a g_nodeR cyI 320 u.2.2.2.2.2.2.2.2.2.2.1]) A) ([.ref h0, .int p0, .int p1, .int p2, .int p3] : List Value).toArray s 0 0 A) (F0 m 50 ls []) := by
                  intro n
                  induction n with
                  | zero => intro i bp bt gc x_nd x_am x_m x_l x_e x_vv x_vn x_av x_an x_nl x_nr LP1_h0 LP1_h1 LP1_h2 hn; exact absurd hn (Nat.not_lt_zero _)
                  | succ n ih1 =>
                    intro i bp bt gc x_nd x_am x_m x_l x_e x_vv x_vn x_av x_an x_nl x_nr LP1_h0 LP1_h1 LP1_h2 hn1 H locs hP hD hS ls hl
                    refine lv_iload hx hb dX5_swings_50 (lv_at hl 0 rfl) ?_
                    refine lv_iload_n hx hb dX5_swings_52 rfl (lv_at hl 5 rfl) ?_
                    refine lv_icmp_ge (tgt := 121) hx hb dX5_swings_53 (by decide) (fun c_9 => ?_) (fun c_9 => ?_)
                    · have i_9 : p1.toInt ≤ i.toInt := kc_le c_9
                      refine lv_iload hx hb dX5_swings_121 (lv_at hl 7 rfl) ?_
                      refine lv_if_ne (tgt := 131) hx hb dX5_swings_123 (by decide) (fun c_10 => ?_) (fun c_10 => ?_)
                      · have i_10 : ¬ p3.toInt = 0 := kc_ne c_10
                        refine lv_iload hx hb dX5_swings_131 (lv_at hl 1 rfl) ?_
                        have hP9 := hP
                        have hD9 := hD
                        have hK9 := hK
                        exact W.iret (v := bt) hx hb hr (hlocks := hlocks) (fun t ht hW => ⟨⟨bt, (x_nd, x_am, x_m, x_l, x_e, x_vv, x_vn, x_av, x_an, x_nl, x_nr, gc), rfl, ⟨LP1_h1, LP1_h2⟩, by rw [ht]; exact hP9, va_K.moved hW.alike hK9, hD9⟩, hS.F ht⟩) hS.2.2 dX5_swings_133
                      · have i_10 : p3.toInt = 0 := kc_eq c_10
                        refine lv_iload hx hb dX5_swings_126 (lv_at hl 2 rfl) ?_
                        refine lv_goto (tgt := 133) hx hb dX5_swings_128 (by decide) ?_
                        have hP9 := hP
                        have hD9 := hD
                        have hK9 := hK
                        exact W.iret (v := bp) hx hb hr (hlocks := hlocks) (fun t ht hW => ⟨⟨bp, (x_nd, x_am, x_m, x_l, x_e, x_vv, x_vn, x_av, x_an, x_nl, x_nr, gc), rfl, ⟨LP1_h1, LP1_h2⟩, by rw [ht]; exact hP9, va_K.moved hW.alike hK9, hD9⟩, hS.F ht⟩) hS.2.2 dX5_swings_133
                    · have i_9 : i.toInt < p1.toInt := kc_nle c_9
                      refine lv_aload_n hx hb dX5_swings_56 rfl (lv_at hl 3 rfl) ?_
                      refine va_get (D := (dC, dI)) (ci := 5) (v := .ref g_row) (C := RX5) (T := TX5) (N := 30) hx hb hts hi_5 hown hK hP 0 rfl rfl 0 (by decide) hf_7 (fun _ h9 => h9) rfl dX5_swings_57 ?_
                      refine lv_iload hx hb dX5_swings_60 (lv_at hl 0 rfl) ?_
                      refine va_iald hx hb hK hP 1 0 rfl rfl (ki_in (om_0 w_1.1 LP1_h0) (om_430 a1 w_1.2.2 i_9)) dX5_swings_62 ?_
                      refine lv_topi (fun y_11 ey_11 => ?_)
                      have j_11 : y_11.toInt = (gc i.toNatClampNeg).toInt := congrArg Int32.toInt ey_11
                      refine lv_istore (lv' := [(8, .int y_11), (7, .int i), (6, .int bt), (5, .int bp), (0, .ref h0), (1, .int p0), (2, .int p1), (3, .int p2), (4, .int p3)]) hx hb dX5_swings_63 hl (by decide) rfl (fun ls hl => ?_)
                      refine lv_aload_n hx hb dX5_swings_65 rfl (lv_at hl 4 rfl) ?_
                      refine va_get (D := (dC, dI)) (ci := 5) (v := .ref g_row) (C := RX5) (T := TX5) (N := 30) hx hb hts hi_5 hown hK hP 0 rfl rfl 0 (by decide) hf_7 (fun _ h9 => h9) rfl dX5_swings_66 ?_
                      refine lv_iload hx hb dX5_swings_69 (lv_at hl 1 rfl) ?_
                      refine lv_iload_n hx hb dX5_swings_71 rfl (lv_at hl 7 rfl) ?_
                      refine va_iast hx hb hK hP hD hS 1 0 rfl rfl (ki_in (om_0 w_1.1 LP1_h0) (om_430 a1 w_1.2.2 i_9)) dX5_swings_72 (fun H locs hP hD hS => ?_)
                      obtain ⟨hP, hD⟩ := kx_re (w2 := [kx_5 h0 g_row m_n m_slots 0 g_many g_loss g_less g_voteValue g_voteNumber g_allValue g_allNumber x_am g_nodeL g_nodeR x_nd g_part m_partMany g_wasMany g_wasLoss g_wasValue g_wasNumber g_path m_pathMany g_heavyValue g_heavyTimes m_heavyMany g_fewest g_which g_met m_mostMet, kx_a g_row cyI 160 (upd gc i.toNatClampNeg p2), kx_a g_many cyI 324 x_m, kx_a g_loss cyI 324 x_l, kx_a g_less cyI 324 x_e, kx_a g_voteValue cyI 1944 x_vv, kx_a g_voteNumber cyI 1944 x_vn, kx_a g_allValue cyI 12 x_av, kx_a g_allNumber cyI 12 x_an, kx_a g_nodeL cyI 320 x_nl, kx_a g_nodeR cyI 320 x_nr]) hP hD rfl
                      refine lv_aload_n hx hb dX5_swings_73 rfl (lv_at hl 4 rfl) ?_
                      refine lv_aload_n hx hb dX5_swings_74 rfl (lv_at hl 4 rfl) ?_
                      refine va_get (D := (dC, dI)) (ci := 5) (v := .int m_slots) (C := RX5) (T := TX5) (N := 30) hx hb hts hi_5 hown hK hP 0 rfl rfl 2 (by decide) hf_13 (fun _ h9 => h9) rfl dX5_swings_75 ?_
                      have hPc := hP
                      have hKc := hK
                      have hDc := hD
                      have hFc := kx_free hD hS hA
                      refine va_callv (va_runV (As := [.int m_slots]) (rest := []) ⟨hx, hb, hml, hown, hts⟩ (kx_un (c_X5_laysAll l dC dI h0 g_row g_many g_loss g_less g_voteValue g_voteNumber g_allValue g_allNumber g_nodeL g_nodeR g_part g_wasMany g_wasLoss g_wasValue g_wasNumber g_path g_heavyValue g_heavyTimes g_fewest g_which g_met m_n m_slots 0 x_am x_nd m_partMany m_pathMany m_heavyMany m_mostMet cyI x_m x_l x_e x_vv x_vn (upd gc i.toNatClampNeg p2) x_av x_an x_nl x_nr m_slots H.size a0 a1 sl0 sl1 LP1_h1)) (cwV 1 hts gX5_swings_X5_laysAll rfl rfl rfl (by decide +kernel) ⟨Nat.le_of_ble_eq_true rfl, Nat.le_of_ble_eq_true rfl⟩) ⟨fun a U g mk q => by obtain ⟨q0, q1, qP, qK, qD⟩ := q; exact ⟨q0, q1, qP, va_K.moved (u := U) (U := U.calling g mk a) (Vm.Alike.refl U.vm) qK, qD⟩, kx_rc5 hKc hPc (q0 := 0) rfl, fun U hU hW => ⟨rfl, by rw [hU], by rw [hU]; exact hPc, va_K.moved hW.alike hKc, hDc.weaken (fun _ _ _ _ => trivial)⟩⟩ rfl rfl hl.1 rfl (lv_room (Nat.le_of_ble_eq_true rfl)) dX5_swings_78 ⟨Nat.le_of_ble_eq_true rfl, Nat.le_of_ble_eq_true rfl⟩) hS (fun q _ h => hFc q h) hFc (fun u t H1 locs ht hvm w_12 hB hz1 hk1 hS => ?_)
                      obtain ⟨o_13, o_14, o_15, o_16, o_17, o_18, o_19, o_20, o_21, o_22, o_23⟩ := u
                      dsimp only at w_12 hB
                      obtain ⟨hP1, hK1, hD1⟩ := hB
                      rw [ht] at hP1
                      have hK1 := va_K.moved hvm.symm hK1
                      have hD := hD1.weaken (fun _ q _ h => hFc q.1 h)
                      have hP := hP1
                      clear hP1 hD1 hK1 hk1 hz1 hFc hDc hPc hKc
                      generalize H1 = H at hP hS ⊢
                      have w_12 : mj_L m_slots.toNatClampNeg (upd gc i.toNatClampNeg p2) o_22 o_23 o_15 o_16 o_17 o_18 o_19 m_n.toInt o_13.toInt ∧ six4 o_15 ∧ 0 ≤ o_13.toInt ∧ o_13.toInt ≤ 319 := w_12
                      refine lv_aload_n hx hb dX5_swings_81 rfl (lv_at hl 4 rfl) ?_
                      refine va_get (D := (dC, dI)) (ci := 5) (v := .ref g_row) (C := RX5) (T := TX5) (N := 30) hx hb hts hi_5 hown hK hP 0 rfl rfl 0 (by decide) hf_7 (fun _ h9 => h9) rfl dX5_swings_82 ?_
                      refine lv_iload hx hb dX5_swings_85 (lv_at hl 1 rfl) ?_
                      refine lv_iload hx hb dX5_swings_87 (lv_at hl 0 rfl) ?_
                      refine va_iast hx hb hK hP hD hS 1 0 rfl rfl (ki_in (om_0 w_1.1 LP1_h0) (om_430 a1 w_1.2.2 i_9)) dX5_swings_89 (fun H locs hP hD hS => ?_)
                      obtain ⟨hP, hD⟩ := kx_re (w2 := [kx_5 h0 g_row m_n m_slots 0 g_many g_loss g_less g_voteValue g_voteNumber g_allValue g_allNumber o_14 g_nodeL g_nodeR o_13 g_part m_partMany g_wasMany g_wasLoss g_wasValue g_wasNumber g_path m_pathMany g_heavyValue g_heavyTimes m_heavyMany g_fewest g_which g_met m_mostMet, kx_a g_row cyI 160 (upd (upd gc i.toNatClampNeg p2) i.toNatClampNeg y_11), kx_a g_many cyI 324 o_15, kx_a g_loss cyI 324 o_16, kx_a g_less cyI 324 o_17, kx_a g_voteValue cyI 1944 o_18, kx_a g_voteNumber cyI 1944 o_19, kx_a g_allValue cyI 12 o_20, kx_a g_allNumber cyI 12 o_21, kx_a g_nodeL cyI 320 o_22, kx_a g_nodeR cyI 320 o_23]) hP hD rfl
                      refine lv_aload_n hx hb dX5_swings_90 rfl (lv_at hl 4 rfl) ?_
                      refine lv_iconst (v := 0) hx hb dX5_swings_91 (by decide) ?_
                      have hPc := hP.sub (ws' := [kx_5 h0 g_row m_n m_slots 0 g_many g_loss g_less g_voteValue g_voteNumber g_allValue g_allNumber o_14 g_nodeL g_nodeR o_13 g_part m_partMany g_wasMany g_wasLoss g_wasValue g_wasNumber g_path m_pathMany g_heavyValue g_heavyTimes m_heavyMany g_fewest g_which g_met m_mostMet, kx_a g_many cyI 324 o_15, kx_a g_voteNumber cyI 1944 o_19]) [0, 2, 6] rfl
                      have hKc := hK
                      have k_24 : (0 : Int32).toInt = 0 := rfl
                      refine vp_callSi (W.runV (As := [.int 0]) (rest := []) ⟨hx, hb, hml, hown, hts⟩ (c_X5_numbersOf l dC dI h0 g_row g_many g_loss g_less g_voteValue g_voteNumber g_allValue g_allNumber g_nodeL g_nodeR g_part g_wasMany g_wasLoss g_wasValue g_wasNumber g_path g_heavyValue g_heavyTimes g_fewest g_which g_met m_n m_slots 0 o_14 o_13 m_partMany m_pathMany m_heavyMany m_mostMet cyI o_15 o_19 0 om_35 om_446 w_12.2.1) (cwV 1 hts gX5_swings_X5_numbersOf rfl rfl rfl (by decide +kernel) ⟨Nat.le_of_ble_eq_true rfl, Nat.le_of_ble_eq_true rfl⟩) ⟨fun a U g mk q => by obtain ⟨q0, qP, qK⟩ := q; exact ⟨q0, qP, va_K.moved (u := U) (U := U.calling g mk a) (Vm.Alike.refl U.vm) qK⟩, kx_rc5 hKc hPc (q0 := 0) rfl, fun U hU hW => ⟨rfl, by rw [hU]; exact hPc, va_K.moved hW.alike hKc⟩⟩ rfl rfl hl.1 rfl (lv_room (Nat.le_of_ble_eq_true rfl)) dX5_swings_92 ⟨Nat.le_of_ble_eq_true rfl, Nat.le_of_ble_eq_true rfl⟩) (fun r_25 w_25 => ?_)
                      refine lv_istore (lv' := [(9, .int r_25), (8, .int y_11), (7, .int i), (6, .int bt), (5, .int bp), (0, .ref h0), (1, .int p0), (2, .int p1), (3, .int p2), (4, .int p3)]) hx hb dX5_swings_95 hl (by decide) rfl (fun ls hl => ?_)
                      refine lv_iload hx hb dX5_swings_97 (lv_at hl 0 rfl) ?_
                      refine lv_iload hx hb dX5_swings_99 (lv_at hl 3 rfl) ?_
                      refine lv_icmp_gt (tgt := 107) hx hb dX5_swings_101 (by decide) (fun c_26 => ?_) (fun c_26 => ?_)
                      · have i_26 : bt.toInt < r_25.toInt := kc_lt c_26
                        refine lv_iload hx hb dX5_swings_107 (lv_at hl 2 rfl) ?_
                        refine lv_istore (lv' := [(5, .int i), (9, .int r_25), (8, .int y_11), (7, .int i), (6, .int bt), (0, .ref h0), (1, .int p0), (2, .int p1), (3, .int p2), (4, .int p3)]) hx hb dX5_swings_109 hl (by decide) rfl (fun ls hl => ?_)
                        refine lv_iload hx hb dX5_swings_111 (lv_at hl 1 rfl) ?_
                        refine lv_istore (lv' := [(6, .int r_25), (5, .int i), (9, .int r_25), (8, .int y_11), (7, .int i), (0, .ref h0), (1, .int p0), (2, .int p1), (3, .int p2), (4, .int p3)]) hx hb dX5_swings_113 hl (by decide) rfl (fun ls hl => ?_)
                        obtain ⟨x_27, ex_27⟩ : ∃ y : Int32, y = i + 1 := ⟨_, rfl⟩
                        have i_27 : x_27.toInt = i.toInt + 1 := ki_add ex_27 rfl rfl (om_2 w_1.1 LP1_h0) (om_172 a1 w_1.2.2 i_9)
                        refine lv_iinc (v := x_27) (lv' := [(7, .int x_27), (6, .int r_25), (5, .int i), (9, .int r_25), (8, .int y_11), (0, .ref h0), (1, .int p0), (2, .int p1), (3, .int p2), (4, .int p3)]) hx hb dX5_swings_115 hl (k := 4) rfl (by rw [ex_27]; rfl) (by decide) rfl (fun ls hl => ?_)
                        refine lv_goto (tgt := 50) hx hb dX5_swings_118 (by decide) ?_
                        exact ih1 x_27 i r_25 (upd (upd gc i.toNatClampNeg p2) i.toNatClampNeg y_11) o_13 o_14 o_15 o_16 o_17 o_18 o_19 o_20 o_21 o_22 o_23 (om_4 LP1_h0 i_27) w_12.2.1 (by rw [ey_11, upd_back]; exact LP1_h2) (om_mu hn1 (om_5 i_27) (om_6 i_9)) _ _ hP hD hS ls (lv_sub hl [0, 1, 2, 5, 6, 7, 8, 9] rfl)
                      · have i_26 : r_25.toInt ≤ bt.toInt := kc_nlt c_26
                        refine lv_goto (tgt := 115) hx hb dX5_swings_104 (by decide) ?_
                        obtain ⟨x_28, ex_28⟩ : ∃ y : Int32, y = i + 1 := ⟨_, rfl⟩
                        have i_28 : x_28.toInt = i.toInt + 1 := ki_add ex_28 rfl rfl (om_2 w_1.1 LP1_h0) (om_172 a1 w_1.2.2 i_9)
                        refine lv_iinc (v := x_28) (lv' := [(7, .int x_28), (9, .int r_25), (8, .int y_11), (6, .int bt), (5, .int bp), (0, .ref h0), (1, .int p0), (2, .int p1), (3, .int p2), (4, .int p3)]) hx hb dX5_swings_115 hl (k := 2) rfl (by rw [ex_28]; rfl) (by decide) rfl (fun ls hl => ?_)
                        refine lv_goto (tgt := 50) hx hb dX5_swings_118 (by decide) ?_
                        exact ih1 x_28 bp bt (upd (upd gc i.toNatClampNeg p2) i.toNatClampNeg y_11) o_13 o_14 o_15 o_16 o_17 o_18 o_19 o_20 o_21 o_22 o_23 (om_4 LP1_h0 i_28) w_12.2.1 (by rw [ey_11, upd_back]; exact LP1_h2) (om_mu hn1 (om_5 i_28) (om_6 i_9)) _ _ hP hD hS ls (lv_sub hl [0, 3, 4, 5, 6, 7, 8, 9] rfl)
                have k_29 : ((-1) : Int32).toInt = -1 := rfl
                have k_30 : ((-1) : Int32).toInt = -1 := rfl
                exact LP1 ((p1.toInt - p0.toInt : Int).toNat + 1) p0 (-1) (-1) f m_nodes m_allMany fm fl fe vv vn av an nl nr om_7 s4 rfl (Nat.lt_succ_self _) _ _ hP hD hS ls (lv_sub hl [0, 1, 2, 3, 4, 5, 6, 7] rfl)
              · exact absurd c_8 (by decide)
            · have w_7 : (p3.toInt < 0 ∨ 1 < p3.toInt) := w_7
              refine lv_if_ne (tgt := 41) hx hb dX5_swings_36 (by decide) (fun c_31 => ?_) (fun c_31 => ?_)
              · exact absurd c_31 (by decide)
              · refine lv_iconst (v := (-1)) hx hb dX5_swings_39 (by decide) ?_
                have hP9 := hP
                have hD9 := hD
                have hK9 := hK
                exact W.iret (v := (-1)) hx hb hr (hlocks := hlocks) (fun t ht hW => ⟨⟨(-1), (m_nodes, m_allMany, fm, fl, fe, vv, vn, av, an, nl, nr, f), rfl, ⟨s4, rfl⟩, by rw [ht]; exact hP9, va_K.moved hW.alike hK9, hD9⟩, hS.F ht⟩) hS.2.2 dX5_swings_40
        · have w_5 : (p2.toInt < -32768 ∨ 32767 < p2.toInt) := w_5
          refine lv_if_eq (tgt := 39) hx hb dX5_swings_26 (by decide) (fun c_32 => ?_) (fun c_32 => ?_)
          · refine lv_iconst (v := (-1)) hx hb dX5_swings_39 (by decide) ?_
            have hP9 := hP
            have hD9 := hD
            have hK9 := hK
            exact W.iret (v := (-1)) hx hb hr (hlocks := hlocks) (fun t ht hW => ⟨⟨(-1), (m_nodes, m_allMany, fm, fl, fe, vv, vn, av, an, nl, nr, f), rfl, ⟨s4, rfl⟩, by rw [ht]; exact hP9, va_K.moved hW.alike hK9, hD9⟩, hS.F ht⟩) hS.2.2 dX5_swings_40
          · exact absurd c_32 (by decide)
  · have w_1 : (p0.toInt < 0 ∨ p1.toInt ≤ p0.toInt ∨ m_n.toInt < p1.toInt) := w_1
    refine lv_if_eq (tgt := 39) hx hb dX5_swings_11 (by decide) (fun c_33 => ?_) (fun c_33 => ?_)
    · refine lv_iconst (v := (-1)) hx hb dX5_swings_39 (by decide) ?_
      have hP9 := hP
      have hD9 := hD
      have hK9 := hK
      exact W.iret (v := (-1)) hx hb hr (hlocks := hlocks) (fun t ht hW => ⟨⟨(-1), (m_nodes, m_allMany, fm, fl, fe, vv, vn, av, an, nl, nr, f), rfl, ⟨s4, rfl⟩, by rw [ht]; exact hP9, va_K.moved hW.alike hK9, hD9⟩, hS.F ht⟩) hS.2.2 dX5_swings_40
    · exact absurd c_33 (by decide)

set_option maxHeartbeats 4000000 in
set_option maxRecDepth 100000 in
theorem c_X5_deep_0 (l : Launch) (dC : Nat → ClassId) (dI : Nat → Nat → Nat) (h0 : Nat) (g_row : Nat) (g_many : Nat) (g_loss : Nat) (g_less : Nat) (g_voteValue : Nat) (g_voteNumber : Nat) (g_allValue : Nat) (g_allNumber : Nat) (g_nodeL : Nat) (g_nodeR : Nat) (g_part : Nat) (g_wasMany : Nat) (g_wasLoss : Nat) (g_wasValue : Nat) (g_wasNumber : Nat) (g_path : Nat) (g_heavyValue : Nat) (g_heavyTimes : Nat) (g_fewest : Nat) (g_which : Nat) (g_met : Nat) (m_n : Int32) (m_slots : Int32) (m_thrown : Int32) (m_allMany : Int32) (m_nodes : Int32) (m_partMany : Int32) (m_pathMany : Int32) (m_heavyMany : Int32) (m_mostMet : Int32) (p0 : Int32) (p1 : Int32) (b0 : 0 ≤ p0.toInt) (b1 : p0.toInt ≤ p1.toInt) (b2 : p1.toInt ≤ 160) (b3 : p1.toInt - p0.toInt ≤ 1) : Met l yX5_deep wsX5_deep ({ frames := 0, cells := 0, slots := 0, locals := 0 }) (va_Pc [.ref h0, .int p0, .int p1] (fun U => va_P (dC, dI) vwCl [kx_5 h0 g_row m_n m_slots m_thrown g_many g_loss g_less g_voteValue g_voteNumber g_allValue g_allNumber m_allMany g_nodeL g_nodeR m_nodes g_part m_partMany g_wasMany g_wasLoss g_wasValue g_wasNumber g_path m_pathMany g_heavyValue g_heavyTimes m_heavyMany g_fewest g_which g_met m_mostMet] U.heap ∧ va_K (dC, dI) vwCl [] U)) (vp_Si (fun r : Int32 => 0 ≤ r.toInt ∧ r.toInt ≤ 1)) 0 0 (fun _ => False) := by
  refine kx_stS (ws := wsX5_deep) (cc := cX5_deep) (maxL := 6) (ret := (some .int)) (by decide) rfl (Nat.le_of_ble_eq_true rfl) ?_
  intro p e s m below meth c ls hx hb hr hlocks hts hown hml hP hK hl
  have hown : s.vm.findClass RX5 = some m.cls := hown
  have hl : lv_has ls 6 [(0, .ref h0), (1, .int p0), (2, .int p1)] := hl
  refine lv_iload_n hx hb dX5_deep_0 rfl (lv_at hl 2 rfl) ?_
  refine lv_iload_n hx hb dX5_deep_1 rfl (lv_at hl 1 rfl) ?_
  refine lv_isub hx hb dX5_deep_2 ?_
  refine lv_topi (fun y_1 ey_1 => ?_)
  have i_1 : y_1.toInt = p1.toInt - p0.toInt := ki_sub ey_1 rfl rfl (om_184 b1) (om_326 b3)
  refine lv_iconst (v := 2) hx hb dX5_deep_3 (by decide) ?_
  refine lv_icmp_ge (tgt := 11) hx hb dX5_deep_4 (by decide) (fun c_2 => ?_) (fun c_2 => ?_)
  · have i_2 : 2 ≤ y_1.toInt := kc_le c_2
    exfalso; omega
  · have i_2 : y_1.toInt < 2 := kc_nle c_2
    refine lv_iload_n hx hb dX5_deep_7 rfl (lv_at hl 2 rfl) ?_
    refine lv_iload_n hx hb dX5_deep_8 rfl (lv_at hl 1 rfl) ?_
    refine lv_isub hx hb dX5_deep_9 ?_
    refine lv_topi (fun y_3 ey_3 => ?_)
    have i_3 : y_3.toInt = p1.toInt - p0.toInt := ki_sub ey_3 rfl rfl (om_184 b1) (om_326 b3)
    exact W.iret (v := y_3) hx hb hr (hlocks := hlocks) (fun t ht hW => ⟨y_3, rfl, (by (try dsimp only); omega), ht⟩) (fun q hq => by cases hq) dX5_deep_10

set_option maxHeartbeats 4000000 in
set_option maxRecDepth 100000 in
theorem c_X5_deep_1 (l : Launch) (dC : Nat → ClassId) (dI : Nat → Nat → Nat) (h0 : Nat) (g_row : Nat) (g_many : Nat) (g_loss : Nat) (g_less : Nat) (g_voteValue : Nat) (g_voteNumber : Nat) (g_allValue : Nat) (g_allNumber : Nat) (g_nodeL : Nat) (g_nodeR : Nat) (g_part : Nat) (g_wasMany : Nat) (g_wasLoss : Nat) (g_wasValue : Nat) (g_wasNumber : Nat) (g_path : Nat) (g_heavyValue : Nat) (g_heavyTimes : Nat) (g_fewest : Nat) (g_which : Nat) (g_met : Nat) (m_n : Int32) (m_slots : Int32) (m_thrown : Int32) (m_allMany : Int32) (m_nodes : Int32) (m_partMany : Int32) (m_pathMany : Int32) (m_heavyMany : Int32) (m_mostMet : Int32) (p0 : Int32) (p1 : Int32) (b0 : 0 ≤ p0.toInt) (b1 : p0.toInt ≤ p1.toInt) (b2 : p1.toInt ≤ 160) (b3 : p1.toInt - p0.toInt ≤ 2) : Met l yX5_deep wsX5_deep ({ frames := 1, cells := 0, slots := 0, locals := 45 }) (va_Pc [.ref h0, .int p0, .int p1] (fun U => va_P (dC, dI) vwCl [kx_5 h0 g_row m_n m_slots m_thrown g_many g_loss g_less g_voteValue g_voteNumber g_allValue g_allNumber m_allMany g_nodeL g_nodeR m_nodes g_part m_partMany g_wasMany g_wasLoss g_wasValue g_wasNumber g_path m_pathMany g_heavyValue g_heavyTimes m_heavyMany g_fewest g_which g_met m_mostMet] U.heap ∧ va_K (dC, dI) vwCl [] U)) (vp_Si (fun r : Int32 => 0 ≤ r.toInt ∧ r.toInt ≤ 2)) 0 0 (fun _ => False) := by
  refine kx_stS (ws := wsX5_deep) (cc := cX5_deep) (maxL := 6) (ret := (some .int)) (by decide) rfl (Nat.le_of_ble_eq_true rfl) ?_
  intro p e s m below meth c ls hx hb hr hlocks hts hown hml hP hK hl
  have hown : s.vm.findClass RX5 = some m.cls := hown
  have hl : lv_has ls 6 [(0, .ref h0), (1, .int p0), (2, .int p1)] := hl
  refine lv_iload_n hx hb dX5_deep_0 rfl (lv_at hl 2 rfl) ?_
  refine lv_iload_n hx hb dX5_deep_1 rfl (lv_at hl 1 rfl) ?_
  refine lv_isub hx hb dX5_deep_2 ?_
  refine lv_topi (fun y_1 ey_1 => ?_)
  have i_1 : y_1.toInt = p1.toInt - p0.toInt := ki_sub ey_1 rfl rfl (om_184 b1) (om_329 b3)
  refine lv_iconst (v := 2) hx hb dX5_deep_3 (by decide) ?_
  refine lv_icmp_ge (tgt := 11) hx hb dX5_deep_4 (by decide) (fun c_2 => ?_) (fun c_2 => ?_)
  · have i_2 : 2 ≤ y_1.toInt := kc_le c_2
    refine lv_iload_n hx hb dX5_deep_11 rfl (lv_at hl 1 rfl) ?_
    refine lv_iload_n hx hb dX5_deep_12 rfl (lv_at hl 2 rfl) ?_
    refine lv_iadd hx hb dX5_deep_13 ?_
    refine lv_topi (fun y_3 ey_3 => ?_)
    have i_3 : y_3.toInt = p0.toInt + p1.toInt := ki_add ey_3 rfl rfl (om_447 b0 b1) (om_448 b1 b2)
    refine lv_iconst (v := 2) hx hb dX5_deep_14 (by decide) ?_
    refine lv_idiv hx hb dX5_deep_15 (by decide) ?_
    refine lv_topi (fun y_4 ey_4 => ?_)
    have i_4 : y_4.toInt = y_3.toInt / 2 := ki_div2 ey_4 rfl (om_449 b0 b1 i_3)
    have d_5 := om_dv i_4
    refine lv_istore_n (lv' := [(3, .int y_4), (0, .ref h0), (1, .int p0), (2, .int p1)]) hx hb dX5_deep_16 rfl hl (by decide) rfl (fun ls hl => ?_)
    refine lv_aload_n hx hb dX5_deep_17 rfl (lv_at hl 1 rfl) ?_
    refine lv_iload_n hx hb dX5_deep_18 rfl (lv_at hl 2 rfl) ?_
    refine lv_iload_n hx hb dX5_deep_19 rfl (lv_at hl 0 rfl) ?_
    have hPc := hP
    have hKc := hK
    refine vp_callSi (W.runV (As := [.int p0, .int y_4]) (rest := []) ⟨hx, hb, hml, hown, hts⟩ (c_X5_deep_0 l dC dI h0 g_row g_many g_loss g_less g_voteValue g_voteNumber g_allValue g_allNumber g_nodeL g_nodeR g_part g_wasMany g_wasLoss g_wasValue g_wasNumber g_path g_heavyValue g_heavyTimes g_fewest g_which g_met m_n m_slots m_thrown m_allMany m_nodes m_partMany m_pathMany m_heavyMany m_mostMet p0 y_4 b0 (om_450 b1 i_1 i_2 i_3 d_5.2) (om_451 b1 b2 i_3 d_5.1) (om_335 b3 i_3 d_5.1)) (cwV 2 hts gX5_deep_X5_deep rfl rfl rfl (by decide +kernel) ⟨Nat.le_of_ble_eq_true rfl, Nat.le_of_ble_eq_true rfl⟩) ⟨fun a U g mk q => by obtain ⟨q0, qP, qK⟩ := q; exact ⟨q0, qP, va_K.moved (u := U) (U := U.calling g mk a) (Vm.Alike.refl U.vm) qK⟩, kx_rc5 hKc hPc (q0 := 0) rfl, fun U hU hW => ⟨rfl, by rw [hU]; exact hPc, va_K.moved hW.alike hKc⟩⟩ rfl rfl hl.1 rfl (lv_room (Nat.le_of_ble_eq_true rfl)) dX5_deep_20 ⟨Nat.le_of_ble_eq_true rfl, Nat.le_of_ble_eq_true rfl⟩) (fun r_6 w_6 => ?_)
    have w_6 : 0 ≤ r_6.toInt ∧ r_6.toInt ≤ 1 := w_6
    refine lv_istore (lv' := [(4, .int r_6), (3, .int y_4), (0, .ref h0), (1, .int p0), (2, .int p1)]) hx hb dX5_deep_23 hl (by decide) rfl (fun ls hl => ?_)
    refine lv_aload_n hx hb dX5_deep_25 rfl (lv_at hl 2 rfl) ?_
    refine lv_iload_n hx hb dX5_deep_26 rfl (lv_at hl 1 rfl) ?_
    refine lv_iload_n hx hb dX5_deep_27 rfl (lv_at hl 4 rfl) ?_
    have hPc := hP
    have hKc := hK
    refine vp_callSi (W.runV (As := [.int y_4, .int p1]) (rest := []) ⟨hx, hb, hml, hown, hts⟩ (c_X5_deep_0 l dC dI h0 g_row g_many g_loss g_less g_voteValue g_voteNumber g_allValue g_allNumber g_nodeL g_nodeR g_part g_wasMany g_wasLoss g_wasValue g_wasNumber g_path g_heavyValue g_heavyTimes g_fewest g_which g_met m_n m_slots m_thrown m_allMany m_nodes m_partMany m_pathMany m_heavyMany m_mostMet y_4 p1 (om_452 b0 b1 i_1 i_2 i_3 d_5.2) (om_453 b1 i_3 d_5.1) b2 (by omega)) (cwV 2 hts gX5_deep_X5_deep rfl rfl rfl (by decide +kernel) ⟨Nat.le_of_ble_eq_true rfl, Nat.le_of_ble_eq_true rfl⟩) ⟨fun a U g mk q => by obtain ⟨q0, qP, qK⟩ := q; exact ⟨q0, qP, va_K.moved (u := U) (U := U.calling g mk a) (Vm.Alike.refl U.vm) qK⟩, kx_rc5 hKc hPc (q0 := 0) rfl, fun U hU hW => ⟨rfl, by rw [hU]; exact hPc, va_K.moved hW.alike hKc⟩⟩ rfl rfl hl.1 rfl (lv_room (Nat.le_of_ble_eq_true rfl)) dX5_deep_28 ⟨Nat.le_of_ble_eq_true rfl, Nat.le_of_ble_eq_true rfl⟩) (fun r_7 w_7 => ?_)
    have w_7 : 0 ≤ r_7.toInt ∧ r_7.toInt ≤ 1 := w_7
    refine lv_istore (lv' := [(5, .int r_7), (4, .int r_6), (3, .int y_4), (0, .ref h0), (1, .int p0), (2, .int p1)]) hx hb dX5_deep_31 hl (by decide) rfl (fun ls hl => ?_)
    refine lv_iconst (v := 1) hx hb dX5_deep_33 (by decide) ?_
    refine lv_iload hx hb dX5_deep_34 (lv_at hl 1 rfl) ?_
    refine lv_iload hx hb dX5_deep_36 (lv_at hl 0 rfl) ?_
    refine lv_icmp_le (tgt := 46) hx hb dX5_deep_38 (by decide) (fun c_8 => ?_) (fun c_8 => ?_)
    · have i_8 : r_6.toInt ≤ r_7.toInt := kc_le c_8
      refine lv_iload hx hb dX5_deep_46 (lv_at hl 0 rfl) ?_
      refine lv_iadd hx hb dX5_deep_48 ?_
      refine lv_topi (fun y_9 ey_9 => ?_)
      have i_9 : y_9.toInt = 1 + r_7.toInt := ki_add ey_9 rfl rfl (om_454 w_7.1) (om_455 w_7.2)
      exact W.iret (v := y_9) hx hb hr (hlocks := hlocks) (fun t ht hW => ⟨y_9, rfl, (by (try dsimp only); omega), ht⟩) (fun q hq => by cases hq) dX5_deep_49
    · have i_8 : r_7.toInt < r_6.toInt := kc_nle c_8
      refine lv_iload hx hb dX5_deep_41 (lv_at hl 1 rfl) ?_
      refine lv_goto (tgt := 48) hx hb dX5_deep_43 (by decide) ?_
      refine lv_iadd hx hb dX5_deep_48 ?_
      refine lv_topi (fun y_10 ey_10 => ?_)
      have i_10 : y_10.toInt = 1 + r_6.toInt := ki_add ey_10 rfl rfl (om_454 w_6.1) (om_455 w_6.2)
      exact W.iret (v := y_10) hx hb hr (hlocks := hlocks) (fun t ht hW => ⟨y_10, rfl, (by (try dsimp only); omega), ht⟩) (fun q hq => by cases hq) dX5_deep_49
  · have i_2 : y_1.toInt < 2 := kc_nle c_2
    refine lv_iload_n hx hb dX5_deep_7 rfl (lv_at hl 2 rfl) ?_
    refine lv_iload_n hx hb dX5_deep_8 rfl (lv_at hl 1 rfl) ?_
    refine lv_isub hx hb dX5_deep_9 ?_
    refine lv_topi (fun y_11 ey_11 => ?_)
    have i_11 : y_11.toInt = p1.toInt - p0.toInt := ki_sub ey_11 rfl rfl (om_184 b1) (om_329 b3)
    exact W.iret (v := y_11) hx hb hr (hlocks := hlocks) (fun t ht hW => ⟨y_11, rfl, (by (try dsimp only); omega), ht⟩) (fun q hq => by cases hq) dX5_deep_10

set_option maxHeartbeats 4000000 in
set_option maxRecDepth 100000 in
theorem c_X5_deep_2 (l : Launch) (dC : Nat → ClassId) (dI : Nat → Nat → Nat) (h0 : Nat) (g_row : Nat) (g_many : Nat) (g_loss : Nat) (g_less : Nat) (g_voteValue : Nat) (g_voteNumber : Nat) (g_allValue : Nat) (g_allNumber : Nat) (g_nodeL : Nat) (g_nodeR : Nat) (g_part : Nat) (g_wasMany : Nat) (g_wasLoss : Nat) (g_wasValue : Nat) (g_wasNumber : Nat) (g_path : Nat) (g_heavyValue : Nat) (g_heavyTimes : Nat) (g_fewest : Nat) (g_which : Nat) (g_met : Nat) (m_n : Int32) (m_slots : Int32) (m_thrown : Int32) (m_allMany : Int32) (m_nodes : Int32) (m_partMany : Int32) (m_pathMany : Int32) (m_heavyMany : Int32) (m_mostMet : Int32) (p0 : Int32) (p1 : Int32) (b0 : 0 ≤ p0.toInt) (b1 : p0.toInt ≤ p1.toInt) (b2 : p1.toInt ≤ 160) (b3 : p1.toInt - p0.toInt ≤ 4) : Met l yX5_deep wsX5_deep ({ frames := 2, cells := 0, slots := 0, locals := 90 }) (va_Pc [.ref h0, .int p0, .int p1] (fun U => va_P (dC, dI) vwCl [kx_5 h0 g_row m_n m_slots m_thrown g_many g_loss g_less g_voteValue g_voteNumber g_allValue g_allNumber m_allMany g_nodeL g_nodeR m_nodes g_part m_partMany g_wasMany g_wasLoss g_wasValue g_wasNumber g_path m_pathMany g_heavyValue g_heavyTimes m_heavyMany g_fewest g_which g_met m_mostMet] U.heap ∧ va_K (dC, dI) vwCl [] U)) (vp_Si (fun r : Int32 => 0 ≤ r.toInt ∧ r.toInt ≤ 3)) 0 0 (fun _ => False) := by
  refine kx_stS (ws := wsX5_deep) (cc := cX5_deep) (maxL := 6) (ret := (some .int)) (by decide) rfl (Nat.le_of_ble_eq_true rfl) ?_
  intro p e s m below meth c ls hx hb hr hlocks hts hown hml hP hK hl
  have hown : s.vm.findClass RX5 = some m.cls := hown
  have hl : lv_has ls 6 [(0, .ref h0), (1, .int p0), (2, .int p1)] := hl
  refine lv_iload_n hx hb dX5_deep_0 rfl (lv_at hl 2 rfl) ?_
  refine lv_iload_n hx hb dX5_deep_1 rfl (lv_at hl 1 rfl) ?_
  refine lv_isub hx hb dX5_deep_2 ?_
  refine lv_topi (fun y_1 ey_1 => ?_)
  have i_1 : y_1.toInt = p1.toInt - p0.toInt := ki_sub ey_1 rfl rfl (om_184 b1) (om_348 b3)
  refine lv_iconst (v := 2) hx hb dX5_deep_3 (by decide) ?_
  refine lv_icmp_ge (tgt := 11) hx hb dX5_deep_4 (by decide) (fun c_2 => ?_) (fun c_2 => ?_)
  · have i_2 : 2 ≤ y_1.toInt := kc_le c_2
    refine lv_iload_n hx hb dX5_deep_11 rfl (lv_at hl 1 rfl) ?_
    refine lv_iload_n hx hb dX5_deep_12 rfl (lv_at hl 2 rfl) ?_
    refine lv_iadd hx hb dX5_deep_13 ?_
    refine lv_topi (fun y_3 ey_3 => ?_)
    have i_3 : y_3.toInt = p0.toInt + p1.toInt := ki_add ey_3 rfl rfl (om_447 b0 b1) (om_448 b1 b2)
    refine lv_iconst (v := 2) hx hb dX5_deep_14 (by decide) ?_
    refine lv_idiv hx hb dX5_deep_15 (by decide) ?_
    refine lv_topi (fun y_4 ey_4 => ?_)
    have i_4 : y_4.toInt = y_3.toInt / 2 := ki_div2 ey_4 rfl (om_449 b0 b1 i_3)
    have d_5 := om_dv i_4
    refine lv_istore_n (lv' := [(3, .int y_4), (0, .ref h0), (1, .int p0), (2, .int p1)]) hx hb dX5_deep_16 rfl hl (by decide) rfl (fun ls hl => ?_)
    refine lv_aload_n hx hb dX5_deep_17 rfl (lv_at hl 1 rfl) ?_
    refine lv_iload_n hx hb dX5_deep_18 rfl (lv_at hl 2 rfl) ?_
    refine lv_iload_n hx hb dX5_deep_19 rfl (lv_at hl 0 rfl) ?_
    have hPc := hP
    have hKc := hK
    refine vp_callSi (W.runV (As := [.int p0, .int y_4]) (rest := []) ⟨hx, hb, hml, hown, hts⟩ (c_X5_deep_1 l dC dI h0 g_row g_many g_loss g_less g_voteValue g_voteNumber g_allValue g_allNumber g_nodeL g_nodeR g_part g_wasMany g_wasLoss g_wasValue g_wasNumber g_path g_heavyValue g_heavyTimes g_fewest g_which g_met m_n m_slots m_thrown m_allMany m_nodes m_partMany m_pathMany m_heavyMany m_mostMet p0 y_4 b0 (om_450 b1 i_1 i_2 i_3 d_5.2) (om_451 b1 b2 i_3 d_5.1) (om_349 b3 i_3 d_5.1)) (cwV 2 hts gX5_deep_X5_deep rfl rfl rfl (by decide +kernel) ⟨Nat.le_of_ble_eq_true rfl, Nat.le_of_ble_eq_true rfl⟩) ⟨fun a U g mk q => by obtain ⟨q0, qP, qK⟩ := q; exact ⟨q0, qP, va_K.moved (u := U) (U := U.calling g mk a) (Vm.Alike.refl U.vm) qK⟩, kx_rc5 hKc hPc (q0 := 0) rfl, fun U hU hW => ⟨rfl, by rw [hU]; exact hPc, va_K.moved hW.alike hKc⟩⟩ rfl rfl hl.1 rfl (lv_room (Nat.le_of_ble_eq_true rfl)) dX5_deep_20 ⟨Nat.le_of_ble_eq_true rfl, Nat.le_of_ble_eq_true rfl⟩) (fun r_6 w_6 => ?_)
    have w_6 : 0 ≤ r_6.toInt ∧ r_6.toInt ≤ 2 := w_6
    refine lv_istore (lv' := [(4, .int r_6), (3, .int y_4), (0, .ref h0), (1, .int p0), (2, .int p1)]) hx hb dX5_deep_23 hl (by decide) rfl (fun ls hl => ?_)
    refine lv_aload_n hx hb dX5_deep_25 rfl (lv_at hl 2 rfl) ?_
    refine lv_iload_n hx hb dX5_deep_26 rfl (lv_at hl 1 rfl) ?_
    refine lv_iload_n hx hb dX5_deep_27 rfl (lv_at hl 4 rfl) ?_
    have hPc := hP
    have hKc := hK
    refine vp_callSi (W.runV (As := [.int y_4, .int p1]) (rest := []) ⟨hx, hb, hml, hown, hts⟩ (c_X5_deep_1 l dC dI h0 g_row g_many g_loss g_less g_voteValue g_voteNumber g_allValue g_allNumber g_nodeL g_nodeR g_part g_wasMany g_wasLoss g_wasValue g_wasNumber g_path g_heavyValue g_heavyTimes g_fewest g_which g_met m_n m_slots m_thrown m_allMany m_nodes m_partMany m_pathMany m_heavyMany m_mostMet y_4 p1 (om_452 b0 b1 i_1 i_2 i_3 d_5.2) (om_453 b1 i_3 d_5.1) b2 (by omega)) (cwV 2 hts gX5_deep_X5_deep rfl rfl rfl (by decide +kernel) ⟨Nat.le_of_ble_eq_true rfl, Nat.le_of_ble_eq_true rfl⟩) ⟨fun a U g mk q => by obtain ⟨q0, qP, qK⟩ := q; exact ⟨q0, qP, va_K.moved (u := U) (U := U.calling g mk a) (Vm.Alike.refl U.vm) qK⟩, kx_rc5 hKc hPc (q0 := 0) rfl, fun U hU hW => ⟨rfl, by rw [hU]; exact hPc, va_K.moved hW.alike hKc⟩⟩ rfl rfl hl.1 rfl (lv_room (Nat.le_of_ble_eq_true rfl)) dX5_deep_28 ⟨Nat.le_of_ble_eq_true rfl, Nat.le_of_ble_eq_true rfl⟩) (fun r_7 w_7 => ?_)
    have w_7 : 0 ≤ r_7.toInt ∧ r_7.toInt ≤ 2 := w_7
    refine lv_istore (lv' := [(5, .int r_7), (4, .int r_6), (3, .int y_4), (0, .ref h0), (1, .int p0), (2, .int p1)]) hx hb dX5_deep_31 hl (by decide) rfl (fun ls hl => ?_)
    refine lv_iconst (v := 1) hx hb dX5_deep_33 (by decide) ?_
    refine lv_iload hx hb dX5_deep_34 (lv_at hl 1 rfl) ?_
    refine lv_iload hx hb dX5_deep_36 (lv_at hl 0 rfl) ?_
    refine lv_icmp_le (tgt := 46) hx hb dX5_deep_38 (by decide) (fun c_8 => ?_) (fun c_8 => ?_)
    · have i_8 : r_6.toInt ≤ r_7.toInt := kc_le c_8
      refine lv_iload hx hb dX5_deep_46 (lv_at hl 0 rfl) ?_
      refine lv_iadd hx hb dX5_deep_48 ?_
      refine lv_topi (fun y_9 ey_9 => ?_)
      have i_9 : y_9.toInt = 1 + r_7.toInt := ki_add ey_9 rfl rfl (om_454 w_7.1) (om_456 w_7.2)
      exact W.iret (v := y_9) hx hb hr (hlocks := hlocks) (fun t ht hW => ⟨y_9, rfl, (by (try dsimp only); omega), ht⟩) (fun q hq => by cases hq) dX5_deep_49
    · have i_8 : r_7.toInt < r_6.toInt := kc_nle c_8
      refine lv_iload hx hb dX5_deep_41 (lv_at hl 1 rfl) ?_
      refine lv_goto (tgt := 48) hx hb dX5_deep_43 (by decide) ?_
      refine lv_iadd hx hb dX5_deep_48 ?_
      refine lv_topi (fun y_10 ey_10 => ?_)
      have i_10 : y_10.toInt = 1 + r_6.toInt := ki_add ey_10 rfl rfl (om_454 w_6.1) (om_456 w_6.2)
      exact W.iret (v := y_10) hx hb hr (hlocks := hlocks) (fun t ht hW => ⟨y_10, rfl, (by (try dsimp only); omega), ht⟩) (fun q hq => by cases hq) dX5_deep_49
  · have i_2 : y_1.toInt < 2 := kc_nle c_2
    refine lv_iload_n hx hb dX5_deep_7 rfl (lv_at hl 2 rfl) ?_
    refine lv_iload_n hx hb dX5_deep_8 rfl (lv_at hl 1 rfl) ?_
    refine lv_isub hx hb dX5_deep_9 ?_
    refine lv_topi (fun y_11 ey_11 => ?_)
    have i_11 : y_11.toInt = p1.toInt - p0.toInt := ki_sub ey_11 rfl rfl (om_184 b1) (om_348 b3)
    exact W.iret (v := y_11) hx hb hr (hlocks := hlocks) (fun t ht hW => ⟨y_11, rfl, (by (try dsimp only); omega), ht⟩) (fun q hq => by cases hq) dX5_deep_10

set_option maxHeartbeats 4000000 in
set_option maxRecDepth 100000 in
theorem c_X5_deep_3 (l : Launch) (dC : Nat → ClassId) (dI : Nat → Nat → Nat) (h0 : Nat) (g_row : Nat) (g_many : Nat) (g_loss : Nat) (g_less : Nat) (g_voteValue : Nat) (g_voteNumber : Nat) (g_allValue : Nat) (g_allNumber : Nat) (g_nodeL : Nat) (g_nodeR : Nat) (g_part : Nat) (g_wasMany : Nat) (g_wasLoss : Nat) (g_wasValue : Nat) (g_wasNumber : Nat) (g_path : Nat) (g_heavyValue : Nat) (g_heavyTimes : Nat) (g_fewest : Nat) (g_which : Nat) (g_met : Nat) (m_n : Int32) (m_slots : Int32) (m_thrown : Int32) (m_allMany : Int32) (m_nodes : Int32) (m_partMany : Int32) (m_pathMany : Int32) (m_heavyMany : Int32) (m_mostMet : Int32) (p0 : Int32) (p1 : Int32) (b0 : 0 ≤ p0.toInt) (b1 : p0.toInt ≤ p1.toInt) (b2 : p1.toInt ≤ 160) (b3 : p1.toInt - p0.toInt ≤ 8) : Met l yX5_deep wsX5_deep ({ frames := 3, cells := 0, slots := 0, locals := 135 }) (va_Pc [.ref h0, .int p0, .int p1] (fun U => va_P (dC, dI) vwCl [kx_5 h0 g_row m_n m_slots m_thrown g_many g_loss g_less g_voteValue g_voteNumber g_allValue g_allNumber m_allMany g_nodeL g_nodeR m_nodes g_part m_partMany g_wasMany g_wasLoss g_wasValue g_wasNumber g_path m_pathMany g_heavyValue g_heavyTimes m_heavyMany g_fewest g_which g_met m_mostMet] U.heap ∧ va_K (dC, dI) vwCl [] U)) (vp_Si (fun r : Int32 => 0 ≤ r.toInt ∧ r.toInt ≤ 4)) 0 0 (fun _ => False) := by
  refine kx_stS (ws := wsX5_deep) (cc := cX5_deep) (maxL := 6) (ret := (some .int)) (by decide) rfl (Nat.le_of_ble_eq_true rfl) ?_
  intro p e s m below meth c ls hx hb hr hlocks hts hown hml hP hK hl
  have hown : s.vm.findClass RX5 = some m.cls := hown
  have hl : lv_has ls 6 [(0, .ref h0), (1, .int p0), (2, .int p1)] := hl
  refine lv_iload_n hx hb dX5_deep_0 rfl (lv_at hl 2 rfl) ?_
  refine lv_iload_n hx hb dX5_deep_1 rfl (lv_at hl 1 rfl) ?_
  refine lv_isub hx hb dX5_deep_2 ?_
  refine lv_topi (fun y_1 ey_1 => ?_)
  have i_1 : y_1.toInt = p1.toInt - p0.toInt := ki_sub ey_1 rfl rfl (om_184 b1) (om_350 b3)
  refine lv_iconst (v := 2) hx hb dX5_deep_3 (by decide) ?_
  refine lv_icmp_ge (tgt := 11) hx hb dX5_deep_4 (by decide) (fun c_2 => ?_) (fun c_2 => ?_)
  · have i_2 : 2 ≤ y_1.toInt := kc_le c_2
    refine lv_iload_n hx hb dX5_deep_11 rfl (lv_at hl 1 rfl) ?_
    refine lv_iload_n hx hb dX5_deep_12 rfl (lv_at hl 2 rfl) ?_
    refine lv_iadd hx hb dX5_deep_13 ?_
    refine lv_topi (fun y_3 ey_3 => ?_)
    have i_3 : y_3.toInt = p0.toInt + p1.toInt := ki_add ey_3 rfl rfl (om_447 b0 b1) (om_448 b1 b2)
    refine lv_iconst (v := 2) hx hb dX5_deep_14 (by decide) ?_
    refine lv_idiv hx hb dX5_deep_15 (by decide) ?_
    refine lv_topi (fun y_4 ey_4 => ?_)
    have i_4 : y_4.toInt = y_3.toInt / 2 := ki_div2 ey_4 rfl (om_449 b0 b1 i_3)
    have d_5 := om_dv i_4
    refine lv_istore_n (lv' := [(3, .int y_4), (0, .ref h0), (1, .int p0), (2, .int p1)]) hx hb dX5_deep_16 rfl hl (by decide) rfl (fun ls hl => ?_)
    refine lv_aload_n hx hb dX5_deep_17 rfl (lv_at hl 1 rfl) ?_
    refine lv_iload_n hx hb dX5_deep_18 rfl (lv_at hl 2 rfl) ?_
    refine lv_iload_n hx hb dX5_deep_19 rfl (lv_at hl 0 rfl) ?_
    have hPc := hP
    have hKc := hK
    refine vp_callSi (W.runV (As := [.int p0, .int y_4]) (rest := []) ⟨hx, hb, hml, hown, hts⟩ (c_X5_deep_2 l dC dI h0 g_row g_many g_loss g_less g_voteValue g_voteNumber g_allValue g_allNumber g_nodeL g_nodeR g_part g_wasMany g_wasLoss g_wasValue g_wasNumber g_path g_heavyValue g_heavyTimes g_fewest g_which g_met m_n m_slots m_thrown m_allMany m_nodes m_partMany m_pathMany m_heavyMany m_mostMet p0 y_4 b0 (om_450 b1 i_1 i_2 i_3 d_5.2) (om_451 b1 b2 i_3 d_5.1) (om_351 b3 i_3 d_5.1)) (cwV 2 hts gX5_deep_X5_deep rfl rfl rfl (by decide +kernel) ⟨Nat.le_of_ble_eq_true rfl, Nat.le_of_ble_eq_true rfl⟩) ⟨fun a U g mk q => by obtain ⟨q0, qP, qK⟩ := q; exact ⟨q0, qP, va_K.moved (u := U) (U := U.calling g mk a) (Vm.Alike.refl U.vm) qK⟩, kx_rc5 hKc hPc (q0 := 0) rfl, fun U hU hW => ⟨rfl, by rw [hU]; exact hPc, va_K.moved hW.alike hKc⟩⟩ rfl rfl hl.1 rfl (lv_room (Nat.le_of_ble_eq_true rfl)) dX5_deep_20 ⟨Nat.le_of_ble_eq_true rfl, Nat.le_of_ble_eq_true rfl⟩) (fun r_6 w_6 => ?_)
    have w_6 : 0 ≤ r_6.toInt ∧ r_6.toInt ≤ 3 := w_6
    refine lv_istore (lv' := [(4, .int r_6), (3, .int y_4), (0, .ref h0), (1, .int p0), (2, .int p1)]) hx hb dX5_deep_23 hl (by decide) rfl (fun ls hl => ?_)
    refine lv_aload_n hx hb dX5_deep_25 rfl (lv_at hl 2 rfl) ?_
    refine lv_iload_n hx hb dX5_deep_26 rfl (lv_at hl 1 rfl) ?_
    refine lv_iload_n hx hb dX5_deep_27 rfl (lv_at hl 4 rfl) ?_
    have hPc := hP
    have hKc := hK
    refine vp_callSi (W.runV (As := [.int y_4, .int p1]) (rest := []) ⟨hx, hb, hml, hown, hts⟩ (c_X5_deep_2 l dC dI h0 g_row g_many g_loss g_less g_voteValue g_voteNumber g_allValue g_allNumber g_nodeL g_nodeR g_part g_wasMany g_wasLoss g_wasValue g_wasNumber g_path g_heavyValue g_heavyTimes g_fewest g_which g_met m_n m_slots m_thrown m_allMany m_nodes m_partMany m_pathMany m_heavyMany m_mostMet y_4 p1 (om_452 b0 b1 i_1 i_2 i_3 d_5.2) (om_453 b1 i_3 d_5.1) b2 (by omega)) (cwV 2 hts gX5_deep_X5_deep rfl rfl rfl (by decide +kernel) ⟨Nat.le_of_ble_eq_true rfl, Nat.le_of_ble_eq_true rfl⟩) ⟨fun a U g mk q => by obtain ⟨q0, qP, qK⟩ := q; exact ⟨q0, qP, va_K.moved (u := U) (U := U.calling g mk a) (Vm.Alike.refl U.vm) qK⟩, kx_rc5 hKc hPc (q0 := 0) rfl, fun U hU hW => ⟨rfl, by rw [hU]; exact hPc, va_K.moved hW.alike hKc⟩⟩ rfl rfl hl.1 rfl (lv_room (Nat.le_of_ble_eq_true rfl)) dX5_deep_28 ⟨Nat.le_of_ble_eq_true rfl, Nat.le_of_ble_eq_true rfl⟩) (fun r_7 w_7 => ?_)
    have w_7 : 0 ≤ r_7.toInt ∧ r_7.toInt ≤ 3 := w_7
    refine lv_istore (lv' := [(5, .int r_7), (4, .int r_6), (3, .int y_4), (0, .ref h0), (1, .int p0), (2, .int p1)]) hx hb dX5_deep_31 hl (by decide) rfl (fun ls hl => ?_)
    refine lv_iconst (v := 1) hx hb dX5_deep_33 (by decide) ?_
    refine lv_iload hx hb dX5_deep_34 (lv_at hl 1 rfl) ?_
    refine lv_iload hx hb dX5_deep_36 (lv_at hl 0 rfl) ?_
    refine lv_icmp_le (tgt := 46) hx hb dX5_deep_38 (by decide) (fun c_8 => ?_) (fun c_8 => ?_)
    · have i_8 : r_6.toInt ≤ r_7.toInt := kc_le c_8
      refine lv_iload hx hb dX5_deep_46 (lv_at hl 0 rfl) ?_
      refine lv_iadd hx hb dX5_deep_48 ?_
      refine lv_topi (fun y_9 ey_9 => ?_)
      have i_9 : y_9.toInt = 1 + r_7.toInt := ki_add ey_9 rfl rfl (om_454 w_7.1) (om_457 w_7.2)
      exact W.iret (v := y_9) hx hb hr (hlocks := hlocks) (fun t ht hW => ⟨y_9, rfl, (by (try dsimp only); omega), ht⟩) (fun q hq => by cases hq) dX5_deep_49
    · have i_8 : r_7.toInt < r_6.toInt := kc_nle c_8
      refine lv_iload hx hb dX5_deep_41 (lv_at hl 1 rfl) ?_
      refine lv_goto (tgt := 48) hx hb dX5_deep_43 (by decide) ?_
      refine lv_iadd hx hb dX5_deep_48 ?_
      refine lv_topi (fun y_10 ey_10 => ?_)
      have i_10 : y_10.toInt = 1 + r_6.toInt := ki_add ey_10 rfl rfl (om_454 w_6.1) (om_457 w_6.2)
      exact W.iret (v := y_10) hx hb hr (hlocks := hlocks) (fun t ht hW => ⟨y_10, rfl, (by (try dsimp only); omega), ht⟩) (fun q hq => by cases hq) dX5_deep_49
  · have i_2 : y_1.toInt < 2 := kc_nle c_2
    refine lv_iload_n hx hb dX5_deep_7 rfl (lv_at hl 2 rfl) ?_
    refine lv_iload_n hx hb dX5_deep_8 rfl (lv_at hl 1 rfl) ?_
    refine lv_isub hx hb dX5_deep_9 ?_
    refine lv_topi (fun y_11 ey_11 => ?_)
    have i_11 : y_11.toInt = p1.toInt - p0.toInt := ki_sub ey_11 rfl rfl (om_184 b1) (om_350 b3)
    exact W.iret (v := y_11) hx hb hr (hlocks := hlocks) (fun t ht hW => ⟨y_11, rfl, (by (try dsimp only); omega), ht⟩) (fun q hq => by cases hq) dX5_deep_10

set_option maxHeartbeats 4000000 in
set_option maxRecDepth 100000 in
theorem c_X5_deep_4 (l : Launch) (dC : Nat → ClassId) (dI : Nat → Nat → Nat) (h0 : Nat) (g_row : Nat) (g_many : Nat) (g_loss : Nat) (g_less : Nat) (g_voteValue : Nat) (g_voteNumber : Nat) (g_allValue : Nat) (g_allNumber : Nat) (g_nodeL : Nat) (g_nodeR : Nat) (g_part : Nat) (g_wasMany : Nat) (g_wasLoss : Nat) (g_wasValue : Nat) (g_wasNumber : Nat) (g_path : Nat) (g_heavyValue : Nat) (g_heavyTimes : Nat) (g_fewest : Nat) (g_which : Nat) (g_met : Nat) (m_n : Int32) (m_slots : Int32) (m_thrown : Int32) (m_allMany : Int32) (m_nodes : Int32) (m_partMany : Int32) (m_pathMany : Int32) (m_heavyMany : Int32) (m_mostMet : Int32) (p0 : Int32) (p1 : Int32) (b0 : 0 ≤ p0.toInt) (b1 : p0.toInt ≤ p1.toInt) (b2 : p1.toInt ≤ 160) (b3 : p1.toInt - p0.toInt ≤ 16) : Met l yX5_deep wsX5_deep ({ frames := 4, cells := 0, slots := 0, locals := 180 }) (va_Pc [.ref h0, .int p0, .int p1] (fun U => va_P (dC, dI) vwCl [kx_5 h0 g_row m_n m_slots m_thrown g_many g_loss g_less g_voteValue g_voteNumber g_allValue g_allNumber m_allMany g_nodeL g_nodeR m_nodes g_part m_partMany g_wasMany g_wasLoss g_wasValue g_wasNumber g_path m_pathMany g_heavyValue g_heavyTimes m_heavyMany g_fewest g_which g_met m_mostMet] U.heap ∧ va_K (dC, dI) vwCl [] U)) (vp_Si (fun r : Int32 => 0 ≤ r.toInt ∧ r.toInt ≤ 5)) 0 0 (fun _ => False) := by
  refine kx_stS (ws := wsX5_deep) (cc := cX5_deep) (maxL := 6) (ret := (some .int)) (by decide) rfl (Nat.le_of_ble_eq_true rfl) ?_
  intro p e s m below meth c ls hx hb hr hlocks hts hown hml hP hK hl
  have hown : s.vm.findClass RX5 = some m.cls := hown
  have hl : lv_has ls 6 [(0, .ref h0), (1, .int p0), (2, .int p1)] := hl
  refine lv_iload_n hx hb dX5_deep_0 rfl (lv_at hl 2 rfl) ?_
  refine lv_iload_n hx hb dX5_deep_1 rfl (lv_at hl 1 rfl) ?_
  refine lv_isub hx hb dX5_deep_2 ?_
  refine lv_topi (fun y_1 ey_1 => ?_)
  have i_1 : y_1.toInt = p1.toInt - p0.toInt := ki_sub ey_1 rfl rfl (om_184 b1) (om_352 b3)
  refine lv_iconst (v := 2) hx hb dX5_deep_3 (by decide) ?_
  refine lv_icmp_ge (tgt := 11) hx hb dX5_deep_4 (by decide) (fun c_2 => ?_) (fun c_2 => ?_)
  · have i_2 : 2 ≤ y_1.toInt := kc_le c_2
    refine lv_iload_n hx hb dX5_deep_11 rfl (lv_at hl 1 rfl) ?_
    refine lv_iload_n hx hb dX5_deep_12 rfl (lv_at hl 2 rfl) ?_
    refine lv_iadd hx hb dX5_deep_13 ?_
    refine lv_topi (fun y_3 ey_3 => ?_)
    have i_3 : y_3.toInt = p0.toInt + p1.toInt := ki_add ey_3 rfl rfl (om_447 b0 b1) (om_448 b1 b2)
    refine lv_iconst (v := 2) hx hb dX5_deep_14 (by decide) ?_
    refine lv_idiv hx hb dX5_deep_15 (by decide) ?_
    refine lv_topi (fun y_4 ey_4 => ?_)
    have i_4 : y_4.toInt = y_3.toInt / 2 := ki_div2 ey_4 rfl (om_449 b0 b1 i_3)
    have d_5 := om_dv i_4
    refine lv_istore_n (lv' := [(3, .int y_4), (0, .ref h0), (1, .int p0), (2, .int p1)]) hx hb dX5_deep_16 rfl hl (by decide) rfl (fun ls hl => ?_)
    refine lv_aload_n hx hb dX5_deep_17 rfl (lv_at hl 1 rfl) ?_
    refine lv_iload_n hx hb dX5_deep_18 rfl (lv_at hl 2 rfl) ?_
    refine lv_iload_n hx hb dX5_deep_19 rfl (lv_at hl 0 rfl) ?_
    have hPc := hP
    have hKc := hK
    refine vp_callSi (W.runV (As := [.int p0, .int y_4]) (rest := []) ⟨hx, hb, hml, hown, hts⟩ (c_X5_deep_3 l dC dI h0 g_row g_many g_loss g_less g_voteValue g_voteNumber g_allValue g_allNumber g_nodeL g_nodeR g_part g_wasMany g_wasLoss g_wasValue g_wasNumber g_path g_heavyValue g_heavyTimes g_fewest g_which g_met m_n m_slots m_thrown m_allMany m_nodes m_partMany m_pathMany m_heavyMany m_mostMet p0 y_4 b0 (om_450 b1 i_1 i_2 i_3 d_5.2) (om_451 b1 b2 i_3 d_5.1) (om_353 b3 i_3 d_5.1)) (cwV 2 hts gX5_deep_X5_deep rfl rfl rfl (by decide +kernel) ⟨Nat.le_of_ble_eq_true rfl, Nat.le_of_ble_eq_true rfl⟩) ⟨fun a U g mk q => by obtain ⟨q0, qP, qK⟩ := q; exact ⟨q0, qP, va_K.moved (u := U) (U := U.calling g mk a) (Vm.Alike.refl U.vm) qK⟩, kx_rc5 hKc hPc (q0 := 0) rfl, fun U hU hW => ⟨rfl, by rw [hU]; exact hPc, va_K.moved hW.alike hKc⟩⟩ rfl rfl hl.1 rfl (lv_room (Nat.le_of_ble_eq_true rfl)) dX5_deep_20 ⟨Nat.le_of_ble_eq_true rfl, Nat.le_of_ble_eq_true rfl⟩) (fun r_6 w_6 => ?_)
    have w_6 : 0 ≤ r_6.toInt ∧ r_6.toInt ≤ 4 := w_6
    refine lv_istore (lv' := [(4, .int r_6), (3, .int y_4), (0, .ref h0), (1, .int p0), (2, .int p1)]) hx hb dX5_deep_23 hl (by decide) rfl (fun ls hl => ?_)
    refine lv_aload_n hx hb dX5_deep_25 rfl (lv_at hl 2 rfl) ?_
    refine lv_iload_n hx hb dX5_deep_26 rfl (lv_at hl 1 rfl) ?_
    refine lv_iload_n hx hb dX5_deep_27 rfl (lv_at hl 4 rfl) ?_
    have hPc := hP
    have hKc := hK
    refine vp_callSi (W.runV (As := [.int y_4, .int p1]) (rest := []) ⟨hx, hb, hml, hown, hts⟩ (c_X5_deep_3 l dC dI h0 g_row g_many g_loss g_less g_voteValue g_voteNumber g_allValue g_allNumber g_nodeL g_nodeR g_part g_wasMany g_wasLoss g_wasValue g_wasNumber g_path g_heavyValue g_heavyTimes g_fewest g_which g_met m_n m_slots m_thrown m_allMany m_nodes m_partMany m_pathMany m_heavyMany m_mostMet y_4 p1 (om_452 b0 b1 i_1 i_2 i_3 d_5.2) (om_453 b1 i_3 d_5.1) b2 (by omega)) (cwV 2 hts gX5_deep_X5_deep rfl rfl rfl (by decide +kernel) ⟨Nat.le_of_ble_eq_true rfl, Nat.le_of_ble_eq_true rfl⟩) ⟨fun a U g mk q => by obtain ⟨q0, qP, qK⟩ := q; exact ⟨q0, qP, va_K.moved (u := U) (U := U.calling g mk a) (Vm.Alike.refl U.vm) qK⟩, kx_rc5 hKc hPc (q0 := 0) rfl, fun U hU hW => ⟨rfl, by rw [hU]; exact hPc, va_K.moved hW.alike hKc⟩⟩ rfl rfl hl.1 rfl (lv_room (Nat.le_of_ble_eq_true rfl)) dX5_deep_28 ⟨Nat.le_of_ble_eq_true rfl, Nat.le_of_ble_eq_true rfl⟩) (fun r_7 w_7 => ?_)
    have w_7 : 0 ≤ r_7.toInt ∧ r_7.toInt ≤ 4 := w_7
    refine lv_istore (lv' := [(5, .int r_7), (4, .int r_6), (3, .int y_4), (0, .ref h0), (1, .int p0), (2, .int p1)]) hx hb dX5_deep_31 hl (by decide) rfl (fun ls hl => ?_)
    refine lv_iconst (v := 1) hx hb dX5_deep_33 (by decide) ?_
    refine lv_iload hx hb dX5_deep_34 (lv_at hl 1 rfl) ?_
    refine lv_iload hx hb dX5_deep_36 (lv_at hl 0 rfl) ?_
    refine lv_icmp_le (tgt := 46) hx hb dX5_deep_38 (by decide) (fun c_8 => ?_) (fun c_8 => ?_)
    · have i_8 : r_6.toInt ≤ r_7.toInt := kc_le c_8
      refine lv_iload hx hb dX5_deep_46 (lv_at hl 0 rfl) ?_
      refine lv_iadd hx hb dX5_deep_48 ?_
      refine lv_topi (fun y_9 ey_9 => ?_)
      have i_9 : y_9.toInt = 1 + r_7.toInt := ki_add ey_9 rfl rfl (om_454 w_7.1) (om_458 w_7.2)
      exact W.iret (v := y_9) hx hb hr (hlocks := hlocks) (fun t ht hW => ⟨y_9, rfl, (by (try dsimp only); omega), ht⟩) (fun q hq => by cases hq) dX5_deep_49
    · have i_8 : r_7.toInt < r_6.toInt := kc_nle c_8
      refine lv_iload hx hb dX5_deep_41 (lv_at hl 1 rfl) ?_
      refine lv_goto (tgt := 48) hx hb dX5_deep_43 (by decide) ?_
      refine lv_iadd hx hb dX5_deep_48 ?_
      refine lv_topi (fun y_10 ey_10 => ?_)
      have i_10 : y_10.toInt = 1 + r_6.toInt := ki_add ey_10 rfl rfl (om_454 w_6.1) (om_458 w_6.2)
      exact W.iret (v := y_10) hx hb hr (hlocks := hlocks) (fun t ht hW => ⟨y_10, rfl, (by (try dsimp only); omega), ht⟩) (fun q hq => by cases hq) dX5_deep_49
  · have i_2 : y_1.toInt < 2 := kc_nle c_2
    refine lv_iload_n hx hb dX5_deep_7 rfl (lv_at hl 2 rfl) ?_
    refine lv_iload_n hx hb dX5_deep_8 rfl (lv_at hl 1 rfl) ?_
    refine lv_isub hx hb dX5_deep_9 ?_
    refine lv_topi (fun y_11 ey_11 => ?_)
    have i_11 : y_11.toInt = p1.toInt - p0.toInt := ki_sub ey_11 rfl rfl (om_184 b1) (om_352 b3)
    exact W.iret (v := y_11) hx hb hr (hlocks := hlocks) (fun t ht hW => ⟨y_11, rfl, (by (try dsimp only); omega), ht⟩) (fun q hq => by cases hq) dX5_deep_10

set_option maxHeartbeats 4000000 in
set_option maxRecDepth 100000 in
theorem c_X5_deep_5 (l : Launch) (dC : Nat → ClassId) (dI : Nat → Nat → Nat) (h0 : Nat) (g_row : Nat) (g_many : Nat) (g_loss : Nat) (g_less : Nat) (g_voteValue : Nat) (g_voteNumber : Nat) (g_allValue : Nat) (g_allNumber : Nat) (g_nodeL : Nat) (g_nodeR : Nat) (g_part : Nat) (g_wasMany : Nat) (g_wasLoss : Nat) (g_wasValue : Nat) (g_wasNumber : Nat) (g_path : Nat) (g_heavyValue : Nat) (g_heavyTimes : Nat) (g_fewest : Nat) (g_which : Nat) (g_met : Nat) (m_n : Int32) (m_slots : Int32) (m_thrown : Int32) (m_allMany : Int32) (m_nodes : Int32) (m_partMany : Int32) (m_pathMany : Int32) (m_heavyMany : Int32) (m_mostMet : Int32) (p0 : Int32) (p1 : Int32) (b0 : 0 ≤ p0.toInt) (b1 : p0.toInt ≤ p1.toInt) (b2 : p1.toInt ≤ 160) (b3 : p1.toInt - p0.toInt ≤ 32) : Met l yX5_deep wsX5_deep ({ frames := 5, cells := 0, slots := 0, locals := 225 }) (va_Pc [.ref h0, .int p0, .int p1] (fun U => va_P (dC, dI) vwCl [kx_5 h0 g_row m_n m_slots m_thrown g_many g_loss g_less g_voteValue g_voteNumber g_allValue g_allNumber m_allMany g_nodeL g_nodeR m_nodes g_part m_partMany g_wasMany g_wasLoss g_wasValue g_wasNumber g_path m_pathMany g_heavyValue g_heavyTimes m_heavyMany g_fewest g_which g_met m_mostMet] U.heap ∧ va_K (dC, dI) vwCl [] U)) (vp_Si (fun r : Int32 => 0 ≤ r.toInt ∧ r.toInt ≤ 6)) 0 0 (fun _ => False) := by
  refine kx_stS (ws := wsX5_deep) (cc := cX5_deep) (maxL := 6) (ret := (some .int)) (by decide) rfl (Nat.le_of_ble_eq_true rfl) ?_
  intro p e s m below meth c ls hx hb hr hlocks hts hown hml hP hK hl
  have hown : s.vm.findClass RX5 = some m.cls := hown
  have hl : lv_has ls 6 [(0, .ref h0), (1, .int p0), (2, .int p1)] := hl
  refine lv_iload_n hx hb dX5_deep_0 rfl (lv_at hl 2 rfl) ?_
  refine lv_iload_n hx hb dX5_deep_1 rfl (lv_at hl 1 rfl) ?_
  refine lv_isub hx hb dX5_deep_2 ?_
  refine lv_topi (fun y_1 ey_1 => ?_)
  have i_1 : y_1.toInt = p1.toInt - p0.toInt := ki_sub ey_1 rfl rfl (om_184 b1) (om_354 b3)
  refine lv_iconst (v := 2) hx hb dX5_deep_3 (by decide) ?_
  refine lv_icmp_ge (tgt := 11) hx hb dX5_deep_4 (by decide) (fun c_2 => ?_) (fun c_2 => ?_)
  · have i_2 : 2 ≤ y_1.toInt := kc_le c_2
    refine lv_iload_n hx hb dX5_deep_11 rfl (lv_at hl 1 rfl) ?_
    refine lv_iload_n hx hb dX5_deep_12 rfl (lv_at hl 2 rfl) ?_
    refine lv_iadd hx hb dX5_deep_13 ?_
    refine lv_topi (fun y_3 ey_3 => ?_)
    have i_3 : y_3.toInt = p0.toInt + p1.toInt := ki_add ey_3 rfl rfl (om_447 b0 b1) (om_448 b1 b2)
    refine lv_iconst (v := 2) hx hb dX5_deep_14 (by decide) ?_
    refine lv_idiv hx hb dX5_deep_15 (by decide) ?_
    refine lv_topi (fun y_4 ey_4 => ?_)
    have i_4 : y_4.toInt = y_3.toInt / 2 := ki_div2 ey_4 rfl (om_449 b0 b1 i_3)
    have d_5 := om_dv i_4
    refine lv_istore_n (lv' := [(3, .int y_4), (0, .ref h0), (1, .int p0), (2, .int p1)]) hx hb dX5_deep_16 rfl hl (by decide) rfl (fun ls hl => ?_)
    refine lv_aload_n hx hb dX5_deep_17 rfl (lv_at hl 1 rfl) ?_
    refine lv_iload_n hx hb dX5_deep_18 rfl (lv_at hl 2 rfl) ?_
    refine lv_iload_n hx hb dX5_deep_19 rfl (lv_at hl 0 rfl) ?_
    have hPc := hP
    have hKc := hK
    refine vp_callSi (W.runV (As := [.int p0, .int y_4]) (rest := []) ⟨hx, hb, hml, hown, hts⟩ (c_X5_deep_4 l dC dI h0 g_row g_many g_loss g_less g_voteValue g_voteNumber g_allValue g_allNumber g_nodeL g_nodeR g_part g_wasMany g_wasLoss g_wasValue g_wasNumber g_path g_heavyValue g_heavyTimes g_fewest g_which g_met m_n m_slots m_thrown m_allMany m_nodes m_partMany m_pathMany m_heavyMany m_mostMet p0 y_4 b0 (om_450 b1 i_1 i_2 i_3 d_5.2) (om_451 b1 b2 i_3 d_5.1) (om_355 b3 i_3 d_5.1)) (cwV 2 hts gX5_deep_X5_deep rfl rfl rfl (by decide +kernel) ⟨Nat.le_of_ble_eq_true rfl, Nat.le_of_ble_eq_true rfl⟩) ⟨fun a U g mk q => by obtain ⟨q0, qP, qK⟩ := q; exact ⟨q0, qP, va_K.moved (u := U) (U := U.calling g mk a) (Vm.Alike.refl U.vm) qK⟩, kx_rc5 hKc hPc (q0 := 0) rfl, fun U hU hW => ⟨rfl, by rw [hU]; exact hPc, va_K.moved hW.alike hKc⟩⟩ rfl rfl hl.1 rfl (lv_room (Nat.le_of_ble_eq_true rfl)) dX5_deep_20 ⟨Nat.le_of_ble_eq_true rfl, Nat.le_of_ble_eq_true rfl⟩) (fun r_6 w_6 => ?_)
    have w_6 : 0 ≤ r_6.toInt ∧ r_6.toInt ≤ 5 := w_6
    refine lv_istore (lv' := [(4, .int r_6), (3, .int y_4), (0, .ref h0), (1, .int p0), (2, .int p1)]) hx hb dX5_deep_23 hl (by decide) rfl (fun ls hl => ?_)
    refine lv_aload_n hx hb dX5_deep_25 rfl (lv_at hl 2 rfl) ?_
    refine lv_iload_n hx hb dX5_deep_26 rfl (lv_at hl 1 rfl) ?_
    refine lv_iload_n hx hb dX5_deep_27 rfl (lv_at hl 4 rfl) ?_
    have hPc := hP
    have hKc := hK
    refine vp_callSi (W.runV (As := [.int y_4, .int p1]) (rest := []) ⟨hx, hb, hml, hown, hts⟩ (c_X5_deep_4 l dC dI h0 g_row g_many g_loss g_less g_voteValue g_voteNumber g_allValue g_allNumber g_nodeL g_nodeR g_part g_wasMany g_wasLoss g_wasValue g_wasNumber g_path g_heavyValue g_heavyTimes g_fewest g_which g_met m_n m_slots m_thrown m_allMany m_nodes m_partMany m_pathMany m_heavyMany m_mostMet y_4 p1 (om_452 b0 b1 i_1 i_2 i_3 d_5.2) (om_453 b1 i_3 d_5.1) b2 (by omega)) (cwV 2 hts gX5_deep_X5_deep rfl rfl rfl (by decide +kernel) ⟨Nat.le_of_ble_eq_true rfl, Nat.le_of_ble_eq_true rfl⟩) ⟨fun a U g mk q => by obtain ⟨q0, qP, qK⟩ := q; exact ⟨q0, qP, va_K.moved (u := U) (U := U.calling g mk a) (Vm.Alike.refl U.vm) qK⟩, kx_rc5 hKc hPc (q0 := 0) rfl, fun U hU hW => ⟨rfl, by rw [hU]; exact hPc, va_K.moved hW.alike hKc⟩⟩ rfl rfl hl.1 rfl (lv_room (Nat.le_of_ble_eq_true rfl)) dX5_deep_28 ⟨Nat.le_of_ble_eq_true rfl, Nat.le_of_ble_eq_true rfl⟩) (fun r_7 w_7 => ?_)
    have w_7 : 0 ≤ r_7.toInt ∧ r_7.toInt ≤ 5 := w_7
    refine lv_istore (lv' := [(5, .int r_7), (4, .int r_6), (3, .int y_4), (0, .ref h0), (1, .int p0), (2, .int p1)]) hx hb dX5_deep_31 hl (by decide) rfl (fun ls hl => ?_)
    refine lv_iconst (v := 1) hx hb dX5_deep_33 (by decide) ?_
    refine lv_iload hx hb dX5_deep_34 (lv_at hl 1 rfl) ?_
    refine lv_iload hx hb dX5_deep_36 (lv_at hl 0 rfl) ?_
    refine lv_icmp_le (tgt := 46) hx hb dX5_deep_38 (by decide) (fun c_8 => ?_) (fun c_8 => ?_)
    · have i_8 : r_6.toInt ≤ r_7.toInt := kc_le c_8
      refine lv_iload hx hb dX5_deep_46 (lv_at hl 0 rfl) ?_
      refine lv_iadd hx hb dX5_deep_48 ?_
      refine lv_topi (fun y_9 ey_9 => ?_)
      have i_9 : y_9.toInt = 1 + r_7.toInt := ki_add ey_9 rfl rfl (om_454 w_7.1) (om_459 w_7.2)
      exact W.iret (v := y_9) hx hb hr (hlocks := hlocks) (fun t ht hW => ⟨y_9, rfl, (by (try dsimp only); omega), ht⟩) (fun q hq => by cases hq) dX5_deep_49
    · have i_8 : r_7.toInt < r_6.toInt := kc_nle c_8
      refine lv_iload hx hb dX5_deep_41 (lv_at hl 1 rfl) ?_
      refine lv_goto (tgt := 48) hx hb dX5_deep_43 (by decide) ?_
      refine lv_iadd hx hb dX5_deep_48 ?_
      refine lv_topi (fun y_10 ey_10 => ?_)
      have i_10 : y_10.toInt = 1 + r_6.toInt := ki_add ey_10 rfl rfl (om_454 w_6.1) (om_459 w_6.2)
      exact W.iret (v := y_10) hx hb hr (hlocks := hlocks) (fun t ht hW => ⟨y_10, rfl, (by (try dsimp only); omega), ht⟩) (fun q hq => by cases hq) dX5_deep_49
  · have i_2 : y_1.toInt < 2 := kc_nle c_2
    refine lv_iload_n hx hb dX5_deep_7 rfl (lv_at hl 2 rfl) ?_
    refine lv_iload_n hx hb dX5_deep_8 rfl (lv_at hl 1 rfl) ?_
    refine lv_isub hx hb dX5_deep_9 ?_
    refine lv_topi (fun y_11 ey_11 => ?_)
    have i_11 : y_11.toInt = p1.toInt - p0.toInt := ki_sub ey_11 rfl rfl (om_184 b1) (om_354 b3)
    exact W.iret (v := y_11) hx hb hr (hlocks := hlocks) (fun t ht hW => ⟨y_11, rfl, (by (try dsimp only); omega), ht⟩) (fun q hq => by cases hq) dX5_deep_10

set_option maxHeartbeats 4000000 in
set_option maxRecDepth 100000 in
theorem c_X5_deep_6 (l : Launch) (dC : Nat → ClassId) (dI : Nat → Nat → Nat) (h0 : Nat) (g_row : Nat) (g_many : Nat) (g_loss : Nat) (g_less : Nat) (g_voteValue : Nat) (g_voteNumber : Nat) (g_allValue : Nat) (g_allNumber : Nat) (g_nodeL : Nat) (g_nodeR : Nat) (g_part : Nat) (g_wasMany : Nat) (g_wasLoss : Nat) (g_wasValue : Nat) (g_wasNumber : Nat) (g_path : Nat) (g_heavyValue : Nat) (g_heavyTimes : Nat) (g_fewest : Nat) (g_which : Nat) (g_met : Nat) (m_n : Int32) (m_slots : Int32) (m_thrown : Int32) (m_allMany : Int32) (m_nodes : Int32) (m_partMany : Int32) (m_pathMany : Int32) (m_heavyMany : Int32) (m_mostMet : Int32) (p0 : Int32) (p1 : Int32) (b0 : 0 ≤ p0.toInt) (b1 : p0.toInt ≤ p1.toInt) (b2 : p1.toInt ≤ 160) (b3 : p1.toInt - p0.toInt ≤ 64) : Met l yX5_deep wsX5_deep ({ frames := 6, cells := 0, slots := 0, locals := 270 }) (va_Pc [.ref h0, .int p0, .int p1] (fun U => va_P (dC, dI) vwCl [kx_5 h0 g_row m_n m_slots m_thrown g_many g_loss g_less g_voteValue g_voteNumber g_allValue g_allNumber m_allMany g_nodeL g_nodeR m_nodes g_part m_partMany g_wasMany g_wasLoss g_wasValue g_wasNumber g_path m_pathMany g_heavyValue g_heavyTimes m_heavyMany g_fewest g_which g_met m_mostMet] U.heap ∧ va_K (dC, dI) vwCl [] U)) (vp_Si (fun r : Int32 => 0 ≤ r.toInt ∧ r.toInt ≤ 7)) 0 0 (fun _ => False) := by
  refine kx_stS (ws := wsX5_deep) (cc := cX5_deep) (maxL := 6) (ret := (some .int)) (by decide) rfl (Nat.le_of_ble_eq_true rfl) ?_
  intro p e s m below meth c ls hx hb hr hlocks hts hown hml hP hK hl
  have hown : s.vm.findClass RX5 = some m.cls := hown
  have hl : lv_has ls 6 [(0, .ref h0), (1, .int p0), (2, .int p1)] := hl
  refine lv_iload_n hx hb dX5_deep_0 rfl (lv_at hl 2 rfl) ?_
  refine lv_iload_n hx hb dX5_deep_1 rfl (lv_at hl 1 rfl) ?_
  refine lv_isub hx hb dX5_deep_2 ?_
  refine lv_topi (fun y_1 ey_1 => ?_)
  have i_1 : y_1.toInt = p1.toInt - p0.toInt := ki_sub ey_1 rfl rfl (om_184 b1) (om_356 b3)
  refine lv_iconst (v := 2) hx hb dX5_deep_3 (by decide) ?_
  refine lv_icmp_ge (tgt := 11) hx hb dX5_deep_4 (by decide) (fun c_2 => ?_) (fun c_2 => ?_)
  · have i_2 : 2 ≤ y_1.toInt := kc_le c_2
    refine lv_iload_n hx hb dX5_deep_11 rfl (lv_at hl 1 rfl) ?_
    refine lv_iload_n hx hb dX5_deep_12 rfl (lv_at hl 2 rfl) ?_
    refine lv_iadd hx hb dX5_deep_13 ?_
    refine lv_topi (fun y_3 ey_3 => ?_)
    have i_3 : y_3.toInt = p0.toInt + p1.toInt := ki_add ey_3 rfl rfl (om_447 b0 b1) (om_448 b1 b2)
    refine lv_iconst (v := 2) hx hb dX5_deep_14 (by decide) ?_
    refine lv_idiv hx hb dX5_deep_15 (by decide) ?_
    refine lv_topi (fun y_4 ey_4 => ?_)
    have i_4 : y_4.toInt = y_3.toInt / 2 := ki_div2 ey_4 rfl (om_449 b0 b1 i_3)
    have d_5 := om_dv i_4
    refine lv_istore_n (lv' := [(3, .int y_4), (0, .ref h0), (1, .int p0), (2, .int p1)]) hx hb dX5_deep_16 rfl hl (by decide) rfl (fun ls hl => ?_)
    refine lv_aload_n hx hb dX5_deep_17 rfl (lv_at hl 1 rfl) ?_
    refine lv_iload_n hx hb dX5_deep_18 rfl (lv_at hl 2 rfl) ?_
    refine lv_iload_n hx hb dX5_deep_19 rfl (lv_at hl 0 rfl) ?_
    have hPc := hP
    have hKc := hK
    refine vp_callSi (W.runV (As := [.int p0, .int y_4]) (rest := []) ⟨hx, hb, hml, hown, hts⟩ (c_X5_deep_5 l dC dI h0 g_row g_many g_loss g_less g_voteValue g_voteNumber g_allValue g_allNumber g_nodeL g_nodeR g_part g_wasMany g_wasLoss g_wasValue g_wasNumber g_path g_heavyValue g_heavyTimes g_fewest g_which g_met m_n m_slots m_thrown m_allMany m_nodes m_partMany m_pathMany m_heavyMany m_mostMet p0 y_4 b0 (om_450 b1 i_1 i_2 i_3 d_5.2) (om_451 b1 b2 i_3 d_5.1) (om_357 b3 i_3 d_5.1)) (cwV 2 hts gX5_deep_X5_deep rfl rfl rfl (by decide +kernel) ⟨Nat.le_of_ble_eq_true rfl, Nat.le_of_ble_eq_true rfl⟩) ⟨fun a U g mk q => by obtain ⟨q0, qP, qK⟩ := q; exact ⟨q0, qP, va_K.moved (u := U) (U := U.calling g mk a) (Vm.Alike.refl U.vm) qK⟩, kx_rc5 hKc hPc (q0 := 0) rfl, fun U hU hW => ⟨rfl, by rw [hU]; exact hPc, va_K.moved hW.alike hKc⟩⟩ rfl rfl hl.1 rfl (lv_room (Nat.le_of_ble_eq_true rfl)) dX5_deep_20 ⟨Nat.le_of_ble_eq_true rfl, Nat.le_of_ble_eq_true rfl⟩) (fun r_6 w_6 => ?_)
    have w_6 : 0 ≤ r_6.toInt ∧ r_6.toInt ≤ 6 := w_6
    refine lv_istore (lv' := [(4, .int r_6), (3, .int y_4), (0, .ref h0), (1, .int p0), (2, .int p1)]) hx hb dX5_deep_23 hl (by decide) rfl (fun ls hl => ?_)
    refine lv_aload_n hx hb dX5_deep_25 rfl (lv_at hl 2 rfl) ?_
    refine lv_iload_n hx hb dX5_deep_26 rfl (lv_at hl 1 rfl) ?_
    refine lv_iload_n hx hb dX5_deep_27 rfl (lv_at hl 4 rfl) ?_
    have hPc := hP
    have hKc := hK
    refine vp_callSi (W.runV (As := [.int y_4, .int p1]) (rest := []) ⟨hx, hb, hml, hown, hts⟩ (c_X5_deep_5 l dC dI h0 g_row g_many g_loss g_less g_voteValue g_voteNumber g_allValue g_allNumber g_nodeL g_nodeR g_part g_wasMany g_wasLoss g_wasValue g_wasNumber g_path g_heavyValue g_heavyTimes g_fewest g_which g_met m_n m_slots m_thrown m_allMany m_nodes m_partMany m_pathMany m_heavyMany m_mostMet y_4 p1 (om_452 b0 b1 i_1 i_2 i_3 d_5.2) (om_453 b1 i_3 d_5.1) b2 (by omega)) (cwV 2 hts gX5_deep_X5_deep rfl rfl rfl (by decide +kernel) ⟨Nat.le_of_ble_eq_true rfl, Nat.le_of_ble_eq_true rfl⟩) ⟨fun a U g mk q => by obtain ⟨q0, qP, qK⟩ := q; exact ⟨q0, qP, va_K.moved (u := U) (U := U.calling g mk a) (Vm.Alike.refl U.vm) qK⟩, kx_rc5 hKc hPc (q0 := 0) rfl, fun U hU hW => ⟨rfl, by rw [hU]; exact hPc, va_K.moved hW.alike hKc⟩⟩ rfl rfl hl.1 rfl (lv_room (Nat.le_of_ble_eq_true rfl)) dX5_deep_28 ⟨Nat.le_of_ble_eq_true rfl, Nat.le_of_ble_eq_true rfl⟩) (fun r_7 w_7 => ?_)
    have w_7 : 0 ≤ r_7.toInt ∧ r_7.toInt ≤ 6 := w_7
    refine lv_istore (lv' := [(5, .int r_7), (4, .int r_6), (3, .int y_4), (0, .ref h0), (1, .int p0), (2, .int p1)]) hx hb dX5_deep_31 hl (by decide) rfl (fun ls hl => ?_)
    refine lv_iconst (v := 1) hx hb dX5_deep_33 (by decide) ?_
    refine lv_iload hx hb dX5_deep_34 (lv_at hl 1 rfl) ?_
    refine lv_iload hx hb dX5_deep_36 (lv_at hl 0 rfl) ?_
    refine lv_icmp_le (tgt := 46) hx hb dX5_deep_38 (by decide) (fun c_8 => ?_) (fun c_8 => ?_)
    · have i_8 : r_6.toInt ≤ r_7.toInt := kc_le c_8
      refine lv_iload hx hb dX5_deep_46 (lv_at hl 0 rfl) ?_
      refine lv_iadd hx hb dX5_deep_48 ?_
      refine lv_topi (fun y_9 ey_9 => ?_)
      have i_9 : y_9.toInt = 1 + r_7.toInt := ki_add ey_9 rfl rfl (om_454 w_7.1) (om_460 w_7.2)
      exact W.iret (v := y_9) hx hb hr (hlocks := hlocks) (fun t ht hW => ⟨y_9, rfl, (by (try dsimp only); omega), ht⟩) (fun q hq => by cases hq) dX5_deep_49
    · have i_8 : r_7.toInt < r_6.toInt := kc_nle c_8
      refine lv_iload hx hb dX5_deep_41 (lv_at hl 1 rfl) ?_
      refine lv_goto (tgt := 48) hx hb dX5_deep_43 (by decide) ?_
      refine lv_iadd hx hb dX5_deep_48 ?_
      refine lv_topi (fun y_10 ey_10 => ?_)
      have i_10 : y_10.toInt = 1 + r_6.toInt := ki_add ey_10 rfl rfl (om_454 w_6.1) (om_460 w_6.2)
      exact W.iret (v := y_10) hx hb hr (hlocks := hlocks) (fun t ht hW => ⟨y_10, rfl, (by (try dsimp only); omega), ht⟩) (fun q hq => by cases hq) dX5_deep_49
  · have i_2 : y_1.toInt < 2 := kc_nle c_2
    refine lv_iload_n hx hb dX5_deep_7 rfl (lv_at hl 2 rfl) ?_
    refine lv_iload_n hx hb dX5_deep_8 rfl (lv_at hl 1 rfl) ?_
    refine lv_isub hx hb dX5_deep_9 ?_
    refine lv_topi (fun y_11 ey_11 => ?_)
    have i_11 : y_11.toInt = p1.toInt - p0.toInt := ki_sub ey_11 rfl rfl (om_184 b1) (om_356 b3)
    exact W.iret (v := y_11) hx hb hr (hlocks := hlocks) (fun t ht hW => ⟨y_11, rfl, (by (try dsimp only); omega), ht⟩) (fun q hq => by cases hq) dX5_deep_10

set_option maxHeartbeats 4000000 in
set_option maxRecDepth 100000 in
theorem c_X5_deep_7 (l : Launch) (dC : Nat → ClassId) (dI : Nat → Nat → Nat) (h0 : Nat) (g_row : Nat) (g_many : Nat) (g_loss : Nat) (g_less : Nat) (g_voteValue : Nat) (g_voteNumber : Nat) (g_allValue : Nat) (g_allNumber : Nat) (g_nodeL : Nat) (g_nodeR : Nat) (g_part : Nat) (g_wasMany : Nat) (g_wasLoss : Nat) (g_wasValue : Nat) (g_wasNumber : Nat) (g_path : Nat) (g_heavyValue : Nat) (g_heavyTimes : Nat) (g_fewest : Nat) (g_which : Nat) (g_met : Nat) (m_n : Int32) (m_slots : Int32) (m_thrown : Int32) (m_allMany : Int32) (m_nodes : Int32) (m_partMany : Int32) (m_pathMany : Int32) (m_heavyMany : Int32) (m_mostMet : Int32) (p0 : Int32) (p1 : Int32) (b0 : 0 ≤ p0.toInt) (b1 : p0.toInt ≤ p1.toInt) (b2 : p1.toInt ≤ 160) (b3 : p1.toInt - p0.toInt ≤ 128) : Met l yX5_deep wsX5_deep ({ frames := 7, cells := 0, slots := 0, locals := 315 }) (va_Pc [.ref h0, .int p0, .int p1] (fun U => va_P (dC, dI) vwCl [kx_5 h0 g_row m_n m_slots m_thrown g_many g_loss g_less g_voteValue g_voteNumber g_allValue g_allNumber m_allMany g_nodeL g_nodeR m_nodes g_part m_partMany g_wasMany g_wasLoss g_wasValue g_wasNumber g_path m_pathMany g_heavyValue g_heavyTimes m_heavyMany g_fewest g_which g_met m_mostMet] U.heap ∧ va_K (dC, dI) vwCl [] U)) (vp_Si (fun r : Int32 => 0 ≤ r.toInt ∧ r.toInt ≤ 8)) 0 0 (fun _ => False) := by
  refine kx_stS (ws := wsX5_deep) (cc := cX5_deep) (maxL := 6) (ret := (some .int)) (by decide) rfl (Nat.le_of_ble_eq_true rfl) ?_
  intro p e s m below meth c ls hx hb hr hlocks hts hown hml hP hK hl
  have hown : s.vm.findClass RX5 = some m.cls := hown
  have hl : lv_has ls 6 [(0, .ref h0), (1, .int p0), (2, .int p1)] := hl
  refine lv_iload_n hx hb dX5_deep_0 rfl (lv_at hl 2 rfl) ?_
  refine lv_iload_n hx hb dX5_deep_1 rfl (lv_at hl 1 rfl) ?_
  refine lv_isub hx hb dX5_deep_2 ?_
  refine lv_topi (fun y_1 ey_1 => ?_)
  have i_1 : y_1.toInt = p1.toInt - p0.toInt := ki_sub ey_1 rfl rfl (om_184 b1) (om_358 b3)
  refine lv_iconst (v := 2) hx hb dX5_deep_3 (by decide) ?_
  refine lv_icmp_ge (tgt := 11) hx hb dX5_deep_4 (by decide) (fun c_2 => ?_) (fun c_2 => ?_)
  · have i_2 : 2 ≤ y_1.toInt := kc_le c_2
    refine lv_iload_n hx hb dX5_deep_11 rfl (lv_at hl 1 rfl) ?_
    refine lv_iload_n hx hb dX5_deep_12 rfl (lv_at hl 2 rfl) ?_
    refine lv_iadd hx hb dX5_deep_13 ?_
    refine lv_topi (fun y_3 ey_3 => ?_)
    have i_3 : y_3.toInt = p0.toInt + p1.toInt := ki_add ey_3 rfl rfl (om_447 b0 b1) (om_448 b1 b2)
    refine lv_iconst (v := 2) hx hb dX5_deep_14 (by decide) ?_
    refine lv_idiv hx hb dX5_deep_15 (by decide) ?_
    refine lv_topi (fun y_4 ey_4 => ?_)
    have i_4 : y_4.toInt = y_3.toInt / 2 := ki_div2 ey_4 rfl (om_449 b0 b1 i_3)
    have d_5 := om_dv i_4
    refine lv_istore_n (lv' := [(3, .int y_4), (0, .ref h0), (1, .int p0), (2, .int p1)]) hx hb dX5_deep_16 rfl hl (by decide) rfl (fun ls hl => ?_)
    refine lv_aload_n hx hb dX5_deep_17 rfl (lv_at hl 1 rfl) ?_
    refine lv_iload_n hx hb dX5_deep_18 rfl (lv_at hl 2 rfl) ?_
    refine lv_iload_n hx hb dX5_deep_19 rfl (lv_at hl 0 rfl) ?_
    have hPc := hP
    have hKc := hK
    refine vp_callSi (W.runV (As := [.int p0, .int y_4]) (rest := []) ⟨hx, hb, hml, hown, hts⟩ (c_X5_deep_6 l dC dI h0 g_row g_many g_loss g_less g_voteValue g_voteNumber g_allValue g_allNumber g_nodeL g_nodeR g_part g_wasMany g_wasLoss g_wasValue g_wasNumber g_path g_heavyValue g_heavyTimes g_fewest g_which g_met m_n m_slots m_thrown m_allMany m_nodes m_partMany m_pathMany m_heavyMany m_mostMet p0 y_4 b0 (om_450 b1 i_1 i_2 i_3 d_5.2) (om_451 b1 b2 i_3 d_5.1) (om_359 b3 i_3 d_5.1)) (cwV 2 hts gX5_deep_X5_deep rfl rfl rfl (by decide +kernel) ⟨Nat.le_of_ble_eq_true rfl, Nat.le_of_ble_eq_true rfl⟩) ⟨fun a U g mk q => by obtain ⟨q0, qP, qK⟩ := q; exact ⟨q0, qP, va_K.moved (u := U) (U := U.calling g mk a) (Vm.Alike.refl U.vm) qK⟩, kx_rc5 hKc hPc (q0 := 0) rfl, fun U hU hW => ⟨rfl, by rw [hU]; exact hPc, va_K.moved hW.alike hKc⟩⟩ rfl rfl hl.1 rfl (lv_room (Nat.le_of_ble_eq_true rfl)) dX5_deep_20 ⟨Nat.le_of_ble_eq_true rfl, Nat.le_of_ble_eq_true rfl⟩) (fun r_6 w_6 => ?_)
    have w_6 : 0 ≤ r_6.toInt ∧ r_6.toInt ≤ 7 := w_6
    refine lv_istore (lv' := [(4, .int r_6), (3, .int y_4), (0, .ref h0), (1, .int p0), (2, .int p1)]) hx hb dX5_deep_23 hl (by decide) rfl (fun ls hl => ?_)
    refine lv_aload_n hx hb dX5_deep_25 rfl (lv_at hl 2 rfl) ?_
    refine lv_iload_n hx hb dX5_deep_26 rfl (lv_at hl 1 rfl) ?_
    refine lv_iload_n hx hb dX5_deep_27 rfl (lv_at hl 4 rfl) ?_
    have hPc := hP
    have hKc := hK
    refine vp_callSi (W.runV (As := [.int y_4, .int p1]) (rest := []) ⟨hx, hb, hml, hown, hts⟩ (c_X5_deep_6 l dC dI h0 g_row g_many g_loss g_less g_voteValue g_voteNumber g_allValue g_allNumber g_nodeL g_nodeR g_part g_wasMany g_wasLoss g_wasValue g_wasNumber g_path g_heavyValue g_heavyTimes g_fewest g_which g_met m_n m_slots m_thrown m_allMany m_nodes m_partMany m_pathMany m_heavyMany m_mostMet y_4 p1 (om_452 b0 b1 i_1 i_2 i_3 d_5.2) (om_453 b1 i_3 d_5.1) b2 (by omega)) (cwV 2 hts gX5_deep_X5_deep rfl rfl rfl (by decide +kernel) ⟨Nat.le_of_ble_eq_true rfl, Nat.le_of_ble_eq_true rfl⟩) ⟨fun a U g mk q => by obtain ⟨q0, qP, qK⟩ := q; exact ⟨q0, qP, va_K.moved (u := U) (U := U.calling g mk a) (Vm.Alike.refl U.vm) qK⟩, kx_rc5 hKc hPc (q0 := 0) rfl, fun U hU hW => ⟨rfl, by rw [hU]; exact hPc, va_K.moved hW.alike hKc⟩⟩ rfl rfl hl.1 rfl (lv_room (Nat.le_of_ble_eq_true rfl)) dX5_deep_28 ⟨Nat.le_of_ble_eq_true rfl, Nat.le_of_ble_eq_true rfl⟩) (fun r_7 w_7 => ?_)
    have w_7 : 0 ≤ r_7.toInt ∧ r_7.toInt ≤ 7 := w_7
    refine lv_istore (lv' := [(5, .int r_7), (4, .int r_6), (3, .int y_4), (0, .ref h0), (1, .int p0), (2, .int p1)]) hx hb dX5_deep_31 hl (by decide) rfl (fun ls hl => ?_)
    refine lv_iconst (v := 1) hx hb dX5_deep_33 (by decide) ?_
    refine lv_iload hx hb dX5_deep_34 (lv_at hl 1 rfl) ?_
    refine lv_iload hx hb dX5_deep_36 (lv_at hl 0 rfl) ?_
    refine lv_icmp_le (tgt := 46) hx hb dX5_deep_38 (by decide) (fun c_8 => ?_) (fun c_8 => ?_)
    · have i_8 : r_6.toInt ≤ r_7.toInt := kc_le c_8
      refine lv_iload hx hb dX5_deep_46 (lv_at hl 0 rfl) ?_
      refine lv_iadd hx hb dX5_deep_48 ?_
      refine lv_topi (fun y_9 ey_9 => ?_)
      have i_9 : y_9.toInt = 1 + r_7.toInt := ki_add ey_9 rfl rfl (om_454 w_7.1) (om_461 w_7.2)
      exact W.iret (v := y_9) hx hb hr (hlocks := hlocks) (fun t ht hW => ⟨y_9, rfl, (by (try dsimp only); omega), ht⟩) (fun q hq => by cases hq) dX5_deep_49
    · have i_8 : r_7.toInt < r_6.toInt := kc_nle c_8
      refine lv_iload hx hb dX5_deep_41 (lv_at hl 1 rfl) ?_
      refine lv_goto (tgt := 48) hx hb dX5_deep_43 (by decide) ?_
      refine lv_iadd hx hb dX5_deep_48 ?_
      refine lv_topi (fun y_10 ey_10 => ?_)
      have i_10 : y_10.toInt = 1 + r_6.toInt := ki_add ey_10 rfl rfl (om_454 w_6.1) (om_461 w_6.2)
      exact W.iret (v := y_10) hx hb hr (hlocks := hlocks) (fun t ht hW => ⟨y_10, rfl, (by (try dsimp only); omega), ht⟩) (fun q hq => by cases hq) dX5_deep_49
  · have i_2 : y_1.toInt < 2 := kc_nle c_2
    refine lv_iload_n hx hb dX5_deep_7 rfl (lv_at hl 2 rfl) ?_
    refine lv_iload_n hx hb dX5_deep_8 rfl (lv_at hl 1 rfl) ?_
    refine lv_isub hx hb dX5_deep_9 ?_
    refine lv_topi (fun y_11 ey_11 => ?_)
    have i_11 : y_11.toInt = p1.toInt - p0.toInt := ki_sub ey_11 rfl rfl (om_184 b1) (om_358 b3)
    exact W.iret (v := y_11) hx hb hr (hlocks := hlocks) (fun t ht hW => ⟨y_11, rfl, (by (try dsimp only); omega), ht⟩) (fun q hq => by cases hq) dX5_deep_10

set_option maxHeartbeats 4000000 in
set_option maxRecDepth 100000 in
theorem c_X5_deep_8 (l : Launch) (dC : Nat → ClassId) (dI : Nat → Nat → Nat) (h0 : Nat) (g_row : Nat) (g_many : Nat) (g_loss : Nat) (g_less : Nat) (g_voteValue : Nat) (g_voteNumber : Nat) (g_allValue : Nat) (g_allNumber : Nat) (g_nodeL : Nat) (g_nodeR : Nat) (g_part : Nat) (g_wasMany : Nat) (g_wasLoss : Nat) (g_wasValue : Nat) (g_wasNumber : Nat) (g_path : Nat) (g_heavyValue : Nat) (g_heavyTimes : Nat) (g_fewest : Nat) (g_which : Nat) (g_met : Nat) (m_n : Int32) (m_slots : Int32) (m_thrown : Int32) (m_allMany : Int32) (m_nodes : Int32) (m_partMany : Int32) (m_pathMany : Int32) (m_heavyMany : Int32) (m_mostMet : Int32) (p0 : Int32) (p1 : Int32) (b0 : 0 ≤ p0.toInt) (b1 : p0.toInt ≤ p1.toInt) (b2 : p1.toInt ≤ 160) (b3 : p1.toInt - p0.toInt ≤ 256) : Met l yX5_deep wsX5_deep ({ frames := 8, cells := 0, slots := 0, locals := 360 }) (va_Pc [.ref h0, .int p0, .int p1] (fun U => va_P (dC, dI) vwCl [kx_5 h0 g_row m_n m_slots m_thrown g_many g_loss g_less g_voteValue g_voteNumber g_allValue g_allNumber m_allMany g_nodeL g_nodeR m_nodes g_part m_partMany g_wasMany g_wasLoss g_wasValue g_wasNumber g_path m_pathMany g_heavyValue g_heavyTimes m_heavyMany g_fewest g_which g_met m_mostMet] U.heap ∧ va_K (dC, dI) vwCl [] U)) (vp_Si (fun r : Int32 => 0 ≤ r.toInt ∧ r.toInt ≤ 9)) 0 0 (fun _ => False) := by
  refine kx_stS (ws := wsX5_deep) (cc := cX5_deep) (maxL := 6) (ret := (some .int)) (by decide) rfl (Nat.le_of_ble_eq_true rfl) ?_
  intro p e s m below meth c ls hx hb hr hlocks hts hown hml hP hK hl
  have hown : s.vm.findClass RX5 = some m.cls := hown
  have hl : lv_has ls 6 [(0, .ref h0), (1, .int p0), (2, .int p1)] := hl
  refine lv_iload_n hx hb dX5_deep_0 rfl (lv_at hl 2 rfl) ?_
  refine lv_iload_n hx hb dX5_deep_1 rfl (lv_at hl 1 rfl) ?_
  refine lv_isub hx hb dX5_deep_2 ?_
  refine lv_topi (fun y_1 ey_1 => ?_)
  have i_1 : y_1.toInt = p1.toInt - p0.toInt := ki_sub ey_1 rfl rfl (om_184 b1) (om_360 b3)
  refine lv_iconst (v := 2) hx hb dX5_deep_3 (by decide) ?_
  refine lv_icmp_ge (tgt := 11) hx hb dX5_deep_4 (by decide) (fun c_2 => ?_) (fun c_2 => ?_)
  · have i_2 : 2 ≤ y_1.toInt := kc_le c_2
    refine lv_iload_n hx hb dX5_deep_11 rfl (lv_at hl 1 rfl) ?_
    refine lv_iload_n hx hb dX5_deep_12 rfl (lv_at hl 2 rfl) ?_
    refine lv_iadd hx hb dX5_deep_13 ?_
    refine lv_topi (fun y_3 ey_3 => ?_)
    have i_3 : y_3.toInt = p0.toInt + p1.toInt := ki_add ey_3 rfl rfl (om_447 b0 b1) (om_448 b1 b2)
    refine lv_iconst (v := 2) hx hb dX5_deep_14 (by decide) ?_
    refine lv_idiv hx hb dX5_deep_15 (by decide) ?_
    refine lv_topi (fun y_4 ey_4 => ?_)
    have i_4 : y_4.toInt = y_3.toInt / 2 := ki_div2 ey_4 rfl (om_449 b0 b1 i_3)
    have d_5 := om_dv i_4
    refine lv_istore_n (lv' := [(3, .int y_4), (0, .ref h0), (1, .int p0), (2, .int p1)]) hx hb dX5_deep_16 rfl hl (by decide) rfl (fun ls hl => ?_)
    refine lv_aload_n hx hb dX5_deep_17 rfl (lv_at hl 1 rfl) ?_
    refine lv_iload_n hx hb dX5_deep_18 rfl (lv_at hl 2 rfl) ?_
    refine lv_iload_n hx hb dX5_deep_19 rfl (lv_at hl 0 rfl) ?_
    have hPc := hP
    have hKc := hK
    refine vp_callSi (W.runV (As := [.int p0, .int y_4]) (rest := []) ⟨hx, hb, hml, hown, hts⟩ (c_X5_deep_7 l dC dI h0 g_row g_many g_loss g_less g_voteValue g_voteNumber g_allValue g_allNumber g_nodeL g_nodeR g_part g_wasMany g_wasLoss g_wasValue g_wasNumber g_path g_heavyValue g_heavyTimes g_fewest g_which g_met m_n m_slots m_thrown m_allMany m_nodes m_partMany m_pathMany m_heavyMany m_mostMet p0 y_4 b0 (om_450 b1 i_1 i_2 i_3 d_5.2) (om_451 b1 b2 i_3 d_5.1) (om_361 b3 i_3 d_5.1)) (cwV 2 hts gX5_deep_X5_deep rfl rfl rfl (by decide +kernel) ⟨Nat.le_of_ble_eq_true rfl, Nat.le_of_ble_eq_true rfl⟩) ⟨fun a U g mk q => by obtain ⟨q0, qP, qK⟩ := q; exact ⟨q0, qP, va_K.moved (u := U) (U := U.calling g mk a) (Vm.Alike.refl U.vm) qK⟩, kx_rc5 hKc hPc (q0 := 0) rfl, fun U hU hW => ⟨rfl, by rw [hU]; exact hPc, va_K.moved hW.alike hKc⟩⟩ rfl rfl hl.1 rfl (lv_room (Nat.le_of_ble_eq_true rfl)) dX5_deep_20 ⟨Nat.le_of_ble_eq_true rfl, Nat.le_of_ble_eq_true rfl⟩) (fun r_6 w_6 => ?_)
    have w_6 : 0 ≤ r_6.toInt ∧ r_6.toInt ≤ 8 := w_6
    refine lv_istore (lv' := [(4, .int r_6), (3, .int y_4), (0, .ref h0), (1, .int p0), (2, .int p1)]) hx hb dX5_deep_23 hl (by decide) rfl (fun ls hl => ?_)
    refine lv_aload_n hx hb dX5_deep_25 rfl (lv_at hl 2 rfl) ?_
    refine lv_iload_n hx hb dX5_deep_26 rfl (lv_at hl 1 rfl) ?_
    refine lv_iload_n hx hb dX5_deep_27 rfl (lv_at hl 4 rfl) ?_
    have hPc := hP
    have hKc := hK
    refine vp_callSi (W.runV (As := [.int y_4, .int p1]) (rest := []) ⟨hx, hb, hml, hown, hts⟩ (c_X5_deep_7 l dC dI h0 g_row g_many g_loss g_less g_voteValue g_voteNumber g_allValue g_allNumber g_nodeL g_nodeR g_part g_wasMany g_wasLoss g_wasValue g_wasNumber g_path g_heavyValue g_heavyTimes g_fewest g_which g_met m_n m_slots m_thrown m_allMany m_nodes m_partMany m_pathMany m_heavyMany m_mostMet y_4 p1 (om_452 b0 b1 i_1 i_2 i_3 d_5.2) (om_453 b1 i_3 d_5.1) b2 (om_462 b0 b2 b3 i_3 d_5.2)) (cwV 2 hts gX5_deep_X5_deep rfl rfl rfl (by decide +kernel) ⟨Nat.le_of_ble_eq_true rfl, Nat.le_of_ble_eq_true rfl⟩) ⟨fun a U g mk q => by obtain ⟨q0, qP, qK⟩ := q; exact ⟨q0, qP, va_K.moved (u := U) (U := U.calling g mk a) (Vm.Alike.refl U.vm) qK⟩, kx_rc5 hKc hPc (q0 := 0) rfl, fun U hU hW => ⟨rfl, by rw [hU]; exact hPc, va_K.moved hW.alike hKc⟩⟩ rfl rfl hl.1 rfl (lv_room (Nat.le_of_ble_eq_true rfl)) dX5_deep_28 ⟨Nat.le_of_ble_eq_true rfl, Nat.le_of_ble_eq_true rfl⟩) (fun r_7 w_7 => ?_)
    have w_7 : 0 ≤ r_7.toInt ∧ r_7.toInt ≤ 8 := w_7
    refine lv_istore (lv' := [(5, .int r_7), (4, .int r_6), (3, .int y_4), (0, .ref h0), (1, .int p0), (2, .int p1)]) hx hb dX5_deep_31 hl (by decide) rfl (fun ls hl => ?_)
    refine lv_iconst (v := 1) hx hb dX5_deep_33 (by decide) ?_
    refine lv_iload hx hb dX5_deep_34 (lv_at hl 1 rfl) ?_
    refine lv_iload hx hb dX5_deep_36 (lv_at hl 0 rfl) ?_
    refine lv_icmp_le (tgt := 46) hx hb dX5_deep_38 (by decide) (fun c_8 => ?_) (fun c_8 => ?_)
    · have i_8 : r_6.toInt ≤ r_7.toInt := kc_le c_8
      refine lv_iload hx hb dX5_deep_46 (lv_at hl 0 rfl) ?_
      refine lv_iadd hx hb dX5_deep_48 ?_
      refine lv_topi (fun y_9 ey_9 => ?_)
      have i_9 : y_9.toInt = 1 + r_7.toInt := ki_add ey_9 rfl rfl (om_454 w_7.1) (om_463 w_7.2)
      exact W.iret (v := y_9) hx hb hr (hlocks := hlocks) (fun t ht hW => ⟨y_9, rfl, (by (try dsimp only); omega), ht⟩) (fun q hq => by cases hq) dX5_deep_49
    · have i_8 : r_7.toInt < r_6.toInt := kc_nle c_8
      refine lv_iload hx hb dX5_deep_41 (lv_at hl 1 rfl) ?_
      refine lv_goto (tgt := 48) hx hb dX5_deep_43 (by decide) ?_
      refine lv_iadd hx hb dX5_deep_48 ?_
      refine lv_topi (fun y_10 ey_10 => ?_)
      have i_10 : y_10.toInt = 1 + r_6.toInt := ki_add ey_10 rfl rfl (om_454 w_6.1) (om_463 w_6.2)
      exact W.iret (v := y_10) hx hb hr (hlocks := hlocks) (fun t ht hW => ⟨y_10, rfl, (by (try dsimp only); omega), ht⟩) (fun q hq => by cases hq) dX5_deep_49
  · have i_2 : y_1.toInt < 2 := kc_nle c_2
    refine lv_iload_n hx hb dX5_deep_7 rfl (lv_at hl 2 rfl) ?_
    refine lv_iload_n hx hb dX5_deep_8 rfl (lv_at hl 1 rfl) ?_
    refine lv_isub hx hb dX5_deep_9 ?_
    refine lv_topi (fun y_11 ey_11 => ?_)
    have i_11 : y_11.toInt = p1.toInt - p0.toInt := ki_sub ey_11 rfl rfl (om_184 b1) (om_360 b3)
    exact W.iret (v := y_11) hx hb hr (hlocks := hlocks) (fun t ht hW => ⟨y_11, rfl, (by (try dsimp only); omega), ht⟩) (fun q hq => by cases hq) dX5_deep_10

set_option maxHeartbeats 4000000 in
set_option maxRecDepth 100000 in
theorem c_X5_nodesWithMajority (l : Launch) (dC : Nat → ClassId) (dI : Nat → Nat → Nat) (h0 : Nat) (g_row : Nat) (g_many : Nat) (g_loss : Nat) (g_less : Nat) (g_voteValue : Nat) (g_voteNumber : Nat) (g_allValue : Nat) (g_allNumber : Nat) (g_nodeL : Nat) (g_nodeR : Nat) (g_part : Nat) (g_wasMany : Nat) (g_wasLoss : Nat) (g_wasValue : Nat) (g_wasNumber : Nat) (g_path : Nat) (g_heavyValue : Nat) (g_heavyTimes : Nat) (g_fewest : Nat) (g_which : Nat) (g_met : Nat) (m_n : Int32) (m_slots : Int32) (m_thrown : Int32) (m_allMany : Int32) (m_nodes : Int32) (m_partMany : Int32) (m_pathMany : Int32) (m_heavyMany : Int32) (m_mostMet : Int32) (cyI : ClassId) (f : Nat → Int32) (nl : Nat → Int32) (nr : Nat → Int32) (b0 : 0 ≤ m_nodes.toInt) (b1 : m_nodes.toInt ≤ 319) (ok : nodesOk nl nr m_nodes.toInt) : Met l yX5_nodesWithMajority wsX5_nodesWithMajority ({ frames := 2, cells := 0, slots := 0, locals := 90 }) (va_Pc [.ref h0] (fun U => va_P (dC, dI) vwCl [kx_5 h0 g_row m_n m_slots m_thrown g_many g_loss g_less g_voteValue g_voteNumber g_allValue g_allNumber m_allMany g_nodeL g_nodeR m_nodes g_part m_partMany g_wasMany g_wasLoss g_wasValue g_wasNumber g_path m_pathMany g_heavyValue g_heavyTimes m_heavyMany g_fewest g_which g_met m_mostMet, kx_a g_row cyI 160 f, kx_a g_nodeL cyI 320 nl, kx_a g_nodeR cyI 320 nr] U.heap ∧ va_K (dC, dI) vwCl [(cyI, .int)] U)) (vp_Si (fun r : Int32 => True)) 0 0 (fun _ => False) := by
  refine kx_stS (ws := wsX5_nodesWithMajority) (cc := cX5_nodesWithMajority) (maxL := 3) (ret := (some .int)) (by decide) rfl (Nat.le_of_ble_eq_true rfl) ?_
  intro p e s m below meth c ls hx hb hr hlocks hts hown hml hP hK hl
  have hown : s.vm.findClass RX5 = some m.cls := hown
  have hl : lv_has ls 3 [(0, .ref h0)] := hl
  have hf_101 := hts (.fieldLink RX5 101 "MajorityIndexModel" "nodes" "I") (List.mem_of_getElem? (i := 1) rfl)
  have hi_5 : ∀ w ∈ u_ws RX5 TX5 30, w ∈ wsX5_nodesWithMajority := fun w h => List.mem_cons_of_mem _ (List.mem_append_right _ h)
  have hf_38 := hts (.fieldLink RX5 38 "MajorityIndexModel" "nodeL" "[I") (List.mem_of_getElem? (i := 2) rfl)
  have hf_41 := hts (.fieldLink RX5 41 "MajorityIndexModel" "nodeR" "[I") (List.mem_of_getElem? (i := 3) rfl)
  have hk_148 := hts (.constant RX5 148 (-40000)) (List.mem_of_getElem? (i := 4) rfl)
  refine lv_iconst (v := 0) hx hb dX5_nodesWithMajority_0 (by decide) ?_
  refine lv_istore_n (lv' := [(1, .int 0), (0, .ref h0)]) hx hb dX5_nodesWithMajority_1 rfl hl (by decide) rfl (fun ls hl => ?_)
  refine lv_iconst (v := 0) hx hb dX5_nodesWithMajority_2 (by decide) ?_
  refine lv_istore_n (lv' := [(2, .int 0), (1, .int 0), (0, .ref h0)]) hx hb dX5_nodesWithMajority_3 rfl hl (by decide) rfl (fun ls hl => ?_)
  have LP1 : ∀ (n : Nat) (i : Int32) (sm : Int32), (0 ≤ i.toInt) → (m_nodes.toInt - i.toInt).toNat < n → ∀ (ls : Array Slot), lv_has ls 3 [(2, .int i), (1, .int sm), (0, .ref h0)] → W p l e (headSpec wsX5_nodesWithMajority ({ frames := 2, cells := 0, slots := 0, locals := 90 })).room s m ([.ref h0] : List Value).toArray below meth c s.heap [] 0 0 (MQ below (vp_Si (fun r : Int32 => True)) ([.ref h0] : List Value).toArray s 0 0 (fun _ => False)) (F0 m 4 ls []) := by
    intro n
    induction n with
    | zero => intro i sm LP1_h0 hn; exact absurd hn (Nat.not_lt_zero _)
    | succ n ih1 =>
      intro i sm LP1_h0 hn1 ls hl
      refine lv_iload_n hx hb dX5_nodesWithMajority_4 rfl (lv_at hl 0 rfl) ?_
      refine lv_aload_n hx hb dX5_nodesWithMajority_5 rfl (lv_at hl 2 rfl) ?_
      refine va_get (D := (dC, dI)) (ci := 5) (v := .int m_nodes) (C := RX5) (T := TX5) (N := 30) hx hb hts hi_5 hown hK hP 0 rfl rfl 14 (by decide) hf_101 (fun _ h9 => h9) rfl dX5_nodesWithMajority_6 ?_
      refine lv_icmp_ge (tgt := 42) hx hb dX5_nodesWithMajority_9 (by decide) (fun c_1 => ?_) (fun c_1 => ?_)
      · have i_1 : m_nodes.toInt ≤ i.toInt := kc_le c_1
        refine lv_iload_n hx hb dX5_nodesWithMajority_42 rfl (lv_at hl 1 rfl) ?_
        exact W.iret (v := sm) hx hb hr (hlocks := hlocks) (fun t ht hW => ⟨sm, rfl, trivial, ht⟩) (fun q hq => by cases hq) dX5_nodesWithMajority_43
      · have i_1 : i.toInt < m_nodes.toInt := kc_nle c_1
        refine lv_aload_n hx hb dX5_nodesWithMajority_12 rfl (lv_at hl 2 rfl) ?_
        refine lv_aload_n hx hb dX5_nodesWithMajority_13 rfl (lv_at hl 2 rfl) ?_
        refine va_get (D := (dC, dI)) (ci := 5) (v := .ref g_nodeL) (C := RX5) (T := TX5) (N := 30) hx hb hts hi_5 hown hK hP 0 rfl rfl 12 (by decide) hf_38 (fun _ h9 => h9) rfl dX5_nodesWithMajority_14 ?_
        refine lv_iload_n hx hb dX5_nodesWithMajority_17 rfl (lv_at hl 0 rfl) ?_
        refine va_iald hx hb hK hP 2 0 rfl rfl (ki_in (om_10 LP1_h0) (om_425 b1 i_1)) dX5_nodesWithMajority_18 ?_
        refine lv_topi (fun y_2 ey_2 => ?_)
        have j_2 : y_2.toInt = (nl i.toNatClampNeg).toInt := congrArg Int32.toInt ey_2
        have n_3 : (i.toNatClampNeg : Int) = i.toInt := ki_nat _ rfl (om_10 LP1_h0)
        have i_4 := ok i.toNatClampNeg (by omega)
        refine lv_aload_n hx hb dX5_nodesWithMajority_19 rfl (lv_at hl 2 rfl) ?_
        refine va_get (D := (dC, dI)) (ci := 5) (v := .ref g_nodeR) (C := RX5) (T := TX5) (N := 30) hx hb hts hi_5 hown hK hP 0 rfl rfl 13 (by decide) hf_41 (fun _ h9 => h9) rfl dX5_nodesWithMajority_20 ?_
        refine lv_iload_n hx hb dX5_nodesWithMajority_23 rfl (lv_at hl 0 rfl) ?_
        refine va_iald hx hb hK hP 3 0 rfl rfl (ki_in (om_10 LP1_h0) (om_425 b1 i_1)) dX5_nodesWithMajority_24 ?_
        refine lv_topi (fun y_5 ey_5 => ?_)
        have j_5 : y_5.toInt = (nr i.toNatClampNeg).toInt := congrArg Int32.toInt ey_5
        have n_6 : (i.toNatClampNeg : Int) = i.toInt := ki_nat _ rfl (om_10 LP1_h0)
        have i_7 := ok i.toNatClampNeg (by omega)
        have hPc := hP.sub (ws' := [kx_5 h0 g_row m_n m_slots m_thrown g_many g_loss g_less g_voteValue g_voteNumber g_allValue g_allNumber m_allMany g_nodeL g_nodeR m_nodes g_part m_partMany g_wasMany g_wasLoss g_wasValue g_wasNumber g_path m_pathMany g_heavyValue g_heavyTimes m_heavyMany g_fewest g_which g_met m_mostMet, kx_a g_row cyI 160 f]) [0, 1] rfl
        have hKc := hK
        refine vp_callSi (W.runV (As := [.int y_2, .int y_5]) (rest := []) ⟨hx, hb, hml, hown, hts⟩ (c_X5_majorityOf_x l dC dI h0 g_row g_many g_loss g_less g_voteValue g_voteNumber g_allValue g_allNumber g_nodeL g_nodeR g_part g_wasMany g_wasLoss g_wasValue g_wasNumber g_path g_heavyValue g_heavyTimes g_fewest g_which g_met m_n m_slots m_thrown m_allMany m_nodes m_partMany m_pathMany m_heavyMany m_mostMet cyI f y_2 y_5 (by omega) (by omega) (by omega)) (cwV 2 hts gX5_nodesWithMajority_X5_majorityOf rfl rfl rfl (by decide +kernel) ⟨Nat.le_of_ble_eq_true rfl, Nat.le_of_ble_eq_true rfl⟩) ⟨fun a U g mk q => by obtain ⟨q0, qP, qK⟩ := q; exact ⟨q0, qP, va_K.moved (u := U) (U := U.calling g mk a) (Vm.Alike.refl U.vm) qK⟩, kx_rc5 hKc hPc (q0 := 0) rfl, fun U hU hW => ⟨rfl, by rw [hU]; exact hPc, va_K.moved hW.alike hKc⟩⟩ rfl rfl hl.1 rfl (lv_room (Nat.le_of_ble_eq_true rfl)) dX5_nodesWithMajority_25 ⟨Nat.le_of_ble_eq_true rfl, Nat.le_of_ble_eq_true rfl⟩) (fun r_8 w_8 => ?_)
        have w_8 : mj_maj f y_2.toNatClampNeg y_5.toNatClampNeg r_8 := w_8
        refine lv_ldc (v := (-40000)) hx hb hown hk_148 dX5_nodesWithMajority_28 ?_
        refine lv_icmp_eq (tgt := 36) hx hb dX5_nodesWithMajority_30 (by decide) (fun c_9 => ?_) (fun c_9 => ?_)
        · have i_9 : r_8.toInt = (-40000) := kc_eq c_9
          obtain ⟨x_10, ex_10⟩ : ∃ y : Int32, y = i + 1 := ⟨_, rfl⟩
          have i_10 : x_10.toInt = i.toInt + 1 := ki_add ex_10 rfl rfl (om_13 LP1_h0) (om_125 b1 i_1)
          refine lv_iinc (v := x_10) (lv' := [(2, .int x_10), (1, .int sm), (0, .ref h0)]) hx hb dX5_nodesWithMajority_36 hl (k := 0) rfl (by rw [ex_10]; rfl) (by decide) rfl (fun ls hl => ?_)
          refine lv_goto (tgt := 4) hx hb dX5_nodesWithMajority_39 (by decide) ?_
          exact ih1 x_10 sm (om_34 LP1_h0 i_10) (om_mu hn1 (om_5 i_10) (om_6 i_1)) ls (lv_sub hl [0, 1, 2] rfl)
        · have i_9 : ¬ r_8.toInt = (-40000) := kc_ne c_9
          obtain ⟨x_11, ex_11⟩ : ∃ y : Int32, y = sm + 1 := ⟨_, rfl⟩
          refine lv_iinc (v := x_11) (lv' := [(1, .int x_11), (2, .int i), (0, .ref h0)]) hx hb dX5_nodesWithMajority_33 hl (k := 1) rfl (by rw [ex_11]; rfl) (by decide) rfl (fun ls hl => ?_)
          obtain ⟨x_12, ex_12⟩ : ∃ y : Int32, y = i + 1 := ⟨_, rfl⟩
          have i_12 : x_12.toInt = i.toInt + 1 := ki_add ex_12 rfl rfl (om_13 LP1_h0) (om_125 b1 i_1)
          refine lv_iinc (v := x_12) (lv' := [(2, .int x_12), (1, .int x_11), (0, .ref h0)]) hx hb dX5_nodesWithMajority_36 hl (k := 1) rfl (by rw [ex_12]; rfl) (by decide) rfl (fun ls hl => ?_)
          refine lv_goto (tgt := 4) hx hb dX5_nodesWithMajority_39 (by decide) ?_
          exact ih1 x_12 x_11 (om_34 LP1_h0 i_12) (om_mu hn1 (om_5 i_12) (om_6 i_1)) ls (lv_sub hl [0, 1, 2] rfl)
  have k_13 : (0 : Int32).toInt = 0 := rfl
  have k_14 : (0 : Int32).toInt = 0 := rfl
  exact LP1 ((m_nodes.toInt - 0 : Int).toNat + 1) 0 0 om_35 (Nat.lt_succ_self _) ls (lv_sub hl [0, 1, 2] rfl)

set_option maxHeartbeats 4000000 in
set_option maxRecDepth 100000 in
theorem c_X5_told (l : Launch) (dC : Nat → ClassId) (dI : Nat → Nat → Nat) (h0 : Nat) (g_row : Nat) (g_many : Nat) (g_loss : Nat) (g_less : Nat) (g_voteValue : Nat) (g_voteNumber : Nat) (g_allValue : Nat) (g_allNumber : Nat) (g_nodeL : Nat) (g_nodeR : Nat) (g_part : Nat) (g_wasMany : Nat) (g_wasLoss : Nat) (g_wasValue : Nat) (g_wasNumber : Nat) (g_path : Nat) (g_heavyValue : Nat) (g_heavyTimes : Nat) (g_fewest : Nat) (g_which : Nat) (g_met : Nat) (m_n : Int32) (m_slots : Int32) (m_thrown : Int32) (m_allMany : Int32) (m_nodes : Int32) (m_partMany : Int32) (m_pathMany : Int32) (m_heavyMany : Int32) (m_mostMet : Int32) (cyI : ClassId) (fm : Nat → Int32) (fl : Nat → Int32) (fe : Nat → Int32) (vv : Nat → Int32) (vn : Nat → Int32) (f : Nat → Int32) (av : Nat → Int32) (an : Nat → Int32) (nl : Nat → Int32) (nr : Nat → Int32) (p0 : Int32) (sz : Nat) (a0 : 0 ≤ m_n.toInt) (a1 : m_n.toInt ≤ 160) (sl0 : 1 ≤ m_slots.toInt) (sl1 : m_slots.toInt ≤ 6) (s4 : six4 fm) : kx_MQ l (dC, dI) yX5_told wsX5_told ({ frames := 12, cells := 0, slots := 0, locals := 540 }) [.ref h0, .int p0] [kx_5 h0 g_row m_n m_slots m_thrown g_many g_loss g_less g_voteValue g_voteNumber g_allValue g_allNumber m_allMany g_nodeL g_nodeR m_nodes g_part m_partMany g_wasMany g_wasLoss g_wasValue g_wasNumber g_path m_pathMany g_heavyValue g_heavyTimes m_heavyMany g_fewest g_which g_met m_mostMet, kx_a g_row cyI 160 f, kx_a g_many cyI 324 fm, kx_a g_loss cyI 324 fl, kx_a g_less cyI 324 fe, kx_a g_voteValue cyI 1944 vv, kx_a g_voteNumber cyI 1944 vn, kx_a g_allValue cyI 12 av, kx_a g_allNumber cyI 12 an, kx_a g_nodeL cyI 320 nl, kx_a g_nodeR cyI 320 nr] [(cyI, .int)] sz (fun A => va_Qi (fun (r : Int32) (u : Int32 × Int32 × (Nat → Int32) × (Nat → Int32) × (Nat → Int32) × (Nat → Int32) × (Nat → Int32) × (Nat → Int32) × (Nat → Int32) × (Nat → Int32) × (Nat → Int32)) => six4 u.2.2.1) (fun (u : Int32 × Int32 × (Nat → Int32) × (Nat → Int32) × (Nat → Int32) × (Nat → Int32) × (Nat → Int32) × (Nat → Int32) × (Nat → Int32) × (Nat → Int32) × (Nat → Int32)) (t : State) => va_P (dC, dI) vwCl [kx_5 h0 g_row m_n m_slots 0 g_many g_loss g_less g_voteValue g_voteNumber g_allValue g_allNumber u.2.1 g_nodeL g_nodeR u.1 g_part m_partMany g_wasMany g_wasLoss g_wasValue g_wasNumber g_path m_pathMany g_heavyValue g_heavyTimes m_heavyMany g_fewest g_which g_met m_mostMet, kx_a g_row cyI 160 f, kx_a g_many cyI 324 u.2.2.1, kx_a g_loss cyI 324 u.2.2.2.1, kx_a g_less cyI 324 u.2.2.2.2.1, kx_a g_voteValue cyI 1944 u.2.2.2.2.2.1, kx_a g_voteNumber cyI 1944 u.2.2.2.2.2.2.1, kx_a g_allValue cyI 12 u.2.2.2.2.2.2.2.1, kx_a g_allNumber cyI 12 u.2.2.2.2.2.2.2.2.1, kx_a g_nodeL cyI 320 u.2.2.2.2.2.2.2.2.2.1, kx_a g_nodeR cyI 320 u.2.2.2.2.2.2.2.2.2.2] t.heap ∧ va_K (dC, dI) vwCl [(cyI, .int)] t ∧ va_D A [kx_5 h0 g_row m_n m_slots 0 g_many g_loss g_less g_voteValue g_voteNumber g_allValue g_allNumber u.2.1 g_nodeL g_nodeR u.1 g_part m_partMany g_wasMany g_wasLoss g_wasValue g_wasNumber g_path m_pathMany g_heavyValue g_heavyTimes m_heavyMany g_fewest g_which g_met m_mostMet, kx_a g_row cyI 160 f, kx_a g_many cyI 324 u.2.2.1, kx_a g_loss cyI 324 u.2.2.2.1, kx_a g_less cyI 324 u.2.2.2.2.1, kx_a g_voteValue cyI 1944 u.2.2.2.2.2.1, kx_a g_voteNumber cyI 1944 u.2.2.2.2.2.2.1, kx_a g_allValue cyI 12 u.2.2.2.2.2.2.2.1, kx_a g_allNumber cyI 12 u.2.2.2.2.2.2.2.2.1, kx_a g_nodeL cyI 320 u.2.2.2.2.2.2.2.2.2.1, kx_a g_nodeR cyI 320 u.2.2.2.2.2.2.2.2.2.2]) A) := by
  refine kx_stQ (ws := wsX5_told) (cc := cX5_told) (maxL := 4) (ret := (some .int)) (by decide) rfl (Nat.le_of_ble_eq_true rfl) ?_
  intro p e s m below meth c A ls hx hb hr hlocks hts hown hml hA hS hP hK hD hl
  have hown : s.vm.findClass RX5 = some m.cls := hown
  have hl : lv_has ls 4 [(0, .ref h0), (1, .int p0)] := hl
  have hf_77 := hts (.fieldLink RX5 77 "MajorityIndexModel" "thrown" "I") (List.mem_of_getElem? (i := 1) rfl)
  have hi_5 : ∀ w ∈ u_ws RX5 TX5 30, w ∈ wsX5_told := fun w h => List.mem_cons_of_mem _ (List.mem_append_right _ h)
  have hf_13 := hts (.fieldLink RX5 13 "MajorityIndexModel" "slots" "I") (List.mem_of_getElem? (i := 2) rfl)
  have hf_84 := hts (.fieldLink RX5 84 "MajorityIndexModel" "n" "I") (List.mem_of_getElem? (i := 3) rfl)
  have hf_101 := hts (.fieldLink RX5 101 "MajorityIndexModel" "nodes" "I") (List.mem_of_getElem? (i := 4) rfl)
  have hf_20 := hts (.fieldLink RX5 20 "MajorityIndexModel" "loss" "[I") (List.mem_of_getElem? (i := 5) rfl)
  refine lv_aload_n hx hb dX5_told_0 rfl (lv_at hl 0 rfl) ?_
  refine lv_iconst (v := 0) hx hb dX5_told_1 (by decide) ?_
  refine va_put (D := (dC, dI)) (ci := 5) (v := .int 0) (ty := .int) (C := RX5) (T := TX5) (N := 30) hx hb hts hi_5 tyX5 tyX5_ok nmX5 hown hK hP hD hS 0 rfl rfl 3 (by decide) hf_77 (fun _ h9 => h9) rfl (by decide +kernel) rfl rfl (Nat.le_of_ble_eq_true rfl) dX5_told_2 (fun H locs hP hD hS => ?_)
  obtain ⟨hP, hD⟩ := kx_re (w2 := [kx_5 h0 g_row m_n m_slots 0 g_many g_loss g_less g_voteValue g_voteNumber g_allValue g_allNumber m_allMany g_nodeL g_nodeR m_nodes g_part m_partMany g_wasMany g_wasLoss g_wasValue g_wasNumber g_path m_pathMany g_heavyValue g_heavyTimes m_heavyMany g_fewest g_which g_met m_mostMet, kx_a g_row cyI 160 f, kx_a g_many cyI 324 fm, kx_a g_loss cyI 324 fl, kx_a g_less cyI 324 fe, kx_a g_voteValue cyI 1944 vv, kx_a g_voteNumber cyI 1944 vn, kx_a g_allValue cyI 12 av, kx_a g_allNumber cyI 12 an, kx_a g_nodeL cyI 320 nl, kx_a g_nodeR cyI 320 nr]) hP hD rfl
  refine lv_aload_n hx hb dX5_told_5 rfl (lv_at hl 0 rfl) ?_
  refine lv_aload_n hx hb dX5_told_6 rfl (lv_at hl 0 rfl) ?_
  refine va_get (D := (dC, dI)) (ci := 5) (v := .int m_slots) (C := RX5) (T := TX5) (N := 30) hx hb hts hi_5 hown hK hP 0 rfl rfl 2 (by decide) hf_13 (fun _ h9 => h9) rfl dX5_told_7 ?_
  have hPc := hP
  have hKc := hK
  have hDc := hD
  have hFc := kx_free hD hS hA
  refine va_callv (va_runV (As := [.int m_slots]) (rest := []) ⟨hx, hb, hml, hown, hts⟩ (kx_un (c_X5_laysAll l dC dI h0 g_row g_many g_loss g_less g_voteValue g_voteNumber g_allValue g_allNumber g_nodeL g_nodeR g_part g_wasMany g_wasLoss g_wasValue g_wasNumber g_path g_heavyValue g_heavyTimes g_fewest g_which g_met m_n m_slots 0 m_allMany m_nodes m_partMany m_pathMany m_heavyMany m_mostMet cyI fm fl fe vv vn f av an nl nr m_slots H.size a0 a1 sl0 sl1 s4)) (cwV 1 hts gX5_told_X5_laysAll rfl rfl rfl (by decide +kernel) ⟨Nat.le_of_ble_eq_true rfl, Nat.le_of_ble_eq_true rfl⟩) ⟨fun a U g mk q => by obtain ⟨q0, q1, qP, qK, qD⟩ := q; exact ⟨q0, q1, qP, va_K.moved (u := U) (U := U.calling g mk a) (Vm.Alike.refl U.vm) qK, qD⟩, kx_rc5 hKc hPc (q0 := 0) rfl, fun U hU hW => ⟨rfl, by rw [hU], by rw [hU]; exact hPc, va_K.moved hW.alike hKc, hDc.weaken (fun _ _ _ _ => trivial)⟩⟩ rfl rfl hl.1 rfl (lv_room (Nat.le_of_ble_eq_true rfl)) dX5_told_10 ⟨Nat.le_of_ble_eq_true rfl, Nat.le_of_ble_eq_true rfl⟩) hS (fun q _ h => hFc q h) hFc (fun u t H1 locs ht hvm w_1 hB hz1 hk1 hS => ?_)
  obtain ⟨o_2, o_3, o_4, o_5, o_6, o_7, o_8, o_9, o_10, o_11, o_12⟩ := u
  dsimp only at w_1 hB
  obtain ⟨hP1, hK1, hD1⟩ := hB
  rw [ht] at hP1
  have hK1 := va_K.moved hvm.symm hK1
  have hD := hD1.weaken (fun _ q _ h => hFc q.1 h)
  have hP := hP1
  clear hP1 hD1 hK1 hk1 hz1 hFc hDc hPc hKc
  generalize H1 = H at hP hS ⊢
  have w_1 : mj_L m_slots.toNatClampNeg f o_11 o_12 o_4 o_5 o_6 o_7 o_8 m_n.toInt o_2.toInt ∧ six4 o_4 ∧ 0 ≤ o_2.toInt ∧ o_2.toInt ≤ 319 := w_1
  have hok : nodesOk o_11 o_12 o_2.toInt := fun k hk => by have := mj_L_ok w_1.1 k hk; omega
  refine lv_iload_n hx hb dX5_told_13 rfl (lv_at hl 1 rfl) ?_
  by_cases s_13 : p0.toInt = 0
  · refine lv_tableIn (tgt := 56) (off := 42) hx hb dX5_told_14 (om_161 s_13) (om_210 s_13) (by rw [s_13]; rfl) (by decide) ?_
    refine lv_aload_n hx hb dX5_told_56 rfl (lv_at hl 0 rfl) ?_
    refine va_get (D := (dC, dI)) (ci := 5) (v := .int m_n) (C := RX5) (T := TX5) (N := 30) hx hb hts hi_5 hown hK hP 0 rfl rfl 1 (by decide) hf_84 (fun _ h9 => h9) rfl dX5_told_57 ?_
    have hP9 := hP
    have hD9 := hD
    have hK9 := hK
    exact W.iret (v := m_n) hx hb hr (hlocks := hlocks) (fun t ht hW => ⟨⟨m_n, (o_2, o_3, o_4, o_5, o_6, o_7, o_8, o_9, o_10, o_11, o_12), rfl, w_1.2.1, by rw [ht]; exact hP9, va_K.moved hW.alike hK9, hD9⟩, hS.F ht⟩) hS.2.2 dX5_told_60
  by_cases s_14 : p0.toInt = 1
  · refine lv_tableIn (tgt := 61) (off := 47) hx hb dX5_told_14 (om_163 s_14) (om_211 s_14) (by rw [s_14]; rfl) (by decide) ?_
    refine lv_aload_n hx hb dX5_told_61 rfl (lv_at hl 0 rfl) ?_
    refine va_get (D := (dC, dI)) (ci := 5) (v := .int m_slots) (C := RX5) (T := TX5) (N := 30) hx hb hts hi_5 hown hK hP 0 rfl rfl 2 (by decide) hf_13 (fun _ h9 => h9) rfl dX5_told_62 ?_
    have hP9 := hP
    have hD9 := hD
    have hK9 := hK
    exact W.iret (v := m_slots) hx hb hr (hlocks := hlocks) (fun t ht hW => ⟨⟨m_slots, (o_2, o_3, o_4, o_5, o_6, o_7, o_8, o_9, o_10, o_11, o_12), rfl, w_1.2.1, by rw [ht]; exact hP9, va_K.moved hW.alike hK9, hD9⟩, hS.F ht⟩) hS.2.2 dX5_told_65
  by_cases s_15 : p0.toInt = 2
  · refine lv_tableIn (tgt := 66) (off := 52) hx hb dX5_told_14 (om_165 s_15) (om_212 s_15) (by rw [s_15]; rfl) (by decide) ?_
    refine lv_aload_n hx hb dX5_told_66 rfl (lv_at hl 0 rfl) ?_
    refine va_get (D := (dC, dI)) (ci := 5) (v := .int o_2) (C := RX5) (T := TX5) (N := 30) hx hb hts hi_5 hown hK hP 0 rfl rfl 14 (by decide) hf_101 (fun _ h9 => h9) rfl dX5_told_67 ?_
    have hP9 := hP
    have hD9 := hD
    have hK9 := hK
    exact W.iret (v := o_2) hx hb hr (hlocks := hlocks) (fun t ht hW => ⟨⟨o_2, (o_2, o_3, o_4, o_5, o_6, o_7, o_8, o_9, o_10, o_11, o_12), rfl, w_1.2.1, by rw [ht]; exact hP9, va_K.moved hW.alike hK9, hD9⟩, hS.F ht⟩) hS.2.2 dX5_told_70
  by_cases s_16 : p0.toInt = 3
  · refine lv_tableIn (tgt := 71) (off := 57) hx hb dX5_told_14 (om_213 s_16) (om_214 s_16) (by rw [s_16]; rfl) (by decide) ?_
    refine lv_aload_n hx hb dX5_told_71 rfl (lv_at hl 0 rfl) ?_
    have hPc := hP.sub (ws' := [kx_5 h0 g_row m_n m_slots 0 g_many g_loss g_less g_voteValue g_voteNumber g_allValue g_allNumber o_3 g_nodeL g_nodeR o_2 g_part m_partMany g_wasMany g_wasLoss g_wasValue g_wasNumber g_path m_pathMany g_heavyValue g_heavyTimes m_heavyMany g_fewest g_which g_met m_mostMet, kx_a g_row cyI 160 f, kx_a g_nodeL cyI 320 o_11, kx_a g_nodeR cyI 320 o_12]) [0, 1, 9, 10] rfl
    have hKc := hK
    refine vp_callSi (W.runV (As := []) (rest := []) ⟨hx, hb, hml, hown, hts⟩ (c_X5_nodesWithMajority l dC dI h0 g_row g_many g_loss g_less g_voteValue g_voteNumber g_allValue g_allNumber g_nodeL g_nodeR g_part g_wasMany g_wasLoss g_wasValue g_wasNumber g_path g_heavyValue g_heavyTimes g_fewest g_which g_met m_n m_slots 0 o_3 o_2 m_partMany m_pathMany m_heavyMany m_mostMet cyI f o_11 o_12 w_1.2.2.1 w_1.2.2.2 hok) (cwV 0 hts gX5_told_X5_nodesWithMajority rfl rfl rfl (by decide +kernel) ⟨Nat.le_of_ble_eq_true rfl, Nat.le_of_ble_eq_true rfl⟩) ⟨fun a U g mk q => by obtain ⟨q0, qP, qK⟩ := q; exact ⟨q0, qP, va_K.moved (u := U) (U := U.calling g mk a) (Vm.Alike.refl U.vm) qK⟩, kx_rc5 hKc hPc (q0 := 0) rfl, fun U hU hW => ⟨rfl, by rw [hU]; exact hPc, va_K.moved hW.alike hKc⟩⟩ rfl rfl hl.1 rfl (lv_room (Nat.le_of_ble_eq_true rfl)) dX5_told_72 ⟨Nat.le_of_ble_eq_true rfl, Nat.le_of_ble_eq_true rfl⟩) (fun r_17 w_17 => ?_)
    have hP9 := hP
    have hD9 := hD
    have hK9 := hK
    exact W.iret (v := r_17) hx hb hr (hlocks := hlocks) (fun t ht hW => ⟨⟨r_17, (o_2, o_3, o_4, o_5, o_6, o_7, o_8, o_9, o_10, o_11, o_12), rfl, w_1.2.1, by rw [ht]; exact hP9, va_K.moved hW.alike hK9, hD9⟩, hS.F ht⟩) hS.2.2 dX5_told_75
  by_cases s_18 : p0.toInt = 4
  · refine lv_tableIn (tgt := 76) (off := 62) hx hb dX5_told_14 (om_215 s_18) (om_216 s_18) (by rw [s_18]; rfl) (by decide) ?_
    refine lv_aload_n hx hb dX5_told_76 rfl (lv_at hl 0 rfl) ?_
    refine lv_iconst (v := 0) hx hb dX5_told_77 (by decide) ?_
    refine lv_aload_n hx hb dX5_told_78 rfl (lv_at hl 0 rfl) ?_
    refine va_get (D := (dC, dI)) (ci := 5) (v := .int m_n) (C := RX5) (T := TX5) (N := 30) hx hb hts hi_5 hown hK hP 0 rfl rfl 1 (by decide) hf_84 (fun _ h9 => h9) rfl dX5_told_79 ?_
    have hPc := hP.sub (ws' := [kx_5 h0 g_row m_n m_slots 0 g_many g_loss g_less g_voteValue g_voteNumber g_allValue g_allNumber o_3 g_nodeL g_nodeR o_2 g_part m_partMany g_wasMany g_wasLoss g_wasValue g_wasNumber g_path m_pathMany g_heavyValue g_heavyTimes m_heavyMany g_fewest g_which g_met m_mostMet]) [0] rfl
    have hKc := hK.sub (tys' := []) [] rfl
    have k_19 : (0 : Int32).toInt = 0 := rfl
    refine vp_callSi (W.runV (As := [.int 0, .int m_n]) (rest := []) ⟨hx, hb, hml, hown, hts⟩ (c_X5_deep_8 l dC dI h0 g_row g_many g_loss g_less g_voteValue g_voteNumber g_allValue g_allNumber g_nodeL g_nodeR g_part g_wasMany g_wasLoss g_wasValue g_wasNumber g_path g_heavyValue g_heavyTimes g_fewest g_which g_met m_n m_slots 0 o_3 o_2 m_partMany m_pathMany m_heavyMany m_mostMet 0 m_n om_35 a0 a1 (om_364 a1)) (cwV 2 hts gX5_told_X5_deep rfl rfl rfl (by decide +kernel) ⟨Nat.le_of_ble_eq_true rfl, Nat.le_of_ble_eq_true rfl⟩) ⟨fun a U g mk q => by obtain ⟨q0, qP, qK⟩ := q; exact ⟨q0, qP, va_K.moved (u := U) (U := U.calling g mk a) (Vm.Alike.refl U.vm) qK⟩, kx_rc5 hKc hPc (q0 := 0) rfl, fun U hU hW => ⟨rfl, by rw [hU]; exact hPc, va_K.moved hW.alike hKc⟩⟩ rfl rfl hl.1 rfl (lv_room (Nat.le_of_ble_eq_true rfl)) dX5_told_82 ⟨Nat.le_of_ble_eq_true rfl, Nat.le_of_ble_eq_true rfl⟩) (fun r_20 w_20 => ?_)
    have w_20 : 0 ≤ r_20.toInt ∧ r_20.toInt ≤ 9 := w_20
    have hP9 := hP
    have hD9 := hD
    have hK9 := hK
    exact W.iret (v := r_20) hx hb hr (hlocks := hlocks) (fun t ht hW => ⟨⟨r_20, (o_2, o_3, o_4, o_5, o_6, o_7, o_8, o_9, o_10, o_11, o_12), rfl, w_1.2.1, by rw [ht]; exact hP9, va_K.moved hW.alike hK9, hD9⟩, hS.F ht⟩) hS.2.2 dX5_told_85
  by_cases s_21 : p0.toInt = 5
  · refine lv_tableIn (tgt := 86) (off := 72) hx hb dX5_told_14 (om_217 s_21) (om_218 s_21) (by rw [s_21]; rfl) (by decide) ?_
    refine lv_aload_n hx hb dX5_told_86 rfl (lv_at hl 0 rfl) ?_
    refine va_get (D := (dC, dI)) (ci := 5) (v := .int m_n) (C := RX5) (T := TX5) (N := 30) hx hb hts hi_5 hown hK hP 0 rfl rfl 1 (by decide) hf_84 (fun _ h9 => h9) rfl dX5_told_87 ?_
    refine lv_if_ne (tgt := 97) hx hb dX5_told_90 (by decide) (fun c_22 => ?_) (fun c_22 => ?_)
    · have i_22 : ¬ m_n.toInt = 0 := kc_ne c_22
      refine lv_aload_n hx hb dX5_told_97 rfl (lv_at hl 0 rfl) ?_
      refine va_get (D := (dC, dI)) (ci := 5) (v := .ref g_loss) (C := RX5) (T := TX5) (N := 30) hx hb hts hi_5 hown hK hP 0 rfl rfl 5 (by decide) hf_20 (fun _ h9 => h9) rfl dX5_told_98 ?_
      refine lv_iconst (v := 0) hx hb dX5_told_101 (by decide) ?_
      refine va_iald hx hb hK hP 3 0 rfl rfl (ki_inl (by decide)) dX5_told_102 ?_
      refine lv_topi (fun y_23 ey_23 => ?_)
      have j_23 : y_23.toInt = (o_5 (0 : Int32).toNatClampNeg).toInt := congrArg Int32.toInt ey_23
      have hP9 := hP
      have hD9 := hD
      have hK9 := hK
      exact W.iret (v := y_23) hx hb hr (hlocks := hlocks) (fun t ht hW => ⟨⟨y_23, (o_2, o_3, o_4, o_5, o_6, o_7, o_8, o_9, o_10, o_11, o_12), rfl, w_1.2.1, by rw [ht]; exact hP9, va_K.moved hW.alike hK9, hD9⟩, hS.F ht⟩) hS.2.2 dX5_told_103
    · have i_22 : m_n.toInt = 0 := kc_eq c_22
      refine lv_iconst (v := 0) hx hb dX5_told_93 (by decide) ?_
      refine lv_goto (tgt := 103) hx hb dX5_told_94 (by decide) ?_
      have hP9 := hP
      have hD9 := hD
      have hK9 := hK
      exact W.iret (v := 0) hx hb hr (hlocks := hlocks) (fun t ht hW => ⟨⟨0, (o_2, o_3, o_4, o_5, o_6, o_7, o_8, o_9, o_10, o_11, o_12), rfl, w_1.2.1, by rw [ht]; exact hP9, va_K.moved hW.alike hK9, hD9⟩, hS.F ht⟩) hS.2.2 dX5_told_103
  by_cases s_24 : p0.toInt = 6
  · refine lv_tableIn (tgt := 104) (off := 90) hx hb dX5_told_14 (om_219 s_24) (om_220 s_24) (by rw [s_24]; rfl) (by decide) ?_
    refine lv_iconst (v := 0) hx hb dX5_told_104 (by decide) ?_
    refine lv_istore_n (lv' := [(2, .int 0), (0, .ref h0), (1, .int p0)]) hx hb dX5_told_105 rfl hl (by decide) rfl (fun ls hl => ?_)
    refine lv_iconst (v := 0) hx hb dX5_told_106 (by decide) ?_
    refine lv_istore_n (lv' := [(3, .int 0), (2, .int 0), (0, .ref h0), (1, .int p0)]) hx hb dX5_told_107 rfl hl (by decide) rfl (fun ls hl => ?_)
    have LP1 : ∀ (n : Nat) (i : Int32) (sm : Int32), (0 ≤ i.toInt) → (o_2.toInt - i.toInt).toNat < n → ∀ (H : Heap) (locs : List Loc), va_P (dC, dI) vwCl [kx_5 h0 g_row m_n m_slots 0 g_many g_loss g_less g_voteValue g_voteNumber g_allValue g_allNumber o_3 g_nodeL g_nodeR o_2 g_part m_partMany g_wasMany g_wasLoss g_wasValue g_wasNumber g_path m_pathMany g_heavyValue g_heavyTimes m_heavyMany g_fewest g_which g_met m_mostMet, kx_a g_row cyI 160 f, kx_a g_many cyI 324 o_4, kx_a g_loss cyI 324 o_5, kx_a g_less cyI 324 o_6, kx_a g_voteValue cyI 1944 o_7, kx_a g_voteNumber cyI 1944 o_8, kx_a g_allValue cyI 12 o_9, kx_a g_allNumber cyI 12 o_10, kx_a g_nodeL cyI 320 o_11, kx_a g_nodeR cyI 320 o_12] H → va_D A [kx_5 h0 g_row m_n m_slots 0 g_many g_loss g_less g_voteValue g_voteNumber g_allValue g_allNumber o_3 g_nodeL g_nodeR o_2 g_part m_partMany g_wasMany g_wasLoss g_wasValue g_wasNumber g_path m_pathMany g_heavyValue g_heavyTimes m_heavyMany g_fewest g_which g_met m_mostMet, kx_a g_row cyI 160 f, kx_a g_many cyI 324 o_4, kx_a g_loss cyI 324 o_5, kx_a g_less cyI 324 o_6, kx_a g_voteValue cyI 1944 o_7, kx_a g_voteNumber cyI 1944 o_8, kx_a g_allValue cyI 12 o_9, kx_a g_allNumber cyI 12 o_10, kx_a g_nodeL cyI 320 o_11, kx_a g_nodeR cyI 320 o_12] → va_S A s.heap H locs → ∀ (ls : Array Slot), lv_has ls 4 [(3, .int i), (2, .int sm), (0, .ref h0), (1, .int p0)] → W p l e (headSpec wsX5_told ({ frames := 12, cells := 0, slots := 0, locals := 540 })).room s m ([.ref h0, .int p0] : List Value).toArray below meth c H locs 0 0 (MQ below (va_Qi (fun (r : Int32) (u : Int32 × Int32 × (Nat → Int32) × (Nat → Int32) × (Nat → Int32) × (Nat → Int32) × (Nat → Int32) × (Nat → Int32) × (Nat → Int32) × (Nat → Int32) × (Nat → Int32)) => six4 u.2.2.1) (fun (u : Int32 × Int32 × (Nat → Int32) × (Nat → Int32) × (Nat → Int32) × (Nat → Int32) × (Nat → Int32) × (Nat → Int32) × (Nat → Int32) × (Nat → Int32) × (Nat → Int32)) (t : State) => va_P (dC, dI) vwCl [kx_5 h0 g_row m_n m_slots 0 g_many g_loss g_less g_voteValue g_voteNumber g_allValue g_allNumber u.2.1 g_nodeL g_nodeR u.1 g_part m_partMany g_wasMany g_wasLoss g_wasValue g_wasNumber g_path m_pathMany g_heavyValue g_heavyTimes m_heavyMany g_fewest g_which g_met m_mostMet, kx_a g_row cyI 160 f, kx_a g_many cyI 324 u.2.2.1, kx_a g_loss cyI 324 u.2.2.2.1, kx_a g_less cyI 324 u.2.2.2.2.1, kx_a g_voteValue cyI 1944 u.2.2.2.2.2.1, kx_a g_voteNumber cyI 1944 u.2.2.2.2.2.2.1, kx_a g_allValue cyI 12 u.2.2.2.2.2.2.2.1, kx_a g_allNumber cyI 12 u.2.2.2.2.2.2.2.2.1, kx_a g_nodeL cyI 320 u.2.2.2.2.2.2.2.2.2.1, kx_a g_nodeR cyI 320 u.2.2.2.2.2.2.2.2.2.2] t.heap ∧ va_K (dC, dI) vwCl [(cyI, .int)] t ∧ va_D A [kx_5 h0 g_row m_n m_slots 0 g_many g_loss g_less g_voteValue g_voteNumber g_allValue g_allNumber u.2.1 g_nodeL g_nodeR u.1 g_part m_partMany g_wasMany g_wasLoss g_wasValue g_wasNumber g_path m_pathMany g_heavyValue g_heavyTimes m_heavyMany g_fewest g_which g_met m_mostMet, kx_a g_row cyI 160 f, kx_a g_many cyI 324 u.2.2.1, kx_a g_loss cyI 324 u.2.2.2.1, kx_a g_less cyI 324 u.2.2.2.2.1, kx_a g_voteValue cyI 1944 u.2.2.2.2.2.1, kx_a g_voteNumber cyI 1944 u.2.2.2.2.2.2.1, kx_a g_allValue cyI 12 u.2.2.2.2.2.2.2.1, kx_a g_allNumber cyI 12 u.2.2.2.2.2.2.2.2.1, kx_a g_nodeL cyI 320 u.2.2.2.2.2.2.2.2.2.1, kx_a g_nodeR cyI 320 u.2.2.2.2.2.2.2.2.2.2]) A) ([.ref h0, .int p0] : List Value).toArray s 0 0 A) (F0 m 108 ls []) := by
      intro n
      induction n with
      | zero => intro i sm LP1_h0 hn; exact absurd hn (Nat.not_lt_zero _)
      | succ n ih1 =>
        intro i sm LP1_h0 hn1 H locs hP hD hS ls hl
        refine lv_iload_n hx hb dX5_told_108 rfl (lv_at hl 0 rfl) ?_
        refine lv_aload_n hx hb dX5_told_109 rfl (lv_at hl 2 rfl) ?_
        refine va_get (D := (dC, dI)) (ci := 5) (v := .int o_2) (C := RX5) (T := TX5) (N := 30) hx hb hts hi_5 hown hK hP 0 rfl rfl 14 (by decide) hf_101 (fun _ h9 => h9) rfl dX5_told_110 ?_
        refine lv_icmp_ge (tgt := 131) hx hb dX5_told_113 (by decide) (fun c_25 => ?_) (fun c_25 => ?_)
        · have i_25 : o_2.toInt ≤ i.toInt := kc_le c_25
          refine lv_iload_n hx hb dX5_told_131 rfl (lv_at hl 1 rfl) ?_
          have hP9 := hP
          have hD9 := hD
          have hK9 := hK
          exact W.iret (v := sm) hx hb hr (hlocks := hlocks) (fun t ht hW => ⟨⟨sm, (o_2, o_3, o_4, o_5, o_6, o_7, o_8, o_9, o_10, o_11, o_12), rfl, w_1.2.1, by rw [ht]; exact hP9, va_K.moved hW.alike hK9, hD9⟩, hS.F ht⟩) hS.2.2 dX5_told_132
        · have i_25 : i.toInt < o_2.toInt := kc_nle c_25
          refine lv_iload_n hx hb dX5_told_116 rfl (lv_at hl 1 rfl) ?_
          refine lv_aload_n hx hb dX5_told_117 rfl (lv_at hl 2 rfl) ?_
          refine va_get (D := (dC, dI)) (ci := 5) (v := .ref g_loss) (C := RX5) (T := TX5) (N := 30) hx hb hts hi_5 hown hK hP 0 rfl rfl 5 (by decide) hf_20 (fun _ h9 => h9) rfl dX5_told_118 ?_
          refine lv_iload_n hx hb dX5_told_121 rfl (lv_at hl 0 rfl) ?_
          refine va_iald hx hb hK hP 3 0 rfl rfl (ki_in (om_10 LP1_h0) (om_424 w_1.2.2.2 i_25)) dX5_told_122 ?_
          refine lv_topi (fun y_26 ey_26 => ?_)
          have j_26 : y_26.toInt = (o_5 i.toNatClampNeg).toInt := congrArg Int32.toInt ey_26
          refine lv_iadd hx hb dX5_told_123 ?_
          refine lv_topi (fun y_27 ey_27 => ?_)
          refine lv_istore_n (lv' := [(2, .int y_27), (3, .int i), (0, .ref h0), (1, .int p0)]) hx hb dX5_told_124 rfl hl (by decide) rfl (fun ls hl => ?_)
          obtain ⟨x_28, ex_28⟩ : ∃ y : Int32, y = i + 1 := ⟨_, rfl⟩
          have i_28 : x_28.toInt = i.toInt + 1 := ki_add ex_28 rfl rfl (om_13 LP1_h0) (om_125 w_1.2.2.2 i_25)
          refine lv_iinc (v := x_28) (lv' := [(3, .int x_28), (2, .int y_27), (0, .ref h0), (1, .int p0)]) hx hb dX5_told_125 hl (k := 1) rfl (by rw [ex_28]; rfl) (by decide) rfl (fun ls hl => ?_)
          refine lv_goto (tgt := 108) hx hb dX5_told_128 (by decide) ?_
          exact ih1 x_28 y_27 (om_34 LP1_h0 i_28) (om_mu hn1 (om_5 i_28) (om_6 i_25)) _ _ hP hD hS ls (lv_sub hl [0, 1, 2, 3] rfl)
    have k_29 : (0 : Int32).toInt = 0 := rfl
    have k_30 : (0 : Int32).toInt = 0 := rfl
    exact LP1 ((o_2.toInt - 0 : Int).toNat + 1) 0 0 om_35 (Nat.lt_succ_self _) _ _ hP hD hS ls (lv_sub hl [0, 1, 2, 3] rfl)
  refine lv_tableOut (tgt := 133) hx hb dX5_told_14 (by omega) (by decide) ?_
  refine lv_iconst (v := (-1)) hx hb dX5_told_133 (by decide) ?_
  have hP9 := hP
  have hD9 := hD
  have hK9 := hK
  exact W.iret (v := (-1)) hx hb hr (hlocks := hlocks) (fun t ht hW => ⟨⟨(-1), (o_2, o_3, o_4, o_5, o_6, o_7, o_8, o_9, o_10, o_11, o_12), rfl, w_1.2.1, by rw [ht]; exact hP9, va_K.moved hW.alike hK9, hD9⟩, hS.F ht⟩) hS.2.2 dX5_told_134



def mj_feed (f : Nat → Int32) (n : Nat) (a b : Int32) : Nat → Int32 := upd (upd (upd (upd f n (a >>> (16 &&& 31))) (n + 1) a.toInt16.toInt32) (n + 2) (b >>> (16 &&& 31))) (n + 3) b.toInt16.toInt32
theorem ki_short {x : Int32} (h1 : -32768 ≤ x.toInt) (h2 : x.toInt ≤ 32767) : x.toInt16.toInt32 = x := by
  apply Int32.toInt_inj.mp
  rw [Int16.toInt_toInt32, Int32.toInt_toInt16]
  exact Int.bmod_eq_of_le (by omega) (by omega)
theorem ki_short16 (x : Int32) : (x >>> (16 &&& 31)).toInt16.toInt32 = x >>> (16 &&& 31) := ki_short (ki_shr16 x).1 (ki_shr16 x).2
theorem shorts_feed {f : Nat → Int32} {n : Nat} (a b : Int32) (h : shorts f) : shorts (mj_feed f n a b) :=
  shorts_upd (shorts_upd (shorts_upd (shorts_upd h (ki_shr16 a).1 (ki_shr16 a).2) (ki_i2s a).1 (ki_i2s a).2) (ki_shr16 b).1 (ki_shr16 b).2) (ki_i2s b).1 (ki_i2s b).2
theorem mj_fill_one (f : Nat → Int32) {l r : Nat} (v : Int32) (h : r = l + 1) : mj_fill f l r v = upd f l v := by
  subst h
  rw [← mj_fill_step (Nat.le_refl l) rfl, mj_fill_0 f v (Nat.le_refl l)]
theorem laidP_new {old old2 nodes len len2 : Int32} {ff ft : Nat → Int32} (h : laidP old ff ft nodes len) (e : old2 = 1 ∨ (old2 = old ∧ len2 = len)) : laidP old2 ff ft nodes len2 := by
  rcases e with e | ⟨e1, e2⟩
  · subst e
    intro h0
    exact absurd h0 (by decide)
  · subst e1; subst e2
    exact h

set_option maxHeartbeats 4000000 in
set_option maxRecDepth 100000 in
theorem c_X4_feed_x (l : Launch) (dC : Nat → ClassId) (dI : Nat → Nat → Nat) (m_ : Nat) (q_row : Nat) (q_t : Nat) (t_ : Nat) (h0 : Nat) (k0 : Nat) (w_ : Nat) (z_ : Nat) (slots : Int32) (old : Int32) (q_cell : Nat) (cyI : ClassId) (len : Int32) (f : Nat → Int32) (p0 : Int32) (p1 : Int32) (sz : Nat) (a0 : 0 ≤ len.toInt) (a1 : len.toInt ≤ 160) (s1 : shorts f) : kx_MQ l (dC, dI) yX4_feed wsX4_feed ({ frames := 1, cells := 0, slots := 0, locals := 45 }) [.ref m_, .int p0, .int p1] [kx_4 m_ q_row q_t t_ h0 k0 w_ z_ slots old, kx_0 q_row q_cell len, kx_a q_cell cyI 160 f] [(cyI, .int)] sz (fun A => va_Qi (fun (r : Int32) (u : Int32 × Int32 × (Nat → Int32)) => ((len.toInt ≤ 156 ∧ r.toInt = len.toInt + 4 ∧ u.2.1.toInt = len.toInt + 4 ∧ u.2.2 = mj_feed f len.toNatClampNeg p0 p1 ∧ u.1 = 1) ∨ (156 < len.toInt ∧ r.toInt = -1 ∧ u.2.1 = len ∧ u.2.2 = f ∧ u.1 = old)) ∧ shorts u.2.2) (fun (u : Int32 × Int32 × (Nat → Int32)) (t : State) => va_P (dC, dI) vwCl [kx_4 m_ q_row q_t t_ h0 k0 w_ z_ slots u.1, kx_0 q_row q_cell u.2.1, kx_a q_cell cyI 160 u.2.2] t.heap ∧ va_K (dC, dI) vwCl [(cyI, .int)] t ∧ va_D A [kx_4 m_ q_row q_t t_ h0 k0 w_ z_ slots u.1, kx_0 q_row q_cell u.2.1, kx_a q_cell cyI 160 u.2.2]) A) := by
  refine kx_stQ (ws := wsX4_feed) (cc := cX4_feed) (maxL := 3) (ret := (some .int)) (by decide) rfl (Nat.le_of_ble_eq_true rfl) ?_
  intro p e s m below meth c A ls hx hb hr hlocks hts hown hml hA hS hP hK hD hl
  have hown : s.vm.findClass RX4 = some m.cls := hown
  have hl : lv_has ls 3 [(0, .ref m_), (1, .int p0), (2, .int p1)] := hl
  have hf_12 := hts (.fieldLink RX4 12 "MajorityIndex" "row" "LMajorityIndex$Row;") (List.mem_of_getElem? (i := 1) rfl)
  have hi_4 : ∀ w ∈ u_ws RX4 TX4 9, w ∈ wsX4_feed := fun w h => List.mem_cons_of_mem _ (List.mem_append_left _ (List.mem_append_right _ h))
  have hf_57 := hts (.fieldLink RX4 57 "MajorityIndex$Row" "length" "I") (List.mem_of_getElem? (i := 2) rfl)
  have hi_0 : ∀ w ∈ u_ws RX0 TX0 2, w ∈ wsX4_feed := fun w h => List.mem_cons_of_mem _ (List.mem_append_right _ h)
  have hf_53 := hts (.fieldLink RX4 53 "MajorityIndex" "treeIsOld" "Z") (List.mem_of_getElem? (i := 3) rfl)
  refine lv_aload_n hx hb dX4_feed_0 rfl (lv_at hl 0 rfl) ?_
  refine va_get (D := (dC, dI)) (ci := 4) (v := .ref q_row) (C := RX4) (T := TX4) (N := 9) hx hb hts hi_4 hown hK hP 0 rfl rfl 0 (by decide) hf_12 (fun _ h9 => h9) rfl dX4_feed_1 ?_
  refine va_get (D := (dC, dI)) (ci := 0) (v := .int len) (C := RX0) (T := TX0) (N := 2) hx hb hts hi_0 hown hK hP 1 rfl rfl 1 (by decide) hf_57 (fun _ h9 => h9) rfl dX4_feed_4 ?_
  refine lv_iconst (v := 4) hx hb dX4_feed_7 (by decide) ?_
  refine lv_iadd hx hb dX4_feed_8 ?_
  refine lv_topi (fun y_1 ey_1 => ?_)
  have i_1 : y_1.toInt = len.toInt + 4 := ki_add ey_1 rfl rfl (om_153 a0) (om_154 a1)
  refine lv_sipush (v := 160) hx hb dX4_feed_9 (by decide) ?_
  refine lv_icmp_le (tgt := 17) hx hb dX4_feed_12 (by decide) (fun c_2 => ?_) (fun c_2 => ?_)
  · have i_2 : y_1.toInt ≤ 160 := kc_le c_2
    refine lv_aload_n hx hb dX4_feed_17 rfl (lv_at hl 0 rfl) ?_
    refine va_get (D := (dC, dI)) (ci := 4) (v := .ref q_row) (C := RX4) (T := TX4) (N := 9) hx hb hts hi_4 hown hK hP 0 rfl rfl 0 (by decide) hf_12 (fun _ h9 => h9) rfl dX4_feed_18 ?_
    refine lv_iload_n hx hb dX4_feed_21 rfl (lv_at hl 1 rfl) ?_
    refine lv_bipush (v := 16) hx hb dX4_feed_22 (by decide) ?_
    refine lv_ishr hx hb dX4_feed_24 ?_
    obtain ⟨hPc, hDc, hFc, hCc⟩ := kx_preM (wc := [kx_0 q_row q_cell len, kx_a q_cell cyI 160 f]) hP hD hS hA [false, true, true] rfl
    have hKc := hK
    refine va_callv (va_runV (As := [.int (p0 >>> (16 &&& 31))]) (rest := []) ⟨hx, hb, hml, hown, hts⟩ (kx_un (c_X0_append l dC dI q_row q_cell cyI len f (p0 >>> (16 &&& 31)) s.heap.size a0 (om_155 a1 i_1 i_2))) (cwV 1 hts gX4_feed_X0_append rfl rfl rfl (by decide +kernel) ⟨Nat.le_of_ble_eq_true rfl, Nat.le_of_ble_eq_true rfl⟩) ⟨fun a U g mk q => by obtain ⟨q0, q1, qP, qK, qD⟩ := q; exact ⟨q0, q1, qP, va_K.moved (u := U) (U := U.calling g mk a) (Vm.Alike.refl U.vm) qK, qD⟩, kx_rc0 hKc hPc (q0 := 0) rfl, fun U hU hW => ⟨rfl, by rw [hU], by rw [hU]; exact hPc, va_K.moved hW.alike hKc, hDc.weaken (fun _ _ _ _ => trivial)⟩⟩ rfl rfl hl.1 rfl (lv_room (Nat.le_of_ble_eq_true rfl)) dX4_feed_25 ⟨Nat.le_of_ble_eq_true rfl, Nat.le_of_ble_eq_true rfl⟩) hS (fun q _ h => hFc q h) hFc (fun u t H1 locs ht hvm w_3 hB hz1 hk1 hS => ?_)
    obtain ⟨o_4, rfl⟩ : ∃ z, z = u := ⟨_, rfl⟩
    obtain ⟨hP1, hK1, hD1⟩ := hB
    rw [ht] at hP1
    have hK1 := va_K.moved hvm.symm hK1
    obtain ⟨hP, hD⟩ := kx_joinM (w2 := [kx_4 m_ q_row q_t t_ h0 k0 w_ z_ slots old, kx_0 q_row q_cell o_4, kx_a q_cell cyI 160 (upd f len.toNatClampNeg (p0 >>> (16 &&& 31)))]) hP hD hP1 hD1 hk1 hFc [false, true, true] hCc rfl
    clear hP1 hD1 hK1 hk1 hz1 hFc hDc hPc hKc hCc
    generalize H1 = H at hP hS ⊢
    have w_3 : o_4.toInt = len.toInt + 1 := w_3
    refine lv_aload_n hx hb dX4_feed_28 rfl (lv_at hl 0 rfl) ?_
    refine va_get (D := (dC, dI)) (ci := 4) (v := .ref q_row) (C := RX4) (T := TX4) (N := 9) hx hb hts hi_4 hown hK hP 0 rfl rfl 0 (by decide) hf_12 (fun _ h9 => h9) rfl dX4_feed_29 ?_
    refine lv_iload_n hx hb dX4_feed_32 rfl (lv_at hl 1 rfl) ?_
    refine lv_i2s hx hb dX4_feed_33 rfl ?_
    obtain ⟨hPc, hDc, hFc, hCc⟩ := kx_preM (wc := [kx_0 q_row q_cell o_4, kx_a q_cell cyI 160 (upd f len.toNatClampNeg (p0 >>> (16 &&& 31)))]) hP hD hS hA [false, true, true] rfl
    have hKc := hK
    refine va_callv (va_runV (As := [.int p0.toInt16.toInt32]) (rest := []) ⟨hx, hb, hml, hown, hts⟩ (kx_un (c_X0_append l dC dI q_row q_cell cyI o_4 (upd f len.toNatClampNeg (p0 >>> (16 &&& 31))) p0.toInt16.toInt32 H.size (om_34 a0 w_3) (om_156 a1 i_1 i_2 w_3))) (cwV 1 hts gX4_feed_X0_append rfl rfl rfl (by decide +kernel) ⟨Nat.le_of_ble_eq_true rfl, Nat.le_of_ble_eq_true rfl⟩) ⟨fun a U g mk q => by obtain ⟨q0, q1, qP, qK, qD⟩ := q; exact ⟨q0, q1, qP, va_K.moved (u := U) (U := U.calling g mk a) (Vm.Alike.refl U.vm) qK, qD⟩, kx_rc0 hKc hPc (q0 := 0) rfl, fun U hU hW => ⟨rfl, by rw [hU], by rw [hU]; exact hPc, va_K.moved hW.alike hKc, hDc.weaken (fun _ _ _ _ => trivial)⟩⟩ rfl rfl hl.1 rfl (lv_room (Nat.le_of_ble_eq_true rfl)) dX4_feed_34 ⟨Nat.le_of_ble_eq_true rfl, Nat.le_of_ble_eq_true rfl⟩) hS (fun q _ h => hFc q h) hFc (fun u t H1 locs ht hvm w_5 hB hz1 hk1 hS => ?_)
    obtain ⟨o_6, rfl⟩ : ∃ z, z = u := ⟨_, rfl⟩
    obtain ⟨hP1, hK1, hD1⟩ := hB
    rw [ht] at hP1
    have hK1 := va_K.moved hvm.symm hK1
    obtain ⟨hP, hD⟩ := kx_joinM (w2 := [kx_4 m_ q_row q_t t_ h0 k0 w_ z_ slots old, kx_0 q_row q_cell o_6, kx_a q_cell cyI 160 (upd (upd f len.toNatClampNeg (p0 >>> (16 &&& 31))) o_4.toNatClampNeg p0.toInt16.toInt32)]) hP hD hP1 hD1 hk1 hFc [false, true, true] hCc rfl
    clear hP1 hD1 hK1 hk1 hz1 hFc hDc hPc hKc hCc
    generalize H1 = H at hP hS ⊢
    have w_5 : o_6.toInt = o_4.toInt + 1 := w_5
    refine lv_aload_n hx hb dX4_feed_37 rfl (lv_at hl 0 rfl) ?_
    refine va_get (D := (dC, dI)) (ci := 4) (v := .ref q_row) (C := RX4) (T := TX4) (N := 9) hx hb hts hi_4 hown hK hP 0 rfl rfl 0 (by decide) hf_12 (fun _ h9 => h9) rfl dX4_feed_38 ?_
    refine lv_iload_n hx hb dX4_feed_41 rfl (lv_at hl 2 rfl) ?_
    refine lv_bipush (v := 16) hx hb dX4_feed_42 (by decide) ?_
    refine lv_ishr hx hb dX4_feed_44 ?_
    obtain ⟨hPc, hDc, hFc, hCc⟩ := kx_preM (wc := [kx_0 q_row q_cell o_6, kx_a q_cell cyI 160 (upd (upd f len.toNatClampNeg (p0 >>> (16 &&& 31))) o_4.toNatClampNeg p0.toInt16.toInt32)]) hP hD hS hA [false, true, true] rfl
    have hKc := hK
    refine va_callv (va_runV (As := [.int (p1 >>> (16 &&& 31))]) (rest := []) ⟨hx, hb, hml, hown, hts⟩ (kx_un (c_X0_append l dC dI q_row q_cell cyI o_6 (upd (upd f len.toNatClampNeg (p0 >>> (16 &&& 31))) o_4.toNatClampNeg p0.toInt16.toInt32) (p1 >>> (16 &&& 31)) H.size (om_157 a0 w_3 w_5) (om_158 a1 i_1 i_2 w_3 w_5))) (cwV 1 hts gX4_feed_X0_append rfl rfl rfl (by decide +kernel) ⟨Nat.le_of_ble_eq_true rfl, Nat.le_of_ble_eq_true rfl⟩) ⟨fun a U g mk q => by obtain ⟨q0, q1, qP, qK, qD⟩ := q; exact ⟨q0, q1, qP, va_K.moved (u := U) (U := U.calling g mk a) (Vm.Alike.refl U.vm) qK, qD⟩, kx_rc0 hKc hPc (q0 := 0) rfl, fun U hU hW => ⟨rfl, by rw [hU], by rw [hU]; exact hPc, va_K.moved hW.alike hKc, hDc.weaken (fun _ _ _ _ => trivial)⟩⟩ rfl rfl hl.1 rfl (lv_room (Nat.le_of_ble_eq_true rfl)) dX4_feed_45 ⟨Nat.le_of_ble_eq_true rfl, Nat.le_of_ble_eq_true rfl⟩) hS (fun q _ h => hFc q h) hFc (fun u t H1 locs ht hvm w_7 hB hz1 hk1 hS => ?_)
    obtain ⟨o_8, rfl⟩ : ∃ z, z = u := ⟨_, rfl⟩
    obtain ⟨hP1, hK1, hD1⟩ := hB
    rw [ht] at hP1
    have hK1 := va_K.moved hvm.symm hK1
    obtain ⟨hP, hD⟩ := kx_joinM (w2 := [kx_4 m_ q_row q_t t_ h0 k0 w_ z_ slots old, kx_0 q_row q_cell o_8, kx_a q_cell cyI 160 (upd (upd (upd f len.toNatClampNeg (p0 >>> (16 &&& 31))) o_4.toNatClampNeg p0.toInt16.toInt32) o_6.toNatClampNeg (p1 >>> (16 &&& 31)))]) hP hD hP1 hD1 hk1 hFc [false, true, true] hCc rfl
    clear hP1 hD1 hK1 hk1 hz1 hFc hDc hPc hKc hCc
    generalize H1 = H at hP hS ⊢
    have w_7 : o_8.toInt = o_6.toInt + 1 := w_7
    refine lv_aload_n hx hb dX4_feed_48 rfl (lv_at hl 0 rfl) ?_
    refine va_get (D := (dC, dI)) (ci := 4) (v := .ref q_row) (C := RX4) (T := TX4) (N := 9) hx hb hts hi_4 hown hK hP 0 rfl rfl 0 (by decide) hf_12 (fun _ h9 => h9) rfl dX4_feed_49 ?_
    refine lv_iload_n hx hb dX4_feed_52 rfl (lv_at hl 2 rfl) ?_
    refine lv_i2s hx hb dX4_feed_53 rfl ?_
    obtain ⟨hPc, hDc, hFc, hCc⟩ := kx_preM (wc := [kx_0 q_row q_cell o_8, kx_a q_cell cyI 160 (upd (upd (upd f len.toNatClampNeg (p0 >>> (16 &&& 31))) o_4.toNatClampNeg p0.toInt16.toInt32) o_6.toNatClampNeg (p1 >>> (16 &&& 31)))]) hP hD hS hA [false, true, true] rfl
    have hKc := hK
    refine va_callv (va_runV (As := [.int p1.toInt16.toInt32]) (rest := []) ⟨hx, hb, hml, hown, hts⟩ (kx_un (c_X0_append l dC dI q_row q_cell cyI o_8 (upd (upd (upd f len.toNatClampNeg (p0 >>> (16 &&& 31))) o_4.toNatClampNeg p0.toInt16.toInt32) o_6.toNatClampNeg (p1 >>> (16 &&& 31))) p1.toInt16.toInt32 H.size (om_159 a0 w_3 w_5 w_7) (om_160 i_1 i_2 w_3 w_5 w_7))) (cwV 1 hts gX4_feed_X0_append rfl rfl rfl (by decide +kernel) ⟨Nat.le_of_ble_eq_true rfl, Nat.le_of_ble_eq_true rfl⟩) ⟨fun a U g mk q => by obtain ⟨q0, q1, qP, qK, qD⟩ := q; exact ⟨q0, q1, qP, va_K.moved (u := U) (U := U.calling g mk a) (Vm.Alike.refl U.vm) qK, qD⟩, kx_rc0 hKc hPc (q0 := 0) rfl, fun U hU hW => ⟨rfl, by rw [hU], by rw [hU]; exact hPc, va_K.moved hW.alike hKc, hDc.weaken (fun _ _ _ _ => trivial)⟩⟩ rfl rfl hl.1 rfl (lv_room (Nat.le_of_ble_eq_true rfl)) dX4_feed_54 ⟨Nat.le_of_ble_eq_true rfl, Nat.le_of_ble_eq_true rfl⟩) hS (fun q _ h => hFc q h) hFc (fun u t H1 locs ht hvm w_9 hB hz1 hk1 hS => ?_)
    obtain ⟨o_10, rfl⟩ : ∃ z, z = u := ⟨_, rfl⟩
    obtain ⟨hP1, hK1, hD1⟩ := hB
    rw [ht] at hP1
    have hK1 := va_K.moved hvm.symm hK1
    obtain ⟨hP, hD⟩ := kx_joinM (w2 := [kx_4 m_ q_row q_t t_ h0 k0 w_ z_ slots old, kx_0 q_row q_cell o_10, kx_a q_cell cyI 160 (upd (upd (upd (upd f len.toNatClampNeg (p0 >>> (16 &&& 31))) o_4.toNatClampNeg p0.toInt16.toInt32) o_6.toNatClampNeg (p1 >>> (16 &&& 31))) o_8.toNatClampNeg p1.toInt16.toInt32)]) hP hD hP1 hD1 hk1 hFc [false, true, true] hCc rfl
    clear hP1 hD1 hK1 hk1 hz1 hFc hDc hPc hKc hCc
    generalize H1 = H at hP hS ⊢
    have w_9 : o_10.toInt = o_8.toInt + 1 := w_9
    refine lv_aload_n hx hb dX4_feed_57 rfl (lv_at hl 0 rfl) ?_
    refine lv_iconst (v := 1) hx hb dX4_feed_58 (by decide) ?_
    refine va_put (D := (dC, dI)) (ci := 4) (v := .int 1) (ty := .boolean) (C := RX4) (T := TX4) (N := 9) hx hb hts hi_4 tyX4 tyX4_ok nmX4 hown hK hP hD hS 0 rfl rfl 8 (by decide) hf_53 (fun _ h9 => h9) rfl (by decide +kernel) (by decide) (by decide) (Nat.le_of_ble_eq_true rfl) dX4_feed_59 (fun H locs hP hD hS => ?_)
    obtain ⟨hP, hD⟩ := kx_re (w2 := [kx_4 m_ q_row q_t t_ h0 k0 w_ z_ slots 1, kx_0 q_row q_cell o_10, kx_a q_cell cyI 160 (upd (upd (upd (upd f len.toNatClampNeg (p0 >>> (16 &&& 31))) o_4.toNatClampNeg p0.toInt16.toInt32) o_6.toNatClampNeg (p1 >>> (16 &&& 31))) o_8.toNatClampNeg p1.toInt16.toInt32)]) hP hD rfl
    refine lv_aload_n hx hb dX4_feed_62 rfl (lv_at hl 0 rfl) ?_
    refine va_get (D := (dC, dI)) (ci := 4) (v := .ref q_row) (C := RX4) (T := TX4) (N := 9) hx hb hts hi_4 hown hK hP 0 rfl rfl 0 (by decide) hf_12 (fun _ h9 => h9) rfl dX4_feed_63 ?_
    refine va_get (D := (dC, dI)) (ci := 0) (v := .int o_10) (C := RX0) (T := TX0) (N := 2) hx hb hts hi_0 hown hK hP 1 rfl rfl 1 (by decide) hf_57 (fun _ h9 => h9) rfl dX4_feed_66 ?_
    have hP9 := hP
    have hD9 := hD
    have hK9 := hK
    have n_l := ki_nat len rfl (om_10 a0)
    have n_11 := ki_nat o_4 rfl (om_34 a0 w_3)
    have n_12 := ki_nat o_6 rfl (om_157 a0 w_3 w_5)
    have n_13 := ki_nat o_8 rfl (om_159 a0 w_3 w_5 w_7)
    have n_14 := ki_nat o_10 rfl (om_464 a0 w_3 w_5 w_7 w_9)
    have e_f : upd (upd (upd (upd f len.toNatClampNeg (p0 >>> (16 &&& 31))) o_4.toNatClampNeg p0.toInt16.toInt32) o_6.toNatClampNeg (p1 >>> (16 &&& 31))) o_8.toNatClampNeg p1.toInt16.toInt32 = mj_feed f len.toNatClampNeg p0 p1 := by
      rw [show o_4.toNatClampNeg = len.toNatClampNeg + 1 by omega, show o_6.toNatClampNeg = len.toNatClampNeg + 2 by omega, show o_8.toNatClampNeg = len.toNatClampNeg + 3 by omega]; rfl
    exact W.iret (v := o_10) hx hb hr (hlocks := hlocks) (fun t ht hW => ⟨⟨o_10, (1, o_10, (upd (upd (upd (upd f len.toNatClampNeg (p0 >>> (16 &&& 31))) o_4.toNatClampNeg p0.toInt16.toInt32) o_6.toNatClampNeg (p1 >>> (16 &&& 31))) o_8.toNatClampNeg p1.toInt16.toInt32)), rfl, ⟨Or.inl ⟨by omega, (by (try dsimp only); omega), (by (try dsimp only); omega), e_f, rfl⟩, (by (try dsimp only); rw [e_f]; exact shorts_feed p0 p1 s1)⟩, by rw [ht]; exact hP9, va_K.moved hW.alike hK9, hD9⟩, hS.F ht⟩) hS.2.2 dX4_feed_69
  · have i_2 : 160 < y_1.toInt := kc_nle c_2
    refine lv_iconst (v := (-1)) hx hb dX4_feed_15 (by decide) ?_
    have hP9 := hP
    have hD9 := hD
    have hK9 := hK
    exact W.iret (v := (-1)) hx hb hr (hlocks := hlocks) (fun t ht hW => ⟨⟨(-1), (old, len, f), rfl, ⟨Or.inr ⟨by omega, rfl, rfl, rfl, rfl⟩, s1⟩, by rw [ht]; exact hP9, va_K.moved hW.alike hK9, hD9⟩, hS.F ht⟩) hS.2.2 dX4_feed_16

set_option maxHeartbeats 4000000 in
set_option maxRecDepth 100000 in
theorem c_X5_feed_x (l : Launch) (dC : Nat → ClassId) (dI : Nat → Nat → Nat) (h0 : Nat) (g_row : Nat) (g_many : Nat) (g_loss : Nat) (g_less : Nat) (g_voteValue : Nat) (g_voteNumber : Nat) (g_allValue : Nat) (g_allNumber : Nat) (g_nodeL : Nat) (g_nodeR : Nat) (g_part : Nat) (g_wasMany : Nat) (g_wasLoss : Nat) (g_wasValue : Nat) (g_wasNumber : Nat) (g_path : Nat) (g_heavyValue : Nat) (g_heavyTimes : Nat) (g_fewest : Nat) (g_which : Nat) (g_met : Nat) (m_n : Int32) (m_slots : Int32) (m_thrown : Int32) (m_allMany : Int32) (m_nodes : Int32) (m_partMany : Int32) (m_pathMany : Int32) (m_heavyMany : Int32) (m_mostMet : Int32) (cyI : ClassId) (f : Nat → Int32) (p0 : Int32) (p1 : Int32) (sz : Nat) (a0 : 0 ≤ m_n.toInt) (a1 : m_n.toInt ≤ 160) (s1 : shorts f) : kx_MQ l (dC, dI) yX5_feed wsX5_feed ({ frames := 0, cells := 0, slots := 0, locals := 0 }) [.ref h0, .int p0, .int p1] [kx_5 h0 g_row m_n m_slots m_thrown g_many g_loss g_less g_voteValue g_voteNumber g_allValue g_allNumber m_allMany g_nodeL g_nodeR m_nodes g_part m_partMany g_wasMany g_wasLoss g_wasValue g_wasNumber g_path m_pathMany g_heavyValue g_heavyTimes m_heavyMany g_fewest g_which g_met m_mostMet, kx_a g_row cyI 160 f] [(cyI, .int)] sz (fun A => va_Qi (fun (r : Int32) (u : Int32 × (Nat → Int32)) => ((m_n.toInt ≤ 156 ∧ r.toInt = m_n.toInt + 4 ∧ u.1.toInt = m_n.toInt + 4 ∧ u.2 = mj_feed f m_n.toNatClampNeg p0 p1) ∨ (156 < m_n.toInt ∧ r.toInt = -1 ∧ u.1 = m_n ∧ u.2 = f)) ∧ shorts u.2) (fun (u : Int32 × (Nat → Int32)) (t : State) => va_P (dC, dI) vwCl [kx_5 h0 g_row u.1 m_slots 0 g_many g_loss g_less g_voteValue g_voteNumber g_allValue g_allNumber m_allMany g_nodeL g_nodeR m_nodes g_part m_partMany g_wasMany g_wasLoss g_wasValue g_wasNumber g_path m_pathMany g_heavyValue g_heavyTimes m_heavyMany g_fewest g_which g_met m_mostMet, kx_a g_row cyI 160 u.2] t.heap ∧ va_K (dC, dI) vwCl [(cyI, .int)] t ∧ va_D A [kx_5 h0 g_row u.1 m_slots 0 g_many g_loss g_less g_voteValue g_voteNumber g_allValue g_allNumber m_allMany g_nodeL g_nodeR m_nodes g_part m_partMany g_wasMany g_wasLoss g_wasValue g_wasNumber g_path m_pathMany g_heavyValue g_heavyTimes m_heavyMany g_fewest g_which g_met m_mostMet, kx_a g_row cyI 160 u.2]) A) := by
  refine kx_stQ (ws := wsX5_feed) (cc := cX5_feed) (maxL := 3) (ret := (some .int)) (by decide) rfl (Nat.le_of_ble_eq_true rfl) ?_
  intro p e s m below meth c A ls hx hb hr hlocks hts hown hml hA hS hP hK hD hl
  have hown : s.vm.findClass RX5 = some m.cls := hown
  have hl : lv_has ls 3 [(0, .ref h0), (1, .int p0), (2, .int p1)] := hl
  have hf_77 := hts (.fieldLink RX5 77 "MajorityIndexModel" "thrown" "I") (List.mem_of_getElem? (i := 1) rfl)
  have hi_5 : ∀ w ∈ u_ws RX5 TX5 30, w ∈ wsX5_feed := fun w h => List.mem_cons_of_mem _ (List.mem_append_right _ h)
  have hf_84 := hts (.fieldLink RX5 84 "MajorityIndexModel" "n" "I") (List.mem_of_getElem? (i := 2) rfl)
  have hf_7 := hts (.fieldLink RX5 7 "MajorityIndexModel" "row" "[I") (List.mem_of_getElem? (i := 3) rfl)
  refine lv_aload_n hx hb dX5_feed_0 rfl (lv_at hl 0 rfl) ?_
  refine lv_iconst (v := 0) hx hb dX5_feed_1 (by decide) ?_
  refine va_put (D := (dC, dI)) (ci := 5) (v := .int 0) (ty := .int) (C := RX5) (T := TX5) (N := 30) hx hb hts hi_5 tyX5 tyX5_ok nmX5 hown hK hP hD hS 0 rfl rfl 3 (by decide) hf_77 (fun _ h9 => h9) rfl (by decide +kernel) rfl rfl (Nat.le_of_ble_eq_true rfl) dX5_feed_2 (fun H locs hP hD hS => ?_)
  obtain ⟨hP, hD⟩ := kx_re (w2 := [kx_5 h0 g_row m_n m_slots 0 g_many g_loss g_less g_voteValue g_voteNumber g_allValue g_allNumber m_allMany g_nodeL g_nodeR m_nodes g_part m_partMany g_wasMany g_wasLoss g_wasValue g_wasNumber g_path m_pathMany g_heavyValue g_heavyTimes m_heavyMany g_fewest g_which g_met m_mostMet, kx_a g_row cyI 160 f]) hP hD rfl
  refine lv_aload_n hx hb dX5_feed_5 rfl (lv_at hl 0 rfl) ?_
  refine va_get (D := (dC, dI)) (ci := 5) (v := .int m_n) (C := RX5) (T := TX5) (N := 30) hx hb hts hi_5 hown hK hP 0 rfl rfl 1 (by decide) hf_84 (fun _ h9 => h9) rfl dX5_feed_6 ?_
  refine lv_iconst (v := 4) hx hb dX5_feed_9 (by decide) ?_
  refine lv_iadd hx hb dX5_feed_10 ?_
  refine lv_topi (fun y_1 ey_1 => ?_)
  have i_1 : y_1.toInt = m_n.toInt + 4 := ki_add ey_1 rfl rfl (om_153 a0) (om_154 a1)
  refine lv_sipush (v := 160) hx hb dX5_feed_11 (by decide) ?_
  refine lv_icmp_le (tgt := 19) hx hb dX5_feed_14 (by decide) (fun c_2 => ?_) (fun c_2 => ?_)
  · have i_2 : y_1.toInt ≤ 160 := kc_le c_2
    refine lv_aload_n hx hb dX5_feed_19 rfl (lv_at hl 0 rfl) ?_
    refine va_get (D := (dC, dI)) (ci := 5) (v := .ref g_row) (C := RX5) (T := TX5) (N := 30) hx hb hts hi_5 hown hK hP 0 rfl rfl 0 (by decide) hf_7 (fun _ h9 => h9) rfl dX5_feed_20 ?_
    refine lv_aload_n hx hb dX5_feed_23 rfl (lv_at hl 0 rfl) ?_
    refine va_get (D := (dC, dI)) (ci := 5) (v := .int m_n) (C := RX5) (T := TX5) (N := 30) hx hb hts hi_5 hown hK hP 0 rfl rfl 1 (by decide) hf_84 (fun _ h9 => h9) rfl dX5_feed_24 ?_
    refine lv_iload_n hx hb dX5_feed_27 rfl (lv_at hl 1 rfl) ?_
    refine lv_bipush (v := 16) hx hb dX5_feed_28 (by decide) ?_
    refine lv_ishr hx hb dX5_feed_30 ?_
    refine lv_i2s hx hb dX5_feed_31 rfl ?_
    refine va_iast hx hb hK hP hD hS 1 0 rfl rfl (ki_in (om_10 a0) (om_222 a1 i_1 i_2)) dX5_feed_32 (fun H locs hP hD hS => ?_)
    obtain ⟨hP, hD⟩ := kx_re (w2 := [kx_5 h0 g_row m_n m_slots 0 g_many g_loss g_less g_voteValue g_voteNumber g_allValue g_allNumber m_allMany g_nodeL g_nodeR m_nodes g_part m_partMany g_wasMany g_wasLoss g_wasValue g_wasNumber g_path m_pathMany g_heavyValue g_heavyTimes m_heavyMany g_fewest g_which g_met m_mostMet, kx_a g_row cyI 160 (upd f m_n.toNatClampNeg ((p0 >>> (16 &&& 31)).toInt16.toInt32))]) hP hD rfl
    refine lv_aload_n hx hb dX5_feed_33 rfl (lv_at hl 0 rfl) ?_
    refine va_get (D := (dC, dI)) (ci := 5) (v := .ref g_row) (C := RX5) (T := TX5) (N := 30) hx hb hts hi_5 hown hK hP 0 rfl rfl 0 (by decide) hf_7 (fun _ h9 => h9) rfl dX5_feed_34 ?_
    refine lv_aload_n hx hb dX5_feed_37 rfl (lv_at hl 0 rfl) ?_
    refine va_get (D := (dC, dI)) (ci := 5) (v := .int m_n) (C := RX5) (T := TX5) (N := 30) hx hb hts hi_5 hown hK hP 0 rfl rfl 1 (by decide) hf_84 (fun _ h9 => h9) rfl dX5_feed_38 ?_
    refine lv_iconst (v := 1) hx hb dX5_feed_41 (by decide) ?_
    refine lv_iadd hx hb dX5_feed_42 ?_
    refine lv_topi (fun y_3 ey_3 => ?_)
    have i_3 : y_3.toInt = m_n.toInt + 1 := ki_add ey_3 rfl rfl (om_13 a0) (om_192 a1)
    refine lv_iload_n hx hb dX5_feed_43 rfl (lv_at hl 1 rfl) ?_
    refine lv_i2s hx hb dX5_feed_44 rfl ?_
    refine va_iast hx hb hK hP hD hS 1 0 rfl rfl (ki_in (om_34 a0 i_3) (om_223 a1 i_1 i_2 i_3)) dX5_feed_45 (fun H locs hP hD hS => ?_)
    obtain ⟨hP, hD⟩ := kx_re (w2 := [kx_5 h0 g_row m_n m_slots 0 g_many g_loss g_less g_voteValue g_voteNumber g_allValue g_allNumber m_allMany g_nodeL g_nodeR m_nodes g_part m_partMany g_wasMany g_wasLoss g_wasValue g_wasNumber g_path m_pathMany g_heavyValue g_heavyTimes m_heavyMany g_fewest g_which g_met m_mostMet, kx_a g_row cyI 160 (upd (upd f m_n.toNatClampNeg ((p0 >>> (16 &&& 31)).toInt16.toInt32)) y_3.toNatClampNeg p0.toInt16.toInt32)]) hP hD rfl
    refine lv_aload_n hx hb dX5_feed_46 rfl (lv_at hl 0 rfl) ?_
    refine va_get (D := (dC, dI)) (ci := 5) (v := .ref g_row) (C := RX5) (T := TX5) (N := 30) hx hb hts hi_5 hown hK hP 0 rfl rfl 0 (by decide) hf_7 (fun _ h9 => h9) rfl dX5_feed_47 ?_
    refine lv_aload_n hx hb dX5_feed_50 rfl (lv_at hl 0 rfl) ?_
    refine va_get (D := (dC, dI)) (ci := 5) (v := .int m_n) (C := RX5) (T := TX5) (N := 30) hx hb hts hi_5 hown hK hP 0 rfl rfl 1 (by decide) hf_84 (fun _ h9 => h9) rfl dX5_feed_51 ?_
    refine lv_iconst (v := 2) hx hb dX5_feed_54 (by decide) ?_
    refine lv_iadd hx hb dX5_feed_55 ?_
    refine lv_topi (fun y_4 ey_4 => ?_)
    have i_4 : y_4.toInt = m_n.toInt + 2 := ki_add ey_4 rfl rfl (om_224 a0) (om_225 a1)
    refine lv_iload_n hx hb dX5_feed_56 rfl (lv_at hl 2 rfl) ?_
    refine lv_bipush (v := 16) hx hb dX5_feed_57 (by decide) ?_
    refine lv_ishr hx hb dX5_feed_59 ?_
    refine lv_i2s hx hb dX5_feed_60 rfl ?_
    refine va_iast hx hb hK hP hD hS 1 0 rfl rfl (ki_in (om_226 a0 i_4) (om_227 a1 i_1 i_2 i_4)) dX5_feed_61 (fun H locs hP hD hS => ?_)
    obtain ⟨hP, hD⟩ := kx_re (w2 := [kx_5 h0 g_row m_n m_slots 0 g_many g_loss g_less g_voteValue g_voteNumber g_allValue g_allNumber m_allMany g_nodeL g_nodeR m_nodes g_part m_partMany g_wasMany g_wasLoss g_wasValue g_wasNumber g_path m_pathMany g_heavyValue g_heavyTimes m_heavyMany g_fewest g_which g_met m_mostMet, kx_a g_row cyI 160 (upd (upd (upd f m_n.toNatClampNeg ((p0 >>> (16 &&& 31)).toInt16.toInt32)) y_3.toNatClampNeg p0.toInt16.toInt32) y_4.toNatClampNeg ((p1 >>> (16 &&& 31)).toInt16.toInt32))]) hP hD rfl
    refine lv_aload_n hx hb dX5_feed_62 rfl (lv_at hl 0 rfl) ?_
    refine va_get (D := (dC, dI)) (ci := 5) (v := .ref g_row) (C := RX5) (T := TX5) (N := 30) hx hb hts hi_5 hown hK hP 0 rfl rfl 0 (by decide) hf_7 (fun _ h9 => h9) rfl dX5_feed_63 ?_
    refine lv_aload_n hx hb dX5_feed_66 rfl (lv_at hl 0 rfl) ?_
    refine va_get (D := (dC, dI)) (ci := 5) (v := .int m_n) (C := RX5) (T := TX5) (N := 30) hx hb hts hi_5 hown hK hP 0 rfl rfl 1 (by decide) hf_84 (fun _ h9 => h9) rfl dX5_feed_67 ?_
    refine lv_iconst (v := 3) hx hb dX5_feed_70 (by decide) ?_
    refine lv_iadd hx hb dX5_feed_71 ?_
    refine lv_topi (fun y_5 ey_5 => ?_)
    have i_5 : y_5.toInt = m_n.toInt + 3 := ki_add ey_5 rfl rfl (om_228 a0) (om_229 a1)
    refine lv_iload_n hx hb dX5_feed_72 rfl (lv_at hl 2 rfl) ?_
    refine lv_i2s hx hb dX5_feed_73 rfl ?_
    refine va_iast hx hb hK hP hD hS 1 0 rfl rfl (ki_in (om_230 a0 i_5) (om_231 i_1 i_2 i_5)) dX5_feed_74 (fun H locs hP hD hS => ?_)
    obtain ⟨hP, hD⟩ := kx_re (w2 := [kx_5 h0 g_row m_n m_slots 0 g_many g_loss g_less g_voteValue g_voteNumber g_allValue g_allNumber m_allMany g_nodeL g_nodeR m_nodes g_part m_partMany g_wasMany g_wasLoss g_wasValue g_wasNumber g_path m_pathMany g_heavyValue g_heavyTimes m_heavyMany g_fewest g_which g_met m_mostMet, kx_a g_row cyI 160 (upd (upd (upd (upd f m_n.toNatClampNeg ((p0 >>> (16 &&& 31)).toInt16.toInt32)) y_3.toNatClampNeg p0.toInt16.toInt32) y_4.toNatClampNeg ((p1 >>> (16 &&& 31)).toInt16.toInt32)) y_5.toNatClampNeg p1.toInt16.toInt32)]) hP hD rfl
    refine lv_aload_n hx hb dX5_feed_75 rfl (lv_at hl 0 rfl) ?_
    refine lv_dup hx hb dX5_feed_76 rfl ?_
    refine va_get (D := (dC, dI)) (ci := 5) (v := .int m_n) (C := RX5) (T := TX5) (N := 30) hx hb hts hi_5 hown hK hP 0 rfl rfl 1 (by decide) hf_84 (fun _ h9 => h9) rfl dX5_feed_77 ?_
    refine lv_iconst (v := 4) hx hb dX5_feed_80 (by decide) ?_
    refine lv_iadd hx hb dX5_feed_81 ?_
    refine lv_topi (fun y_6 ey_6 => ?_)
    have i_6 : y_6.toInt = m_n.toInt + 4 := ki_add ey_6 rfl rfl (om_153 a0) (om_154 a1)
    refine va_put (D := (dC, dI)) (ci := 5) (v := .int y_6) (ty := .int) (C := RX5) (T := TX5) (N := 30) hx hb hts hi_5 tyX5 tyX5_ok nmX5 hown hK hP hD hS 0 rfl rfl 1 (by decide) hf_84 (fun _ h9 => h9) rfl (by decide +kernel) rfl rfl (Nat.le_of_ble_eq_true rfl) dX5_feed_82 (fun H locs hP hD hS => ?_)
    obtain ⟨hP, hD⟩ := kx_re (w2 := [kx_5 h0 g_row y_6 m_slots 0 g_many g_loss g_less g_voteValue g_voteNumber g_allValue g_allNumber m_allMany g_nodeL g_nodeR m_nodes g_part m_partMany g_wasMany g_wasLoss g_wasValue g_wasNumber g_path m_pathMany g_heavyValue g_heavyTimes m_heavyMany g_fewest g_which g_met m_mostMet, kx_a g_row cyI 160 (upd (upd (upd (upd f m_n.toNatClampNeg ((p0 >>> (16 &&& 31)).toInt16.toInt32)) y_3.toNatClampNeg p0.toInt16.toInt32) y_4.toNatClampNeg ((p1 >>> (16 &&& 31)).toInt16.toInt32)) y_5.toNatClampNeg p1.toInt16.toInt32)]) hP hD rfl
    refine lv_aload_n hx hb dX5_feed_85 rfl (lv_at hl 0 rfl) ?_
    refine va_get (D := (dC, dI)) (ci := 5) (v := .int y_6) (C := RX5) (T := TX5) (N := 30) hx hb hts hi_5 hown hK hP 0 rfl rfl 1 (by decide) hf_84 (fun _ h9 => h9) rfl dX5_feed_86 ?_
    have hP9 := hP
    have hD9 := hD
    have hK9 := hK
    have n_l := ki_nat m_n rfl (om_10 a0)
    have n_7 := ki_nat y_3 rfl (om_34 a0 i_3)
    have n_8 := ki_nat y_4 rfl (om_226 a0 i_4)
    have n_9 := ki_nat y_5 rfl (om_230 a0 i_5)
    have e_f : upd (upd (upd (upd f m_n.toNatClampNeg ((p0 >>> (16 &&& 31)).toInt16.toInt32)) y_3.toNatClampNeg p0.toInt16.toInt32) y_4.toNatClampNeg ((p1 >>> (16 &&& 31)).toInt16.toInt32)) y_5.toNatClampNeg p1.toInt16.toInt32 = mj_feed f m_n.toNatClampNeg p0 p1 := by
      rw [show y_3.toNatClampNeg = m_n.toNatClampNeg + 1 by omega, show y_4.toNatClampNeg = m_n.toNatClampNeg + 2 by omega, show y_5.toNatClampNeg = m_n.toNatClampNeg + 3 by omega, ki_short16, ki_short16]; rfl
    exact W.iret (v := y_6) hx hb hr (hlocks := hlocks) (fun t ht hW => ⟨⟨y_6, (y_6, (upd (upd (upd (upd f m_n.toNatClampNeg ((p0 >>> (16 &&& 31)).toInt16.toInt32)) y_3.toNatClampNeg p0.toInt16.toInt32) y_4.toNatClampNeg ((p1 >>> (16 &&& 31)).toInt16.toInt32)) y_5.toNatClampNeg p1.toInt16.toInt32)), rfl, ⟨Or.inl ⟨by omega, (by (try dsimp only); omega), (by (try dsimp only); omega), e_f⟩, (by (try dsimp only); rw [e_f]; exact shorts_feed p0 p1 s1)⟩, by rw [ht]; exact hP9, va_K.moved hW.alike hK9, hD9⟩, hS.F ht⟩) hS.2.2 dX5_feed_89
  · have i_2 : 160 < y_1.toInt := kc_nle c_2
    refine lv_iconst (v := (-1)) hx hb dX5_feed_17 (by decide) ?_
    have hP9 := hP
    have hD9 := hD
    have hK9 := hK
    exact W.iret (v := (-1)) hx hb hr (hlocks := hlocks) (fun t ht hW => ⟨⟨(-1), (m_n, f), rfl, ⟨Or.inr ⟨by omega, rfl, rfl, rfl⟩, s1⟩, by rw [ht]; exact hP9, va_K.moved hW.alike hK9, hD9⟩, hS.F ht⟩) hS.2.2 dX5_feed_18

set_option maxHeartbeats 4000000 in
set_option maxRecDepth 100000 in
theorem c_X4_overwrite_x (l : Launch) (dC : Nat → ClassId) (dI : Nat → Nat → Nat) (m_ : Nat) (q_row : Nat) (q_t : Nat) (t_ : Nat) (h0 : Nat) (k0 : Nat) (w_ : Nat) (z_ : Nat) (slots : Int32) (old : Int32) (q_joined : Nat) (q_from : Nat) (q_to : Nat) (q_size : Nat) (q_lossOf : Nat) (q_lessBy : Nat) (q_value : Nat) (q_number : Nat) (nodes : Int32) (here : Int32) (q_cell : Nat) (cyI : ClassId) (len : Int32) (f : Nat → Int32) (ff : Nat → Int32) (ft : Nat → Int32) (fs : Nat → Int32) (fo : Nat → Int32) (uv : Nat → Int32) (un : Nat → Int32) (fe : Nat → Int32) (j_v : Nat) (j_n : Nat) (js : Int32) (jl : Int32) (je : Int32) (jv : Nat → Int32) (jn : Nat → Int32) (p0 : Int32) (p1 : Int32) (p2 : Int32) (sz : Nat) (b0 : 0 ≤ nodes.toInt) (c0 : nodes.toInt ≤ 319) (c1 : len.toInt ≤ 160) (s0 : sixes fs) (t0 : treeOk ff ft nodes.toInt len.toInt) (d0 : 0 ≤ p0.toInt) (d1 : p1.toInt ≤ 160) (d2 : p0.toInt < p1.toInt) : kx_MQ l (dC, dI) yX4_overwrite wsX4_overwrite ({ frames := 5, cells := 0, slots := 0, locals := 225 }) [.ref m_, .ref q_t, .int p0, .int p1, .int p2] [kx_4 m_ q_row q_t t_ h0 k0 w_ z_ slots old, kx_2 q_t q_row q_joined q_from q_to q_size q_lossOf q_lessBy q_value q_number nodes here, kx_0 q_row q_cell len, kx_a q_cell cyI 160 f, kx_a q_from cyI 319 ff, kx_a q_to cyI 319 ft, kx_a q_size cyI 319 fs, kx_a q_lossOf cyI 319 fo, kx_a q_lessBy cyI 319 fe, kx_a q_value cyI 1914 uv, kx_a q_number cyI 1914 un, kx_3 q_joined j_v j_n js jl je, kx_a j_v cyI 12 jv, kx_a j_n cyI 12 jn] [(cyI, .int)] sz (fun A => va_Qi (fun (r : Int32) (u : (Nat → Int32) × (Nat → Int32) × (Nat → Int32) × (Nat → Int32) × (Nat → Int32) × (Nat → Int32) × Int32 × Int32 × Int32 × (Nat → Int32) × (Nat → Int32)) => u.1 = mj_fill f p0.toNatClampNeg p1.toNatClampNeg p2 ∧ sixes u.2.1) (fun (u : (Nat → Int32) × (Nat → Int32) × (Nat → Int32) × (Nat → Int32) × (Nat → Int32) × (Nat → Int32) × Int32 × Int32 × Int32 × (Nat → Int32) × (Nat → Int32)) (t : State) => va_P (dC, dI) vwCl [kx_4 m_ q_row q_t t_ h0 k0 w_ z_ slots old, kx_2 q_t q_row q_joined q_from q_to q_size q_lossOf q_lessBy q_value q_number nodes here, kx_0 q_row q_cell len, kx_a q_cell cyI 160 u.1, kx_a q_from cyI 319 ff, kx_a q_to cyI 319 ft, kx_a q_size cyI 319 u.2.1, kx_a q_lossOf cyI 319 u.2.2.1, kx_a q_lessBy cyI 319 u.2.2.2.1, kx_a q_value cyI 1914 u.2.2.2.2.1, kx_a q_number cyI 1914 u.2.2.2.2.2.1, kx_3 q_joined j_v j_n u.2.2.2.2.2.2.1 u.2.2.2.2.2.2.2.1 u.2.2.2.2.2.2.2.2.1, kx_a j_v cyI 12 u.2.2.2.2.2.2.2.2.2.1, kx_a j_n cyI 12 u.2.2.2.2.2.2.2.2.2.2] t.heap ∧ va_K (dC, dI) vwCl [(cyI, .int)] t ∧ va_D A [kx_4 m_ q_row q_t t_ h0 k0 w_ z_ slots old, kx_2 q_t q_row q_joined q_from q_to q_size q_lossOf q_lessBy q_value q_number nodes here, kx_0 q_row q_cell len, kx_a q_cell cyI 160 u.1, kx_a q_from cyI 319 ff, kx_a q_to cyI 319 ft, kx_a q_size cyI 319 u.2.1, kx_a q_lossOf cyI 319 u.2.2.1, kx_a q_lessBy cyI 319 u.2.2.2.1, kx_a q_value cyI 1914 u.2.2.2.2.1, kx_a q_number cyI 1914 u.2.2.2.2.2.1, kx_3 q_joined j_v j_n u.2.2.2.2.2.2.1 u.2.2.2.2.2.2.2.1 u.2.2.2.2.2.2.2.2.1, kx_a j_v cyI 12 u.2.2.2.2.2.2.2.2.2.1, kx_a j_n cyI 12 u.2.2.2.2.2.2.2.2.2.2]) A) := by
  refine kx_stQ (ws := wsX4_overwrite) (cc := cX4_overwrite) (maxL := 6) (ret := (some .int)) (by decide) rfl (Nat.le_of_ble_eq_true rfl) ?_
  intro p e s m below meth c A ls hx hb hr hlocks hts hown hml hA hS hP hK hD hl
  have hown : s.vm.findClass RX4 = some m.cls := hown
  have hl : lv_has ls 6 [(0, .ref m_), (1, .ref q_t), (2, .int p0), (3, .int p1), (4, .int p2)] := hl
  have hf_12 := hts (.fieldLink RX4 12 "MajorityIndex" "row" "LMajorityIndex$Row;") (List.mem_of_getElem? (i := 1) rfl)
  have hi_4 : ∀ w ∈ u_ws RX4 TX4 9, w ∈ wsX4_overwrite := fun w h => List.mem_cons_of_mem _ (List.mem_append_left _ (List.mem_append_left _ (List.mem_append_left _ (List.mem_append_right _ h))))
  have hf_110 := hts (.fieldLink RX4 110 "MajorityIndex$Row" "cell" "[I") (List.mem_of_getElem? (i := 2) rfl)
  have hi_0 : ∀ w ∈ u_ws RX0 TX0 2, w ∈ wsX4_overwrite := fun w h => List.mem_cons_of_mem _ (List.mem_append_left _ (List.mem_append_left _ (List.mem_append_right _ h)))
  refine lv_iload_n hx hb dX4_overwrite_0 rfl (lv_at hl 2 rfl) ?_
  refine lv_istore (lv' := [(5, .int p0), (0, .ref m_), (1, .ref q_t), (2, .int p0), (3, .int p1), (4, .int p2)]) hx hb dX4_overwrite_1 hl (by decide) rfl (fun ls hl => ?_)
  have LP1 : ∀ (n : Nat) (i : Int32) (gc : Nat → Int32), (p0.toInt ≤ i.toInt) → (i.toInt ≤ p1.toInt) → (gc = mj_fill f p0.toNatClampNeg i.toNatClampNeg p2) → (p1.toInt - i.toInt).toNat < n → ∀ (H : Heap) (locs : List Loc), va_P (dC, dI) vwCl [kx_4 m_ q_row q_t t_ h0 k0 w_ z_ slots old, kx_2 q_t q_row q_joined q_from q_to q_size q_lossOf q_lessBy q_value q_number nodes here, kx_0 q_row q_cell len, kx_a q_cell cyI 160 gc, kx_a q_from cyI 319 ff, kx_a q_to cyI 319 ft, kx_a q_size cyI 319 fs, kx_a q_lossOf cyI 319 fo, kx_a q_lessBy cyI 319 fe, kx_a q_value cyI 1914 uv, kx_a q_number cyI 1914 un, kx_3 q_joined j_v j_n js jl je, kx_a j_v cyI 12 jv, kx_a j_n cyI 12 jn] H → va_D A [kx_4 m_ q_row q_t t_ h0 k0 w_ z_ slots old, kx_2 q_t q_row q_joined q_from q_to q_size q_lossOf q_lessBy q_value q_number nodes here, kx_0 q_row q_cell len, kx_a q_cell cyI 160 gc, kx_a q_from cyI 319 ff, kx_a q_to cyI 319 ft, kx_a q_size cyI 319 fs, kx_a q_lossOf cyI 319 fo, kx_a q_lessBy cyI 319 fe, kx_a q_value cyI 1914 uv, kx_a q_number cyI 1914 un, kx_3 q_joined j_v j_n js jl je, kx_a j_v cyI 12 jv, kx_a j_n cyI 12 jn] → va_S A s.heap H locs → ∀ (ls : Array Slot), lv_has ls 6 [(5, .int i), (0, .ref m_), (1, .ref q_t), (2, .int p0), (3, .int p1), (4, .int p2)] → W p l e (headSpec wsX4_overwrite ({ frames := 5, cells := 0, slots := 0, locals := 225 })).room s m ([.ref m_, .ref q_t, .int p0, .int p1, .int p2] : List Value).toArray below meth c H locs 0 0 (MQ below (va_Qi (fun (r : Int32) (u : (Nat → Int32) × (Nat → Int32) × (Nat → Int32) × (Nat → Int32) × (Nat → Int32) × (Nat → Int32) × Int32 × Int32 × Int32 × (Nat → Int32) × (Nat → Int32)) => u.1 = mj_fill f p0.toNatClampNeg p1.toNatClampNeg p2 ∧ sixes u.2.1) (fun (u : (Nat → Int32) × (Nat → Int32) × (Nat → Int32) × (Nat → Int32) × (Nat → Int32) × (Nat → Int32) × Int32 × Int32 × Int32 × (Nat → Int32) × (Nat → Int32)) (t : State) => va_P (dC, dI) vwCl [kx_4 m_ q_row q_t t_ h0 k0 w_ z_ slots old, kx_2 q_t q_row q_joined q_from q_to q_size q_lossOf q_lessBy q_value q_number nodes here, kx_0 q_row q_cell len, kx_a q_cell cyI 160 u.1, kx_a q_from cyI 319 ff, kx_a q_to cyI 319 ft, kx_a q_size cyI 319 u.2.1, kx_a q_lossOf cyI 319 u.2.2.1, kx_a q_lessBy cyI 319 u.2.2.2.1, kx_a q_value cyI 1914 u.2.2.2.2.1, kx_a q_number cyI 1914 u.2.2.2.2.2.1, kx_3 q_joined j_v j_n u.2.2.2.2.2.2.1 u.2.2.2.2.2.2.2.1 u.2.2.2.2.2.2.2.2.1, kx_a j_v cyI 12 u.2.2.2.2.2.2.2.2.2.1, kx_a j_n cyI 12 u.2.2.2.2.2.2.2.2.2.2] t.heap ∧ va_K (dC, dI) vwCl [(cyI, .int)] t ∧ va_D A [kx_4 m_ q_row q_t t_ h0 k0 w_ z_ slots old, kx_2 q_t q_row q_joined q_from q_to q_size q_lossOf q_lessBy q_value q_number nodes here, kx_0 q_row q_cell len, kx_a q_cell cyI 160 u.1, kx_a q_from cyI 319 ff, kx_a q_to cyI 319 ft, kx_a q_size cyI 319 u.2.1, kx_a q_lossOf cyI 319 u.2.2.1, kx_a q_lessBy cyI 319 u.2.2.2.1, kx_a q_value cyI 1914 u.2.2.2.2.1, kx_a q_number cyI 1914 u.2.2.2.2.2.1, kx_3 q_joined j_v j_n u.2.2.2.2.2.2.1 u.2.2.2.2.2.2.2.1 u.2.2.2.2.2.2.2.2.1, kx_a j_v cyI 12 u.2.2.2.2.2.2.2.2.2.1, kx_a j_n cyI 12 u.2.2.2.2.2.2.2.2.2.2]) A) ([.ref m_, .ref q_t, .int p0, .int p1, .int p2] : List Value).toArray s 0 0 A) (F0 m 3 ls []) := by
    intro n
    induction n with
    | zero => intro i gc LP1_h0 LP1_h1 LP1_h2 hn; exact absurd hn (Nat.not_lt_zero _)
    | succ n ih1 =>
      intro i gc LP1_h0 LP1_h1 LP1_h2 hn1 H locs hP hD hS ls hl
      have n_i := ki_nat i rfl (om_0 d0 LP1_h0)
      have n_p0 := ki_nat p0 rfl (om_10 d0)
      have n_p1 := ki_nat p1 rfl (om_21 d0 d2)
      refine lv_iload hx hb dX4_overwrite_3 (lv_at hl 0 rfl) ?_
      refine lv_iload_n hx hb dX4_overwrite_5 rfl (lv_at hl 4 rfl) ?_
      refine lv_icmp_ge (tgt := 27) hx hb dX4_overwrite_6 (by decide) (fun c_1 => ?_) (fun c_1 => ?_)
      · have i_1 : p1.toInt ≤ i.toInt := kc_le c_1
        refine lv_aload_n hx hb dX4_overwrite_27 rfl (lv_at hl 2 rfl) ?_
        refine lv_iload_n hx hb dX4_overwrite_28 rfl (lv_at hl 3 rfl) ?_
        refine lv_iload_n hx hb dX4_overwrite_29 rfl (lv_at hl 4 rfl) ?_
        obtain ⟨hPc, hDc, hFc, hCc⟩ := kx_preM (wc := [kx_2 q_t q_row q_joined q_from q_to q_size q_lossOf q_lessBy q_value q_number nodes here, kx_0 q_row q_cell len, kx_a q_cell cyI 160 gc, kx_a q_from cyI 319 ff, kx_a q_to cyI 319 ft, kx_a q_size cyI 319 fs, kx_a q_lossOf cyI 319 fo, kx_a q_lessBy cyI 319 fe, kx_a q_value cyI 1914 uv, kx_a q_number cyI 1914 un, kx_3 q_joined j_v j_n js jl je, kx_a j_v cyI 12 jv, kx_a j_n cyI 12 jn]) hP hD hS hA [false, true, true, true, true, true, true, true, true, true, true, true, true, true] rfl
        have hKc := hK
        refine va_calli (va_runV (As := [.int p0, .int p1]) (rest := []) ⟨hx, hb, hml, hown, hts⟩ (kx_un (c_X2_renew l dC dI q_t q_row q_joined q_from q_to q_size q_lossOf q_lessBy q_value q_number nodes here q_cell cyI len gc ff ft fs fo uv un fe j_v j_n js jl je jv jn p0 p1 H.size b0 c0 c1 s0 t0)) (cwV 2 hts gX4_overwrite_X2_renew rfl rfl rfl (by decide +kernel) ⟨Nat.le_of_ble_eq_true rfl, Nat.le_of_ble_eq_true rfl⟩) ⟨fun a U g mk q => by obtain ⟨q0, q1, qP, qK, qD⟩ := q; exact ⟨q0, q1, qP, va_K.moved (u := U) (U := U.calling g mk a) (Vm.Alike.refl U.vm) qK, qD⟩, kx_rc2 hKc hPc (q0 := 0) rfl, fun U hU hW => ⟨rfl, by rw [hU], by rw [hU]; exact hPc, va_K.moved hW.alike hKc, hDc.weaken (fun _ _ _ _ => trivial)⟩⟩ rfl rfl hl.1 rfl (lv_room (Nat.le_of_ble_eq_true rfl)) dX4_overwrite_30 ⟨Nat.le_of_ble_eq_true rfl, Nat.le_of_ble_eq_true rfl⟩) hS (fun q _ h => hFc q h) hFc (fun r_2 u t H1 locs ht hvm w_2 hB hz1 hk1 hS => ?_)
        obtain ⟨o_3, o_4, o_5, o_6, o_7, o_8, o_9, o_10, o_11, o_12⟩ := u
        dsimp only at w_2 hB
        obtain ⟨hP1, hK1, hD1⟩ := hB
        rw [ht] at hP1
        have hK1 := va_K.moved hvm.symm hK1
        obtain ⟨hP, hD⟩ := kx_joinM (w2 := [kx_4 m_ q_row q_t t_ h0 k0 w_ z_ slots old, kx_2 q_t q_row q_joined q_from q_to q_size q_lossOf q_lessBy q_value q_number nodes here, kx_0 q_row q_cell len, kx_a q_cell cyI 160 gc, kx_a q_from cyI 319 ff, kx_a q_to cyI 319 ft, kx_a q_size cyI 319 o_3, kx_a q_lossOf cyI 319 o_4, kx_a q_lessBy cyI 319 o_5, kx_a q_value cyI 1914 o_6, kx_a q_number cyI 1914 o_7, kx_3 q_joined j_v j_n o_8 o_9 o_10, kx_a j_v cyI 12 o_11, kx_a j_n cyI 12 o_12]) hP hD hP1 hD1 hk1 hFc [false, true, true, true, true, true, true, true, true, true, true, true, true, true] hCc rfl
        clear hP1 hD1 hK1 hk1 hz1 hFc hDc hPc hKc hCc
        generalize H1 = H at hP hS ⊢
        have w_2 : sixes o_3 := w_2
        have hP9 := hP
        have hD9 := hD
        have hK9 := hK
        exact W.iret (v := r_2) hx hb hr (hlocks := hlocks) (fun t ht hW => ⟨⟨r_2, (gc, o_3, o_4, o_5, o_6, o_7, o_8, o_9, o_10, o_11, o_12), rfl, ⟨(by (try dsimp only); rw [LP1_h2, show i.toNatClampNeg = p1.toNatClampNeg by omega]), w_2⟩, by rw [ht]; exact hP9, va_K.moved hW.alike hK9, hD9⟩, hS.F ht⟩) hS.2.2 dX4_overwrite_33
      · have i_1 : i.toInt < p1.toInt := kc_nle c_1
        refine lv_aload_n hx hb dX4_overwrite_9 rfl (lv_at hl 1 rfl) ?_
        refine va_get (D := (dC, dI)) (ci := 4) (v := .ref q_row) (C := RX4) (T := TX4) (N := 9) hx hb hts hi_4 hown hK hP 0 rfl rfl 0 (by decide) hf_12 (fun _ h9 => h9) rfl dX4_overwrite_10 ?_
        refine va_get (D := (dC, dI)) (ci := 0) (v := .ref q_cell) (C := RX0) (T := TX0) (N := 2) hx hb hts hi_0 hown hK hP 2 rfl rfl 0 (by decide) hf_110 (fun _ h9 => h9) rfl dX4_overwrite_13 ?_
        refine lv_iload hx hb dX4_overwrite_16 (lv_at hl 0 rfl) ?_
        refine lv_iload hx hb dX4_overwrite_18 (lv_at hl 5 rfl) ?_
        refine va_iast hx hb hK hP hD hS 3 0 rfl rfl (ki_in (om_0 d0 LP1_h0) (om_1 d1 i_1)) dX4_overwrite_20 (fun H locs hP hD hS => ?_)
        obtain ⟨hP, hD⟩ := kx_re (w2 := [kx_4 m_ q_row q_t t_ h0 k0 w_ z_ slots old, kx_2 q_t q_row q_joined q_from q_to q_size q_lossOf q_lessBy q_value q_number nodes here, kx_0 q_row q_cell len, kx_a q_cell cyI 160 (upd gc i.toNatClampNeg p2), kx_a q_from cyI 319 ff, kx_a q_to cyI 319 ft, kx_a q_size cyI 319 fs, kx_a q_lossOf cyI 319 fo, kx_a q_lessBy cyI 319 fe, kx_a q_value cyI 1914 uv, kx_a q_number cyI 1914 un, kx_3 q_joined j_v j_n js jl je, kx_a j_v cyI 12 jv, kx_a j_n cyI 12 jn]) hP hD rfl
        obtain ⟨x_13, ex_13⟩ : ∃ y : Int32, y = i + 1 := ⟨_, rfl⟩
        have i_13 : x_13.toInt = i.toInt + 1 := ki_add ex_13 rfl rfl (om_2 d0 LP1_h0) (om_238 d1 LP1_h1)
        refine lv_iinc (v := x_13) (lv' := [(5, .int x_13), (0, .ref m_), (1, .ref q_t), (2, .int p0), (3, .int p1), (4, .int p2)]) hx hb dX4_overwrite_21 hl (k := 0) rfl (by rw [ex_13]; rfl) (by decide) rfl (fun ls hl => ?_)
        refine lv_goto (tgt := 3) hx hb dX4_overwrite_24 (by decide) ?_
        have n_14 := ki_nat x_13 rfl (om_89 d0 LP1_h0 i_13)
        exact ih1 x_13 (upd gc i.toNatClampNeg p2) (om_4 LP1_h0 i_13) (om_54 i_1 i_13) (by rw [LP1_h2]; exact mj_fill_step (by omega) (by omega)) (om_mu hn1 (om_5 i_13) (om_6 i_1)) _ _ hP hD hS ls (lv_sub hl [0, 1, 2, 3, 4, 5] rfl)
  exact LP1 ((p1.toInt - p0.toInt : Int).toNat + 1) p0 f om_7 (om_414 d2) (mj_fill_0 _ _ (Nat.le_refl _)).symm (Nat.lt_succ_self _) _ _ hP hD hS ls (lv_sub hl [0, 1, 2, 3, 4, 5] rfl)

set_option maxHeartbeats 4000000 in
set_option maxRecDepth 100000 in
theorem c_X4_set_x (l : Launch) (dC : Nat → ClassId) (dI : Nat → Nat → Nat) (m_ : Nat) (q_row : Nat) (q_t : Nat) (t_ : Nat) (h0 : Nat) (k0 : Nat) (w_ : Nat) (z_ : Nat) (slots : Int32) (old : Int32) (q_joined : Nat) (q_from : Nat) (q_to : Nat) (q_size : Nat) (q_lossOf : Nat) (q_lessBy : Nat) (q_value : Nat) (q_number : Nat) (nodes : Int32) (here : Int32) (q_cell : Nat) (cyI : ClassId) (len : Int32) (f : Nat → Int32) (ff : Nat → Int32) (ft : Nat → Int32) (fs : Nat → Int32) (fo : Nat → Int32) (uv : Nat → Int32) (un : Nat → Int32) (fe : Nat → Int32) (j_v : Nat) (j_n : Nat) (js : Int32) (jl : Int32) (je : Int32) (jv : Nat → Int32) (jn : Nat → Int32) (p0 : Int32) (p1 : Int32) (sz : Nat) (a0 : 0 ≤ len.toInt) (a1 : len.toInt ≤ 160) (s0 : sixes fs) (l0 : laidP old ff ft nodes len) (s1 : shorts f) : kx_MQ l (dC, dI) yX4_set wsX4_set ({ frames := 6, cells := 0, slots := 0, locals := 270 }) [.ref m_, .int p0, .int p1] [kx_4 m_ q_row q_t t_ h0 k0 w_ z_ slots old, kx_2 q_t q_row q_joined q_from q_to q_size q_lossOf q_lessBy q_value q_number nodes here, kx_0 q_row q_cell len, kx_a q_cell cyI 160 f, kx_a q_from cyI 319 ff, kx_a q_to cyI 319 ft, kx_a q_size cyI 319 fs, kx_a q_lossOf cyI 319 fo, kx_a q_lessBy cyI 319 fe, kx_a q_value cyI 1914 uv, kx_a q_number cyI 1914 un, kx_3 q_joined j_v j_n js jl je, kx_a j_v cyI 12 jv, kx_a j_n cyI 12 jn] [(cyI, .int)] sz (fun A => va_Qi (fun (r : Int32) (u : Int32 × Int32 × Int32 × (Nat → Int32) × (Nat → Int32) × (Nat → Int32) × (Nat → Int32) × (Nat → Int32) × (Nat → Int32) × (Nat → Int32) × Int32 × Int32 × Int32 × (Nat → Int32) × (Nat → Int32) × (Nat → Int32)) => (((0 ≤ p0.toInt ∧ p0.toInt < len.toInt ∧ -32768 ≤ p1.toInt ∧ p1.toInt ≤ 32767) ∧ u.2.2.2.2.2.2.2.2.2.2.2.2.2.2.2 = upd f p0.toNatClampNeg p1) ∨ ((p0.toInt < 0 ∨ len.toInt ≤ p0.toInt ∨ p1.toInt < -32768 ∨ 32767 < p1.toInt) ∧ u.2.2.2.2.2.2.2.2.2.2.2.2.2.2.2 = f ∧ r = -1)) ∧ shorts u.2.2.2.2.2.2.2.2.2.2.2.2.2.2.2 ∧ laidP u.1 u.2.2.2.1 u.2.2.2.2.1 u.2.1 len ∧ sixes u.2.2.2.2.2.1) (fun (u : Int32 × Int32 × Int32 × (Nat → Int32) × (Nat → Int32) × (Nat → Int32) × (Nat → Int32) × (Nat → Int32) × (Nat → Int32) × (Nat → Int32) × Int32 × Int32 × Int32 × (Nat → Int32) × (Nat → Int32) × (Nat → Int32)) (t : State) => va_P (dC, dI) vwCl [kx_4 m_ q_row q_t t_ h0 k0 w_ z_ slots u.1, kx_2 q_t q_row q_joined q_from q_to q_size q_lossOf q_lessBy q_value q_number u.2.1 u.2.2.1, kx_0 q_row q_cell len, kx_a q_cell cyI 160 u.2.2.2.2.2.2.2.2.2.2.2.2.2.2.2, kx_a q_from cyI 319 u.2.2.2.1, kx_a q_to cyI 319 u.2.2.2.2.1, kx_a q_size cyI 319 u.2.2.2.2.2.1, kx_a q_lossOf cyI 319 u.2.2.2.2.2.2.1, kx_a q_lessBy cyI 319 u.2.2.2.2.2.2.2.1, kx_a q_value cyI 1914 u.2.2.2.2.2.2.2.2.1, kx_a q_number cyI 1914 u.2.2.2.2.2.2.2.2.2.1, kx_3 q_joined j_v j_n u.2.2.2.2.2.2.2.2.2.2.1 u.2.2.2.2.2.2.2.2.2.2.2.1 u.2.2.2.2.2.2.2.2.2.2.2.2.1, kx_a j_v cyI 12 u.2.2.2.2.2.2.2.2.2.2.2.2.2.1, kx_a j_n cyI 12 u.2.2.2.2.2.2.2.2.2.2.2.2.2.2.1] t.heap ∧ va_K (dC, dI) vwCl [(cyI, .int)] t ∧ va_D A [kx_4 m_ q_row q_t t_ h0 k0 w_ z_ slots u.1, kx_2 q_t q_row q_joined q_from q_to q_size q_lossOf q_lessBy q_value q_number u.2.1 u.2.2.1, kx_0 q_row q_cell len, kx_a q_cell cyI 160 u.2.2.2.2.2.2.2.2.2.2.2.2.2.2.2, kx_a q_from cyI 319 u.2.2.2.1, kx_a q_to cyI 319 u.2.2.2.2.1, kx_a q_size cyI 319 u.2.2.2.2.2.1, kx_a q_lossOf cyI 319 u.2.2.2.2.2.2.1, kx_a q_lessBy cyI 319 u.2.2.2.2.2.2.2.1, kx_a q_value cyI 1914 u.2.2.2.2.2.2.2.2.1, kx_a q_number cyI 1914 u.2.2.2.2.2.2.2.2.2.1, kx_3 q_joined j_v j_n u.2.2.2.2.2.2.2.2.2.2.1 u.2.2.2.2.2.2.2.2.2.2.2.1 u.2.2.2.2.2.2.2.2.2.2.2.2.1, kx_a j_v cyI 12 u.2.2.2.2.2.2.2.2.2.2.2.2.2.1, kx_a j_n cyI 12 u.2.2.2.2.2.2.2.2.2.2.2.2.2.2.1]) A) := by
  refine kx_stQ (ws := wsX4_set) (cc := cX4_set) (maxL := 3) (ret := (some .int)) (by decide) rfl (Nat.le_of_ble_eq_true rfl) ?_
  intro p e s m below meth c A ls hx hb hr hlocks hts hown hml hA hS hP hK hD hl
  have hown : s.vm.findClass RX4 = some m.cls := hown
  have hl : lv_has ls 3 [(0, .ref m_), (1, .int p0), (2, .int p1)] := hl
  have hf_12 := hts (.fieldLink RX4 12 "MajorityIndex" "row" "LMajorityIndex$Row;") (List.mem_of_getElem? (i := 1) rfl)
  have hi_4 : ∀ w ∈ u_ws RX4 TX4 9, w ∈ wsX4_set := fun w h => List.mem_cons_of_mem _ (List.mem_append_left _ (List.mem_append_left _ (List.mem_append_left _ (List.mem_append_right _ h))))
  refine lv_aload_n hx hb dX4_set_0 rfl (lv_at hl 0 rfl) ?_
  refine va_get (D := (dC, dI)) (ci := 4) (v := .ref q_row) (C := RX4) (T := TX4) (N := 9) hx hb hts hi_4 hown hK hP 0 rfl rfl 0 (by decide) hf_12 (fun _ h9 => h9) rfl dX4_set_1 ?_
  refine lv_iload_n hx hb dX4_set_4 rfl (lv_at hl 1 rfl) ?_
  have hPc := hP.sub (ws' := [kx_0 q_row q_cell len]) [2] rfl
  have hKc := hK.sub (tys' := []) [] rfl
  refine vp_callSi (W.runV (As := [.int p0]) (rest := []) ⟨hx, hb, hml, hown, hts⟩ (c_X0_hasPlace l dC dI q_row q_cell len p0) (cwV 1 hts gX4_set_X0_hasPlace rfl rfl rfl (by decide +kernel) ⟨Nat.le_of_ble_eq_true rfl, Nat.le_of_ble_eq_true rfl⟩) ⟨fun a U g mk q => by obtain ⟨q0, qP, qK⟩ := q; exact ⟨q0, qP, va_K.moved (u := U) (U := U.calling g mk a) (Vm.Alike.refl U.vm) qK⟩, kx_rc0 hKc hPc (q0 := 0) rfl, fun U hU hW => ⟨rfl, by rw [hU]; exact hPc, va_K.moved hW.alike hKc⟩⟩ rfl rfl hl.1 rfl (lv_room (Nat.le_of_ble_eq_true rfl)) dX4_set_5 ⟨Nat.le_of_ble_eq_true rfl, Nat.le_of_ble_eq_true rfl⟩) (fun r_1 w_1 => ?_)
  rcases w_1 with ⟨rfl, w_1⟩ | ⟨rfl, w_1⟩
  · have w_1 : (0 ≤ p0.toInt ∧ p0.toInt < len.toInt) := w_1
    refine lv_if_eq (tgt := 18) hx hb dX4_set_8 (by decide) (fun c_2 => ?_) (fun c_2 => ?_)
    · exact absurd c_2 (by decide)
    · refine lv_iload_n hx hb dX4_set_11 rfl (lv_at hl 2 rfl) ?_
      have hPc := hP.sub (ws' := []) [] rfl
      have hKc := hK.sub (tys' := []) [] rfl
      refine vp_callSi (W.runS (As := [.int p1]) (rest := []) ⟨hx, hb, hml, hown, hts⟩ (c_X4_isValue l dC dI p1) (va_cwS 1 hts gX4_set_X4_isValue rfl rfl rfl (by decide +kernel) ⟨Nat.le_of_ble_eq_true rfl, Nat.le_of_ble_eq_true rfl⟩) ⟨fun a U g mk q => by obtain ⟨q0, qP, qK⟩ := q; exact ⟨q0, qP, va_K.moved (u := U) (U := U.calling g mk a) (Vm.Alike.refl U.vm) qK⟩, fun U hU hW => ⟨rfl, by rw [hU]; exact hPc, va_K.moved hW.alike hKc⟩⟩ rfl rfl hl.1 rfl (lv_room (Nat.le_of_ble_eq_true rfl)) dX4_set_12 ⟨Nat.le_of_ble_eq_true rfl, Nat.le_of_ble_eq_true rfl⟩) (fun r_3 w_3 => ?_)
      rcases w_3 with ⟨rfl, w_3⟩ | ⟨rfl, w_3⟩
      · have w_3 : (-32768 ≤ p1.toInt ∧ p1.toInt ≤ 32767) := w_3
        refine lv_if_ne (tgt := 20) hx hb dX4_set_15 (by decide) (fun c_4 => ?_) (fun c_4 => ?_)
        · refine lv_aload_n hx hb dX4_set_20 rfl (lv_at hl 0 rfl) ?_
          refine lv_aload_n hx hb dX4_set_21 rfl (lv_at hl 0 rfl) ?_
          have hPc := hP
          have hKc := hK
          have hDc := hD
          have hFc := kx_free hD hS hA
          refine va_callr (va_runV (As := []) (rest := [.ref m_]) ⟨hx, hb, hml, hown, hts⟩ (kx_un (c_X4_laidTree l dC dI m_ q_row q_t t_ h0 k0 w_ z_ slots old q_joined q_from q_to q_size q_lossOf q_lessBy q_value q_number nodes here q_cell cyI len f ff ft fs fo uv un fe j_v j_n js jl je jv jn s.heap.size a0 a1 s0 l0)) (cwV 0 hts gX4_set_X4_laidTree rfl rfl rfl (by decide +kernel) ⟨Nat.le_of_ble_eq_true rfl, Nat.le_of_ble_eq_true rfl⟩) ⟨fun a U g mk q => by obtain ⟨q0, q1, qP, qK, qD⟩ := q; exact ⟨q0, q1, qP, va_K.moved (u := U) (U := U.calling g mk a) (Vm.Alike.refl U.vm) qK, qD⟩, kx_rc4 hKc hPc (q0 := 0) rfl, fun U hU hW => ⟨rfl, by rw [hU], by rw [hU]; exact hPc, va_K.moved hW.alike hKc, hDc.weaken (fun _ _ _ _ => trivial)⟩⟩ rfl rfl hl.1 rfl (lv_room (Nat.le_of_ble_eq_true rfl)) dX4_set_22 ⟨Nat.le_of_ble_eq_true rfl, Nat.le_of_ble_eq_true rfl⟩) hS (fun q _ h => hFc q h) hFc (fun u ra t H1 locs ht hvm w_5 hB hz1 hk1 hS => ?_)
          obtain ⟨o_6, o_7, o_8, o_9, o_10, o_11, o_12, o_13, o_14, o_15, o_16, o_17, o_18, o_19, o_20⟩ := u
          dsimp only at w_5 hB
          obtain ⟨er, hP1, hK1, hD1⟩ := hB
          rw [ht] at hP1
          have hK1 := va_K.moved hvm.symm hK1
          have hD := hD1.weaken (fun _ q _ h => hFc q.1 h)
          have hP := hP1
          clear hP1 hD1 hK1 hk1 hz1 hFc hDc hPc hKc
          generalize H1 = H at hP hS ⊢
          have w_5 : o_6.toInt = 0 ∧ 0 ≤ o_7.toInt ∧ o_7.toInt ≤ 319 ∧ sixes o_11 ∧ treeOk o_9 o_10 o_7.toInt len.toInt := w_5
          rw [er]
          refine lv_iload_n hx hb dX4_set_25 rfl (lv_at hl 1 rfl) ?_
          refine lv_iload_n hx hb dX4_set_26 rfl (lv_at hl 1 rfl) ?_
          refine lv_iconst (v := 1) hx hb dX4_set_27 (by decide) ?_
          refine lv_iadd hx hb dX4_set_28 ?_
          refine lv_topi (fun y_21 ey_21 => ?_)
          have i_21 : y_21.toInt = p0.toInt + 1 := ki_add ey_21 rfl rfl (om_13 w_1.1) (om_3 a1 w_1.2)
          refine lv_iload_n hx hb dX4_set_29 rfl (lv_at hl 2 rfl) ?_
          have hPc := hP
          have hKc := hK
          have hDc := hD
          have hFc := kx_free hD hS hA
          refine va_calli (va_runV (As := [.ref q_t, .int p0, .int y_21, .int p1]) (rest := []) ⟨hx, hb, hml, hown, hts⟩ (kx_un (c_X4_overwrite_x l dC dI m_ q_row q_t t_ h0 k0 w_ z_ slots o_6 q_joined q_from q_to q_size q_lossOf q_lessBy q_value q_number o_7 o_8 q_cell cyI len f o_9 o_10 o_11 o_12 o_14 o_15 o_13 j_v j_n o_16 o_17 o_18 o_19 o_20 p0 y_21 p1 H.size w_5.2.1 w_5.2.2.1 a1 w_5.2.2.2.1 w_5.2.2.2.2 (om_10 w_1.1) (om_188 a1 w_1.2 i_21) (om_301 i_21))) (cwV 4 hts gX4_set_X4_overwrite rfl rfl rfl (by decide +kernel) ⟨Nat.le_of_ble_eq_true rfl, Nat.le_of_ble_eq_true rfl⟩) ⟨fun a U g mk q => by obtain ⟨q0, q1, qP, qK, qD⟩ := q; exact ⟨q0, q1, qP, va_K.moved (u := U) (U := U.calling g mk a) (Vm.Alike.refl U.vm) qK, qD⟩, kx_rc4 hKc hPc (q0 := 0) rfl, fun U hU hW => ⟨rfl, by rw [hU], by rw [hU]; exact hPc, va_K.moved hW.alike hKc, hDc.weaken (fun _ _ _ _ => trivial)⟩⟩ rfl rfl hl.1 rfl (lv_room (Nat.le_of_ble_eq_true rfl)) dX4_set_30 ⟨Nat.le_of_ble_eq_true rfl, Nat.le_of_ble_eq_true rfl⟩) hS (fun q _ h => hFc q h) hFc (fun r_22 u t H1 locs ht hvm w_22 hB hz1 hk1 hS => ?_)
          obtain ⟨o_23, o_24, o_25, o_26, o_27, o_28, o_29, o_30, o_31, o_32, o_33⟩ := u
          dsimp only at w_22 hB
          obtain ⟨hP1, hK1, hD1⟩ := hB
          rw [ht] at hP1
          have hK1 := va_K.moved hvm.symm hK1
          have hD := hD1.weaken (fun _ q _ h => hFc q.1 h)
          have hP := hP1
          clear hP1 hD1 hK1 hk1 hz1 hFc hDc hPc hKc
          generalize H1 = H at hP hS ⊢
          have w_22 : o_23 = mj_fill f p0.toNatClampNeg y_21.toNatClampNeg p1 ∧ sixes o_24 := w_22
          have hP9 := hP
          have hD9 := hD
          have hK9 := hK
          have n_34 := ki_nat y_21 rfl (om_34 w_1.1 i_21)
          have n_p0 := ki_nat p0 rfl (om_10 w_1.1)
          have e_f : o_23 = upd f p0.toNatClampNeg p1 := w_22.1.trans (mj_fill_one f p1 (by omega))
          exact W.iret (v := r_22) hx hb hr (hlocks := hlocks) (fun t ht hW => ⟨⟨r_22, (o_6, o_7, o_8, o_9, o_10, o_24, o_25, o_26, o_27, o_28, o_29, o_30, o_31, o_32, o_33, o_23), rfl, ⟨Or.inl ⟨by omega, e_f⟩, (by (try dsimp only); rw [e_f]; exact shorts_upd s1 (by omega) (by omega)), (fun _ => ⟨(by (try dsimp only); omega), (by (try dsimp only); omega), w_5.2.2.2.2⟩), w_22.2⟩, by rw [ht]; exact hP9, va_K.moved hW.alike hK9, hD9⟩, hS.F ht⟩) hS.2.2 dX4_set_33
        · exact absurd c_4 (by decide)
      · have w_3 : (p1.toInt < -32768 ∨ 32767 < p1.toInt) := w_3
        refine lv_if_ne (tgt := 20) hx hb dX4_set_15 (by decide) (fun c_35 => ?_) (fun c_35 => ?_)
        · exact absurd c_35 (by decide)
        · refine lv_iconst (v := (-1)) hx hb dX4_set_18 (by decide) ?_
          have hP9 := hP
          have hD9 := hD
          have hK9 := hK
          exact W.iret (v := (-1)) hx hb hr (hlocks := hlocks) (fun t ht hW => ⟨⟨(-1), (old, nodes, here, ff, ft, fs, fo, fe, uv, un, js, jl, je, jv, jn, f), rfl, ⟨Or.inr ⟨by omega, rfl, rfl⟩, s1, l0, s0⟩, by rw [ht]; exact hP9, va_K.moved hW.alike hK9, hD9⟩, hS.F ht⟩) hS.2.2 dX4_set_19
  · have w_1 : (p0.toInt < 0 ∨ len.toInt ≤ p0.toInt) := w_1
    refine lv_if_eq (tgt := 18) hx hb dX4_set_8 (by decide) (fun c_36 => ?_) (fun c_36 => ?_)
    · refine lv_iconst (v := (-1)) hx hb dX4_set_18 (by decide) ?_
      have hP9 := hP
      have hD9 := hD
      have hK9 := hK
      exact W.iret (v := (-1)) hx hb hr (hlocks := hlocks) (fun t ht hW => ⟨⟨(-1), (old, nodes, here, ff, ft, fs, fo, fe, uv, un, js, jl, je, jv, jn, f), rfl, ⟨Or.inr ⟨by omega, rfl, rfl⟩, s1, l0, s0⟩, by rw [ht]; exact hP9, va_K.moved hW.alike hK9, hD9⟩, hS.F ht⟩) hS.2.2 dX4_set_19
    · exact absurd c_36 (by decide)

set_option maxHeartbeats 4000000 in
set_option maxRecDepth 100000 in
theorem c_X4_fill_x (l : Launch) (dC : Nat → ClassId) (dI : Nat → Nat → Nat) (m_ : Nat) (q_row : Nat) (q_t : Nat) (t_ : Nat) (h0 : Nat) (k0 : Nat) (w_ : Nat) (z_ : Nat) (slots : Int32) (old : Int32) (q_joined : Nat) (q_from : Nat) (q_to : Nat) (q_size : Nat) (q_lossOf : Nat) (q_lessBy : Nat) (q_value : Nat) (q_number : Nat) (nodes : Int32) (here : Int32) (q_cell : Nat) (cyI : ClassId) (len : Int32) (f : Nat → Int32) (ff : Nat → Int32) (ft : Nat → Int32) (fs : Nat → Int32) (fo : Nat → Int32) (uv : Nat → Int32) (un : Nat → Int32) (fe : Nat → Int32) (j_v : Nat) (j_n : Nat) (js : Int32) (jl : Int32) (je : Int32) (jv : Nat → Int32) (jn : Nat → Int32) (p0 : Int32) (p1 : Int32) (p2 : Int32) (sz : Nat) (a0 : 0 ≤ len.toInt) (a1 : len.toInt ≤ 160) (s0 : sixes fs) (l0 : laidP old ff ft nodes len) (s1 : shorts f) : kx_MQ l (dC, dI) yX4_fill wsX4_fill ({ frames := 6, cells := 0, slots := 0, locals := 270 }) [.ref m_, .int p0, .int p1, .int p2] [kx_4 m_ q_row q_t t_ h0 k0 w_ z_ slots old, kx_2 q_t q_row q_joined q_from q_to q_size q_lossOf q_lessBy q_value q_number nodes here, kx_0 q_row q_cell len, kx_a q_cell cyI 160 f, kx_a q_from cyI 319 ff, kx_a q_to cyI 319 ft, kx_a q_size cyI 319 fs, kx_a q_lossOf cyI 319 fo, kx_a q_lessBy cyI 319 fe, kx_a q_value cyI 1914 uv, kx_a q_number cyI 1914 un, kx_3 q_joined j_v j_n js jl je, kx_a j_v cyI 12 jv, kx_a j_n cyI 12 jn] [(cyI, .int)] sz (fun A => va_Qi (fun (r : Int32) (u : Int32 × Int32 × Int32 × (Nat → Int32) × (Nat → Int32) × (Nat → Int32) × (Nat → Int32) × (Nat → Int32) × (Nat → Int32) × (Nat → Int32) × Int32 × Int32 × Int32 × (Nat → Int32) × (Nat → Int32) × (Nat → Int32)) => (((0 ≤ p0.toInt ∧ p0.toInt < p1.toInt ∧ p1.toInt ≤ len.toInt ∧ -32768 ≤ p2.toInt ∧ p2.toInt ≤ 32767) ∧ u.2.2.2.2.2.2.2.2.2.2.2.2.2.2.2 = mj_fill f p0.toNatClampNeg p1.toNatClampNeg p2) ∨ ((p0.toInt < 0 ∨ p1.toInt ≤ p0.toInt ∨ len.toInt < p1.toInt ∨ p2.toInt < -32768 ∨ 32767 < p2.toInt) ∧ u.2.2.2.2.2.2.2.2.2.2.2.2.2.2.2 = f ∧ r = -1)) ∧ shorts u.2.2.2.2.2.2.2.2.2.2.2.2.2.2.2 ∧ laidP u.1 u.2.2.2.1 u.2.2.2.2.1 u.2.1 len ∧ sixes u.2.2.2.2.2.1) (fun (u : Int32 × Int32 × Int32 × (Nat → Int32) × (Nat → Int32) × (Nat → Int32) × (Nat → Int32) × (Nat → Int32) × (Nat → Int32) × (Nat → Int32) × Int32 × Int32 × Int32 × (Nat → Int32) × (Nat → Int32) × (Nat → Int32)) (t : State) => va_P (dC, dI) vwCl [kx_4 m_ q_row q_t t_ h0 k0 w_ z_ slots u.1, kx_2 q_t q_row q_joined q_from q_to q_size q_lossOf q_lessBy q_value q_number u.2.1 u.2.2.1, kx_0 q_row q_cell len, kx_a q_cell cyI 160 u.2.2.2.2.2.2.2.2.2.2.2.2.2.2.2, kx_a q_from cyI 319 u.2.2.2.1, kx_a q_to cyI 319 u.2.2.2.2.1, kx_a q_size cyI 319 u.2.2.2.2.2.1, kx_a q_lossOf cyI 319 u.2.2.2.2.2.2.1, kx_a q_lessBy cyI 319 u.2.2.2.2.2.2.2.1, kx_a q_value cyI 1914 u.2.2.2.2.2.2.2.2.1, kx_a q_number cyI 1914 u.2.2.2.2.2.2.2.2.2.1, kx_3 q_joined j_v j_n u.2.2.2.2.2.2.2.2.2.2.1 u.2.2.2.2.2.2.2.2.2.2.2.1 u.2.2.2.2.2.2.2.2.2.2.2.2.1, kx_a j_v cyI 12 u.2.2.2.2.2.2.2.2.2.2.2.2.2.1, kx_a j_n cyI 12 u.2.2.2.2.2.2.2.2.2.2.2.2.2.2.1] t.heap ∧ va_K (dC, dI) vwCl [(cyI, .int)] t ∧ va_D A [kx_4 m_ q_row q_t t_ h0 k0 w_ z_ slots u.1, kx_2 q_t q_row q_joined q_from q_to q_size q_lossOf q_lessBy q_value q_number u.2.1 u.2.2.1, kx_0 q_row q_cell len, kx_a q_cell cyI 160 u.2.2.2.2.2.2.2.2.2.2.2.2.2.2.2, kx_a q_from cyI 319 u.2.2.2.1, kx_a q_to cyI 319 u.2.2.2.2.1, kx_a q_size cyI 319 u.2.2.2.2.2.1, kx_a q_lossOf cyI 319 u.2.2.2.2.2.2.1, kx_a q_lessBy cyI 319 u.2.2.2.2.2.2.2.1, kx_a q_value cyI 1914 u.2.2.2.2.2.2.2.2.1, kx_a q_number cyI 1914 u.2.2.2.2.2.2.2.2.2.1, kx_3 q_joined j_v j_n u.2.2.2.2.2.2.2.2.2.2.1 u.2.2.2.2.2.2.2.2.2.2.2.1 u.2.2.2.2.2.2.2.2.2.2.2.2.1, kx_a j_v cyI 12 u.2.2.2.2.2.2.2.2.2.2.2.2.2.1, kx_a j_n cyI 12 u.2.2.2.2.2.2.2.2.2.2.2.2.2.2.1]) A) := by
  refine kx_stQ (ws := wsX4_fill) (cc := cX4_fill) (maxL := 4) (ret := (some .int)) (by decide) rfl (Nat.le_of_ble_eq_true rfl) ?_
  intro p e s m below meth c A ls hx hb hr hlocks hts hown hml hA hS hP hK hD hl
  have hown : s.vm.findClass RX4 = some m.cls := hown
  have hl : lv_has ls 4 [(0, .ref m_), (1, .int p0), (2, .int p1), (3, .int p2)] := hl
  have hf_12 := hts (.fieldLink RX4 12 "MajorityIndex" "row" "LMajorityIndex$Row;") (List.mem_of_getElem? (i := 1) rfl)
  have hi_4 : ∀ w ∈ u_ws RX4 TX4 9, w ∈ wsX4_fill := fun w h => List.mem_cons_of_mem _ (List.mem_append_left _ (List.mem_append_left _ (List.mem_append_left _ (List.mem_append_right _ h))))
  refine lv_aload_n hx hb dX4_fill_0 rfl (lv_at hl 0 rfl) ?_
  refine va_get (D := (dC, dI)) (ci := 4) (v := .ref q_row) (C := RX4) (T := TX4) (N := 9) hx hb hts hi_4 hown hK hP 0 rfl rfl 0 (by decide) hf_12 (fun _ h9 => h9) rfl dX4_fill_1 ?_
  refine lv_iload_n hx hb dX4_fill_4 rfl (lv_at hl 1 rfl) ?_
  refine lv_iload_n hx hb dX4_fill_5 rfl (lv_at hl 2 rfl) ?_
  have hPc := hP.sub (ws' := [kx_0 q_row q_cell len]) [2] rfl
  have hKc := hK.sub (tys' := []) [] rfl
  refine vp_callSi (W.runV (As := [.int p0, .int p1]) (rest := []) ⟨hx, hb, hml, hown, hts⟩ (c_X0_hasRange l dC dI q_row q_cell len p0 p1) (cwV 2 hts gX4_fill_X0_hasRange rfl rfl rfl (by decide +kernel) ⟨Nat.le_of_ble_eq_true rfl, Nat.le_of_ble_eq_true rfl⟩) ⟨fun a U g mk q => by obtain ⟨q0, qP, qK⟩ := q; exact ⟨q0, qP, va_K.moved (u := U) (U := U.calling g mk a) (Vm.Alike.refl U.vm) qK⟩, kx_rc0 hKc hPc (q0 := 0) rfl, fun U hU hW => ⟨rfl, by rw [hU]; exact hPc, va_K.moved hW.alike hKc⟩⟩ rfl rfl hl.1 rfl (lv_room (Nat.le_of_ble_eq_true rfl)) dX4_fill_6 ⟨Nat.le_of_ble_eq_true rfl, Nat.le_of_ble_eq_true rfl⟩) (fun r_1 w_1 => ?_)
  rcases w_1 with ⟨rfl, w_1⟩ | ⟨rfl, w_1⟩
  · have w_1 : (0 ≤ p0.toInt ∧ p0.toInt < p1.toInt ∧ p1.toInt ≤ len.toInt) := w_1
    refine lv_if_eq (tgt := 19) hx hb dX4_fill_9 (by decide) (fun c_2 => ?_) (fun c_2 => ?_)
    · exact absurd c_2 (by decide)
    · refine lv_iload_n hx hb dX4_fill_12 rfl (lv_at hl 3 rfl) ?_
      have hPc := hP.sub (ws' := []) [] rfl
      have hKc := hK.sub (tys' := []) [] rfl
      refine vp_callSi (W.runS (As := [.int p2]) (rest := []) ⟨hx, hb, hml, hown, hts⟩ (c_X4_isValue l dC dI p2) (va_cwS 1 hts gX4_fill_X4_isValue rfl rfl rfl (by decide +kernel) ⟨Nat.le_of_ble_eq_true rfl, Nat.le_of_ble_eq_true rfl⟩) ⟨fun a U g mk q => by obtain ⟨q0, qP, qK⟩ := q; exact ⟨q0, qP, va_K.moved (u := U) (U := U.calling g mk a) (Vm.Alike.refl U.vm) qK⟩, fun U hU hW => ⟨rfl, by rw [hU]; exact hPc, va_K.moved hW.alike hKc⟩⟩ rfl rfl hl.1 rfl (lv_room (Nat.le_of_ble_eq_true rfl)) dX4_fill_13 ⟨Nat.le_of_ble_eq_true rfl, Nat.le_of_ble_eq_true rfl⟩) (fun r_3 w_3 => ?_)
      rcases w_3 with ⟨rfl, w_3⟩ | ⟨rfl, w_3⟩
      · have w_3 : (-32768 ≤ p2.toInt ∧ p2.toInt ≤ 32767) := w_3
        refine lv_if_ne (tgt := 21) hx hb dX4_fill_16 (by decide) (fun c_4 => ?_) (fun c_4 => ?_)
        · refine lv_aload_n hx hb dX4_fill_21 rfl (lv_at hl 0 rfl) ?_
          refine lv_aload_n hx hb dX4_fill_22 rfl (lv_at hl 0 rfl) ?_
          have hPc := hP
          have hKc := hK
          have hDc := hD
          have hFc := kx_free hD hS hA
          refine va_callr (va_runV (As := []) (rest := [.ref m_]) ⟨hx, hb, hml, hown, hts⟩ (kx_un (c_X4_laidTree l dC dI m_ q_row q_t t_ h0 k0 w_ z_ slots old q_joined q_from q_to q_size q_lossOf q_lessBy q_value q_number nodes here q_cell cyI len f ff ft fs fo uv un fe j_v j_n js jl je jv jn s.heap.size a0 a1 s0 l0)) (cwV 0 hts gX4_fill_X4_laidTree rfl rfl rfl (by decide +kernel) ⟨Nat.le_of_ble_eq_true rfl, Nat.le_of_ble_eq_true rfl⟩) ⟨fun a U g mk q => by obtain ⟨q0, q1, qP, qK, qD⟩ := q; exact ⟨q0, q1, qP, va_K.moved (u := U) (U := U.calling g mk a) (Vm.Alike.refl U.vm) qK, qD⟩, kx_rc4 hKc hPc (q0 := 0) rfl, fun U hU hW => ⟨rfl, by rw [hU], by rw [hU]; exact hPc, va_K.moved hW.alike hKc, hDc.weaken (fun _ _ _ _ => trivial)⟩⟩ rfl rfl hl.1 rfl (lv_room (Nat.le_of_ble_eq_true rfl)) dX4_fill_23 ⟨Nat.le_of_ble_eq_true rfl, Nat.le_of_ble_eq_true rfl⟩) hS (fun q _ h => hFc q h) hFc (fun u ra t H1 locs ht hvm w_5 hB hz1 hk1 hS => ?_)
          obtain ⟨o_6, o_7, o_8, o_9, o_10, o_11, o_12, o_13, o_14, o_15, o_16, o_17, o_18, o_19, o_20⟩ := u
          dsimp only at w_5 hB
          obtain ⟨er, hP1, hK1, hD1⟩ := hB
          rw [ht] at hP1
          have hK1 := va_K.moved hvm.symm hK1
          have hD := hD1.weaken (fun _ q _ h => hFc q.1 h)
          have hP := hP1
          clear hP1 hD1 hK1 hk1 hz1 hFc hDc hPc hKc
          generalize H1 = H at hP hS ⊢
          have w_5 : o_6.toInt = 0 ∧ 0 ≤ o_7.toInt ∧ o_7.toInt ≤ 319 ∧ sixes o_11 ∧ treeOk o_9 o_10 o_7.toInt len.toInt := w_5
          rw [er]
          refine lv_iload_n hx hb dX4_fill_26 rfl (lv_at hl 1 rfl) ?_
          refine lv_iload_n hx hb dX4_fill_27 rfl (lv_at hl 2 rfl) ?_
          refine lv_iload_n hx hb dX4_fill_28 rfl (lv_at hl 3 rfl) ?_
          have hPc := hP
          have hKc := hK
          have hDc := hD
          have hFc := kx_free hD hS hA
          refine va_calli (va_runV (As := [.ref q_t, .int p0, .int p1, .int p2]) (rest := []) ⟨hx, hb, hml, hown, hts⟩ (kx_un (c_X4_overwrite_x l dC dI m_ q_row q_t t_ h0 k0 w_ z_ slots o_6 q_joined q_from q_to q_size q_lossOf q_lessBy q_value q_number o_7 o_8 q_cell cyI len f o_9 o_10 o_11 o_12 o_14 o_15 o_13 j_v j_n o_16 o_17 o_18 o_19 o_20 p0 p1 p2 H.size w_5.2.1 w_5.2.2.1 a1 w_5.2.2.2.1 w_5.2.2.2.2 (om_10 w_1.1) (om_167 a1 w_1.2.2) (om_11 w_1.2.1))) (cwV 4 hts gX4_fill_X4_overwrite rfl rfl rfl (by decide +kernel) ⟨Nat.le_of_ble_eq_true rfl, Nat.le_of_ble_eq_true rfl⟩) ⟨fun a U g mk q => by obtain ⟨q0, q1, qP, qK, qD⟩ := q; exact ⟨q0, q1, qP, va_K.moved (u := U) (U := U.calling g mk a) (Vm.Alike.refl U.vm) qK, qD⟩, kx_rc4 hKc hPc (q0 := 0) rfl, fun U hU hW => ⟨rfl, by rw [hU], by rw [hU]; exact hPc, va_K.moved hW.alike hKc, hDc.weaken (fun _ _ _ _ => trivial)⟩⟩ rfl rfl hl.1 rfl (lv_room (Nat.le_of_ble_eq_true rfl)) dX4_fill_29 ⟨Nat.le_of_ble_eq_true rfl, Nat.le_of_ble_eq_true rfl⟩) hS (fun q _ h => hFc q h) hFc (fun r_21 u t H1 locs ht hvm w_21 hB hz1 hk1 hS => ?_)
          obtain ⟨o_22, o_23, o_24, o_25, o_26, o_27, o_28, o_29, o_30, o_31, o_32⟩ := u
          dsimp only at w_21 hB
          obtain ⟨hP1, hK1, hD1⟩ := hB
          rw [ht] at hP1
          have hK1 := va_K.moved hvm.symm hK1
          have hD := hD1.weaken (fun _ q _ h => hFc q.1 h)
          have hP := hP1
          clear hP1 hD1 hK1 hk1 hz1 hFc hDc hPc hKc
          generalize H1 = H at hP hS ⊢
          have w_21 : o_22 = mj_fill f p0.toNatClampNeg p1.toNatClampNeg p2 ∧ sixes o_23 := w_21
          have hP9 := hP
          have hD9 := hD
          have hK9 := hK
          have e_f : o_22 = mj_fill f p0.toNatClampNeg p1.toNatClampNeg p2 := w_21.1
          exact W.iret (v := r_21) hx hb hr (hlocks := hlocks) (fun t ht hW => ⟨⟨r_21, (o_6, o_7, o_8, o_9, o_10, o_23, o_24, o_25, o_26, o_27, o_28, o_29, o_30, o_31, o_32, o_22), rfl, ⟨Or.inl ⟨by omega, e_f⟩, (by (try dsimp only); rw [e_f]; exact shorts_fill s1 (by omega) (by omega)), (fun _ => ⟨(by (try dsimp only); omega), (by (try dsimp only); omega), w_5.2.2.2.2⟩), w_21.2⟩, by rw [ht]; exact hP9, va_K.moved hW.alike hK9, hD9⟩, hS.F ht⟩) hS.2.2 dX4_fill_32
        · exact absurd c_4 (by decide)
      · have w_3 : (p2.toInt < -32768 ∨ 32767 < p2.toInt) := w_3
        refine lv_if_ne (tgt := 21) hx hb dX4_fill_16 (by decide) (fun c_33 => ?_) (fun c_33 => ?_)
        · exact absurd c_33 (by decide)
        · refine lv_iconst (v := (-1)) hx hb dX4_fill_19 (by decide) ?_
          have hP9 := hP
          have hD9 := hD
          have hK9 := hK
          exact W.iret (v := (-1)) hx hb hr (hlocks := hlocks) (fun t ht hW => ⟨⟨(-1), (old, nodes, here, ff, ft, fs, fo, fe, uv, un, js, jl, je, jv, jn, f), rfl, ⟨Or.inr ⟨by omega, rfl, rfl⟩, s1, l0, s0⟩, by rw [ht]; exact hP9, va_K.moved hW.alike hK9, hD9⟩, hS.F ht⟩) hS.2.2 dX4_fill_20
  · have w_1 : (p0.toInt < 0 ∨ p1.toInt ≤ p0.toInt ∨ len.toInt < p1.toInt) := w_1
    refine lv_if_eq (tgt := 19) hx hb dX4_fill_9 (by decide) (fun c_34 => ?_) (fun c_34 => ?_)
    · refine lv_iconst (v := (-1)) hx hb dX4_fill_19 (by decide) ?_
      have hP9 := hP
      have hD9 := hD
      have hK9 := hK
      exact W.iret (v := (-1)) hx hb hr (hlocks := hlocks) (fun t ht hW => ⟨⟨(-1), (old, nodes, here, ff, ft, fs, fo, fe, uv, un, js, jl, je, jv, jn, f), rfl, ⟨Or.inr ⟨by omega, rfl, rfl⟩, s1, l0, s0⟩, by rw [ht]; exact hP9, va_K.moved hW.alike hK9, hD9⟩, hS.F ht⟩) hS.2.2 dX4_fill_20
    · exact absurd c_34 (by decide)

set_option maxHeartbeats 4000000 in
set_option maxRecDepth 100000 in
theorem c_X4_turn_x (l : Launch) (dC : Nat → ClassId) (dI : Nat → Nat → Nat) (m_ : Nat) (q_row : Nat) (q_t : Nat) (t_ : Nat) (h0 : Nat) (k0 : Nat) (w_ : Nat) (z_ : Nat) (slots : Int32) (old : Int32) (q_joined : Nat) (q_from : Nat) (q_to : Nat) (q_size : Nat) (q_lossOf : Nat) (q_lessBy : Nat) (q_value : Nat) (q_number : Nat) (nodes : Int32) (here : Int32) (q_cell : Nat) (cyI : ClassId) (len : Int32) (f : Nat → Int32) (ff : Nat → Int32) (ft : Nat → Int32) (fs : Nat → Int32) (fo : Nat → Int32) (uv : Nat → Int32) (un : Nat → Int32) (fe : Nat → Int32) (j_v : Nat) (j_n : Nat) (js : Int32) (jl : Int32) (je : Int32) (jv : Nat → Int32) (jn : Nat → Int32) (p0 : Int32) (p1 : Int32) (sz : Nat) (a0 : 0 ≤ len.toInt) (a1 : len.toInt ≤ 160) (s0 : sixes fs) (l0 : laidP old ff ft nodes len) (s1 : shorts f) : kx_MQ l (dC, dI) yX4_turn wsX4_turn ({ frames := 6, cells := 0, slots := 0, locals := 270 }) [.ref m_, .int p0, .int p1] [kx_4 m_ q_row q_t t_ h0 k0 w_ z_ slots old, kx_2 q_t q_row q_joined q_from q_to q_size q_lossOf q_lessBy q_value q_number nodes here, kx_0 q_row q_cell len, kx_a q_cell cyI 160 f, kx_a q_from cyI 319 ff, kx_a q_to cyI 319 ft, kx_a q_size cyI 319 fs, kx_a q_lossOf cyI 319 fo, kx_a q_lessBy cyI 319 fe, kx_a q_value cyI 1914 uv, kx_a q_number cyI 1914 un, kx_3 q_joined j_v j_n js jl je, kx_a j_v cyI 12 jv, kx_a j_n cyI 12 jn] [(cyI, .int)] sz (fun A => va_Qi (fun (r : Int32) (u : Int32 × Int32 × Int32 × (Nat → Int32) × (Nat → Int32) × (Nat → Int32) × (Nat → Int32) × (Nat → Int32) × (Nat → Int32) × (Nat → Int32) × Int32 × Int32 × Int32 × (Nat → Int32) × (Nat → Int32) × (Nat → Int32)) => (((0 ≤ p0.toInt ∧ p0.toInt < p1.toInt ∧ p1.toInt ≤ len.toInt) ∧ u.2.2.2.2.2.2.2.2.2.2.2.2.2.2.2 = mj_turn f p0.toNatClampNeg p1.toNatClampNeg) ∨ ((p0.toInt < 0 ∨ p1.toInt ≤ p0.toInt ∨ len.toInt < p1.toInt) ∧ u.2.2.2.2.2.2.2.2.2.2.2.2.2.2.2 = f ∧ r = -1)) ∧ shorts u.2.2.2.2.2.2.2.2.2.2.2.2.2.2.2 ∧ laidP u.1 u.2.2.2.1 u.2.2.2.2.1 u.2.1 len ∧ sixes u.2.2.2.2.2.1) (fun (u : Int32 × Int32 × Int32 × (Nat → Int32) × (Nat → Int32) × (Nat → Int32) × (Nat → Int32) × (Nat → Int32) × (Nat → Int32) × (Nat → Int32) × Int32 × Int32 × Int32 × (Nat → Int32) × (Nat → Int32) × (Nat → Int32)) (t : State) => va_P (dC, dI) vwCl [kx_4 m_ q_row q_t t_ h0 k0 w_ z_ slots u.1, kx_2 q_t q_row q_joined q_from q_to q_size q_lossOf q_lessBy q_value q_number u.2.1 u.2.2.1, kx_0 q_row q_cell len, kx_a q_cell cyI 160 u.2.2.2.2.2.2.2.2.2.2.2.2.2.2.2, kx_a q_from cyI 319 u.2.2.2.1, kx_a q_to cyI 319 u.2.2.2.2.1, kx_a q_size cyI 319 u.2.2.2.2.2.1, kx_a q_lossOf cyI 319 u.2.2.2.2.2.2.1, kx_a q_lessBy cyI 319 u.2.2.2.2.2.2.2.1, kx_a q_value cyI 1914 u.2.2.2.2.2.2.2.2.1, kx_a q_number cyI 1914 u.2.2.2.2.2.2.2.2.2.1, kx_3 q_joined j_v j_n u.2.2.2.2.2.2.2.2.2.2.1 u.2.2.2.2.2.2.2.2.2.2.2.1 u.2.2.2.2.2.2.2.2.2.2.2.2.1, kx_a j_v cyI 12 u.2.2.2.2.2.2.2.2.2.2.2.2.2.1, kx_a j_n cyI 12 u.2.2.2.2.2.2.2.2.2.2.2.2.2.2.1] t.heap ∧ va_K (dC, dI) vwCl [(cyI, .int)] t ∧ va_D A [kx_4 m_ q_row q_t t_ h0 k0 w_ z_ slots u.1, kx_2 q_t q_row q_joined q_from q_to q_size q_lossOf q_lessBy q_value q_number u.2.1 u.2.2.1, kx_0 q_row q_cell len, kx_a q_cell cyI 160 u.2.2.2.2.2.2.2.2.2.2.2.2.2.2.2, kx_a q_from cyI 319 u.2.2.2.1, kx_a q_to cyI 319 u.2.2.2.2.1, kx_a q_size cyI 319 u.2.2.2.2.2.1, kx_a q_lossOf cyI 319 u.2.2.2.2.2.2.1, kx_a q_lessBy cyI 319 u.2.2.2.2.2.2.2.1, kx_a q_value cyI 1914 u.2.2.2.2.2.2.2.2.1, kx_a q_number cyI 1914 u.2.2.2.2.2.2.2.2.2.1, kx_3 q_joined j_v j_n u.2.2.2.2.2.2.2.2.2.2.1 u.2.2.2.2.2.2.2.2.2.2.2.1 u.2.2.2.2.2.2.2.2.2.2.2.2.1, kx_a j_v cyI 12 u.2.2.2.2.2.2.2.2.2.2.2.2.2.1, kx_a j_n cyI 12 u.2.2.2.2.2.2.2.2.2.2.2.2.2.2.1]) A) := by
  refine kx_stQ (ws := wsX4_turn) (cc := cX4_turn) (maxL := 6) (ret := (some .int)) (by decide) rfl (Nat.le_of_ble_eq_true rfl) ?_
  intro p e s m below meth c A ls hx hb hr hlocks hts hown hml hA hS hP hK hD hl
  have hown : s.vm.findClass RX4 = some m.cls := hown
  have hl : lv_has ls 6 [(0, .ref m_), (1, .int p0), (2, .int p1)] := hl
  have hf_12 := hts (.fieldLink RX4 12 "MajorityIndex" "row" "LMajorityIndex$Row;") (List.mem_of_getElem? (i := 1) rfl)
  have hi_4 : ∀ w ∈ u_ws RX4 TX4 9, w ∈ wsX4_turn := fun w h => List.mem_cons_of_mem _ (List.mem_append_left _ (List.mem_append_left _ (List.mem_append_left _ (List.mem_append_right _ h))))
  refine lv_aload_n hx hb dX4_turn_0 rfl (lv_at hl 0 rfl) ?_
  refine va_get (D := (dC, dI)) (ci := 4) (v := .ref q_row) (C := RX4) (T := TX4) (N := 9) hx hb hts hi_4 hown hK hP 0 rfl rfl 0 (by decide) hf_12 (fun _ h9 => h9) rfl dX4_turn_1 ?_
  refine lv_iload_n hx hb dX4_turn_4 rfl (lv_at hl 1 rfl) ?_
  refine lv_iload_n hx hb dX4_turn_5 rfl (lv_at hl 2 rfl) ?_
  have hPc := hP.sub (ws' := [kx_0 q_row q_cell len]) [2] rfl
  have hKc := hK.sub (tys' := []) [] rfl
  refine vp_callSi (W.runV (As := [.int p0, .int p1]) (rest := []) ⟨hx, hb, hml, hown, hts⟩ (c_X0_hasRange l dC dI q_row q_cell len p0 p1) (cwV 2 hts gX4_turn_X0_hasRange rfl rfl rfl (by decide +kernel) ⟨Nat.le_of_ble_eq_true rfl, Nat.le_of_ble_eq_true rfl⟩) ⟨fun a U g mk q => by obtain ⟨q0, qP, qK⟩ := q; exact ⟨q0, qP, va_K.moved (u := U) (U := U.calling g mk a) (Vm.Alike.refl U.vm) qK⟩, kx_rc0 hKc hPc (q0 := 0) rfl, fun U hU hW => ⟨rfl, by rw [hU]; exact hPc, va_K.moved hW.alike hKc⟩⟩ rfl rfl hl.1 rfl (lv_room (Nat.le_of_ble_eq_true rfl)) dX4_turn_6 ⟨Nat.le_of_ble_eq_true rfl, Nat.le_of_ble_eq_true rfl⟩) (fun r_1 w_1 => ?_)
  rcases w_1 with ⟨rfl, w_1⟩ | ⟨rfl, w_1⟩
  · have w_1 : (0 ≤ p0.toInt ∧ p0.toInt < p1.toInt ∧ p1.toInt ≤ len.toInt) := w_1
    refine lv_if_ne (tgt := 14) hx hb dX4_turn_9 (by decide) (fun c_2 => ?_) (fun c_2 => ?_)
    · refine lv_aload_n hx hb dX4_turn_14 rfl (lv_at hl 0 rfl) ?_
      have hPc := hP
      have hKc := hK
      have hDc := hD
      have hFc := kx_free hD hS hA
      refine va_callr (va_runV (As := []) (rest := []) ⟨hx, hb, hml, hown, hts⟩ (kx_un (c_X4_laidTree l dC dI m_ q_row q_t t_ h0 k0 w_ z_ slots old q_joined q_from q_to q_size q_lossOf q_lessBy q_value q_number nodes here q_cell cyI len f ff ft fs fo uv un fe j_v j_n js jl je jv jn s.heap.size a0 a1 s0 l0)) (cwV 0 hts gX4_turn_X4_laidTree rfl rfl rfl (by decide +kernel) ⟨Nat.le_of_ble_eq_true rfl, Nat.le_of_ble_eq_true rfl⟩) ⟨fun a U g mk q => by obtain ⟨q0, q1, qP, qK, qD⟩ := q; exact ⟨q0, q1, qP, va_K.moved (u := U) (U := U.calling g mk a) (Vm.Alike.refl U.vm) qK, qD⟩, kx_rc4 hKc hPc (q0 := 0) rfl, fun U hU hW => ⟨rfl, by rw [hU], by rw [hU]; exact hPc, va_K.moved hW.alike hKc, hDc.weaken (fun _ _ _ _ => trivial)⟩⟩ rfl rfl hl.1 rfl (lv_room (Nat.le_of_ble_eq_true rfl)) dX4_turn_15 ⟨Nat.le_of_ble_eq_true rfl, Nat.le_of_ble_eq_true rfl⟩) hS (fun q _ h => hFc q h) hFc (fun u ra t H1 locs ht hvm w_3 hB hz1 hk1 hS => ?_)
      obtain ⟨o_4, o_5, o_6, o_7, o_8, o_9, o_10, o_11, o_12, o_13, o_14, o_15, o_16, o_17, o_18⟩ := u
      dsimp only at w_3 hB
      obtain ⟨er, hP1, hK1, hD1⟩ := hB
      rw [ht] at hP1
      have hK1 := va_K.moved hvm.symm hK1
      have hD := hD1.weaken (fun _ q _ h => hFc q.1 h)
      have hP := hP1
      clear hP1 hD1 hK1 hk1 hz1 hFc hDc hPc hKc
      generalize H1 = H at hP hS ⊢
      have w_3 : o_4.toInt = 0 ∧ 0 ≤ o_5.toInt ∧ o_5.toInt ≤ 319 ∧ sixes o_9 ∧ treeOk o_7 o_8 o_5.toInt len.toInt := w_3
      rw [er]
      refine lv_astore_n (lv' := [(3, .ref q_t), (0, .ref m_), (1, .int p0), (2, .int p1)]) hx hb dX4_turn_18 rfl hl (by decide) rfl (fun ls hl => ?_)
      refine lv_iload_n hx hb dX4_turn_19 rfl (lv_at hl 2 rfl) ?_
      refine lv_istore (lv' := [(4, .int p0), (3, .ref q_t), (0, .ref m_), (1, .int p0), (2, .int p1)]) hx hb dX4_turn_20 hl (by decide) rfl (fun ls hl => ?_)
      refine lv_iload_n hx hb dX4_turn_22 rfl (lv_at hl 4 rfl) ?_
      refine lv_iconst (v := 1) hx hb dX4_turn_23 (by decide) ?_
      refine lv_isub hx hb dX4_turn_24 ?_
      refine lv_topi (fun y_19 ey_19 => ?_)
      have i_19 : y_19.toInt = p1.toInt - 1 := ki_sub ey_19 rfl rfl (om_17 w_1.1 w_1.2.1) (om_183 a1 w_1.2.2)
      refine lv_istore (lv' := [(5, .int y_19), (4, .int p0), (3, .ref q_t), (0, .ref m_), (1, .int p0), (2, .int p1)]) hx hb dX4_turn_25 hl (by decide) rfl (fun ls hl => ?_)
      have LP1 : ∀ (n : Nat) (lf : Int32) (rg : Int32) (gc : Nat → Int32), (p0.toInt ≤ lf.toInt) → (lf.toInt + rg.toInt = p0.toInt + p1.toInt - 1) → (lf.toInt ≤ rg.toInt + 1) → (-1 ≤ rg.toInt) → (gc = mj_tu f p0.toNatClampNeg p1.toNatClampNeg (lf.toNatClampNeg - p0.toNatClampNeg)) → (rg.toInt - lf.toInt).toNat < n → ∀ (H : Heap) (locs : List Loc), va_P (dC, dI) vwCl [kx_4 m_ q_row q_t t_ h0 k0 w_ z_ slots o_4, kx_2 q_t q_row q_joined q_from q_to q_size q_lossOf q_lessBy q_value q_number o_5 o_6, kx_0 q_row q_cell len, kx_a q_cell cyI 160 gc, kx_a q_from cyI 319 o_7, kx_a q_to cyI 319 o_8, kx_a q_size cyI 319 o_9, kx_a q_lossOf cyI 319 o_10, kx_a q_lessBy cyI 319 o_11, kx_a q_value cyI 1914 o_12, kx_a q_number cyI 1914 o_13, kx_3 q_joined j_v j_n o_14 o_15 o_16, kx_a j_v cyI 12 o_17, kx_a j_n cyI 12 o_18] H → va_D A [kx_4 m_ q_row q_t t_ h0 k0 w_ z_ slots o_4, kx_2 q_t q_row q_joined q_from q_to q_size q_lossOf q_lessBy q_value q_number o_5 o_6, kx_0 q_row q_cell len, kx_a q_cell cyI 160 gc, kx_a q_from cyI 319 o_7, kx_a q_to cyI 319 o_8, kx_a q_size cyI 319 o_9, kx_a q_lossOf cyI 319 o_10, kx_a q_lessBy cyI 319 o_11, kx_a q_value cyI 1914 o_12, kx_a q_number cyI 1914 o_13, kx_3 q_joined j_v j_n o_14 o_15 o_16, kx_a j_v cyI 12 o_17, kx_a j_n cyI 12 o_18] → va_S A s.heap H locs → ∀ (ls : Array Slot), lv_has ls 6 [(5, .int rg), (4, .int lf), (3, .ref q_t), (0, .ref m_), (1, .int p0), (2, .int p1)] → W p l e (headSpec wsX4_turn ({ frames := 6, cells := 0, slots := 0, locals := 270 })).room s m ([.ref m_, .int p0, .int p1] : List Value).toArray below meth c H locs 0 0 (MQ below (va_Qi (fun (r : Int32) (u : Int32 × Int32 × Int32 × (Nat → Int32) × (Nat → Int32) × (Nat → Int32) × (Nat → Int32) × (Nat → Int32) × (Nat → Int32) × (Nat → Int32) × Int32 × Int32 × Int32 × (Nat → Int32) × (Nat → Int32) × (Nat → Int32)) => (((0 ≤ p0.toInt ∧ p0.toInt < p1.toInt ∧ p1.toInt ≤ len.toInt) ∧ u.2.2.2.2.2.2.2.2.2.2.2.2.2.2.2 = mj_turn f p0.toNatClampNeg p1.toNatClampNeg) ∨ ((p0.toInt < 0 ∨ p1.toInt ≤ p0.toInt ∨ len.toInt < p1.toInt) ∧ u.2.2.2.2.2.2.2.2.2.2.2.2.2.2.2 = f ∧ r = -1)) ∧ shorts u.2.2.2.2.2.2.2.2.2.2.2.2.2.2.2 ∧ laidP u.1 u.2.2.2.1 u.2.2.2.2.1 u.2.1 len ∧ sixes u.2.2.2.2.2.1) (fun (u : Int32 × Int32 × Int32 × (Nat → Int32) × (Nat → Int32) × (Nat → Int32) × (Nat → Int32) × (Nat → Int32) × (Nat → Int32) × (Nat → Int32) × Int32 × Int32 × Int32 × (Nat → Int32) × (Nat → Int32) × (Nat → Int32)) (t : State) => va_P (dC, dI) vwCl [kx_4 m_ q_row q_t t_ h0 k0 w_ z_ slots u.1, kx_2 q_t q_row q_joined q_from q_to q_size q_lossOf q_lessBy q_value q_number u.2.1 u.2.2.1, kx_0 q_row q_cell len, kx_a q_cell cyI 160 u.2.2.2.2.2.2.2.2.2.2.2.2.2.2.2, kx_a q_from cyI 319 u.2.2.2.1, kx_a q_to cyI 319 u.2.2.2.2.1, kx_a q_size cyI 319 u.2.2.2.2.2.1, kx_a q_lossOf cyI 319 u.2.2.2.2.2.2.1, kx_a q_lessBy cyI 319 u.2.2.2.2.2.2.2.1, kx_a q_value cyI 1914 u.2.2.2.2.2.2.2.2.1, kx_a q_number cyI 1914 u.2.2.2.2.2.2.2.2.2.1, kx_3 q_joined j_v j_n u.2.2.2.2.2.2.2.2.2.2.1 u.2.2.2.2.2.2.2.2.2.2.2.1 u.2.2.2.2.2.2.2.2.2.2.2.2.1, kx_a j_v cyI 12 u.2.2.2.2.2.2.2.2.2.2.2.2.2.1, kx_a j_n cyI 12 u.2.2.2.2.2.2.2.2.2.2.2.2.2.2.1] t.heap ∧ va_K (dC, dI) vwCl [(cyI, .int)] t ∧ va_D A [kx_4 m_ q_row q_t t_ h0 k0 w_ z_ slots u.1, kx_2 q_t q_row q_joined q_from q_to q_size q_lossOf q_lessBy q_value q_number u.2.1 u.2.2.1, kx_0 q_row q_cell len, kx_a q_cell cyI 160 u.2.2.2.2.2.2.2.2.2.2.2.2.2.2.2, kx_a q_from cyI 319 u.2.2.2.1, kx_a q_to cyI 319 u.2.2.2.2.1, kx_a q_size cyI 319 u.2.2.2.2.2.1, kx_a q_lossOf cyI 319 u.2.2.2.2.2.2.1, kx_a q_lessBy cyI 319 u.2.2.2.2.2.2.2.1, kx_a q_value cyI 1914 u.2.2.2.2.2.2.2.2.1, kx_a q_number cyI 1914 u.2.2.2.2.2.2.2.2.2.1, kx_3 q_joined j_v j_n u.2.2.2.2.2.2.2.2.2.2.1 u.2.2.2.2.2.2.2.2.2.2.2.1 u.2.2.2.2.2.2.2.2.2.2.2.2.1, kx_a j_v cyI 12 u.2.2.2.2.2.2.2.2.2.2.2.2.2.1, kx_a j_n cyI 12 u.2.2.2.2.2.2.2.2.2.2.2.2.2.2.1]) A) ([.ref m_, .int p0, .int p1] : List Value).toArray s 0 0 A) (F0 m 27 ls []) := by
        intro n
        induction n with
        | zero => intro lf rg gc LP1_h0 LP1_h1 LP1_h2 LP1_h3 LP1_h4 hn; exact absurd hn (Nat.not_lt_zero _)
        | succ n ih1 =>
          intro lf rg gc LP1_h0 LP1_h1 LP1_h2 LP1_h3 LP1_h4 hn1 H locs hP hD hS ls hl
          have n_lf := ki_nat lf rfl (om_0 w_1.1 LP1_h0)
          have n_p0 := ki_nat p0 rfl (om_10 w_1.1)
          have n_p1 := ki_nat p1 rfl (om_21 w_1.1 w_1.2.1)
          refine lv_iload hx hb dX4_turn_27 (lv_at hl 1 rfl) ?_
          refine lv_iload hx hb dX4_turn_29 (lv_at hl 0 rfl) ?_
          refine lv_icmp_ge (tgt := 54) hx hb dX4_turn_31 (by decide) (fun c_20 => ?_) (fun c_20 => ?_)
          · have i_20 : rg.toInt ≤ lf.toInt := kc_le c_20
            refine lv_aload_n hx hb dX4_turn_54 rfl (lv_at hl 2 rfl) ?_
            refine lv_iload_n hx hb dX4_turn_55 rfl (lv_at hl 4 rfl) ?_
            refine lv_iload_n hx hb dX4_turn_56 rfl (lv_at hl 5 rfl) ?_
            obtain ⟨hPc, hDc, hFc, hCc⟩ := kx_preM (wc := [kx_2 q_t q_row q_joined q_from q_to q_size q_lossOf q_lessBy q_value q_number o_5 o_6, kx_0 q_row q_cell len, kx_a q_cell cyI 160 gc, kx_a q_from cyI 319 o_7, kx_a q_to cyI 319 o_8, kx_a q_size cyI 319 o_9, kx_a q_lossOf cyI 319 o_10, kx_a q_lessBy cyI 319 o_11, kx_a q_value cyI 1914 o_12, kx_a q_number cyI 1914 o_13, kx_3 q_joined j_v j_n o_14 o_15 o_16, kx_a j_v cyI 12 o_17, kx_a j_n cyI 12 o_18]) hP hD hS hA [false, true, true, true, true, true, true, true, true, true, true, true, true, true] rfl
            have hKc := hK
            refine va_calli (va_runV (As := [.int p0, .int p1]) (rest := []) ⟨hx, hb, hml, hown, hts⟩ (kx_un (c_X2_renew l dC dI q_t q_row q_joined q_from q_to q_size q_lossOf q_lessBy q_value q_number o_5 o_6 q_cell cyI len gc o_7 o_8 o_9 o_10 o_12 o_13 o_11 j_v j_n o_14 o_15 o_16 o_17 o_18 p0 p1 H.size w_3.2.1 w_3.2.2.1 a1 w_3.2.2.2.1 w_3.2.2.2.2)) (cwV 2 hts gX4_turn_X2_renew rfl rfl rfl (by decide +kernel) ⟨Nat.le_of_ble_eq_true rfl, Nat.le_of_ble_eq_true rfl⟩) ⟨fun a U g mk q => by obtain ⟨q0, q1, qP, qK, qD⟩ := q; exact ⟨q0, q1, qP, va_K.moved (u := U) (U := U.calling g mk a) (Vm.Alike.refl U.vm) qK, qD⟩, kx_rc2 hKc hPc (q0 := 0) rfl, fun U hU hW => ⟨rfl, by rw [hU], by rw [hU]; exact hPc, va_K.moved hW.alike hKc, hDc.weaken (fun _ _ _ _ => trivial)⟩⟩ rfl rfl hl.1 rfl (lv_room (Nat.le_of_ble_eq_true rfl)) dX4_turn_57 ⟨Nat.le_of_ble_eq_true rfl, Nat.le_of_ble_eq_true rfl⟩) hS (fun q _ h => hFc q h) hFc (fun r_21 u t H1 locs ht hvm w_21 hB hz1 hk1 hS => ?_)
            obtain ⟨o_22, o_23, o_24, o_25, o_26, o_27, o_28, o_29, o_30, o_31⟩ := u
            dsimp only at w_21 hB
            obtain ⟨hP1, hK1, hD1⟩ := hB
            rw [ht] at hP1
            have hK1 := va_K.moved hvm.symm hK1
            obtain ⟨hP, hD⟩ := kx_joinM (w2 := [kx_4 m_ q_row q_t t_ h0 k0 w_ z_ slots o_4, kx_2 q_t q_row q_joined q_from q_to q_size q_lossOf q_lessBy q_value q_number o_5 o_6, kx_0 q_row q_cell len, kx_a q_cell cyI 160 gc, kx_a q_from cyI 319 o_7, kx_a q_to cyI 319 o_8, kx_a q_size cyI 319 o_22, kx_a q_lossOf cyI 319 o_23, kx_a q_lessBy cyI 319 o_24, kx_a q_value cyI 1914 o_25, kx_a q_number cyI 1914 o_26, kx_3 q_joined j_v j_n o_27 o_28 o_29, kx_a j_v cyI 12 o_30, kx_a j_n cyI 12 o_31]) hP hD hP1 hD1 hk1 hFc [false, true, true, true, true, true, true, true, true, true, true, true, true, true] hCc rfl
            clear hP1 hD1 hK1 hk1 hz1 hFc hDc hPc hKc hCc
            generalize H1 = H at hP hS ⊢
            have w_21 : sixes o_22 := w_21
            have hP9 := hP
            have hD9 := hD
            have hK9 := hK
            have e_f : gc = mj_turn f p0.toNatClampNeg p1.toNatClampNeg := by rw [LP1_h4]; exact mj_tu_end (by omega) (by omega) (by omega)
            exact W.iret (v := r_21) hx hb hr (hlocks := hlocks) (fun t ht hW => ⟨⟨r_21, (o_4, o_5, o_6, o_7, o_8, o_22, o_23, o_24, o_25, o_26, o_27, o_28, o_29, o_30, o_31, gc), rfl, ⟨Or.inl ⟨by omega, e_f⟩, (by (try dsimp only); rw [e_f]; exact shorts_turn s1 (by omega)), (fun _ => ⟨(by (try dsimp only); omega), (by (try dsimp only); omega), w_3.2.2.2.2⟩), w_21⟩, by rw [ht]; exact hP9, va_K.moved hW.alike hK9, hD9⟩, hS.F ht⟩) hS.2.2 dX4_turn_60
          · have i_20 : lf.toInt < rg.toInt := kc_nle c_20
            refine lv_aload_n hx hb dX4_turn_34 rfl (lv_at hl 3 rfl) ?_
            refine va_get (D := (dC, dI)) (ci := 4) (v := .ref q_row) (C := RX4) (T := TX4) (N := 9) hx hb hts hi_4 hown hK hP 0 rfl rfl 0 (by decide) hf_12 (fun _ h9 => h9) rfl dX4_turn_35 ?_
            refine lv_iload hx hb dX4_turn_38 (lv_at hl 1 rfl) ?_
            refine lv_iload hx hb dX4_turn_40 (lv_at hl 0 rfl) ?_
            obtain ⟨hPc, hDc, hFc, hCc⟩ := kx_preM (wc := [kx_0 q_row q_cell len, kx_a q_cell cyI 160 gc]) hP hD hS hA [false, false, true, true, false, false, false, false, false, false, false, false, false, false] rfl
            have hKc := hK
            refine va_callv (va_runV (As := [.int lf, .int rg]) (rest := []) ⟨hx, hb, hml, hown, hts⟩ (kx_un (c_X0_exchange l dC dI q_row q_cell cyI len gc lf rg H.size (om_0 w_1.1 LP1_h0) (om_465 a1 w_1.2.1 w_1.2.2 LP1_h1 i_20) (om_466 w_1.1 w_1.2.1 LP1_h1 LP1_h3 i_20) (om_467 a1 w_1.2.2 LP1_h0 LP1_h1))) (cwV 2 hts gX4_turn_X0_exchange rfl rfl rfl (by decide +kernel) ⟨Nat.le_of_ble_eq_true rfl, Nat.le_of_ble_eq_true rfl⟩) ⟨fun a U g mk q => by obtain ⟨q0, q1, qP, qK, qD⟩ := q; exact ⟨q0, q1, qP, va_K.moved (u := U) (U := U.calling g mk a) (Vm.Alike.refl U.vm) qK, qD⟩, kx_rc0 hKc hPc (q0 := 0) rfl, fun U hU hW => ⟨rfl, by rw [hU], by rw [hU]; exact hPc, va_K.moved hW.alike hKc, hDc.weaken (fun _ _ _ _ => trivial)⟩⟩ rfl rfl hl.1 rfl (lv_room (Nat.le_of_ble_eq_true rfl)) dX4_turn_42 ⟨Nat.le_of_ble_eq_true rfl, Nat.le_of_ble_eq_true rfl⟩) hS (fun q _ h => hFc q h) hFc (fun u t H1 locs ht hvm w_32 hB hz1 hk1 hS => ?_)
            obtain ⟨o_33, rfl⟩ : ∃ z, z = u := ⟨_, rfl⟩
            obtain ⟨hP1, hK1, hD1⟩ := hB
            rw [ht] at hP1
            have hK1 := va_K.moved hvm.symm hK1
            obtain ⟨hP, hD⟩ := kx_joinM (w2 := [kx_4 m_ q_row q_t t_ h0 k0 w_ z_ slots o_4, kx_2 q_t q_row q_joined q_from q_to q_size q_lossOf q_lessBy q_value q_number o_5 o_6, kx_0 q_row q_cell len, kx_a q_cell cyI 160 o_33, kx_a q_from cyI 319 o_7, kx_a q_to cyI 319 o_8, kx_a q_size cyI 319 o_9, kx_a q_lossOf cyI 319 o_10, kx_a q_lessBy cyI 319 o_11, kx_a q_value cyI 1914 o_12, kx_a q_number cyI 1914 o_13, kx_3 q_joined j_v j_n o_14 o_15 o_16, kx_a j_v cyI 12 o_17, kx_a j_n cyI 12 o_18]) hP hD hP1 hD1 hk1 hFc [false, false, true, true, false, false, false, false, false, false, false, false, false, false] hCc rfl
            clear hP1 hD1 hK1 hk1 hz1 hFc hDc hPc hKc hCc
            generalize H1 = H at hP hS ⊢
            have w_32 : o_33 = upd (upd gc lf.toNatClampNeg (gc rg.toNatClampNeg)) rg.toNatClampNeg (gc lf.toNatClampNeg) := w_32
            obtain ⟨x_34, ex_34⟩ : ∃ y : Int32, y = lf + 1 := ⟨_, rfl⟩
            have i_34 : x_34.toInt = lf.toInt + 1 := ki_add ex_34 rfl rfl (om_2 w_1.1 LP1_h0) (om_468 a1 w_1.2.1 w_1.2.2 LP1_h1 i_20)
            refine lv_iinc (v := x_34) (lv' := [(4, .int x_34), (5, .int rg), (3, .ref q_t), (0, .ref m_), (1, .int p0), (2, .int p1)]) hx hb dX4_turn_45 hl (k := 1) rfl (by rw [ex_34]; rfl) (by decide) rfl (fun ls hl => ?_)
            obtain ⟨x_35, ex_35⟩ : ∃ y : Int32, y = rg + (-1) := ⟨_, rfl⟩
            have i_35 : x_35.toInt = rg.toInt + (-1) := ki_add ex_35 rfl rfl (om_193 LP1_h3) (om_469 a1 w_1.2.2 LP1_h0 LP1_h1)
            refine lv_iinc (v := x_35) (lv' := [(5, .int x_35), (4, .int x_34), (3, .ref q_t), (0, .ref m_), (1, .int p0), (2, .int p1)]) hx hb dX4_turn_48 hl (k := 1) rfl (by rw [ex_35]; rfl) (by decide) rfl (fun ls hl => ?_)
            refine lv_goto (tgt := 27) hx hb dX4_turn_51 (by decide) ?_
            have n_36 := ki_nat x_34 rfl (om_89 w_1.1 LP1_h0 i_34)
            have n_rg := ki_nat rg rfl (om_466 w_1.1 w_1.2.1 LP1_h1 LP1_h3 i_20)
            exact ih1 x_34 x_35 o_33 (om_4 LP1_h0 i_34) (om_470 LP1_h1 i_34 i_35) (om_471 i_20 i_34 i_35) (om_472 w_1.1 w_1.2.1 LP1_h1 LP1_h3 i_20 i_35) (by rw [w_32, LP1_h4]; exact mj_tu_step (by omega) (by omega) (by omega) (by omega) (by omega)) (om_mu hn1 (om_198 i_34 i_35) (om_6 i_20)) _ _ hP hD hS ls (lv_sub hl [0, 1, 2, 3, 4, 5] rfl)
      exact LP1 ((y_19.toInt - p0.toInt : Int).toNat + 1) p0 y_19 f om_7 (om_473 i_19) (om_474 w_1.2.1 i_19) (om_200 w_1.1 w_1.2.1 i_19) (mj_tu_0 _ _ _ (by omega)).symm (Nat.lt_succ_self _) _ _ hP hD hS ls (lv_sub hl [0, 1, 2, 3, 4, 5] rfl)
    · exact absurd c_2 (by decide)
  · have w_1 : (p0.toInt < 0 ∨ p1.toInt ≤ p0.toInt ∨ len.toInt < p1.toInt) := w_1
    refine lv_if_ne (tgt := 14) hx hb dX4_turn_9 (by decide) (fun c_37 => ?_) (fun c_37 => ?_)
    · exact absurd c_37 (by decide)
    · refine lv_iconst (v := (-1)) hx hb dX4_turn_12 (by decide) ?_
      have hP9 := hP
      have hD9 := hD
      have hK9 := hK
      exact W.iret (v := (-1)) hx hb hr (hlocks := hlocks) (fun t ht hW => ⟨⟨(-1), (old, nodes, here, ff, ft, fs, fo, fe, uv, un, js, jl, je, jv, jn, f), rfl, ⟨Or.inr ⟨by omega, rfl, rfl⟩, s1, l0, s0⟩, by rw [ht]; exact hP9, va_K.moved hW.alike hK9, hD9⟩, hS.F ht⟩) hS.2.2 dX4_turn_13

set_option maxHeartbeats 4000000 in
set_option maxRecDepth 100000 in
theorem c_X4_swap_x (l : Launch) (dC : Nat → ClassId) (dI : Nat → Nat → Nat) (m_ : Nat) (q_row : Nat) (q_t : Nat) (t_ : Nat) (h0 : Nat) (k0 : Nat) (w_ : Nat) (z_ : Nat) (slots : Int32) (old : Int32) (q_joined : Nat) (q_from : Nat) (q_to : Nat) (q_size : Nat) (q_lossOf : Nat) (q_lessBy : Nat) (q_value : Nat) (q_number : Nat) (nodes : Int32) (here : Int32) (q_cell : Nat) (cyI : ClassId) (len : Int32) (f : Nat → Int32) (ff : Nat → Int32) (ft : Nat → Int32) (fs : Nat → Int32) (fo : Nat → Int32) (uv : Nat → Int32) (un : Nat → Int32) (fe : Nat → Int32) (j_v : Nat) (j_n : Nat) (js : Int32) (jl : Int32) (je : Int32) (jv : Nat → Int32) (jn : Nat → Int32) (p0 : Int32) (p1 : Int32) (sz : Nat) (a0 : 0 ≤ len.toInt) (a1 : len.toInt ≤ 160) (s0 : sixes fs) (l0 : laidP old ff ft nodes len) (s1 : shorts f) : kx_MQ l (dC, dI) yX4_swap wsX4_swap ({ frames := 6, cells := 0, slots := 0, locals := 270 }) [.ref m_, .int p0, .int p1] [kx_4 m_ q_row q_t t_ h0 k0 w_ z_ slots old, kx_2 q_t q_row q_joined q_from q_to q_size q_lossOf q_lessBy q_value q_number nodes here, kx_0 q_row q_cell len, kx_a q_cell cyI 160 f, kx_a q_from cyI 319 ff, kx_a q_to cyI 319 ft, kx_a q_size cyI 319 fs, kx_a q_lossOf cyI 319 fo, kx_a q_lessBy cyI 319 fe, kx_a q_value cyI 1914 uv, kx_a q_number cyI 1914 un, kx_3 q_joined j_v j_n js jl je, kx_a j_v cyI 12 jv, kx_a j_n cyI 12 jn] [(cyI, .int)] sz (fun A => va_Qi (fun (r : Int32) (u : Int32 × Int32 × Int32 × (Nat → Int32) × (Nat → Int32) × (Nat → Int32) × (Nat → Int32) × (Nat → Int32) × (Nat → Int32) × (Nat → Int32) × Int32 × Int32 × Int32 × (Nat → Int32) × (Nat → Int32) × (Nat → Int32)) => (((0 ≤ p0.toInt ∧ p0.toInt < len.toInt ∧ 0 ≤ p1.toInt ∧ p1.toInt < len.toInt) ∧ u.2.2.2.2.2.2.2.2.2.2.2.2.2.2.2 = mj_ex f p0.toNatClampNeg p1.toNatClampNeg) ∨ ((p0.toInt < 0 ∨ len.toInt ≤ p0.toInt ∨ p1.toInt < 0 ∨ len.toInt ≤ p1.toInt) ∧ u.2.2.2.2.2.2.2.2.2.2.2.2.2.2.2 = f ∧ r = -1)) ∧ shorts u.2.2.2.2.2.2.2.2.2.2.2.2.2.2.2 ∧ laidP u.1 u.2.2.2.1 u.2.2.2.2.1 u.2.1 len ∧ sixes u.2.2.2.2.2.1) (fun (u : Int32 × Int32 × Int32 × (Nat → Int32) × (Nat → Int32) × (Nat → Int32) × (Nat → Int32) × (Nat → Int32) × (Nat → Int32) × (Nat → Int32) × Int32 × Int32 × Int32 × (Nat → Int32) × (Nat → Int32) × (Nat → Int32)) (t : State) => va_P (dC, dI) vwCl [kx_4 m_ q_row q_t t_ h0 k0 w_ z_ slots u.1, kx_2 q_t q_row q_joined q_from q_to q_size q_lossOf q_lessBy q_value q_number u.2.1 u.2.2.1, kx_0 q_row q_cell len, kx_a q_cell cyI 160 u.2.2.2.2.2.2.2.2.2.2.2.2.2.2.2, kx_a q_from cyI 319 u.2.2.2.1, kx_a q_to cyI 319 u.2.2.2.2.1, kx_a q_size cyI 319 u.2.2.2.2.2.1, kx_a q_lossOf cyI 319 u.2.2.2.2.2.2.1, kx_a q_lessBy cyI 319 u.2.2.2.2.2.2.2.1, kx_a q_value cyI 1914 u.2.2.2.2.2.2.2.2.1, kx_a q_number cyI 1914 u.2.2.2.2.2.2.2.2.2.1, kx_3 q_joined j_v j_n u.2.2.2.2.2.2.2.2.2.2.1 u.2.2.2.2.2.2.2.2.2.2.2.1 u.2.2.2.2.2.2.2.2.2.2.2.2.1, kx_a j_v cyI 12 u.2.2.2.2.2.2.2.2.2.2.2.2.2.1, kx_a j_n cyI 12 u.2.2.2.2.2.2.2.2.2.2.2.2.2.2.1] t.heap ∧ va_K (dC, dI) vwCl [(cyI, .int)] t ∧ va_D A [kx_4 m_ q_row q_t t_ h0 k0 w_ z_ slots u.1, kx_2 q_t q_row q_joined q_from q_to q_size q_lossOf q_lessBy q_value q_number u.2.1 u.2.2.1, kx_0 q_row q_cell len, kx_a q_cell cyI 160 u.2.2.2.2.2.2.2.2.2.2.2.2.2.2.2, kx_a q_from cyI 319 u.2.2.2.1, kx_a q_to cyI 319 u.2.2.2.2.1, kx_a q_size cyI 319 u.2.2.2.2.2.1, kx_a q_lossOf cyI 319 u.2.2.2.2.2.2.1, kx_a q_lessBy cyI 319 u.2.2.2.2.2.2.2.1, kx_a q_value cyI 1914 u.2.2.2.2.2.2.2.2.1, kx_a q_number cyI 1914 u.2.2.2.2.2.2.2.2.2.1, kx_3 q_joined j_v j_n u.2.2.2.2.2.2.2.2.2.2.1 u.2.2.2.2.2.2.2.2.2.2.2.1 u.2.2.2.2.2.2.2.2.2.2.2.2.1, kx_a j_v cyI 12 u.2.2.2.2.2.2.2.2.2.2.2.2.2.1, kx_a j_n cyI 12 u.2.2.2.2.2.2.2.2.2.2.2.2.2.2.1]) A) := by
  refine kx_stQ (ws := wsX4_swap) (cc := cX4_swap) (maxL := 4) (ret := (some .int)) (by decide) rfl (Nat.le_of_ble_eq_true rfl) ?_
  intro p e s m below meth c A ls hx hb hr hlocks hts hown hml hA hS hP hK hD hl
  have hown : s.vm.findClass RX4 = some m.cls := hown
  have hl : lv_has ls 4 [(0, .ref m_), (1, .int p0), (2, .int p1)] := hl
  have hf_12 := hts (.fieldLink RX4 12 "MajorityIndex" "row" "LMajorityIndex$Row;") (List.mem_of_getElem? (i := 1) rfl)
  have hi_4 : ∀ w ∈ u_ws RX4 TX4 9, w ∈ wsX4_swap := fun w h => List.mem_cons_of_mem _ (List.mem_append_left _ (List.mem_append_left _ (List.mem_append_left _ (List.mem_append_right _ h))))
  have hm_91 := hts (.methodLink RX4 91 Lib.Math.min.name) (List.mem_of_getElem? (i := 2) rfl)
  have hms_min := hts (.static Lib.Math.min.name) (List.mem_of_getElem? (i := 3) rfl)
  have hz_math := hts (.initialized "java/lang/Math") (List.mem_of_getElem? (i := 4) rfl)
  have hmc_min := hts (.code Lib.Math.min.name Lib.Math.min.code 2 (some .int)) (List.mem_of_getElem? (i := 5) rfl)
  have hm_96 := hts (.methodLink RX4 96 Lib.Math.max.name) (List.mem_of_getElem? (i := 6) rfl)
  have hms_max := hts (.static Lib.Math.max.name) (List.mem_of_getElem? (i := 7) rfl)
  have hmc_max := hts (.code Lib.Math.max.name Lib.Math.max.code 2 (some .int)) (List.mem_of_getElem? (i := 8) rfl)
  refine lv_aload_n hx hb dX4_swap_0 rfl (lv_at hl 0 rfl) ?_
  refine va_get (D := (dC, dI)) (ci := 4) (v := .ref q_row) (C := RX4) (T := TX4) (N := 9) hx hb hts hi_4 hown hK hP 0 rfl rfl 0 (by decide) hf_12 (fun _ h9 => h9) rfl dX4_swap_1 ?_
  refine lv_iload_n hx hb dX4_swap_4 rfl (lv_at hl 1 rfl) ?_
  have hPc := hP.sub (ws' := [kx_0 q_row q_cell len]) [2] rfl
  have hKc := hK.sub (tys' := []) [] rfl
  refine vp_callSi (W.runV (As := [.int p0]) (rest := []) ⟨hx, hb, hml, hown, hts⟩ (c_X0_hasPlace l dC dI q_row q_cell len p0) (cwV 1 hts gX4_swap_X0_hasPlace rfl rfl rfl (by decide +kernel) ⟨Nat.le_of_ble_eq_true rfl, Nat.le_of_ble_eq_true rfl⟩) ⟨fun a U g mk q => by obtain ⟨q0, qP, qK⟩ := q; exact ⟨q0, qP, va_K.moved (u := U) (U := U.calling g mk a) (Vm.Alike.refl U.vm) qK⟩, kx_rc0 hKc hPc (q0 := 0) rfl, fun U hU hW => ⟨rfl, by rw [hU]; exact hPc, va_K.moved hW.alike hKc⟩⟩ rfl rfl hl.1 rfl (lv_room (Nat.le_of_ble_eq_true rfl)) dX4_swap_5 ⟨Nat.le_of_ble_eq_true rfl, Nat.le_of_ble_eq_true rfl⟩) (fun r_1 w_1 => ?_)
  rcases w_1 with ⟨rfl, w_1⟩ | ⟨rfl, w_1⟩
  · have w_1 : (0 ≤ p0.toInt ∧ p0.toInt < len.toInt) := w_1
    refine lv_if_eq (tgt := 22) hx hb dX4_swap_8 (by decide) (fun c_2 => ?_) (fun c_2 => ?_)
    · exact absurd c_2 (by decide)
    · refine lv_aload_n hx hb dX4_swap_11 rfl (lv_at hl 0 rfl) ?_
      refine va_get (D := (dC, dI)) (ci := 4) (v := .ref q_row) (C := RX4) (T := TX4) (N := 9) hx hb hts hi_4 hown hK hP 0 rfl rfl 0 (by decide) hf_12 (fun _ h9 => h9) rfl dX4_swap_12 ?_
      refine lv_iload_n hx hb dX4_swap_15 rfl (lv_at hl 2 rfl) ?_
      have hPc := hP.sub (ws' := [kx_0 q_row q_cell len]) [2] rfl
      have hKc := hK.sub (tys' := []) [] rfl
      refine vp_callSi (W.runV (As := [.int p1]) (rest := []) ⟨hx, hb, hml, hown, hts⟩ (c_X0_hasPlace l dC dI q_row q_cell len p1) (cwV 1 hts gX4_swap_X0_hasPlace rfl rfl rfl (by decide +kernel) ⟨Nat.le_of_ble_eq_true rfl, Nat.le_of_ble_eq_true rfl⟩) ⟨fun a U g mk q => by obtain ⟨q0, qP, qK⟩ := q; exact ⟨q0, qP, va_K.moved (u := U) (U := U.calling g mk a) (Vm.Alike.refl U.vm) qK⟩, kx_rc0 hKc hPc (q0 := 0) rfl, fun U hU hW => ⟨rfl, by rw [hU]; exact hPc, va_K.moved hW.alike hKc⟩⟩ rfl rfl hl.1 rfl (lv_room (Nat.le_of_ble_eq_true rfl)) dX4_swap_16 ⟨Nat.le_of_ble_eq_true rfl, Nat.le_of_ble_eq_true rfl⟩) (fun r_3 w_3 => ?_)
      rcases w_3 with ⟨rfl, w_3⟩ | ⟨rfl, w_3⟩
      · have w_3 : (0 ≤ p1.toInt ∧ p1.toInt < len.toInt) := w_3
        refine lv_if_ne (tgt := 24) hx hb dX4_swap_19 (by decide) (fun c_4 => ?_) (fun c_4 => ?_)
        · refine lv_aload_n hx hb dX4_swap_24 rfl (lv_at hl 0 rfl) ?_
          have hPc := hP
          have hKc := hK
          have hDc := hD
          have hFc := kx_free hD hS hA
          refine va_callr (va_runV (As := []) (rest := []) ⟨hx, hb, hml, hown, hts⟩ (kx_un (c_X4_laidTree l dC dI m_ q_row q_t t_ h0 k0 w_ z_ slots old q_joined q_from q_to q_size q_lossOf q_lessBy q_value q_number nodes here q_cell cyI len f ff ft fs fo uv un fe j_v j_n js jl je jv jn s.heap.size a0 a1 s0 l0)) (cwV 0 hts gX4_swap_X4_laidTree rfl rfl rfl (by decide +kernel) ⟨Nat.le_of_ble_eq_true rfl, Nat.le_of_ble_eq_true rfl⟩) ⟨fun a U g mk q => by obtain ⟨q0, q1, qP, qK, qD⟩ := q; exact ⟨q0, q1, qP, va_K.moved (u := U) (U := U.calling g mk a) (Vm.Alike.refl U.vm) qK, qD⟩, kx_rc4 hKc hPc (q0 := 0) rfl, fun U hU hW => ⟨rfl, by rw [hU], by rw [hU]; exact hPc, va_K.moved hW.alike hKc, hDc.weaken (fun _ _ _ _ => trivial)⟩⟩ rfl rfl hl.1 rfl (lv_room (Nat.le_of_ble_eq_true rfl)) dX4_swap_25 ⟨Nat.le_of_ble_eq_true rfl, Nat.le_of_ble_eq_true rfl⟩) hS (fun q _ h => hFc q h) hFc (fun u ra t H1 locs ht hvm w_5 hB hz1 hk1 hS => ?_)
          obtain ⟨o_6, o_7, o_8, o_9, o_10, o_11, o_12, o_13, o_14, o_15, o_16, o_17, o_18, o_19, o_20⟩ := u
          dsimp only at w_5 hB
          obtain ⟨er, hP1, hK1, hD1⟩ := hB
          rw [ht] at hP1
          have hK1 := va_K.moved hvm.symm hK1
          have hD := hD1.weaken (fun _ q _ h => hFc q.1 h)
          have hP := hP1
          clear hP1 hD1 hK1 hk1 hz1 hFc hDc hPc hKc
          generalize H1 = H at hP hS ⊢
          have w_5 : o_6.toInt = 0 ∧ 0 ≤ o_7.toInt ∧ o_7.toInt ≤ 319 ∧ sixes o_11 ∧ treeOk o_9 o_10 o_7.toInt len.toInt := w_5
          rw [er]
          refine lv_astore_n (lv' := [(3, .ref q_t), (0, .ref m_), (1, .int p0), (2, .int p1)]) hx hb dX4_swap_28 rfl hl (by decide) rfl (fun ls hl => ?_)
          refine lv_aload_n hx hb dX4_swap_29 rfl (lv_at hl 1 rfl) ?_
          refine va_get (D := (dC, dI)) (ci := 4) (v := .ref q_row) (C := RX4) (T := TX4) (N := 9) hx hb hts hi_4 hown hK hP 0 rfl rfl 0 (by decide) hf_12 (fun _ h9 => h9) rfl dX4_swap_30 ?_
          refine lv_iload_n hx hb dX4_swap_33 rfl (lv_at hl 2 rfl) ?_
          refine lv_iload_n hx hb dX4_swap_34 rfl (lv_at hl 3 rfl) ?_
          obtain ⟨hPc, hDc, hFc, hCc⟩ := kx_preM (wc := [kx_0 q_row q_cell len, kx_a q_cell cyI 160 f]) hP hD hS hA [false, false, true, true, false, false, false, false, false, false, false, false, false, false] rfl
          have hKc := hK
          refine va_callv (va_runV (As := [.int p0, .int p1]) (rest := []) ⟨hx, hb, hml, hown, hts⟩ (kx_un (c_X0_exchange l dC dI q_row q_cell cyI len f p0 p1 H.size (om_10 w_1.1) (om_143 a1 w_1.2) (om_10 w_3.1) (om_143 a1 w_3.2))) (cwV 2 hts gX4_swap_X0_exchange rfl rfl rfl (by decide +kernel) ⟨Nat.le_of_ble_eq_true rfl, Nat.le_of_ble_eq_true rfl⟩) ⟨fun a U g mk q => by obtain ⟨q0, q1, qP, qK, qD⟩ := q; exact ⟨q0, q1, qP, va_K.moved (u := U) (U := U.calling g mk a) (Vm.Alike.refl U.vm) qK, qD⟩, kx_rc0 hKc hPc (q0 := 0) rfl, fun U hU hW => ⟨rfl, by rw [hU], by rw [hU]; exact hPc, va_K.moved hW.alike hKc, hDc.weaken (fun _ _ _ _ => trivial)⟩⟩ rfl rfl hl.1 rfl (lv_room (Nat.le_of_ble_eq_true rfl)) dX4_swap_35 ⟨Nat.le_of_ble_eq_true rfl, Nat.le_of_ble_eq_true rfl⟩) hS (fun q _ h => hFc q h) hFc (fun u t H1 locs ht hvm w_21 hB hz1 hk1 hS => ?_)
          obtain ⟨o_22, rfl⟩ : ∃ z, z = u := ⟨_, rfl⟩
          obtain ⟨hP1, hK1, hD1⟩ := hB
          rw [ht] at hP1
          have hK1 := va_K.moved hvm.symm hK1
          obtain ⟨hP, hD⟩ := kx_joinM (w2 := [kx_4 m_ q_row q_t t_ h0 k0 w_ z_ slots o_6, kx_2 q_t q_row q_joined q_from q_to q_size q_lossOf q_lessBy q_value q_number o_7 o_8, kx_0 q_row q_cell len, kx_a q_cell cyI 160 o_22, kx_a q_from cyI 319 o_9, kx_a q_to cyI 319 o_10, kx_a q_size cyI 319 o_11, kx_a q_lossOf cyI 319 o_12, kx_a q_lessBy cyI 319 o_13, kx_a q_value cyI 1914 o_14, kx_a q_number cyI 1914 o_15, kx_3 q_joined j_v j_n o_16 o_17 o_18, kx_a j_v cyI 12 o_19, kx_a j_n cyI 12 o_20]) hP hD hP1 hD1 hk1 hFc [false, false, true, true, false, false, false, false, false, false, false, false, false, false] hCc rfl
          clear hP1 hD1 hK1 hk1 hz1 hFc hDc hPc hKc hCc
          generalize H1 = H at hP hS ⊢
          have w_21 : o_22 = upd (upd f p0.toNatClampNeg (f p1.toNatClampNeg)) p1.toNatClampNeg (f p0.toNatClampNeg) := w_21
          refine lv_aload_n hx hb dX4_swap_38 rfl (lv_at hl 0 rfl) ?_
          refine lv_iload_n hx hb dX4_swap_39 rfl (lv_at hl 2 rfl) ?_
          refine lv_iload_n hx hb dX4_swap_40 rfl (lv_at hl 3 rfl) ?_
          refine va_mmin hx hb (hml.trans hl.1.symm) hown hm_91 hms_min hz_math hmc_min (Nat.le_of_ble_eq_true rfl) (Nat.le_of_ble_eq_true rfl) (Nat.le_of_ble_eq_true rfl) (Nat.le_of_ble_eq_true rfl) dX4_swap_41 ?_
          refine lv_topi (fun y_23 ey_23 => ?_)
          have i_24 : (p0.toInt ≤ p1.toInt ∧ y_23.toInt = p0.toInt) ∨ (p1.toInt < p0.toInt ∧ y_23.toInt = p1.toInt) := ki_min ey_23 rfl rfl
          refine lv_iload_n hx hb dX4_swap_44 rfl (lv_at hl 2 rfl) ?_
          refine lv_iload_n hx hb dX4_swap_45 rfl (lv_at hl 3 rfl) ?_
          refine va_mmax hx hb (hml.trans hl.1.symm) hown hm_96 hms_max hz_math hmc_max (Nat.le_of_ble_eq_true rfl) (Nat.le_of_ble_eq_true rfl) (Nat.le_of_ble_eq_true rfl) (Nat.le_of_ble_eq_true rfl) dX4_swap_46 ?_
          refine lv_topi (fun y_25 ey_25 => ?_)
          have i_26 : (p0.toInt ≤ p1.toInt ∧ y_25.toInt = p1.toInt) ∨ (p1.toInt < p0.toInt ∧ y_25.toInt = p0.toInt) := ki_max ey_25 rfl rfl
          refine lv_iconst (v := 1) hx hb dX4_swap_49 (by decide) ?_
          refine lv_iadd hx hb dX4_swap_50 ?_
          refine lv_topi (fun y_27 ey_27 => ?_)
          have i_27 : y_27.toInt = y_25.toInt + 1 := ki_add ey_27 rfl rfl (by omega) (by omega)
          obtain ⟨hPc, hDc, hFc, hCc⟩ := kx_preM (wc := [kx_2 q_t q_row q_joined q_from q_to q_size q_lossOf q_lessBy q_value q_number o_7 o_8, kx_0 q_row q_cell len, kx_a q_cell cyI 160 o_22, kx_a q_from cyI 319 o_9, kx_a q_to cyI 319 o_10, kx_a q_size cyI 319 o_11, kx_a q_lossOf cyI 319 o_12, kx_a q_lessBy cyI 319 o_13, kx_a q_value cyI 1914 o_14, kx_a q_number cyI 1914 o_15, kx_3 q_joined j_v j_n o_16 o_17 o_18, kx_a j_v cyI 12 o_19, kx_a j_n cyI 12 o_20]) hP hD hS hA [false, true, true, true, true, true, true, true, true, true, true, true, true, true] rfl
          have hKc := hK
          refine va_calli (va_runV (As := [.int y_23, .int y_27]) (rest := []) ⟨hx, hb, hml, hown, hts⟩ (kx_un (c_X2_renew l dC dI q_t q_row q_joined q_from q_to q_size q_lossOf q_lessBy q_value q_number o_7 o_8 q_cell cyI len o_22 o_9 o_10 o_11 o_12 o_14 o_15 o_13 j_v j_n o_16 o_17 o_18 o_19 o_20 y_23 y_27 H.size w_5.2.1 w_5.2.2.1 a1 w_5.2.2.2.1 w_5.2.2.2.2)) (cwV 2 hts gX4_swap_X2_renew rfl rfl rfl (by decide +kernel) ⟨Nat.le_of_ble_eq_true rfl, Nat.le_of_ble_eq_true rfl⟩) ⟨fun a U g mk q => by obtain ⟨q0, q1, qP, qK, qD⟩ := q; exact ⟨q0, q1, qP, va_K.moved (u := U) (U := U.calling g mk a) (Vm.Alike.refl U.vm) qK, qD⟩, kx_rc2 hKc hPc (q0 := 0) rfl, fun U hU hW => ⟨rfl, by rw [hU], by rw [hU]; exact hPc, va_K.moved hW.alike hKc, hDc.weaken (fun _ _ _ _ => trivial)⟩⟩ rfl rfl hl.1 rfl (lv_room (Nat.le_of_ble_eq_true rfl)) dX4_swap_51 ⟨Nat.le_of_ble_eq_true rfl, Nat.le_of_ble_eq_true rfl⟩) hS (fun q _ h => hFc q h) hFc (fun r_28 u t H1 locs ht hvm w_28 hB hz1 hk1 hS => ?_)
          obtain ⟨o_29, o_30, o_31, o_32, o_33, o_34, o_35, o_36, o_37, o_38⟩ := u
          dsimp only at w_28 hB
          obtain ⟨hP1, hK1, hD1⟩ := hB
          rw [ht] at hP1
          have hK1 := va_K.moved hvm.symm hK1
          obtain ⟨hP, hD⟩ := kx_joinM (w2 := [kx_4 m_ q_row q_t t_ h0 k0 w_ z_ slots o_6, kx_2 q_t q_row q_joined q_from q_to q_size q_lossOf q_lessBy q_value q_number o_7 o_8, kx_0 q_row q_cell len, kx_a q_cell cyI 160 o_22, kx_a q_from cyI 319 o_9, kx_a q_to cyI 319 o_10, kx_a q_size cyI 319 o_29, kx_a q_lossOf cyI 319 o_30, kx_a q_lessBy cyI 319 o_31, kx_a q_value cyI 1914 o_32, kx_a q_number cyI 1914 o_33, kx_3 q_joined j_v j_n o_34 o_35 o_36, kx_a j_v cyI 12 o_37, kx_a j_n cyI 12 o_38]) hP hD hP1 hD1 hk1 hFc [false, true, true, true, true, true, true, true, true, true, true, true, true, true] hCc rfl
          clear hP1 hD1 hK1 hk1 hz1 hFc hDc hPc hKc hCc
          generalize H1 = H at hP hS ⊢
          have w_28 : sixes o_29 := w_28
          have hP9 := hP
          have hD9 := hD
          have hK9 := hK
          have n_p0 := ki_nat p0 rfl (om_10 w_1.1)
          have n_p1 := ki_nat p1 rfl (om_10 w_3.1)
          have e_f : o_22 = mj_ex f p0.toNatClampNeg p1.toNatClampNeg := w_21
          exact W.iret (v := r_28) hx hb hr (hlocks := hlocks) (fun t ht hW => ⟨⟨r_28, (o_6, o_7, o_8, o_9, o_10, o_29, o_30, o_31, o_32, o_33, o_34, o_35, o_36, o_37, o_38, o_22), rfl, ⟨Or.inl ⟨by omega, e_f⟩, (by (try dsimp only); rw [e_f]; exact shorts_mex s1 (by omega) (by omega)), (fun _ => ⟨(by (try dsimp only); omega), (by (try dsimp only); omega), w_5.2.2.2.2⟩), w_28⟩, by rw [ht]; exact hP9, va_K.moved hW.alike hK9, hD9⟩, hS.F ht⟩) hS.2.2 dX4_swap_54
        · exact absurd c_4 (by decide)
      · have w_3 : (p1.toInt < 0 ∨ len.toInt ≤ p1.toInt) := w_3
        refine lv_if_ne (tgt := 24) hx hb dX4_swap_19 (by decide) (fun c_39 => ?_) (fun c_39 => ?_)
        · exact absurd c_39 (by decide)
        · refine lv_iconst (v := (-1)) hx hb dX4_swap_22 (by decide) ?_
          have hP9 := hP
          have hD9 := hD
          have hK9 := hK
          exact W.iret (v := (-1)) hx hb hr (hlocks := hlocks) (fun t ht hW => ⟨⟨(-1), (old, nodes, here, ff, ft, fs, fo, fe, uv, un, js, jl, je, jv, jn, f), rfl, ⟨Or.inr ⟨by omega, rfl, rfl⟩, s1, l0, s0⟩, by rw [ht]; exact hP9, va_K.moved hW.alike hK9, hD9⟩, hS.F ht⟩) hS.2.2 dX4_swap_23
  · have w_1 : (p0.toInt < 0 ∨ len.toInt ≤ p0.toInt) := w_1
    refine lv_if_eq (tgt := 22) hx hb dX4_swap_8 (by decide) (fun c_40 => ?_) (fun c_40 => ?_)
    · refine lv_iconst (v := (-1)) hx hb dX4_swap_22 (by decide) ?_
      have hP9 := hP
      have hD9 := hD
      have hK9 := hK
      exact W.iret (v := (-1)) hx hb hr (hlocks := hlocks) (fun t ht hW => ⟨⟨(-1), (old, nodes, here, ff, ft, fs, fo, fe, uv, un, js, jl, je, jv, jn, f), rfl, ⟨Or.inr ⟨by omega, rfl, rfl⟩, s1, l0, s0⟩, by rw [ht]; exact hP9, va_K.moved hW.alike hK9, hD9⟩, hS.F ht⟩) hS.2.2 dX4_swap_23
    · exact absurd c_40 (by decide)



abbrev cX0_init : ByteArray := prog_2_method_1_code
def yX0_init : MethodName := ⟨RX0, "<init>", "()V"⟩
abbrev cX1_init : ByteArray := prog_3_method_1_code
def yX1_init : MethodName := ⟨RX1, "<init>", "()V"⟩
abbrev cX2_init : ByteArray := prog_4_method_1_code
def yX2_init : MethodName := ⟨RX2, "<init>", "(LMajorityIndex$Row;)V"⟩
abbrev cX3_init : ByteArray := prog_5_method_1_code
def yX3_init : MethodName := ⟨RX3, "<init>", "()V"⟩
abbrev cX4_init : ByteArray := prog_1_method_1_code
def yX4_init : MethodName := ⟨RX4, "<init>", "()V"⟩
abbrev cX5_init : ByteArray := prog_7_method_1_code
def yX5_init : MethodName := ⟨RX5, "<init>", "()V"⟩
def wsX0_init : List Cond := .code yX0_init cX0_init 1 none :: ([.methodLink RX0 3 objectInit, .instanceMethod objectInit, .code objectInit ⟨#[0xb1]⟩ 1 none, .arrayClass .int, .fieldLink RX0 9 "MajorityIndex$Row" "cell" "[I"] ++ wsX00)
def wsX1_init : List Cond := .code yX1_init cX1_init 1 none :: ([.methodLink RX1 3 objectInit, .instanceMethod objectInit, .code objectInit ⟨#[0xb1]⟩ 1 none, .arrayClass .int, .fieldLink RX1 9 "MajorityIndex$Tally" "kind" "[I", .fieldLink RX1 15 "MajorityIndex$Tally" "often" "[I"] ++ wsX10)
def wsX3_init : List Cond := .code yX3_init cX3_init 1 none :: ([.methodLink RX3 3 objectInit, .instanceMethod objectInit, .code objectInit ⟨#[0xb1]⟩ 1 none, .arrayClass .int, .fieldLink RX3 9 "MajorityIndex$Votes" "value" "[I", .fieldLink RX3 15 "MajorityIndex$Votes" "number" "[I"] ++ wsX30)
def wsX2_init : List Cond := .code yX2_init cX2_init 2 none :: ([.methodLink RX2 3 objectInit, .instanceMethod objectInit, .code objectInit ⟨#[0xb1]⟩ 1 none, .classLink RX2 9 RX3, .instantiable RX3 5, .initialized RX3, .fieldLink RX2 12 "MajorityIndex$Tree" "joined" "LMajorityIndex$Votes;", .arrayClass .int, .fieldLink RX2 18 "MajorityIndex$Tree" "from" "[I", .fieldLink RX2 22 "MajorityIndex$Tree" "to" "[I", .fieldLink RX2 25 "MajorityIndex$Tree" "size" "[I", .fieldLink RX2 28 "MajorityIndex$Tree" "lossOf" "[I", .fieldLink RX2 31 "MajorityIndex$Tree" "lessBy" "[I", .fieldLink RX2 34 "MajorityIndex$Tree" "value" "[I", .fieldLink RX2 37 "MajorityIndex$Tree" "number" "[I", .fieldLink RX2 40 "MajorityIndex$Tree" "row" "LMajorityIndex$Row;", .instanceMethod yX3_init, .code yX3_init cX3_init 1 none, .methodLink RX3 3 objectInit, .fieldLink RX3 9 "MajorityIndex$Votes" "value" "[I", .fieldLink RX3 15 "MajorityIndex$Votes" "number" "[I"] ++ wsX30 ++ wsX20)
def wsX4_init_r1 : List Cond := [Cond.methodLink RX4 3 objectInit, Cond.instanceMethod objectInit, Cond.code objectInit ⟨#[0xb1]⟩ 1 none, Cond.classLink RX4 9 RX0, Cond.instantiable RX0 2, Cond.initialized RX0, Cond.fieldLink RX4 12 "MajorityIndex" "row" "LMajorityIndex$Row;", Cond.classLink RX4 16 RX2, Cond.instantiable RX2 11, Cond.initialized RX2, Cond.fieldLink RX4 21 "MajorityIndex" "tree" "LMajorityIndex$Tree;", Cond.classLink RX4 25 RX1, Cond.instantiable RX1 4, Cond.initialized RX1, Cond.fieldLink RX4 28 "MajorityIndex" "tally" "LMajorityIndex$Tally;", Cond.classLink RX4 32 RX3, Cond.instantiable RX3 5, Cond.initialized RX3, Cond.fieldLink RX4 35 "MajorityIndex" "votes" "LMajorityIndex$Votes;", Cond.fieldLink RX4 39 "MajorityIndex" "otherVotes" "LMajorityIndex$Votes;", Cond.arrayClass .int, Cond.fieldLink RX4 42 "MajorityIndex" "wins" "[I", Cond.fieldLink RX4 46 "MajorityIndex" "fewest" "[I", Cond.fieldLink RX4 49 "MajorityIndex" "slotsNow" "I"]
def wsX4_init_r2 : List Cond := [Cond.fieldLink RX4 53 "MajorityIndex" "treeIsOld" "Z", Cond.instanceMethod yX0_init, Cond.code yX0_init cX0_init 1 none, Cond.methodLink RX0 3 objectInit, Cond.fieldLink RX0 9 "MajorityIndex$Row" "cell" "[I", Cond.methodLink RX4 18 yX2_init, Cond.instanceMethod yX2_init, Cond.code yX2_init cX2_init 2 none, Cond.methodLink RX2 3 objectInit, Cond.classLink RX2 9 RX3, Cond.fieldLink RX2 12 "MajorityIndex$Tree" "joined" "LMajorityIndex$Votes;", Cond.fieldLink RX2 18 "MajorityIndex$Tree" "from" "[I", Cond.fieldLink RX2 22 "MajorityIndex$Tree" "to" "[I", Cond.fieldLink RX2 25 "MajorityIndex$Tree" "size" "[I", Cond.fieldLink RX2 28 "MajorityIndex$Tree" "lossOf" "[I", Cond.fieldLink RX2 31 "MajorityIndex$Tree" "lessBy" "[I", Cond.fieldLink RX2 34 "MajorityIndex$Tree" "value" "[I", Cond.fieldLink RX2 37 "MajorityIndex$Tree" "number" "[I", Cond.fieldLink RX2 40 "MajorityIndex$Tree" "row" "LMajorityIndex$Row;", Cond.instanceMethod yX3_init, Cond.code yX3_init cX3_init 1 none, Cond.methodLink RX3 3 objectInit, Cond.fieldLink RX3 9 "MajorityIndex$Votes" "value" "[I", Cond.fieldLink RX3 15 "MajorityIndex$Votes" "number" "[I"]
def wsX4_init_r3 : List Cond := [Cond.instanceMethod yX1_init, Cond.code yX1_init cX1_init 1 none, Cond.methodLink RX1 3 objectInit, Cond.fieldLink RX1 9 "MajorityIndex$Tally" "kind" "[I", Cond.fieldLink RX1 15 "MajorityIndex$Tally" "often" "[I"]
def wsX4_init : List Cond := .code yX4_init cX4_init 1 none :: ((wsX4_init_r1 ++ (wsX4_init_r2 ++ wsX4_init_r3)) ++ wsX00 ++ wsX40 ++ wsX20 ++ wsX10 ++ wsX30)
def wsX5_init_r1 : List Cond := [Cond.methodLink RX5 1 objectInit, Cond.instanceMethod objectInit, Cond.code objectInit ⟨#[0xb1]⟩ 1 none, Cond.arrayClass .int, Cond.fieldLink RX5 7 "MajorityIndexModel" "row" "[I", Cond.fieldLink RX5 13 "MajorityIndexModel" "slots" "I", Cond.fieldLink RX5 17 "MajorityIndexModel" "many" "[I", Cond.fieldLink RX5 20 "MajorityIndexModel" "loss" "[I", Cond.fieldLink RX5 23 "MajorityIndexModel" "less" "[I", Cond.fieldLink RX5 26 "MajorityIndexModel" "voteValue" "[I", Cond.fieldLink RX5 29 "MajorityIndexModel" "voteNumber" "[I", Cond.fieldLink RX5 32 "MajorityIndexModel" "allValue" "[I", Cond.fieldLink RX5 35 "MajorityIndexModel" "allNumber" "[I", Cond.fieldLink RX5 38 "MajorityIndexModel" "nodeL" "[I", Cond.fieldLink RX5 41 "MajorityIndexModel" "nodeR" "[I", Cond.fieldLink RX5 44 "MajorityIndexModel" "part" "[I", Cond.fieldLink RX5 47 "MajorityIndexModel" "wasMany" "[I", Cond.fieldLink RX5 50 "MajorityIndexModel" "wasLoss" "[I", Cond.fieldLink RX5 53 "MajorityIndexModel" "wasValue" "[I", Cond.fieldLink RX5 56 "MajorityIndexModel" "wasNumber" "[I", Cond.fieldLink RX5 59 "MajorityIndexModel" "path" "[I", Cond.fieldLink RX5 62 "MajorityIndexModel" "heavyValue" "[I", Cond.fieldLink RX5 65 "MajorityIndexModel" "heavyTimes" "[I", Cond.fieldLink RX5 68 "MajorityIndexModel" "fewest" "[I"]
def wsX5_init_r2 : List Cond := [Cond.fieldLink RX5 71 "MajorityIndexModel" "which" "[I", Cond.fieldLink RX5 74 "MajorityIndexModel" "met" "[I"]
def wsX5_init : List Cond := .code yX5_init cX5_init 1 none :: ((wsX5_init_r1 ++ wsX5_init_r2) ++ wsX50)
def dt_cX0_init_0 : List (Nat × Nat × Nat × Nat) := [(0, 42, 0, 0), (1, 183, 2, 3), (4, 42, 0, 0), (5, 17, 2, 160), (8, 188, 1, 10), (10, 181, 2, 9), (13, 177, 0, 0)]
theorem da_cX0_init_0 : fw dt_cX0_init_0 0 cX0_init.data.toList = true := by decide +kernel
theorem dX0_init_0 : decode cX0_init 0 = .ok (.aload_n 0, 1) := fo_42 (fw_get da_cX0_init_0 0 rfl)
theorem dX0_init_1 : decode cX0_init 1 = .ok (.invokespecial 3, 3) := fo_183 (fw_get da_cX0_init_0 1 rfl)
theorem dX0_init_4 : decode cX0_init 4 = .ok (.aload_n 0, 1) := fo_42 (fw_get da_cX0_init_0 2 rfl)
theorem dX0_init_5 : decode cX0_init 5 = .ok (.sipush 160, 3) := fo_17 (fw_get da_cX0_init_0 3 rfl) (by decide +kernel)
theorem dX0_init_8 : decode cX0_init 8 = .ok (.newarray .int, 2) := fo_188 (fw_get da_cX0_init_0 4 rfl)
theorem dX0_init_10 : decode cX0_init 10 = .ok (.putfield 9, 3) := fo_181 (fw_get da_cX0_init_0 5 rfl)
theorem dX0_init_13 : decode cX0_init 13 = .ok (.return_, 1) := fo_177 (fw_get da_cX0_init_0 6 rfl)
def dt_cX1_init_0 : List (Nat × Nat × Nat × Nat) := [(0, 42, 0, 0), (1, 183, 2, 3), (4, 42, 0, 0), (5, 17, 2, 160), (8, 188, 1, 10), (10, 181, 2, 9), (13, 42, 0, 0), (14, 17, 2, 160), (17, 188, 1, 10), (19, 181, 2, 15), (22, 177, 0, 0)]
theorem da_cX1_init_0 : fw dt_cX1_init_0 0 cX1_init.data.toList = true := by decide +kernel
theorem dX1_init_0 : decode cX1_init 0 = .ok (.aload_n 0, 1) := fo_42 (fw_get da_cX1_init_0 0 rfl)
theorem dX1_init_1 : decode cX1_init 1 = .ok (.invokespecial 3, 3) := fo_183 (fw_get da_cX1_init_0 1 rfl)
theorem dX1_init_4 : decode cX1_init 4 = .ok (.aload_n 0, 1) := fo_42 (fw_get da_cX1_init_0 2 rfl)
theorem dX1_init_5 : decode cX1_init 5 = .ok (.sipush 160, 3) := fo_17 (fw_get da_cX1_init_0 3 rfl) (by decide +kernel)
theorem dX1_init_8 : decode cX1_init 8 = .ok (.newarray .int, 2) := fo_188 (fw_get da_cX1_init_0 4 rfl)
theorem dX1_init_10 : decode cX1_init 10 = .ok (.putfield 9, 3) := fo_181 (fw_get da_cX1_init_0 5 rfl)
theorem dX1_init_13 : decode cX1_init 13 = .ok (.aload_n 0, 1) := fo_42 (fw_get da_cX1_init_0 6 rfl)
theorem dX1_init_14 : decode cX1_init 14 = .ok (.sipush 160, 3) := fo_17 (fw_get da_cX1_init_0 7 rfl) (by decide +kernel)
theorem dX1_init_17 : decode cX1_init 17 = .ok (.newarray .int, 2) := fo_188 (fw_get da_cX1_init_0 8 rfl)
theorem dX1_init_19 : decode cX1_init 19 = .ok (.putfield 15, 3) := fo_181 (fw_get da_cX1_init_0 9 rfl)
theorem dX1_init_22 : decode cX1_init 22 = .ok (.return_, 1) := fo_177 (fw_get da_cX1_init_0 10 rfl)
set_option maxRecDepth 20000 in
theorem ggX2_init_X3_init : GoodIn wsX2_init wsX3_init := goodIn_r _ [18, 19, 2, 3, 8, 20, 21, 22, 23, 24, 25, 26] rfl (by decide +kernel)
def dt_cX2_init_0 : List (Nat × Nat × Nat × Nat) := [(0, 42, 0, 0), (1, 183, 2, 3), (4, 42, 0, 0), (5, 187, 2, 9), (8, 89, 0, 0), (9, 183, 2, 11), (12, 181, 2, 12), (15, 42, 0, 0), (16, 17, 2, 319), (19, 188, 1, 10), (21, 181, 2, 18), (24, 42, 0, 0), (25, 17, 2, 319), (28, 188, 1, 10), (30, 181, 2, 22), (33, 42, 0, 0), (34, 17, 2, 319), (37, 188, 1, 10), (39, 181, 2, 25), (42, 42, 0, 0)]
theorem da_cX2_init_0 : fw dt_cX2_init_0 0 cX2_init.data.toList = true := by decide +kernel
theorem dX2_init_0 : decode cX2_init 0 = .ok (.aload_n 0, 1) := fo_42 (fw_get da_cX2_init_0 0 rfl)
theorem dX2_init_1 : decode cX2_init 1 = .ok (.invokespecial 3, 3) := fo_183 (fw_get da_cX2_init_0 1 rfl)
theorem dX2_init_4 : decode cX2_init 4 = .ok (.aload_n 0, 1) := fo_42 (fw_get da_cX2_init_0 2 rfl)
theorem dX2_init_5 : decode cX2_init 5 = .ok (.new 9, 3) := fo_187 (fw_get da_cX2_init_0 3 rfl)
theorem dX2_init_8 : decode cX2_init 8 = .ok (.dup, 1) := fo_89 (fw_get da_cX2_init_0 4 rfl)
theorem dX2_init_9 : decode cX2_init 9 = .ok (.invokespecial 11, 3) := fo_183 (fw_get da_cX2_init_0 5 rfl)
theorem dX2_init_12 : decode cX2_init 12 = .ok (.putfield 12, 3) := fo_181 (fw_get da_cX2_init_0 6 rfl)
theorem dX2_init_15 : decode cX2_init 15 = .ok (.aload_n 0, 1) := fo_42 (fw_get da_cX2_init_0 7 rfl)
theorem dX2_init_16 : decode cX2_init 16 = .ok (.sipush 319, 3) := fo_17 (fw_get da_cX2_init_0 8 rfl) (by decide +kernel)
theorem dX2_init_19 : decode cX2_init 19 = .ok (.newarray .int, 2) := fo_188 (fw_get da_cX2_init_0 9 rfl)
theorem dX2_init_21 : decode cX2_init 21 = .ok (.putfield 18, 3) := fo_181 (fw_get da_cX2_init_0 10 rfl)
theorem dX2_init_24 : decode cX2_init 24 = .ok (.aload_n 0, 1) := fo_42 (fw_get da_cX2_init_0 11 rfl)
theorem dX2_init_25 : decode cX2_init 25 = .ok (.sipush 319, 3) := fo_17 (fw_get da_cX2_init_0 12 rfl) (by decide +kernel)
theorem dX2_init_28 : decode cX2_init 28 = .ok (.newarray .int, 2) := fo_188 (fw_get da_cX2_init_0 13 rfl)
theorem dX2_init_30 : decode cX2_init 30 = .ok (.putfield 22, 3) := fo_181 (fw_get da_cX2_init_0 14 rfl)
theorem dX2_init_33 : decode cX2_init 33 = .ok (.aload_n 0, 1) := fo_42 (fw_get da_cX2_init_0 15 rfl)
theorem dX2_init_34 : decode cX2_init 34 = .ok (.sipush 319, 3) := fo_17 (fw_get da_cX2_init_0 16 rfl) (by decide +kernel)
theorem dX2_init_37 : decode cX2_init 37 = .ok (.newarray .int, 2) := fo_188 (fw_get da_cX2_init_0 17 rfl)
theorem dX2_init_39 : decode cX2_init 39 = .ok (.putfield 25, 3) := fo_181 (fw_get da_cX2_init_0 18 rfl)
theorem dX2_init_42 : decode cX2_init 42 = .ok (.aload_n 0, 1) := fo_42 (fw_get da_cX2_init_0 19 rfl)
def dt_cX2_init_1 : List (Nat × Nat × Nat × Nat) := [(43, 17, 2, 319), (46, 188, 1, 10), (48, 181, 2, 28), (51, 42, 0, 0), (52, 17, 2, 319), (55, 188, 1, 10), (57, 181, 2, 31), (60, 42, 0, 0), (61, 17, 2, 1914), (64, 188, 1, 10), (66, 181, 2, 34), (69, 42, 0, 0), (70, 17, 2, 1914), (73, 188, 1, 10), (75, 181, 2, 37), (78, 42, 0, 0), (79, 43, 0, 0), (80, 181, 2, 40), (83, 177, 0, 0)]
theorem da_cX2_init_1 : fw dt_cX2_init_1 0 cX2_init.data.toList = true := by decide +kernel
theorem dX2_init_43 : decode cX2_init 43 = .ok (.sipush 319, 3) := fo_17 (fw_get da_cX2_init_1 0 rfl) (by decide +kernel)
theorem dX2_init_46 : decode cX2_init 46 = .ok (.newarray .int, 2) := fo_188 (fw_get da_cX2_init_1 1 rfl)
theorem dX2_init_48 : decode cX2_init 48 = .ok (.putfield 28, 3) := fo_181 (fw_get da_cX2_init_1 2 rfl)
theorem dX2_init_51 : decode cX2_init 51 = .ok (.aload_n 0, 1) := fo_42 (fw_get da_cX2_init_1 3 rfl)
theorem dX2_init_52 : decode cX2_init 52 = .ok (.sipush 319, 3) := fo_17 (fw_get da_cX2_init_1 4 rfl) (by decide +kernel)
theorem dX2_init_55 : decode cX2_init 55 = .ok (.newarray .int, 2) := fo_188 (fw_get da_cX2_init_1 5 rfl)
theorem dX2_init_57 : decode cX2_init 57 = .ok (.putfield 31, 3) := fo_181 (fw_get da_cX2_init_1 6 rfl)
theorem dX2_init_60 : decode cX2_init 60 = .ok (.aload_n 0, 1) := fo_42 (fw_get da_cX2_init_1 7 rfl)
theorem dX2_init_61 : decode cX2_init 61 = .ok (.sipush 1914, 3) := fo_17 (fw_get da_cX2_init_1 8 rfl) (by decide +kernel)
theorem dX2_init_64 : decode cX2_init 64 = .ok (.newarray .int, 2) := fo_188 (fw_get da_cX2_init_1 9 rfl)
theorem dX2_init_66 : decode cX2_init 66 = .ok (.putfield 34, 3) := fo_181 (fw_get da_cX2_init_1 10 rfl)
theorem dX2_init_69 : decode cX2_init 69 = .ok (.aload_n 0, 1) := fo_42 (fw_get da_cX2_init_1 11 rfl)
theorem dX2_init_70 : decode cX2_init 70 = .ok (.sipush 1914, 3) := fo_17 (fw_get da_cX2_init_1 12 rfl) (by decide +kernel)
theorem dX2_init_73 : decode cX2_init 73 = .ok (.newarray .int, 2) := fo_188 (fw_get da_cX2_init_1 13 rfl)
theorem dX2_init_75 : decode cX2_init 75 = .ok (.putfield 37, 3) := fo_181 (fw_get da_cX2_init_1 14 rfl)
theorem dX2_init_78 : decode cX2_init 78 = .ok (.aload_n 0, 1) := fo_42 (fw_get da_cX2_init_1 15 rfl)
theorem dX2_init_79 : decode cX2_init 79 = .ok (.aload_n 1, 1) := fo_43 (fw_get da_cX2_init_1 16 rfl)
theorem dX2_init_80 : decode cX2_init 80 = .ok (.putfield 40, 3) := fo_181 (fw_get da_cX2_init_1 17 rfl)
theorem dX2_init_83 : decode cX2_init 83 = .ok (.return_, 1) := fo_177 (fw_get da_cX2_init_1 18 rfl)
def dt_cX3_init_0 : List (Nat × Nat × Nat × Nat) := [(0, 42, 0, 0), (1, 183, 2, 3), (4, 42, 0, 0), (5, 16, 1, 12), (7, 188, 1, 10), (9, 181, 2, 9), (12, 42, 0, 0), (13, 16, 1, 12), (15, 188, 1, 10), (17, 181, 2, 15), (20, 177, 0, 0)]
theorem da_cX3_init_0 : fw dt_cX3_init_0 0 cX3_init.data.toList = true := by decide +kernel
theorem dX3_init_0 : decode cX3_init 0 = .ok (.aload_n 0, 1) := fo_42 (fw_get da_cX3_init_0 0 rfl)
theorem dX3_init_1 : decode cX3_init 1 = .ok (.invokespecial 3, 3) := fo_183 (fw_get da_cX3_init_0 1 rfl)
theorem dX3_init_4 : decode cX3_init 4 = .ok (.aload_n 0, 1) := fo_42 (fw_get da_cX3_init_0 2 rfl)
theorem dX3_init_5 : decode cX3_init 5 = .ok (.bipush 12, 2) := fo_16 (fw_get da_cX3_init_0 3 rfl) (by decide +kernel)
theorem dX3_init_7 : decode cX3_init 7 = .ok (.newarray .int, 2) := fo_188 (fw_get da_cX3_init_0 4 rfl)
theorem dX3_init_9 : decode cX3_init 9 = .ok (.putfield 9, 3) := fo_181 (fw_get da_cX3_init_0 5 rfl)
theorem dX3_init_12 : decode cX3_init 12 = .ok (.aload_n 0, 1) := fo_42 (fw_get da_cX3_init_0 6 rfl)
theorem dX3_init_13 : decode cX3_init 13 = .ok (.bipush 12, 2) := fo_16 (fw_get da_cX3_init_0 7 rfl) (by decide +kernel)
theorem dX3_init_15 : decode cX3_init 15 = .ok (.newarray .int, 2) := fo_188 (fw_get da_cX3_init_0 8 rfl)
theorem dX3_init_17 : decode cX3_init 17 = .ok (.putfield 15, 3) := fo_181 (fw_get da_cX3_init_0 9 rfl)
theorem dX3_init_20 : decode cX3_init 20 = .ok (.return_, 1) := fo_177 (fw_get da_cX3_init_0 10 rfl)
theorem mi_wsX4_init_wsX4_init_r2 : ∀ w ∈ wsX4_init_r2, w ∈ wsX4_init := fun _ h => (List.mem_cons_of_mem _ (List.mem_append_left _ (List.mem_append_left _ (List.mem_append_left _ (List.mem_append_left _ (List.mem_append_left _ (List.mem_append_right _ (List.mem_append_left _ h))))))))
theorem mi_wsX4_init_wsX4_init_r1 : ∀ w ∈ wsX4_init_r1, w ∈ wsX4_init := fun _ h => (List.mem_cons_of_mem _ (List.mem_append_left _ (List.mem_append_left _ (List.mem_append_left _ (List.mem_append_left _ (List.mem_append_left _ (List.mem_append_left _ h)))))))
theorem mi_wsX4_init_wsX00 : ∀ w ∈ wsX00, w ∈ wsX4_init := fun _ h => (List.mem_cons_of_mem _ (List.mem_append_left _ (List.mem_append_left _ (List.mem_append_left _ (List.mem_append_left _ (List.mem_append_right _ h))))))
set_option maxRecDepth 20000 in
theorem ggX4_init_X0_init : GoodIn wsX4_init wsX0_init := goodIn_m _ [(wsX4_init_r2, [false, false, true, true]), (wsX4_init_r1, [false, true, true, false, false, false, false, false, false, false, false, false, false, false, false, false, false, false, false, false, true]), (wsX4_init_r2, [false, false, false, false, true]), (wsX00, [true, true])] (gm_c mi_wsX4_init_wsX4_init_r2 (gm_c mi_wsX4_init_wsX4_init_r1 (gm_c mi_wsX4_init_wsX4_init_r2 (gm_c mi_wsX4_init_wsX00 gm_n)))) rfl (by decide +kernel)
theorem mi_wsX4_init_wsX30 : ∀ w ∈ wsX30, w ∈ wsX4_init := fun _ h => (List.mem_cons_of_mem _ (List.mem_append_right _ h))
theorem mi_wsX4_init_wsX20 : ∀ w ∈ wsX20, w ∈ wsX4_init := fun _ h => (List.mem_cons_of_mem _ (List.mem_append_left _ (List.mem_append_left _ (List.mem_append_right _ h))))
set_option maxRecDepth 20000 in
theorem ggX4_init_X2_init : GoodIn wsX4_init wsX2_init := goodIn_m _ [(wsX4_init_r2, [false, false, false, false, false, false, false, true, true]), (wsX4_init_r1, [false, true, true]), (wsX4_init_r2, [false, false, false, false, false, false, false, false, false, true]), (wsX4_init_r1, [false, false, false, false, false, false, false, false, false, false, false, false, false, false, false, false, true, true]), (wsX4_init_r2, [false, false, false, false, false, false, false, false, false, false, true]), (wsX4_init_r1, [false, false, false, false, false, false, false, false, false, false, false, false, false, false, false, false, false, false, false, false, true]), (wsX4_init_r2, [false, false, false, false, false, false, false, false, false, false, false, true, true, true, true, true, true, true, true, true, true, true, true, true]), (wsX30, [true, true, true, true, true]), (wsX20, [true, true, true, true, true, true, true, true, true, true, true])] (gm_c mi_wsX4_init_wsX4_init_r2 (gm_c mi_wsX4_init_wsX4_init_r1 (gm_c mi_wsX4_init_wsX4_init_r2 (gm_c mi_wsX4_init_wsX4_init_r1 (gm_c mi_wsX4_init_wsX4_init_r2 (gm_c mi_wsX4_init_wsX4_init_r1 (gm_c mi_wsX4_init_wsX4_init_r2 (gm_c mi_wsX4_init_wsX30 (gm_c mi_wsX4_init_wsX20 gm_n))))))))) rfl (by decide +kernel)
theorem mi_wsX4_init_wsX4_init_r3 : ∀ w ∈ wsX4_init_r3, w ∈ wsX4_init := fun _ h => (List.mem_cons_of_mem _ (List.mem_append_left _ (List.mem_append_left _ (List.mem_append_left _ (List.mem_append_left _ (List.mem_append_left _ (List.mem_append_right _ (List.mem_append_right _ h))))))))
theorem mi_wsX4_init_wsX10 : ∀ w ∈ wsX10, w ∈ wsX4_init := fun _ h => (List.mem_cons_of_mem _ (List.mem_append_left _ (List.mem_append_right _ h)))
set_option maxRecDepth 20000 in
theorem ggX4_init_X1_init : GoodIn wsX4_init wsX1_init := goodIn_m _ [(wsX4_init_r3, [false, true, true]), (wsX4_init_r1, [false, true, true, false, false, false, false, false, false, false, false, false, false, false, false, false, false, false, false, false, true]), (wsX4_init_r3, [false, false, false, true, true]), (wsX10, [true, true, true, true])] (gm_c mi_wsX4_init_wsX4_init_r3 (gm_c mi_wsX4_init_wsX4_init_r1 (gm_c mi_wsX4_init_wsX4_init_r3 (gm_c mi_wsX4_init_wsX10 gm_n)))) rfl (by decide +kernel)
set_option maxRecDepth 20000 in
theorem ggX4_init_X3_init : GoodIn wsX4_init wsX3_init := goodIn_m _ [(wsX4_init_r2, [false, false, false, false, false, false, false, false, false, false, false, false, false, false, false, false, false, false, false, false, true, true]), (wsX4_init_r1, [false, true, true, false, false, false, false, false, false, false, false, false, false, false, false, false, false, false, false, false, true]), (wsX4_init_r2, [false, false, false, false, false, false, false, false, false, false, false, false, false, false, false, false, false, false, false, false, false, false, true, true]), (wsX30, [true, true, true, true, true])] (gm_c mi_wsX4_init_wsX4_init_r2 (gm_c mi_wsX4_init_wsX4_init_r1 (gm_c mi_wsX4_init_wsX4_init_r2 (gm_c mi_wsX4_init_wsX30 gm_n)))) rfl (by decide +kernel)
def dt_cX4_init_0 : List (Nat × Nat × Nat × Nat) := [(0, 42, 0, 0), (1, 183, 2, 3), (4, 42, 0, 0), (5, 187, 2, 9), (8, 89, 0, 0), (9, 183, 2, 11), (12, 181, 2, 12), (15, 42, 0, 0), (16, 187, 2, 16), (19, 89, 0, 0), (20, 42, 0, 0), (21, 180, 2, 12), (24, 183, 2, 18), (27, 181, 2, 21), (30, 42, 0, 0), (31, 187, 2, 25), (34, 89, 0, 0), (35, 183, 2, 27), (38, 181, 2, 28), (41, 42, 0, 0)]
theorem da_cX4_init_0 : fw dt_cX4_init_0 0 cX4_init.data.toList = true := by decide +kernel
theorem dX4_init_0 : decode cX4_init 0 = .ok (.aload_n 0, 1) := fo_42 (fw_get da_cX4_init_0 0 rfl)
theorem dX4_init_1 : decode cX4_init 1 = .ok (.invokespecial 3, 3) := fo_183 (fw_get da_cX4_init_0 1 rfl)
theorem dX4_init_4 : decode cX4_init 4 = .ok (.aload_n 0, 1) := fo_42 (fw_get da_cX4_init_0 2 rfl)
theorem dX4_init_5 : decode cX4_init 5 = .ok (.new 9, 3) := fo_187 (fw_get da_cX4_init_0 3 rfl)
theorem dX4_init_8 : decode cX4_init 8 = .ok (.dup, 1) := fo_89 (fw_get da_cX4_init_0 4 rfl)
theorem dX4_init_9 : decode cX4_init 9 = .ok (.invokespecial 11, 3) := fo_183 (fw_get da_cX4_init_0 5 rfl)
theorem dX4_init_12 : decode cX4_init 12 = .ok (.putfield 12, 3) := fo_181 (fw_get da_cX4_init_0 6 rfl)
theorem dX4_init_15 : decode cX4_init 15 = .ok (.aload_n 0, 1) := fo_42 (fw_get da_cX4_init_0 7 rfl)
theorem dX4_init_16 : decode cX4_init 16 = .ok (.new 16, 3) := fo_187 (fw_get da_cX4_init_0 8 rfl)
theorem dX4_init_19 : decode cX4_init 19 = .ok (.dup, 1) := fo_89 (fw_get da_cX4_init_0 9 rfl)
theorem dX4_init_20 : decode cX4_init 20 = .ok (.aload_n 0, 1) := fo_42 (fw_get da_cX4_init_0 10 rfl)
theorem dX4_init_21 : decode cX4_init 21 = .ok (.getfield 12, 3) := fo_180 (fw_get da_cX4_init_0 11 rfl)
theorem dX4_init_24 : decode cX4_init 24 = .ok (.invokespecial 18, 3) := fo_183 (fw_get da_cX4_init_0 12 rfl)
theorem dX4_init_27 : decode cX4_init 27 = .ok (.putfield 21, 3) := fo_181 (fw_get da_cX4_init_0 13 rfl)
theorem dX4_init_30 : decode cX4_init 30 = .ok (.aload_n 0, 1) := fo_42 (fw_get da_cX4_init_0 14 rfl)
theorem dX4_init_31 : decode cX4_init 31 = .ok (.new 25, 3) := fo_187 (fw_get da_cX4_init_0 15 rfl)
theorem dX4_init_34 : decode cX4_init 34 = .ok (.dup, 1) := fo_89 (fw_get da_cX4_init_0 16 rfl)
theorem dX4_init_35 : decode cX4_init 35 = .ok (.invokespecial 27, 3) := fo_183 (fw_get da_cX4_init_0 17 rfl)
theorem dX4_init_38 : decode cX4_init 38 = .ok (.putfield 28, 3) := fo_181 (fw_get da_cX4_init_0 18 rfl)
theorem dX4_init_41 : decode cX4_init 41 = .ok (.aload_n 0, 1) := fo_42 (fw_get da_cX4_init_0 19 rfl)
def dt_cX4_init_1 : List (Nat × Nat × Nat × Nat) := [(42, 187, 2, 32), (45, 89, 0, 0), (46, 183, 2, 34), (49, 181, 2, 35), (52, 42, 0, 0), (53, 187, 2, 32), (56, 89, 0, 0), (57, 183, 2, 34), (60, 181, 2, 39), (63, 42, 0, 0), (64, 17, 2, 160), (67, 188, 1, 10), (69, 181, 2, 42), (72, 42, 0, 0), (73, 17, 2, 161), (76, 188, 1, 10), (78, 181, 2, 46), (81, 42, 0, 0), (82, 5, 0, 0), (83, 181, 2, 49)]
theorem da_cX4_init_1 : fw dt_cX4_init_1 0 cX4_init.data.toList = true := by decide +kernel
theorem dX4_init_42 : decode cX4_init 42 = .ok (.new 32, 3) := fo_187 (fw_get da_cX4_init_1 0 rfl)
theorem dX4_init_45 : decode cX4_init 45 = .ok (.dup, 1) := fo_89 (fw_get da_cX4_init_1 1 rfl)
theorem dX4_init_46 : decode cX4_init 46 = .ok (.invokespecial 34, 3) := fo_183 (fw_get da_cX4_init_1 2 rfl)
theorem dX4_init_49 : decode cX4_init 49 = .ok (.putfield 35, 3) := fo_181 (fw_get da_cX4_init_1 3 rfl)
theorem dX4_init_52 : decode cX4_init 52 = .ok (.aload_n 0, 1) := fo_42 (fw_get da_cX4_init_1 4 rfl)
theorem dX4_init_53 : decode cX4_init 53 = .ok (.new 32, 3) := fo_187 (fw_get da_cX4_init_1 5 rfl)
theorem dX4_init_56 : decode cX4_init 56 = .ok (.dup, 1) := fo_89 (fw_get da_cX4_init_1 6 rfl)
theorem dX4_init_57 : decode cX4_init 57 = .ok (.invokespecial 34, 3) := fo_183 (fw_get da_cX4_init_1 7 rfl)
theorem dX4_init_60 : decode cX4_init 60 = .ok (.putfield 39, 3) := fo_181 (fw_get da_cX4_init_1 8 rfl)
theorem dX4_init_63 : decode cX4_init 63 = .ok (.aload_n 0, 1) := fo_42 (fw_get da_cX4_init_1 9 rfl)
theorem dX4_init_64 : decode cX4_init 64 = .ok (.sipush 160, 3) := fo_17 (fw_get da_cX4_init_1 10 rfl) (by decide +kernel)
theorem dX4_init_67 : decode cX4_init 67 = .ok (.newarray .int, 2) := fo_188 (fw_get da_cX4_init_1 11 rfl)
theorem dX4_init_69 : decode cX4_init 69 = .ok (.putfield 42, 3) := fo_181 (fw_get da_cX4_init_1 12 rfl)
theorem dX4_init_72 : decode cX4_init 72 = .ok (.aload_n 0, 1) := fo_42 (fw_get da_cX4_init_1 13 rfl)
theorem dX4_init_73 : decode cX4_init 73 = .ok (.sipush 161, 3) := fo_17 (fw_get da_cX4_init_1 14 rfl) (by decide +kernel)
theorem dX4_init_76 : decode cX4_init 76 = .ok (.newarray .int, 2) := fo_188 (fw_get da_cX4_init_1 15 rfl)
theorem dX4_init_78 : decode cX4_init 78 = .ok (.putfield 46, 3) := fo_181 (fw_get da_cX4_init_1 16 rfl)
theorem dX4_init_81 : decode cX4_init 81 = .ok (.aload_n 0, 1) := fo_42 (fw_get da_cX4_init_1 17 rfl)
theorem dX4_init_82 : decode cX4_init 82 = .ok (.iconst 2, 1) := fo_5 (fw_get da_cX4_init_1 18 rfl)
theorem dX4_init_83 : decode cX4_init 83 = .ok (.putfield 49, 3) := fo_181 (fw_get da_cX4_init_1 19 rfl)
def dt_cX4_init_2 : List (Nat × Nat × Nat × Nat) := [(86, 42, 0, 0), (87, 4, 0, 0), (88, 181, 2, 53), (91, 177, 0, 0)]
theorem da_cX4_init_2 : fw dt_cX4_init_2 0 cX4_init.data.toList = true := by decide +kernel
theorem dX4_init_86 : decode cX4_init 86 = .ok (.aload_n 0, 1) := fo_42 (fw_get da_cX4_init_2 0 rfl)
theorem dX4_init_87 : decode cX4_init 87 = .ok (.iconst 1, 1) := fo_4 (fw_get da_cX4_init_2 1 rfl)
theorem dX4_init_88 : decode cX4_init 88 = .ok (.putfield 53, 3) := fo_181 (fw_get da_cX4_init_2 2 rfl)
theorem dX4_init_91 : decode cX4_init 91 = .ok (.return_, 1) := fo_177 (fw_get da_cX4_init_2 3 rfl)
def dt_cX5_init_0 : List (Nat × Nat × Nat × Nat) := [(0, 42, 0, 0), (1, 183, 2, 1), (4, 42, 0, 0), (5, 17, 2, 160), (8, 188, 1, 10), (10, 181, 2, 7), (13, 42, 0, 0), (14, 5, 0, 0), (15, 181, 2, 13), (18, 42, 0, 0), (19, 17, 2, 324), (22, 188, 1, 10), (24, 181, 2, 17), (27, 42, 0, 0), (28, 17, 2, 324), (31, 188, 1, 10), (33, 181, 2, 20), (36, 42, 0, 0), (37, 17, 2, 324), (40, 188, 1, 10)]
theorem da_cX5_init_0 : fw dt_cX5_init_0 0 cX5_init.data.toList = true := by decide +kernel
theorem dX5_init_0 : decode cX5_init 0 = .ok (.aload_n 0, 1) := fo_42 (fw_get da_cX5_init_0 0 rfl)
theorem dX5_init_1 : decode cX5_init 1 = .ok (.invokespecial 1, 3) := fo_183 (fw_get da_cX5_init_0 1 rfl)
theorem dX5_init_4 : decode cX5_init 4 = .ok (.aload_n 0, 1) := fo_42 (fw_get da_cX5_init_0 2 rfl)
theorem dX5_init_5 : decode cX5_init 5 = .ok (.sipush 160, 3) := fo_17 (fw_get da_cX5_init_0 3 rfl) (by decide +kernel)
theorem dX5_init_8 : decode cX5_init 8 = .ok (.newarray .int, 2) := fo_188 (fw_get da_cX5_init_0 4 rfl)
theorem dX5_init_10 : decode cX5_init 10 = .ok (.putfield 7, 3) := fo_181 (fw_get da_cX5_init_0 5 rfl)
theorem dX5_init_13 : decode cX5_init 13 = .ok (.aload_n 0, 1) := fo_42 (fw_get da_cX5_init_0 6 rfl)
theorem dX5_init_14 : decode cX5_init 14 = .ok (.iconst 2, 1) := fo_5 (fw_get da_cX5_init_0 7 rfl)
theorem dX5_init_15 : decode cX5_init 15 = .ok (.putfield 13, 3) := fo_181 (fw_get da_cX5_init_0 8 rfl)
theorem dX5_init_18 : decode cX5_init 18 = .ok (.aload_n 0, 1) := fo_42 (fw_get da_cX5_init_0 9 rfl)
theorem dX5_init_19 : decode cX5_init 19 = .ok (.sipush 324, 3) := fo_17 (fw_get da_cX5_init_0 10 rfl) (by decide +kernel)
theorem dX5_init_22 : decode cX5_init 22 = .ok (.newarray .int, 2) := fo_188 (fw_get da_cX5_init_0 11 rfl)
theorem dX5_init_24 : decode cX5_init 24 = .ok (.putfield 17, 3) := fo_181 (fw_get da_cX5_init_0 12 rfl)
theorem dX5_init_27 : decode cX5_init 27 = .ok (.aload_n 0, 1) := fo_42 (fw_get da_cX5_init_0 13 rfl)
theorem dX5_init_28 : decode cX5_init 28 = .ok (.sipush 324, 3) := fo_17 (fw_get da_cX5_init_0 14 rfl) (by decide +kernel)
theorem dX5_init_31 : decode cX5_init 31 = .ok (.newarray .int, 2) := fo_188 (fw_get da_cX5_init_0 15 rfl)
theorem dX5_init_33 : decode cX5_init 33 = .ok (.putfield 20, 3) := fo_181 (fw_get da_cX5_init_0 16 rfl)
theorem dX5_init_36 : decode cX5_init 36 = .ok (.aload_n 0, 1) := fo_42 (fw_get da_cX5_init_0 17 rfl)
theorem dX5_init_37 : decode cX5_init 37 = .ok (.sipush 324, 3) := fo_17 (fw_get da_cX5_init_0 18 rfl) (by decide +kernel)
theorem dX5_init_40 : decode cX5_init 40 = .ok (.newarray .int, 2) := fo_188 (fw_get da_cX5_init_0 19 rfl)
def dt_cX5_init_1 : List (Nat × Nat × Nat × Nat) := [(42, 181, 2, 23), (45, 42, 0, 0), (46, 17, 2, 1944), (49, 188, 1, 10), (51, 181, 2, 26), (54, 42, 0, 0), (55, 17, 2, 1944), (58, 188, 1, 10), (60, 181, 2, 29), (63, 42, 0, 0), (64, 16, 1, 12), (66, 188, 1, 10), (68, 181, 2, 32), (71, 42, 0, 0), (72, 16, 1, 12), (74, 188, 1, 10), (76, 181, 2, 35), (79, 42, 0, 0), (80, 17, 2, 320), (83, 188, 1, 10)]
theorem da_cX5_init_1 : fw dt_cX5_init_1 0 cX5_init.data.toList = true := by decide +kernel
theorem dX5_init_42 : decode cX5_init 42 = .ok (.putfield 23, 3) := fo_181 (fw_get da_cX5_init_1 0 rfl)
theorem dX5_init_45 : decode cX5_init 45 = .ok (.aload_n 0, 1) := fo_42 (fw_get da_cX5_init_1 1 rfl)
theorem dX5_init_46 : decode cX5_init 46 = .ok (.sipush 1944, 3) := fo_17 (fw_get da_cX5_init_1 2 rfl) (by decide +kernel)
theorem dX5_init_49 : decode cX5_init 49 = .ok (.newarray .int, 2) := fo_188 (fw_get da_cX5_init_1 3 rfl)
theorem dX5_init_51 : decode cX5_init 51 = .ok (.putfield 26, 3) := fo_181 (fw_get da_cX5_init_1 4 rfl)
theorem dX5_init_54 : decode cX5_init 54 = .ok (.aload_n 0, 1) := fo_42 (fw_get da_cX5_init_1 5 rfl)
theorem dX5_init_55 : decode cX5_init 55 = .ok (.sipush 1944, 3) := fo_17 (fw_get da_cX5_init_1 6 rfl) (by decide +kernel)
theorem dX5_init_58 : decode cX5_init 58 = .ok (.newarray .int, 2) := fo_188 (fw_get da_cX5_init_1 7 rfl)
theorem dX5_init_60 : decode cX5_init 60 = .ok (.putfield 29, 3) := fo_181 (fw_get da_cX5_init_1 8 rfl)
theorem dX5_init_63 : decode cX5_init 63 = .ok (.aload_n 0, 1) := fo_42 (fw_get da_cX5_init_1 9 rfl)
theorem dX5_init_64 : decode cX5_init 64 = .ok (.bipush 12, 2) := fo_16 (fw_get da_cX5_init_1 10 rfl) (by decide +kernel)
theorem dX5_init_66 : decode cX5_init 66 = .ok (.newarray .int, 2) := fo_188 (fw_get da_cX5_init_1 11 rfl)
theorem dX5_init_68 : decode cX5_init 68 = .ok (.putfield 32, 3) := fo_181 (fw_get da_cX5_init_1 12 rfl)
theorem dX5_init_71 : decode cX5_init 71 = .ok (.aload_n 0, 1) := fo_42 (fw_get da_cX5_init_1 13 rfl)
theorem dX5_init_72 : decode cX5_init 72 = .ok (.bipush 12, 2) := fo_16 (fw_get da_cX5_init_1 14 rfl) (by decide +kernel)
theorem dX5_init_74 : decode cX5_init 74 = .ok (.newarray .int, 2) := fo_188 (fw_get da_cX5_init_1 15 rfl)
theorem dX5_init_76 : decode cX5_init 76 = .ok (.putfield 35, 3) := fo_181 (fw_get da_cX5_init_1 16 rfl)
theorem dX5_init_79 : decode cX5_init 79 = .ok (.aload_n 0, 1) := fo_42 (fw_get da_cX5_init_1 17 rfl)
theorem dX5_init_80 : decode cX5_init 80 = .ok (.sipush 320, 3) := fo_17 (fw_get da_cX5_init_1 18 rfl) (by decide +kernel)
theorem dX5_init_83 : decode cX5_init 83 = .ok (.newarray .int, 2) := fo_188 (fw_get da_cX5_init_1 19 rfl)
def dt_cX5_init_2 : List (Nat × Nat × Nat × Nat) := [(85, 181, 2, 38), (88, 42, 0, 0), (89, 17, 2, 320), (92, 188, 1, 10), (94, 181, 2, 41), (97, 42, 0, 0), (98, 17, 2, 320), (101, 188, 1, 10), (103, 181, 2, 44), (106, 42, 0, 0), (107, 17, 2, 320), (110, 188, 1, 10), (112, 181, 2, 47), (115, 42, 0, 0), (116, 17, 2, 320), (119, 188, 1, 10), (121, 181, 2, 50), (124, 42, 0, 0), (125, 17, 2, 1920), (128, 188, 1, 10)]
theorem da_cX5_init_2 : fw dt_cX5_init_2 0 cX5_init.data.toList = true := by decide +kernel
theorem dX5_init_85 : decode cX5_init 85 = .ok (.putfield 38, 3) := fo_181 (fw_get da_cX5_init_2 0 rfl)
theorem dX5_init_88 : decode cX5_init 88 = .ok (.aload_n 0, 1) := fo_42 (fw_get da_cX5_init_2 1 rfl)
theorem dX5_init_89 : decode cX5_init 89 = .ok (.sipush 320, 3) := fo_17 (fw_get da_cX5_init_2 2 rfl) (by decide +kernel)
theorem dX5_init_92 : decode cX5_init 92 = .ok (.newarray .int, 2) := fo_188 (fw_get da_cX5_init_2 3 rfl)
theorem dX5_init_94 : decode cX5_init 94 = .ok (.putfield 41, 3) := fo_181 (fw_get da_cX5_init_2 4 rfl)
theorem dX5_init_97 : decode cX5_init 97 = .ok (.aload_n 0, 1) := fo_42 (fw_get da_cX5_init_2 5 rfl)
theorem dX5_init_98 : decode cX5_init 98 = .ok (.sipush 320, 3) := fo_17 (fw_get da_cX5_init_2 6 rfl) (by decide +kernel)
theorem dX5_init_101 : decode cX5_init 101 = .ok (.newarray .int, 2) := fo_188 (fw_get da_cX5_init_2 7 rfl)
theorem dX5_init_103 : decode cX5_init 103 = .ok (.putfield 44, 3) := fo_181 (fw_get da_cX5_init_2 8 rfl)
theorem dX5_init_106 : decode cX5_init 106 = .ok (.aload_n 0, 1) := fo_42 (fw_get da_cX5_init_2 9 rfl)
theorem dX5_init_107 : decode cX5_init 107 = .ok (.sipush 320, 3) := fo_17 (fw_get da_cX5_init_2 10 rfl) (by decide +kernel)
theorem dX5_init_110 : decode cX5_init 110 = .ok (.newarray .int, 2) := fo_188 (fw_get da_cX5_init_2 11 rfl)
theorem dX5_init_112 : decode cX5_init 112 = .ok (.putfield 47, 3) := fo_181 (fw_get da_cX5_init_2 12 rfl)
theorem dX5_init_115 : decode cX5_init 115 = .ok (.aload_n 0, 1) := fo_42 (fw_get da_cX5_init_2 13 rfl)
theorem dX5_init_116 : decode cX5_init 116 = .ok (.sipush 320, 3) := fo_17 (fw_get da_cX5_init_2 14 rfl) (by decide +kernel)
theorem dX5_init_119 : decode cX5_init 119 = .ok (.newarray .int, 2) := fo_188 (fw_get da_cX5_init_2 15 rfl)
theorem dX5_init_121 : decode cX5_init 121 = .ok (.putfield 50, 3) := fo_181 (fw_get da_cX5_init_2 16 rfl)
theorem dX5_init_124 : decode cX5_init 124 = .ok (.aload_n 0, 1) := fo_42 (fw_get da_cX5_init_2 17 rfl)
theorem dX5_init_125 : decode cX5_init 125 = .ok (.sipush 1920, 3) := fo_17 (fw_get da_cX5_init_2 18 rfl) (by decide +kernel)
theorem dX5_init_128 : decode cX5_init 128 = .ok (.newarray .int, 2) := fo_188 (fw_get da_cX5_init_2 19 rfl)
def dt_cX5_init_3 : List (Nat × Nat × Nat × Nat) := [(130, 181, 2, 53), (133, 42, 0, 0), (134, 17, 2, 1920), (137, 188, 1, 10), (139, 181, 2, 56), (142, 42, 0, 0), (143, 16, 1, 12), (145, 188, 1, 10), (147, 181, 2, 59), (150, 42, 0, 0), (151, 17, 2, 160), (154, 188, 1, 10), (156, 181, 2, 62), (159, 42, 0, 0), (160, 17, 2, 160), (163, 188, 1, 10), (165, 181, 2, 65), (168, 42, 0, 0), (169, 17, 2, 161), (172, 188, 1, 10)]
theorem da_cX5_init_3 : fw dt_cX5_init_3 0 cX5_init.data.toList = true := by decide +kernel
theorem dX5_init_130 : decode cX5_init 130 = .ok (.putfield 53, 3) := fo_181 (fw_get da_cX5_init_3 0 rfl)
theorem dX5_init_133 : decode cX5_init 133 = .ok (.aload_n 0, 1) := fo_42 (fw_get da_cX5_init_3 1 rfl)
theorem dX5_init_134 : decode cX5_init 134 = .ok (.sipush 1920, 3) := fo_17 (fw_get da_cX5_init_3 2 rfl) (by decide +kernel)
theorem dX5_init_137 : decode cX5_init 137 = .ok (.newarray .int, 2) := fo_188 (fw_get da_cX5_init_3 3 rfl)
theorem dX5_init_139 : decode cX5_init 139 = .ok (.putfield 56, 3) := fo_181 (fw_get da_cX5_init_3 4 rfl)
theorem dX5_init_142 : decode cX5_init 142 = .ok (.aload_n 0, 1) := fo_42 (fw_get da_cX5_init_3 5 rfl)
theorem dX5_init_143 : decode cX5_init 143 = .ok (.bipush 12, 2) := fo_16 (fw_get da_cX5_init_3 6 rfl) (by decide +kernel)
theorem dX5_init_145 : decode cX5_init 145 = .ok (.newarray .int, 2) := fo_188 (fw_get da_cX5_init_3 7 rfl)
theorem dX5_init_147 : decode cX5_init 147 = .ok (.putfield 59, 3) := fo_181 (fw_get da_cX5_init_3 8 rfl)
theorem dX5_init_150 : decode cX5_init 150 = .ok (.aload_n 0, 1) := fo_42 (fw_get da_cX5_init_3 9 rfl)
theorem dX5_init_151 : decode cX5_init 151 = .ok (.sipush 160, 3) := fo_17 (fw_get da_cX5_init_3 10 rfl) (by decide +kernel)
theorem dX5_init_154 : decode cX5_init 154 = .ok (.newarray .int, 2) := fo_188 (fw_get da_cX5_init_3 11 rfl)
theorem dX5_init_156 : decode cX5_init 156 = .ok (.putfield 62, 3) := fo_181 (fw_get da_cX5_init_3 12 rfl)
theorem dX5_init_159 : decode cX5_init 159 = .ok (.aload_n 0, 1) := fo_42 (fw_get da_cX5_init_3 13 rfl)
theorem dX5_init_160 : decode cX5_init 160 = .ok (.sipush 160, 3) := fo_17 (fw_get da_cX5_init_3 14 rfl) (by decide +kernel)
theorem dX5_init_163 : decode cX5_init 163 = .ok (.newarray .int, 2) := fo_188 (fw_get da_cX5_init_3 15 rfl)
theorem dX5_init_165 : decode cX5_init 165 = .ok (.putfield 65, 3) := fo_181 (fw_get da_cX5_init_3 16 rfl)
theorem dX5_init_168 : decode cX5_init 168 = .ok (.aload_n 0, 1) := fo_42 (fw_get da_cX5_init_3 17 rfl)
theorem dX5_init_169 : decode cX5_init 169 = .ok (.sipush 161, 3) := fo_17 (fw_get da_cX5_init_3 18 rfl) (by decide +kernel)
theorem dX5_init_172 : decode cX5_init 172 = .ok (.newarray .int, 2) := fo_188 (fw_get da_cX5_init_3 19 rfl)
def dt_cX5_init_4 : List (Nat × Nat × Nat × Nat) := [(174, 181, 2, 68), (177, 42, 0, 0), (178, 17, 2, 160), (181, 188, 1, 10), (183, 181, 2, 71), (186, 42, 0, 0), (187, 17, 2, 160), (190, 188, 1, 10), (192, 181, 2, 74), (195, 177, 0, 0)]
theorem da_cX5_init_4 : fw dt_cX5_init_4 0 cX5_init.data.toList = true := by decide +kernel
theorem dX5_init_174 : decode cX5_init 174 = .ok (.putfield 68, 3) := fo_181 (fw_get da_cX5_init_4 0 rfl)
theorem dX5_init_177 : decode cX5_init 177 = .ok (.aload_n 0, 1) := fo_42 (fw_get da_cX5_init_4 1 rfl)
theorem dX5_init_178 : decode cX5_init 178 = .ok (.sipush 160, 3) := fo_17 (fw_get da_cX5_init_4 2 rfl) (by decide +kernel)
theorem dX5_init_181 : decode cX5_init 181 = .ok (.newarray .int, 2) := fo_188 (fw_get da_cX5_init_4 3 rfl)
theorem dX5_init_183 : decode cX5_init 183 = .ok (.putfield 71, 3) := fo_181 (fw_get da_cX5_init_4 4 rfl)
theorem dX5_init_186 : decode cX5_init 186 = .ok (.aload_n 0, 1) := fo_42 (fw_get da_cX5_init_4 5 rfl)
theorem dX5_init_187 : decode cX5_init 187 = .ok (.sipush 160, 3) := fo_17 (fw_get da_cX5_init_4 6 rfl) (by decide +kernel)
theorem dX5_init_190 : decode cX5_init 190 = .ok (.newarray .int, 2) := fo_188 (fw_get da_cX5_init_4 7 rfl)
theorem dX5_init_192 : decode cX5_init 192 = .ok (.putfield 74, 3) := fo_181 (fw_get da_cX5_init_4 8 rfl)
theorem dX5_init_195 : decode cX5_init 195 = .ok (.return_, 1) := fo_177 (fw_get da_cX5_init_4 9 rfl)


set_option maxHeartbeats 4000000 in
set_option maxRecDepth 100000 in
theorem c_X0_init (l : Launch) (dC : Nat → ClassId) (dI : Nat → Nat → Nat) (h0 : Nat) (cyI : ClassId) (sz : Nat) : Met l yX0_init wsX0_init ({ frames := 1, cells := 1, slots := 160, locals := 45 }) (va_Pc [.ref h0] (fun U => U.heap.size = sz ∧ va_P (dC, dI) vwCl [(h0, .inr (0, [.null, .int 0]))] U.heap ∧ va_K (dC, dI) vwCl [(cyI, .int)] U ∧ va_D (fun _ => True) [(h0, .inr (0, [.null, .int 0]))])) (va_Qv (fun _ : Unit => True) (fun (_ : Unit) (t : State) => ∃ (k1 : Nat), va_P (dC, dI) vwCl [kx_0 h0 k1 0, kx_a k1 cyI 160 (fun _ => 0)] t.heap ∧ va_K (dC, dI) vwCl [(cyI, .int)] t ∧ va_D (va_A [(h0, .inr (0, [.null, .int 0]))] sz) [kx_0 h0 k1 0, kx_a k1 cyI 160 (fun _ => 0)]) (va_A [(h0, .inr (0, [.null, .int 0]))] sz)) 1 160 (va_A [(h0, .inr (0, [.null, .int 0]))] sz) := by
  refine Met.ofW (cc := cX0_init) (maxL := 1) (ret := none) (by decide) rfl ?_
  intro p e s m args below meth c s₁ B hml hv
  obtain ⟨rfl, hsz, hP, hK, hD0⟩ := hv
  have hx := B.exec
  have hb := B.bytes
  have hr := B.returns
  have hts := atoms_spec (ws := wsX0_init) B.pre
  have hown : s.vm.findClass RX0 = some m.cls := findClass_of_methodNamed B.named
  have hlocks := B.notSynchronized
  have hin : meth.name = "<init>" := (name_of_methodNamed B.named B.method).1
  subst hsz
  have hD := hD0.self (sz := s.heap.size)
  generalize hAe : va_A [(h0, .inr (0, [.null, .int 0]))] s.heap.size = A at hD ⊢
  have hA : ∀ q : Nat, s.heap.size ≤ q → A q := fun q h => by rw [← hAe]; exact Or.inr h
  have hS : va_S A s.heap s.heap [] := va_S.rf
  have hP : va_P (dC, dI) vwCl [(h0, .inr (0, [.null, .int 0]))] s.heap := hP
  have hl := lv_entry ([.ref h0]) (n := 1) (Nat.le_of_ble_eq_true rfl)
  rw [lg_entry_eq]
  generalize (lg_sl ([.ref h0]) ++ List.replicate (1 - (lg_sl ([.ref h0])).length) Slot.unset).toArray = ls at hl ⊢
  have hl : lv_has ls 1 [(0, .ref h0)] := hl
  have hm_3 := hts (.methodLink RX0 3 objectInit) (List.mem_of_getElem? (i := 1) rfl)
  have ho_i := hts (.instanceMethod objectInit) (List.mem_of_getElem? (i := 2) rfl)
  have ho_c := hts (.code objectInit ⟨#[0xb1]⟩ 1 none) (List.mem_of_getElem? (i := 3) rfl)
  have ha_int := hts (.arrayClass .int) (List.mem_of_getElem? (i := 4) rfl)
  have hf_9 := hts (.fieldLink RX0 9 "MajorityIndex$Row" "cell" "[I") (List.mem_of_getElem? (i := 5) rfl)
  have hi_0 : ∀ w ∈ u_ws RX0 TX0 2, w ∈ wsX0_init := fun w h => List.mem_cons_of_mem _ (List.mem_append_right _ h)
  refine lv_aload_n hx hb dX0_init_0 rfl (lv_at hl 0 rfl) ?_
  refine W.objInit hx hb hown hm_3 ho_i ho_c rfl (by rw [hml]; exact hl.1) rfl dX0_init_1 (Nat.le_of_ble_eq_true rfl) (Nat.le_of_ble_eq_true rfl) ?_
  refine W.eq (g2 := F0 m 4 ls []) rfl ?_
  refine lv_aload_n hx hb dX0_init_4 rfl (lv_at hl 0 rfl) ?_
  refine lv_sipush (v := 160) hx hb dX0_init_5 (by decide) ?_
  refine va_newa (atype := .int) (a0 := (160, .inl (fun _ => 0))) hx hb ha_int rfl hK hP hD hS hA (N' := 160) (fun cA => ki_zi cA 160) (by decide) (by decide) (Nat.le_of_ble_eq_true rfl) (Nat.le_of_ble_eq_true rfl) (Nat.le_of_ble_eq_true rfl) dX0_init_8 (fun q_1 cA_2 H hK hP hD hS => ?_)
  obtain rfl : cyI = cA_2 := (ki_cA hK 0 1 rfl rfl).symm
  have hK : va_K (dC, dI) vwCl [(cyI, .int)] s := hK.sub [0] rfl
  refine W.widen (k := 1) (n := 160) (Nat.le_of_ble_eq_true rfl) (Nat.le_of_ble_eq_true rfl) ?_
  obtain ⟨hP, hD⟩ := kx_re (w2 := [(h0, .inr (0, [.null, .int 0])), kx_a q_1 cyI 160 (fun _ => 0)]) hP hD rfl
  refine va_putF (D := (dC, dI)) (ci := 0) (v := .ref q_1) (ty := .array .int) (C := RX0) (T := TX0) (N := 2) hx hb hts hi_0 tyX0 tyX0_ok nmX0 hown hK hP hD hS 0 rfl rfl 0 (by decide) hf_9 (fun _ h9 => h9) rfl hin rfl (by decide +kernel) rfl rfl (Nat.le_of_ble_eq_true rfl) dX0_init_10 (fun H locs hP hD hS => ?_)
  obtain ⟨hP, hD⟩ := kx_re (w2 := [kx_0 h0 q_1 0, kx_a q_1 cyI 160 (fun _ => 0)]) hP hD rfl
  have hP9 := hP
  have hD9 := hD
  have hK9 := hK
  exact W.vret hx hb hr (hlocks := hlocks) (fun t ht hW => ⟨⟨(), rfl, trivial, q_1, by rw [ht]; exact hP9, va_K.moved hW.alike hK9, hD9⟩, hS.F ht⟩) hS.2.2 dX0_init_13

set_option maxHeartbeats 4000000 in
set_option maxRecDepth 100000 in
theorem c_X1_init (l : Launch) (dC : Nat → ClassId) (dI : Nat → Nat → Nat) (h0 : Nat) (cyI : ClassId) (sz : Nat) : Met l yX1_init wsX1_init ({ frames := 1, cells := 2, slots := 320, locals := 45 }) (va_Pc [.ref h0] (fun U => U.heap.size = sz ∧ va_P (dC, dI) vwCl [(h0, .inr (1, [.null, .null, .int 0, .int 0]))] U.heap ∧ va_K (dC, dI) vwCl [(cyI, .int)] U ∧ va_D (fun _ => True) [(h0, .inr (1, [.null, .null, .int 0, .int 0]))])) (va_Qv (fun _ : Unit => True) (fun (_ : Unit) (t : State) => ∃ (k1 : Nat) (k2 : Nat), va_P (dC, dI) vwCl [kx_1 h0 k1 k2 0 0, kx_a k1 cyI 160 (fun _ => 0), kx_a k2 cyI 160 (fun _ => 0)] t.heap ∧ va_K (dC, dI) vwCl [(cyI, .int)] t ∧ va_D (va_A [(h0, .inr (1, [.null, .null, .int 0, .int 0]))] sz) [kx_1 h0 k1 k2 0 0, kx_a k1 cyI 160 (fun _ => 0), kx_a k2 cyI 160 (fun _ => 0)]) (va_A [(h0, .inr (1, [.null, .null, .int 0, .int 0]))] sz)) 2 320 (va_A [(h0, .inr (1, [.null, .null, .int 0, .int 0]))] sz) := by
  refine Met.ofW (cc := cX1_init) (maxL := 1) (ret := none) (by decide) rfl ?_
  intro p e s m args below meth c s₁ B hml hv
  obtain ⟨rfl, hsz, hP, hK, hD0⟩ := hv
  have hx := B.exec
  have hb := B.bytes
  have hr := B.returns
  have hts := atoms_spec (ws := wsX1_init) B.pre
  have hown : s.vm.findClass RX1 = some m.cls := findClass_of_methodNamed B.named
  have hlocks := B.notSynchronized
  have hin : meth.name = "<init>" := (name_of_methodNamed B.named B.method).1
  subst hsz
  have hD := hD0.self (sz := s.heap.size)
  generalize hAe : va_A [(h0, .inr (1, [.null, .null, .int 0, .int 0]))] s.heap.size = A at hD ⊢
  have hA : ∀ q : Nat, s.heap.size ≤ q → A q := fun q h => by rw [← hAe]; exact Or.inr h
  have hS : va_S A s.heap s.heap [] := va_S.rf
  have hP : va_P (dC, dI) vwCl [(h0, .inr (1, [.null, .null, .int 0, .int 0]))] s.heap := hP
  have hl := lv_entry ([.ref h0]) (n := 1) (Nat.le_of_ble_eq_true rfl)
  rw [lg_entry_eq]
  generalize (lg_sl ([.ref h0]) ++ List.replicate (1 - (lg_sl ([.ref h0])).length) Slot.unset).toArray = ls at hl ⊢
  have hl : lv_has ls 1 [(0, .ref h0)] := hl
  have hm_3 := hts (.methodLink RX1 3 objectInit) (List.mem_of_getElem? (i := 1) rfl)
  have ho_i := hts (.instanceMethod objectInit) (List.mem_of_getElem? (i := 2) rfl)
  have ho_c := hts (.code objectInit ⟨#[0xb1]⟩ 1 none) (List.mem_of_getElem? (i := 3) rfl)
  have ha_int := hts (.arrayClass .int) (List.mem_of_getElem? (i := 4) rfl)
  have hf_9 := hts (.fieldLink RX1 9 "MajorityIndex$Tally" "kind" "[I") (List.mem_of_getElem? (i := 5) rfl)
  have hi_1 : ∀ w ∈ u_ws RX1 TX1 4, w ∈ wsX1_init := fun w h => List.mem_cons_of_mem _ (List.mem_append_right _ h)
  have hf_15 := hts (.fieldLink RX1 15 "MajorityIndex$Tally" "often" "[I") (List.mem_of_getElem? (i := 6) rfl)
  refine lv_aload_n hx hb dX1_init_0 rfl (lv_at hl 0 rfl) ?_
  refine W.objInit hx hb hown hm_3 ho_i ho_c rfl (by rw [hml]; exact hl.1) rfl dX1_init_1 (Nat.le_of_ble_eq_true rfl) (Nat.le_of_ble_eq_true rfl) ?_
  refine W.eq (g2 := F0 m 4 ls []) rfl ?_
  refine lv_aload_n hx hb dX1_init_4 rfl (lv_at hl 0 rfl) ?_
  refine lv_sipush (v := 160) hx hb dX1_init_5 (by decide) ?_
  refine va_newa (atype := .int) (a0 := (160, .inl (fun _ => 0))) hx hb ha_int rfl hK hP hD hS hA (N' := 160) (fun cA => ki_zi cA 160) (by decide) (by decide) (Nat.le_of_ble_eq_true rfl) (Nat.le_of_ble_eq_true rfl) (Nat.le_of_ble_eq_true rfl) dX1_init_8 (fun q_1 cA_2 H hK hP hD hS => ?_)
  obtain rfl : cyI = cA_2 := (ki_cA hK 0 1 rfl rfl).symm
  have hK : va_K (dC, dI) vwCl [(cyI, .int)] s := hK.sub [0] rfl
  refine W.widen (k := 1) (n := 160) (Nat.le_of_ble_eq_true rfl) (Nat.le_of_ble_eq_true rfl) ?_
  obtain ⟨hP, hD⟩ := kx_re (w2 := [(h0, .inr (1, [.null, .null, .int 0, .int 0])), kx_a q_1 cyI 160 (fun _ => 0)]) hP hD rfl
  refine va_putF (D := (dC, dI)) (ci := 1) (v := .ref q_1) (ty := .array .int) (C := RX1) (T := TX1) (N := 4) hx hb hts hi_1 tyX1 tyX1_ok nmX1 hown hK hP hD hS 0 rfl rfl 0 (by decide) hf_9 (fun _ h9 => h9) rfl hin rfl (by decide +kernel) rfl rfl (Nat.le_of_ble_eq_true rfl) dX1_init_10 (fun H locs hP hD hS => ?_)
  obtain ⟨hP, hD⟩ := kx_re (w2 := [(h0, .inr (1, [.ref q_1, .null, .int 0, .int 0])), kx_a q_1 cyI 160 (fun _ => 0)]) hP hD rfl
  refine lv_aload_n hx hb dX1_init_13 rfl (lv_at hl 0 rfl) ?_
  refine lv_sipush (v := 160) hx hb dX1_init_14 (by decide) ?_
  refine va_newa (atype := .int) (a0 := (160, .inl (fun _ => 0))) hx hb ha_int rfl hK hP hD hS hA (N' := 160) (fun cA => ki_zi cA 160) (by decide) (by decide) (Nat.le_of_ble_eq_true rfl) (Nat.le_of_ble_eq_true rfl) (Nat.le_of_ble_eq_true rfl) dX1_init_17 (fun q_3 cA_4 H hK hP hD hS => ?_)
  obtain rfl : cyI = cA_4 := (ki_cA hK 0 1 rfl rfl).symm
  have hK : va_K (dC, dI) vwCl [(cyI, .int)] s := hK.sub [0] rfl
  refine W.widen (k := 2) (n := 320) (Nat.le_of_ble_eq_true rfl) (Nat.le_of_ble_eq_true rfl) ?_
  obtain ⟨hP, hD⟩ := kx_re (w2 := [(h0, .inr (1, [.ref q_1, .null, .int 0, .int 0])), kx_a q_1 cyI 160 (fun _ => 0), kx_a q_3 cyI 160 (fun _ => 0)]) hP hD rfl
  refine va_putF (D := (dC, dI)) (ci := 1) (v := .ref q_3) (ty := .array .int) (C := RX1) (T := TX1) (N := 4) hx hb hts hi_1 tyX1 tyX1_ok nmX1 hown hK hP hD hS 0 rfl rfl 1 (by decide) hf_15 (fun _ h9 => h9) rfl hin rfl (by decide +kernel) rfl rfl (Nat.le_of_ble_eq_true rfl) dX1_init_19 (fun H locs hP hD hS => ?_)
  obtain ⟨hP, hD⟩ := kx_re (w2 := [kx_1 h0 q_1 q_3 0 0, kx_a q_1 cyI 160 (fun _ => 0), kx_a q_3 cyI 160 (fun _ => 0)]) hP hD rfl
  have hP9 := hP
  have hD9 := hD
  have hK9 := hK
  exact W.vret hx hb hr (hlocks := hlocks) (fun t ht hW => ⟨⟨(), rfl, trivial, q_1, q_3, by rw [ht]; exact hP9, va_K.moved hW.alike hK9, hD9⟩, hS.F ht⟩) hS.2.2 dX1_init_22

set_option maxHeartbeats 4000000 in
set_option maxRecDepth 100000 in
theorem c_X3_init (l : Launch) (dC : Nat → ClassId) (dI : Nat → Nat → Nat) (h0 : Nat) (cyI : ClassId) (sz : Nat) : Met l yX3_init wsX3_init ({ frames := 1, cells := 2, slots := 24, locals := 45 }) (va_Pc [.ref h0] (fun U => U.heap.size = sz ∧ va_P (dC, dI) vwCl [(h0, .inr (3, [.null, .null, .int 0, .int 0, .int 0]))] U.heap ∧ va_K (dC, dI) vwCl [(cyI, .int)] U ∧ va_D (fun _ => True) [(h0, .inr (3, [.null, .null, .int 0, .int 0, .int 0]))])) (va_Qv (fun _ : Unit => True) (fun (_ : Unit) (t : State) => ∃ (k1 : Nat) (k2 : Nat), va_P (dC, dI) vwCl [kx_3 h0 k1 k2 0 0 0, kx_a k1 cyI 12 (fun _ => 0), kx_a k2 cyI 12 (fun _ => 0)] t.heap ∧ va_K (dC, dI) vwCl [(cyI, .int)] t ∧ va_D (va_A [(h0, .inr (3, [.null, .null, .int 0, .int 0, .int 0]))] sz) [kx_3 h0 k1 k2 0 0 0, kx_a k1 cyI 12 (fun _ => 0), kx_a k2 cyI 12 (fun _ => 0)]) (va_A [(h0, .inr (3, [.null, .null, .int 0, .int 0, .int 0]))] sz)) 2 24 (va_A [(h0, .inr (3, [.null, .null, .int 0, .int 0, .int 0]))] sz) := by
  refine Met.ofW (cc := cX3_init) (maxL := 1) (ret := none) (by decide) rfl ?_
  intro p e s m args below meth c s₁ B hml hv
  obtain ⟨rfl, hsz, hP, hK, hD0⟩ := hv
  have hx := B.exec
  have hb := B.bytes
  have hr := B.returns
  have hts := atoms_spec (ws := wsX3_init) B.pre
  have hown : s.vm.findClass RX3 = some m.cls := findClass_of_methodNamed B.named
  have hlocks := B.notSynchronized
  have hin : meth.name = "<init>" := (name_of_methodNamed B.named B.method).1
  subst hsz
  have hD := hD0.self (sz := s.heap.size)
  generalize hAe : va_A [(h0, .inr (3, [.null, .null, .int 0, .int 0, .int 0]))] s.heap.size = A at hD ⊢
  have hA : ∀ q : Nat, s.heap.size ≤ q → A q := fun q h => by rw [← hAe]; exact Or.inr h
  have hS : va_S A s.heap s.heap [] := va_S.rf
  have hP : va_P (dC, dI) vwCl [(h0, .inr (3, [.null, .null, .int 0, .int 0, .int 0]))] s.heap := hP
  have hl := lv_entry ([.ref h0]) (n := 1) (Nat.le_of_ble_eq_true rfl)
  rw [lg_entry_eq]
  generalize (lg_sl ([.ref h0]) ++ List.replicate (1 - (lg_sl ([.ref h0])).length) Slot.unset).toArray = ls at hl ⊢
  have hl : lv_has ls 1 [(0, .ref h0)] := hl
  have hm_3 := hts (.methodLink RX3 3 objectInit) (List.mem_of_getElem? (i := 1) rfl)
  have ho_i := hts (.instanceMethod objectInit) (List.mem_of_getElem? (i := 2) rfl)
  have ho_c := hts (.code objectInit ⟨#[0xb1]⟩ 1 none) (List.mem_of_getElem? (i := 3) rfl)
  have ha_int := hts (.arrayClass .int) (List.mem_of_getElem? (i := 4) rfl)
  have hf_9 := hts (.fieldLink RX3 9 "MajorityIndex$Votes" "value" "[I") (List.mem_of_getElem? (i := 5) rfl)
  have hi_3 : ∀ w ∈ u_ws RX3 TX3 5, w ∈ wsX3_init := fun w h => List.mem_cons_of_mem _ (List.mem_append_right _ h)
  have hf_15 := hts (.fieldLink RX3 15 "MajorityIndex$Votes" "number" "[I") (List.mem_of_getElem? (i := 6) rfl)
  refine lv_aload_n hx hb dX3_init_0 rfl (lv_at hl 0 rfl) ?_
  refine W.objInit hx hb hown hm_3 ho_i ho_c rfl (by rw [hml]; exact hl.1) rfl dX3_init_1 (Nat.le_of_ble_eq_true rfl) (Nat.le_of_ble_eq_true rfl) ?_
  refine W.eq (g2 := F0 m 4 ls []) rfl ?_
  refine lv_aload_n hx hb dX3_init_4 rfl (lv_at hl 0 rfl) ?_
  refine lv_bipush (v := 12) hx hb dX3_init_5 (by decide) ?_
  refine va_newa (atype := .int) (a0 := (12, .inl (fun _ => 0))) hx hb ha_int rfl hK hP hD hS hA (N' := 12) (fun cA => ki_zi cA 12) (by decide) (by decide) (Nat.le_of_ble_eq_true rfl) (Nat.le_of_ble_eq_true rfl) (Nat.le_of_ble_eq_true rfl) dX3_init_7 (fun q_1 cA_2 H hK hP hD hS => ?_)
  obtain rfl : cyI = cA_2 := (ki_cA hK 0 1 rfl rfl).symm
  have hK : va_K (dC, dI) vwCl [(cyI, .int)] s := hK.sub [0] rfl
  refine W.widen (k := 1) (n := 12) (Nat.le_of_ble_eq_true rfl) (Nat.le_of_ble_eq_true rfl) ?_
  obtain ⟨hP, hD⟩ := kx_re (w2 := [(h0, .inr (3, [.null, .null, .int 0, .int 0, .int 0])), kx_a q_1 cyI 12 (fun _ => 0)]) hP hD rfl
  refine va_putF (D := (dC, dI)) (ci := 3) (v := .ref q_1) (ty := .array .int) (C := RX3) (T := TX3) (N := 5) hx hb hts hi_3 tyX3 tyX3_ok nmX3 hown hK hP hD hS 0 rfl rfl 0 (by decide) hf_9 (fun _ h9 => h9) rfl hin rfl (by decide +kernel) rfl rfl (Nat.le_of_ble_eq_true rfl) dX3_init_9 (fun H locs hP hD hS => ?_)
  obtain ⟨hP, hD⟩ := kx_re (w2 := [(h0, .inr (3, [.ref q_1, .null, .int 0, .int 0, .int 0])), kx_a q_1 cyI 12 (fun _ => 0)]) hP hD rfl
  refine lv_aload_n hx hb dX3_init_12 rfl (lv_at hl 0 rfl) ?_
  refine lv_bipush (v := 12) hx hb dX3_init_13 (by decide) ?_
  refine va_newa (atype := .int) (a0 := (12, .inl (fun _ => 0))) hx hb ha_int rfl hK hP hD hS hA (N' := 12) (fun cA => ki_zi cA 12) (by decide) (by decide) (Nat.le_of_ble_eq_true rfl) (Nat.le_of_ble_eq_true rfl) (Nat.le_of_ble_eq_true rfl) dX3_init_15 (fun q_3 cA_4 H hK hP hD hS => ?_)
  obtain rfl : cyI = cA_4 := (ki_cA hK 0 1 rfl rfl).symm
  have hK : va_K (dC, dI) vwCl [(cyI, .int)] s := hK.sub [0] rfl
  refine W.widen (k := 2) (n := 24) (Nat.le_of_ble_eq_true rfl) (Nat.le_of_ble_eq_true rfl) ?_
  obtain ⟨hP, hD⟩ := kx_re (w2 := [(h0, .inr (3, [.ref q_1, .null, .int 0, .int 0, .int 0])), kx_a q_1 cyI 12 (fun _ => 0), kx_a q_3 cyI 12 (fun _ => 0)]) hP hD rfl
  refine va_putF (D := (dC, dI)) (ci := 3) (v := .ref q_3) (ty := .array .int) (C := RX3) (T := TX3) (N := 5) hx hb hts hi_3 tyX3 tyX3_ok nmX3 hown hK hP hD hS 0 rfl rfl 1 (by decide) hf_15 (fun _ h9 => h9) rfl hin rfl (by decide +kernel) rfl rfl (Nat.le_of_ble_eq_true rfl) dX3_init_17 (fun H locs hP hD hS => ?_)
  obtain ⟨hP, hD⟩ := kx_re (w2 := [kx_3 h0 q_1 q_3 0 0 0, kx_a q_1 cyI 12 (fun _ => 0), kx_a q_3 cyI 12 (fun _ => 0)]) hP hD rfl
  have hP9 := hP
  have hD9 := hD
  have hK9 := hK
  exact W.vret hx hb hr (hlocks := hlocks) (fun t ht hW => ⟨⟨(), rfl, trivial, q_1, q_3, by rw [ht]; exact hP9, va_K.moved hW.alike hK9, hD9⟩, hS.F ht⟩) hS.2.2 dX3_init_20

set_option maxHeartbeats 4000000 in
set_option maxRecDepth 100000 in
theorem c_X2_init (l : Launch) (dC : Nat → ClassId) (dI : Nat → Nat → Nat) (h0 : Nat) (h1 : Nat) (cyI : ClassId) (sz : Nat) : Met l yX2_init wsX2_init ({ frames := 2, cells := 10, slots := 5452, locals := 90 }) (va_Pc [.ref h0, .ref h1] (fun U => U.heap.size = sz ∧ va_P (dC, dI) vwCl [(h0, .inr (2, [.null, .null, .null, .null, .null, .null, .null, .null, .null, .int 0, .int 0]))] U.heap ∧ va_K (dC, dI) vwCl [(cyI, .int)] U ∧ va_D (fun _ => True) [(h0, .inr (2, [.null, .null, .null, .null, .null, .null, .null, .null, .null, .int 0, .int 0]))] ∧ va_Nw (.methodLinkNest RX2 11 yX3_init RX4) U)) (va_Qv (fun _ : Unit => True) (fun (_ : Unit) (t : State) => ∃ (k_joined : Nat) (k_from : Nat) (k_to : Nat) (k_size : Nat) (k_lossOf : Nat) (k_lessBy : Nat) (k_value : Nat) (k_number : Nat) (k_jv : Nat) (k_jn : Nat), va_P (dC, dI) vwCl [kx_2 h0 h1 k_joined k_from k_to k_size k_lossOf k_lessBy k_value k_number 0 0, kx_3 k_joined k_jv k_jn 0 0 0, kx_a k_jv cyI 12 (fun _ => 0), kx_a k_jn cyI 12 (fun _ => 0), kx_a k_from cyI 319 (fun _ => 0), kx_a k_to cyI 319 (fun _ => 0), kx_a k_size cyI 319 (fun _ => 0), kx_a k_lossOf cyI 319 (fun _ => 0), kx_a k_lessBy cyI 319 (fun _ => 0), kx_a k_value cyI 1914 (fun _ => 0), kx_a k_number cyI 1914 (fun _ => 0)] t.heap ∧ va_K (dC, dI) vwCl [(cyI, .int)] t ∧ va_D (va_A [(h0, .inr (2, [.null, .null, .null, .null, .null, .null, .null, .null, .null, .int 0, .int 0]))] sz) [kx_2 h0 h1 k_joined k_from k_to k_size k_lossOf k_lessBy k_value k_number 0 0, kx_3 k_joined k_jv k_jn 0 0 0, kx_a k_jv cyI 12 (fun _ => 0), kx_a k_jn cyI 12 (fun _ => 0), kx_a k_from cyI 319 (fun _ => 0), kx_a k_to cyI 319 (fun _ => 0), kx_a k_size cyI 319 (fun _ => 0), kx_a k_lossOf cyI 319 (fun _ => 0), kx_a k_lessBy cyI 319 (fun _ => 0), kx_a k_value cyI 1914 (fun _ => 0), kx_a k_number cyI 1914 (fun _ => 0)]) (va_A [(h0, .inr (2, [.null, .null, .null, .null, .null, .null, .null, .null, .null, .int 0, .int 0]))] sz)) 10 5452 (va_A [(h0, .inr (2, [.null, .null, .null, .null, .null, .null, .null, .null, .null, .int 0, .int 0]))] sz) := by
  refine Met.ofW (cc := cX2_init) (maxL := 2) (ret := none) (by decide) rfl ?_
  intro p e s m args below meth c s₁ B hml hv
  obtain ⟨rfl, hsz, hP, hK, hD0, hN0⟩ := hv
  have hx := B.exec
  have hb := B.bytes
  have hr := B.returns
  have hts := atoms_spec (ws := wsX2_init) B.pre
  have hown : s.vm.findClass RX2 = some m.cls := findClass_of_methodNamed B.named
  have hlocks := B.notSynchronized
  have hin : meth.name = "<init>" := (name_of_methodNamed B.named B.method).1
  subst hsz
  have hD := hD0.self (sz := s.heap.size)
  generalize hAe : va_A [(h0, .inr (2, [.null, .null, .null, .null, .null, .null, .null, .null, .null, .int 0, .int 0]))] s.heap.size = A at hD ⊢
  have hA : ∀ q : Nat, s.heap.size ≤ q → A q := fun q h => by rw [← hAe]; exact Or.inr h
  have hS : va_S A s.heap s.heap [] := va_S.rf
  have hP : va_P (dC, dI) vwCl [(h0, .inr (2, [.null, .null, .null, .null, .null, .null, .null, .null, .null, .int 0, .int 0]))] s.heap := hP
  have hl := lv_entry ([.ref h0, .ref h1]) (n := 2) (Nat.le_of_ble_eq_true rfl)
  rw [lg_entry_eq]
  generalize (lg_sl ([.ref h0, .ref h1]) ++ List.replicate (2 - (lg_sl ([.ref h0, .ref h1])).length) Slot.unset).toArray = ls at hl ⊢
  have hl : lv_has ls 2 [(0, .ref h0), (1, .ref h1)] := hl
  have hm_3 := hts (.methodLink RX2 3 objectInit) (List.mem_of_getElem? (i := 1) rfl)
  have ho_i := hts (.instanceMethod objectInit) (List.mem_of_getElem? (i := 2) rfl)
  have ho_c := hts (.code objectInit ⟨#[0xb1]⟩ 1 none) (List.mem_of_getElem? (i := 3) rfl)
  have hc_9 := hts (.classLink RX2 9 RX3) (List.mem_of_getElem? (i := 4) rfl)
  have hj_3 := hts (.instantiable RX3 5) (List.mem_of_getElem? (i := 5) rfl)
  have hz_3 := hts (.initialized RX3) (List.mem_of_getElem? (i := 6) rfl)
  have hi_3 : ∀ w ∈ u_ws RX3 TX3 5, w ∈ wsX2_init := fun w h => List.mem_cons_of_mem _ (List.mem_append_left _ (List.mem_append_right _ h))
  have hz_RX3 := hts (.initialized RX3) (List.mem_of_getElem? (i := 6) rfl)
  have hq_X3_init := hts (.instanceMethod yX3_init) (List.mem_of_getElem? (i := 17) rfl)
  have hf_12 := hts (.fieldLink RX2 12 "MajorityIndex$Tree" "joined" "LMajorityIndex$Votes;") (List.mem_of_getElem? (i := 7) rfl)
  have hi_2 : ∀ w ∈ u_ws RX2 TX2 11, w ∈ wsX2_init := fun w h => List.mem_cons_of_mem _ (List.mem_append_right _ h)
  have ha_int := hts (.arrayClass .int) (List.mem_of_getElem? (i := 8) rfl)
  have hf_18 := hts (.fieldLink RX2 18 "MajorityIndex$Tree" "from" "[I") (List.mem_of_getElem? (i := 9) rfl)
  have hf_22 := hts (.fieldLink RX2 22 "MajorityIndex$Tree" "to" "[I") (List.mem_of_getElem? (i := 10) rfl)
  have hf_25 := hts (.fieldLink RX2 25 "MajorityIndex$Tree" "size" "[I") (List.mem_of_getElem? (i := 11) rfl)
  have hf_28 := hts (.fieldLink RX2 28 "MajorityIndex$Tree" "lossOf" "[I") (List.mem_of_getElem? (i := 12) rfl)
  have hf_31 := hts (.fieldLink RX2 31 "MajorityIndex$Tree" "lessBy" "[I") (List.mem_of_getElem? (i := 13) rfl)
  have hf_34 := hts (.fieldLink RX2 34 "MajorityIndex$Tree" "value" "[I") (List.mem_of_getElem? (i := 14) rfl)
  have hf_37 := hts (.fieldLink RX2 37 "MajorityIndex$Tree" "number" "[I") (List.mem_of_getElem? (i := 15) rfl)
  have hf_40 := hts (.fieldLink RX2 40 "MajorityIndex$Tree" "row" "LMajorityIndex$Row;") (List.mem_of_getElem? (i := 16) rfl)
  refine lv_aload_n hx hb dX2_init_0 rfl (lv_at hl 0 rfl) ?_
  refine W.objInit hx hb hown hm_3 ho_i ho_c rfl (by rw [hml]; exact hl.1) rfl dX2_init_1 (Nat.le_of_ble_eq_true rfl) (Nat.le_of_ble_eq_true rfl) ?_
  refine W.eq (g2 := F0 m 4 ls []) rfl ?_
  refine lv_aload_n hx hb dX2_init_4 rfl (lv_at hl 0 rfl) ?_
  refine va_new (ci := 3) (fs := [.null, .null, .int 0, .int 0, .int 0]) (C := RX3) (T := TX3) (N := 5) hx hb hts hi_3 tyX3 tyX3_ok hown hc_9 hj_3 hz_3 hK hP hD hS hA rfl (ki_z3) (Nat.le_of_ble_eq_true rfl) (Nat.le_of_ble_eq_true rfl) dX2_init_5 (fun q_1 H hP hD hS => ?_)
  refine W.widen (k := 1) (n := 5) (Nat.le_of_ble_eq_true rfl) (Nat.le_of_ble_eq_true rfl) ?_
  obtain ⟨hP, hD⟩ := kx_re (w2 := [(h0, .inr (2, [.null, .null, .null, .null, .null, .null, .null, .null, .null, .int 0, .int 0])), (q_1, .inr (3, [.null, .null, .int 0, .int 0, .int 0]))]) hP hD rfl
  refine lv_dup hx hb dX2_init_8 rfl ?_
  obtain ⟨hPc, hDc, hFc, hCc⟩ := kx_pre (wc := [(q_1, .inr (3, [.null, .null, .int 0, .int 0, .int 0]))]) hP hD hS hA [1] (by decide) rfl
  have hKc := hK
  refine va_callv (va_runIN (As := []) (rest := [.ref q_1, .ref h0]) ⟨hx, hb, hml, hown, hts⟩ (c_X3_init l dC dI q_1 cyI H.size) ⟨(va_cnB 0 hts ggX2_init_X3_init rfl rfl rfl hN0 hz_RX3 (by decide +kernel) ⟨Nat.le_of_ble_eq_true rfl, Nat.le_of_ble_eq_true rfl⟩), rfl, hq_X3_init⟩ ⟨fun a U g mk q => by obtain ⟨q0, q1, qP, qK, qD⟩ := q; exact ⟨q0, q1, qP, va_K.moved (u := U) (U := U.calling g mk a) (Vm.Alike.refl U.vm) qK, qD⟩, fun U hU hW => ⟨rfl, by rw [hU], by rw [hU]; exact hPc, va_K.moved hW.alike hKc, hDc.weaken (fun _ _ _ _ => trivial)⟩⟩ rfl rfl hl.1 rfl (lv_room (Nat.le_of_ble_eq_true rfl)) dX2_init_9 ⟨Nat.le_of_ble_eq_true rfl, Nat.le_of_ble_eq_true rfl⟩) hS (fun q _ h => hFc q h) hFc (fun u t H1 locs ht hvm w_2 hB hz1 hk1 hS => ?_)
  obtain ⟨q_3, q_4, hP1, hK1, hD1⟩ := hB
  rw [ht] at hP1
  have hK1 := va_K.moved hvm.symm hK1
  obtain ⟨hP, hD⟩ := kx_join (w2 := [(h0, .inr (2, [.null, .null, .null, .null, .null, .null, .null, .null, .null, .int 0, .int 0])), kx_3 q_1 q_3 q_4 0 0 0, kx_a q_3 cyI 12 (fun _ => 0), kx_a q_4 cyI 12 (fun _ => 0)]) hP hD hP1 hD1 hk1 hFc [1] [0] hCc rfl (by decide) (by decide)
  clear hP1 hD1 hK1 hk1 hz1 hFc hDc hPc hKc hCc
  generalize H1 = H at hP hS ⊢
  refine W.widen (k := 3) (n := 29) (Nat.le_of_ble_eq_true rfl) (Nat.le_of_ble_eq_true rfl) ?_
  refine va_putF (D := (dC, dI)) (ci := 2) (v := .ref q_1) (ty := .object "MajorityIndex$Votes") (C := RX2) (T := TX2) (N := 11) hx hb hts hi_2 tyX2 tyX2_ok nmX2 hown hK hP hD hS 0 rfl rfl 1 (by decide) hf_12 (fun _ h9 => h9) rfl hin rfl (by decide +kernel) rfl rfl (Nat.le_of_ble_eq_true rfl) dX2_init_12 (fun H locs hP hD hS => ?_)
  obtain ⟨hP, hD⟩ := kx_re (w2 := [(h0, .inr (2, [.null, .ref q_1, .null, .null, .null, .null, .null, .null, .null, .int 0, .int 0])), kx_3 q_1 q_3 q_4 0 0 0, kx_a q_3 cyI 12 (fun _ => 0), kx_a q_4 cyI 12 (fun _ => 0)]) hP hD rfl
  refine lv_aload_n hx hb dX2_init_15 rfl (lv_at hl 0 rfl) ?_
  refine lv_sipush (v := 319) hx hb dX2_init_16 (by decide) ?_
  refine va_newa (atype := .int) (a0 := (319, .inl (fun _ => 0))) hx hb ha_int rfl hK hP hD hS hA (N' := 319) (fun cA => ki_zi cA 319) (by decide) (by decide) (Nat.le_of_ble_eq_true rfl) (Nat.le_of_ble_eq_true rfl) (Nat.le_of_ble_eq_true rfl) dX2_init_19 (fun q_5 cA_6 H hK hP hD hS => ?_)
  obtain rfl : cyI = cA_6 := (ki_cA hK 0 1 rfl rfl).symm
  have hK : va_K (dC, dI) vwCl [(cyI, .int)] s := hK.sub [0] rfl
  refine W.widen (k := 4) (n := 348) (Nat.le_of_ble_eq_true rfl) (Nat.le_of_ble_eq_true rfl) ?_
  obtain ⟨hP, hD⟩ := kx_re (w2 := [(h0, .inr (2, [.null, .ref q_1, .null, .null, .null, .null, .null, .null, .null, .int 0, .int 0])), kx_3 q_1 q_3 q_4 0 0 0, kx_a q_3 cyI 12 (fun _ => 0), kx_a q_4 cyI 12 (fun _ => 0), kx_a q_5 cyI 319 (fun _ => 0)]) hP hD rfl
  refine va_putF (D := (dC, dI)) (ci := 2) (v := .ref q_5) (ty := .array .int) (C := RX2) (T := TX2) (N := 11) hx hb hts hi_2 tyX2 tyX2_ok nmX2 hown hK hP hD hS 0 rfl rfl 2 (by decide) hf_18 (fun _ h9 => h9) rfl hin rfl (by decide +kernel) rfl rfl (Nat.le_of_ble_eq_true rfl) dX2_init_21 (fun H locs hP hD hS => ?_)
  obtain ⟨hP, hD⟩ := kx_re (w2 := [(h0, .inr (2, [.null, .ref q_1, .ref q_5, .null, .null, .null, .null, .null, .null, .int 0, .int 0])), kx_3 q_1 q_3 q_4 0 0 0, kx_a q_3 cyI 12 (fun _ => 0), kx_a q_4 cyI 12 (fun _ => 0), kx_a q_5 cyI 319 (fun _ => 0)]) hP hD rfl
  refine lv_aload_n hx hb dX2_init_24 rfl (lv_at hl 0 rfl) ?_
  refine lv_sipush (v := 319) hx hb dX2_init_25 (by decide) ?_
  refine va_newa (atype := .int) (a0 := (319, .inl (fun _ => 0))) hx hb ha_int rfl hK hP hD hS hA (N' := 319) (fun cA => ki_zi cA 319) (by decide) (by decide) (Nat.le_of_ble_eq_true rfl) (Nat.le_of_ble_eq_true rfl) (Nat.le_of_ble_eq_true rfl) dX2_init_28 (fun q_7 cA_8 H hK hP hD hS => ?_)
  obtain rfl : cyI = cA_8 := (ki_cA hK 0 1 rfl rfl).symm
  have hK : va_K (dC, dI) vwCl [(cyI, .int)] s := hK.sub [0] rfl
  refine W.widen (k := 5) (n := 667) (Nat.le_of_ble_eq_true rfl) (Nat.le_of_ble_eq_true rfl) ?_
  obtain ⟨hP, hD⟩ := kx_re (w2 := [(h0, .inr (2, [.null, .ref q_1, .ref q_5, .null, .null, .null, .null, .null, .null, .int 0, .int 0])), kx_3 q_1 q_3 q_4 0 0 0, kx_a q_3 cyI 12 (fun _ => 0), kx_a q_4 cyI 12 (fun _ => 0), kx_a q_5 cyI 319 (fun _ => 0), kx_a q_7 cyI 319 (fun _ => 0)]) hP hD rfl
  refine va_putF (D := (dC, dI)) (ci := 2) (v := .ref q_7) (ty := .array .int) (C := RX2) (T := TX2) (N := 11) hx hb hts hi_2 tyX2 tyX2_ok nmX2 hown hK hP hD hS 0 rfl rfl 3 (by decide) hf_22 (fun _ h9 => h9) rfl hin rfl (by decide +kernel) rfl rfl (Nat.le_of_ble_eq_true rfl) dX2_init_30 (fun H locs hP hD hS => ?_)
  obtain ⟨hP, hD⟩ := kx_re (w2 := [(h0, .inr (2, [.null, .ref q_1, .ref q_5, .ref q_7, .null, .null, .null, .null, .null, .int 0, .int 0])), kx_3 q_1 q_3 q_4 0 0 0, kx_a q_3 cyI 12 (fun _ => 0), kx_a q_4 cyI 12 (fun _ => 0), kx_a q_5 cyI 319 (fun _ => 0), kx_a q_7 cyI 319 (fun _ => 0)]) hP hD rfl
  refine lv_aload_n hx hb dX2_init_33 rfl (lv_at hl 0 rfl) ?_
  refine lv_sipush (v := 319) hx hb dX2_init_34 (by decide) ?_
  refine va_newa (atype := .int) (a0 := (319, .inl (fun _ => 0))) hx hb ha_int rfl hK hP hD hS hA (N' := 319) (fun cA => ki_zi cA 319) (by decide) (by decide) (Nat.le_of_ble_eq_true rfl) (Nat.le_of_ble_eq_true rfl) (Nat.le_of_ble_eq_true rfl) dX2_init_37 (fun q_9 cA_10 H hK hP hD hS => ?_)
  obtain rfl : cyI = cA_10 := (ki_cA hK 0 1 rfl rfl).symm
  have hK : va_K (dC, dI) vwCl [(cyI, .int)] s := hK.sub [0] rfl
  refine W.widen (k := 6) (n := 986) (Nat.le_of_ble_eq_true rfl) (Nat.le_of_ble_eq_true rfl) ?_
  obtain ⟨hP, hD⟩ := kx_re (w2 := [(h0, .inr (2, [.null, .ref q_1, .ref q_5, .ref q_7, .null, .null, .null, .null, .null, .int 0, .int 0])), kx_3 q_1 q_3 q_4 0 0 0, kx_a q_3 cyI 12 (fun _ => 0), kx_a q_4 cyI 12 (fun _ => 0), kx_a q_5 cyI 319 (fun _ => 0), kx_a q_7 cyI 319 (fun _ => 0), kx_a q_9 cyI 319 (fun _ => 0)]) hP hD rfl
  refine va_putF (D := (dC, dI)) (ci := 2) (v := .ref q_9) (ty := .array .int) (C := RX2) (T := TX2) (N := 11) hx hb hts hi_2 tyX2 tyX2_ok nmX2 hown hK hP hD hS 0 rfl rfl 4 (by decide) hf_25 (fun _ h9 => h9) rfl hin rfl (by decide +kernel) rfl rfl (Nat.le_of_ble_eq_true rfl) dX2_init_39 (fun H locs hP hD hS => ?_)
  obtain ⟨hP, hD⟩ := kx_re (w2 := [(h0, .inr (2, [.null, .ref q_1, .ref q_5, .ref q_7, .ref q_9, .null, .null, .null, .null, .int 0, .int 0])), kx_3 q_1 q_3 q_4 0 0 0, kx_a q_3 cyI 12 (fun _ => 0), kx_a q_4 cyI 12 (fun _ => 0), kx_a q_5 cyI 319 (fun _ => 0), kx_a q_7 cyI 319 (fun _ => 0), kx_a q_9 cyI 319 (fun _ => 0)]) hP hD rfl
  refine lv_aload_n hx hb dX2_init_42 rfl (lv_at hl 0 rfl) ?_
  refine lv_sipush (v := 319) hx hb dX2_init_43 (by decide) ?_
  refine va_newa (atype := .int) (a0 := (319, .inl (fun _ => 0))) hx hb ha_int rfl hK hP hD hS hA (N' := 319) (fun cA => ki_zi cA 319) (by decide) (by decide) (Nat.le_of_ble_eq_true rfl) (Nat.le_of_ble_eq_true rfl) (Nat.le_of_ble_eq_true rfl) dX2_init_46 (fun q_11 cA_12 H hK hP hD hS => ?_)
  obtain rfl : cyI = cA_12 := (ki_cA hK 0 1 rfl rfl).symm
  have hK : va_K (dC, dI) vwCl [(cyI, .int)] s := hK.sub [0] rfl
  refine W.widen (k := 7) (n := 1305) (Nat.le_of_ble_eq_true rfl) (Nat.le_of_ble_eq_true rfl) ?_
  obtain ⟨hP, hD⟩ := kx_re (w2 := [(h0, .inr (2, [.null, .ref q_1, .ref q_5, .ref q_7, .ref q_9, .null, .null, .null, .null, .int 0, .int 0])), kx_3 q_1 q_3 q_4 0 0 0, kx_a q_3 cyI 12 (fun _ => 0), kx_a q_4 cyI 12 (fun _ => 0), kx_a q_5 cyI 319 (fun _ => 0), kx_a q_7 cyI 319 (fun _ => 0), kx_a q_9 cyI 319 (fun _ => 0), kx_a q_11 cyI 319 (fun _ => 0)]) hP hD rfl
  refine va_putF (D := (dC, dI)) (ci := 2) (v := .ref q_11) (ty := .array .int) (C := RX2) (T := TX2) (N := 11) hx hb hts hi_2 tyX2 tyX2_ok nmX2 hown hK hP hD hS 0 rfl rfl 5 (by decide) hf_28 (fun _ h9 => h9) rfl hin rfl (by decide +kernel) rfl rfl (Nat.le_of_ble_eq_true rfl) dX2_init_48 (fun H locs hP hD hS => ?_)
  obtain ⟨hP, hD⟩ := kx_re (w2 := [(h0, .inr (2, [.null, .ref q_1, .ref q_5, .ref q_7, .ref q_9, .ref q_11, .null, .null, .null, .int 0, .int 0])), kx_3 q_1 q_3 q_4 0 0 0, kx_a q_3 cyI 12 (fun _ => 0), kx_a q_4 cyI 12 (fun _ => 0), kx_a q_5 cyI 319 (fun _ => 0), kx_a q_7 cyI 319 (fun _ => 0), kx_a q_9 cyI 319 (fun _ => 0), kx_a q_11 cyI 319 (fun _ => 0)]) hP hD rfl
  refine lv_aload_n hx hb dX2_init_51 rfl (lv_at hl 0 rfl) ?_
  refine lv_sipush (v := 319) hx hb dX2_init_52 (by decide) ?_
  refine va_newa (atype := .int) (a0 := (319, .inl (fun _ => 0))) hx hb ha_int rfl hK hP hD hS hA (N' := 319) (fun cA => ki_zi cA 319) (by decide) (by decide) (Nat.le_of_ble_eq_true rfl) (Nat.le_of_ble_eq_true rfl) (Nat.le_of_ble_eq_true rfl) dX2_init_55 (fun q_13 cA_14 H hK hP hD hS => ?_)
  obtain rfl : cyI = cA_14 := (ki_cA hK 0 1 rfl rfl).symm
  have hK : va_K (dC, dI) vwCl [(cyI, .int)] s := hK.sub [0] rfl
  refine W.widen (k := 8) (n := 1624) (Nat.le_of_ble_eq_true rfl) (Nat.le_of_ble_eq_true rfl) ?_
  obtain ⟨hP, hD⟩ := kx_re (w2 := [(h0, .inr (2, [.null, .ref q_1, .ref q_5, .ref q_7, .ref q_9, .ref q_11, .null, .null, .null, .int 0, .int 0])), kx_3 q_1 q_3 q_4 0 0 0, kx_a q_3 cyI 12 (fun _ => 0), kx_a q_4 cyI 12 (fun _ => 0), kx_a q_5 cyI 319 (fun _ => 0), kx_a q_7 cyI 319 (fun _ => 0), kx_a q_9 cyI 319 (fun _ => 0), kx_a q_11 cyI 319 (fun _ => 0), kx_a q_13 cyI 319 (fun _ => 0)]) hP hD rfl
  refine va_putF (D := (dC, dI)) (ci := 2) (v := .ref q_13) (ty := .array .int) (C := RX2) (T := TX2) (N := 11) hx hb hts hi_2 tyX2 tyX2_ok nmX2 hown hK hP hD hS 0 rfl rfl 6 (by decide) hf_31 (fun _ h9 => h9) rfl hin rfl (by decide +kernel) rfl rfl (Nat.le_of_ble_eq_true rfl) dX2_init_57 (fun H locs hP hD hS => ?_)
  obtain ⟨hP, hD⟩ := kx_re (w2 := [(h0, .inr (2, [.null, .ref q_1, .ref q_5, .ref q_7, .ref q_9, .ref q_11, .ref q_13, .null, .null, .int 0, .int 0])), kx_3 q_1 q_3 q_4 0 0 0, kx_a q_3 cyI 12 (fun _ => 0), kx_a q_4 cyI 12 (fun _ => 0), kx_a q_5 cyI 319 (fun _ => 0), kx_a q_7 cyI 319 (fun _ => 0), kx_a q_9 cyI 319 (fun _ => 0), kx_a q_11 cyI 319 (fun _ => 0), kx_a q_13 cyI 319 (fun _ => 0)]) hP hD rfl
  refine lv_aload_n hx hb dX2_init_60 rfl (lv_at hl 0 rfl) ?_
  refine lv_sipush (v := 1914) hx hb dX2_init_61 (by decide) ?_
  refine va_newa (atype := .int) (a0 := (1914, .inl (fun _ => 0))) hx hb ha_int rfl hK hP hD hS hA (N' := 1914) (fun cA => ki_zi cA 1914) (by decide) (by decide) (Nat.le_of_ble_eq_true rfl) (Nat.le_of_ble_eq_true rfl) (Nat.le_of_ble_eq_true rfl) dX2_init_64 (fun q_15 cA_16 H hK hP hD hS => ?_)
  obtain rfl : cyI = cA_16 := (ki_cA hK 0 1 rfl rfl).symm
  have hK : va_K (dC, dI) vwCl [(cyI, .int)] s := hK.sub [0] rfl
  refine W.widen (k := 9) (n := 3538) (Nat.le_of_ble_eq_true rfl) (Nat.le_of_ble_eq_true rfl) ?_
  obtain ⟨hP, hD⟩ := kx_re (w2 := [(h0, .inr (2, [.null, .ref q_1, .ref q_5, .ref q_7, .ref q_9, .ref q_11, .ref q_13, .null, .null, .int 0, .int 0])), kx_3 q_1 q_3 q_4 0 0 0, kx_a q_3 cyI 12 (fun _ => 0), kx_a q_4 cyI 12 (fun _ => 0), kx_a q_5 cyI 319 (fun _ => 0), kx_a q_7 cyI 319 (fun _ => 0), kx_a q_9 cyI 319 (fun _ => 0), kx_a q_11 cyI 319 (fun _ => 0), kx_a q_13 cyI 319 (fun _ => 0), kx_a q_15 cyI 1914 (fun _ => 0)]) hP hD rfl
  refine va_putF (D := (dC, dI)) (ci := 2) (v := .ref q_15) (ty := .array .int) (C := RX2) (T := TX2) (N := 11) hx hb hts hi_2 tyX2 tyX2_ok nmX2 hown hK hP hD hS 0 rfl rfl 7 (by decide) hf_34 (fun _ h9 => h9) rfl hin rfl (by decide +kernel) rfl rfl (Nat.le_of_ble_eq_true rfl) dX2_init_66 (fun H locs hP hD hS => ?_)
  obtain ⟨hP, hD⟩ := kx_re (w2 := [(h0, .inr (2, [.null, .ref q_1, .ref q_5, .ref q_7, .ref q_9, .ref q_11, .ref q_13, .ref q_15, .null, .int 0, .int 0])), kx_3 q_1 q_3 q_4 0 0 0, kx_a q_3 cyI 12 (fun _ => 0), kx_a q_4 cyI 12 (fun _ => 0), kx_a q_5 cyI 319 (fun _ => 0), kx_a q_7 cyI 319 (fun _ => 0), kx_a q_9 cyI 319 (fun _ => 0), kx_a q_11 cyI 319 (fun _ => 0), kx_a q_13 cyI 319 (fun _ => 0), kx_a q_15 cyI 1914 (fun _ => 0)]) hP hD rfl
  refine lv_aload_n hx hb dX2_init_69 rfl (lv_at hl 0 rfl) ?_
  refine lv_sipush (v := 1914) hx hb dX2_init_70 (by decide) ?_
  refine va_newa (atype := .int) (a0 := (1914, .inl (fun _ => 0))) hx hb ha_int rfl hK hP hD hS hA (N' := 1914) (fun cA => ki_zi cA 1914) (by decide) (by decide) (Nat.le_of_ble_eq_true rfl) (Nat.le_of_ble_eq_true rfl) (Nat.le_of_ble_eq_true rfl) dX2_init_73 (fun q_17 cA_18 H hK hP hD hS => ?_)
  obtain rfl : cyI = cA_18 := (ki_cA hK 0 1 rfl rfl).symm
  have hK : va_K (dC, dI) vwCl [(cyI, .int)] s := hK.sub [0] rfl
  refine W.widen (k := 10) (n := 5452) (Nat.le_of_ble_eq_true rfl) (Nat.le_of_ble_eq_true rfl) ?_
  obtain ⟨hP, hD⟩ := kx_re (w2 := [(h0, .inr (2, [.null, .ref q_1, .ref q_5, .ref q_7, .ref q_9, .ref q_11, .ref q_13, .ref q_15, .null, .int 0, .int 0])), kx_3 q_1 q_3 q_4 0 0 0, kx_a q_3 cyI 12 (fun _ => 0), kx_a q_4 cyI 12 (fun _ => 0), kx_a q_5 cyI 319 (fun _ => 0), kx_a q_7 cyI 319 (fun _ => 0), kx_a q_9 cyI 319 (fun _ => 0), kx_a q_11 cyI 319 (fun _ => 0), kx_a q_13 cyI 319 (fun _ => 0), kx_a q_15 cyI 1914 (fun _ => 0), kx_a q_17 cyI 1914 (fun _ => 0)]) hP hD rfl
  refine va_putF (D := (dC, dI)) (ci := 2) (v := .ref q_17) (ty := .array .int) (C := RX2) (T := TX2) (N := 11) hx hb hts hi_2 tyX2 tyX2_ok nmX2 hown hK hP hD hS 0 rfl rfl 8 (by decide) hf_37 (fun _ h9 => h9) rfl hin rfl (by decide +kernel) rfl rfl (Nat.le_of_ble_eq_true rfl) dX2_init_75 (fun H locs hP hD hS => ?_)
  obtain ⟨hP, hD⟩ := kx_re (w2 := [(h0, .inr (2, [.null, .ref q_1, .ref q_5, .ref q_7, .ref q_9, .ref q_11, .ref q_13, .ref q_15, .ref q_17, .int 0, .int 0])), kx_3 q_1 q_3 q_4 0 0 0, kx_a q_3 cyI 12 (fun _ => 0), kx_a q_4 cyI 12 (fun _ => 0), kx_a q_5 cyI 319 (fun _ => 0), kx_a q_7 cyI 319 (fun _ => 0), kx_a q_9 cyI 319 (fun _ => 0), kx_a q_11 cyI 319 (fun _ => 0), kx_a q_13 cyI 319 (fun _ => 0), kx_a q_15 cyI 1914 (fun _ => 0), kx_a q_17 cyI 1914 (fun _ => 0)]) hP hD rfl
  refine lv_aload_n hx hb dX2_init_78 rfl (lv_at hl 0 rfl) ?_
  refine lv_aload_n hx hb dX2_init_79 rfl (lv_at hl 1 rfl) ?_
  refine va_putF (D := (dC, dI)) (ci := 2) (v := .ref h1) (ty := .object "MajorityIndex$Row") (C := RX2) (T := TX2) (N := 11) hx hb hts hi_2 tyX2 tyX2_ok nmX2 hown hK hP hD hS 0 rfl rfl 0 (by decide) hf_40 (fun _ h9 => h9) rfl hin rfl (by decide +kernel) rfl rfl (Nat.le_of_ble_eq_true rfl) dX2_init_80 (fun H locs hP hD hS => ?_)
  obtain ⟨hP, hD⟩ := kx_re (w2 := [kx_2 h0 h1 q_1 q_5 q_7 q_9 q_11 q_13 q_15 q_17 0 0, kx_3 q_1 q_3 q_4 0 0 0, kx_a q_3 cyI 12 (fun _ => 0), kx_a q_4 cyI 12 (fun _ => 0), kx_a q_5 cyI 319 (fun _ => 0), kx_a q_7 cyI 319 (fun _ => 0), kx_a q_9 cyI 319 (fun _ => 0), kx_a q_11 cyI 319 (fun _ => 0), kx_a q_13 cyI 319 (fun _ => 0), kx_a q_15 cyI 1914 (fun _ => 0), kx_a q_17 cyI 1914 (fun _ => 0)]) hP hD rfl
  have hP9 := hP
  have hD9 := hD
  have hK9 := hK
  exact W.vret hx hb hr (hlocks := hlocks) (fun t ht hW => ⟨⟨(), rfl, trivial, q_1, q_5, q_7, q_9, q_11, q_13, q_15, q_17, q_3, q_4, by rw [ht]; exact hP9, va_K.moved hW.alike hK9, hD9⟩, hS.F ht⟩) hS.2.2 dX2_init_83

set_option maxHeartbeats 4000000 in
set_option maxRecDepth 100000 in
theorem c_X4_init (l : Launch) (dC : Nat → ClassId) (dI : Nat → Nat → Nat) (k_x : Nat) (cyI : ClassId) (sz : Nat) : Met l yX4_init wsX4_init ({ frames := 3, cells := 24, slots := 6328, locals := 135 }) (va_Pc [.ref k_x] (fun U => U.heap.size = sz ∧ va_P (dC, dI) vwCl [(k_x, .inr (4, [.null, .null, .null, .null, .null, .null, .null, .int 0, .int 0]))] U.heap ∧ va_K (dC, dI) vwCl [(cyI, .int)] U ∧ va_D (fun _ => True) [(k_x, .inr (4, [.null, .null, .null, .null, .null, .null, .null, .int 0, .int 0]))] ∧ va_Nw (.methodLinkNest RX4 11 yX0_init RX4) U ∧ va_Nw (.methodLinkNest RX4 27 yX1_init RX4) U ∧ va_Nw (.methodLinkNest RX4 34 yX3_init RX4) U ∧ va_Nw (.methodLinkNest RX2 11 yX3_init RX4) U)) (va_Qv (fun _ : Unit => True) (fun (_ : Unit) (t : State) => ∃ (k_row : Nat) (k_tree : Nat) (k_tally : Nat) (k_votes : Nat) (k_other : Nat) (k_wins : Nat) (k_fewest : Nat) (k_cell : Nat) (k_t_joined : Nat) (k_t_from : Nat) (k_t_to : Nat) (k_t_size : Nat) (k_t_lossOf : Nat) (k_t_lessBy : Nat) (k_t_value : Nat) (k_t_number : Nat) (k_t_jv : Nat) (k_t_jn : Nat) (k_kind : Nat) (k_often : Nat) (k_vv : Nat) (k_vn : Nat) (k_ov : Nat) (k_on : Nat), va_P (dC, dI) vwCl [kx_4 k_x k_row k_tree k_tally k_votes k_other k_wins k_fewest 2 1, kx_0 k_row k_cell 0, kx_a k_cell cyI 160 (fun _ => 0), kx_2 k_tree k_row k_t_joined k_t_from k_t_to k_t_size k_t_lossOf k_t_lessBy k_t_value k_t_number 0 0, kx_3 k_t_joined k_t_jv k_t_jn 0 0 0, kx_a k_t_jv cyI 12 (fun _ => 0), kx_a k_t_jn cyI 12 (fun _ => 0), kx_a k_t_from cyI 319 (fun _ => 0), kx_a k_t_to cyI 319 (fun _ => 0), kx_a k_t_size cyI 319 (fun _ => 0), kx_a k_t_lossOf cyI 319 (fun _ => 0), kx_a k_t_lessBy cyI 319 (fun _ => 0), kx_a k_t_value cyI 1914 (fun _ => 0), kx_a k_t_number cyI 1914 (fun _ => 0), kx_1 k_tally k_kind k_often 0 0, kx_a k_kind cyI 160 (fun _ => 0), kx_a k_often cyI 160 (fun _ => 0), kx_3 k_votes k_vv k_vn 0 0 0, kx_a k_vv cyI 12 (fun _ => 0), kx_a k_vn cyI 12 (fun _ => 0), kx_3 k_other k_ov k_on 0 0 0, kx_a k_ov cyI 12 (fun _ => 0), kx_a k_on cyI 12 (fun _ => 0), kx_a k_wins cyI 160 (fun _ => 0), kx_a k_fewest cyI 161 (fun _ => 0)] t.heap ∧ va_K (dC, dI) vwCl [(cyI, .int)] t ∧ va_D (va_A [(k_x, .inr (4, [.null, .null, .null, .null, .null, .null, .null, .int 0, .int 0]))] sz) [kx_4 k_x k_row k_tree k_tally k_votes k_other k_wins k_fewest 2 1, kx_0 k_row k_cell 0, kx_a k_cell cyI 160 (fun _ => 0), kx_2 k_tree k_row k_t_joined k_t_from k_t_to k_t_size k_t_lossOf k_t_lessBy k_t_value k_t_number 0 0, kx_3 k_t_joined k_t_jv k_t_jn 0 0 0, kx_a k_t_jv cyI 12 (fun _ => 0), kx_a k_t_jn cyI 12 (fun _ => 0), kx_a k_t_from cyI 319 (fun _ => 0), kx_a k_t_to cyI 319 (fun _ => 0), kx_a k_t_size cyI 319 (fun _ => 0), kx_a k_t_lossOf cyI 319 (fun _ => 0), kx_a k_t_lessBy cyI 319 (fun _ => 0), kx_a k_t_value cyI 1914 (fun _ => 0), kx_a k_t_number cyI 1914 (fun _ => 0), kx_1 k_tally k_kind k_often 0 0, kx_a k_kind cyI 160 (fun _ => 0), kx_a k_often cyI 160 (fun _ => 0), kx_3 k_votes k_vv k_vn 0 0 0, kx_a k_vv cyI 12 (fun _ => 0), kx_a k_vn cyI 12 (fun _ => 0), kx_3 k_other k_ov k_on 0 0 0, kx_a k_ov cyI 12 (fun _ => 0), kx_a k_on cyI 12 (fun _ => 0), kx_a k_wins cyI 160 (fun _ => 0), kx_a k_fewest cyI 161 (fun _ => 0)]) (va_A [(k_x, .inr (4, [.null, .null, .null, .null, .null, .null, .null, .int 0, .int 0]))] sz)) 24 6328 (va_A [(k_x, .inr (4, [.null, .null, .null, .null, .null, .null, .null, .int 0, .int 0]))] sz) := by
  refine Met.ofW (cc := cX4_init) (maxL := 1) (ret := none) (by decide) rfl ?_
  intro p e s m args below meth c s₁ B hml hv
  obtain ⟨rfl, hsz, hP, hK, hD0, hN0, hN1, hN2, hN3⟩ := hv
  have hx := B.exec
  have hb := B.bytes
  have hr := B.returns
  have hts := atoms_spec (ws := wsX4_init) B.pre
  have hown : s.vm.findClass RX4 = some m.cls := findClass_of_methodNamed B.named
  have hlocks := B.notSynchronized
  have hin : meth.name = "<init>" := (name_of_methodNamed B.named B.method).1
  subst hsz
  have hD := hD0.self (sz := s.heap.size)
  generalize hAe : va_A [(k_x, .inr (4, [.null, .null, .null, .null, .null, .null, .null, .int 0, .int 0]))] s.heap.size = A at hD ⊢
  have hA : ∀ q : Nat, s.heap.size ≤ q → A q := fun q h => by rw [← hAe]; exact Or.inr h
  have hS : va_S A s.heap s.heap [] := va_S.rf
  have hP : va_P (dC, dI) vwCl [(k_x, .inr (4, [.null, .null, .null, .null, .null, .null, .null, .int 0, .int 0]))] s.heap := hP
  have hl := lv_entry ([.ref k_x]) (n := 1) (Nat.le_of_ble_eq_true rfl)
  rw [lg_entry_eq]
  generalize (lg_sl ([.ref k_x]) ++ List.replicate (1 - (lg_sl ([.ref k_x])).length) Slot.unset).toArray = ls at hl ⊢
  have hl : lv_has ls 1 [(0, .ref k_x)] := hl
  have hm_3 := hts (.methodLink RX4 3 objectInit) (List.mem_of_getElem? (i := 1) rfl)
  have ho_i := hts (.instanceMethod objectInit) (List.mem_of_getElem? (i := 2) rfl)
  have ho_c := hts (.code objectInit ⟨#[0xb1]⟩ 1 none) (List.mem_of_getElem? (i := 3) rfl)
  have hc_9 := hts (.classLink RX4 9 RX0) (List.mem_of_getElem? (i := 4) rfl)
  have hj_0 := hts (.instantiable RX0 2) (List.mem_of_getElem? (i := 5) rfl)
  have hz_0 := hts (.initialized RX0) (List.mem_of_getElem? (i := 6) rfl)
  have hi_0 : ∀ w ∈ u_ws RX0 TX0 2, w ∈ wsX4_init := fun w h => List.mem_cons_of_mem _ (List.mem_append_left _ (List.mem_append_left _ (List.mem_append_left _ (List.mem_append_left _ (List.mem_append_right _ h)))))
  have hz_RX0 := hts (.initialized RX0) (List.mem_of_getElem? (i := 6) rfl)
  have hq_X0_init := hts (.instanceMethod yX0_init) (List.mem_of_getElem? (i := 26) rfl)
  have hf_12 := hts (.fieldLink RX4 12 "MajorityIndex" "row" "LMajorityIndex$Row;") (List.mem_of_getElem? (i := 7) rfl)
  have hi_4 : ∀ w ∈ u_ws RX4 TX4 9, w ∈ wsX4_init := fun w h => List.mem_cons_of_mem _ (List.mem_append_left _ (List.mem_append_left _ (List.mem_append_left _ (List.mem_append_right _ h))))
  have hc_16 := hts (.classLink RX4 16 RX2) (List.mem_of_getElem? (i := 8) rfl)
  have hj_2 := hts (.instantiable RX2 11) (List.mem_of_getElem? (i := 9) rfl)
  have hz_2 := hts (.initialized RX2) (List.mem_of_getElem? (i := 10) rfl)
  have hi_2 : ∀ w ∈ u_ws RX2 TX2 11, w ∈ wsX4_init := fun w h => List.mem_cons_of_mem _ (List.mem_append_left _ (List.mem_append_left _ (List.mem_append_right _ h)))
  have hz_RX2 := hts (.initialized RX2) (List.mem_of_getElem? (i := 10) rfl)
  have hm_18 := hts (.methodLink RX4 18 yX2_init) (List.mem_of_getElem? (i := 30) rfl)
  have hq_X2_init := hts (.instanceMethod yX2_init) (List.mem_of_getElem? (i := 31) rfl)
  have hf_21 := hts (.fieldLink RX4 21 "MajorityIndex" "tree" "LMajorityIndex$Tree;") (List.mem_of_getElem? (i := 11) rfl)
  have hc_25 := hts (.classLink RX4 25 RX1) (List.mem_of_getElem? (i := 12) rfl)
  have hj_1 := hts (.instantiable RX1 4) (List.mem_of_getElem? (i := 13) rfl)
  have hz_1 := hts (.initialized RX1) (List.mem_of_getElem? (i := 14) rfl)
  have hi_1 : ∀ w ∈ u_ws RX1 TX1 4, w ∈ wsX4_init := fun w h => List.mem_cons_of_mem _ (List.mem_append_left _ (List.mem_append_right _ h))
  have hz_RX1 := hts (.initialized RX1) (List.mem_of_getElem? (i := 14) rfl)
  have hq_X1_init := hts (.instanceMethod yX1_init) (List.mem_of_getElem? (i := 49) rfl)
  have hf_28 := hts (.fieldLink RX4 28 "MajorityIndex" "tally" "LMajorityIndex$Tally;") (List.mem_of_getElem? (i := 15) rfl)
  have hc_32 := hts (.classLink RX4 32 RX3) (List.mem_of_getElem? (i := 16) rfl)
  have hj_3 := hts (.instantiable RX3 5) (List.mem_of_getElem? (i := 17) rfl)
  have hz_3 := hts (.initialized RX3) (List.mem_of_getElem? (i := 18) rfl)
  have hi_3 : ∀ w ∈ u_ws RX3 TX3 5, w ∈ wsX4_init := fun w h => List.mem_cons_of_mem _ (List.mem_append_right _ h)
  have hz_RX3 := hts (.initialized RX3) (List.mem_of_getElem? (i := 18) rfl)
  have hq_X3_init := hts (.instanceMethod yX3_init) (List.mem_of_getElem? (i := 44) rfl)
  have hf_35 := hts (.fieldLink RX4 35 "MajorityIndex" "votes" "LMajorityIndex$Votes;") (List.mem_of_getElem? (i := 19) rfl)
  have hf_39 := hts (.fieldLink RX4 39 "MajorityIndex" "otherVotes" "LMajorityIndex$Votes;") (List.mem_of_getElem? (i := 20) rfl)
  have ha_int := hts (.arrayClass .int) (List.mem_of_getElem? (i := 21) rfl)
  have hf_42 := hts (.fieldLink RX4 42 "MajorityIndex" "wins" "[I") (List.mem_of_getElem? (i := 22) rfl)
  have hf_46 := hts (.fieldLink RX4 46 "MajorityIndex" "fewest" "[I") (List.mem_of_getElem? (i := 23) rfl)
  have hf_49 := hts (.fieldLink RX4 49 "MajorityIndex" "slotsNow" "I") (List.mem_of_getElem? (i := 24) rfl)
  have hf_53 := hts (.fieldLink RX4 53 "MajorityIndex" "treeIsOld" "Z") (List.mem_of_getElem? (i := 25) rfl)
  refine lv_aload_n hx hb dX4_init_0 rfl (lv_at hl 0 rfl) ?_
  refine W.objInit hx hb hown hm_3 ho_i ho_c rfl (by rw [hml]; exact hl.1) rfl dX4_init_1 (Nat.le_of_ble_eq_true rfl) (Nat.le_of_ble_eq_true rfl) ?_
  refine W.eq (g2 := F0 m 4 ls []) rfl ?_
  refine lv_aload_n hx hb dX4_init_4 rfl (lv_at hl 0 rfl) ?_
  refine va_new (ci := 0) (fs := [.null, .int 0]) (C := RX0) (T := TX0) (N := 2) hx hb hts hi_0 tyX0 tyX0_ok hown hc_9 hj_0 hz_0 hK hP hD hS hA rfl (ki_z0) (Nat.le_of_ble_eq_true rfl) (Nat.le_of_ble_eq_true rfl) dX4_init_5 (fun q_1 H hP hD hS => ?_)
  refine W.widen (k := 1) (n := 2) (Nat.le_of_ble_eq_true rfl) (Nat.le_of_ble_eq_true rfl) ?_
  obtain ⟨hP, hD⟩ := kx_re (w2 := [(k_x, .inr (4, [.null, .null, .null, .null, .null, .null, .null, .int 0, .int 0])), (q_1, .inr (0, [.null, .int 0]))]) hP hD rfl
  refine lv_dup hx hb dX4_init_8 rfl ?_
  obtain ⟨hPc, hDc, hFc, hCc⟩ := kx_pre (wc := [(q_1, .inr (0, [.null, .int 0]))]) hP hD hS hA [1] (by decide) rfl
  have hKc := hK
  refine va_callv (va_runIN (As := []) (rest := [.ref q_1, .ref k_x]) ⟨hx, hb, hml, hown, hts⟩ (c_X0_init l dC dI q_1 cyI H.size) ⟨(va_cnB 0 hts ggX4_init_X0_init rfl rfl rfl hN0 hz_RX0 (by decide +kernel) ⟨Nat.le_of_ble_eq_true rfl, Nat.le_of_ble_eq_true rfl⟩), rfl, hq_X0_init⟩ ⟨fun a U g mk q => by obtain ⟨q0, q1, qP, qK, qD⟩ := q; exact ⟨q0, q1, qP, va_K.moved (u := U) (U := U.calling g mk a) (Vm.Alike.refl U.vm) qK, qD⟩, fun U hU hW => ⟨rfl, by rw [hU], by rw [hU]; exact hPc, va_K.moved hW.alike hKc, hDc.weaken (fun _ _ _ _ => trivial)⟩⟩ rfl rfl hl.1 rfl (lv_room (Nat.le_of_ble_eq_true rfl)) dX4_init_9 ⟨Nat.le_of_ble_eq_true rfl, Nat.le_of_ble_eq_true rfl⟩) hS (fun q _ h => hFc q h) hFc (fun u t H1 locs ht hvm w_2 hB hz1 hk1 hS => ?_)
  obtain ⟨q_3, hP1, hK1, hD1⟩ := hB
  rw [ht] at hP1
  have hK1 := va_K.moved hvm.symm hK1
  obtain ⟨hP, hD⟩ := kx_join (w2 := [(k_x, .inr (4, [.null, .null, .null, .null, .null, .null, .null, .int 0, .int 0])), kx_0 q_1 q_3 0, kx_a q_3 cyI 160 (fun _ => 0)]) hP hD hP1 hD1 hk1 hFc [1] [0] hCc rfl (by decide) (by decide)
  clear hP1 hD1 hK1 hk1 hz1 hFc hDc hPc hKc hCc
  generalize H1 = H at hP hS ⊢
  refine W.widen (k := 2) (n := 162) (Nat.le_of_ble_eq_true rfl) (Nat.le_of_ble_eq_true rfl) ?_
  refine va_putF (D := (dC, dI)) (ci := 4) (v := .ref q_1) (ty := .object "MajorityIndex$Row") (C := RX4) (T := TX4) (N := 9) hx hb hts hi_4 tyX4 tyX4_ok nmX4 hown hK hP hD hS 0 rfl rfl 0 (by decide) hf_12 (fun _ h9 => h9) rfl hin rfl (by decide +kernel) rfl rfl (Nat.le_of_ble_eq_true rfl) dX4_init_12 (fun H locs hP hD hS => ?_)
  obtain ⟨hP, hD⟩ := kx_re (w2 := [(k_x, .inr (4, [.ref q_1, .null, .null, .null, .null, .null, .null, .int 0, .int 0])), kx_0 q_1 q_3 0, kx_a q_3 cyI 160 (fun _ => 0)]) hP hD rfl
  refine lv_aload_n hx hb dX4_init_15 rfl (lv_at hl 0 rfl) ?_
  refine va_new (ci := 2) (fs := [.null, .null, .null, .null, .null, .null, .null, .null, .null, .int 0, .int 0]) (C := RX2) (T := TX2) (N := 11) hx hb hts hi_2 tyX2 tyX2_ok hown hc_16 hj_2 hz_2 hK hP hD hS hA rfl (ki_z2) (Nat.le_of_ble_eq_true rfl) (Nat.le_of_ble_eq_true rfl) dX4_init_16 (fun q_4 H hP hD hS => ?_)
  refine W.widen (k := 3) (n := 173) (Nat.le_of_ble_eq_true rfl) (Nat.le_of_ble_eq_true rfl) ?_
  obtain ⟨hP, hD⟩ := kx_re (w2 := [(k_x, .inr (4, [.ref q_1, .null, .null, .null, .null, .null, .null, .int 0, .int 0])), kx_0 q_1 q_3 0, kx_a q_3 cyI 160 (fun _ => 0), (q_4, .inr (2, [.null, .null, .null, .null, .null, .null, .null, .null, .null, .int 0, .int 0]))]) hP hD rfl
  refine lv_dup hx hb dX4_init_19 rfl ?_
  refine lv_aload_n hx hb dX4_init_20 rfl (lv_at hl 0 rfl) ?_
  refine va_get (D := (dC, dI)) (ci := 4) (v := .ref q_1) (C := RX4) (T := TX4) (N := 9) hx hb hts hi_4 hown hK hP 0 rfl rfl 0 (by decide) hf_12 (fun _ h9 => h9) rfl dX4_init_21 ?_
  obtain ⟨hPc, hDc, hFc, hCc⟩ := kx_pre (wc := [(q_4, .inr (2, [.null, .null, .null, .null, .null, .null, .null, .null, .null, .int 0, .int 0]))]) hP hD hS hA [3] (by decide) rfl
  have hKc := hK
  refine va_callv (va_runI (As := [.ref q_1]) (rest := [.ref q_4, .ref k_x]) ⟨hx, hb, hml, hown, hts⟩ (c_X2_init l dC dI q_4 q_1 cyI H.size) (cwI 1 hts ggX4_init_X2_init rfl rfl rfl hz_RX2 hm_18 hq_X2_init rfl (by decide +kernel) ⟨Nat.le_of_ble_eq_true rfl, Nat.le_of_ble_eq_true rfl⟩) ⟨fun a U g mk q => by obtain ⟨q0, q1, qP, qK, qD, qn0⟩ := q; exact ⟨q0, q1, qP, va_K.moved (u := U) (U := U.calling g mk a) (Vm.Alike.refl U.vm) qK, qD, va_Nw.same (u := U) (U := U.calling g mk a) rfl rfl qn0⟩, fun U hU hW => ⟨rfl, by rw [hU], by rw [hU]; exact hPc, va_K.moved hW.alike hKc, hDc.weaken (fun _ _ _ _ => trivial), va_Nw.warmM hW hN3⟩⟩ rfl rfl hl.1 rfl (lv_room (Nat.le_of_ble_eq_true rfl)) dX4_init_24 ⟨Nat.le_of_ble_eq_true rfl, Nat.le_of_ble_eq_true rfl⟩) hS (fun q _ h => hFc q h) hFc (fun u t H1 locs ht hvm w_5 hB hz1 hk1 hS => ?_)
  obtain ⟨q_6, q_7, q_8, q_9, q_10, q_11, q_12, q_13, q_14, q_15, hP1, hK1, hD1⟩ := hB
  rw [ht] at hP1
  have hK1 := va_K.moved hvm.symm hK1
  obtain ⟨hP, hD⟩ := kx_join (w2 := [(k_x, .inr (4, [.ref q_1, .null, .null, .null, .null, .null, .null, .int 0, .int 0])), kx_0 q_1 q_3 0, kx_a q_3 cyI 160 (fun _ => 0), kx_2 q_4 q_1 q_6 q_7 q_8 q_9 q_10 q_11 q_12 q_13 0 0, kx_3 q_6 q_14 q_15 0 0 0, kx_a q_14 cyI 12 (fun _ => 0), kx_a q_15 cyI 12 (fun _ => 0), kx_a q_7 cyI 319 (fun _ => 0), kx_a q_8 cyI 319 (fun _ => 0), kx_a q_9 cyI 319 (fun _ => 0), kx_a q_10 cyI 319 (fun _ => 0), kx_a q_11 cyI 319 (fun _ => 0), kx_a q_12 cyI 1914 (fun _ => 0), kx_a q_13 cyI 1914 (fun _ => 0)]) hP hD hP1 hD1 hk1 hFc [3] [0, 1, 2] hCc rfl (by decide) (by decide)
  clear hP1 hD1 hK1 hk1 hz1 hFc hDc hPc hKc hCc
  generalize H1 = H at hP hS ⊢
  refine W.widen (k := 13) (n := 5625) (Nat.le_of_ble_eq_true rfl) (Nat.le_of_ble_eq_true rfl) ?_
  refine va_putF (D := (dC, dI)) (ci := 4) (v := .ref q_4) (ty := .object "MajorityIndex$Tree") (C := RX4) (T := TX4) (N := 9) hx hb hts hi_4 tyX4 tyX4_ok nmX4 hown hK hP hD hS 0 rfl rfl 1 (by decide) hf_21 (fun _ h9 => h9) rfl hin rfl (by decide +kernel) rfl rfl (Nat.le_of_ble_eq_true rfl) dX4_init_27 (fun H locs hP hD hS => ?_)
  obtain ⟨hP, hD⟩ := kx_re (w2 := [(k_x, .inr (4, [.ref q_1, .ref q_4, .null, .null, .null, .null, .null, .int 0, .int 0])), kx_0 q_1 q_3 0, kx_a q_3 cyI 160 (fun _ => 0), kx_2 q_4 q_1 q_6 q_7 q_8 q_9 q_10 q_11 q_12 q_13 0 0, kx_3 q_6 q_14 q_15 0 0 0, kx_a q_14 cyI 12 (fun _ => 0), kx_a q_15 cyI 12 (fun _ => 0), kx_a q_7 cyI 319 (fun _ => 0), kx_a q_8 cyI 319 (fun _ => 0), kx_a q_9 cyI 319 (fun _ => 0), kx_a q_10 cyI 319 (fun _ => 0), kx_a q_11 cyI 319 (fun _ => 0), kx_a q_12 cyI 1914 (fun _ => 0), kx_a q_13 cyI 1914 (fun _ => 0)]) hP hD rfl
  refine lv_aload_n hx hb dX4_init_30 rfl (lv_at hl 0 rfl) ?_
  refine va_new (ci := 1) (fs := [.null, .null, .int 0, .int 0]) (C := RX1) (T := TX1) (N := 4) hx hb hts hi_1 tyX1 tyX1_ok hown hc_25 hj_1 hz_1 hK hP hD hS hA rfl (ki_z1) (Nat.le_of_ble_eq_true rfl) (Nat.le_of_ble_eq_true rfl) dX4_init_31 (fun q_16 H hP hD hS => ?_)
  refine W.widen (k := 14) (n := 5629) (Nat.le_of_ble_eq_true rfl) (Nat.le_of_ble_eq_true rfl) ?_
  obtain ⟨hP, hD⟩ := kx_re (w2 := [(k_x, .inr (4, [.ref q_1, .ref q_4, .null, .null, .null, .null, .null, .int 0, .int 0])), kx_0 q_1 q_3 0, kx_a q_3 cyI 160 (fun _ => 0), kx_2 q_4 q_1 q_6 q_7 q_8 q_9 q_10 q_11 q_12 q_13 0 0, kx_3 q_6 q_14 q_15 0 0 0, kx_a q_14 cyI 12 (fun _ => 0), kx_a q_15 cyI 12 (fun _ => 0), kx_a q_7 cyI 319 (fun _ => 0), kx_a q_8 cyI 319 (fun _ => 0), kx_a q_9 cyI 319 (fun _ => 0), kx_a q_10 cyI 319 (fun _ => 0), kx_a q_11 cyI 319 (fun _ => 0), kx_a q_12 cyI 1914 (fun _ => 0), kx_a q_13 cyI 1914 (fun _ => 0), (q_16, .inr (1, [.null, .null, .int 0, .int 0]))]) hP hD rfl
  refine lv_dup hx hb dX4_init_34 rfl ?_
  obtain ⟨hPc, hDc, hFc, hCc⟩ := kx_pre (wc := [(q_16, .inr (1, [.null, .null, .int 0, .int 0]))]) hP hD hS hA [14] (by decide) rfl
  have hKc := hK
  refine va_callv (va_runIN (As := []) (rest := [.ref q_16, .ref k_x]) ⟨hx, hb, hml, hown, hts⟩ (c_X1_init l dC dI q_16 cyI H.size) ⟨(va_cnB 0 hts ggX4_init_X1_init rfl rfl rfl hN1 hz_RX1 (by decide +kernel) ⟨Nat.le_of_ble_eq_true rfl, Nat.le_of_ble_eq_true rfl⟩), rfl, hq_X1_init⟩ ⟨fun a U g mk q => by obtain ⟨q0, q1, qP, qK, qD⟩ := q; exact ⟨q0, q1, qP, va_K.moved (u := U) (U := U.calling g mk a) (Vm.Alike.refl U.vm) qK, qD⟩, fun U hU hW => ⟨rfl, by rw [hU], by rw [hU]; exact hPc, va_K.moved hW.alike hKc, hDc.weaken (fun _ _ _ _ => trivial)⟩⟩ rfl rfl hl.1 rfl (lv_room (Nat.le_of_ble_eq_true rfl)) dX4_init_35 ⟨Nat.le_of_ble_eq_true rfl, Nat.le_of_ble_eq_true rfl⟩) hS (fun q _ h => hFc q h) hFc (fun u t H1 locs ht hvm w_17 hB hz1 hk1 hS => ?_)
  obtain ⟨q_18, q_19, hP1, hK1, hD1⟩ := hB
  rw [ht] at hP1
  have hK1 := va_K.moved hvm.symm hK1
  obtain ⟨hP, hD⟩ := kx_join (w2 := [(k_x, .inr (4, [.ref q_1, .ref q_4, .null, .null, .null, .null, .null, .int 0, .int 0])), kx_0 q_1 q_3 0, kx_a q_3 cyI 160 (fun _ => 0), kx_2 q_4 q_1 q_6 q_7 q_8 q_9 q_10 q_11 q_12 q_13 0 0, kx_3 q_6 q_14 q_15 0 0 0, kx_a q_14 cyI 12 (fun _ => 0), kx_a q_15 cyI 12 (fun _ => 0), kx_a q_7 cyI 319 (fun _ => 0), kx_a q_8 cyI 319 (fun _ => 0), kx_a q_9 cyI 319 (fun _ => 0), kx_a q_10 cyI 319 (fun _ => 0), kx_a q_11 cyI 319 (fun _ => 0), kx_a q_12 cyI 1914 (fun _ => 0), kx_a q_13 cyI 1914 (fun _ => 0), kx_1 q_16 q_18 q_19 0 0, kx_a q_18 cyI 160 (fun _ => 0), kx_a q_19 cyI 160 (fun _ => 0)]) hP hD hP1 hD1 hk1 hFc [14] [0, 1, 2, 3, 4, 5, 6, 7, 8, 9, 10, 11, 12, 13] hCc rfl (by decide) (by decide)
  clear hP1 hD1 hK1 hk1 hz1 hFc hDc hPc hKc hCc
  generalize H1 = H at hP hS ⊢
  refine W.widen (k := 16) (n := 5949) (Nat.le_of_ble_eq_true rfl) (Nat.le_of_ble_eq_true rfl) ?_
  refine va_putF (D := (dC, dI)) (ci := 4) (v := .ref q_16) (ty := .object "MajorityIndex$Tally") (C := RX4) (T := TX4) (N := 9) hx hb hts hi_4 tyX4 tyX4_ok nmX4 hown hK hP hD hS 0 rfl rfl 2 (by decide) hf_28 (fun _ h9 => h9) rfl hin rfl (by decide +kernel) rfl rfl (Nat.le_of_ble_eq_true rfl) dX4_init_38 (fun H locs hP hD hS => ?_)
  obtain ⟨hP, hD⟩ := kx_re (w2 := [(k_x, .inr (4, [.ref q_1, .ref q_4, .ref q_16, .null, .null, .null, .null, .int 0, .int 0])), kx_0 q_1 q_3 0, kx_a q_3 cyI 160 (fun _ => 0), kx_2 q_4 q_1 q_6 q_7 q_8 q_9 q_10 q_11 q_12 q_13 0 0, kx_3 q_6 q_14 q_15 0 0 0, kx_a q_14 cyI 12 (fun _ => 0), kx_a q_15 cyI 12 (fun _ => 0), kx_a q_7 cyI 319 (fun _ => 0), kx_a q_8 cyI 319 (fun _ => 0), kx_a q_9 cyI 319 (fun _ => 0), kx_a q_10 cyI 319 (fun _ => 0), kx_a q_11 cyI 319 (fun _ => 0), kx_a q_12 cyI 1914 (fun _ => 0), kx_a q_13 cyI 1914 (fun _ => 0), kx_1 q_16 q_18 q_19 0 0, kx_a q_18 cyI 160 (fun _ => 0), kx_a q_19 cyI 160 (fun _ => 0)]) hP hD rfl
  refine lv_aload_n hx hb dX4_init_41 rfl (lv_at hl 0 rfl) ?_
  refine va_new (ci := 3) (fs := [.null, .null, .int 0, .int 0, .int 0]) (C := RX3) (T := TX3) (N := 5) hx hb hts hi_3 tyX3 tyX3_ok hown hc_32 hj_3 hz_3 hK hP hD hS hA rfl (ki_z3) (Nat.le_of_ble_eq_true rfl) (Nat.le_of_ble_eq_true rfl) dX4_init_42 (fun q_20 H hP hD hS => ?_)
  refine W.widen (k := 17) (n := 5954) (Nat.le_of_ble_eq_true rfl) (Nat.le_of_ble_eq_true rfl) ?_
  obtain ⟨hP, hD⟩ := kx_re (w2 := [(k_x, .inr (4, [.ref q_1, .ref q_4, .ref q_16, .null, .null, .null, .null, .int 0, .int 0])), kx_0 q_1 q_3 0, kx_a q_3 cyI 160 (fun _ => 0), kx_2 q_4 q_1 q_6 q_7 q_8 q_9 q_10 q_11 q_12 q_13 0 0, kx_3 q_6 q_14 q_15 0 0 0, kx_a q_14 cyI 12 (fun _ => 0), kx_a q_15 cyI 12 (fun _ => 0), kx_a q_7 cyI 319 (fun _ => 0), kx_a q_8 cyI 319 (fun _ => 0), kx_a q_9 cyI 319 (fun _ => 0), kx_a q_10 cyI 319 (fun _ => 0), kx_a q_11 cyI 319 (fun _ => 0), kx_a q_12 cyI 1914 (fun _ => 0), kx_a q_13 cyI 1914 (fun _ => 0), kx_1 q_16 q_18 q_19 0 0, kx_a q_18 cyI 160 (fun _ => 0), kx_a q_19 cyI 160 (fun _ => 0), (q_20, .inr (3, [.null, .null, .int 0, .int 0, .int 0]))]) hP hD rfl
  refine lv_dup hx hb dX4_init_45 rfl ?_
  obtain ⟨hPc, hDc, hFc, hCc⟩ := kx_pre (wc := [(q_20, .inr (3, [.null, .null, .int 0, .int 0, .int 0]))]) hP hD hS hA [17] (by decide) rfl
  have hKc := hK
  refine va_callv (va_runIN (As := []) (rest := [.ref q_20, .ref k_x]) ⟨hx, hb, hml, hown, hts⟩ (c_X3_init l dC dI q_20 cyI H.size) ⟨(va_cnB 0 hts ggX4_init_X3_init rfl rfl rfl hN2 hz_RX3 (by decide +kernel) ⟨Nat.le_of_ble_eq_true rfl, Nat.le_of_ble_eq_true rfl⟩), rfl, hq_X3_init⟩ ⟨fun a U g mk q => by obtain ⟨q0, q1, qP, qK, qD⟩ := q; exact ⟨q0, q1, qP, va_K.moved (u := U) (U := U.calling g mk a) (Vm.Alike.refl U.vm) qK, qD⟩, fun U hU hW => ⟨rfl, by rw [hU], by rw [hU]; exact hPc, va_K.moved hW.alike hKc, hDc.weaken (fun _ _ _ _ => trivial)⟩⟩ rfl rfl hl.1 rfl (lv_room (Nat.le_of_ble_eq_true rfl)) dX4_init_46 ⟨Nat.le_of_ble_eq_true rfl, Nat.le_of_ble_eq_true rfl⟩) hS (fun q _ h => hFc q h) hFc (fun u t H1 locs ht hvm w_21 hB hz1 hk1 hS => ?_)
  obtain ⟨q_22, q_23, hP1, hK1, hD1⟩ := hB
  rw [ht] at hP1
  have hK1 := va_K.moved hvm.symm hK1
  obtain ⟨hP, hD⟩ := kx_join (w2 := [(k_x, .inr (4, [.ref q_1, .ref q_4, .ref q_16, .null, .null, .null, .null, .int 0, .int 0])), kx_0 q_1 q_3 0, kx_a q_3 cyI 160 (fun _ => 0), kx_2 q_4 q_1 q_6 q_7 q_8 q_9 q_10 q_11 q_12 q_13 0 0, kx_3 q_6 q_14 q_15 0 0 0, kx_a q_14 cyI 12 (fun _ => 0), kx_a q_15 cyI 12 (fun _ => 0), kx_a q_7 cyI 319 (fun _ => 0), kx_a q_8 cyI 319 (fun _ => 0), kx_a q_9 cyI 319 (fun _ => 0), kx_a q_10 cyI 319 (fun _ => 0), kx_a q_11 cyI 319 (fun _ => 0), kx_a q_12 cyI 1914 (fun _ => 0), kx_a q_13 cyI 1914 (fun _ => 0), kx_1 q_16 q_18 q_19 0 0, kx_a q_18 cyI 160 (fun _ => 0), kx_a q_19 cyI 160 (fun _ => 0), kx_3 q_20 q_22 q_23 0 0 0, kx_a q_22 cyI 12 (fun _ => 0), kx_a q_23 cyI 12 (fun _ => 0)]) hP hD hP1 hD1 hk1 hFc [17] [0, 1, 2, 3, 4, 5, 6, 7, 8, 9, 10, 11, 12, 13, 14, 15, 16] hCc rfl (by decide) (by decide)
  clear hP1 hD1 hK1 hk1 hz1 hFc hDc hPc hKc hCc
  generalize H1 = H at hP hS ⊢
  refine W.widen (k := 19) (n := 5978) (Nat.le_of_ble_eq_true rfl) (Nat.le_of_ble_eq_true rfl) ?_
  refine va_putF (D := (dC, dI)) (ci := 4) (v := .ref q_20) (ty := .object "MajorityIndex$Votes") (C := RX4) (T := TX4) (N := 9) hx hb hts hi_4 tyX4 tyX4_ok nmX4 hown hK hP hD hS 0 rfl rfl 3 (by decide) hf_35 (fun _ h9 => h9) rfl hin rfl (by decide +kernel) rfl rfl (Nat.le_of_ble_eq_true rfl) dX4_init_49 (fun H locs hP hD hS => ?_)
  obtain ⟨hP, hD⟩ := kx_re (w2 := [(k_x, .inr (4, [.ref q_1, .ref q_4, .ref q_16, .ref q_20, .null, .null, .null, .int 0, .int 0])), kx_0 q_1 q_3 0, kx_a q_3 cyI 160 (fun _ => 0), kx_2 q_4 q_1 q_6 q_7 q_8 q_9 q_10 q_11 q_12 q_13 0 0, kx_3 q_6 q_14 q_15 0 0 0, kx_a q_14 cyI 12 (fun _ => 0), kx_a q_15 cyI 12 (fun _ => 0), kx_a q_7 cyI 319 (fun _ => 0), kx_a q_8 cyI 319 (fun _ => 0), kx_a q_9 cyI 319 (fun _ => 0), kx_a q_10 cyI 319 (fun _ => 0), kx_a q_11 cyI 319 (fun _ => 0), kx_a q_12 cyI 1914 (fun _ => 0), kx_a q_13 cyI 1914 (fun _ => 0), kx_1 q_16 q_18 q_19 0 0, kx_a q_18 cyI 160 (fun _ => 0), kx_a q_19 cyI 160 (fun _ => 0), kx_3 q_20 q_22 q_23 0 0 0, kx_a q_22 cyI 12 (fun _ => 0), kx_a q_23 cyI 12 (fun _ => 0)]) hP hD rfl
  refine lv_aload_n hx hb dX4_init_52 rfl (lv_at hl 0 rfl) ?_
  refine va_new (ci := 3) (fs := [.null, .null, .int 0, .int 0, .int 0]) (C := RX3) (T := TX3) (N := 5) hx hb hts hi_3 tyX3 tyX3_ok hown hc_32 hj_3 hz_3 hK hP hD hS hA rfl (ki_z3) (Nat.le_of_ble_eq_true rfl) (Nat.le_of_ble_eq_true rfl) dX4_init_53 (fun q_24 H hP hD hS => ?_)
  refine W.widen (k := 20) (n := 5983) (Nat.le_of_ble_eq_true rfl) (Nat.le_of_ble_eq_true rfl) ?_
  obtain ⟨hP, hD⟩ := kx_re (w2 := [(k_x, .inr (4, [.ref q_1, .ref q_4, .ref q_16, .ref q_20, .null, .null, .null, .int 0, .int 0])), kx_0 q_1 q_3 0, kx_a q_3 cyI 160 (fun _ => 0), kx_2 q_4 q_1 q_6 q_7 q_8 q_9 q_10 q_11 q_12 q_13 0 0, kx_3 q_6 q_14 q_15 0 0 0, kx_a q_14 cyI 12 (fun _ => 0), kx_a q_15 cyI 12 (fun _ => 0), kx_a q_7 cyI 319 (fun _ => 0), kx_a q_8 cyI 319 (fun _ => 0), kx_a q_9 cyI 319 (fun _ => 0), kx_a q_10 cyI 319 (fun _ => 0), kx_a q_11 cyI 319 (fun _ => 0), kx_a q_12 cyI 1914 (fun _ => 0), kx_a q_13 cyI 1914 (fun _ => 0), kx_1 q_16 q_18 q_19 0 0, kx_a q_18 cyI 160 (fun _ => 0), kx_a q_19 cyI 160 (fun _ => 0), kx_3 q_20 q_22 q_23 0 0 0, kx_a q_22 cyI 12 (fun _ => 0), kx_a q_23 cyI 12 (fun _ => 0), (q_24, .inr (3, [.null, .null, .int 0, .int 0, .int 0]))]) hP hD rfl
  refine lv_dup hx hb dX4_init_56 rfl ?_
  obtain ⟨hPc, hDc, hFc, hCc⟩ := kx_pre (wc := [(q_24, .inr (3, [.null, .null, .int 0, .int 0, .int 0]))]) hP hD hS hA [20] (by decide) rfl
  have hKc := hK
  refine va_callv (va_runIN (As := []) (rest := [.ref q_24, .ref k_x]) ⟨hx, hb, hml, hown, hts⟩ (c_X3_init l dC dI q_24 cyI H.size) ⟨(va_cnB 0 hts ggX4_init_X3_init rfl rfl rfl hN2 hz_RX3 (by decide +kernel) ⟨Nat.le_of_ble_eq_true rfl, Nat.le_of_ble_eq_true rfl⟩), rfl, hq_X3_init⟩ ⟨fun a U g mk q => by obtain ⟨q0, q1, qP, qK, qD⟩ := q; exact ⟨q0, q1, qP, va_K.moved (u := U) (U := U.calling g mk a) (Vm.Alike.refl U.vm) qK, qD⟩, fun U hU hW => ⟨rfl, by rw [hU], by rw [hU]; exact hPc, va_K.moved hW.alike hKc, hDc.weaken (fun _ _ _ _ => trivial)⟩⟩ rfl rfl hl.1 rfl (lv_room (Nat.le_of_ble_eq_true rfl)) dX4_init_57 ⟨Nat.le_of_ble_eq_true rfl, Nat.le_of_ble_eq_true rfl⟩) hS (fun q _ h => hFc q h) hFc (fun u t H1 locs ht hvm w_25 hB hz1 hk1 hS => ?_)
  obtain ⟨q_26, q_27, hP1, hK1, hD1⟩ := hB
  rw [ht] at hP1
  have hK1 := va_K.moved hvm.symm hK1
  obtain ⟨hP, hD⟩ := kx_join (w2 := [(k_x, .inr (4, [.ref q_1, .ref q_4, .ref q_16, .ref q_20, .null, .null, .null, .int 0, .int 0])), kx_0 q_1 q_3 0, kx_a q_3 cyI 160 (fun _ => 0), kx_2 q_4 q_1 q_6 q_7 q_8 q_9 q_10 q_11 q_12 q_13 0 0, kx_3 q_6 q_14 q_15 0 0 0, kx_a q_14 cyI 12 (fun _ => 0), kx_a q_15 cyI 12 (fun _ => 0), kx_a q_7 cyI 319 (fun _ => 0), kx_a q_8 cyI 319 (fun _ => 0), kx_a q_9 cyI 319 (fun _ => 0), kx_a q_10 cyI 319 (fun _ => 0), kx_a q_11 cyI 319 (fun _ => 0), kx_a q_12 cyI 1914 (fun _ => 0), kx_a q_13 cyI 1914 (fun _ => 0), kx_1 q_16 q_18 q_19 0 0, kx_a q_18 cyI 160 (fun _ => 0), kx_a q_19 cyI 160 (fun _ => 0), kx_3 q_20 q_22 q_23 0 0 0, kx_a q_22 cyI 12 (fun _ => 0), kx_a q_23 cyI 12 (fun _ => 0), kx_3 q_24 q_26 q_27 0 0 0, kx_a q_26 cyI 12 (fun _ => 0), kx_a q_27 cyI 12 (fun _ => 0)]) hP hD hP1 hD1 hk1 hFc [20] [0, 1, 2, 3, 4, 5, 6, 7, 8, 9, 10, 11, 12, 13, 14, 15, 16, 17, 18, 19] hCc rfl (by decide) (by decide)
  clear hP1 hD1 hK1 hk1 hz1 hFc hDc hPc hKc hCc
  generalize H1 = H at hP hS ⊢
  refine W.widen (k := 22) (n := 6007) (Nat.le_of_ble_eq_true rfl) (Nat.le_of_ble_eq_true rfl) ?_
  refine va_putF (D := (dC, dI)) (ci := 4) (v := .ref q_24) (ty := .object "MajorityIndex$Votes") (C := RX4) (T := TX4) (N := 9) hx hb hts hi_4 tyX4 tyX4_ok nmX4 hown hK hP hD hS 0 rfl rfl 4 (by decide) hf_39 (fun _ h9 => h9) rfl hin rfl (by decide +kernel) rfl rfl (Nat.le_of_ble_eq_true rfl) dX4_init_60 (fun H locs hP hD hS => ?_)
  obtain ⟨hP, hD⟩ := kx_re (w2 := [(k_x, .inr (4, [.ref q_1, .ref q_4, .ref q_16, .ref q_20, .ref q_24, .null, .null, .int 0, .int 0])), kx_0 q_1 q_3 0, kx_a q_3 cyI 160 (fun _ => 0), kx_2 q_4 q_1 q_6 q_7 q_8 q_9 q_10 q_11 q_12 q_13 0 0, kx_3 q_6 q_14 q_15 0 0 0, kx_a q_14 cyI 12 (fun _ => 0), kx_a q_15 cyI 12 (fun _ => 0), kx_a q_7 cyI 319 (fun _ => 0), kx_a q_8 cyI 319 (fun _ => 0), kx_a q_9 cyI 319 (fun _ => 0), kx_a q_10 cyI 319 (fun _ => 0), kx_a q_11 cyI 319 (fun _ => 0), kx_a q_12 cyI 1914 (fun _ => 0), kx_a q_13 cyI 1914 (fun _ => 0), kx_1 q_16 q_18 q_19 0 0, kx_a q_18 cyI 160 (fun _ => 0), kx_a q_19 cyI 160 (fun _ => 0), kx_3 q_20 q_22 q_23 0 0 0, kx_a q_22 cyI 12 (fun _ => 0), kx_a q_23 cyI 12 (fun _ => 0), kx_3 q_24 q_26 q_27 0 0 0, kx_a q_26 cyI 12 (fun _ => 0), kx_a q_27 cyI 12 (fun _ => 0)]) hP hD rfl
  refine lv_aload_n hx hb dX4_init_63 rfl (lv_at hl 0 rfl) ?_
  refine lv_sipush (v := 160) hx hb dX4_init_64 (by decide) ?_
  refine va_newa (atype := .int) (a0 := (160, .inl (fun _ => 0))) hx hb ha_int rfl hK hP hD hS hA (N' := 160) (fun cA => ki_zi cA 160) (by decide) (by decide) (Nat.le_of_ble_eq_true rfl) (Nat.le_of_ble_eq_true rfl) (Nat.le_of_ble_eq_true rfl) dX4_init_67 (fun q_28 cA_29 H hK hP hD hS => ?_)
  obtain rfl : cyI = cA_29 := (ki_cA hK 0 1 rfl rfl).symm
  have hK : va_K (dC, dI) vwCl [(cyI, .int)] s := hK.sub [0] rfl
  refine W.widen (k := 23) (n := 6167) (Nat.le_of_ble_eq_true rfl) (Nat.le_of_ble_eq_true rfl) ?_
  obtain ⟨hP, hD⟩ := kx_re (w2 := [(k_x, .inr (4, [.ref q_1, .ref q_4, .ref q_16, .ref q_20, .ref q_24, .null, .null, .int 0, .int 0])), kx_0 q_1 q_3 0, kx_a q_3 cyI 160 (fun _ => 0), kx_2 q_4 q_1 q_6 q_7 q_8 q_9 q_10 q_11 q_12 q_13 0 0, kx_3 q_6 q_14 q_15 0 0 0, kx_a q_14 cyI 12 (fun _ => 0), kx_a q_15 cyI 12 (fun _ => 0), kx_a q_7 cyI 319 (fun _ => 0), kx_a q_8 cyI 319 (fun _ => 0), kx_a q_9 cyI 319 (fun _ => 0), kx_a q_10 cyI 319 (fun _ => 0), kx_a q_11 cyI 319 (fun _ => 0), kx_a q_12 cyI 1914 (fun _ => 0), kx_a q_13 cyI 1914 (fun _ => 0), kx_1 q_16 q_18 q_19 0 0, kx_a q_18 cyI 160 (fun _ => 0), kx_a q_19 cyI 160 (fun _ => 0), kx_3 q_20 q_22 q_23 0 0 0, kx_a q_22 cyI 12 (fun _ => 0), kx_a q_23 cyI 12 (fun _ => 0), kx_3 q_24 q_26 q_27 0 0 0, kx_a q_26 cyI 12 (fun _ => 0), kx_a q_27 cyI 12 (fun _ => 0), kx_a q_28 cyI 160 (fun _ => 0)]) hP hD rfl
  refine va_putF (D := (dC, dI)) (ci := 4) (v := .ref q_28) (ty := .array .int) (C := RX4) (T := TX4) (N := 9) hx hb hts hi_4 tyX4 tyX4_ok nmX4 hown hK hP hD hS 0 rfl rfl 5 (by decide) hf_42 (fun _ h9 => h9) rfl hin rfl (by decide +kernel) rfl rfl (Nat.le_of_ble_eq_true rfl) dX4_init_69 (fun H locs hP hD hS => ?_)
  obtain ⟨hP, hD⟩ := kx_re (w2 := [(k_x, .inr (4, [.ref q_1, .ref q_4, .ref q_16, .ref q_20, .ref q_24, .ref q_28, .null, .int 0, .int 0])), kx_0 q_1 q_3 0, kx_a q_3 cyI 160 (fun _ => 0), kx_2 q_4 q_1 q_6 q_7 q_8 q_9 q_10 q_11 q_12 q_13 0 0, kx_3 q_6 q_14 q_15 0 0 0, kx_a q_14 cyI 12 (fun _ => 0), kx_a q_15 cyI 12 (fun _ => 0), kx_a q_7 cyI 319 (fun _ => 0), kx_a q_8 cyI 319 (fun _ => 0), kx_a q_9 cyI 319 (fun _ => 0), kx_a q_10 cyI 319 (fun _ => 0), kx_a q_11 cyI 319 (fun _ => 0), kx_a q_12 cyI 1914 (fun _ => 0), kx_a q_13 cyI 1914 (fun _ => 0), kx_1 q_16 q_18 q_19 0 0, kx_a q_18 cyI 160 (fun _ => 0), kx_a q_19 cyI 160 (fun _ => 0), kx_3 q_20 q_22 q_23 0 0 0, kx_a q_22 cyI 12 (fun _ => 0), kx_a q_23 cyI 12 (fun _ => 0), kx_3 q_24 q_26 q_27 0 0 0, kx_a q_26 cyI 12 (fun _ => 0), kx_a q_27 cyI 12 (fun _ => 0), kx_a q_28 cyI 160 (fun _ => 0)]) hP hD rfl
  refine lv_aload_n hx hb dX4_init_72 rfl (lv_at hl 0 rfl) ?_
  refine lv_sipush (v := 161) hx hb dX4_init_73 (by decide) ?_
  refine va_newa (atype := .int) (a0 := (161, .inl (fun _ => 0))) hx hb ha_int rfl hK hP hD hS hA (N' := 161) (fun cA => ki_zi cA 161) (by decide) (by decide) (Nat.le_of_ble_eq_true rfl) (Nat.le_of_ble_eq_true rfl) (Nat.le_of_ble_eq_true rfl) dX4_init_76 (fun q_30 cA_31 H hK hP hD hS => ?_)
  obtain rfl : cyI = cA_31 := (ki_cA hK 0 1 rfl rfl).symm
  have hK : va_K (dC, dI) vwCl [(cyI, .int)] s := hK.sub [0] rfl
  refine W.widen (k := 24) (n := 6328) (Nat.le_of_ble_eq_true rfl) (Nat.le_of_ble_eq_true rfl) ?_
  obtain ⟨hP, hD⟩ := kx_re (w2 := [(k_x, .inr (4, [.ref q_1, .ref q_4, .ref q_16, .ref q_20, .ref q_24, .ref q_28, .null, .int 0, .int 0])), kx_0 q_1 q_3 0, kx_a q_3 cyI 160 (fun _ => 0), kx_2 q_4 q_1 q_6 q_7 q_8 q_9 q_10 q_11 q_12 q_13 0 0, kx_3 q_6 q_14 q_15 0 0 0, kx_a q_14 cyI 12 (fun _ => 0), kx_a q_15 cyI 12 (fun _ => 0), kx_a q_7 cyI 319 (fun _ => 0), kx_a q_8 cyI 319 (fun _ => 0), kx_a q_9 cyI 319 (fun _ => 0), kx_a q_10 cyI 319 (fun _ => 0), kx_a q_11 cyI 319 (fun _ => 0), kx_a q_12 cyI 1914 (fun _ => 0), kx_a q_13 cyI 1914 (fun _ => 0), kx_1 q_16 q_18 q_19 0 0, kx_a q_18 cyI 160 (fun _ => 0), kx_a q_19 cyI 160 (fun _ => 0), kx_3 q_20 q_22 q_23 0 0 0, kx_a q_22 cyI 12 (fun _ => 0), kx_a q_23 cyI 12 (fun _ => 0), kx_3 q_24 q_26 q_27 0 0 0, kx_a q_26 cyI 12 (fun _ => 0), kx_a q_27 cyI 12 (fun _ => 0), kx_a q_28 cyI 160 (fun _ => 0), kx_a q_30 cyI 161 (fun _ => 0)]) hP hD rfl
  refine va_putF (D := (dC, dI)) (ci := 4) (v := .ref q_30) (ty := .array .int) (C := RX4) (T := TX4) (N := 9) hx hb hts hi_4 tyX4 tyX4_ok nmX4 hown hK hP hD hS 0 rfl rfl 6 (by decide) hf_46 (fun _ h9 => h9) rfl hin rfl (by decide +kernel) rfl rfl (Nat.le_of_ble_eq_true rfl) dX4_init_78 (fun H locs hP hD hS => ?_)
  obtain ⟨hP, hD⟩ := kx_re (w2 := [kx_4 k_x q_1 q_4 q_16 q_20 q_24 q_28 q_30 0 0, kx_0 q_1 q_3 0, kx_a q_3 cyI 160 (fun _ => 0), kx_2 q_4 q_1 q_6 q_7 q_8 q_9 q_10 q_11 q_12 q_13 0 0, kx_3 q_6 q_14 q_15 0 0 0, kx_a q_14 cyI 12 (fun _ => 0), kx_a q_15 cyI 12 (fun _ => 0), kx_a q_7 cyI 319 (fun _ => 0), kx_a q_8 cyI 319 (fun _ => 0), kx_a q_9 cyI 319 (fun _ => 0), kx_a q_10 cyI 319 (fun _ => 0), kx_a q_11 cyI 319 (fun _ => 0), kx_a q_12 cyI 1914 (fun _ => 0), kx_a q_13 cyI 1914 (fun _ => 0), kx_1 q_16 q_18 q_19 0 0, kx_a q_18 cyI 160 (fun _ => 0), kx_a q_19 cyI 160 (fun _ => 0), kx_3 q_20 q_22 q_23 0 0 0, kx_a q_22 cyI 12 (fun _ => 0), kx_a q_23 cyI 12 (fun _ => 0), kx_3 q_24 q_26 q_27 0 0 0, kx_a q_26 cyI 12 (fun _ => 0), kx_a q_27 cyI 12 (fun _ => 0), kx_a q_28 cyI 160 (fun _ => 0), kx_a q_30 cyI 161 (fun _ => 0)]) hP hD rfl
  refine lv_aload_n hx hb dX4_init_81 rfl (lv_at hl 0 rfl) ?_
  refine lv_iconst (v := 2) hx hb dX4_init_82 (by decide) ?_
  refine va_put (D := (dC, dI)) (ci := 4) (v := .int 2) (ty := .int) (C := RX4) (T := TX4) (N := 9) hx hb hts hi_4 tyX4 tyX4_ok nmX4 hown hK hP hD hS 0 rfl rfl 7 (by decide) hf_49 (fun _ h9 => h9) rfl (by decide +kernel) rfl rfl (Nat.le_of_ble_eq_true rfl) dX4_init_83 (fun H locs hP hD hS => ?_)
  obtain ⟨hP, hD⟩ := kx_re (w2 := [kx_4 k_x q_1 q_4 q_16 q_20 q_24 q_28 q_30 2 0, kx_0 q_1 q_3 0, kx_a q_3 cyI 160 (fun _ => 0), kx_2 q_4 q_1 q_6 q_7 q_8 q_9 q_10 q_11 q_12 q_13 0 0, kx_3 q_6 q_14 q_15 0 0 0, kx_a q_14 cyI 12 (fun _ => 0), kx_a q_15 cyI 12 (fun _ => 0), kx_a q_7 cyI 319 (fun _ => 0), kx_a q_8 cyI 319 (fun _ => 0), kx_a q_9 cyI 319 (fun _ => 0), kx_a q_10 cyI 319 (fun _ => 0), kx_a q_11 cyI 319 (fun _ => 0), kx_a q_12 cyI 1914 (fun _ => 0), kx_a q_13 cyI 1914 (fun _ => 0), kx_1 q_16 q_18 q_19 0 0, kx_a q_18 cyI 160 (fun _ => 0), kx_a q_19 cyI 160 (fun _ => 0), kx_3 q_20 q_22 q_23 0 0 0, kx_a q_22 cyI 12 (fun _ => 0), kx_a q_23 cyI 12 (fun _ => 0), kx_3 q_24 q_26 q_27 0 0 0, kx_a q_26 cyI 12 (fun _ => 0), kx_a q_27 cyI 12 (fun _ => 0), kx_a q_28 cyI 160 (fun _ => 0), kx_a q_30 cyI 161 (fun _ => 0)]) hP hD rfl
  refine lv_aload_n hx hb dX4_init_86 rfl (lv_at hl 0 rfl) ?_
  refine lv_iconst (v := 1) hx hb dX4_init_87 (by decide) ?_
  refine va_put (D := (dC, dI)) (ci := 4) (v := .int 1) (ty := .boolean) (C := RX4) (T := TX4) (N := 9) hx hb hts hi_4 tyX4 tyX4_ok nmX4 hown hK hP hD hS 0 rfl rfl 8 (by decide) hf_53 (fun _ h9 => h9) rfl (by decide +kernel) (by decide) (by decide) (Nat.le_of_ble_eq_true rfl) dX4_init_88 (fun H locs hP hD hS => ?_)
  obtain ⟨hP, hD⟩ := kx_re (w2 := [kx_4 k_x q_1 q_4 q_16 q_20 q_24 q_28 q_30 2 1, kx_0 q_1 q_3 0, kx_a q_3 cyI 160 (fun _ => 0), kx_2 q_4 q_1 q_6 q_7 q_8 q_9 q_10 q_11 q_12 q_13 0 0, kx_3 q_6 q_14 q_15 0 0 0, kx_a q_14 cyI 12 (fun _ => 0), kx_a q_15 cyI 12 (fun _ => 0), kx_a q_7 cyI 319 (fun _ => 0), kx_a q_8 cyI 319 (fun _ => 0), kx_a q_9 cyI 319 (fun _ => 0), kx_a q_10 cyI 319 (fun _ => 0), kx_a q_11 cyI 319 (fun _ => 0), kx_a q_12 cyI 1914 (fun _ => 0), kx_a q_13 cyI 1914 (fun _ => 0), kx_1 q_16 q_18 q_19 0 0, kx_a q_18 cyI 160 (fun _ => 0), kx_a q_19 cyI 160 (fun _ => 0), kx_3 q_20 q_22 q_23 0 0 0, kx_a q_22 cyI 12 (fun _ => 0), kx_a q_23 cyI 12 (fun _ => 0), kx_3 q_24 q_26 q_27 0 0 0, kx_a q_26 cyI 12 (fun _ => 0), kx_a q_27 cyI 12 (fun _ => 0), kx_a q_28 cyI 160 (fun _ => 0), kx_a q_30 cyI 161 (fun _ => 0)]) hP hD rfl
  have hP9 := hP
  have hD9 := hD
  have hK9 := hK
  exact W.vret hx hb hr (hlocks := hlocks) (fun t ht hW => ⟨⟨(), rfl, trivial, q_1, q_4, q_16, q_20, q_24, q_28, q_30, q_3, q_6, q_7, q_8, q_9, q_10, q_11, q_12, q_13, q_14, q_15, q_18, q_19, q_22, q_23, q_26, q_27, by rw [ht]; exact hP9, va_K.moved hW.alike hK9, hD9⟩, hS.F ht⟩) hS.2.2 dX4_init_91

set_option maxHeartbeats 4000000 in
set_option maxRecDepth 100000 in
theorem c_X5_init (l : Launch) (dC : Nat → ClassId) (dI : Nat → Nat → Nat) (h0 : Nat) (cyI : ClassId) (sz : Nat) : Met l yX5_init wsX5_init ({ frames := 1, cells := 21, slots := 11297, locals := 45 }) (va_Pc [.ref h0] (fun U => U.heap.size = sz ∧ va_P (dC, dI) vwCl [(h0, .inr (5, [.null, .int 0, .int 0, .int 0, .null, .null, .null, .null, .null, .null, .null, .int 0, .null, .null, .int 0, .null, .int 0, .null, .null, .null, .null, .null, .int 0, .null, .null, .int 0, .null, .null, .null, .int 0]))] U.heap ∧ va_K (dC, dI) vwCl [(cyI, .int)] U ∧ va_D (fun _ => True) [(h0, .inr (5, [.null, .int 0, .int 0, .int 0, .null, .null, .null, .null, .null, .null, .null, .int 0, .null, .null, .int 0, .null, .int 0, .null, .null, .null, .null, .null, .int 0, .null, .null, .int 0, .null, .null, .null, .int 0]))])) (va_Qv (fun _ : Unit => True) (fun (_ : Unit) (t : State) => ∃ (k_row : Nat) (k_many : Nat) (k_loss : Nat) (k_less : Nat) (k_voteValue : Nat) (k_voteNumber : Nat) (k_allValue : Nat) (k_allNumber : Nat) (k_nodeL : Nat) (k_nodeR : Nat) (k_part : Nat) (k_wasMany : Nat) (k_wasLoss : Nat) (k_wasValue : Nat) (k_wasNumber : Nat) (k_path : Nat) (k_heavyValue : Nat) (k_heavyTimes : Nat) (k_fewest : Nat) (k_which : Nat) (k_met : Nat), va_P (dC, dI) vwCl [kx_5 h0 k_row 0 2 0 k_many k_loss k_less k_voteValue k_voteNumber k_allValue k_allNumber 0 k_nodeL k_nodeR 0 k_part 0 k_wasMany k_wasLoss k_wasValue k_wasNumber k_path 0 k_heavyValue k_heavyTimes 0 k_fewest k_which k_met 0, kx_a k_row cyI 160 (fun _ => 0), kx_a k_many cyI 324 (fun _ => 0), kx_a k_loss cyI 324 (fun _ => 0), kx_a k_less cyI 324 (fun _ => 0), kx_a k_voteValue cyI 1944 (fun _ => 0), kx_a k_voteNumber cyI 1944 (fun _ => 0), kx_a k_allValue cyI 12 (fun _ => 0), kx_a k_allNumber cyI 12 (fun _ => 0), kx_a k_nodeL cyI 320 (fun _ => 0), kx_a k_nodeR cyI 320 (fun _ => 0), kx_a k_part cyI 320 (fun _ => 0), kx_a k_wasMany cyI 320 (fun _ => 0), kx_a k_wasLoss cyI 320 (fun _ => 0), kx_a k_wasValue cyI 1920 (fun _ => 0), kx_a k_wasNumber cyI 1920 (fun _ => 0), kx_a k_path cyI 12 (fun _ => 0), kx_a k_heavyValue cyI 160 (fun _ => 0), kx_a k_heavyTimes cyI 160 (fun _ => 0), kx_a k_fewest cyI 161 (fun _ => 0), kx_a k_which cyI 160 (fun _ => 0), kx_a k_met cyI 160 (fun _ => 0)] t.heap ∧ va_K (dC, dI) vwCl [(cyI, .int)] t ∧ va_D (va_A [(h0, .inr (5, [.null, .int 0, .int 0, .int 0, .null, .null, .null, .null, .null, .null, .null, .int 0, .null, .null, .int 0, .null, .int 0, .null, .null, .null, .null, .null, .int 0, .null, .null, .int 0, .null, .null, .null, .int 0]))] sz) [kx_5 h0 k_row 0 2 0 k_many k_loss k_less k_voteValue k_voteNumber k_allValue k_allNumber 0 k_nodeL k_nodeR 0 k_part 0 k_wasMany k_wasLoss k_wasValue k_wasNumber k_path 0 k_heavyValue k_heavyTimes 0 k_fewest k_which k_met 0, kx_a k_row cyI 160 (fun _ => 0), kx_a k_many cyI 324 (fun _ => 0), kx_a k_loss cyI 324 (fun _ => 0), kx_a k_less cyI 324 (fun _ => 0), kx_a k_voteValue cyI 1944 (fun _ => 0), kx_a k_voteNumber cyI 1944 (fun _ => 0), kx_a k_allValue cyI 12 (fun _ => 0), kx_a k_allNumber cyI 12 (fun _ => 0), kx_a k_nodeL cyI 320 (fun _ => 0), kx_a k_nodeR cyI 320 (fun _ => 0), kx_a k_part cyI 320 (fun _ => 0), kx_a k_wasMany cyI 320 (fun _ => 0), kx_a k_wasLoss cyI 320 (fun _ => 0), kx_a k_wasValue cyI 1920 (fun _ => 0), kx_a k_wasNumber cyI 1920 (fun _ => 0), kx_a k_path cyI 12 (fun _ => 0), kx_a k_heavyValue cyI 160 (fun _ => 0), kx_a k_heavyTimes cyI 160 (fun _ => 0), kx_a k_fewest cyI 161 (fun _ => 0), kx_a k_which cyI 160 (fun _ => 0), kx_a k_met cyI 160 (fun _ => 0)]) (va_A [(h0, .inr (5, [.null, .int 0, .int 0, .int 0, .null, .null, .null, .null, .null, .null, .null, .int 0, .null, .null, .int 0, .null, .int 0, .null, .null, .null, .null, .null, .int 0, .null, .null, .int 0, .null, .null, .null, .int 0]))] sz)) 21 11297 (va_A [(h0, .inr (5, [.null, .int 0, .int 0, .int 0, .null, .null, .null, .null, .null, .null, .null, .int 0, .null, .null, .int 0, .null, .int 0, .null, .null, .null, .null, .null, .int 0, .null, .null, .int 0, .null, .null, .null, .int 0]))] sz) := by
  refine Met.ofW (cc := cX5_init) (maxL := 1) (ret := none) (by decide) rfl ?_
  intro p e s m args below meth c s₁ B hml hv
  obtain ⟨rfl, hsz, hP, hK, hD0⟩ := hv
  have hx := B.exec
  have hb := B.bytes
  have hr := B.returns
  have hts := atoms_spec (ws := wsX5_init) B.pre
  have hown : s.vm.findClass RX5 = some m.cls := findClass_of_methodNamed B.named
  have hlocks := B.notSynchronized
  have hin : meth.name = "<init>" := (name_of_methodNamed B.named B.method).1
  subst hsz
  have hD := hD0.self (sz := s.heap.size)
  generalize hAe : va_A [(h0, .inr (5, [.null, .int 0, .int 0, .int 0, .null, .null, .null, .null, .null, .null, .null, .int 0, .null, .null, .int 0, .null, .int 0, .null, .null, .null, .null, .null, .int 0, .null, .null, .int 0, .null, .null, .null, .int 0]))] s.heap.size = A at hD ⊢
  have hA : ∀ q : Nat, s.heap.size ≤ q → A q := fun q h => by rw [← hAe]; exact Or.inr h
  have hS : va_S A s.heap s.heap [] := va_S.rf
  have hP : va_P (dC, dI) vwCl [(h0, .inr (5, [.null, .int 0, .int 0, .int 0, .null, .null, .null, .null, .null, .null, .null, .int 0, .null, .null, .int 0, .null, .int 0, .null, .null, .null, .null, .null, .int 0, .null, .null, .int 0, .null, .null, .null, .int 0]))] s.heap := hP
  have hl := lv_entry ([.ref h0]) (n := 1) (Nat.le_of_ble_eq_true rfl)
  rw [lg_entry_eq]
  generalize (lg_sl ([.ref h0]) ++ List.replicate (1 - (lg_sl ([.ref h0])).length) Slot.unset).toArray = ls at hl ⊢
  have hl : lv_has ls 1 [(0, .ref h0)] := hl
  have hm_1 := hts (.methodLink RX5 1 objectInit) (List.mem_of_getElem? (i := 1) rfl)
  have ho_i := hts (.instanceMethod objectInit) (List.mem_of_getElem? (i := 2) rfl)
  have ho_c := hts (.code objectInit ⟨#[0xb1]⟩ 1 none) (List.mem_of_getElem? (i := 3) rfl)
  have ha_int := hts (.arrayClass .int) (List.mem_of_getElem? (i := 4) rfl)
  have hf_7 := hts (.fieldLink RX5 7 "MajorityIndexModel" "row" "[I") (List.mem_of_getElem? (i := 5) rfl)
  have hi_5 : ∀ w ∈ u_ws RX5 TX5 30, w ∈ wsX5_init := fun w h => List.mem_cons_of_mem _ (List.mem_append_right _ h)
  have hf_13 := hts (.fieldLink RX5 13 "MajorityIndexModel" "slots" "I") (List.mem_of_getElem? (i := 6) rfl)
  have hf_17 := hts (.fieldLink RX5 17 "MajorityIndexModel" "many" "[I") (List.mem_of_getElem? (i := 7) rfl)
  have hf_20 := hts (.fieldLink RX5 20 "MajorityIndexModel" "loss" "[I") (List.mem_of_getElem? (i := 8) rfl)
  have hf_23 := hts (.fieldLink RX5 23 "MajorityIndexModel" "less" "[I") (List.mem_of_getElem? (i := 9) rfl)
  have hf_26 := hts (.fieldLink RX5 26 "MajorityIndexModel" "voteValue" "[I") (List.mem_of_getElem? (i := 10) rfl)
  have hf_29 := hts (.fieldLink RX5 29 "MajorityIndexModel" "voteNumber" "[I") (List.mem_of_getElem? (i := 11) rfl)
  have hf_32 := hts (.fieldLink RX5 32 "MajorityIndexModel" "allValue" "[I") (List.mem_of_getElem? (i := 12) rfl)
  have hf_35 := hts (.fieldLink RX5 35 "MajorityIndexModel" "allNumber" "[I") (List.mem_of_getElem? (i := 13) rfl)
  have hf_38 := hts (.fieldLink RX5 38 "MajorityIndexModel" "nodeL" "[I") (List.mem_of_getElem? (i := 14) rfl)
  have hf_41 := hts (.fieldLink RX5 41 "MajorityIndexModel" "nodeR" "[I") (List.mem_of_getElem? (i := 15) rfl)
  have hf_44 := hts (.fieldLink RX5 44 "MajorityIndexModel" "part" "[I") (List.mem_of_getElem? (i := 16) rfl)
  have hf_47 := hts (.fieldLink RX5 47 "MajorityIndexModel" "wasMany" "[I") (List.mem_of_getElem? (i := 17) rfl)
  have hf_50 := hts (.fieldLink RX5 50 "MajorityIndexModel" "wasLoss" "[I") (List.mem_of_getElem? (i := 18) rfl)
  have hf_53 := hts (.fieldLink RX5 53 "MajorityIndexModel" "wasValue" "[I") (List.mem_of_getElem? (i := 19) rfl)
  have hf_56 := hts (.fieldLink RX5 56 "MajorityIndexModel" "wasNumber" "[I") (List.mem_of_getElem? (i := 20) rfl)
  have hf_59 := hts (.fieldLink RX5 59 "MajorityIndexModel" "path" "[I") (List.mem_of_getElem? (i := 21) rfl)
  have hf_62 := hts (.fieldLink RX5 62 "MajorityIndexModel" "heavyValue" "[I") (List.mem_of_getElem? (i := 22) rfl)
  have hf_65 := hts (.fieldLink RX5 65 "MajorityIndexModel" "heavyTimes" "[I") (List.mem_of_getElem? (i := 23) rfl)
  have hf_68 := hts (.fieldLink RX5 68 "MajorityIndexModel" "fewest" "[I") (List.mem_of_getElem? (i := 24) rfl)
  have hf_71 := hts (.fieldLink RX5 71 "MajorityIndexModel" "which" "[I") (List.mem_of_getElem? (i := 25) rfl)
  have hf_74 := hts (.fieldLink RX5 74 "MajorityIndexModel" "met" "[I") (List.mem_of_getElem? (i := 26) rfl)
  refine lv_aload_n hx hb dX5_init_0 rfl (lv_at hl 0 rfl) ?_
  refine W.objInit hx hb hown hm_1 ho_i ho_c rfl (by rw [hml]; exact hl.1) rfl dX5_init_1 (Nat.le_of_ble_eq_true rfl) (Nat.le_of_ble_eq_true rfl) ?_
  refine W.eq (g2 := F0 m 4 ls []) rfl ?_
  refine lv_aload_n hx hb dX5_init_4 rfl (lv_at hl 0 rfl) ?_
  refine lv_sipush (v := 160) hx hb dX5_init_5 (by decide) ?_
  refine va_newa (atype := .int) (a0 := (160, .inl (fun _ => 0))) hx hb ha_int rfl hK hP hD hS hA (N' := 160) (fun cA => ki_zi cA 160) (by decide) (by decide) (Nat.le_of_ble_eq_true rfl) (Nat.le_of_ble_eq_true rfl) (Nat.le_of_ble_eq_true rfl) dX5_init_8 (fun q_1 cA_2 H hK hP hD hS => ?_)
  obtain rfl : cyI = cA_2 := (ki_cA hK 0 1 rfl rfl).symm
  have hK : va_K (dC, dI) vwCl [(cyI, .int)] s := hK.sub [0] rfl
  refine W.widen (k := 1) (n := 160) (Nat.le_of_ble_eq_true rfl) (Nat.le_of_ble_eq_true rfl) ?_
  obtain ⟨hP, hD⟩ := kx_re (w2 := [(h0, .inr (5, [.null, .int 0, .int 0, .int 0, .null, .null, .null, .null, .null, .null, .null, .int 0, .null, .null, .int 0, .null, .int 0, .null, .null, .null, .null, .null, .int 0, .null, .null, .int 0, .null, .null, .null, .int 0])), kx_a q_1 cyI 160 (fun _ => 0)]) hP hD rfl
  refine va_putF (D := (dC, dI)) (ci := 5) (v := .ref q_1) (ty := .array .int) (C := RX5) (T := TX5) (N := 30) hx hb hts hi_5 tyX5 tyX5_ok nmX5 hown hK hP hD hS 0 rfl rfl 0 (by decide) hf_7 (fun _ h9 => h9) rfl hin rfl (by decide +kernel) rfl rfl (Nat.le_of_ble_eq_true rfl) dX5_init_10 (fun H locs hP hD hS => ?_)
  obtain ⟨hP, hD⟩ := kx_re (w2 := [(h0, .inr (5, [.ref q_1, .int 0, .int 0, .int 0, .null, .null, .null, .null, .null, .null, .null, .int 0, .null, .null, .int 0, .null, .int 0, .null, .null, .null, .null, .null, .int 0, .null, .null, .int 0, .null, .null, .null, .int 0])), kx_a q_1 cyI 160 (fun _ => 0)]) hP hD rfl
  refine lv_aload_n hx hb dX5_init_13 rfl (lv_at hl 0 rfl) ?_
  refine lv_iconst (v := 2) hx hb dX5_init_14 (by decide) ?_
  refine va_put (D := (dC, dI)) (ci := 5) (v := .int 2) (ty := .int) (C := RX5) (T := TX5) (N := 30) hx hb hts hi_5 tyX5 tyX5_ok nmX5 hown hK hP hD hS 0 rfl rfl 2 (by decide) hf_13 (fun _ h9 => h9) rfl (by decide +kernel) rfl rfl (Nat.le_of_ble_eq_true rfl) dX5_init_15 (fun H locs hP hD hS => ?_)
  obtain ⟨hP, hD⟩ := kx_re (w2 := [(h0, .inr (5, [.ref q_1, .int 0, .int 2, .int 0, .null, .null, .null, .null, .null, .null, .null, .int 0, .null, .null, .int 0, .null, .int 0, .null, .null, .null, .null, .null, .int 0, .null, .null, .int 0, .null, .null, .null, .int 0])), kx_a q_1 cyI 160 (fun _ => 0)]) hP hD rfl
  refine lv_aload_n hx hb dX5_init_18 rfl (lv_at hl 0 rfl) ?_
  refine lv_sipush (v := 324) hx hb dX5_init_19 (by decide) ?_
  refine va_newa (atype := .int) (a0 := (324, .inl (fun _ => 0))) hx hb ha_int rfl hK hP hD hS hA (N' := 324) (fun cA => ki_zi cA 324) (by decide) (by decide) (Nat.le_of_ble_eq_true rfl) (Nat.le_of_ble_eq_true rfl) (Nat.le_of_ble_eq_true rfl) dX5_init_22 (fun q_3 cA_4 H hK hP hD hS => ?_)
  obtain rfl : cyI = cA_4 := (ki_cA hK 0 1 rfl rfl).symm
  have hK : va_K (dC, dI) vwCl [(cyI, .int)] s := hK.sub [0] rfl
  refine W.widen (k := 2) (n := 484) (Nat.le_of_ble_eq_true rfl) (Nat.le_of_ble_eq_true rfl) ?_
  obtain ⟨hP, hD⟩ := kx_re (w2 := [(h0, .inr (5, [.ref q_1, .int 0, .int 2, .int 0, .null, .null, .null, .null, .null, .null, .null, .int 0, .null, .null, .int 0, .null, .int 0, .null, .null, .null, .null, .null, .int 0, .null, .null, .int 0, .null, .null, .null, .int 0])), kx_a q_1 cyI 160 (fun _ => 0), kx_a q_3 cyI 324 (fun _ => 0)]) hP hD rfl
  refine va_putF (D := (dC, dI)) (ci := 5) (v := .ref q_3) (ty := .array .int) (C := RX5) (T := TX5) (N := 30) hx hb hts hi_5 tyX5 tyX5_ok nmX5 hown hK hP hD hS 0 rfl rfl 4 (by decide) hf_17 (fun _ h9 => h9) rfl hin rfl (by decide +kernel) rfl rfl (Nat.le_of_ble_eq_true rfl) dX5_init_24 (fun H locs hP hD hS => ?_)
  obtain ⟨hP, hD⟩ := kx_re (w2 := [(h0, .inr (5, [.ref q_1, .int 0, .int 2, .int 0, .ref q_3, .null, .null, .null, .null, .null, .null, .int 0, .null, .null, .int 0, .null, .int 0, .null, .null, .null, .null, .null, .int 0, .null, .null, .int 0, .null, .null, .null, .int 0])), kx_a q_1 cyI 160 (fun _ => 0), kx_a q_3 cyI 324 (fun _ => 0)]) hP hD rfl
  refine lv_aload_n hx hb dX5_init_27 rfl (lv_at hl 0 rfl) ?_
  refine lv_sipush (v := 324) hx hb dX5_init_28 (by decide) ?_
  refine va_newa (atype := .int) (a0 := (324, .inl (fun _ => 0))) hx hb ha_int rfl hK hP hD hS hA (N' := 324) (fun cA => ki_zi cA 324) (by decide) (by decide) (Nat.le_of_ble_eq_true rfl) (Nat.le_of_ble_eq_true rfl) (Nat.le_of_ble_eq_true rfl) dX5_init_31 (fun q_5 cA_6 H hK hP hD hS => ?_)
  obtain rfl : cyI = cA_6 := (ki_cA hK 0 1 rfl rfl).symm
  have hK : va_K (dC, dI) vwCl [(cyI, .int)] s := hK.sub [0] rfl
  refine W.widen (k := 3) (n := 808) (Nat.le_of_ble_eq_true rfl) (Nat.le_of_ble_eq_true rfl) ?_
  obtain ⟨hP, hD⟩ := kx_re (w2 := [(h0, .inr (5, [.ref q_1, .int 0, .int 2, .int 0, .ref q_3, .null, .null, .null, .null, .null, .null, .int 0, .null, .null, .int 0, .null, .int 0, .null, .null, .null, .null, .null, .int 0, .null, .null, .int 0, .null, .null, .null, .int 0])), kx_a q_1 cyI 160 (fun _ => 0), kx_a q_3 cyI 324 (fun _ => 0), kx_a q_5 cyI 324 (fun _ => 0)]) hP hD rfl
  refine va_putF (D := (dC, dI)) (ci := 5) (v := .ref q_5) (ty := .array .int) (C := RX5) (T := TX5) (N := 30) hx hb hts hi_5 tyX5 tyX5_ok nmX5 hown hK hP hD hS 0 rfl rfl 5 (by decide) hf_20 (fun _ h9 => h9) rfl hin rfl (by decide +kernel) rfl rfl (Nat.le_of_ble_eq_true rfl) dX5_init_33 (fun H locs hP hD hS => ?_)
  obtain ⟨hP, hD⟩ := kx_re (w2 := [(h0, .inr (5, [.ref q_1, .int 0, .int 2, .int 0, .ref q_3, .ref q_5, .null, .null, .null, .null, .null, .int 0, .null, .null, .int 0, .null, .int 0, .null, .null, .null, .null, .null, .int 0, .null, .null, .int 0, .null, .null, .null, .int 0])), kx_a q_1 cyI 160 (fun _ => 0), kx_a q_3 cyI 324 (fun _ => 0), kx_a q_5 cyI 324 (fun _ => 0)]) hP hD rfl
  refine lv_aload_n hx hb dX5_init_36 rfl (lv_at hl 0 rfl) ?_
  refine lv_sipush (v := 324) hx hb dX5_init_37 (by decide) ?_
  refine va_newa (atype := .int) (a0 := (324, .inl (fun _ => 0))) hx hb ha_int rfl hK hP hD hS hA (N' := 324) (fun cA => ki_zi cA 324) (by decide) (by decide) (Nat.le_of_ble_eq_true rfl) (Nat.le_of_ble_eq_true rfl) (Nat.le_of_ble_eq_true rfl) dX5_init_40 (fun q_7 cA_8 H hK hP hD hS => ?_)
  obtain rfl : cyI = cA_8 := (ki_cA hK 0 1 rfl rfl).symm
  have hK : va_K (dC, dI) vwCl [(cyI, .int)] s := hK.sub [0] rfl
  refine W.widen (k := 4) (n := 1132) (Nat.le_of_ble_eq_true rfl) (Nat.le_of_ble_eq_true rfl) ?_
  obtain ⟨hP, hD⟩ := kx_re (w2 := [(h0, .inr (5, [.ref q_1, .int 0, .int 2, .int 0, .ref q_3, .ref q_5, .null, .null, .null, .null, .null, .int 0, .null, .null, .int 0, .null, .int 0, .null, .null, .null, .null, .null, .int 0, .null, .null, .int 0, .null, .null, .null, .int 0])), kx_a q_1 cyI 160 (fun _ => 0), kx_a q_3 cyI 324 (fun _ => 0), kx_a q_5 cyI 324 (fun _ => 0), kx_a q_7 cyI 324 (fun _ => 0)]) hP hD rfl
  refine va_putF (D := (dC, dI)) (ci := 5) (v := .ref q_7) (ty := .array .int) (C := RX5) (T := TX5) (N := 30) hx hb hts hi_5 tyX5 tyX5_ok nmX5 hown hK hP hD hS 0 rfl rfl 6 (by decide) hf_23 (fun _ h9 => h9) rfl hin rfl (by decide +kernel) rfl rfl (Nat.le_of_ble_eq_true rfl) dX5_init_42 (fun H locs hP hD hS => ?_)
  obtain ⟨hP, hD⟩ := kx_re (w2 := [(h0, .inr (5, [.ref q_1, .int 0, .int 2, .int 0, .ref q_3, .ref q_5, .ref q_7, .null, .null, .null, .null, .int 0, .null, .null, .int 0, .null, .int 0, .null, .null, .null, .null, .null, .int 0, .null, .null, .int 0, .null, .null, .null, .int 0])), kx_a q_1 cyI 160 (fun _ => 0), kx_a q_3 cyI 324 (fun _ => 0), kx_a q_5 cyI 324 (fun _ => 0), kx_a q_7 cyI 324 (fun _ => 0)]) hP hD rfl
  refine lv_aload_n hx hb dX5_init_45 rfl (lv_at hl 0 rfl) ?_
  refine lv_sipush (v := 1944) hx hb dX5_init_46 (by decide) ?_
  refine va_newa (atype := .int) (a0 := (1944, .inl (fun _ => 0))) hx hb ha_int rfl hK hP hD hS hA (N' := 1944) (fun cA => ki_zi cA 1944) (by decide) (by decide) (Nat.le_of_ble_eq_true rfl) (Nat.le_of_ble_eq_true rfl) (Nat.le_of_ble_eq_true rfl) dX5_init_49 (fun q_9 cA_10 H hK hP hD hS => ?_)
  obtain rfl : cyI = cA_10 := (ki_cA hK 0 1 rfl rfl).symm
  have hK : va_K (dC, dI) vwCl [(cyI, .int)] s := hK.sub [0] rfl
  refine W.widen (k := 5) (n := 3076) (Nat.le_of_ble_eq_true rfl) (Nat.le_of_ble_eq_true rfl) ?_
  obtain ⟨hP, hD⟩ := kx_re (w2 := [(h0, .inr (5, [.ref q_1, .int 0, .int 2, .int 0, .ref q_3, .ref q_5, .ref q_7, .null, .null, .null, .null, .int 0, .null, .null, .int 0, .null, .int 0, .null, .null, .null, .null, .null, .int 0, .null, .null, .int 0, .null, .null, .null, .int 0])), kx_a q_1 cyI 160 (fun _ => 0), kx_a q_3 cyI 324 (fun _ => 0), kx_a q_5 cyI 324 (fun _ => 0), kx_a q_7 cyI 324 (fun _ => 0), kx_a q_9 cyI 1944 (fun _ => 0)]) hP hD rfl
  refine va_putF (D := (dC, dI)) (ci := 5) (v := .ref q_9) (ty := .array .int) (C := RX5) (T := TX5) (N := 30) hx hb hts hi_5 tyX5 tyX5_ok nmX5 hown hK hP hD hS 0 rfl rfl 7 (by decide) hf_26 (fun _ h9 => h9) rfl hin rfl (by decide +kernel) rfl rfl (Nat.le_of_ble_eq_true rfl) dX5_init_51 (fun H locs hP hD hS => ?_)
  obtain ⟨hP, hD⟩ := kx_re (w2 := [(h0, .inr (5, [.ref q_1, .int 0, .int 2, .int 0, .ref q_3, .ref q_5, .ref q_7, .ref q_9, .null, .null, .null, .int 0, .null, .null, .int 0, .null, .int 0, .null, .null, .null, .null, .null, .int 0, .null, .null, .int 0, .null, .null, .null, .int 0])), kx_a q_1 cyI 160 (fun _ => 0), kx_a q_3 cyI 324 (fun _ => 0), kx_a q_5 cyI 324 (fun _ => 0), kx_a q_7 cyI 324 (fun _ => 0), kx_a q_9 cyI 1944 (fun _ => 0)]) hP hD rfl
  refine lv_aload_n hx hb dX5_init_54 rfl (lv_at hl 0 rfl) ?_
  refine lv_sipush (v := 1944) hx hb dX5_init_55 (by decide) ?_
  refine va_newa (atype := .int) (a0 := (1944, .inl (fun _ => 0))) hx hb ha_int rfl hK hP hD hS hA (N' := 1944) (fun cA => ki_zi cA 1944) (by decide) (by decide) (Nat.le_of_ble_eq_true rfl) (Nat.le_of_ble_eq_true rfl) (Nat.le_of_ble_eq_true rfl) dX5_init_58 (fun q_11 cA_12 H hK hP hD hS => ?_)
  obtain rfl : cyI = cA_12 := (ki_cA hK 0 1 rfl rfl).symm
  have hK : va_K (dC, dI) vwCl [(cyI, .int)] s := hK.sub [0] rfl
  refine W.widen (k := 6) (n := 5020) (Nat.le_of_ble_eq_true rfl) (Nat.le_of_ble_eq_true rfl) ?_
  obtain ⟨hP, hD⟩ := kx_re (w2 := [(h0, .inr (5, [.ref q_1, .int 0, .int 2, .int 0, .ref q_3, .ref q_5, .ref q_7, .ref q_9, .null, .null, .null, .int 0, .null, .null, .int 0, .null, .int 0, .null, .null, .null, .null, .null, .int 0, .null, .null, .int 0, .null, .null, .null, .int 0])), kx_a q_1 cyI 160 (fun _ => 0), kx_a q_3 cyI 324 (fun _ => 0), kx_a q_5 cyI 324 (fun _ => 0), kx_a q_7 cyI 324 (fun _ => 0), kx_a q_9 cyI 1944 (fun _ => 0), kx_a q_11 cyI 1944 (fun _ => 0)]) hP hD rfl
  refine va_putF (D := (dC, dI)) (ci := 5) (v := .ref q_11) (ty := .array .int) (C := RX5) (T := TX5) (N := 30) hx hb hts hi_5 tyX5 tyX5_ok nmX5 hown hK hP hD hS 0 rfl rfl 8 (by decide) hf_29 (fun _ h9 => h9) rfl hin rfl (by decide +kernel) rfl rfl (Nat.le_of_ble_eq_true rfl) dX5_init_60 (fun H locs hP hD hS => ?_)
  obtain ⟨hP, hD⟩ := kx_re (w2 := [(h0, .inr (5, [.ref q_1, .int 0, .int 2, .int 0, .ref q_3, .ref q_5, .ref q_7, .ref q_9, .ref q_11, .null, .null, .int 0, .null, .null, .int 0, .null, .int 0, .null, .null, .null, .null, .null, .int 0, .null, .null, .int 0, .null, .null, .null, .int 0])), kx_a q_1 cyI 160 (fun _ => 0), kx_a q_3 cyI 324 (fun _ => 0), kx_a q_5 cyI 324 (fun _ => 0), kx_a q_7 cyI 324 (fun _ => 0), kx_a q_9 cyI 1944 (fun _ => 0), kx_a q_11 cyI 1944 (fun _ => 0)]) hP hD rfl
  refine lv_aload_n hx hb dX5_init_63 rfl (lv_at hl 0 rfl) ?_
  refine lv_bipush (v := 12) hx hb dX5_init_64 (by decide) ?_
  refine va_newa (atype := .int) (a0 := (12, .inl (fun _ => 0))) hx hb ha_int rfl hK hP hD hS hA (N' := 12) (fun cA => ki_zi cA 12) (by decide) (by decide) (Nat.le_of_ble_eq_true rfl) (Nat.le_of_ble_eq_true rfl) (Nat.le_of_ble_eq_true rfl) dX5_init_66 (fun q_13 cA_14 H hK hP hD hS => ?_)
  obtain rfl : cyI = cA_14 := (ki_cA hK 0 1 rfl rfl).symm
  have hK : va_K (dC, dI) vwCl [(cyI, .int)] s := hK.sub [0] rfl
  refine W.widen (k := 7) (n := 5032) (Nat.le_of_ble_eq_true rfl) (Nat.le_of_ble_eq_true rfl) ?_
  obtain ⟨hP, hD⟩ := kx_re (w2 := [(h0, .inr (5, [.ref q_1, .int 0, .int 2, .int 0, .ref q_3, .ref q_5, .ref q_7, .ref q_9, .ref q_11, .null, .null, .int 0, .null, .null, .int 0, .null, .int 0, .null, .null, .null, .null, .null, .int 0, .null, .null, .int 0, .null, .null, .null, .int 0])), kx_a q_1 cyI 160 (fun _ => 0), kx_a q_3 cyI 324 (fun _ => 0), kx_a q_5 cyI 324 (fun _ => 0), kx_a q_7 cyI 324 (fun _ => 0), kx_a q_9 cyI 1944 (fun _ => 0), kx_a q_11 cyI 1944 (fun _ => 0), kx_a q_13 cyI 12 (fun _ => 0)]) hP hD rfl
  refine va_putF (D := (dC, dI)) (ci := 5) (v := .ref q_13) (ty := .array .int) (C := RX5) (T := TX5) (N := 30) hx hb hts hi_5 tyX5 tyX5_ok nmX5 hown hK hP hD hS 0 rfl rfl 9 (by decide) hf_32 (fun _ h9 => h9) rfl hin rfl (by decide +kernel) rfl rfl (Nat.le_of_ble_eq_true rfl) dX5_init_68 (fun H locs hP hD hS => ?_)
  obtain ⟨hP, hD⟩ := kx_re (w2 := [(h0, .inr (5, [.ref q_1, .int 0, .int 2, .int 0, .ref q_3, .ref q_5, .ref q_7, .ref q_9, .ref q_11, .ref q_13, .null, .int 0, .null, .null, .int 0, .null, .int 0, .null, .null, .null, .null, .null, .int 0, .null, .null, .int 0, .null, .null, .null, .int 0])), kx_a q_1 cyI 160 (fun _ => 0), kx_a q_3 cyI 324 (fun _ => 0), kx_a q_5 cyI 324 (fun _ => 0), kx_a q_7 cyI 324 (fun _ => 0), kx_a q_9 cyI 1944 (fun _ => 0), kx_a q_11 cyI 1944 (fun _ => 0), kx_a q_13 cyI 12 (fun _ => 0)]) hP hD rfl
  refine lv_aload_n hx hb dX5_init_71 rfl (lv_at hl 0 rfl) ?_
  refine lv_bipush (v := 12) hx hb dX5_init_72 (by decide) ?_
  refine va_newa (atype := .int) (a0 := (12, .inl (fun _ => 0))) hx hb ha_int rfl hK hP hD hS hA (N' := 12) (fun cA => ki_zi cA 12) (by decide) (by decide) (Nat.le_of_ble_eq_true rfl) (Nat.le_of_ble_eq_true rfl) (Nat.le_of_ble_eq_true rfl) dX5_init_74 (fun q_15 cA_16 H hK hP hD hS => ?_)
  obtain rfl : cyI = cA_16 := (ki_cA hK 0 1 rfl rfl).symm
  have hK : va_K (dC, dI) vwCl [(cyI, .int)] s := hK.sub [0] rfl
  refine W.widen (k := 8) (n := 5044) (Nat.le_of_ble_eq_true rfl) (Nat.le_of_ble_eq_true rfl) ?_
  obtain ⟨hP, hD⟩ := kx_re (w2 := [(h0, .inr (5, [.ref q_1, .int 0, .int 2, .int 0, .ref q_3, .ref q_5, .ref q_7, .ref q_9, .ref q_11, .ref q_13, .null, .int 0, .null, .null, .int 0, .null, .int 0, .null, .null, .null, .null, .null, .int 0, .null, .null, .int 0, .null, .null, .null, .int 0])), kx_a q_1 cyI 160 (fun _ => 0), kx_a q_3 cyI 324 (fun _ => 0), kx_a q_5 cyI 324 (fun _ => 0), kx_a q_7 cyI 324 (fun _ => 0), kx_a q_9 cyI 1944 (fun _ => 0), kx_a q_11 cyI 1944 (fun _ => 0), kx_a q_13 cyI 12 (fun _ => 0), kx_a q_15 cyI 12 (fun _ => 0)]) hP hD rfl
  refine va_putF (D := (dC, dI)) (ci := 5) (v := .ref q_15) (ty := .array .int) (C := RX5) (T := TX5) (N := 30) hx hb hts hi_5 tyX5 tyX5_ok nmX5 hown hK hP hD hS 0 rfl rfl 10 (by decide) hf_35 (fun _ h9 => h9) rfl hin rfl (by decide +kernel) rfl rfl (Nat.le_of_ble_eq_true rfl) dX5_init_76 (fun H locs hP hD hS => ?_)
  obtain ⟨hP, hD⟩ := kx_re (w2 := [(h0, .inr (5, [.ref q_1, .int 0, .int 2, .int 0, .ref q_3, .ref q_5, .ref q_7, .ref q_9, .ref q_11, .ref q_13, .ref q_15, .int 0, .null, .null, .int 0, .null, .int 0, .null, .null, .null, .null, .null, .int 0, .null, .null, .int 0, .null, .null, .null, .int 0])), kx_a q_1 cyI 160 (fun _ => 0), kx_a q_3 cyI 324 (fun _ => 0), kx_a q_5 cyI 324 (fun _ => 0), kx_a q_7 cyI 324 (fun _ => 0), kx_a q_9 cyI 1944 (fun _ => 0), kx_a q_11 cyI 1944 (fun _ => 0), kx_a q_13 cyI 12 (fun _ => 0), kx_a q_15 cyI 12 (fun _ => 0)]) hP hD rfl
  refine lv_aload_n hx hb dX5_init_79 rfl (lv_at hl 0 rfl) ?_
  refine lv_sipush (v := 320) hx hb dX5_init_80 (by decide) ?_
  refine va_newa (atype := .int) (a0 := (320, .inl (fun _ => 0))) hx hb ha_int rfl hK hP hD hS hA (N' := 320) (fun cA => ki_zi cA 320) (by decide) (by decide) (Nat.le_of_ble_eq_true rfl) (Nat.le_of_ble_eq_true rfl) (Nat.le_of_ble_eq_true rfl) dX5_init_83 (fun q_17 cA_18 H hK hP hD hS => ?_)
  obtain rfl : cyI = cA_18 := (ki_cA hK 0 1 rfl rfl).symm
  have hK : va_K (dC, dI) vwCl [(cyI, .int)] s := hK.sub [0] rfl
  refine W.widen (k := 9) (n := 5364) (Nat.le_of_ble_eq_true rfl) (Nat.le_of_ble_eq_true rfl) ?_
  obtain ⟨hP, hD⟩ := kx_re (w2 := [(h0, .inr (5, [.ref q_1, .int 0, .int 2, .int 0, .ref q_3, .ref q_5, .ref q_7, .ref q_9, .ref q_11, .ref q_13, .ref q_15, .int 0, .null, .null, .int 0, .null, .int 0, .null, .null, .null, .null, .null, .int 0, .null, .null, .int 0, .null, .null, .null, .int 0])), kx_a q_1 cyI 160 (fun _ => 0), kx_a q_3 cyI 324 (fun _ => 0), kx_a q_5 cyI 324 (fun _ => 0), kx_a q_7 cyI 324 (fun _ => 0), kx_a q_9 cyI 1944 (fun _ => 0), kx_a q_11 cyI 1944 (fun _ => 0), kx_a q_13 cyI 12 (fun _ => 0), kx_a q_15 cyI 12 (fun _ => 0), kx_a q_17 cyI 320 (fun _ => 0)]) hP hD rfl
  refine va_putF (D := (dC, dI)) (ci := 5) (v := .ref q_17) (ty := .array .int) (C := RX5) (T := TX5) (N := 30) hx hb hts hi_5 tyX5 tyX5_ok nmX5 hown hK hP hD hS 0 rfl rfl 12 (by decide) hf_38 (fun _ h9 => h9) rfl hin rfl (by decide +kernel) rfl rfl (Nat.le_of_ble_eq_true rfl) dX5_init_85 (fun H locs hP hD hS => ?_)
  obtain ⟨hP, hD⟩ := kx_re (w2 := [(h0, .inr (5, [.ref q_1, .int 0, .int 2, .int 0, .ref q_3, .ref q_5, .ref q_7, .ref q_9, .ref q_11, .ref q_13, .ref q_15, .int 0, .ref q_17, .null, .int 0, .null, .int 0, .null, .null, .null, .null, .null, .int 0, .null, .null, .int 0, .null, .null, .null, .int 0])), kx_a q_1 cyI 160 (fun _ => 0), kx_a q_3 cyI 324 (fun _ => 0), kx_a q_5 cyI 324 (fun _ => 0), kx_a q_7 cyI 324 (fun _ => 0), kx_a q_9 cyI 1944 (fun _ => 0), kx_a q_11 cyI 1944 (fun _ => 0), kx_a q_13 cyI 12 (fun _ => 0), kx_a q_15 cyI 12 (fun _ => 0), kx_a q_17 cyI 320 (fun _ => 0)]) hP hD rfl
  refine lv_aload_n hx hb dX5_init_88 rfl (lv_at hl 0 rfl) ?_
  refine lv_sipush (v := 320) hx hb dX5_init_89 (by decide) ?_
  refine va_newa (atype := .int) (a0 := (320, .inl (fun _ => 0))) hx hb ha_int rfl hK hP hD hS hA (N' := 320) (fun cA => ki_zi cA 320) (by decide) (by decide) (Nat.le_of_ble_eq_true rfl) (Nat.le_of_ble_eq_true rfl) (Nat.le_of_ble_eq_true rfl) dX5_init_92 (fun q_19 cA_20 H hK hP hD hS => ?_)
  obtain rfl : cyI = cA_20 := (ki_cA hK 0 1 rfl rfl).symm
  have hK : va_K (dC, dI) vwCl [(cyI, .int)] s := hK.sub [0] rfl
  refine W.widen (k := 10) (n := 5684) (Nat.le_of_ble_eq_true rfl) (Nat.le_of_ble_eq_true rfl) ?_
  obtain ⟨hP, hD⟩ := kx_re (w2 := [(h0, .inr (5, [.ref q_1, .int 0, .int 2, .int 0, .ref q_3, .ref q_5, .ref q_7, .ref q_9, .ref q_11, .ref q_13, .ref q_15, .int 0, .ref q_17, .null, .int 0, .null, .int 0, .null, .null, .null, .null, .null, .int 0, .null, .null, .int 0, .null, .null, .null, .int 0])), kx_a q_1 cyI 160 (fun _ => 0), kx_a q_3 cyI 324 (fun _ => 0), kx_a q_5 cyI 324 (fun _ => 0), kx_a q_7 cyI 324 (fun _ => 0), kx_a q_9 cyI 1944 (fun _ => 0), kx_a q_11 cyI 1944 (fun _ => 0), kx_a q_13 cyI 12 (fun _ => 0), kx_a q_15 cyI 12 (fun _ => 0), kx_a q_17 cyI 320 (fun _ => 0), kx_a q_19 cyI 320 (fun _ => 0)]) hP hD rfl
  refine va_putF (D := (dC, dI)) (ci := 5) (v := .ref q_19) (ty := .array .int) (C := RX5) (T := TX5) (N := 30) hx hb hts hi_5 tyX5 tyX5_ok nmX5 hown hK hP hD hS 0 rfl rfl 13 (by decide) hf_41 (fun _ h9 => h9) rfl hin rfl (by decide +kernel) rfl rfl (Nat.le_of_ble_eq_true rfl) dX5_init_94 (fun H locs hP hD hS => ?_)
  obtain ⟨hP, hD⟩ := kx_re (w2 := [(h0, .inr (5, [.ref q_1, .int 0, .int 2, .int 0, .ref q_3, .ref q_5, .ref q_7, .ref q_9, .ref q_11, .ref q_13, .ref q_15, .int 0, .ref q_17, .ref q_19, .int 0, .null, .int 0, .null, .null, .null, .null, .null, .int 0, .null, .null, .int 0, .null, .null, .null, .int 0])), kx_a q_1 cyI 160 (fun _ => 0), kx_a q_3 cyI 324 (fun _ => 0), kx_a q_5 cyI 324 (fun _ => 0), kx_a q_7 cyI 324 (fun _ => 0), kx_a q_9 cyI 1944 (fun _ => 0), kx_a q_11 cyI 1944 (fun _ => 0), kx_a q_13 cyI 12 (fun _ => 0), kx_a q_15 cyI 12 (fun _ => 0), kx_a q_17 cyI 320 (fun _ => 0), kx_a q_19 cyI 320 (fun _ => 0)]) hP hD rfl
  refine lv_aload_n hx hb dX5_init_97 rfl (lv_at hl 0 rfl) ?_
  refine lv_sipush (v := 320) hx hb dX5_init_98 (by decide) ?_
  refine va_newa (atype := .int) (a0 := (320, .inl (fun _ => 0))) hx hb ha_int rfl hK hP hD hS hA (N' := 320) (fun cA => ki_zi cA 320) (by decide) (by decide) (Nat.le_of_ble_eq_true rfl) (Nat.le_of_ble_eq_true rfl) (Nat.le_of_ble_eq_true rfl) dX5_init_101 (fun q_21 cA_22 H hK hP hD hS => ?_)
  obtain rfl : cyI = cA_22 := (ki_cA hK 0 1 rfl rfl).symm
  have hK : va_K (dC, dI) vwCl [(cyI, .int)] s := hK.sub [0] rfl
  refine W.widen (k := 11) (n := 6004) (Nat.le_of_ble_eq_true rfl) (Nat.le_of_ble_eq_true rfl) ?_
  obtain ⟨hP, hD⟩ := kx_re (w2 := [(h0, .inr (5, [.ref q_1, .int 0, .int 2, .int 0, .ref q_3, .ref q_5, .ref q_7, .ref q_9, .ref q_11, .ref q_13, .ref q_15, .int 0, .ref q_17, .ref q_19, .int 0, .null, .int 0, .null, .null, .null, .null, .null, .int 0, .null, .null, .int 0, .null, .null, .null, .int 0])), kx_a q_1 cyI 160 (fun _ => 0), kx_a q_3 cyI 324 (fun _ => 0), kx_a q_5 cyI 324 (fun _ => 0), kx_a q_7 cyI 324 (fun _ => 0), kx_a q_9 cyI 1944 (fun _ => 0), kx_a q_11 cyI 1944 (fun _ => 0), kx_a q_13 cyI 12 (fun _ => 0), kx_a q_15 cyI 12 (fun _ => 0), kx_a q_17 cyI 320 (fun _ => 0), kx_a q_19 cyI 320 (fun _ => 0), kx_a q_21 cyI 320 (fun _ => 0)]) hP hD rfl
  refine va_putF (D := (dC, dI)) (ci := 5) (v := .ref q_21) (ty := .array .int) (C := RX5) (T := TX5) (N := 30) hx hb hts hi_5 tyX5 tyX5_ok nmX5 hown hK hP hD hS 0 rfl rfl 15 (by decide) hf_44 (fun _ h9 => h9) rfl hin rfl (by decide +kernel) rfl rfl (Nat.le_of_ble_eq_true rfl) dX5_init_103 (fun H locs hP hD hS => ?_)
  obtain ⟨hP, hD⟩ := kx_re (w2 := [(h0, .inr (5, [.ref q_1, .int 0, .int 2, .int 0, .ref q_3, .ref q_5, .ref q_7, .ref q_9, .ref q_11, .ref q_13, .ref q_15, .int 0, .ref q_17, .ref q_19, .int 0, .ref q_21, .int 0, .null, .null, .null, .null, .null, .int 0, .null, .null, .int 0, .null, .null, .null, .int 0])), kx_a q_1 cyI 160 (fun _ => 0), kx_a q_3 cyI 324 (fun _ => 0), kx_a q_5 cyI 324 (fun _ => 0), kx_a q_7 cyI 324 (fun _ => 0), kx_a q_9 cyI 1944 (fun _ => 0), kx_a q_11 cyI 1944 (fun _ => 0), kx_a q_13 cyI 12 (fun _ => 0), kx_a q_15 cyI 12 (fun _ => 0), kx_a q_17 cyI 320 (fun _ => 0), kx_a q_19 cyI 320 (fun _ => 0), kx_a q_21 cyI 320 (fun _ => 0)]) hP hD rfl
  refine lv_aload_n hx hb dX5_init_106 rfl (lv_at hl 0 rfl) ?_
  refine lv_sipush (v := 320) hx hb dX5_init_107 (by decide) ?_
  refine va_newa (atype := .int) (a0 := (320, .inl (fun _ => 0))) hx hb ha_int rfl hK hP hD hS hA (N' := 320) (fun cA => ki_zi cA 320) (by decide) (by decide) (Nat.le_of_ble_eq_true rfl) (Nat.le_of_ble_eq_true rfl) (Nat.le_of_ble_eq_true rfl) dX5_init_110 (fun q_23 cA_24 H hK hP hD hS => ?_)
  obtain rfl : cyI = cA_24 := (ki_cA hK 0 1 rfl rfl).symm
  have hK : va_K (dC, dI) vwCl [(cyI, .int)] s := hK.sub [0] rfl
  refine W.widen (k := 12) (n := 6324) (Nat.le_of_ble_eq_true rfl) (Nat.le_of_ble_eq_true rfl) ?_
  obtain ⟨hP, hD⟩ := kx_re (w2 := [(h0, .inr (5, [.ref q_1, .int 0, .int 2, .int 0, .ref q_3, .ref q_5, .ref q_7, .ref q_9, .ref q_11, .ref q_13, .ref q_15, .int 0, .ref q_17, .ref q_19, .int 0, .ref q_21, .int 0, .null, .null, .null, .null, .null, .int 0, .null, .null, .int 0, .null, .null, .null, .int 0])), kx_a q_1 cyI 160 (fun _ => 0), kx_a q_3 cyI 324 (fun _ => 0), kx_a q_5 cyI 324 (fun _ => 0), kx_a q_7 cyI 324 (fun _ => 0), kx_a q_9 cyI 1944 (fun _ => 0), kx_a q_11 cyI 1944 (fun _ => 0), kx_a q_13 cyI 12 (fun _ => 0), kx_a q_15 cyI 12 (fun _ => 0), kx_a q_17 cyI 320 (fun _ => 0), kx_a q_19 cyI 320 (fun _ => 0), kx_a q_21 cyI 320 (fun _ => 0), kx_a q_23 cyI 320 (fun _ => 0)]) hP hD rfl
  refine va_putF (D := (dC, dI)) (ci := 5) (v := .ref q_23) (ty := .array .int) (C := RX5) (T := TX5) (N := 30) hx hb hts hi_5 tyX5 tyX5_ok nmX5 hown hK hP hD hS 0 rfl rfl 17 (by decide) hf_47 (fun _ h9 => h9) rfl hin rfl (by decide +kernel) rfl rfl (Nat.le_of_ble_eq_true rfl) dX5_init_112 (fun H locs hP hD hS => ?_)
  obtain ⟨hP, hD⟩ := kx_re (w2 := [(h0, .inr (5, [.ref q_1, .int 0, .int 2, .int 0, .ref q_3, .ref q_5, .ref q_7, .ref q_9, .ref q_11, .ref q_13, .ref q_15, .int 0, .ref q_17, .ref q_19, .int 0, .ref q_21, .int 0, .ref q_23, .null, .null, .null, .null, .int 0, .null, .null, .int 0, .null, .null, .null, .int 0])), kx_a q_1 cyI 160 (fun _ => 0), kx_a q_3 cyI 324 (fun _ => 0), kx_a q_5 cyI 324 (fun _ => 0), kx_a q_7 cyI 324 (fun _ => 0), kx_a q_9 cyI 1944 (fun _ => 0), kx_a q_11 cyI 1944 (fun _ => 0), kx_a q_13 cyI 12 (fun _ => 0), kx_a q_15 cyI 12 (fun _ => 0), kx_a q_17 cyI 320 (fun _ => 0), kx_a q_19 cyI 320 (fun _ => 0), kx_a q_21 cyI 320 (fun _ => 0), kx_a q_23 cyI 320 (fun _ => 0)]) hP hD rfl
  refine lv_aload_n hx hb dX5_init_115 rfl (lv_at hl 0 rfl) ?_
  refine lv_sipush (v := 320) hx hb dX5_init_116 (by decide) ?_
  refine va_newa (atype := .int) (a0 := (320, .inl (fun _ => 0))) hx hb ha_int rfl hK hP hD hS hA (N' := 320) (fun cA => ki_zi cA 320) (by decide) (by decide) (Nat.le_of_ble_eq_true rfl) (Nat.le_of_ble_eq_true rfl) (Nat.le_of_ble_eq_true rfl) dX5_init_119 (fun q_25 cA_26 H hK hP hD hS => ?_)
  obtain rfl : cyI = cA_26 := (ki_cA hK 0 1 rfl rfl).symm
  have hK : va_K (dC, dI) vwCl [(cyI, .int)] s := hK.sub [0] rfl
  refine W.widen (k := 13) (n := 6644) (Nat.le_of_ble_eq_true rfl) (Nat.le_of_ble_eq_true rfl) ?_
  obtain ⟨hP, hD⟩ := kx_re (w2 := [(h0, .inr (5, [.ref q_1, .int 0, .int 2, .int 0, .ref q_3, .ref q_5, .ref q_7, .ref q_9, .ref q_11, .ref q_13, .ref q_15, .int 0, .ref q_17, .ref q_19, .int 0, .ref q_21, .int 0, .ref q_23, .null, .null, .null, .null, .int 0, .null, .null, .int 0, .null, .null, .null, .int 0])), kx_a q_1 cyI 160 (fun _ => 0), kx_a q_3 cyI 324 (fun _ => 0), kx_a q_5 cyI 324 (fun _ => 0), kx_a q_7 cyI 324 (fun _ => 0), kx_a q_9 cyI 1944 (fun _ => 0), kx_a q_11 cyI 1944 (fun _ => 0), kx_a q_13 cyI 12 (fun _ => 0), kx_a q_15 cyI 12 (fun _ => 0), kx_a q_17 cyI 320 (fun _ => 0), kx_a q_19 cyI 320 (fun _ => 0), kx_a q_21 cyI 320 (fun _ => 0), kx_a q_23 cyI 320 (fun _ => 0), kx_a q_25 cyI 320 (fun _ => 0)]) hP hD rfl
  refine va_putF (D := (dC, dI)) (ci := 5) (v := .ref q_25) (ty := .array .int) (C := RX5) (T := TX5) (N := 30) hx hb hts hi_5 tyX5 tyX5_ok nmX5 hown hK hP hD hS 0 rfl rfl 18 (by decide) hf_50 (fun _ h9 => h9) rfl hin rfl (by decide +kernel) rfl rfl (Nat.le_of_ble_eq_true rfl) dX5_init_121 (fun H locs hP hD hS => ?_)
  obtain ⟨hP, hD⟩ := kx_re (w2 := [(h0, .inr (5, [.ref q_1, .int 0, .int 2, .int 0, .ref q_3, .ref q_5, .ref q_7, .ref q_9, .ref q_11, .ref q_13, .ref q_15, .int 0, .ref q_17, .ref q_19, .int 0, .ref q_21, .int 0, .ref q_23, .ref q_25, .null, .null, .null, .int 0, .null, .null, .int 0, .null, .null, .null, .int 0])), kx_a q_1 cyI 160 (fun _ => 0), kx_a q_3 cyI 324 (fun _ => 0), kx_a q_5 cyI 324 (fun _ => 0), kx_a q_7 cyI 324 (fun _ => 0), kx_a q_9 cyI 1944 (fun _ => 0), kx_a q_11 cyI 1944 (fun _ => 0), kx_a q_13 cyI 12 (fun _ => 0), kx_a q_15 cyI 12 (fun _ => 0), kx_a q_17 cyI 320 (fun _ => 0), kx_a q_19 cyI 320 (fun _ => 0), kx_a q_21 cyI 320 (fun _ => 0), kx_a q_23 cyI 320 (fun _ => 0), kx_a q_25 cyI 320 (fun _ => 0)]) hP hD rfl
  refine lv_aload_n hx hb dX5_init_124 rfl (lv_at hl 0 rfl) ?_
  refine lv_sipush (v := 1920) hx hb dX5_init_125 (by decide) ?_
  refine va_newa (atype := .int) (a0 := (1920, .inl (fun _ => 0))) hx hb ha_int rfl hK hP hD hS hA (N' := 1920) (fun cA => ki_zi cA 1920) (by decide) (by decide) (Nat.le_of_ble_eq_true rfl) (Nat.le_of_ble_eq_true rfl) (Nat.le_of_ble_eq_true rfl) dX5_init_128 (fun q_27 cA_28 H hK hP hD hS => ?_)
  obtain rfl : cyI = cA_28 := (ki_cA hK 0 1 rfl rfl).symm
  have hK : va_K (dC, dI) vwCl [(cyI, .int)] s := hK.sub [0] rfl
  refine W.widen (k := 14) (n := 8564) (Nat.le_of_ble_eq_true rfl) (Nat.le_of_ble_eq_true rfl) ?_
  obtain ⟨hP, hD⟩ := kx_re (w2 := [(h0, .inr (5, [.ref q_1, .int 0, .int 2, .int 0, .ref q_3, .ref q_5, .ref q_7, .ref q_9, .ref q_11, .ref q_13, .ref q_15, .int 0, .ref q_17, .ref q_19, .int 0, .ref q_21, .int 0, .ref q_23, .ref q_25, .null, .null, .null, .int 0, .null, .null, .int 0, .null, .null, .null, .int 0])), kx_a q_1 cyI 160 (fun _ => 0), kx_a q_3 cyI 324 (fun _ => 0), kx_a q_5 cyI 324 (fun _ => 0), kx_a q_7 cyI 324 (fun _ => 0), kx_a q_9 cyI 1944 (fun _ => 0), kx_a q_11 cyI 1944 (fun _ => 0), kx_a q_13 cyI 12 (fun _ => 0), kx_a q_15 cyI 12 (fun _ => 0), kx_a q_17 cyI 320 (fun _ => 0), kx_a q_19 cyI 320 (fun _ => 0), kx_a q_21 cyI 320 (fun _ => 0), kx_a q_23 cyI 320 (fun _ => 0), kx_a q_25 cyI 320 (fun _ => 0), kx_a q_27 cyI 1920 (fun _ => 0)]) hP hD rfl
  refine va_putF (D := (dC, dI)) (ci := 5) (v := .ref q_27) (ty := .array .int) (C := RX5) (T := TX5) (N := 30) hx hb hts hi_5 tyX5 tyX5_ok nmX5 hown hK hP hD hS 0 rfl rfl 19 (by decide) hf_53 (fun _ h9 => h9) rfl hin rfl (by decide +kernel) rfl rfl (Nat.le_of_ble_eq_true rfl) dX5_init_130 (fun H locs hP hD hS => ?_)
  obtain ⟨hP, hD⟩ := kx_re (w2 := [(h0, .inr (5, [.ref q_1, .int 0, .int 2, .int 0, .ref q_3, .ref q_5, .ref q_7, .ref q_9, .ref q_11, .ref q_13, .ref q_15, .int 0, .ref q_17, .ref q_19, .int 0, .ref q_21, .int 0, .ref q_23, .ref q_25, .ref q_27, .null, .null, .int 0, .null, .null, .int 0, .null, .null, .null, .int 0])), kx_a q_1 cyI 160 (fun _ => 0), kx_a q_3 cyI 324 (fun _ => 0), kx_a q_5 cyI 324 (fun _ => 0), kx_a q_7 cyI 324 (fun _ => 0), kx_a q_9 cyI 1944 (fun _ => 0), kx_a q_11 cyI 1944 (fun _ => 0), kx_a q_13 cyI 12 (fun _ => 0), kx_a q_15 cyI 12 (fun _ => 0), kx_a q_17 cyI 320 (fun _ => 0), kx_a q_19 cyI 320 (fun _ => 0), kx_a q_21 cyI 320 (fun _ => 0), kx_a q_23 cyI 320 (fun _ => 0), kx_a q_25 cyI 320 (fun _ => 0), kx_a q_27 cyI 1920 (fun _ => 0)]) hP hD rfl
  refine lv_aload_n hx hb dX5_init_133 rfl (lv_at hl 0 rfl) ?_
  refine lv_sipush (v := 1920) hx hb dX5_init_134 (by decide) ?_
  refine va_newa (atype := .int) (a0 := (1920, .inl (fun _ => 0))) hx hb ha_int rfl hK hP hD hS hA (N' := 1920) (fun cA => ki_zi cA 1920) (by decide) (by decide) (Nat.le_of_ble_eq_true rfl) (Nat.le_of_ble_eq_true rfl) (Nat.le_of_ble_eq_true rfl) dX5_init_137 (fun q_29 cA_30 H hK hP hD hS => ?_)
  obtain rfl : cyI = cA_30 := (ki_cA hK 0 1 rfl rfl).symm
  have hK : va_K (dC, dI) vwCl [(cyI, .int)] s := hK.sub [0] rfl
  refine W.widen (k := 15) (n := 10484) (Nat.le_of_ble_eq_true rfl) (Nat.le_of_ble_eq_true rfl) ?_
  obtain ⟨hP, hD⟩ := kx_re (w2 := [(h0, .inr (5, [.ref q_1, .int 0, .int 2, .int 0, .ref q_3, .ref q_5, .ref q_7, .ref q_9, .ref q_11, .ref q_13, .ref q_15, .int 0, .ref q_17, .ref q_19, .int 0, .ref q_21, .int 0, .ref q_23, .ref q_25, .ref q_27, .null, .null, .int 0, .null, .null, .int 0, .null, .null, .null, .int 0])), kx_a q_1 cyI 160 (fun _ => 0), kx_a q_3 cyI 324 (fun _ => 0), kx_a q_5 cyI 324 (fun _ => 0), kx_a q_7 cyI 324 (fun _ => 0), kx_a q_9 cyI 1944 (fun _ => 0), kx_a q_11 cyI 1944 (fun _ => 0), kx_a q_13 cyI 12 (fun _ => 0), kx_a q_15 cyI 12 (fun _ => 0), kx_a q_17 cyI 320 (fun _ => 0), kx_a q_19 cyI 320 (fun _ => 0), kx_a q_21 cyI 320 (fun _ => 0), kx_a q_23 cyI 320 (fun _ => 0), kx_a q_25 cyI 320 (fun _ => 0), kx_a q_27 cyI 1920 (fun _ => 0), kx_a q_29 cyI 1920 (fun _ => 0)]) hP hD rfl
  refine va_putF (D := (dC, dI)) (ci := 5) (v := .ref q_29) (ty := .array .int) (C := RX5) (T := TX5) (N := 30) hx hb hts hi_5 tyX5 tyX5_ok nmX5 hown hK hP hD hS 0 rfl rfl 20 (by decide) hf_56 (fun _ h9 => h9) rfl hin rfl (by decide +kernel) rfl rfl (Nat.le_of_ble_eq_true rfl) dX5_init_139 (fun H locs hP hD hS => ?_)
  obtain ⟨hP, hD⟩ := kx_re (w2 := [(h0, .inr (5, [.ref q_1, .int 0, .int 2, .int 0, .ref q_3, .ref q_5, .ref q_7, .ref q_9, .ref q_11, .ref q_13, .ref q_15, .int 0, .ref q_17, .ref q_19, .int 0, .ref q_21, .int 0, .ref q_23, .ref q_25, .ref q_27, .ref q_29, .null, .int 0, .null, .null, .int 0, .null, .null, .null, .int 0])), kx_a q_1 cyI 160 (fun _ => 0), kx_a q_3 cyI 324 (fun _ => 0), kx_a q_5 cyI 324 (fun _ => 0), kx_a q_7 cyI 324 (fun _ => 0), kx_a q_9 cyI 1944 (fun _ => 0), kx_a q_11 cyI 1944 (fun _ => 0), kx_a q_13 cyI 12 (fun _ => 0), kx_a q_15 cyI 12 (fun _ => 0), kx_a q_17 cyI 320 (fun _ => 0), kx_a q_19 cyI 320 (fun _ => 0), kx_a q_21 cyI 320 (fun _ => 0), kx_a q_23 cyI 320 (fun _ => 0), kx_a q_25 cyI 320 (fun _ => 0), kx_a q_27 cyI 1920 (fun _ => 0), kx_a q_29 cyI 1920 (fun _ => 0)]) hP hD rfl
  refine lv_aload_n hx hb dX5_init_142 rfl (lv_at hl 0 rfl) ?_
  refine lv_bipush (v := 12) hx hb dX5_init_143 (by decide) ?_
  refine va_newa (atype := .int) (a0 := (12, .inl (fun _ => 0))) hx hb ha_int rfl hK hP hD hS hA (N' := 12) (fun cA => ki_zi cA 12) (by decide) (by decide) (Nat.le_of_ble_eq_true rfl) (Nat.le_of_ble_eq_true rfl) (Nat.le_of_ble_eq_true rfl) dX5_init_145 (fun q_31 cA_32 H hK hP hD hS => ?_)
  obtain rfl : cyI = cA_32 := (ki_cA hK 0 1 rfl rfl).symm
  have hK : va_K (dC, dI) vwCl [(cyI, .int)] s := hK.sub [0] rfl
  refine W.widen (k := 16) (n := 10496) (Nat.le_of_ble_eq_true rfl) (Nat.le_of_ble_eq_true rfl) ?_
  obtain ⟨hP, hD⟩ := kx_re (w2 := [(h0, .inr (5, [.ref q_1, .int 0, .int 2, .int 0, .ref q_3, .ref q_5, .ref q_7, .ref q_9, .ref q_11, .ref q_13, .ref q_15, .int 0, .ref q_17, .ref q_19, .int 0, .ref q_21, .int 0, .ref q_23, .ref q_25, .ref q_27, .ref q_29, .null, .int 0, .null, .null, .int 0, .null, .null, .null, .int 0])), kx_a q_1 cyI 160 (fun _ => 0), kx_a q_3 cyI 324 (fun _ => 0), kx_a q_5 cyI 324 (fun _ => 0), kx_a q_7 cyI 324 (fun _ => 0), kx_a q_9 cyI 1944 (fun _ => 0), kx_a q_11 cyI 1944 (fun _ => 0), kx_a q_13 cyI 12 (fun _ => 0), kx_a q_15 cyI 12 (fun _ => 0), kx_a q_17 cyI 320 (fun _ => 0), kx_a q_19 cyI 320 (fun _ => 0), kx_a q_21 cyI 320 (fun _ => 0), kx_a q_23 cyI 320 (fun _ => 0), kx_a q_25 cyI 320 (fun _ => 0), kx_a q_27 cyI 1920 (fun _ => 0), kx_a q_29 cyI 1920 (fun _ => 0), kx_a q_31 cyI 12 (fun _ => 0)]) hP hD rfl
  refine va_putF (D := (dC, dI)) (ci := 5) (v := .ref q_31) (ty := .array .int) (C := RX5) (T := TX5) (N := 30) hx hb hts hi_5 tyX5 tyX5_ok nmX5 hown hK hP hD hS 0 rfl rfl 21 (by decide) hf_59 (fun _ h9 => h9) rfl hin rfl (by decide +kernel) rfl rfl (Nat.le_of_ble_eq_true rfl) dX5_init_147 (fun H locs hP hD hS => ?_)
  obtain ⟨hP, hD⟩ := kx_re (w2 := [(h0, .inr (5, [.ref q_1, .int 0, .int 2, .int 0, .ref q_3, .ref q_5, .ref q_7, .ref q_9, .ref q_11, .ref q_13, .ref q_15, .int 0, .ref q_17, .ref q_19, .int 0, .ref q_21, .int 0, .ref q_23, .ref q_25, .ref q_27, .ref q_29, .ref q_31, .int 0, .null, .null, .int 0, .null, .null, .null, .int 0])), kx_a q_1 cyI 160 (fun _ => 0), kx_a q_3 cyI 324 (fun _ => 0), kx_a q_5 cyI 324 (fun _ => 0), kx_a q_7 cyI 324 (fun _ => 0), kx_a q_9 cyI 1944 (fun _ => 0), kx_a q_11 cyI 1944 (fun _ => 0), kx_a q_13 cyI 12 (fun _ => 0), kx_a q_15 cyI 12 (fun _ => 0), kx_a q_17 cyI 320 (fun _ => 0), kx_a q_19 cyI 320 (fun _ => 0), kx_a q_21 cyI 320 (fun _ => 0), kx_a q_23 cyI 320 (fun _ => 0), kx_a q_25 cyI 320 (fun _ => 0), kx_a q_27 cyI 1920 (fun _ => 0), kx_a q_29 cyI 1920 (fun _ => 0), kx_a q_31 cyI 12 (fun _ => 0)]) hP hD rfl
  refine lv_aload_n hx hb dX5_init_150 rfl (lv_at hl 0 rfl) ?_
  refine lv_sipush (v := 160) hx hb dX5_init_151 (by decide) ?_
  refine va_newa (atype := .int) (a0 := (160, .inl (fun _ => 0))) hx hb ha_int rfl hK hP hD hS hA (N' := 160) (fun cA => ki_zi cA 160) (by decide) (by decide) (Nat.le_of_ble_eq_true rfl) (Nat.le_of_ble_eq_true rfl) (Nat.le_of_ble_eq_true rfl) dX5_init_154 (fun q_33 cA_34 H hK hP hD hS => ?_)
  obtain rfl : cyI = cA_34 := (ki_cA hK 0 1 rfl rfl).symm
  have hK : va_K (dC, dI) vwCl [(cyI, .int)] s := hK.sub [0] rfl
  refine W.widen (k := 17) (n := 10656) (Nat.le_of_ble_eq_true rfl) (Nat.le_of_ble_eq_true rfl) ?_
  obtain ⟨hP, hD⟩ := kx_re (w2 := [(h0, .inr (5, [.ref q_1, .int 0, .int 2, .int 0, .ref q_3, .ref q_5, .ref q_7, .ref q_9, .ref q_11, .ref q_13, .ref q_15, .int 0, .ref q_17, .ref q_19, .int 0, .ref q_21, .int 0, .ref q_23, .ref q_25, .ref q_27, .ref q_29, .ref q_31, .int 0, .null, .null, .int 0, .null, .null, .null, .int 0])), kx_a q_1 cyI 160 (fun _ => 0), kx_a q_3 cyI 324 (fun _ => 0), kx_a q_5 cyI 324 (fun _ => 0), kx_a q_7 cyI 324 (fun _ => 0), kx_a q_9 cyI 1944 (fun _ => 0), kx_a q_11 cyI 1944 (fun _ => 0), kx_a q_13 cyI 12 (fun _ => 0), kx_a q_15 cyI 12 (fun _ => 0), kx_a q_17 cyI 320 (fun _ => 0), kx_a q_19 cyI 320 (fun _ => 0), kx_a q_21 cyI 320 (fun _ => 0), kx_a q_23 cyI 320 (fun _ => 0), kx_a q_25 cyI 320 (fun _ => 0), kx_a q_27 cyI 1920 (fun _ => 0), kx_a q_29 cyI 1920 (fun _ => 0), kx_a q_31 cyI 12 (fun _ => 0), kx_a q_33 cyI 160 (fun _ => 0)]) hP hD rfl
  refine va_putF (D := (dC, dI)) (ci := 5) (v := .ref q_33) (ty := .array .int) (C := RX5) (T := TX5) (N := 30) hx hb hts hi_5 tyX5 tyX5_ok nmX5 hown hK hP hD hS 0 rfl rfl 23 (by decide) hf_62 (fun _ h9 => h9) rfl hin rfl (by decide +kernel) rfl rfl (Nat.le_of_ble_eq_true rfl) dX5_init_156 (fun H locs hP hD hS => ?_)
  obtain ⟨hP, hD⟩ := kx_re (w2 := [(h0, .inr (5, [.ref q_1, .int 0, .int 2, .int 0, .ref q_3, .ref q_5, .ref q_7, .ref q_9, .ref q_11, .ref q_13, .ref q_15, .int 0, .ref q_17, .ref q_19, .int 0, .ref q_21, .int 0, .ref q_23, .ref q_25, .ref q_27, .ref q_29, .ref q_31, .int 0, .ref q_33, .null, .int 0, .null, .null, .null, .int 0])), kx_a q_1 cyI 160 (fun _ => 0), kx_a q_3 cyI 324 (fun _ => 0), kx_a q_5 cyI 324 (fun _ => 0), kx_a q_7 cyI 324 (fun _ => 0), kx_a q_9 cyI 1944 (fun _ => 0), kx_a q_11 cyI 1944 (fun _ => 0), kx_a q_13 cyI 12 (fun _ => 0), kx_a q_15 cyI 12 (fun _ => 0), kx_a q_17 cyI 320 (fun _ => 0), kx_a q_19 cyI 320 (fun _ => 0), kx_a q_21 cyI 320 (fun _ => 0), kx_a q_23 cyI 320 (fun _ => 0), kx_a q_25 cyI 320 (fun _ => 0), kx_a q_27 cyI 1920 (fun _ => 0), kx_a q_29 cyI 1920 (fun _ => 0), kx_a q_31 cyI 12 (fun _ => 0), kx_a q_33 cyI 160 (fun _ => 0)]) hP hD rfl
  refine lv_aload_n hx hb dX5_init_159 rfl (lv_at hl 0 rfl) ?_
  refine lv_sipush (v := 160) hx hb dX5_init_160 (by decide) ?_
  refine va_newa (atype := .int) (a0 := (160, .inl (fun _ => 0))) hx hb ha_int rfl hK hP hD hS hA (N' := 160) (fun cA => ki_zi cA 160) (by decide) (by decide) (Nat.le_of_ble_eq_true rfl) (Nat.le_of_ble_eq_true rfl) (Nat.le_of_ble_eq_true rfl) dX5_init_163 (fun q_35 cA_36 H hK hP hD hS => ?_)
  obtain rfl : cyI = cA_36 := (ki_cA hK 0 1 rfl rfl).symm
  have hK : va_K (dC, dI) vwCl [(cyI, .int)] s := hK.sub [0] rfl
  refine W.widen (k := 18) (n := 10816) (Nat.le_of_ble_eq_true rfl) (Nat.le_of_ble_eq_true rfl) ?_
  obtain ⟨hP, hD⟩ := kx_re (w2 := [(h0, .inr (5, [.ref q_1, .int 0, .int 2, .int 0, .ref q_3, .ref q_5, .ref q_7, .ref q_9, .ref q_11, .ref q_13, .ref q_15, .int 0, .ref q_17, .ref q_19, .int 0, .ref q_21, .int 0, .ref q_23, .ref q_25, .ref q_27, .ref q_29, .ref q_31, .int 0, .ref q_33, .null, .int 0, .null, .null, .null, .int 0])), kx_a q_1 cyI 160 (fun _ => 0), kx_a q_3 cyI 324 (fun _ => 0), kx_a q_5 cyI 324 (fun _ => 0), kx_a q_7 cyI 324 (fun _ => 0), kx_a q_9 cyI 1944 (fun _ => 0), kx_a q_11 cyI 1944 (fun _ => 0), kx_a q_13 cyI 12 (fun _ => 0), kx_a q_15 cyI 12 (fun _ => 0), kx_a q_17 cyI 320 (fun _ => 0), kx_a q_19 cyI 320 (fun _ => 0), kx_a q_21 cyI 320 (fun _ => 0), kx_a q_23 cyI 320 (fun _ => 0), kx_a q_25 cyI 320 (fun _ => 0), kx_a q_27 cyI 1920 (fun _ => 0), kx_a q_29 cyI 1920 (fun _ => 0), kx_a q_31 cyI 12 (fun _ => 0), kx_a q_33 cyI 160 (fun _ => 0), kx_a q_35 cyI 160 (fun _ => 0)]) hP hD rfl
  refine va_putF (D := (dC, dI)) (ci := 5) (v := .ref q_35) (ty := .array .int) (C := RX5) (T := TX5) (N := 30) hx hb hts hi_5 tyX5 tyX5_ok nmX5 hown hK hP hD hS 0 rfl rfl 24 (by decide) hf_65 (fun _ h9 => h9) rfl hin rfl (by decide +kernel) rfl rfl (Nat.le_of_ble_eq_true rfl) dX5_init_165 (fun H locs hP hD hS => ?_)
  obtain ⟨hP, hD⟩ := kx_re (w2 := [(h0, .inr (5, [.ref q_1, .int 0, .int 2, .int 0, .ref q_3, .ref q_5, .ref q_7, .ref q_9, .ref q_11, .ref q_13, .ref q_15, .int 0, .ref q_17, .ref q_19, .int 0, .ref q_21, .int 0, .ref q_23, .ref q_25, .ref q_27, .ref q_29, .ref q_31, .int 0, .ref q_33, .ref q_35, .int 0, .null, .null, .null, .int 0])), kx_a q_1 cyI 160 (fun _ => 0), kx_a q_3 cyI 324 (fun _ => 0), kx_a q_5 cyI 324 (fun _ => 0), kx_a q_7 cyI 324 (fun _ => 0), kx_a q_9 cyI 1944 (fun _ => 0), kx_a q_11 cyI 1944 (fun _ => 0), kx_a q_13 cyI 12 (fun _ => 0), kx_a q_15 cyI 12 (fun _ => 0), kx_a q_17 cyI 320 (fun _ => 0), kx_a q_19 cyI 320 (fun _ => 0), kx_a q_21 cyI 320 (fun _ => 0), kx_a q_23 cyI 320 (fun _ => 0), kx_a q_25 cyI 320 (fun _ => 0), kx_a q_27 cyI 1920 (fun _ => 0), kx_a q_29 cyI 1920 (fun _ => 0), kx_a q_31 cyI 12 (fun _ => 0), kx_a q_33 cyI 160 (fun _ => 0), kx_a q_35 cyI 160 (fun _ => 0)]) hP hD rfl
  refine lv_aload_n hx hb dX5_init_168 rfl (lv_at hl 0 rfl) ?_
  refine lv_sipush (v := 161) hx hb dX5_init_169 (by decide) ?_
  refine va_newa (atype := .int) (a0 := (161, .inl (fun _ => 0))) hx hb ha_int rfl hK hP hD hS hA (N' := 161) (fun cA => ki_zi cA 161) (by decide) (by decide) (Nat.le_of_ble_eq_true rfl) (Nat.le_of_ble_eq_true rfl) (Nat.le_of_ble_eq_true rfl) dX5_init_172 (fun q_37 cA_38 H hK hP hD hS => ?_)
  obtain rfl : cyI = cA_38 := (ki_cA hK 0 1 rfl rfl).symm
  have hK : va_K (dC, dI) vwCl [(cyI, .int)] s := hK.sub [0] rfl
  refine W.widen (k := 19) (n := 10977) (Nat.le_of_ble_eq_true rfl) (Nat.le_of_ble_eq_true rfl) ?_
  obtain ⟨hP, hD⟩ := kx_re (w2 := [(h0, .inr (5, [.ref q_1, .int 0, .int 2, .int 0, .ref q_3, .ref q_5, .ref q_7, .ref q_9, .ref q_11, .ref q_13, .ref q_15, .int 0, .ref q_17, .ref q_19, .int 0, .ref q_21, .int 0, .ref q_23, .ref q_25, .ref q_27, .ref q_29, .ref q_31, .int 0, .ref q_33, .ref q_35, .int 0, .null, .null, .null, .int 0])), kx_a q_1 cyI 160 (fun _ => 0), kx_a q_3 cyI 324 (fun _ => 0), kx_a q_5 cyI 324 (fun _ => 0), kx_a q_7 cyI 324 (fun _ => 0), kx_a q_9 cyI 1944 (fun _ => 0), kx_a q_11 cyI 1944 (fun _ => 0), kx_a q_13 cyI 12 (fun _ => 0), kx_a q_15 cyI 12 (fun _ => 0), kx_a q_17 cyI 320 (fun _ => 0), kx_a q_19 cyI 320 (fun _ => 0), kx_a q_21 cyI 320 (fun _ => 0), kx_a q_23 cyI 320 (fun _ => 0), kx_a q_25 cyI 320 (fun _ => 0), kx_a q_27 cyI 1920 (fun _ => 0), kx_a q_29 cyI 1920 (fun _ => 0), kx_a q_31 cyI 12 (fun _ => 0), kx_a q_33 cyI 160 (fun _ => 0), kx_a q_35 cyI 160 (fun _ => 0), kx_a q_37 cyI 161 (fun _ => 0)]) hP hD rfl
  refine va_putF (D := (dC, dI)) (ci := 5) (v := .ref q_37) (ty := .array .int) (C := RX5) (T := TX5) (N := 30) hx hb hts hi_5 tyX5 tyX5_ok nmX5 hown hK hP hD hS 0 rfl rfl 26 (by decide) hf_68 (fun _ h9 => h9) rfl hin rfl (by decide +kernel) rfl rfl (Nat.le_of_ble_eq_true rfl) dX5_init_174 (fun H locs hP hD hS => ?_)
  obtain ⟨hP, hD⟩ := kx_re (w2 := [(h0, .inr (5, [.ref q_1, .int 0, .int 2, .int 0, .ref q_3, .ref q_5, .ref q_7, .ref q_9, .ref q_11, .ref q_13, .ref q_15, .int 0, .ref q_17, .ref q_19, .int 0, .ref q_21, .int 0, .ref q_23, .ref q_25, .ref q_27, .ref q_29, .ref q_31, .int 0, .ref q_33, .ref q_35, .int 0, .ref q_37, .null, .null, .int 0])), kx_a q_1 cyI 160 (fun _ => 0), kx_a q_3 cyI 324 (fun _ => 0), kx_a q_5 cyI 324 (fun _ => 0), kx_a q_7 cyI 324 (fun _ => 0), kx_a q_9 cyI 1944 (fun _ => 0), kx_a q_11 cyI 1944 (fun _ => 0), kx_a q_13 cyI 12 (fun _ => 0), kx_a q_15 cyI 12 (fun _ => 0), kx_a q_17 cyI 320 (fun _ => 0), kx_a q_19 cyI 320 (fun _ => 0), kx_a q_21 cyI 320 (fun _ => 0), kx_a q_23 cyI 320 (fun _ => 0), kx_a q_25 cyI 320 (fun _ => 0), kx_a q_27 cyI 1920 (fun _ => 0), kx_a q_29 cyI 1920 (fun _ => 0), kx_a q_31 cyI 12 (fun _ => 0), kx_a q_33 cyI 160 (fun _ => 0), kx_a q_35 cyI 160 (fun _ => 0), kx_a q_37 cyI 161 (fun _ => 0)]) hP hD rfl
  refine lv_aload_n hx hb dX5_init_177 rfl (lv_at hl 0 rfl) ?_
  refine lv_sipush (v := 160) hx hb dX5_init_178 (by decide) ?_
  refine va_newa (atype := .int) (a0 := (160, .inl (fun _ => 0))) hx hb ha_int rfl hK hP hD hS hA (N' := 160) (fun cA => ki_zi cA 160) (by decide) (by decide) (Nat.le_of_ble_eq_true rfl) (Nat.le_of_ble_eq_true rfl) (Nat.le_of_ble_eq_true rfl) dX5_init_181 (fun q_39 cA_40 H hK hP hD hS => ?_)
  obtain rfl : cyI = cA_40 := (ki_cA hK 0 1 rfl rfl).symm
  have hK : va_K (dC, dI) vwCl [(cyI, .int)] s := hK.sub [0] rfl
  refine W.widen (k := 20) (n := 11137) (Nat.le_of_ble_eq_true rfl) (Nat.le_of_ble_eq_true rfl) ?_
  obtain ⟨hP, hD⟩ := kx_re (w2 := [(h0, .inr (5, [.ref q_1, .int 0, .int 2, .int 0, .ref q_3, .ref q_5, .ref q_7, .ref q_9, .ref q_11, .ref q_13, .ref q_15, .int 0, .ref q_17, .ref q_19, .int 0, .ref q_21, .int 0, .ref q_23, .ref q_25, .ref q_27, .ref q_29, .ref q_31, .int 0, .ref q_33, .ref q_35, .int 0, .ref q_37, .null, .null, .int 0])), kx_a q_1 cyI 160 (fun _ => 0), kx_a q_3 cyI 324 (fun _ => 0), kx_a q_5 cyI 324 (fun _ => 0), kx_a q_7 cyI 324 (fun _ => 0), kx_a q_9 cyI 1944 (fun _ => 0), kx_a q_11 cyI 1944 (fun _ => 0), kx_a q_13 cyI 12 (fun _ => 0), kx_a q_15 cyI 12 (fun _ => 0), kx_a q_17 cyI 320 (fun _ => 0), kx_a q_19 cyI 320 (fun _ => 0), kx_a q_21 cyI 320 (fun _ => 0), kx_a q_23 cyI 320 (fun _ => 0), kx_a q_25 cyI 320 (fun _ => 0), kx_a q_27 cyI 1920 (fun _ => 0), kx_a q_29 cyI 1920 (fun _ => 0), kx_a q_31 cyI 12 (fun _ => 0), kx_a q_33 cyI 160 (fun _ => 0), kx_a q_35 cyI 160 (fun _ => 0), kx_a q_37 cyI 161 (fun _ => 0), kx_a q_39 cyI 160 (fun _ => 0)]) hP hD rfl
  refine va_putF (D := (dC, dI)) (ci := 5) (v := .ref q_39) (ty := .array .int) (C := RX5) (T := TX5) (N := 30) hx hb hts hi_5 tyX5 tyX5_ok nmX5 hown hK hP hD hS 0 rfl rfl 27 (by decide) hf_71 (fun _ h9 => h9) rfl hin rfl (by decide +kernel) rfl rfl (Nat.le_of_ble_eq_true rfl) dX5_init_183 (fun H locs hP hD hS => ?_)
  obtain ⟨hP, hD⟩ := kx_re (w2 := [(h0, .inr (5, [.ref q_1, .int 0, .int 2, .int 0, .ref q_3, .ref q_5, .ref q_7, .ref q_9, .ref q_11, .ref q_13, .ref q_15, .int 0, .ref q_17, .ref q_19, .int 0, .ref q_21, .int 0, .ref q_23, .ref q_25, .ref q_27, .ref q_29, .ref q_31, .int 0, .ref q_33, .ref q_35, .int 0, .ref q_37, .ref q_39, .null, .int 0])), kx_a q_1 cyI 160 (fun _ => 0), kx_a q_3 cyI 324 (fun _ => 0), kx_a q_5 cyI 324 (fun _ => 0), kx_a q_7 cyI 324 (fun _ => 0), kx_a q_9 cyI 1944 (fun _ => 0), kx_a q_11 cyI 1944 (fun _ => 0), kx_a q_13 cyI 12 (fun _ => 0), kx_a q_15 cyI 12 (fun _ => 0), kx_a q_17 cyI 320 (fun _ => 0), kx_a q_19 cyI 320 (fun _ => 0), kx_a q_21 cyI 320 (fun _ => 0), kx_a q_23 cyI 320 (fun _ => 0), kx_a q_25 cyI 320 (fun _ => 0), kx_a q_27 cyI 1920 (fun _ => 0), kx_a q_29 cyI 1920 (fun _ => 0), kx_a q_31 cyI 12 (fun _ => 0), kx_a q_33 cyI 160 (fun _ => 0), kx_a q_35 cyI 160 (fun _ => 0), kx_a q_37 cyI 161 (fun _ => 0), kx_a q_39 cyI 160 (fun _ => 0)]) hP hD rfl
  refine lv_aload_n hx hb dX5_init_186 rfl (lv_at hl 0 rfl) ?_
  refine lv_sipush (v := 160) hx hb dX5_init_187 (by decide) ?_
  refine va_newa (atype := .int) (a0 := (160, .inl (fun _ => 0))) hx hb ha_int rfl hK hP hD hS hA (N' := 160) (fun cA => ki_zi cA 160) (by decide) (by decide) (Nat.le_of_ble_eq_true rfl) (Nat.le_of_ble_eq_true rfl) (Nat.le_of_ble_eq_true rfl) dX5_init_190 (fun q_41 cA_42 H hK hP hD hS => ?_)
  obtain rfl : cyI = cA_42 := (ki_cA hK 0 1 rfl rfl).symm
  have hK : va_K (dC, dI) vwCl [(cyI, .int)] s := hK.sub [0] rfl
  refine W.widen (k := 21) (n := 11297) (Nat.le_of_ble_eq_true rfl) (Nat.le_of_ble_eq_true rfl) ?_
  obtain ⟨hP, hD⟩ := kx_re (w2 := [(h0, .inr (5, [.ref q_1, .int 0, .int 2, .int 0, .ref q_3, .ref q_5, .ref q_7, .ref q_9, .ref q_11, .ref q_13, .ref q_15, .int 0, .ref q_17, .ref q_19, .int 0, .ref q_21, .int 0, .ref q_23, .ref q_25, .ref q_27, .ref q_29, .ref q_31, .int 0, .ref q_33, .ref q_35, .int 0, .ref q_37, .ref q_39, .null, .int 0])), kx_a q_1 cyI 160 (fun _ => 0), kx_a q_3 cyI 324 (fun _ => 0), kx_a q_5 cyI 324 (fun _ => 0), kx_a q_7 cyI 324 (fun _ => 0), kx_a q_9 cyI 1944 (fun _ => 0), kx_a q_11 cyI 1944 (fun _ => 0), kx_a q_13 cyI 12 (fun _ => 0), kx_a q_15 cyI 12 (fun _ => 0), kx_a q_17 cyI 320 (fun _ => 0), kx_a q_19 cyI 320 (fun _ => 0), kx_a q_21 cyI 320 (fun _ => 0), kx_a q_23 cyI 320 (fun _ => 0), kx_a q_25 cyI 320 (fun _ => 0), kx_a q_27 cyI 1920 (fun _ => 0), kx_a q_29 cyI 1920 (fun _ => 0), kx_a q_31 cyI 12 (fun _ => 0), kx_a q_33 cyI 160 (fun _ => 0), kx_a q_35 cyI 160 (fun _ => 0), kx_a q_37 cyI 161 (fun _ => 0), kx_a q_39 cyI 160 (fun _ => 0), kx_a q_41 cyI 160 (fun _ => 0)]) hP hD rfl
  refine va_putF (D := (dC, dI)) (ci := 5) (v := .ref q_41) (ty := .array .int) (C := RX5) (T := TX5) (N := 30) hx hb hts hi_5 tyX5 tyX5_ok nmX5 hown hK hP hD hS 0 rfl rfl 28 (by decide) hf_74 (fun _ h9 => h9) rfl hin rfl (by decide +kernel) rfl rfl (Nat.le_of_ble_eq_true rfl) dX5_init_192 (fun H locs hP hD hS => ?_)
  obtain ⟨hP, hD⟩ := kx_re (w2 := [kx_5 h0 q_1 0 2 0 q_3 q_5 q_7 q_9 q_11 q_13 q_15 0 q_17 q_19 0 q_21 0 q_23 q_25 q_27 q_29 q_31 0 q_33 q_35 0 q_37 q_39 q_41 0, kx_a q_1 cyI 160 (fun _ => 0), kx_a q_3 cyI 324 (fun _ => 0), kx_a q_5 cyI 324 (fun _ => 0), kx_a q_7 cyI 324 (fun _ => 0), kx_a q_9 cyI 1944 (fun _ => 0), kx_a q_11 cyI 1944 (fun _ => 0), kx_a q_13 cyI 12 (fun _ => 0), kx_a q_15 cyI 12 (fun _ => 0), kx_a q_17 cyI 320 (fun _ => 0), kx_a q_19 cyI 320 (fun _ => 0), kx_a q_21 cyI 320 (fun _ => 0), kx_a q_23 cyI 320 (fun _ => 0), kx_a q_25 cyI 320 (fun _ => 0), kx_a q_27 cyI 1920 (fun _ => 0), kx_a q_29 cyI 1920 (fun _ => 0), kx_a q_31 cyI 12 (fun _ => 0), kx_a q_33 cyI 160 (fun _ => 0), kx_a q_35 cyI 160 (fun _ => 0), kx_a q_37 cyI 161 (fun _ => 0), kx_a q_39 cyI 160 (fun _ => 0), kx_a q_41 cyI 160 (fun _ => 0)]) hP hD rfl
  have hP9 := hP
  have hD9 := hD
  have hK9 := hK
  exact W.vret hx hb hr (hlocks := hlocks) (fun t ht hW => ⟨⟨(), rfl, trivial, q_1, q_3, q_5, q_7, q_9, q_11, q_13, q_15, q_17, q_19, q_21, q_23, q_25, q_27, q_29, q_31, q_33, q_35, q_37, q_39, q_41, by rw [ht]; exact hP9, va_K.moved hW.alike hK9, hD9⟩, hS.F ht⟩) hS.2.2 dX5_init_195


