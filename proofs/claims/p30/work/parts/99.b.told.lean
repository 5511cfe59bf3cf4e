set_option maxHeartbeats 4000000 in
set_option maxRecDepth 100000 in
theorem c_X5_majorityOf_x (l : Launch) (dC : Nat → ClassId) (dI : Nat → Nat → Nat) (h0 : Nat) (g_row : Nat) (g_many : Nat) (g_loss : Nat) (g_less : Nat) (g_voteValue : Nat) (g_voteNumber : Nat) (g_allValue : Nat) (g_allNumber : Nat) (g_nodeL : Nat) (g_nodeR : Nat) (g_part : Nat) (g_wasMany : Nat) (g_wasLoss : Nat) (g_wasValue : Nat) (g_wasNumber : Nat) (g_path : Nat) (g_heavyValue : Nat) (g_heavyTimes : Nat) (g_fewest : Nat) (g_which : Nat) (g_met : Nat) (m_n : Int32) (m_slots : Int32) (m_thrown : Int32) (m_allMany : Int32) (m_nodes : Int32) (m_partMany : Int32) (m_pathMany : Int32) (m_heavyMany : Int32) (m_mostMet : Int32) (cyI : ClassId) (f : Nat → Int32) (p0 : Int32) (p1 : Int32) (d0 : 0 ≤ p0.toInt) (d1 : p1.toInt ≤ 160) (d2 : p0.toInt < p1.toInt) : Met l yX5_majorityOf wsX5_majorityOf ({ frames := 1, cells := 0, slots := 0, locals := 45 }) (va_Pc [.ref h0, .int p0, .int p1] (fun U => va_P (dC, dI) vwCl [kx_5 h0 g_row m_n m_slots m_thrown g_many g_loss g_less g_voteValue g_voteNumber g_allValue g_allNumber m_allMany g_nodeL g_nodeR m_nodes g_part m_partMany g_wasMany g_wasLoss g_wasValue g_wasNumber g_path m_pathMany g_heavyValue g_heavyTimes m_heavyMany g_fewest g_which g_met m_mostMet, kx_a g_row cyI 160 f] U.heap ∧ va_K (dC, dI) vwCl [(cyI, .int)] U)) (vp_Si (fun r : Int32 => mj_maj f p0.toNatClampNeg p1.toNatClampNeg r)) 0 0 (fun _ => False) := by
  refine Met.ofW (cc := cX5_majorityOf) (maxL := 4) (ret := (some .int)) (by decide) rfl ?_
  intro p e s m args below meth c s₁ B hml hv
  obtain ⟨rfl, hP, hK⟩ := hv
  have hx := B.exec
  have hb := B.bytes
  have hr := B.returns
  have hts := atoms_spec (ws := wsX5_majorityOf) B.pre
  have hown : s.vm.findClass RX5 = some m.cls := findClass_of_methodNamed B.named
  have hlocks := B.notSynchronized
  have hP : va_P (dC, dI) vwCl [kx_5 h0 g_row m_n m_slots m_thrown g_many g_loss g_less g_voteValue g_voteNumber g_allValue g_allNumber m_allMany g_nodeL g_nodeR m_nodes g_part m_partMany g_wasMany g_wasLoss g_wasValue g_wasNumber g_path m_pathMany g_heavyValue g_heavyTimes m_heavyMany g_fewest g_which g_met m_mostMet, kx_a g_row cyI 160 f] s.heap := hP
  have hl := lv_entry ([.ref h0, .int p0, .int p1]) (n := 4) (Nat.le_of_ble_eq_true rfl)
  rw [lg_entry_eq]
  generalize (lg_sl ([.ref h0, .int p0, .int p1]) ++ List.replicate (4 - (lg_sl ([.ref h0, .int p0, .int p1])).length) Slot.unset).toArray = ls at hl ⊢
  have hl : lv_has ls 4 [(0, .ref h0), (1, .int p0), (2, .int p1)] := hl
  have hk_148 := hts (.constant RX5 148 (-40000)) (List.mem_of_getElem? (i := 2) rfl)
  have hf_7 := hts (.fieldLink RX5 7 "MajorityIndexModel" "row" "[I") (List.mem_of_getElem? (i := 1) rfl)
  have hi_5 : ∀ w ∈ u_ws RX5 TX5 30, w ∈ wsX5_majorityOf := fun w h => List.mem_cons_of_mem _ (List.mem_append_right _ h)
  have n_p0 := ki_nat p0 rfl (by omega)
  have n_p1 := ki_nat p1 rfl (by omega)
  refine lv_iload_n hx hb dX5_majorityOf_0 rfl (lv_at hl 1 rfl) ?_
  refine lv_istore_n (lv' := [(3, .int p0), (0, .ref h0), (1, .int p0), (2, .int p1)]) hx hb dX5_majorityOf_1 rfl hl (by decide) rfl (fun ls hl => ?_)
  have LP1 : ∀ (n : Nat) (i : Int32), (p0.toInt ≤ i.toInt) → (∀ k : Nat, p0.toNatClampNeg ≤ k → k < i.toNatClampNeg → 2 * (cnt f (f k) p0.toNatClampNeg (p1.toNatClampNeg - p0.toNatClampNeg) : Int) ≤ ((p1.toNatClampNeg - p0.toNatClampNeg : Nat) : Int)) → (p1.toInt - i.toInt).toNat < n → ∀ (ls : Array Slot), lv_has ls 4 [(3, .int i), (0, .ref h0), (1, .int p0), (2, .int p1)] → W p l e (headSpec wsX5_majorityOf ({ frames := 1, cells := 0, slots := 0, locals := 45 })).room s m ([.ref h0, .int p0, .int p1] : List Value).toArray below meth c s.heap [] 0 0 (MQ below (vp_Si (fun r : Int32 => mj_maj f p0.toNatClampNeg p1.toNatClampNeg r)) ([.ref h0, .int p0, .int p1] : List Value).toArray s 0 0 (fun _ => False)) (F0 m 2 ls []) := by
    intro n
    induction n with
    | zero => intro i LP1_h0 LP1_h1 hn; exact absurd hn (Nat.not_lt_zero _)
    | succ n ih1 =>
      intro i LP1_h0 LP1_h1 hn1 ls hl
      have n_i := ki_nat i rfl (by omega)
      refine lv_iload_n hx hb dX5_majorityOf_2 rfl (lv_at hl 0 rfl) ?_
      refine lv_iload_n hx hb dX5_majorityOf_3 rfl (lv_at hl 3 rfl) ?_
      refine lv_icmp_ge (tgt := 40) hx hb dX5_majorityOf_4 (by decide) (fun c_1 => ?_) (fun c_1 => ?_)
      · have i_1 : p1.toInt ≤ i.toInt := kc_le c_1
        refine lv_ldc (v := (-40000)) hx hb hown hk_148 dX5_majorityOf_40 ?_
        exact W.iret (v := (-40000)) hx hb hr (fun t ht hW => ⟨(-40000), rfl, (Or.inr ⟨rfl, fun k h1 h2 => LP1_h1 k h1 (by (try dsimp only); omega)⟩), ht⟩) (fun q hq => by cases hq) dX5_majorityOf_42
      · have i_1 : i.toInt < p1.toInt := kc_nle c_1
        refine lv_iconst (v := 2) hx hb dX5_majorityOf_7 (by decide) ?_
        refine lv_aload_n hx hb dX5_majorityOf_8 rfl (lv_at hl 1 rfl) ?_
        refine lv_aload_n hx hb dX5_majorityOf_9 rfl (lv_at hl 1 rfl) ?_
        refine va_get (D := (dC, dI)) (ci := 5) (v := .ref g_row) (C := RX5) (T := TX5) (N := 30) hx hb hts hi_5 hown hK hP 0 rfl rfl 0 (by decide) hf_7 (fun _ h9 => h9) rfl dX5_majorityOf_10 ?_
        refine lv_iload_n hx hb dX5_majorityOf_13 rfl (lv_at hl 0 rfl) ?_
        refine va_iald hx hb hK hP 1 0 rfl rfl (ki_in (by omega) (by omega)) dX5_majorityOf_14 ?_
        refine lv_topi (fun y_2 ey_2 => ?_)
        have j_2 : y_2.toInt = (f i.toNatClampNeg).toInt := congrArg Int32.toInt ey_2
        refine lv_iload_n hx hb dX5_majorityOf_15 rfl (lv_at hl 2 rfl) ?_
        refine lv_iload_n hx hb dX5_majorityOf_16 rfl (lv_at hl 3 rfl) ?_
        have hPc := hP
        have hKc := hK
        refine vp_callSi (W.runV (As := [.int y_2, .int p0, .int p1]) (rest := [.int 2]) ⟨hx, hb, hml, hown, hts⟩ (c_X5_times l dC dI h0 g_row g_many g_loss g_less g_voteValue g_voteNumber g_allValue g_allNumber g_nodeL g_nodeR g_part g_wasMany g_wasLoss g_wasValue g_wasNumber g_path g_heavyValue g_heavyTimes g_fewest g_which g_met m_n m_slots m_thrown m_allMany m_nodes m_partMany m_pathMany m_heavyMany m_mostMet cyI f y_2 p0 p1 d0 d1) (cwV 3 hts gX5_majorityOf_X5_times rfl rfl rfl (by decide +kernel) ⟨Nat.le_of_ble_eq_true rfl, Nat.le_of_ble_eq_true rfl⟩) ⟨fun a U g mk q => by obtain ⟨q0, qP, qK⟩ := q; exact ⟨q0, qP, va_K.moved (u := U) (U := U.calling g mk a) (Vm.Alike.refl U.vm) qK⟩, va_recv hKc hPc (ci := 5) (q0 := 0) rfl rfl, fun U hU hW => ⟨rfl, by rw [hU]; exact hPc, va_K.moved hW.alike hKc⟩⟩ rfl rfl hl.1 rfl (lv_room (Nat.le_of_ble_eq_true rfl)) dX5_majorityOf_17 ⟨Nat.le_of_ble_eq_true rfl, Nat.le_of_ble_eq_true rfl⟩) (fun r_3 w_3 => ?_)
        have w_3 : r_3.toInt = (cnt f y_2 p0.toNatClampNeg (p1.toInt - p0.toInt).toNat : Int) := w_3
        have hle := cnt_le f y_2 p0.toNatClampNeg (p1.toInt - p0.toInt).toNat
        refine lv_imul hx hb dX5_majorityOf_20 ?_
        refine lv_topi (fun y_4 ey_4 => ?_)
        have i_4 : y_4.toInt = 2 * r_3.toInt := ki_mul ey_4 rfl rfl (by omega) (by omega)
        refine lv_iload_n hx hb dX5_majorityOf_21 rfl (lv_at hl 3 rfl) ?_
        refine lv_iload_n hx hb dX5_majorityOf_22 rfl (lv_at hl 2 rfl) ?_
        refine lv_isub hx hb dX5_majorityOf_23 ?_
        refine lv_topi (fun y_5 ey_5 => ?_)
        have i_5 : y_5.toInt = p1.toInt - p0.toInt := ki_sub ey_5 rfl rfl (by omega) (by omega)
        refine lv_icmp_le (tgt := 34) hx hb dX5_majorityOf_24 (by decide) (fun c_6 => ?_) (fun c_6 => ?_)
        · have i_6 : y_4.toInt ≤ y_5.toInt := kc_le c_6
          obtain ⟨x_7, ex_7⟩ : ∃ y : Int32, y = i + 1 := ⟨_, rfl⟩
          have i_7 : x_7.toInt = i.toInt + 1 := ki_add ex_7 rfl rfl (by omega) (by omega)
          refine lv_iinc (v := x_7) (lv' := [(3, .int x_7), (0, .ref h0), (1, .int p0), (2, .int p1)]) hx hb dX5_majorityOf_34 hl (k := 0) rfl (by rw [ex_7]; rfl) (by decide) rfl (fun ls hl => ?_)
          refine lv_goto (tgt := 2) hx hb dX5_majorityOf_37 (by decide) ?_
          have n_8 := ki_nat x_7 rfl (by omega)
          exact ih1 x_7 (by omega) (fun k h1 h2 => if h9 : k < i.toNatClampNeg then LP1_h1 k h1 h9 else (by rw [show k = i.toNatClampNeg by omega, ← ey_2, show p1.toNatClampNeg - p0.toNatClampNeg = (p1.toInt - p0.toInt).toNat by omega]; omega)) (by omega) ls (lv_sub hl [0, 1, 2, 3] rfl)
        · have i_6 : y_5.toInt < y_4.toInt := kc_nle c_6
          refine lv_aload_n hx hb dX5_majorityOf_27 rfl (lv_at hl 1 rfl) ?_
          refine va_get (D := (dC, dI)) (ci := 5) (v := .ref g_row) (C := RX5) (T := TX5) (N := 30) hx hb hts hi_5 hown hK hP 0 rfl rfl 0 (by decide) hf_7 (fun _ h9 => h9) rfl dX5_majorityOf_28 ?_
          refine lv_iload_n hx hb dX5_majorityOf_31 rfl (lv_at hl 0 rfl) ?_
          refine va_iald hx hb hK hP 1 0 rfl rfl (ki_in (by omega) (by omega)) dX5_majorityOf_32 ?_
          refine lv_topi (fun y_9 ey_9 => ?_)
          have j_9 : y_9.toInt = (f i.toNatClampNeg).toInt := congrArg Int32.toInt ey_9
          exact W.iret (v := y_9) hx hb hr (fun t ht hW => ⟨y_9, rfl, (Or.inl ⟨i.toNatClampNeg, (by (try dsimp only); omega), (by (try dsimp only); omega), ey_9.symm, (by (try dsimp only); rw [show p1.toNatClampNeg - p0.toNatClampNeg = (p1.toInt - p0.toInt).toNat by omega, ey_9, ← ey_2]; omega)⟩), ht⟩) (fun q hq => by cases hq) dX5_majorityOf_33
  exact LP1 ((p1.toInt - p0.toInt : Int).toNat + 1) p0 (by omega) (fun k h1 h2 => absurd h2 (by omega)) (Nat.lt_succ_self _) ls (lv_sub hl [0, 1, 2, 3] rfl)


