def cnt (f : Nat → Int32) (v : Int32) (l : Nat) : Nat → Nat
  | 0 => 0
  | k + 1 => cnt f v l k + (if f (l + k) = v then 1 else 0)
theorem cnt_le (f : Nat → Int32) (v : Int32) (l k : Nat) : cnt f v l k ≤ k := by
  induction k with
  | zero => exact Nat.le_refl 0
  | succ k ih => simp only [cnt]; split <;> omega
theorem cnt_hit {f : Nat → Int32} {v : Int32} {l i i' : Int32} {o : Int} (h0 : 0 ≤ l.toInt) (hi : l.toInt ≤ i.toInt) (h' : i'.toInt = i.toInt + 1) (ho : o = (cnt f v l.toNatClampNeg (i.toInt - l.toInt).toNat : Int)) (hy : f i.toNatClampNeg = v) : o + 1 = (cnt f v l.toNatClampNeg (i'.toInt - l.toInt).toNat : Int) := by
  have e1 : (i'.toInt - l.toInt).toNat = (i.toInt - l.toInt).toNat + 1 := by omega
  have n1 := ki_nat l rfl h0
  have n2 := ki_nat i rfl (by omega)
  have e2 : l.toNatClampNeg + (i.toInt - l.toInt).toNat = i.toNatClampNeg := by omega
  rw [e1, cnt, e2, if_pos hy, ho]
  omega
theorem cnt_miss {f : Nat → Int32} {v : Int32} {l i i' : Int32} {o : Int} (h0 : 0 ≤ l.toInt) (hi : l.toInt ≤ i.toInt) (h' : i'.toInt = i.toInt + 1) (ho : o = (cnt f v l.toNatClampNeg (i.toInt - l.toInt).toNat : Int)) (hy : ¬ f i.toNatClampNeg = v) : o = (cnt f v l.toNatClampNeg (i'.toInt - l.toInt).toNat : Int) := by
  have e1 : (i'.toInt - l.toInt).toNat = (i.toInt - l.toInt).toNat + 1 := by omega
  have n1 := ki_nat l rfl h0
  have n2 := ki_nat i rfl (by omega)
  have e2 : l.toNatClampNeg + (i.toInt - l.toInt).toNat = i.toNatClampNeg := by omega
  rw [e1, cnt, e2, if_neg hy, ho]
  omega

set_option maxHeartbeats 4000000 in
set_option maxRecDepth 100000 in
theorem c_X0_oftenIn (l : Launch) (dC : Nat → ClassId) (dI : Nat → Nat → Nat) (h0 : Nat) (h1 : Nat) (cyI : ClassId) (len : Int32) (f : Nat → Int32) (p0 : Int32) (p1 : Int32) (p2 : Int32) (b1 : 0 ≤ p1.toInt) (b2 : p2.toInt ≤ 160) : Met l yX0_oftenIn wsX0_oftenIn ({ frames := 0, cells := 0, slots := 0, locals := 0 }) (va_Pc [.ref h0, .int p0, .int p1, .int p2] (fun U => va_P (dC, dI) vwCl [kx_0 h0 h1 len, kx_a h1 cyI 160 f] U.heap ∧ va_K (dC, dI) vwCl [(cyI, .int)] U)) (vp_Si (fun r : Int32 => r.toInt = (cnt f p0 p1.toNatClampNeg (p2.toInt - p1.toInt).toNat : Int))) 0 0 (fun _ => False) := by
  refine kx_stS (ws := wsX0_oftenIn) (cc := cX0_oftenIn) (maxL := 6) (ret := (some .int)) (by decide) rfl (Nat.le_of_ble_eq_true rfl) ?_
  intro p e s m below meth c ls hx hb hr hlocks hts hown hml hP hK hl
  have hown : s.vm.findClass RX0 = some m.cls := hown
  have hl : lv_has ls 6 [(0, .ref h0), (1, .int p0), (2, .int p1), (3, .int p2)] := hl
  have hf_9 := hts (.fieldLink RX0 9 "MajorityIndex$Row" "cell" "[I") (List.mem_of_getElem? (i := 1) rfl)
  have hi_0 : ∀ w ∈ u_ws RX0 TX0 2, w ∈ wsX0_oftenIn := fun w h => List.mem_cons_of_mem _ (List.mem_append_right _ h)
  refine lv_iconst (v := 0) hx hb dX0_oftenIn_0 (by decide) ?_
  refine lv_istore (lv' := [(4, .int 0), (0, .ref h0), (1, .int p0), (2, .int p1), (3, .int p2)]) hx hb dX0_oftenIn_1 hl (by decide) rfl (fun ls hl => ?_)
  refine lv_iload_n hx hb dX0_oftenIn_3 rfl (lv_at hl 3 rfl) ?_
  refine lv_istore (lv' := [(5, .int p1), (4, .int 0), (0, .ref h0), (1, .int p0), (2, .int p1), (3, .int p2)]) hx hb dX0_oftenIn_4 hl (by decide) rfl (fun ls hl => ?_)
  have LP1 : ∀ (n : Nat) (oft : Int32) (i : Int32), (p1.toInt ≤ i.toInt) → (i.toInt ≤ p2.toInt ∨ i.toInt = p1.toInt) → (oft.toInt = (cnt f p0 p1.toNatClampNeg (i.toInt - p1.toInt).toNat : Int)) → (p2.toInt - i.toInt).toNat < n → ∀ (ls : Array Slot), lv_has ls 6 [(5, .int i), (4, .int oft), (0, .ref h0), (1, .int p0), (2, .int p1), (3, .int p2)] → W p l e (headSpec wsX0_oftenIn ({ frames := 0, cells := 0, slots := 0, locals := 0 })).room s m ([.ref h0, .int p0, .int p1, .int p2] : List Value).toArray below meth c s.heap [] 0 0 (MQ below (vp_Si (fun r : Int32 => r.toInt = (cnt f p0 p1.toNatClampNeg (p2.toInt - p1.toInt).toNat : Int))) ([.ref h0, .int p0, .int p1, .int p2] : List Value).toArray s 0 0 (fun _ => False)) (F0 m 6 ls []) := by
    intro n
    induction n with
    | zero => intro oft i LP1_h0 LP1_h1 LP1_h2 hn; exact absurd hn (Nat.not_lt_zero _)
    | succ n ih1 =>
      intro oft i LP1_h0 LP1_h1 LP1_h2 hn1 ls hl
      have hle := cnt_le f p0 p1.toNatClampNeg (i.toInt - p1.toInt).toNat
      refine lv_iload hx hb dX0_oftenIn_6 (lv_at hl 0 rfl) ?_
      refine lv_iload_n hx hb dX0_oftenIn_8 rfl (lv_at hl 5 rfl) ?_
      refine lv_icmp_ge (tgt := 32) hx hb dX0_oftenIn_9 (by decide) (fun c_1 => ?_) (fun c_1 => ?_)
      · have i_1 : p2.toInt ≤ i.toInt := kc_le c_1
        refine lv_iload hx hb dX0_oftenIn_32 (lv_at hl 1 rfl) ?_
        exact W.iret (v := oft) hx hb hr (hlocks := hlocks) (fun t ht hW => ⟨oft, rfl, (by (try dsimp only); rw [LP1_h2, show (i.toInt - p1.toInt).toNat = (p2.toInt - p1.toInt).toNat by omega]), ht⟩) (fun q hq => by cases hq) dX0_oftenIn_34
      · have i_1 : i.toInt < p2.toInt := kc_nle c_1
        refine lv_aload_n hx hb dX0_oftenIn_12 rfl (lv_at hl 2 rfl) ?_
        refine va_get (D := (dC, dI)) (ci := 0) (v := .ref h1) (C := RX0) (T := TX0) (N := 2) hx hb hts hi_0 hown hK hP 0 rfl rfl 0 (by decide) hf_9 (fun _ h9 => h9) rfl dX0_oftenIn_13 ?_
        refine lv_iload hx hb dX0_oftenIn_16 (lv_at hl 0 rfl) ?_
        refine va_iald hx hb hK hP 1 0 rfl rfl (ki_in (om_0 b1 LP1_h0) (om_1 b2 i_1)) dX0_oftenIn_18 ?_
        refine lv_topi (fun y_2 ey_2 => ?_)
        have j_2 : y_2.toInt = (f i.toNatClampNeg).toInt := congrArg Int32.toInt ey_2
        refine lv_iload_n hx hb dX0_oftenIn_19 rfl (lv_at hl 3 rfl) ?_
        refine lv_icmp_ne (tgt := 26) hx hb dX0_oftenIn_20 (by decide) (fun c_3 => ?_) (fun c_3 => ?_)
        · have i_3 : ¬ y_2.toInt = p0.toInt := kc_ne c_3
          obtain ⟨x_4, ex_4⟩ : ∃ y : Int32, y = i + 1 := ⟨_, rfl⟩
          have i_4 : x_4.toInt = i.toInt + 1 := ki_add ex_4 rfl rfl (om_2 b1 LP1_h0) (om_3 b2 i_1)
          refine lv_iinc (v := x_4) (lv' := [(5, .int x_4), (4, .int oft), (0, .ref h0), (1, .int p0), (2, .int p1), (3, .int p2)]) hx hb dX0_oftenIn_26 hl (k := 0) rfl (by rw [ex_4]; rfl) (by decide) rfl (fun ls hl => ?_)
          refine lv_goto (tgt := 6) hx hb dX0_oftenIn_29 (by decide) ?_
          exact ih1 oft x_4 (om_4 LP1_h0 i_4) (by omega) (cnt_miss (by omega) LP1_h0 (by omega) LP1_h2 (fun h => c_3 (ey_2.trans h))) (om_mu hn1 (om_5 i_4) (om_6 i_1)) ls (lv_sub hl [0, 1, 2, 3, 4, 5] rfl)
        · have i_3 : y_2.toInt = p0.toInt := kc_eq c_3
          obtain ⟨x_5, ex_5⟩ : ∃ y : Int32, y = oft + 1 := ⟨_, rfl⟩
          have i_5 : x_5.toInt = oft.toInt + 1 := ki_add ex_5 rfl rfl (by omega) (by omega)
          refine lv_iinc (v := x_5) (lv' := [(4, .int x_5), (5, .int i), (0, .ref h0), (1, .int p0), (2, .int p1), (3, .int p2)]) hx hb dX0_oftenIn_23 hl (k := 1) rfl (by rw [ex_5]; rfl) (by decide) rfl (fun ls hl => ?_)
          obtain ⟨x_6, ex_6⟩ : ∃ y : Int32, y = i + 1 := ⟨_, rfl⟩
          have i_6 : x_6.toInt = i.toInt + 1 := ki_add ex_6 rfl rfl (om_2 b1 LP1_h0) (om_3 b2 i_1)
          refine lv_iinc (v := x_6) (lv' := [(5, .int x_6), (4, .int x_5), (0, .ref h0), (1, .int p0), (2, .int p1), (3, .int p2)]) hx hb dX0_oftenIn_26 hl (k := 1) rfl (by rw [ex_6]; rfl) (by decide) rfl (fun ls hl => ?_)
          refine lv_goto (tgt := 6) hx hb dX0_oftenIn_29 (by decide) ?_
          exact ih1 x_5 x_6 (om_4 LP1_h0 i_6) (by omega) (i_5.trans (cnt_hit (by omega) LP1_h0 (by omega) LP1_h2 (ey_2.symm.trans c_3))) (om_mu hn1 (om_5 i_6) (om_6 i_1)) ls (lv_sub hl [0, 1, 2, 3, 4, 5] rfl)
  have k_7 : (0 : Int32).toInt = 0 := rfl
  exact LP1 ((p2.toInt - p1.toInt : Int).toNat + 1) 0 p1 om_7 (by omega) (by rw [show (p1.toInt - p1.toInt).toNat = 0 by omega]; rfl) (Nat.lt_succ_self _) ls (lv_sub hl [0, 1, 2, 3, 4, 5] rfl)

set_option maxHeartbeats 4000000 in
set_option maxRecDepth 100000 in
theorem c_X5_times (l : Launch) (dC : Nat → ClassId) (dI : Nat → Nat → Nat) (h0 : Nat) (g_row : Nat) (g_many : Nat) (g_loss : Nat) (g_less : Nat) (g_voteValue : Nat) (g_voteNumber : Nat) (g_allValue : Nat) (g_allNumber : Nat) (g_nodeL : Nat) (g_nodeR : Nat) (g_part : Nat) (g_wasMany : Nat) (g_wasLoss : Nat) (g_wasValue : Nat) (g_wasNumber : Nat) (g_path : Nat) (g_heavyValue : Nat) (g_heavyTimes : Nat) (g_fewest : Nat) (g_which : Nat) (g_met : Nat) (m_n : Int32) (m_slots : Int32) (m_thrown : Int32) (m_allMany : Int32) (m_nodes : Int32) (m_partMany : Int32) (m_pathMany : Int32) (m_heavyMany : Int32) (m_mostMet : Int32) (cyI : ClassId) (f : Nat → Int32) (p0 : Int32) (p1 : Int32) (p2 : Int32) (b1 : 0 ≤ p1.toInt) (b2 : p2.toInt ≤ 160) : Met l yX5_times wsX5_times ({ frames := 0, cells := 0, slots := 0, locals := 0 }) (va_Pc [.ref h0, .int p0, .int p1, .int p2] (fun U => va_P (dC, dI) vwCl [kx_5 h0 g_row m_n m_slots m_thrown g_many g_loss g_less g_voteValue g_voteNumber g_allValue g_allNumber m_allMany g_nodeL g_nodeR m_nodes g_part m_partMany g_wasMany g_wasLoss g_wasValue g_wasNumber g_path m_pathMany g_heavyValue g_heavyTimes m_heavyMany g_fewest g_which g_met m_mostMet, kx_a g_row cyI 160 f] U.heap ∧ va_K (dC, dI) vwCl [(cyI, .int)] U)) (vp_Si (fun r : Int32 => r.toInt = (cnt f p0 p1.toNatClampNeg (p2.toInt - p1.toInt).toNat : Int))) 0 0 (fun _ => False) := by
  refine kx_stS (ws := wsX5_times) (cc := cX5_times) (maxL := 6) (ret := (some .int)) (by decide) rfl (Nat.le_of_ble_eq_true rfl) ?_
  intro p e s m below meth c ls hx hb hr hlocks hts hown hml hP hK hl
  have hown : s.vm.findClass RX5 = some m.cls := hown
  have hl : lv_has ls 6 [(0, .ref h0), (1, .int p0), (2, .int p1), (3, .int p2)] := hl
  have hf_7 := hts (.fieldLink RX5 7 "MajorityIndexModel" "row" "[I") (List.mem_of_getElem? (i := 1) rfl)
  have hi_5 : ∀ w ∈ u_ws RX5 TX5 30, w ∈ wsX5_times := fun w h => List.mem_cons_of_mem _ (List.mem_append_right _ h)
  refine lv_iconst (v := 0) hx hb dX5_times_0 (by decide) ?_
  refine lv_istore (lv' := [(4, .int 0), (0, .ref h0), (1, .int p0), (2, .int p1), (3, .int p2)]) hx hb dX5_times_1 hl (by decide) rfl (fun ls hl => ?_)
  refine lv_iload_n hx hb dX5_times_3 rfl (lv_at hl 3 rfl) ?_
  refine lv_istore (lv' := [(5, .int p1), (4, .int 0), (0, .ref h0), (1, .int p0), (2, .int p1), (3, .int p2)]) hx hb dX5_times_4 hl (by decide) rfl (fun ls hl => ?_)
  have LP1 : ∀ (n : Nat) (oft : Int32) (i : Int32), (p1.toInt ≤ i.toInt) → (i.toInt ≤ p2.toInt ∨ i.toInt = p1.toInt) → (oft.toInt = (cnt f p0 p1.toNatClampNeg (i.toInt - p1.toInt).toNat : Int)) → (p2.toInt - i.toInt).toNat < n → ∀ (ls : Array Slot), lv_has ls 6 [(5, .int i), (4, .int oft), (0, .ref h0), (1, .int p0), (2, .int p1), (3, .int p2)] → W p l e (headSpec wsX5_times ({ frames := 0, cells := 0, slots := 0, locals := 0 })).room s m ([.ref h0, .int p0, .int p1, .int p2] : List Value).toArray below meth c s.heap [] 0 0 (MQ below (vp_Si (fun r : Int32 => r.toInt = (cnt f p0 p1.toNatClampNeg (p2.toInt - p1.toInt).toNat : Int))) ([.ref h0, .int p0, .int p1, .int p2] : List Value).toArray s 0 0 (fun _ => False)) (F0 m 6 ls []) := by
    intro n
    induction n with
    | zero => intro oft i LP1_h0 LP1_h1 LP1_h2 hn; exact absurd hn (Nat.not_lt_zero _)
    | succ n ih1 =>
      intro oft i LP1_h0 LP1_h1 LP1_h2 hn1 ls hl
      have hle := cnt_le f p0 p1.toNatClampNeg (i.toInt - p1.toInt).toNat
      refine lv_iload hx hb dX5_times_6 (lv_at hl 0 rfl) ?_
      refine lv_iload_n hx hb dX5_times_8 rfl (lv_at hl 5 rfl) ?_
      refine lv_icmp_ge (tgt := 32) hx hb dX5_times_9 (by decide) (fun c_1 => ?_) (fun c_1 => ?_)
      · have i_1 : p2.toInt ≤ i.toInt := kc_le c_1
        refine lv_iload hx hb dX5_times_32 (lv_at hl 1 rfl) ?_
        exact W.iret (v := oft) hx hb hr (hlocks := hlocks) (fun t ht hW => ⟨oft, rfl, (by (try dsimp only); rw [LP1_h2, show (i.toInt - p1.toInt).toNat = (p2.toInt - p1.toInt).toNat by omega]), ht⟩) (fun q hq => by cases hq) dX5_times_34
      · have i_1 : i.toInt < p2.toInt := kc_nle c_1
        refine lv_aload_n hx hb dX5_times_12 rfl (lv_at hl 2 rfl) ?_
        refine va_get (D := (dC, dI)) (ci := 5) (v := .ref g_row) (C := RX5) (T := TX5) (N := 30) hx hb hts hi_5 hown hK hP 0 rfl rfl 0 (by decide) hf_7 (fun _ h9 => h9) rfl dX5_times_13 ?_
        refine lv_iload hx hb dX5_times_16 (lv_at hl 0 rfl) ?_
        refine va_iald hx hb hK hP 1 0 rfl rfl (ki_in (om_0 b1 LP1_h0) (om_1 b2 i_1)) dX5_times_18 ?_
        refine lv_topi (fun y_2 ey_2 => ?_)
        have j_2 : y_2.toInt = (f i.toNatClampNeg).toInt := congrArg Int32.toInt ey_2
        refine lv_iload_n hx hb dX5_times_19 rfl (lv_at hl 3 rfl) ?_
        refine lv_icmp_ne (tgt := 26) hx hb dX5_times_20 (by decide) (fun c_3 => ?_) (fun c_3 => ?_)
        · have i_3 : ¬ y_2.toInt = p0.toInt := kc_ne c_3
          obtain ⟨x_4, ex_4⟩ : ∃ y : Int32, y = i + 1 := ⟨_, rfl⟩
          have i_4 : x_4.toInt = i.toInt + 1 := ki_add ex_4 rfl rfl (om_2 b1 LP1_h0) (om_3 b2 i_1)
          refine lv_iinc (v := x_4) (lv' := [(5, .int x_4), (4, .int oft), (0, .ref h0), (1, .int p0), (2, .int p1), (3, .int p2)]) hx hb dX5_times_26 hl (k := 0) rfl (by rw [ex_4]; rfl) (by decide) rfl (fun ls hl => ?_)
          refine lv_goto (tgt := 6) hx hb dX5_times_29 (by decide) ?_
          exact ih1 oft x_4 (om_4 LP1_h0 i_4) (by omega) (cnt_miss (by omega) LP1_h0 (by omega) LP1_h2 (fun h => c_3 (ey_2.trans h))) (om_mu hn1 (om_5 i_4) (om_6 i_1)) ls (lv_sub hl [0, 1, 2, 3, 4, 5] rfl)
        · have i_3 : y_2.toInt = p0.toInt := kc_eq c_3
          obtain ⟨x_5, ex_5⟩ : ∃ y : Int32, y = oft + 1 := ⟨_, rfl⟩
          have i_5 : x_5.toInt = oft.toInt + 1 := ki_add ex_5 rfl rfl (by omega) (by omega)
          refine lv_iinc (v := x_5) (lv' := [(4, .int x_5), (5, .int i), (0, .ref h0), (1, .int p0), (2, .int p1), (3, .int p2)]) hx hb dX5_times_23 hl (k := 1) rfl (by rw [ex_5]; rfl) (by decide) rfl (fun ls hl => ?_)
          obtain ⟨x_6, ex_6⟩ : ∃ y : Int32, y = i + 1 := ⟨_, rfl⟩
          have i_6 : x_6.toInt = i.toInt + 1 := ki_add ex_6 rfl rfl (om_2 b1 LP1_h0) (om_3 b2 i_1)
          refine lv_iinc (v := x_6) (lv' := [(5, .int x_6), (4, .int x_5), (0, .ref h0), (1, .int p0), (2, .int p1), (3, .int p2)]) hx hb dX5_times_26 hl (k := 1) rfl (by rw [ex_6]; rfl) (by decide) rfl (fun ls hl => ?_)
          refine lv_goto (tgt := 6) hx hb dX5_times_29 (by decide) ?_
          exact ih1 x_5 x_6 (om_4 LP1_h0 i_6) (by omega) (i_5.trans (cnt_hit (by omega) LP1_h0 (by omega) LP1_h2 (ey_2.symm.trans c_3))) (om_mu hn1 (om_5 i_6) (om_6 i_1)) ls (lv_sub hl [0, 1, 2, 3, 4, 5] rfl)
  have k_7 : (0 : Int32).toInt = 0 := rfl
  exact LP1 ((p2.toInt - p1.toInt : Int).toNat + 1) 0 p1 om_7 (by omega) (by rw [show (p1.toInt - p1.toInt).toNat = 0 by omega]; rfl) (Nat.lt_succ_self _) ls (lv_sub hl [0, 1, 2, 3, 4, 5] rfl)


