set_option maxHeartbeats 4000000 in
set_option maxRecDepth 100000 in
theorem c_X4_isHeavy_x (l : Launch) (dC : Nat → ClassId) (dI : Nat → Nat → Nat) (p0 : Int32) (p1 : Int32) (p2 : Int32) (p3 : Int32) (b0 : 0 ≤ p0.toInt) (b1 : p0.toInt ≤ 320) (b2 : 0 ≤ p1.toInt) (b3 : p1.toInt ≤ 320) (b4 : 0 ≤ p2.toInt) (b5 : p2.toInt ≤ 999) (b6 : 0 ≤ p3.toInt) (b7 : p3.toInt ≤ 999) : Met l yX4_isHeavy wsX4_isHeavy ({ frames := 0, cells := 0, slots := 0, locals := 0 }) (va_Pc [.int p0, .int p1, .int p2, .int p3] (fun U => va_P (dC, dI) vwCl [] U.heap ∧ va_K (dC, dI) vwCl [] U)) (vp_Si (fun r : Int32 => (r = 1 ∧ p2.toInt * p1.toInt < p0.toInt * p3.toInt) ∨ (r = 0 ∧ p0.toInt * p3.toInt ≤ p2.toInt * p1.toInt))) 0 0 (fun _ => False) := by
  refine kx_stS (ws := wsX4_isHeavy) (cc := cX4_isHeavy) (maxL := 4) (ret := (some .boolean)) (by decide) rfl (Nat.le_of_ble_eq_true rfl) ?_
  intro p e s m below meth c ls hx hb hr hlocks hts hown hml hP hK hl
  have hown : s.vm.findClass RX4 = some m.cls := hown
  have hl : lv_has ls 4 [(0, .int p0), (1, .int p1), (2, .int p2), (3, .int p3)] := hl
  refine lv_iload_n hx hb dX4_isHeavy_0 rfl (lv_at hl 0 rfl) ?_
  refine lv_iload_n hx hb dX4_isHeavy_1 rfl (lv_at hl 3 rfl) ?_
  refine lv_imul hx hb dX4_isHeavy_2 ?_
  refine lv_topi (fun y_1 ey_1 => ?_)
  refine lv_iload_n hx hb dX4_isHeavy_3 rfl (lv_at hl 2 rfl) ?_
  refine lv_iload_n hx hb dX4_isHeavy_4 rfl (lv_at hl 1 rfl) ?_
  refine lv_imul hx hb dX4_isHeavy_5 ?_
  refine lv_topi (fun y_2 ey_2 => ?_)
  have h1 := ki_mulb (a := p0.toInt) (b := p3.toInt) (A := 320) (B := 999) (by omega) (by omega) (by omega) (by omega)
  have h2 := ki_mulb (a := p2.toInt) (b := p1.toInt) (A := 999) (B := 320) (by omega) (by omega) (by omega) (by omega)
  have m1 : y_1.toInt = p0.toInt * p3.toInt := ki_mul ey_1 rfl rfl (by omega) (by omega)
  have m2 : y_2.toInt = p2.toInt * p1.toInt := ki_mul ey_2 rfl rfl (by omega) (by omega)
  refine lv_icmp_le (tgt := 13) hx hb dX4_isHeavy_6 (by decide) (fun c_3 => ?_) (fun c_3 => ?_)
  · have i_3 : y_1.toInt ≤ y_2.toInt := kc_le c_3
    refine lv_iconst (v := 0) hx hb dX4_isHeavy_13 (by decide) ?_
    exact W.zret (v := 0) hx hb hr (by decide) (hlocks := hlocks) (fun t ht hW => ⟨0, rfl, Or.inr (⟨rfl, by omega⟩), ht⟩) (fun q hq => by cases hq) dX4_isHeavy_14
  · have i_3 : y_2.toInt < y_1.toInt := kc_nle c_3
    refine lv_iconst (v := 1) hx hb dX4_isHeavy_9 (by decide) ?_
    refine lv_goto (tgt := 14) hx hb dX4_isHeavy_10 (by decide) ?_
    exact W.zret (v := 1) hx hb hr (by decide) (hlocks := hlocks) (fun t ht hW => ⟨1, rfl, Or.inl ⟨rfl, by omega⟩, ht⟩) (fun q hq => by cases hq) dX4_isHeavy_14

set_option maxHeartbeats 4000000 in
set_option maxRecDepth 100000 in
theorem c_X0_leader_x (l : Launch) (dC : Nat → ClassId) (dI : Nat → Nat → Nat) (h0 : Nat) (h1 : Nat) (cyI : ClassId) (len : Int32) (f : Nat → Int32) (p0 : Int32) (p1 : Int32) (b0 : 0 ≤ p0.toInt) (b1 : p1.toInt ≤ 160) (b2 : p0.toInt < p1.toInt) : Met l yX0_leader wsX0_leader ({ frames := 1, cells := 0, slots := 0, locals := 45 }) (va_Pc [.ref h0, .int p0, .int p1] (fun U => va_P (dC, dI) vwCl [kx_0 h0 h1 len, kx_a h1 cyI 160 f] U.heap ∧ va_K (dC, dI) vwCl [(cyI, .int)] U ∧ va_Nw (.methodLinkNest RX0 28 yX4_isHeavy RX4) U)) (vp_Si (fun r : Int32 => mj_maj f p0.toNatClampNeg p1.toNatClampNeg r)) 0 0 (fun _ => False) := by
  refine Met.ofW (cc := cX0_leader) (maxL := 6) (ret := (some .int)) (by decide) rfl ?_
  intro p e s m args below meth c s₁ B hml hv
  obtain ⟨rfl, hP, hK, hN0⟩ := hv
  have hx := B.exec
  have hb := B.bytes
  have hr := B.returns
  have hts := atoms_spec (ws := wsX0_leader) B.pre
  have hown : s.vm.findClass RX0 = some m.cls := findClass_of_methodNamed B.named
  have hlocks := B.notSynchronized
  have hP : va_P (dC, dI) vwCl [kx_0 h0 h1 len, kx_a h1 cyI 160 f] s.heap := hP
  have hl := lv_entry ([.ref h0, .int p0, .int p1]) (n := 6) (Nat.le_of_ble_eq_true rfl)
  rw [lg_entry_eq]
  generalize (lg_sl ([.ref h0, .int p0, .int p1]) ++ List.replicate (6 - (lg_sl ([.ref h0, .int p0, .int p1])).length) Slot.unset).toArray = ls at hl ⊢
  have hl : lv_has ls 6 [(0, .ref h0), (1, .int p0), (2, .int p1)] := hl
  have hk_23 := hts (.constant RX0 23 (-40000)) (List.mem_of_getElem? (i := 1) rfl)
  have hz_RX4 := hts (.initialized RX4) (List.mem_of_getElem? (i := 9) rfl)
  have ht_X4_isHeavy := hts (.static yX4_isHeavy) (List.mem_of_getElem? (i := 8) rfl)
  have hf_9 := hts (.fieldLink RX0 9 "MajorityIndex$Row" "cell" "[I") (List.mem_of_getElem? (i := 2) rfl)
  have hi_0 : ∀ w ∈ u_ws RX0 TX0 2, w ∈ wsX0_leader := fun w h => List.mem_cons_of_mem _ (List.mem_append_right _ h)
  have n_p0 := ki_nat p0 rfl (om_10 b0)
  have n_p1 := ki_nat p1 rfl (om_21 b0 b2)
  refine lv_ldc (v := (-40000)) hx hb hown hk_23 dX0_leader_0 ?_
  refine lv_istore_n (lv' := [(3, .int (-40000)), (0, .ref h0), (1, .int p0), (2, .int p1)]) hx hb dX0_leader_2 rfl hl (by decide) rfl (fun ls hl => ?_)
  refine lv_iconst (v := 0) hx hb dX0_leader_3 (by decide) ?_
  refine lv_istore (lv' := [(4, .int 0), (3, .int (-40000)), (0, .ref h0), (1, .int p0), (2, .int p1)]) hx hb dX0_leader_4 hl (by decide) rfl (fun ls hl => ?_)
  refine lv_iload_n hx hb dX0_leader_6 rfl (lv_at hl 3 rfl) ?_
  refine lv_istore (lv' := [(5, .int p0), (4, .int 0), (3, .int (-40000)), (0, .ref h0), (1, .int p0), (2, .int p1)]) hx hb dX0_leader_7 hl (by decide) rfl (fun ls hl => ?_)
  have LP1 : ∀ (n : Nat) (i : Int32) (left : Int32) (lead : Int32), (p0.toInt ≤ i.toInt) → (mj_bm f p0.toNatClampNeg left (i.toNatClampNeg - p0.toNatClampNeg) lead.toInt) → (i.toInt ≤ p1.toInt) → (0 ≤ lead.toInt) → (lead.toInt ≤ i.toInt - p0.toInt) → (p1.toInt - i.toInt).toNat < n → ∀ (ls : Array Slot), lv_has ls 6 [(5, .int i), (4, .int lead), (3, .int left), (0, .ref h0), (1, .int p0), (2, .int p1)] → W p l e (headSpec wsX0_leader ({ frames := 1, cells := 0, slots := 0, locals := 45 })).room s m ([.ref h0, .int p0, .int p1] : List Value).toArray below meth c s.heap [] 0 0 (MQ below (vp_Si (fun r : Int32 => mj_maj f p0.toNatClampNeg p1.toNatClampNeg r)) ([.ref h0, .int p0, .int p1] : List Value).toArray s 0 0 (fun _ => False)) (F0 m 9 ls []) := by
    intro n
    induction n with
    | zero => intro i left lead LP1_h0 LP1_h1 LP1_h2 LP1_h3 LP1_h4 hn; exact absurd hn (Nat.not_lt_zero _)
    | succ n ih1 =>
      intro i left lead LP1_h0 LP1_h1 LP1_h2 LP1_h3 LP1_h4 hn1 ls hl
      have n_i := ki_nat i rfl (om_0 b0 LP1_h0)
      refine lv_iload hx hb dX0_leader_9 (lv_at hl 0 rfl) ?_
      refine lv_iload_n hx hb dX0_leader_11 rfl (lv_at hl 5 rfl) ?_
      refine lv_icmp_ge (tgt := 61) hx hb dX0_leader_12 (by decide) (fun c_1 => ?_) (fun c_1 => ?_)
      · have i_1 : p1.toInt ≤ i.toInt := kc_le c_1
        refine lv_aload_n hx hb dX0_leader_61 rfl (lv_at hl 3 rfl) ?_
        refine lv_iload_n hx hb dX0_leader_62 rfl (lv_at hl 2 rfl) ?_
        refine lv_iload_n hx hb dX0_leader_63 rfl (lv_at hl 4 rfl) ?_
        refine lv_iload_n hx hb dX0_leader_64 rfl (lv_at hl 5 rfl) ?_
        have hPc := hP
        have hKc := hK
        refine vp_callSi (W.runV (As := [.int left, .int p0, .int p1]) (rest := []) ⟨hx, hb, hml, hown, hts⟩ (c_X0_oftenIn l dC dI h0 h1 cyI len f left p0 p1 b0 b1) (cwV 3 hts gX0_leader_X0_oftenIn rfl rfl rfl (by decide +kernel) ⟨Nat.le_of_ble_eq_true rfl, Nat.le_of_ble_eq_true rfl⟩) ⟨fun a U g mk q => by obtain ⟨q0, qP, qK⟩ := q; exact ⟨q0, qP, va_K.moved (u := U) (U := U.calling g mk a) (Vm.Alike.refl U.vm) qK⟩, kx_rc0 hKc hPc (q0 := 0) rfl, fun U hU hW => ⟨rfl, by rw [hU]; exact hPc, va_K.moved hW.alike hKc⟩⟩ rfl rfl hl.1 rfl (lv_room (Nat.le_of_ble_eq_true rfl)) dX0_leader_65 ⟨Nat.le_of_ble_eq_true rfl, Nat.le_of_ble_eq_true rfl⟩) (fun r_2 w_2 => ?_)
        have w_2 : r_2.toInt = (cnt f left p0.toNatClampNeg (p1.toInt - p0.toInt).toNat : Int) := w_2
        have hle := cnt_le f left p0.toNatClampNeg (p1.toInt - p0.toInt).toNat
        refine lv_iload_n hx hb dX0_leader_68 rfl (lv_at hl 5 rfl) ?_
        refine lv_iload_n hx hb dX0_leader_69 rfl (lv_at hl 4 rfl) ?_
        refine lv_isub hx hb dX0_leader_70 ?_
        refine lv_topi (fun y_3 ey_3 => ?_)
        have i_3 : y_3.toInt = p1.toInt - p0.toInt := ki_sub ey_3 rfl rfl (om_168 b2) (om_445 b0 b1)
        refine lv_iconst (v := 1) hx hb dX0_leader_71 (by decide) ?_
        refine lv_iconst (v := 2) hx hb dX0_leader_72 (by decide) ?_
        have hPc := hP.sub (ws' := []) [] rfl
        have hKc := hK.sub (tys' := []) [] rfl
        have k_4 : (1 : Int32).toInt = 1 := rfl
        have k_5 : (2 : Int32).toInt = 2 := rfl
        refine vp_callSi (ki_ofRun (va_runSN (As := [.int r_2, .int y_3, .int 1, .int 2]) (rest := []) ⟨hx, hb, hml, hown, hts⟩ (c_X4_isHeavy_x l dC dI r_2 y_3 1 2 (by omega) (by omega) (om_431 b2 i_3) (om_477 b0 b1 i_3) om_478 om_479 om_480 om_481) ⟨(va_cnB 4 hts ggX0_leader_X4_isHeavy rfl rfl rfl hN0 hz_RX4 (by decide +kernel) ⟨Nat.le_of_ble_eq_true rfl, Nat.le_of_ble_eq_true rfl⟩), ht_X4_isHeavy, trivial⟩ ⟨fun a U g mk q => by obtain ⟨q0, qP, qK⟩ := q; exact ⟨q0, qP, va_K.moved (u := U) (U := U.calling g mk a) (Vm.Alike.refl U.vm) qK⟩, fun U hU hW => ⟨rfl, by rw [hU]; exact hPc, va_K.moved hW.alike hKc⟩⟩ rfl rfl hl.1 rfl (lv_room (Nat.le_of_ble_eq_true rfl)) dX0_leader_73 ⟨Nat.le_of_ble_eq_true rfl, Nat.le_of_ble_eq_true rfl⟩)) (fun r_6 w_6 => ?_)
        rcases w_6 with ⟨rfl, w_6⟩ | ⟨rfl, w_6⟩
        · have w_6 : 1 * y_3.toInt < r_2.toInt * 2 := w_6
          refine lv_if_eq (tgt := 83) hx hb dX0_leader_76 (by decide) (fun c_7 => ?_) (fun c_7 => ?_)
          · exact absurd c_7 (by decide)
          · refine lv_iload_n hx hb dX0_leader_79 rfl (lv_at hl 2 rfl) ?_
            refine lv_goto (tgt := 85) hx hb dX0_leader_80 (by decide) ?_
            have q_n : (p1.toInt - p0.toInt).toNat = p1.toNatClampNeg - p0.toNatClampNeg := by omega
            have q_i : (i.toNatClampNeg - p0.toNatClampNeg) = p1.toNatClampNeg - p0.toNatClampNeg := by omega
            rw [q_n] at w_2
            have h_b := LP1_h1
            rw [q_i] at h_b
            exact W.iret (v := left) hx hb hr (hlocks := hlocks) (fun t ht hW => ⟨left, rfl, (mj_bm_yes rfl (by (try dsimp only); omega)), ht⟩) (fun q hq => by cases hq) dX0_leader_85
        · have w_6 : r_2.toInt * 2 ≤ 1 * y_3.toInt := w_6
          refine lv_if_eq (tgt := 83) hx hb dX0_leader_76 (by decide) (fun c_8 => ?_) (fun c_8 => ?_)
          · refine lv_ldc (v := (-40000)) hx hb hown hk_23 dX0_leader_83 ?_
            have q_n : (p1.toInt - p0.toInt).toNat = p1.toNatClampNeg - p0.toNatClampNeg := by omega
            have q_i : (i.toNatClampNeg - p0.toNatClampNeg) = p1.toNatClampNeg - p0.toNatClampNeg := by omega
            rw [q_n] at w_2
            have h_b := LP1_h1
            rw [q_i] at h_b
            exact W.iret (v := (-40000)) hx hb hr (hlocks := hlocks) (fun t ht hW => ⟨(-40000), rfl, (mj_bm_no rfl h_b (by (try dsimp only); omega)), ht⟩) (fun q hq => by cases hq) dX0_leader_85
          · exact absurd c_8 (by decide)
      · have i_1 : i.toInt < p1.toInt := kc_nle c_1
        refine lv_iload hx hb dX0_leader_15 (lv_at hl 1 rfl) ?_
        refine lv_if_ne (tgt := 34) hx hb dX0_leader_17 (by decide) (fun c_9 => ?_) (fun c_9 => ?_)
        · have i_9 : ¬ lead.toInt = 0 := kc_ne c_9
          refine lv_iload hx hb dX0_leader_34 (lv_at hl 1 rfl) ?_
          refine lv_aload_n hx hb dX0_leader_36 rfl (lv_at hl 3 rfl) ?_
          refine va_get (D := (dC, dI)) (ci := 0) (v := .ref h1) (C := RX0) (T := TX0) (N := 2) hx hb hts hi_0 hown hK hP 0 rfl rfl 0 (by decide) hf_9 (fun _ h9 => h9) rfl dX0_leader_37 ?_
          refine lv_iload hx hb dX0_leader_40 (lv_at hl 0 rfl) ?_
          refine va_iald hx hb hK hP 1 0 rfl rfl (ki_in (om_0 b0 LP1_h0) (om_1 b1 i_1)) dX0_leader_42 ?_
          refine lv_topi (fun y_10 ey_10 => ?_)
          have j_10 : y_10.toInt = (f i.toNatClampNeg).toInt := congrArg Int32.toInt ey_10
          refine lv_iload_n hx hb dX0_leader_43 rfl (lv_at hl 2 rfl) ?_
          refine lv_icmp_ne (tgt := 51) hx hb dX0_leader_44 (by decide) (fun c_11 => ?_) (fun c_11 => ?_)
          · have i_11 : ¬ y_10.toInt = left.toInt := kc_ne c_11
            refine lv_iconst (v := (-1)) hx hb dX0_leader_51 (by decide) ?_
            refine lv_iadd hx hb dX0_leader_52 ?_
            refine lv_topi (fun y_12 ey_12 => ?_)
            have i_12 : y_12.toInt = lead.toInt + (-1) := ki_add ey_12 rfl rfl (om_116 LP1_h3) (om_482 b0 b1 LP1_h4 i_1)
            refine lv_istore (lv' := [(4, .int y_12), (5, .int i), (3, .int left), (0, .ref h0), (1, .int p0), (2, .int p1)]) hx hb dX0_leader_53 hl (by decide) rfl (fun ls hl => ?_)
            obtain ⟨x_13, ex_13⟩ : ∃ y : Int32, y = i + 1 := ⟨_, rfl⟩
            have i_13 : x_13.toInt = i.toInt + 1 := ki_add ex_13 rfl rfl (om_2 b0 LP1_h0) (om_238 b1 LP1_h2)
            refine lv_iinc (v := x_13) (lv' := [(5, .int x_13), (4, .int y_12), (3, .int left), (0, .ref h0), (1, .int p0), (2, .int p1)]) hx hb dX0_leader_55 hl (k := 1) rfl (by rw [ex_13]; rfl) (by decide) rfl (fun ls hl => ?_)
            refine lv_goto (tgt := 9) hx hb dX0_leader_58 (by decide) ?_
            have n_14 := ki_nat x_13 rfl (om_89 b0 LP1_h0 i_13)
            exact ih1 x_13 left y_12 (om_4 LP1_h0 i_13) (mj_bm_down LP1_h1 (by omega) (by rw [show p0.toNatClampNeg + (i.toNatClampNeg - p0.toNatClampNeg) = i.toNatClampNeg by omega]; exact fun h => c_11 (ey_10.trans h)) (by omega) (by omega)) (om_54 i_1 i_13) (by omega) (om_483 LP1_h4 i_12 i_13) (om_mu hn1 (om_5 i_13) (om_6 i_1)) ls (lv_sub hl [0, 1, 2, 3, 4, 5] rfl)
          · have i_11 : y_10.toInt = left.toInt := kc_eq c_11
            refine lv_iconst (v := 1) hx hb dX0_leader_47 (by decide) ?_
            refine lv_goto (tgt := 52) hx hb dX0_leader_48 (by decide) ?_
            refine lv_iadd hx hb dX0_leader_52 ?_
            refine lv_topi (fun y_15 ey_15 => ?_)
            have i_15 : y_15.toInt = lead.toInt + 1 := ki_add ey_15 rfl rfl (om_13 LP1_h3) (om_484 b0 b1 LP1_h4 i_1)
            refine lv_istore (lv' := [(4, .int y_15), (5, .int i), (3, .int left), (0, .ref h0), (1, .int p0), (2, .int p1)]) hx hb dX0_leader_53 hl (by decide) rfl (fun ls hl => ?_)
            obtain ⟨x_16, ex_16⟩ : ∃ y : Int32, y = i + 1 := ⟨_, rfl⟩
            have i_16 : x_16.toInt = i.toInt + 1 := ki_add ex_16 rfl rfl (om_2 b0 LP1_h0) (om_238 b1 LP1_h2)
            refine lv_iinc (v := x_16) (lv' := [(5, .int x_16), (4, .int y_15), (3, .int left), (0, .ref h0), (1, .int p0), (2, .int p1)]) hx hb dX0_leader_55 hl (k := 1) rfl (by rw [ex_16]; rfl) (by decide) rfl (fun ls hl => ?_)
            refine lv_goto (tgt := 9) hx hb dX0_leader_58 (by decide) ?_
            have n_17 := ki_nat x_16 rfl (om_89 b0 LP1_h0 i_16)
            exact ih1 x_16 left y_15 (om_4 LP1_h0 i_16) (mj_bm_up LP1_h1 (by rw [show p0.toNatClampNeg + (i.toNatClampNeg - p0.toNatClampNeg) = i.toNatClampNeg by omega]; exact ey_10.symm.trans c_11) (by omega) (by omega)) (om_54 i_1 i_16) (om_34 LP1_h3 i_15) (om_412 LP1_h4 i_15 i_16) (om_mu hn1 (om_5 i_16) (om_6 i_1)) ls (lv_sub hl [0, 1, 2, 3, 4, 5] rfl)
        · have i_9 : lead.toInt = 0 := kc_eq c_9
          refine lv_aload_n hx hb dX0_leader_20 rfl (lv_at hl 3 rfl) ?_
          refine va_get (D := (dC, dI)) (ci := 0) (v := .ref h1) (C := RX0) (T := TX0) (N := 2) hx hb hts hi_0 hown hK hP 0 rfl rfl 0 (by decide) hf_9 (fun _ h9 => h9) rfl dX0_leader_21 ?_
          refine lv_iload hx hb dX0_leader_24 (lv_at hl 0 rfl) ?_
          refine va_iald hx hb hK hP 1 0 rfl rfl (ki_in (om_0 b0 LP1_h0) (om_1 b1 i_1)) dX0_leader_26 ?_
          refine lv_topi (fun y_18 ey_18 => ?_)
          have j_18 : y_18.toInt = (f i.toNatClampNeg).toInt := congrArg Int32.toInt ey_18
          refine lv_istore_n (lv' := [(3, .int y_18), (5, .int i), (4, .int lead), (0, .ref h0), (1, .int p0), (2, .int p1)]) hx hb dX0_leader_27 rfl hl (by decide) rfl (fun ls hl => ?_)
          refine lv_iconst (v := 1) hx hb dX0_leader_28 (by decide) ?_
          refine lv_istore (lv' := [(4, .int 1), (3, .int y_18), (5, .int i), (0, .ref h0), (1, .int p0), (2, .int p1)]) hx hb dX0_leader_29 hl (by decide) rfl (fun ls hl => ?_)
          refine lv_goto (tgt := 55) hx hb dX0_leader_31 (by decide) ?_
          obtain ⟨x_19, ex_19⟩ : ∃ y : Int32, y = i + 1 := ⟨_, rfl⟩
          have i_19 : x_19.toInt = i.toInt + 1 := ki_add ex_19 rfl rfl (om_2 b0 LP1_h0) (om_238 b1 LP1_h2)
          refine lv_iinc (v := x_19) (lv' := [(5, .int x_19), (4, .int 1), (3, .int y_18), (0, .ref h0), (1, .int p0), (2, .int p1)]) hx hb dX0_leader_55 hl (k := 2) rfl (by rw [ex_19]; rfl) (by decide) rfl (fun ls hl => ?_)
          refine lv_goto (tgt := 9) hx hb dX0_leader_58 (by decide) ?_
          have k_20 : (1 : Int32).toInt = 1 := rfl
          have n_21 := ki_nat x_19 rfl (om_89 b0 LP1_h0 i_19)
          exact ih1 x_19 y_18 1 (om_4 LP1_h0 i_19) (mj_bm_new LP1_h1 (by omega) (by rw [show p0.toNatClampNeg + (i.toNatClampNeg - p0.toNatClampNeg) = i.toNatClampNeg by omega]; exact ey_18) (by omega)) (om_54 i_1 i_19) om_478 (om_485 LP1_h0 i_19) (om_mu hn1 (om_5 i_19) (om_6 i_1)) ls (lv_sub hl [0, 1, 2, 3, 4, 5] rfl)
  have k_22 : ((-40000) : Int32).toInt = -40000 := rfl
  have k_23 : (0 : Int32).toInt = 0 := rfl
  exact LP1 ((p1.toInt - p0.toInt : Int).toNat + 1) p0 (-40000) 0 om_7 (mj_bm_0 _ _ _ (by omega) rfl) (om_414 b2) om_35 om_413 (Nat.lt_succ_self _) ls (lv_sub hl [0, 1, 2, 3, 4, 5] rfl)

set_option maxHeartbeats 4000000 in
set_option maxRecDepth 100000 in
theorem c_X5_majority_x (l : Launch) (dC : Nat → ClassId) (dI : Nat → Nat → Nat) (h0 : Nat) (g_row : Nat) (g_many : Nat) (g_loss : Nat) (g_less : Nat) (g_voteValue : Nat) (g_voteNumber : Nat) (g_allValue : Nat) (g_allNumber : Nat) (g_nodeL : Nat) (g_nodeR : Nat) (g_part : Nat) (g_wasMany : Nat) (g_wasLoss : Nat) (g_wasValue : Nat) (g_wasNumber : Nat) (g_path : Nat) (g_heavyValue : Nat) (g_heavyTimes : Nat) (g_fewest : Nat) (g_which : Nat) (g_met : Nat) (m_n : Int32) (m_slots : Int32) (m_thrown : Int32) (m_allMany : Int32) (m_nodes : Int32) (m_partMany : Int32) (m_pathMany : Int32) (m_heavyMany : Int32) (m_mostMet : Int32) (cyI : ClassId) (f : Nat → Int32) (p0 : Int32) (p1 : Int32) (sz : Nat) (a0 : 0 ≤ m_n.toInt) (a1 : m_n.toInt ≤ 160) : kx_MQ l (dC, dI) yX5_majority wsX5_majority ({ frames := 2, cells := 0, slots := 0, locals := 90 }) [.ref h0, .int p0, .int p1] [kx_5 h0 g_row m_n m_slots m_thrown g_many g_loss g_less g_voteValue g_voteNumber g_allValue g_allNumber m_allMany g_nodeL g_nodeR m_nodes g_part m_partMany g_wasMany g_wasLoss g_wasValue g_wasNumber g_path m_pathMany g_heavyValue g_heavyTimes m_heavyMany g_fewest g_which g_met m_mostMet, kx_a g_row cyI 160 f] [(cyI, .int)] sz (fun A => va_Qi (fun (r : Int32) (_ : Unit) => ((0 ≤ p0.toInt ∧ p0.toInt < p1.toInt ∧ p1.toInt ≤ m_n.toInt) ∧ mj_maj f p0.toNatClampNeg p1.toNatClampNeg r) ∨ ((p0.toInt < 0 ∨ p1.toInt ≤ p0.toInt ∨ m_n.toInt < p1.toInt) ∧ r = -40000)) (fun (_ : Unit) (t : State) => va_P (dC, dI) vwCl [kx_5 h0 g_row m_n m_slots 0 g_many g_loss g_less g_voteValue g_voteNumber g_allValue g_allNumber m_allMany g_nodeL g_nodeR m_nodes g_part m_partMany g_wasMany g_wasLoss g_wasValue g_wasNumber g_path m_pathMany g_heavyValue g_heavyTimes m_heavyMany g_fewest g_which g_met m_mostMet, kx_a g_row cyI 160 f] t.heap ∧ va_K (dC, dI) vwCl [(cyI, .int)] t ∧ va_D A [kx_5 h0 g_row m_n m_slots 0 g_many g_loss g_less g_voteValue g_voteNumber g_allValue g_allNumber m_allMany g_nodeL g_nodeR m_nodes g_part m_partMany g_wasMany g_wasLoss g_wasValue g_wasNumber g_path m_pathMany g_heavyValue g_heavyTimes m_heavyMany g_fewest g_which g_met m_mostMet, kx_a g_row cyI 160 f]) A) := by
  refine kx_stQ (ws := wsX5_majority) (cc := cX5_majority) (maxL := 3) (ret := (some .int)) (by decide) rfl (Nat.le_of_ble_eq_true rfl) ?_
  intro p e s m below meth c A ls hx hb hr hlocks hts hown hml hA hS hP hK hD hl
  have hown : s.vm.findClass RX5 = some m.cls := hown
  have hl : lv_has ls 3 [(0, .ref h0), (1, .int p0), (2, .int p1)] := hl
  have hf_77 := hts (.fieldLink RX5 77 "MajorityIndexModel" "thrown" "I") (List.mem_of_getElem? (i := 1) rfl)
  have hi_5 : ∀ w ∈ u_ws RX5 TX5 30, w ∈ wsX5_majority := fun w h => List.mem_cons_of_mem _ (List.mem_append_right _ h)
  have hk_148 := hts (.constant RX5 148 (-40000)) (List.mem_of_getElem? (i := 2) rfl)
  refine lv_aload_n hx hb dX5_majority_0 rfl (lv_at hl 0 rfl) ?_
  refine lv_iconst (v := 0) hx hb dX5_majority_1 (by decide) ?_
  refine va_put (D := (dC, dI)) (ci := 5) (v := .int 0) (ty := .int) (C := RX5) (T := TX5) (N := 30) hx hb hts hi_5 tyX5 tyX5_ok nmX5 hown hK hP hD hS 0 rfl rfl 3 (by decide) hf_77 (fun _ h9 => h9) rfl (by decide +kernel) rfl rfl (Nat.le_of_ble_eq_true rfl) dX5_majority_2 (fun H locs hP hD hS => ?_)
  obtain ⟨hP, hD⟩ := kx_re (w2 := [kx_5 h0 g_row m_n m_slots 0 g_many g_loss g_less g_voteValue g_voteNumber g_allValue g_allNumber m_allMany g_nodeL g_nodeR m_nodes g_part m_partMany g_wasMany g_wasLoss g_wasValue g_wasNumber g_path m_pathMany g_heavyValue g_heavyTimes m_heavyMany g_fewest g_which g_met m_mostMet, kx_a g_row cyI 160 f]) hP hD rfl
  refine lv_aload_n hx hb dX5_majority_5 rfl (lv_at hl 0 rfl) ?_
  refine lv_iload_n hx hb dX5_majority_6 rfl (lv_at hl 1 rfl) ?_
  refine lv_iload_n hx hb dX5_majority_7 rfl (lv_at hl 2 rfl) ?_
  have hPc := hP.sub (ws' := [kx_5 h0 g_row m_n m_slots 0 g_many g_loss g_less g_voteValue g_voteNumber g_allValue g_allNumber m_allMany g_nodeL g_nodeR m_nodes g_part m_partMany g_wasMany g_wasLoss g_wasValue g_wasNumber g_path m_pathMany g_heavyValue g_heavyTimes m_heavyMany g_fewest g_which g_met m_mostMet]) [0] rfl
  have hKc := hK.sub (tys' := []) [] rfl
  refine vp_callSi (W.runV (As := [.int p0, .int p1]) (rest := []) ⟨hx, hb, hml, hown, hts⟩ (c_X5_isRange l dC dI h0 g_row g_many g_loss g_less g_voteValue g_voteNumber g_allValue g_allNumber g_nodeL g_nodeR g_part g_wasMany g_wasLoss g_wasValue g_wasNumber g_path g_heavyValue g_heavyTimes g_fewest g_which g_met m_n m_slots 0 m_allMany m_nodes m_partMany m_pathMany m_heavyMany m_mostMet p0 p1) (cwV 2 hts gX5_majority_X5_isRange rfl rfl rfl (by decide +kernel) ⟨Nat.le_of_ble_eq_true rfl, Nat.le_of_ble_eq_true rfl⟩) ⟨fun a U g mk q => by obtain ⟨q0, qP, qK⟩ := q; exact ⟨q0, qP, va_K.moved (u := U) (U := U.calling g mk a) (Vm.Alike.refl U.vm) qK⟩, kx_rc5 hKc hPc (q0 := 0) rfl, fun U hU hW => ⟨rfl, by rw [hU]; exact hPc, va_K.moved hW.alike hKc⟩⟩ rfl rfl hl.1 rfl (lv_room (Nat.le_of_ble_eq_true rfl)) dX5_majority_8 ⟨Nat.le_of_ble_eq_true rfl, Nat.le_of_ble_eq_true rfl⟩) (fun r_1 w_1 => ?_)
  rcases w_1 with ⟨rfl, w_1⟩ | ⟨rfl, w_1⟩
  · have w_1 : (0 ≤ p0.toInt ∧ p0.toInt < p1.toInt ∧ p1.toInt ≤ m_n.toInt) := w_1
    refine lv_if_eq (tgt := 23) hx hb dX5_majority_11 (by decide) (fun c_2 => ?_) (fun c_2 => ?_)
    · exact absurd c_2 (by decide)
    · refine lv_aload_n hx hb dX5_majority_14 rfl (lv_at hl 0 rfl) ?_
      refine lv_iload_n hx hb dX5_majority_15 rfl (lv_at hl 1 rfl) ?_
      refine lv_iload_n hx hb dX5_majority_16 rfl (lv_at hl 2 rfl) ?_
      have hPc := hP
      have hKc := hK
      refine vp_callSi (W.runV (As := [.int p0, .int p1]) (rest := []) ⟨hx, hb, hml, hown, hts⟩ (c_X5_majorityOf_x l dC dI h0 g_row g_many g_loss g_less g_voteValue g_voteNumber g_allValue g_allNumber g_nodeL g_nodeR g_part g_wasMany g_wasLoss g_wasValue g_wasNumber g_path g_heavyValue g_heavyTimes g_fewest g_which g_met m_n m_slots 0 m_allMany m_nodes m_partMany m_pathMany m_heavyMany m_mostMet cyI f p0 p1 (om_10 w_1.1) (om_167 a1 w_1.2.2) (om_11 w_1.2.1)) (cwV 2 hts gX5_majority_X5_majorityOf rfl rfl rfl (by decide +kernel) ⟨Nat.le_of_ble_eq_true rfl, Nat.le_of_ble_eq_true rfl⟩) ⟨fun a U g mk q => by obtain ⟨q0, qP, qK⟩ := q; exact ⟨q0, qP, va_K.moved (u := U) (U := U.calling g mk a) (Vm.Alike.refl U.vm) qK⟩, kx_rc5 hKc hPc (q0 := 0) rfl, fun U hU hW => ⟨rfl, by rw [hU]; exact hPc, va_K.moved hW.alike hKc⟩⟩ rfl rfl hl.1 rfl (lv_room (Nat.le_of_ble_eq_true rfl)) dX5_majority_17 ⟨Nat.le_of_ble_eq_true rfl, Nat.le_of_ble_eq_true rfl⟩) (fun r_3 w_3 => ?_)
      have w_3 : mj_maj f p0.toNatClampNeg p1.toNatClampNeg r_3 := w_3
      refine lv_goto (tgt := 25) hx hb dX5_majority_20 (by decide) ?_
      have hP9 := hP
      have hD9 := hD
      have hK9 := hK
      exact W.iret (v := r_3) hx hb hr (hlocks := hlocks) (fun t ht hW => ⟨⟨r_3, (), rfl, (Or.inl ⟨(by (try dsimp only); omega), w_3⟩), by rw [ht]; exact hP9, va_K.moved hW.alike hK9, hD9⟩, hS.F ht⟩) hS.2.2 dX5_majority_25
  · have w_1 : (p0.toInt < 0 ∨ p1.toInt ≤ p0.toInt ∨ m_n.toInt < p1.toInt) := w_1
    refine lv_if_eq (tgt := 23) hx hb dX5_majority_11 (by decide) (fun c_4 => ?_) (fun c_4 => ?_)
    · refine lv_ldc (v := (-40000)) hx hb hown hk_148 dX5_majority_23 ?_
      have hP9 := hP
      have hD9 := hD
      have hK9 := hK
      exact W.iret (v := (-40000)) hx hb hr (hlocks := hlocks) (fun t ht hW => ⟨⟨(-40000), (), rfl, (Or.inr ⟨(by (try dsimp only); omega), rfl⟩), by rw [ht]; exact hP9, va_K.moved hW.alike hK9, hD9⟩, hS.F ht⟩) hS.2.2 dX5_majority_25
    · exact absurd c_4 (by decide)

set_option maxHeartbeats 4000000 in
set_option maxRecDepth 100000 in
theorem c_X5_cut_x (l : Launch) (dC : Nat → ClassId) (dI : Nat → Nat → Nat) (h0 : Nat) (g_row : Nat) (g_many : Nat) (g_loss : Nat) (g_less : Nat) (g_voteValue : Nat) (g_voteNumber : Nat) (g_allValue : Nat) (g_allNumber : Nat) (g_nodeL : Nat) (g_nodeR : Nat) (g_part : Nat) (g_wasMany : Nat) (g_wasLoss : Nat) (g_wasValue : Nat) (g_wasNumber : Nat) (g_path : Nat) (g_heavyValue : Nat) (g_heavyTimes : Nat) (g_fewest : Nat) (g_which : Nat) (g_met : Nat) (m_n : Int32) (m_slots : Int32) (m_thrown : Int32) (m_allMany : Int32) (m_nodes : Int32) (m_partMany : Int32) (m_pathMany : Int32) (m_heavyMany : Int32) (m_mostMet : Int32) (cyI : ClassId) (f : Nat → Int32) (p0 : Int32) (p1 : Int32) (sz : Nat) (a0 : 0 ≤ m_n.toInt) (a1 : m_n.toInt ≤ 160) : kx_MQ l (dC, dI) yX5_cut wsX5_cut ({ frames := 2, cells := 0, slots := 0, locals := 90 }) [.ref h0, .int p0, .int p1] [kx_5 h0 g_row m_n m_slots m_thrown g_many g_loss g_less g_voteValue g_voteNumber g_allValue g_allNumber m_allMany g_nodeL g_nodeR m_nodes g_part m_partMany g_wasMany g_wasLoss g_wasValue g_wasNumber g_path m_pathMany g_heavyValue g_heavyTimes m_heavyMany g_fewest g_which g_met m_mostMet, kx_a g_row cyI 160 f] [(cyI, .int)] sz (fun A => va_Qi (fun (r : Int32) (_ : Unit) => ((0 ≤ p0.toInt ∧ p0.toInt < p1.toInt ∧ p1.toInt ≤ m_n.toInt) ∧ mj_first (mj_cutP f p0.toNatClampNeg p1.toNatClampNeg) (p0.toNatClampNeg + 1) p1.toNatClampNeg (-1) r.toInt) ∨ ((p0.toInt < 0 ∨ p1.toInt ≤ p0.toInt ∨ m_n.toInt < p1.toInt) ∧ r = -1)) (fun (_ : Unit) (t : State) => va_P (dC, dI) vwCl [kx_5 h0 g_row m_n m_slots 0 g_many g_loss g_less g_voteValue g_voteNumber g_allValue g_allNumber m_allMany g_nodeL g_nodeR m_nodes g_part m_partMany g_wasMany g_wasLoss g_wasValue g_wasNumber g_path m_pathMany g_heavyValue g_heavyTimes m_heavyMany g_fewest g_which g_met m_mostMet, kx_a g_row cyI 160 f] t.heap ∧ va_K (dC, dI) vwCl [(cyI, .int)] t ∧ va_D A [kx_5 h0 g_row m_n m_slots 0 g_many g_loss g_less g_voteValue g_voteNumber g_allValue g_allNumber m_allMany g_nodeL g_nodeR m_nodes g_part m_partMany g_wasMany g_wasLoss g_wasValue g_wasNumber g_path m_pathMany g_heavyValue g_heavyTimes m_heavyMany g_fewest g_which g_met m_mostMet, kx_a g_row cyI 160 f]) A) := by
  refine kx_stQ (ws := wsX5_cut) (cc := cX5_cut) (maxL := 6) (ret := (some .int)) (by decide) rfl (Nat.le_of_ble_eq_true rfl) ?_
  intro p e s m below meth c A ls hx hb hr hlocks hts hown hml hA hS hP hK hD hl
  have hown : s.vm.findClass RX5 = some m.cls := hown
  have hl : lv_has ls 6 [(0, .ref h0), (1, .int p0), (2, .int p1)] := hl
  have hf_77 := hts (.fieldLink RX5 77 "MajorityIndexModel" "thrown" "I") (List.mem_of_getElem? (i := 1) rfl)
  have hi_5 : ∀ w ∈ u_ws RX5 TX5 30, w ∈ wsX5_cut := fun w h => List.mem_cons_of_mem _ (List.mem_append_right _ h)
  have hk_148 := hts (.constant RX5 148 (-40000)) (List.mem_of_getElem? (i := 2) rfl)
  refine lv_aload_n hx hb dX5_cut_0 rfl (lv_at hl 0 rfl) ?_
  refine lv_iconst (v := 0) hx hb dX5_cut_1 (by decide) ?_
  refine va_put (D := (dC, dI)) (ci := 5) (v := .int 0) (ty := .int) (C := RX5) (T := TX5) (N := 30) hx hb hts hi_5 tyX5 tyX5_ok nmX5 hown hK hP hD hS 0 rfl rfl 3 (by decide) hf_77 (fun _ h9 => h9) rfl (by decide +kernel) rfl rfl (Nat.le_of_ble_eq_true rfl) dX5_cut_2 (fun H locs hP hD hS => ?_)
  obtain ⟨hP, hD⟩ := kx_re (w2 := [kx_5 h0 g_row m_n m_slots 0 g_many g_loss g_less g_voteValue g_voteNumber g_allValue g_allNumber m_allMany g_nodeL g_nodeR m_nodes g_part m_partMany g_wasMany g_wasLoss g_wasValue g_wasNumber g_path m_pathMany g_heavyValue g_heavyTimes m_heavyMany g_fewest g_which g_met m_mostMet, kx_a g_row cyI 160 f]) hP hD rfl
  refine lv_aload_n hx hb dX5_cut_5 rfl (lv_at hl 0 rfl) ?_
  refine lv_iload_n hx hb dX5_cut_6 rfl (lv_at hl 1 rfl) ?_
  refine lv_iload_n hx hb dX5_cut_7 rfl (lv_at hl 2 rfl) ?_
  have hPc := hP.sub (ws' := [kx_5 h0 g_row m_n m_slots 0 g_many g_loss g_less g_voteValue g_voteNumber g_allValue g_allNumber m_allMany g_nodeL g_nodeR m_nodes g_part m_partMany g_wasMany g_wasLoss g_wasValue g_wasNumber g_path m_pathMany g_heavyValue g_heavyTimes m_heavyMany g_fewest g_which g_met m_mostMet]) [0] rfl
  have hKc := hK.sub (tys' := []) [] rfl
  refine vp_callSi (W.runV (As := [.int p0, .int p1]) (rest := []) ⟨hx, hb, hml, hown, hts⟩ (c_X5_isRange l dC dI h0 g_row g_many g_loss g_less g_voteValue g_voteNumber g_allValue g_allNumber g_nodeL g_nodeR g_part g_wasMany g_wasLoss g_wasValue g_wasNumber g_path g_heavyValue g_heavyTimes g_fewest g_which g_met m_n m_slots 0 m_allMany m_nodes m_partMany m_pathMany m_heavyMany m_mostMet p0 p1) (cwV 2 hts gX5_cut_X5_isRange rfl rfl rfl (by decide +kernel) ⟨Nat.le_of_ble_eq_true rfl, Nat.le_of_ble_eq_true rfl⟩) ⟨fun a U g mk q => by obtain ⟨q0, qP, qK⟩ := q; exact ⟨q0, qP, va_K.moved (u := U) (U := U.calling g mk a) (Vm.Alike.refl U.vm) qK⟩, kx_rc5 hKc hPc (q0 := 0) rfl, fun U hU hW => ⟨rfl, by rw [hU]; exact hPc, va_K.moved hW.alike hKc⟩⟩ rfl rfl hl.1 rfl (lv_room (Nat.le_of_ble_eq_true rfl)) dX5_cut_8 ⟨Nat.le_of_ble_eq_true rfl, Nat.le_of_ble_eq_true rfl⟩) (fun r_1 w_1 => ?_)
  rcases w_1 with ⟨rfl, w_1⟩ | ⟨rfl, w_1⟩
  · have w_1 : (0 ≤ p0.toInt ∧ p0.toInt < p1.toInt ∧ p1.toInt ≤ m_n.toInt) := w_1
    refine lv_if_ne (tgt := 16) hx hb dX5_cut_11 (by decide) (fun c_2 => ?_) (fun c_2 => ?_)
    · have n_p0 := ki_nat p0 rfl (om_10 w_1.1)
      have n_p1 := ki_nat p1 rfl (om_21 w_1.1 w_1.2.1)
      refine lv_iload_n hx hb dX5_cut_16 rfl (lv_at hl 1 rfl) ?_
      refine lv_iconst (v := 1) hx hb dX5_cut_17 (by decide) ?_
      refine lv_iadd hx hb dX5_cut_18 ?_
      refine lv_topi (fun y_3 ey_3 => ?_)
      have i_3 : y_3.toInt = p0.toInt + 1 := ki_add ey_3 rfl rfl (om_13 w_1.1) (om_170 a1 w_1.2.1 w_1.2.2)
      refine lv_istore_n (lv' := [(3, .int y_3), (0, .ref h0), (1, .int p0), (2, .int p1)]) hx hb dX5_cut_19 rfl hl (by decide) rfl (fun ls hl => ?_)
      have n_s := ki_nat y_3 rfl (om_34 w_1.1 i_3)
      have LP1 : ∀ (n : Nat) (i : Int32), (p0.toInt + 1 ≤ i.toInt) → (∀ k : Nat, p0.toNatClampNeg + 1 ≤ k → k < i.toNatClampNeg → ¬ mj_cutP f p0.toNatClampNeg p1.toNatClampNeg k) → (i.toInt ≤ p1.toInt) → (p1.toInt - i.toInt).toNat < n → ∀ (H : Heap) (locs : List Loc), va_P (dC, dI) vwCl [kx_5 h0 g_row m_n m_slots 0 g_many g_loss g_less g_voteValue g_voteNumber g_allValue g_allNumber m_allMany g_nodeL g_nodeR m_nodes g_part m_partMany g_wasMany g_wasLoss g_wasValue g_wasNumber g_path m_pathMany g_heavyValue g_heavyTimes m_heavyMany g_fewest g_which g_met m_mostMet, kx_a g_row cyI 160 f] H → va_D A [kx_5 h0 g_row m_n m_slots 0 g_many g_loss g_less g_voteValue g_voteNumber g_allValue g_allNumber m_allMany g_nodeL g_nodeR m_nodes g_part m_partMany g_wasMany g_wasLoss g_wasValue g_wasNumber g_path m_pathMany g_heavyValue g_heavyTimes m_heavyMany g_fewest g_which g_met m_mostMet, kx_a g_row cyI 160 f] → va_S A s.heap H locs → ∀ (ls : Array Slot), lv_has ls 6 [(3, .int i), (0, .ref h0), (1, .int p0), (2, .int p1)] → W p l e (headSpec wsX5_cut ({ frames := 2, cells := 0, slots := 0, locals := 90 })).room s m ([.ref h0, .int p0, .int p1] : List Value).toArray below meth c H locs 0 0 (MQ below (va_Qi (fun (r : Int32) (_ : Unit) => ((0 ≤ p0.toInt ∧ p0.toInt < p1.toInt ∧ p1.toInt ≤ m_n.toInt) ∧ mj_first (mj_cutP f p0.toNatClampNeg p1.toNatClampNeg) (p0.toNatClampNeg + 1) p1.toNatClampNeg (-1) r.toInt) ∨ ((p0.toInt < 0 ∨ p1.toInt ≤ p0.toInt ∨ m_n.toInt < p1.toInt) ∧ r = -1)) (fun (_ : Unit) (t : State) => va_P (dC, dI) vwCl [kx_5 h0 g_row m_n m_slots 0 g_many g_loss g_less g_voteValue g_voteNumber g_allValue g_allNumber m_allMany g_nodeL g_nodeR m_nodes g_part m_partMany g_wasMany g_wasLoss g_wasValue g_wasNumber g_path m_pathMany g_heavyValue g_heavyTimes m_heavyMany g_fewest g_which g_met m_mostMet, kx_a g_row cyI 160 f] t.heap ∧ va_K (dC, dI) vwCl [(cyI, .int)] t ∧ va_D A [kx_5 h0 g_row m_n m_slots 0 g_many g_loss g_less g_voteValue g_voteNumber g_allValue g_allNumber m_allMany g_nodeL g_nodeR m_nodes g_part m_partMany g_wasMany g_wasLoss g_wasValue g_wasNumber g_path m_pathMany g_heavyValue g_heavyTimes m_heavyMany g_fewest g_which g_met m_mostMet, kx_a g_row cyI 160 f]) A) ([.ref h0, .int p0, .int p1] : List Value).toArray s 0 0 A) (F0 m 20 ls []) := by
        intro n
        induction n with
        | zero => intro i LP1_h0 LP1_h1 LP1_h2 hn; exact absurd hn (Nat.not_lt_zero _)
        | succ n ih1 =>
          intro i LP1_h0 LP1_h1 LP1_h2 hn1 H locs hP hD hS ls hl
          have n_i := ki_nat i rfl (om_486 w_1.1 LP1_h0)
          refine lv_iload_n hx hb dX5_cut_20 rfl (lv_at hl 0 rfl) ?_
          refine lv_iload_n hx hb dX5_cut_21 rfl (lv_at hl 3 rfl) ?_
          refine lv_icmp_ge (tgt := 70) hx hb dX5_cut_22 (by decide) (fun c_4 => ?_) (fun c_4 => ?_)
          · have i_4 : p1.toInt ≤ i.toInt := kc_le c_4
            refine lv_iconst (v := (-1)) hx hb dX5_cut_70 (by decide) ?_
            have hP9 := hP
            have hD9 := hD
            have hK9 := hK
            exact W.iret (v := (-1)) hx hb hr (hlocks := hlocks) (fun t ht hW => ⟨⟨(-1), (), rfl, (Or.inl ⟨(by (try dsimp only); omega), Or.inr ⟨rfl, fun k h1 hk => LP1_h1 k h1 (by (try dsimp only); omega)⟩⟩), by rw [ht]; exact hP9, va_K.moved hW.alike hK9, hD9⟩, hS.F ht⟩) hS.2.2 dX5_cut_71
          · have i_4 : i.toInt < p1.toInt := kc_nle c_4
            refine lv_aload_n hx hb dX5_cut_25 rfl (lv_at hl 1 rfl) ?_
            refine lv_iload_n hx hb dX5_cut_26 rfl (lv_at hl 2 rfl) ?_
            refine lv_iload_n hx hb dX5_cut_27 rfl (lv_at hl 0 rfl) ?_
            have hPc := hP
            have hKc := hK
            refine vp_callSi (W.runV (As := [.int p0, .int i]) (rest := []) ⟨hx, hb, hml, hown, hts⟩ (c_X5_majorityOf_x l dC dI h0 g_row g_many g_loss g_less g_voteValue g_voteNumber g_allValue g_allNumber g_nodeL g_nodeR g_part g_wasMany g_wasLoss g_wasValue g_wasNumber g_path g_heavyValue g_heavyTimes g_fewest g_which g_met m_n m_slots 0 m_allMany m_nodes m_partMany m_pathMany m_heavyMany m_mostMet cyI f p0 i (om_10 w_1.1) (om_171 a1 w_1.2.2 i_4) (om_487 LP1_h0)) (cwV 2 hts gX5_cut_X5_majorityOf rfl rfl rfl (by decide +kernel) ⟨Nat.le_of_ble_eq_true rfl, Nat.le_of_ble_eq_true rfl⟩) ⟨fun a U g mk q => by obtain ⟨q0, qP, qK⟩ := q; exact ⟨q0, qP, va_K.moved (u := U) (U := U.calling g mk a) (Vm.Alike.refl U.vm) qK⟩, kx_rc5 hKc hPc (q0 := 0) rfl, fun U hU hW => ⟨rfl, by rw [hU]; exact hPc, va_K.moved hW.alike hKc⟩⟩ rfl rfl hl.1 rfl (lv_room (Nat.le_of_ble_eq_true rfl)) dX5_cut_28 ⟨Nat.le_of_ble_eq_true rfl, Nat.le_of_ble_eq_true rfl⟩) (fun r_5 w_5 => ?_)
            have w_5 : mj_maj f p0.toNatClampNeg i.toNatClampNeg r_5 := w_5
            refine lv_istore (lv' := [(4, .int r_5), (3, .int i), (0, .ref h0), (1, .int p0), (2, .int p1)]) hx hb dX5_cut_31 hl (by decide) rfl (fun ls hl => ?_)
            refine lv_aload_n hx hb dX5_cut_33 rfl (lv_at hl 2 rfl) ?_
            refine lv_iload_n hx hb dX5_cut_34 rfl (lv_at hl 1 rfl) ?_
            refine lv_iload_n hx hb dX5_cut_35 rfl (lv_at hl 4 rfl) ?_
            have hPc := hP
            have hKc := hK
            refine vp_callSi (W.runV (As := [.int i, .int p1]) (rest := []) ⟨hx, hb, hml, hown, hts⟩ (c_X5_majorityOf_x l dC dI h0 g_row g_many g_loss g_less g_voteValue g_voteNumber g_allValue g_allNumber g_nodeL g_nodeR g_part g_wasMany g_wasLoss g_wasValue g_wasNumber g_path g_heavyValue g_heavyTimes g_fewest g_which g_met m_n m_slots 0 m_allMany m_nodes m_partMany m_pathMany m_heavyMany m_mostMet cyI f i p1 (om_486 w_1.1 LP1_h0) (om_167 a1 w_1.2.2) i_4) (cwV 2 hts gX5_cut_X5_majorityOf rfl rfl rfl (by decide +kernel) ⟨Nat.le_of_ble_eq_true rfl, Nat.le_of_ble_eq_true rfl⟩) ⟨fun a U g mk q => by obtain ⟨q0, qP, qK⟩ := q; exact ⟨q0, qP, va_K.moved (u := U) (U := U.calling g mk a) (Vm.Alike.refl U.vm) qK⟩, kx_rc5 hKc hPc (q0 := 0) rfl, fun U hU hW => ⟨rfl, by rw [hU]; exact hPc, va_K.moved hW.alike hKc⟩⟩ rfl rfl hl.1 rfl (lv_room (Nat.le_of_ble_eq_true rfl)) dX5_cut_36 ⟨Nat.le_of_ble_eq_true rfl, Nat.le_of_ble_eq_true rfl⟩) (fun r_6 w_6 => ?_)
            have w_6 : mj_maj f i.toNatClampNeg p1.toNatClampNeg r_6 := w_6
            refine lv_istore (lv' := [(5, .int r_6), (4, .int r_5), (3, .int i), (0, .ref h0), (1, .int p0), (2, .int p1)]) hx hb dX5_cut_39 hl (by decide) rfl (fun ls hl => ?_)
            refine lv_iload hx hb dX5_cut_41 (lv_at hl 1 rfl) ?_
            refine lv_ldc (v := (-40000)) hx hb hown hk_148 dX5_cut_43 ?_
            refine lv_icmp_eq (tgt := 64) hx hb dX5_cut_45 (by decide) (fun c_7 => ?_) (fun c_7 => ?_)
            · have i_7 : r_5.toInt = (-40000) := kc_eq c_7
              obtain ⟨x_8, ex_8⟩ : ∃ y : Int32, y = i + 1 := ⟨_, rfl⟩
              have i_8 : x_8.toInt = i.toInt + 1 := ki_add ex_8 rfl rfl (om_488 w_1.1 LP1_h0) (om_172 a1 w_1.2.2 i_4)
              refine lv_iinc (v := x_8) (lv' := [(3, .int x_8), (5, .int r_6), (4, .int r_5), (0, .ref h0), (1, .int p0), (2, .int p1)]) hx hb dX5_cut_64 hl (k := 2) rfl (by rw [ex_8]; rfl) (by decide) rfl (fun ls hl => ?_)
              refine lv_goto (tgt := 20) hx hb dX5_cut_67 (by decide) ?_
              have n_9 := ki_nat x_8 rfl (om_490 w_1.1 LP1_h0 i_8)
              exact ih1 x_8 (om_489 LP1_h0 i_8) (fun k h1 hk => if h9 : k < i.toNatClampNeg then LP1_h1 k h1 h9 else (by rw [show k = i.toNatClampNeg by omega]; exact mj_cut_no w_5 w_6 (Or.inl c_7))) (om_54 i_4 i_8) (om_mu hn1 (om_5 i_8) (om_6 i_4)) _ _ hP hD hS ls (lv_sub hl [0, 3, 4, 5] rfl)
            · have i_7 : ¬ r_5.toInt = (-40000) := kc_ne c_7
              refine lv_iload hx hb dX5_cut_48 (lv_at hl 0 rfl) ?_
              refine lv_ldc (v := (-40000)) hx hb hown hk_148 dX5_cut_50 ?_
              refine lv_icmp_eq (tgt := 64) hx hb dX5_cut_52 (by decide) (fun c_10 => ?_) (fun c_10 => ?_)
              · have i_10 : r_6.toInt = (-40000) := kc_eq c_10
                obtain ⟨x_11, ex_11⟩ : ∃ y : Int32, y = i + 1 := ⟨_, rfl⟩
                have i_11 : x_11.toInt = i.toInt + 1 := ki_add ex_11 rfl rfl (om_488 w_1.1 LP1_h0) (om_172 a1 w_1.2.2 i_4)
                refine lv_iinc (v := x_11) (lv' := [(3, .int x_11), (5, .int r_6), (4, .int r_5), (0, .ref h0), (1, .int p0), (2, .int p1)]) hx hb dX5_cut_64 hl (k := 2) rfl (by rw [ex_11]; rfl) (by decide) rfl (fun ls hl => ?_)
                refine lv_goto (tgt := 20) hx hb dX5_cut_67 (by decide) ?_
                have n_12 := ki_nat x_11 rfl (om_490 w_1.1 LP1_h0 i_11)
                exact ih1 x_11 (om_489 LP1_h0 i_11) (fun k h1 hk => if h9 : k < i.toNatClampNeg then LP1_h1 k h1 h9 else (by rw [show k = i.toNatClampNeg by omega]; exact mj_cut_no w_5 w_6 (Or.inr (Or.inl c_10)))) (om_54 i_4 i_11) (om_mu hn1 (om_5 i_11) (om_6 i_4)) _ _ hP hD hS ls (lv_sub hl [0, 3, 4, 5] rfl)
              · have i_10 : ¬ r_6.toInt = (-40000) := kc_ne c_10
                refine lv_iload hx hb dX5_cut_55 (lv_at hl 1 rfl) ?_
                refine lv_iload hx hb dX5_cut_57 (lv_at hl 0 rfl) ?_
                refine lv_icmp_eq (tgt := 64) hx hb dX5_cut_59 (by decide) (fun c_13 => ?_) (fun c_13 => ?_)
                · have i_13 : r_5.toInt = r_6.toInt := kc_eq c_13
                  obtain ⟨x_14, ex_14⟩ : ∃ y : Int32, y = i + 1 := ⟨_, rfl⟩
                  have i_14 : x_14.toInt = i.toInt + 1 := ki_add ex_14 rfl rfl (om_488 w_1.1 LP1_h0) (om_172 a1 w_1.2.2 i_4)
                  refine lv_iinc (v := x_14) (lv' := [(3, .int x_14), (5, .int r_6), (4, .int r_5), (0, .ref h0), (1, .int p0), (2, .int p1)]) hx hb dX5_cut_64 hl (k := 2) rfl (by rw [ex_14]; rfl) (by decide) rfl (fun ls hl => ?_)
                  refine lv_goto (tgt := 20) hx hb dX5_cut_67 (by decide) ?_
                  have n_15 := ki_nat x_14 rfl (om_490 w_1.1 LP1_h0 i_14)
                  exact ih1 x_14 (om_489 LP1_h0 i_14) (fun k h1 hk => if h9 : k < i.toNatClampNeg then LP1_h1 k h1 h9 else (by rw [show k = i.toNatClampNeg by omega]; exact mj_cut_no w_5 w_6 (Or.inr (Or.inr c_13)))) (om_54 i_4 i_14) (om_mu hn1 (om_5 i_14) (om_6 i_4)) _ _ hP hD hS ls (lv_sub hl [0, 3, 4, 5] rfl)
                · have i_13 : ¬ r_5.toInt = r_6.toInt := kc_ne c_13
                  refine lv_iload_n hx hb dX5_cut_62 rfl (lv_at hl 2 rfl) ?_
                  have hP9 := hP
                  have hD9 := hD
                  have hK9 := hK
                  exact W.iret (v := i) hx hb hr (hlocks := hlocks) (fun t ht hW => ⟨⟨i, (), rfl, (Or.inl ⟨(by (try dsimp only); omega), Or.inl ⟨i.toNatClampNeg, (by (try dsimp only); omega), (by (try dsimp only); omega), ⟨_, _, w_5, w_6, c_7, c_10, c_13⟩, (by (try dsimp only); omega), fun k h1 hk => LP1_h1 k h1 hk⟩⟩), by rw [ht]; exact hP9, va_K.moved hW.alike hK9, hD9⟩, hS.F ht⟩) hS.2.2 dX5_cut_63
      exact LP1 ((p1.toInt - y_3.toInt : Int).toNat + 1) y_3 (om_491 i_3) (fun k h1 hk => absurd hk (by omega)) (om_54 w_1.2.1 i_3) (Nat.lt_succ_self _) _ _ hP hD hS ls (lv_sub hl [0, 1, 2, 3] rfl)
    · exact absurd c_2 (by decide)
  · have w_1 : (p0.toInt < 0 ∨ p1.toInt ≤ p0.toInt ∨ m_n.toInt < p1.toInt) := w_1
    refine lv_if_ne (tgt := 16) hx hb dX5_cut_11 (by decide) (fun c_16 => ?_) (fun c_16 => ?_)
    · exact absurd c_16 (by decide)
    · refine lv_iconst (v := (-1)) hx hb dX5_cut_14 (by decide) ?_
      have hP9 := hP
      have hD9 := hD
      have hK9 := hK
      exact W.iret (v := (-1)) hx hb hr (hlocks := hlocks) (fun t ht hW => ⟨⟨(-1), (), rfl, (Or.inr ⟨(by (try dsimp only); omega), rfl⟩), by rw [ht]; exact hP9, va_K.moved hW.alike hK9, hD9⟩, hS.F ht⟩) hS.2.2 dX5_cut_15

set_option maxHeartbeats 4000000 in
set_option maxRecDepth 100000 in
theorem c_X4_would_x (l : Launch) (dC : Nat → ClassId) (dI : Nat → Nat → Nat) (m_ : Nat) (q_row : Nat) (q_t : Nat) (t_ : Nat) (h0 : Nat) (k0 : Nat) (w_ : Nat) (z_ : Nat) (slots : Int32) (old : Int32) (q_cell : Nat) (cyI : ClassId) (len : Int32) (f : Nat → Int32) (p0 : Int32) (p1 : Int32) (p2 : Int32) (p3 : Int32) (sz : Nat) (a0 : 0 ≤ len.toInt) (a1 : len.toInt ≤ 160) : Met l yX4_would wsX4_would ({ frames := 2, cells := 0, slots := 0, locals := 90 }) (va_Pc [.ref m_, .int p0, .int p1, .int p2, .int p3] (fun U => U.heap.size = sz ∧ va_P (dC, dI) vwCl [kx_4 m_ q_row q_t t_ h0 k0 w_ z_ slots old, kx_0 q_row q_cell len, kx_a q_cell cyI 160 f] U.heap ∧ va_K (dC, dI) vwCl [(cyI, .int)] U ∧ va_D (fun _ => True) [kx_4 m_ q_row q_t t_ h0 k0 w_ z_ slots old, kx_0 q_row q_cell len, kx_a q_cell cyI 160 f] ∧ va_Nw (.methodLinkNest RX0 28 yX4_isHeavy RX4) U)) (va_Qi (fun (r : Int32) (u : (Nat → Int32)) => (((0 ≤ p0.toInt ∧ p0.toInt < len.toInt ∧ -32768 ≤ p1.toInt ∧ p1.toInt ≤ 32767 ∧ 0 ≤ p2.toInt ∧ p2.toInt < p3.toInt ∧ p3.toInt ≤ len.toInt) ∧ mj_maj (upd f p0.toNatClampNeg p1) p2.toNatClampNeg p3.toNatClampNeg r) ∨ ((p0.toInt < 0 ∨ len.toInt ≤ p0.toInt ∨ p1.toInt < -32768 ∨ 32767 < p1.toInt ∨ p2.toInt < 0 ∨ p3.toInt ≤ p2.toInt ∨ len.toInt < p3.toInt) ∧ r = -40000)) ∧ u = f) (fun (u : (Nat → Int32)) (t : State) => va_P (dC, dI) vwCl [kx_4 m_ q_row q_t t_ h0 k0 w_ z_ slots old, kx_0 q_row q_cell len, kx_a q_cell cyI 160 u] t.heap ∧ va_K (dC, dI) vwCl [(cyI, .int)] t ∧ va_D (va_A [kx_4 m_ q_row q_t t_ h0 k0 w_ z_ slots old, kx_0 q_row q_cell len, kx_a q_cell cyI 160 f] sz) [kx_4 m_ q_row q_t t_ h0 k0 w_ z_ slots old, kx_0 q_row q_cell len, kx_a q_cell cyI 160 u]) (va_A [kx_4 m_ q_row q_t t_ h0 k0 w_ z_ slots old, kx_0 q_row q_cell len, kx_a q_cell cyI 160 f] sz)) 0 0 (va_A [kx_4 m_ q_row q_t t_ h0 k0 w_ z_ slots old, kx_0 q_row q_cell len, kx_a q_cell cyI 160 f] sz) := by
  refine Met.ofW (cc := cX4_would) (maxL := 7) (ret := (some .int)) (by decide) rfl ?_
  intro p e s m args below meth c s₁ B hml hv
  obtain ⟨rfl, hsz, hP, hK, hD0, hN0⟩ := hv
  have hx := B.exec
  have hb := B.bytes
  have hr := B.returns
  have hts := atoms_spec (ws := wsX4_would) B.pre
  have hown : s.vm.findClass RX4 = some m.cls := findClass_of_methodNamed B.named
  have hlocks := B.notSynchronized
  subst hsz
  have hD := hD0.self (sz := s.heap.size)
  generalize hAe : va_A [kx_4 m_ q_row q_t t_ h0 k0 w_ z_ slots old, kx_0 q_row q_cell len, kx_a q_cell cyI 160 f] s.heap.size = A at hD ⊢
  have hA : ∀ q : Nat, s.heap.size ≤ q → A q := fun q h => by rw [← hAe]; exact Or.inr h
  have hS : va_S A s.heap s.heap [] := va_S.rf
  have hP : va_P (dC, dI) vwCl [kx_4 m_ q_row q_t t_ h0 k0 w_ z_ slots old, kx_0 q_row q_cell len, kx_a q_cell cyI 160 f] s.heap := hP
  have hl := lv_entry ([.ref m_, .int p0, .int p1, .int p2, .int p3]) (n := 7) (Nat.le_of_ble_eq_true rfl)
  rw [lg_entry_eq]
  generalize (lg_sl ([.ref m_, .int p0, .int p1, .int p2, .int p3]) ++ List.replicate (7 - (lg_sl ([.ref m_, .int p0, .int p1, .int p2, .int p3])).length) Slot.unset).toArray = ls at hl ⊢
  have hl : lv_has ls 7 [(0, .ref m_), (1, .int p0), (2, .int p1), (3, .int p2), (4, .int p3)] := hl
  have hf_12 := hts (.fieldLink RX4 12 "MajorityIndex" "row" "LMajorityIndex$Row;") (List.mem_of_getElem? (i := 1) rfl)
  have hi_4 : ∀ w ∈ u_ws RX4 TX4 9, w ∈ wsX4_would := fun w h => List.mem_cons_of_mem _ (List.mem_append_left _ (List.mem_append_right _ h))
  have hf_110 := hts (.fieldLink RX4 110 "MajorityIndex$Row" "cell" "[I") (List.mem_of_getElem? (i := 3) rfl)
  have hi_0 : ∀ w ∈ u_ws RX0 TX0 2, w ∈ wsX4_would := fun w h => List.mem_cons_of_mem _ (List.mem_append_right _ h)
  have hk_102 := hts (.constant RX4 102 (-40000)) (List.mem_of_getElem? (i := 2) rfl)
  refine lv_aload_n hx hb dX4_would_0 rfl (lv_at hl 0 rfl) ?_
  refine va_get (D := (dC, dI)) (ci := 4) (v := .ref q_row) (C := RX4) (T := TX4) (N := 9) hx hb hts hi_4 hown hK hP 0 rfl rfl 0 (by decide) hf_12 (fun _ h9 => h9) rfl dX4_would_1 ?_
  refine lv_iload_n hx hb dX4_would_4 rfl (lv_at hl 1 rfl) ?_
  have hPc := hP.sub (ws' := [kx_0 q_row q_cell len]) [1] rfl
  have hKc := hK.sub (tys' := []) [] rfl
  refine vp_callSi (W.runV (As := [.int p0]) (rest := []) ⟨hx, hb, hml, hown, hts⟩ (c_X0_hasPlace l dC dI q_row q_cell len p0) (cwV 1 hts gX4_would_X0_hasPlace rfl rfl rfl (by decide +kernel) ⟨Nat.le_of_ble_eq_true rfl, Nat.le_of_ble_eq_true rfl⟩) ⟨fun a U g mk q => by obtain ⟨q0, qP, qK⟩ := q; exact ⟨q0, qP, va_K.moved (u := U) (U := U.calling g mk a) (Vm.Alike.refl U.vm) qK⟩, kx_rc0 hKc hPc (q0 := 0) rfl, fun U hU hW => ⟨rfl, by rw [hU]; exact hPc, va_K.moved hW.alike hKc⟩⟩ rfl rfl hl.1 rfl (lv_room (Nat.le_of_ble_eq_true rfl)) dX4_would_5 ⟨Nat.le_of_ble_eq_true rfl, Nat.le_of_ble_eq_true rfl⟩) (fun r_1 w_1 => ?_)
  rcases w_1 with ⟨rfl, w_1⟩ | ⟨rfl, w_1⟩
  · have w_1 : (0 ≤ p0.toInt ∧ p0.toInt < len.toInt) := w_1
    refine lv_if_eq (tgt := 31) hx hb dX4_would_8 (by decide) (fun c_2 => ?_) (fun c_2 => ?_)
    · exact absurd c_2 (by decide)
    · refine lv_iload_n hx hb dX4_would_11 rfl (lv_at hl 2 rfl) ?_
      have hPc := hP.sub (ws' := []) [] rfl
      have hKc := hK.sub (tys' := []) [] rfl
      refine vp_callSi (W.runS (As := [.int p1]) (rest := []) ⟨hx, hb, hml, hown, hts⟩ (c_X4_isValue l dC dI p1) (va_cwS 1 hts gX4_would_X4_isValue rfl rfl rfl (by decide +kernel) ⟨Nat.le_of_ble_eq_true rfl, Nat.le_of_ble_eq_true rfl⟩) ⟨fun a U g mk q => by obtain ⟨q0, qP, qK⟩ := q; exact ⟨q0, qP, va_K.moved (u := U) (U := U.calling g mk a) (Vm.Alike.refl U.vm) qK⟩, fun U hU hW => ⟨rfl, by rw [hU]; exact hPc, va_K.moved hW.alike hKc⟩⟩ rfl rfl hl.1 rfl (lv_room (Nat.le_of_ble_eq_true rfl)) dX4_would_12 ⟨Nat.le_of_ble_eq_true rfl, Nat.le_of_ble_eq_true rfl⟩) (fun r_3 w_3 => ?_)
      rcases w_3 with ⟨rfl, w_3⟩ | ⟨rfl, w_3⟩
      · have w_3 : (-32768 ≤ p1.toInt ∧ p1.toInt ≤ 32767) := w_3
        refine lv_if_eq (tgt := 31) hx hb dX4_would_15 (by decide) (fun c_4 => ?_) (fun c_4 => ?_)
        · exact absurd c_4 (by decide)
        · refine lv_aload_n hx hb dX4_would_18 rfl (lv_at hl 0 rfl) ?_
          refine va_get (D := (dC, dI)) (ci := 4) (v := .ref q_row) (C := RX4) (T := TX4) (N := 9) hx hb hts hi_4 hown hK hP 0 rfl rfl 0 (by decide) hf_12 (fun _ h9 => h9) rfl dX4_would_19 ?_
          refine lv_iload_n hx hb dX4_would_22 rfl (lv_at hl 3 rfl) ?_
          refine lv_iload hx hb dX4_would_23 (lv_at hl 4 rfl) ?_
          have hPc := hP.sub (ws' := [kx_0 q_row q_cell len]) [1] rfl
          have hKc := hK.sub (tys' := []) [] rfl
          refine vp_callSi (W.runV (As := [.int p2, .int p3]) (rest := []) ⟨hx, hb, hml, hown, hts⟩ (c_X0_hasRange l dC dI q_row q_cell len p2 p3) (cwV 2 hts gX4_would_X0_hasRange rfl rfl rfl (by decide +kernel) ⟨Nat.le_of_ble_eq_true rfl, Nat.le_of_ble_eq_true rfl⟩) ⟨fun a U g mk q => by obtain ⟨q0, qP, qK⟩ := q; exact ⟨q0, qP, va_K.moved (u := U) (U := U.calling g mk a) (Vm.Alike.refl U.vm) qK⟩, kx_rc0 hKc hPc (q0 := 0) rfl, fun U hU hW => ⟨rfl, by rw [hU]; exact hPc, va_K.moved hW.alike hKc⟩⟩ rfl rfl hl.1 rfl (lv_room (Nat.le_of_ble_eq_true rfl)) dX4_would_25 ⟨Nat.le_of_ble_eq_true rfl, Nat.le_of_ble_eq_true rfl⟩) (fun r_5 w_5 => ?_)
          rcases w_5 with ⟨rfl, w_5⟩ | ⟨rfl, w_5⟩
          · have w_5 : (0 ≤ p2.toInt ∧ p2.toInt < p3.toInt ∧ p3.toInt ≤ len.toInt) := w_5
            refine lv_if_ne (tgt := 34) hx hb dX4_would_28 (by decide) (fun c_6 => ?_) (fun c_6 => ?_)
            · refine lv_aload_n hx hb dX4_would_34 rfl (lv_at hl 0 rfl) ?_
              refine va_get (D := (dC, dI)) (ci := 4) (v := .ref q_row) (C := RX4) (T := TX4) (N := 9) hx hb hts hi_4 hown hK hP 0 rfl rfl 0 (by decide) hf_12 (fun _ h9 => h9) rfl dX4_would_35 ?_
              refine va_get (D := (dC, dI)) (ci := 0) (v := .ref q_cell) (C := RX0) (T := TX0) (N := 2) hx hb hts hi_0 hown hK hP 1 rfl rfl 0 (by decide) hf_110 (fun _ h9 => h9) rfl dX4_would_38 ?_
              refine lv_iload_n hx hb dX4_would_41 rfl (lv_at hl 1 rfl) ?_
              refine va_iald hx hb hK hP 2 0 rfl rfl (ki_in (om_10 w_1.1) (om_1 a1 w_1.2)) dX4_would_42 ?_
              refine lv_topi (fun y_7 ey_7 => ?_)
              have j_7 : y_7.toInt = (f p0.toNatClampNeg).toInt := congrArg Int32.toInt ey_7
              refine lv_istore (lv' := [(5, .int y_7), (0, .ref m_), (1, .int p0), (2, .int p1), (3, .int p2), (4, .int p3)]) hx hb dX4_would_43 hl (by decide) rfl (fun ls hl => ?_)
              refine lv_aload_n hx hb dX4_would_45 rfl (lv_at hl 1 rfl) ?_
              refine va_get (D := (dC, dI)) (ci := 4) (v := .ref q_row) (C := RX4) (T := TX4) (N := 9) hx hb hts hi_4 hown hK hP 0 rfl rfl 0 (by decide) hf_12 (fun _ h9 => h9) rfl dX4_would_46 ?_
              refine va_get (D := (dC, dI)) (ci := 0) (v := .ref q_cell) (C := RX0) (T := TX0) (N := 2) hx hb hts hi_0 hown hK hP 1 rfl rfl 0 (by decide) hf_110 (fun _ h9 => h9) rfl dX4_would_49 ?_
              refine lv_iload_n hx hb dX4_would_52 rfl (lv_at hl 2 rfl) ?_
              refine lv_iload_n hx hb dX4_would_53 rfl (lv_at hl 3 rfl) ?_
              refine va_iast hx hb hK hP hD hS 2 0 rfl rfl (ki_in (om_10 w_1.1) (om_1 a1 w_1.2)) dX4_would_54 (fun H locs hP hD hS => ?_)
              obtain ⟨hP, hD⟩ := kx_re (w2 := [kx_4 m_ q_row q_t t_ h0 k0 w_ z_ slots old, kx_0 q_row q_cell len, kx_a q_cell cyI 160 (upd f p0.toNatClampNeg p1)]) hP hD rfl
              refine lv_aload_n hx hb dX4_would_55 rfl (lv_at hl 1 rfl) ?_
              refine va_get (D := (dC, dI)) (ci := 4) (v := .ref q_row) (C := RX4) (T := TX4) (N := 9) hx hb hts hi_4 hown hK hP 0 rfl rfl 0 (by decide) hf_12 (fun _ h9 => h9) rfl dX4_would_56 ?_
              refine lv_iload_n hx hb dX4_would_59 rfl (lv_at hl 4 rfl) ?_
              refine lv_iload hx hb dX4_would_60 (lv_at hl 5 rfl) ?_
              have hPc := hP.sub (ws' := [kx_0 q_row q_cell len, kx_a q_cell cyI 160 (upd f p0.toNatClampNeg p1)]) [1, 2] rfl
              have hKc := hK
              refine vp_callSi (W.runV (As := [.int p2, .int p3]) (rest := []) ⟨hx, hb, hml, hown, hts⟩ (c_X0_leader_x l dC dI q_row q_cell cyI len (upd f p0.toNatClampNeg p1) p2 p3 (om_10 w_5.1) (om_167 a1 w_5.2.2) (om_11 w_5.2.1)) (cwV 2 hts gX4_would_X0_leader rfl rfl rfl (by decide +kernel) ⟨Nat.le_of_ble_eq_true rfl, Nat.le_of_ble_eq_true rfl⟩) ⟨fun a U g mk q => by obtain ⟨q0, qP, qK, qn0⟩ := q; exact ⟨q0, qP, va_K.moved (u := U) (U := U.calling g mk a) (Vm.Alike.refl U.vm) qK, va_Nw.same (u := U) (U := U.calling g mk a) rfl rfl qn0⟩, kx_rc0 hKc hPc (q0 := 0) rfl, fun U hU hW => ⟨rfl, by rw [hU]; exact hPc, va_K.moved hW.alike hKc, va_Nw.warmM hW hN0⟩⟩ rfl rfl hl.1 rfl (lv_room (Nat.le_of_ble_eq_true rfl)) dX4_would_62 ⟨Nat.le_of_ble_eq_true rfl, Nat.le_of_ble_eq_true rfl⟩) (fun r_8 w_8 => ?_)
              have w_8 : mj_maj (upd f p0.toNatClampNeg p1) p2.toNatClampNeg p3.toNatClampNeg r_8 := w_8
              refine lv_istore (lv' := [(6, .int r_8), (5, .int y_7), (0, .ref m_), (1, .int p0), (2, .int p1), (3, .int p2), (4, .int p3)]) hx hb dX4_would_65 hl (by decide) rfl (fun ls hl => ?_)
              refine lv_aload_n hx hb dX4_would_67 rfl (lv_at hl 2 rfl) ?_
              refine va_get (D := (dC, dI)) (ci := 4) (v := .ref q_row) (C := RX4) (T := TX4) (N := 9) hx hb hts hi_4 hown hK hP 0 rfl rfl 0 (by decide) hf_12 (fun _ h9 => h9) rfl dX4_would_68 ?_
              refine va_get (D := (dC, dI)) (ci := 0) (v := .ref q_cell) (C := RX0) (T := TX0) (N := 2) hx hb hts hi_0 hown hK hP 1 rfl rfl 0 (by decide) hf_110 (fun _ h9 => h9) rfl dX4_would_71 ?_
              refine lv_iload_n hx hb dX4_would_74 rfl (lv_at hl 3 rfl) ?_
              refine lv_iload hx hb dX4_would_75 (lv_at hl 1 rfl) ?_
              refine va_iast hx hb hK hP hD hS 2 0 rfl rfl (ki_in (om_10 w_1.1) (om_1 a1 w_1.2)) dX4_would_77 (fun H locs hP hD hS => ?_)
              obtain ⟨hP, hD⟩ := kx_re (w2 := [kx_4 m_ q_row q_t t_ h0 k0 w_ z_ slots old, kx_0 q_row q_cell len, kx_a q_cell cyI 160 (upd (upd f p0.toNatClampNeg p1) p0.toNatClampNeg y_7)]) hP hD rfl
              refine lv_iload hx hb dX4_would_78 (lv_at hl 0 rfl) ?_
              have hP9 := hP
              have hD9 := hD
              have hK9 := hK
              exact W.iret (v := r_8) hx hb hr (hlocks := hlocks) (fun t ht hW => ⟨⟨r_8, ((upd (upd f p0.toNatClampNeg p1) p0.toNatClampNeg y_7)), rfl, ⟨Or.inl ⟨(by (try dsimp only); omega), w_8⟩, (by (try dsimp only); rw [ey_7]; exact upd_back _ _ _)⟩, by rw [ht]; exact hP9, va_K.moved hW.alike hK9, hD9⟩, hS.F ht⟩) hS.2.2 dX4_would_80
            · exact absurd c_6 (by decide)
          · have w_5 : (p2.toInt < 0 ∨ p3.toInt ≤ p2.toInt ∨ len.toInt < p3.toInt) := w_5
            refine lv_if_ne (tgt := 34) hx hb dX4_would_28 (by decide) (fun c_9 => ?_) (fun c_9 => ?_)
            · exact absurd c_9 (by decide)
            · refine lv_ldc (v := (-40000)) hx hb hown hk_102 dX4_would_31 ?_
              have hP9 := hP
              have hD9 := hD
              have hK9 := hK
              exact W.iret (v := (-40000)) hx hb hr (hlocks := hlocks) (fun t ht hW => ⟨⟨(-40000), (f), rfl, ⟨Or.inr ⟨(by (try dsimp only); omega), rfl⟩, rfl⟩, by rw [ht]; exact hP9, va_K.moved hW.alike hK9, hD9⟩, hS.F ht⟩) hS.2.2 dX4_would_33
      · have w_3 : (p1.toInt < -32768 ∨ 32767 < p1.toInt) := w_3
        refine lv_if_eq (tgt := 31) hx hb dX4_would_15 (by decide) (fun c_10 => ?_) (fun c_10 => ?_)
        · refine lv_ldc (v := (-40000)) hx hb hown hk_102 dX4_would_31 ?_
          have hP9 := hP
          have hD9 := hD
          have hK9 := hK
          exact W.iret (v := (-40000)) hx hb hr (hlocks := hlocks) (fun t ht hW => ⟨⟨(-40000), (f), rfl, ⟨Or.inr ⟨(by (try dsimp only); omega), rfl⟩, rfl⟩, by rw [ht]; exact hP9, va_K.moved hW.alike hK9, hD9⟩, hS.F ht⟩) hS.2.2 dX4_would_33
        · exact absurd c_10 (by decide)
  · have w_1 : (p0.toInt < 0 ∨ len.toInt ≤ p0.toInt) := w_1
    refine lv_if_eq (tgt := 31) hx hb dX4_would_8 (by decide) (fun c_11 => ?_) (fun c_11 => ?_)
    · refine lv_ldc (v := (-40000)) hx hb hown hk_102 dX4_would_31 ?_
      have hP9 := hP
      have hD9 := hD
      have hK9 := hK
      exact W.iret (v := (-40000)) hx hb hr (hlocks := hlocks) (fun t ht hW => ⟨⟨(-40000), (f), rfl, ⟨Or.inr ⟨(by (try dsimp only); omega), rfl⟩, rfl⟩, by rw [ht]; exact hP9, va_K.moved hW.alike hK9, hD9⟩, hS.F ht⟩) hS.2.2 dX4_would_33
    · exact absurd c_11 (by decide)

set_option maxHeartbeats 4000000 in
set_option maxRecDepth 100000 in
theorem c_X5_would_x (l : Launch) (dC : Nat → ClassId) (dI : Nat → Nat → Nat) (h0 : Nat) (g_row : Nat) (g_many : Nat) (g_loss : Nat) (g_less : Nat) (g_voteValue : Nat) (g_voteNumber : Nat) (g_allValue : Nat) (g_allNumber : Nat) (g_nodeL : Nat) (g_nodeR : Nat) (g_part : Nat) (g_wasMany : Nat) (g_wasLoss : Nat) (g_wasValue : Nat) (g_wasNumber : Nat) (g_path : Nat) (g_heavyValue : Nat) (g_heavyTimes : Nat) (g_fewest : Nat) (g_which : Nat) (g_met : Nat) (m_n : Int32) (m_slots : Int32) (m_thrown : Int32) (m_allMany : Int32) (m_nodes : Int32) (m_partMany : Int32) (m_pathMany : Int32) (m_heavyMany : Int32) (m_mostMet : Int32) (cyI : ClassId) (f : Nat → Int32) (p0 : Int32) (p1 : Int32) (p2 : Int32) (p3 : Int32) (sz : Nat) (a0 : 0 ≤ m_n.toInt) (a1 : m_n.toInt ≤ 160) : kx_MQ l (dC, dI) yX5_would wsX5_would ({ frames := 2, cells := 0, slots := 0, locals := 90 }) [.ref h0, .int p0, .int p1, .int p2, .int p3] [kx_5 h0 g_row m_n m_slots m_thrown g_many g_loss g_less g_voteValue g_voteNumber g_allValue g_allNumber m_allMany g_nodeL g_nodeR m_nodes g_part m_partMany g_wasMany g_wasLoss g_wasValue g_wasNumber g_path m_pathMany g_heavyValue g_heavyTimes m_heavyMany g_fewest g_which g_met m_mostMet, kx_a g_row cyI 160 f] [(cyI, .int)] sz (fun A => va_Qi (fun (r : Int32) (u : (Nat → Int32)) => (((0 ≤ p0.toInt ∧ p0.toInt < m_n.toInt ∧ -32768 ≤ p1.toInt ∧ p1.toInt ≤ 32767 ∧ 0 ≤ p2.toInt ∧ p2.toInt < p3.toInt ∧ p3.toInt ≤ m_n.toInt) ∧ mj_maj (upd f p0.toNatClampNeg p1) p2.toNatClampNeg p3.toNatClampNeg r) ∨ ((p0.toInt < 0 ∨ m_n.toInt ≤ p0.toInt ∨ p1.toInt < -32768 ∨ 32767 < p1.toInt ∨ p2.toInt < 0 ∨ p3.toInt ≤ p2.toInt ∨ m_n.toInt < p3.toInt) ∧ r = -40000)) ∧ u = f) (fun (u : (Nat → Int32)) (t : State) => va_P (dC, dI) vwCl [kx_5 h0 g_row m_n m_slots 0 g_many g_loss g_less g_voteValue g_voteNumber g_allValue g_allNumber m_allMany g_nodeL g_nodeR m_nodes g_part m_partMany g_wasMany g_wasLoss g_wasValue g_wasNumber g_path m_pathMany g_heavyValue g_heavyTimes m_heavyMany g_fewest g_which g_met m_mostMet, kx_a g_row cyI 160 u] t.heap ∧ va_K (dC, dI) vwCl [(cyI, .int)] t ∧ va_D A [kx_5 h0 g_row m_n m_slots 0 g_many g_loss g_less g_voteValue g_voteNumber g_allValue g_allNumber m_allMany g_nodeL g_nodeR m_nodes g_part m_partMany g_wasMany g_wasLoss g_wasValue g_wasNumber g_path m_pathMany g_heavyValue g_heavyTimes m_heavyMany g_fewest g_which g_met m_mostMet, kx_a g_row cyI 160 u]) A) := by
  refine kx_stQ (ws := wsX5_would) (cc := cX5_would) (maxL := 7) (ret := (some .int)) (by decide) rfl (Nat.le_of_ble_eq_true rfl) ?_
  intro p e s m below meth c A ls hx hb hr hlocks hts hown hml hA hS hP hK hD hl
  have hown : s.vm.findClass RX5 = some m.cls := hown
  have hl : lv_has ls 7 [(0, .ref h0), (1, .int p0), (2, .int p1), (3, .int p2), (4, .int p3)] := hl
  have hf_77 := hts (.fieldLink RX5 77 "MajorityIndexModel" "thrown" "I") (List.mem_of_getElem? (i := 1) rfl)
  have hi_5 : ∀ w ∈ u_ws RX5 TX5 30, w ∈ wsX5_would := fun w h => List.mem_cons_of_mem _ (List.mem_append_right _ h)
  have hf_7 := hts (.fieldLink RX5 7 "MajorityIndexModel" "row" "[I") (List.mem_of_getElem? (i := 3) rfl)
  have hk_148 := hts (.constant RX5 148 (-40000)) (List.mem_of_getElem? (i := 2) rfl)
  refine lv_aload_n hx hb dX5_would_0 rfl (lv_at hl 0 rfl) ?_
  refine lv_iconst (v := 0) hx hb dX5_would_1 (by decide) ?_
  refine va_put (D := (dC, dI)) (ci := 5) (v := .int 0) (ty := .int) (C := RX5) (T := TX5) (N := 30) hx hb hts hi_5 tyX5 tyX5_ok nmX5 hown hK hP hD hS 0 rfl rfl 3 (by decide) hf_77 (fun _ h9 => h9) rfl (by decide +kernel) rfl rfl (Nat.le_of_ble_eq_true rfl) dX5_would_2 (fun H locs hP hD hS => ?_)
  obtain ⟨hP, hD⟩ := kx_re (w2 := [kx_5 h0 g_row m_n m_slots 0 g_many g_loss g_less g_voteValue g_voteNumber g_allValue g_allNumber m_allMany g_nodeL g_nodeR m_nodes g_part m_partMany g_wasMany g_wasLoss g_wasValue g_wasNumber g_path m_pathMany g_heavyValue g_heavyTimes m_heavyMany g_fewest g_which g_met m_mostMet, kx_a g_row cyI 160 f]) hP hD rfl
  refine lv_aload_n hx hb dX5_would_5 rfl (lv_at hl 0 rfl) ?_
  refine lv_iload_n hx hb dX5_would_6 rfl (lv_at hl 1 rfl) ?_
  have hPc := hP.sub (ws' := [kx_5 h0 g_row m_n m_slots 0 g_many g_loss g_less g_voteValue g_voteNumber g_allValue g_allNumber m_allMany g_nodeL g_nodeR m_nodes g_part m_partMany g_wasMany g_wasLoss g_wasValue g_wasNumber g_path m_pathMany g_heavyValue g_heavyTimes m_heavyMany g_fewest g_which g_met m_mostMet]) [0] rfl
  have hKc := hK.sub (tys' := []) [] rfl
  refine vp_callSi (W.runV (As := [.int p0]) (rest := []) ⟨hx, hb, hml, hown, hts⟩ (c_X5_isPlace l dC dI h0 g_row g_many g_loss g_less g_voteValue g_voteNumber g_allValue g_allNumber g_nodeL g_nodeR g_part g_wasMany g_wasLoss g_wasValue g_wasNumber g_path g_heavyValue g_heavyTimes g_fewest g_which g_met m_n m_slots 0 m_allMany m_nodes m_partMany m_pathMany m_heavyMany m_mostMet p0 a0 a1) (cwV 1 hts gX5_would_X5_isPlace rfl rfl rfl (by decide +kernel) ⟨Nat.le_of_ble_eq_true rfl, Nat.le_of_ble_eq_true rfl⟩) ⟨fun a U g mk q => by obtain ⟨q0, qP, qK⟩ := q; exact ⟨q0, qP, va_K.moved (u := U) (U := U.calling g mk a) (Vm.Alike.refl U.vm) qK⟩, kx_rc5 hKc hPc (q0 := 0) rfl, fun U hU hW => ⟨rfl, by rw [hU]; exact hPc, va_K.moved hW.alike hKc⟩⟩ rfl rfl hl.1 rfl (lv_room (Nat.le_of_ble_eq_true rfl)) dX5_would_7 ⟨Nat.le_of_ble_eq_true rfl, Nat.le_of_ble_eq_true rfl⟩) (fun r_1 w_1 => ?_)
  rcases w_1 with ⟨rfl, w_1⟩ | ⟨rfl, w_1⟩
  · have w_1 : (0 ≤ p0.toInt ∧ p0.toInt < m_n.toInt) := w_1
    refine lv_if_eq (tgt := 30) hx hb dX5_would_10 (by decide) (fun c_2 => ?_) (fun c_2 => ?_)
    · exact absurd c_2 (by decide)
    · refine lv_iload_n hx hb dX5_would_13 rfl (lv_at hl 2 rfl) ?_
      have hPc := hP.sub (ws' := []) [] rfl
      have hKc := hK.sub (tys' := []) [] rfl
      refine vp_callSi (W.runS (As := [.int p1]) (rest := []) ⟨hx, hb, hml, hown, hts⟩ (c_X5_isValue l dC dI p1) (va_cwS 1 hts gX5_would_X5_isValue rfl rfl rfl (by decide +kernel) ⟨Nat.le_of_ble_eq_true rfl, Nat.le_of_ble_eq_true rfl⟩) ⟨fun a U g mk q => by obtain ⟨q0, qP, qK⟩ := q; exact ⟨q0, qP, va_K.moved (u := U) (U := U.calling g mk a) (Vm.Alike.refl U.vm) qK⟩, fun U hU hW => ⟨rfl, by rw [hU]; exact hPc, va_K.moved hW.alike hKc⟩⟩ rfl rfl hl.1 rfl (lv_room (Nat.le_of_ble_eq_true rfl)) dX5_would_14 ⟨Nat.le_of_ble_eq_true rfl, Nat.le_of_ble_eq_true rfl⟩) (fun r_3 w_3 => ?_)
      rcases w_3 with ⟨rfl, w_3⟩ | ⟨rfl, w_3⟩
      · have w_3 : (-32768 ≤ p1.toInt ∧ p1.toInt ≤ 32767) := w_3
        refine lv_if_eq (tgt := 30) hx hb dX5_would_17 (by decide) (fun c_4 => ?_) (fun c_4 => ?_)
        · exact absurd c_4 (by decide)
        · refine lv_aload_n hx hb dX5_would_20 rfl (lv_at hl 0 rfl) ?_
          refine lv_iload_n hx hb dX5_would_21 rfl (lv_at hl 3 rfl) ?_
          refine lv_iload hx hb dX5_would_22 (lv_at hl 4 rfl) ?_
          have hPc := hP.sub (ws' := [kx_5 h0 g_row m_n m_slots 0 g_many g_loss g_less g_voteValue g_voteNumber g_allValue g_allNumber m_allMany g_nodeL g_nodeR m_nodes g_part m_partMany g_wasMany g_wasLoss g_wasValue g_wasNumber g_path m_pathMany g_heavyValue g_heavyTimes m_heavyMany g_fewest g_which g_met m_mostMet]) [0] rfl
          have hKc := hK.sub (tys' := []) [] rfl
          refine vp_callSi (W.runV (As := [.int p2, .int p3]) (rest := []) ⟨hx, hb, hml, hown, hts⟩ (c_X5_isRange l dC dI h0 g_row g_many g_loss g_less g_voteValue g_voteNumber g_allValue g_allNumber g_nodeL g_nodeR g_part g_wasMany g_wasLoss g_wasValue g_wasNumber g_path g_heavyValue g_heavyTimes g_fewest g_which g_met m_n m_slots 0 m_allMany m_nodes m_partMany m_pathMany m_heavyMany m_mostMet p2 p3) (cwV 2 hts gX5_would_X5_isRange rfl rfl rfl (by decide +kernel) ⟨Nat.le_of_ble_eq_true rfl, Nat.le_of_ble_eq_true rfl⟩) ⟨fun a U g mk q => by obtain ⟨q0, qP, qK⟩ := q; exact ⟨q0, qP, va_K.moved (u := U) (U := U.calling g mk a) (Vm.Alike.refl U.vm) qK⟩, kx_rc5 hKc hPc (q0 := 0) rfl, fun U hU hW => ⟨rfl, by rw [hU]; exact hPc, va_K.moved hW.alike hKc⟩⟩ rfl rfl hl.1 rfl (lv_room (Nat.le_of_ble_eq_true rfl)) dX5_would_24 ⟨Nat.le_of_ble_eq_true rfl, Nat.le_of_ble_eq_true rfl⟩) (fun r_5 w_5 => ?_)
          rcases w_5 with ⟨rfl, w_5⟩ | ⟨rfl, w_5⟩
          · have w_5 : (0 ≤ p2.toInt ∧ p2.toInt < p3.toInt ∧ p3.toInt ≤ m_n.toInt) := w_5
            refine lv_if_ne (tgt := 33) hx hb dX5_would_27 (by decide) (fun c_6 => ?_) (fun c_6 => ?_)
            · refine lv_aload_n hx hb dX5_would_33 rfl (lv_at hl 0 rfl) ?_
              refine va_get (D := (dC, dI)) (ci := 5) (v := .ref g_row) (C := RX5) (T := TX5) (N := 30) hx hb hts hi_5 hown hK hP 0 rfl rfl 0 (by decide) hf_7 (fun _ h9 => h9) rfl dX5_would_34 ?_
              refine lv_iload_n hx hb dX5_would_37 rfl (lv_at hl 1 rfl) ?_
              refine va_iald hx hb hK hP 1 0 rfl rfl (ki_in (om_10 w_1.1) (om_1 a1 w_1.2)) dX5_would_38 ?_
              refine lv_topi (fun y_7 ey_7 => ?_)
              have j_7 : y_7.toInt = (f p0.toNatClampNeg).toInt := congrArg Int32.toInt ey_7
              refine lv_istore (lv' := [(5, .int y_7), (0, .ref h0), (1, .int p0), (2, .int p1), (3, .int p2), (4, .int p3)]) hx hb dX5_would_39 hl (by decide) rfl (fun ls hl => ?_)
              refine lv_aload_n hx hb dX5_would_41 rfl (lv_at hl 1 rfl) ?_
              refine va_get (D := (dC, dI)) (ci := 5) (v := .ref g_row) (C := RX5) (T := TX5) (N := 30) hx hb hts hi_5 hown hK hP 0 rfl rfl 0 (by decide) hf_7 (fun _ h9 => h9) rfl dX5_would_42 ?_
              refine lv_iload_n hx hb dX5_would_45 rfl (lv_at hl 2 rfl) ?_
              refine lv_iload_n hx hb dX5_would_46 rfl (lv_at hl 3 rfl) ?_
              refine va_iast hx hb hK hP hD hS 1 0 rfl rfl (ki_in (om_10 w_1.1) (om_1 a1 w_1.2)) dX5_would_47 (fun H locs hP hD hS => ?_)
              obtain ⟨hP, hD⟩ := kx_re (w2 := [kx_5 h0 g_row m_n m_slots 0 g_many g_loss g_less g_voteValue g_voteNumber g_allValue g_allNumber m_allMany g_nodeL g_nodeR m_nodes g_part m_partMany g_wasMany g_wasLoss g_wasValue g_wasNumber g_path m_pathMany g_heavyValue g_heavyTimes m_heavyMany g_fewest g_which g_met m_mostMet, kx_a g_row cyI 160 (upd f p0.toNatClampNeg p1)]) hP hD rfl
              refine lv_aload_n hx hb dX5_would_48 rfl (lv_at hl 1 rfl) ?_
              refine lv_iload_n hx hb dX5_would_49 rfl (lv_at hl 4 rfl) ?_
              refine lv_iload hx hb dX5_would_50 (lv_at hl 5 rfl) ?_
              have hPc := hP
              have hKc := hK
              refine vp_callSi (W.runV (As := [.int p2, .int p3]) (rest := []) ⟨hx, hb, hml, hown, hts⟩ (c_X5_majorityOf_x l dC dI h0 g_row g_many g_loss g_less g_voteValue g_voteNumber g_allValue g_allNumber g_nodeL g_nodeR g_part g_wasMany g_wasLoss g_wasValue g_wasNumber g_path g_heavyValue g_heavyTimes g_fewest g_which g_met m_n m_slots 0 m_allMany m_nodes m_partMany m_pathMany m_heavyMany m_mostMet cyI (upd f p0.toNatClampNeg p1) p2 p3 (om_10 w_5.1) (om_167 a1 w_5.2.2) (om_11 w_5.2.1)) (cwV 2 hts gX5_would_X5_majorityOf rfl rfl rfl (by decide +kernel) ⟨Nat.le_of_ble_eq_true rfl, Nat.le_of_ble_eq_true rfl⟩) ⟨fun a U g mk q => by obtain ⟨q0, qP, qK⟩ := q; exact ⟨q0, qP, va_K.moved (u := U) (U := U.calling g mk a) (Vm.Alike.refl U.vm) qK⟩, kx_rc5 hKc hPc (q0 := 0) rfl, fun U hU hW => ⟨rfl, by rw [hU]; exact hPc, va_K.moved hW.alike hKc⟩⟩ rfl rfl hl.1 rfl (lv_room (Nat.le_of_ble_eq_true rfl)) dX5_would_52 ⟨Nat.le_of_ble_eq_true rfl, Nat.le_of_ble_eq_true rfl⟩) (fun r_8 w_8 => ?_)
              have w_8 : mj_maj (upd f p0.toNatClampNeg p1) p2.toNatClampNeg p3.toNatClampNeg r_8 := w_8
              refine lv_istore (lv' := [(6, .int r_8), (5, .int y_7), (0, .ref h0), (1, .int p0), (2, .int p1), (3, .int p2), (4, .int p3)]) hx hb dX5_would_55 hl (by decide) rfl (fun ls hl => ?_)
              refine lv_aload_n hx hb dX5_would_57 rfl (lv_at hl 2 rfl) ?_
              refine va_get (D := (dC, dI)) (ci := 5) (v := .ref g_row) (C := RX5) (T := TX5) (N := 30) hx hb hts hi_5 hown hK hP 0 rfl rfl 0 (by decide) hf_7 (fun _ h9 => h9) rfl dX5_would_58 ?_
              refine lv_iload_n hx hb dX5_would_61 rfl (lv_at hl 3 rfl) ?_
              refine lv_iload hx hb dX5_would_62 (lv_at hl 1 rfl) ?_
              refine va_iast hx hb hK hP hD hS 1 0 rfl rfl (ki_in (om_10 w_1.1) (om_1 a1 w_1.2)) dX5_would_64 (fun H locs hP hD hS => ?_)
              obtain ⟨hP, hD⟩ := kx_re (w2 := [kx_5 h0 g_row m_n m_slots 0 g_many g_loss g_less g_voteValue g_voteNumber g_allValue g_allNumber m_allMany g_nodeL g_nodeR m_nodes g_part m_partMany g_wasMany g_wasLoss g_wasValue g_wasNumber g_path m_pathMany g_heavyValue g_heavyTimes m_heavyMany g_fewest g_which g_met m_mostMet, kx_a g_row cyI 160 (upd (upd f p0.toNatClampNeg p1) p0.toNatClampNeg y_7)]) hP hD rfl
              refine lv_iload hx hb dX5_would_65 (lv_at hl 0 rfl) ?_
              have hP9 := hP
              have hD9 := hD
              have hK9 := hK
              exact W.iret (v := r_8) hx hb hr (hlocks := hlocks) (fun t ht hW => ⟨⟨r_8, ((upd (upd f p0.toNatClampNeg p1) p0.toNatClampNeg y_7)), rfl, ⟨Or.inl ⟨(by (try dsimp only); omega), w_8⟩, (by (try dsimp only); rw [ey_7]; exact upd_back _ _ _)⟩, by rw [ht]; exact hP9, va_K.moved hW.alike hK9, hD9⟩, hS.F ht⟩) hS.2.2 dX5_would_67
            · exact absurd c_6 (by decide)
          · have w_5 : (p2.toInt < 0 ∨ p3.toInt ≤ p2.toInt ∨ m_n.toInt < p3.toInt) := w_5
            refine lv_if_ne (tgt := 33) hx hb dX5_would_27 (by decide) (fun c_9 => ?_) (fun c_9 => ?_)
            · exact absurd c_9 (by decide)
            · refine lv_ldc (v := (-40000)) hx hb hown hk_148 dX5_would_30 ?_
              have hP9 := hP
              have hD9 := hD
              have hK9 := hK
              exact W.iret (v := (-40000)) hx hb hr (hlocks := hlocks) (fun t ht hW => ⟨⟨(-40000), (f), rfl, ⟨Or.inr ⟨(by (try dsimp only); omega), rfl⟩, rfl⟩, by rw [ht]; exact hP9, va_K.moved hW.alike hK9, hD9⟩, hS.F ht⟩) hS.2.2 dX5_would_32
      · have w_3 : (p1.toInt < -32768 ∨ 32767 < p1.toInt) := w_3
        refine lv_if_eq (tgt := 30) hx hb dX5_would_17 (by decide) (fun c_10 => ?_) (fun c_10 => ?_)
        · refine lv_ldc (v := (-40000)) hx hb hown hk_148 dX5_would_30 ?_
          have hP9 := hP
          have hD9 := hD
          have hK9 := hK
          exact W.iret (v := (-40000)) hx hb hr (hlocks := hlocks) (fun t ht hW => ⟨⟨(-40000), (f), rfl, ⟨Or.inr ⟨(by (try dsimp only); omega), rfl⟩, rfl⟩, by rw [ht]; exact hP9, va_K.moved hW.alike hK9, hD9⟩, hS.F ht⟩) hS.2.2 dX5_would_32
        · exact absurd c_10 (by decide)
  · have w_1 : (p0.toInt < 0 ∨ m_n.toInt ≤ p0.toInt) := w_1
    refine lv_if_eq (tgt := 30) hx hb dX5_would_10 (by decide) (fun c_11 => ?_) (fun c_11 => ?_)
    · refine lv_ldc (v := (-40000)) hx hb hown hk_148 dX5_would_30 ?_
      have hP9 := hP
      have hD9 := hD
      have hK9 := hK
      exact W.iret (v := (-40000)) hx hb hr (hlocks := hlocks) (fun t ht hW => ⟨⟨(-40000), (f), rfl, ⟨Or.inr ⟨(by (try dsimp only); omega), rfl⟩, rfl⟩, by rw [ht]; exact hP9, va_K.moved hW.alike hK9, hD9⟩, hS.F ht⟩) hS.2.2 dX5_would_32
    · exact absurd c_11 (by decide)


