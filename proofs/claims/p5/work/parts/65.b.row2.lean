set_option maxHeartbeats 4000000 in
set_option maxRecDepth 100000 in
theorem c_X0_leader (l : Launch) (dC : Nat → ClassId) (dI : Nat → Nat → Nat) (h0 : Nat) (h1 : Nat) (cyI : ClassId) (len : Int32) (f : Nat → Int32) (p0 : Int32) (p1 : Int32) (b0 : 0 ≤ p0.toInt) (b1 : p1.toInt ≤ 160) : Met l yX0_leader wsX0_leader ({ frames := 1, cells := 0, slots := 0, locals := 45 }) (va_Pc [.ref h0, .int p0, .int p1] (fun U => va_P (dC, dI) vwCl [kx_0 h0 h1 len, kx_a h1 cyI 160 f] U.heap ∧ va_K (dC, dI) vwCl [(cyI, .int)] U ∧ va_Nw (.methodLinkNest RX0 28 yX4_isHeavy RX4) U)) (vp_Si (fun r : Int32 => True)) 0 0 (fun _ => False) := by
  refine Met.ofW (cc := cX0_leader) (maxL := 6) (ret := (some .int)) (by decide) rfl ?_
  intro p e s m args below meth c s₁ B hml hv
  obtain ⟨rfl, hP, hK, hN0⟩ := hv
  have hx := B.exec
  have hb := B.bytes
  have hr := B.returns
  have hts := atoms_spec (ws := wsX0_leader) B.pre
  have hown : s.vm.findClass RX0 = some m.cls := findClass_of_methodNamed B.named
  have hlocks := B.notSynchronized
  have hP : va_P (dC, dI) vwCl [kx_0 h0 h1 len, kx_a h1 cyI 160 f] s.heap := hP
  have hl := lv_entry ([.ref h0, .int p0, .int p1]) (n := 6) (Nat.le_of_ble_eq_true rfl)
  rw [lg_entry_eq]
  generalize (lg_sl ([.ref h0, .int p0, .int p1]) ++ List.replicate (6 - (lg_sl ([.ref h0, .int p0, .int p1])).length) Slot.unset).toArray = ls at hl ⊢
  have hl : lv_has ls 6 [(0, .ref h0), (1, .int p0), (2, .int p1)] := hl
  have hk_23 := hts (.constant RX0 23 (-40000)) (List.mem_of_getElem? (i := 1) rfl)
  have hz_RX4 := hts (.initialized RX4) (List.mem_of_getElem? (i := 9) rfl)
  have ht_X4_isHeavy := hts (.static yX4_isHeavy) (List.mem_of_getElem? (i := 8) rfl)
  have hf_9 := hts (.fieldLink RX0 9 "MajorityIndex$Row" "cell" "[I") (List.mem_of_getElem? (i := 2) rfl)
  have hi_0 : ∀ w ∈ u_ws RX0 TX0 2, w ∈ wsX0_leader := fun w h => List.mem_cons_of_mem _ (List.mem_append_right _ h)
  refine lv_ldc (v := (-40000)) hx hb hown hk_23 dX0_leader_0 ?_
  refine lv_istore_n (lv' := [(3, .int (-40000)), (0, .ref h0), (1, .int p0), (2, .int p1)]) hx hb dX0_leader_2 rfl hl (by decide) rfl (fun ls hl => ?_)
  refine lv_iconst (v := 0) hx hb dX0_leader_3 (by decide) ?_
  refine lv_istore (lv' := [(4, .int 0), (3, .int (-40000)), (0, .ref h0), (1, .int p0), (2, .int p1)]) hx hb dX0_leader_4 hl (by decide) rfl (fun ls hl => ?_)
  refine lv_iload_n hx hb dX0_leader_6 rfl (lv_at hl 3 rfl) ?_
  refine lv_istore (lv' := [(5, .int p0), (4, .int 0), (3, .int (-40000)), (0, .ref h0), (1, .int p0), (2, .int p1)]) hx hb dX0_leader_7 hl (by decide) rfl (fun ls hl => ?_)
  have LP1 : ∀ (n : Nat) (i : Int32) (left : Int32) (lead : Int32), (p0.toInt ≤ i.toInt) → (p1.toInt - i.toInt).toNat < n → ∀ (ls : Array Slot), lv_has ls 6 [(5, .int i), (4, .int lead), (3, .int left), (0, .ref h0), (1, .int p0), (2, .int p1)] → W p l e (headSpec wsX0_leader ({ frames := 1, cells := 0, slots := 0, locals := 45 })).room s m ([.ref h0, .int p0, .int p1] : List Value).toArray below meth c s.heap [] 0 0 (MQ below (vp_Si (fun r : Int32 => True)) ([.ref h0, .int p0, .int p1] : List Value).toArray s 0 0 (fun _ => False)) (F0 m 9 ls []) := by
    intro n
    induction n with
    | zero => intro i left lead LP1_h0 hn; exact absurd hn (Nat.not_lt_zero _)
    | succ n ih1 =>
      intro i left lead LP1_h0 hn1 ls hl
      refine lv_iload hx hb dX0_leader_9 (lv_at hl 0 rfl) ?_
      refine lv_iload_n hx hb dX0_leader_11 rfl (lv_at hl 5 rfl) ?_
      refine lv_icmp_ge (tgt := 61) hx hb dX0_leader_12 (by decide) (fun c_1 => ?_) (fun c_1 => ?_)
      · have i_1 : p1.toInt ≤ i.toInt := kc_le c_1
        refine lv_aload_n hx hb dX0_leader_61 rfl (lv_at hl 3 rfl) ?_
        refine lv_iload_n hx hb dX0_leader_62 rfl (lv_at hl 2 rfl) ?_
        refine lv_iload_n hx hb dX0_leader_63 rfl (lv_at hl 4 rfl) ?_
        refine lv_iload_n hx hb dX0_leader_64 rfl (lv_at hl 5 rfl) ?_
        have hPc := hP
        have hKc := hK
        refine vp_callSi (W.runV (As := [.int left, .int p0, .int p1]) (rest := []) ⟨hx, hb, hml, hown, hts⟩ (c_X0_oftenIn l dC dI h0 h1 cyI len f left p0 p1 b0 b1) (cwV 3 hts gX0_leader_X0_oftenIn rfl rfl rfl (by decide +kernel) ⟨Nat.le_of_ble_eq_true rfl, Nat.le_of_ble_eq_true rfl⟩) ⟨fun a U g mk q => by obtain ⟨q0, qP, qK⟩ := q; exact ⟨q0, qP, va_K.moved (u := U) (U := U.calling g mk a) (Vm.Alike.refl U.vm) qK⟩, va_recv hKc hPc (ci := 0) (q0 := 0) rfl rfl, fun U hU hW => ⟨rfl, by rw [hU]; exact hPc, va_K.moved hW.alike hKc⟩⟩ rfl rfl hl.1 rfl (lv_room (Nat.le_of_ble_eq_true rfl)) dX0_leader_65 ⟨Nat.le_of_ble_eq_true rfl, Nat.le_of_ble_eq_true rfl⟩) (fun r_2 w_2 => ?_)
        have w_2 : r_2.toInt = (cnt f left p0.toNatClampNeg (p1.toInt - p0.toInt).toNat : Int) := w_2
        refine lv_iload_n hx hb dX0_leader_68 rfl (lv_at hl 5 rfl) ?_
        refine lv_iload_n hx hb dX0_leader_69 rfl (lv_at hl 4 rfl) ?_
        refine lv_isub hx hb dX0_leader_70 ?_
        refine lv_topi (fun y_3 ey_3 => ?_)
        refine lv_iconst (v := 1) hx hb dX0_leader_71 (by decide) ?_
        refine lv_iconst (v := 2) hx hb dX0_leader_72 (by decide) ?_
        have hPc := hP.sub (ws' := []) [] rfl
        have hKc := hK.sub (tys' := []) [] rfl
        refine vp_callSi (ki_ofRun (va_runSN (As := [.int r_2, .int y_3, .int 1, .int 2]) (rest := []) ⟨hx, hb, hml, hown, hts⟩ (c_X4_isHeavy l dC dI r_2 y_3 1 2) ⟨(va_cnB 4 hts ggX0_leader_X4_isHeavy rfl rfl rfl hN0 hz_RX4 (by decide +kernel) ⟨Nat.le_of_ble_eq_true rfl, Nat.le_of_ble_eq_true rfl⟩), ht_X4_isHeavy, trivial⟩ ⟨fun a U g mk q => by obtain ⟨q0, qP, qK⟩ := q; exact ⟨q0, qP, va_K.moved (u := U) (U := U.calling g mk a) (Vm.Alike.refl U.vm) qK⟩, fun U hU hW => ⟨rfl, by rw [hU]; exact hPc, va_K.moved hW.alike hKc⟩⟩ rfl rfl hl.1 rfl (lv_room (Nat.le_of_ble_eq_true rfl)) dX0_leader_73 ⟨Nat.le_of_ble_eq_true rfl, Nat.le_of_ble_eq_true rfl⟩)) (fun r_4 w_4 => ?_)
        rcases w_4 with ⟨rfl, w_4⟩ | ⟨rfl, w_4⟩
        · have w_4 : (0 : Int) ≤ 1 := w_4
          refine lv_if_eq (tgt := 83) hx hb dX0_leader_76 (by decide) (fun c_5 => ?_) (fun c_5 => ?_)
          · exact absurd c_5 (by decide)
          · refine lv_iload_n hx hb dX0_leader_79 rfl (lv_at hl 2 rfl) ?_
            refine lv_goto (tgt := 85) hx hb dX0_leader_80 (by decide) ?_
            exact W.iret (v := left) hx hb hr (fun t ht hW => ⟨left, rfl, trivial, ht⟩) (fun q hq => by cases hq) dX0_leader_85
        · have w_4 : (0 : Int) ≤ 1 := w_4
          refine lv_if_eq (tgt := 83) hx hb dX0_leader_76 (by decide) (fun c_6 => ?_) (fun c_6 => ?_)
          · refine lv_ldc (v := (-40000)) hx hb hown hk_23 dX0_leader_83 ?_
            exact W.iret (v := (-40000)) hx hb hr (fun t ht hW => ⟨(-40000), rfl, trivial, ht⟩) (fun q hq => by cases hq) dX0_leader_85
          · exact absurd c_6 (by decide)
      · have i_1 : i.toInt < p1.toInt := kc_nle c_1
        refine lv_iload hx hb dX0_leader_15 (lv_at hl 1 rfl) ?_
        refine lv_if_ne (tgt := 34) hx hb dX0_leader_17 (by decide) (fun c_7 => ?_) (fun c_7 => ?_)
        · have i_7 : ¬ lead.toInt = 0 := kc_ne c_7
          refine lv_iload hx hb dX0_leader_34 (lv_at hl 1 rfl) ?_
          refine lv_aload_n hx hb dX0_leader_36 rfl (lv_at hl 3 rfl) ?_
          refine va_get (D := (dC, dI)) (ci := 0) (v := .ref h1) (C := RX0) (T := TX0) (N := 2) hx hb hts hi_0 hown hK hP 0 rfl rfl 0 (by decide) hf_9 (fun _ h9 => h9) rfl dX0_leader_37 ?_
          refine lv_iload hx hb dX0_leader_40 (lv_at hl 0 rfl) ?_
          refine va_iald hx hb hK hP 1 0 rfl rfl (ki_in (om_0 b0 LP1_h0) (om_1 b1 i_1)) dX0_leader_42 ?_
          refine lv_topi (fun y_8 ey_8 => ?_)
          have j_8 : y_8.toInt = (f i.toNatClampNeg).toInt := congrArg Int32.toInt ey_8
          refine lv_iload_n hx hb dX0_leader_43 rfl (lv_at hl 2 rfl) ?_
          refine lv_icmp_ne (tgt := 51) hx hb dX0_leader_44 (by decide) (fun c_9 => ?_) (fun c_9 => ?_)
          · have i_9 : ¬ y_8.toInt = left.toInt := kc_ne c_9
            refine lv_iconst (v := (-1)) hx hb dX0_leader_51 (by decide) ?_
            refine lv_iadd hx hb dX0_leader_52 ?_
            refine lv_topi (fun y_10 ey_10 => ?_)
            refine lv_istore (lv' := [(4, .int y_10), (5, .int i), (3, .int left), (0, .ref h0), (1, .int p0), (2, .int p1)]) hx hb dX0_leader_53 hl (by decide) rfl (fun ls hl => ?_)
            obtain ⟨x_11, ex_11⟩ : ∃ y : Int32, y = i + 1 := ⟨_, rfl⟩
            have i_11 : x_11.toInt = i.toInt + 1 := ki_add ex_11 rfl rfl (om_2 b0 LP1_h0) (om_3 b1 i_1)
            refine lv_iinc (v := x_11) (lv' := [(5, .int x_11), (4, .int y_10), (3, .int left), (0, .ref h0), (1, .int p0), (2, .int p1)]) hx hb dX0_leader_55 hl (k := 1) rfl (by rw [ex_11]; rfl) (by decide) rfl (fun ls hl => ?_)
            refine lv_goto (tgt := 9) hx hb dX0_leader_58 (by decide) ?_
            exact ih1 x_11 left y_10 (om_4 LP1_h0 i_11) (om_mu hn1 (om_5 i_11) (om_6 i_1)) ls (lv_sub hl [0, 1, 2, 3, 4, 5] rfl)
          · have i_9 : y_8.toInt = left.toInt := kc_eq c_9
            refine lv_iconst (v := 1) hx hb dX0_leader_47 (by decide) ?_
            refine lv_goto (tgt := 52) hx hb dX0_leader_48 (by decide) ?_
            refine lv_iadd hx hb dX0_leader_52 ?_
            refine lv_topi (fun y_12 ey_12 => ?_)
            refine lv_istore (lv' := [(4, .int y_12), (5, .int i), (3, .int left), (0, .ref h0), (1, .int p0), (2, .int p1)]) hx hb dX0_leader_53 hl (by decide) rfl (fun ls hl => ?_)
            obtain ⟨x_13, ex_13⟩ : ∃ y : Int32, y = i + 1 := ⟨_, rfl⟩
            have i_13 : x_13.toInt = i.toInt + 1 := ki_add ex_13 rfl rfl (om_2 b0 LP1_h0) (om_3 b1 i_1)
            refine lv_iinc (v := x_13) (lv' := [(5, .int x_13), (4, .int y_12), (3, .int left), (0, .ref h0), (1, .int p0), (2, .int p1)]) hx hb dX0_leader_55 hl (k := 1) rfl (by rw [ex_13]; rfl) (by decide) rfl (fun ls hl => ?_)
            refine lv_goto (tgt := 9) hx hb dX0_leader_58 (by decide) ?_
            exact ih1 x_13 left y_12 (om_4 LP1_h0 i_13) (om_mu hn1 (om_5 i_13) (om_6 i_1)) ls (lv_sub hl [0, 1, 2, 3, 4, 5] rfl)
        · have i_7 : lead.toInt = 0 := kc_eq c_7
          refine lv_aload_n hx hb dX0_leader_20 rfl (lv_at hl 3 rfl) ?_
          refine va_get (D := (dC, dI)) (ci := 0) (v := .ref h1) (C := RX0) (T := TX0) (N := 2) hx hb hts hi_0 hown hK hP 0 rfl rfl 0 (by decide) hf_9 (fun _ h9 => h9) rfl dX0_leader_21 ?_
          refine lv_iload hx hb dX0_leader_24 (lv_at hl 0 rfl) ?_
          refine va_iald hx hb hK hP 1 0 rfl rfl (ki_in (om_0 b0 LP1_h0) (om_1 b1 i_1)) dX0_leader_26 ?_
          refine lv_topi (fun y_14 ey_14 => ?_)
          have j_14 : y_14.toInt = (f i.toNatClampNeg).toInt := congrArg Int32.toInt ey_14
          refine lv_istore_n (lv' := [(3, .int y_14), (5, .int i), (4, .int lead), (0, .ref h0), (1, .int p0), (2, .int p1)]) hx hb dX0_leader_27 rfl hl (by decide) rfl (fun ls hl => ?_)
          refine lv_iconst (v := 1) hx hb dX0_leader_28 (by decide) ?_
          refine lv_istore (lv' := [(4, .int 1), (3, .int y_14), (5, .int i), (0, .ref h0), (1, .int p0), (2, .int p1)]) hx hb dX0_leader_29 hl (by decide) rfl (fun ls hl => ?_)
          refine lv_goto (tgt := 55) hx hb dX0_leader_31 (by decide) ?_
          obtain ⟨x_15, ex_15⟩ : ∃ y : Int32, y = i + 1 := ⟨_, rfl⟩
          have i_15 : x_15.toInt = i.toInt + 1 := ki_add ex_15 rfl rfl (om_2 b0 LP1_h0) (om_3 b1 i_1)
          refine lv_iinc (v := x_15) (lv' := [(5, .int x_15), (4, .int 1), (3, .int y_14), (0, .ref h0), (1, .int p0), (2, .int p1)]) hx hb dX0_leader_55 hl (k := 2) rfl (by rw [ex_15]; rfl) (by decide) rfl (fun ls hl => ?_)
          refine lv_goto (tgt := 9) hx hb dX0_leader_58 (by decide) ?_
          have k_16 : (1 : Int32).toInt = 1 := rfl
          exact ih1 x_15 y_14 1 (om_4 LP1_h0 i_15) (om_mu hn1 (om_5 i_15) (om_6 i_1)) ls (lv_sub hl [0, 1, 2, 3, 4, 5] rfl)
  have k_17 : ((-40000) : Int32).toInt = -40000 := rfl
  have k_18 : (0 : Int32).toInt = 0 := rfl
  exact LP1 ((p1.toInt - p0.toInt : Int).toNat + 1) p0 (-40000) 0 om_7 (Nat.lt_succ_self _) ls (lv_sub hl [0, 1, 2, 3, 4, 5] rfl)

set_option maxHeartbeats 4000000 in
set_option maxRecDepth 100000 in
theorem c_X0_firstLike (l : Launch) (dC : Nat → ClassId) (dI : Nat → Nat → Nat) (h0 : Nat) (h1 : Nat) (cyI : ClassId) (len : Int32) (f : Nat → Int32) (p0 : Int32) (b0 : 0 ≤ p0.toInt) (b1 : p0.toInt < 160) : Met l yX0_firstLike wsX0_firstLike ({ frames := 0, cells := 0, slots := 0, locals := 0 }) (va_Pc [.ref h0, .int p0] (fun U => va_P (dC, dI) vwCl [kx_0 h0 h1 len, kx_a h1 cyI 160 f] U.heap ∧ va_K (dC, dI) vwCl [(cyI, .int)] U)) (vp_Si (fun r : Int32 => 0 ≤ r.toInt ∧ r.toInt ≤ p0.toInt)) 0 0 (fun _ => False) := by
  refine Met.ofW (cc := cX0_firstLike) (maxL := 3) (ret := (some .int)) (by decide) rfl ?_
  intro p e s m args below meth c s₁ B hml hv
  obtain ⟨rfl, hP, hK⟩ := hv
  have hx := B.exec
  have hb := B.bytes
  have hr := B.returns
  have hts := atoms_spec (ws := wsX0_firstLike) B.pre
  have hown : s.vm.findClass RX0 = some m.cls := findClass_of_methodNamed B.named
  have hlocks := B.notSynchronized
  have hP : va_P (dC, dI) vwCl [kx_0 h0 h1 len, kx_a h1 cyI 160 f] s.heap := hP
  have hl := lv_entry ([.ref h0, .int p0]) (n := 3) (Nat.le_of_ble_eq_true rfl)
  rw [lg_entry_eq]
  generalize (lg_sl ([.ref h0, .int p0]) ++ List.replicate (3 - (lg_sl ([.ref h0, .int p0])).length) Slot.unset).toArray = ls at hl ⊢
  have hl : lv_has ls 3 [(0, .ref h0), (1, .int p0)] := hl
  have hf_9 := hts (.fieldLink RX0 9 "MajorityIndex$Row" "cell" "[I") (List.mem_of_getElem? (i := 1) rfl)
  have hi_0 : ∀ w ∈ u_ws RX0 TX0 2, w ∈ wsX0_firstLike := fun w h => List.mem_cons_of_mem _ (List.mem_append_right _ h)
  refine lv_iconst (v := 0) hx hb dX0_firstLike_0 (by decide) ?_
  refine lv_istore_n (lv' := [(2, .int 0), (0, .ref h0), (1, .int p0)]) hx hb dX0_firstLike_1 rfl hl (by decide) rfl (fun ls hl => ?_)
  have LP1 : ∀ (n : Nat) (i : Int32), (0 ≤ i.toInt) → (p0.toInt - i.toInt).toNat < n → ∀ (ls : Array Slot), lv_has ls 3 [(2, .int i), (0, .ref h0), (1, .int p0)] → W p l e (headSpec wsX0_firstLike ({ frames := 0, cells := 0, slots := 0, locals := 0 })).room s m ([.ref h0, .int p0] : List Value).toArray below meth c s.heap [] 0 0 (MQ below (vp_Si (fun r : Int32 => 0 ≤ r.toInt ∧ r.toInt ≤ p0.toInt)) ([.ref h0, .int p0] : List Value).toArray s 0 0 (fun _ => False)) (F0 m 2 ls []) := by
    intro n
    induction n with
    | zero => intro i LP1_h0 hn; exact absurd hn (Nat.not_lt_zero _)
    | succ n ih1 =>
      intro i LP1_h0 hn1 ls hl
      refine lv_iload_n hx hb dX0_firstLike_2 rfl (lv_at hl 0 rfl) ?_
      refine lv_iload_n hx hb dX0_firstLike_3 rfl (lv_at hl 2 rfl) ?_
      refine lv_icmp_ge (tgt := 30) hx hb dX0_firstLike_4 (by decide) (fun c_1 => ?_) (fun c_1 => ?_)
      · have i_1 : p0.toInt ≤ i.toInt := kc_le c_1
        refine lv_iload_n hx hb dX0_firstLike_30 rfl (lv_at hl 2 rfl) ?_
        exact W.iret (v := p0) hx hb hr (fun t ht hW => ⟨p0, rfl, (by (try dsimp only); omega), ht⟩) (fun q hq => by cases hq) dX0_firstLike_31
      · have i_1 : i.toInt < p0.toInt := kc_nle c_1
        refine lv_aload_n hx hb dX0_firstLike_7 rfl (lv_at hl 1 rfl) ?_
        refine va_get (D := (dC, dI)) (ci := 0) (v := .ref h1) (C := RX0) (T := TX0) (N := 2) hx hb hts hi_0 hown hK hP 0 rfl rfl 0 (by decide) hf_9 (fun _ h9 => h9) rfl dX0_firstLike_8 ?_
        refine lv_iload_n hx hb dX0_firstLike_11 rfl (lv_at hl 0 rfl) ?_
        refine va_iald hx hb hK hP 1 0 rfl rfl (ki_in (om_8 LP1_h0) (om_65 b1 i_1)) dX0_firstLike_12 ?_
        refine lv_topi (fun y_2 ey_2 => ?_)
        have j_2 : y_2.toInt = (f i.toNatClampNeg).toInt := congrArg Int32.toInt ey_2
        refine lv_aload_n hx hb dX0_firstLike_13 rfl (lv_at hl 1 rfl) ?_
        refine va_get (D := (dC, dI)) (ci := 0) (v := .ref h1) (C := RX0) (T := TX0) (N := 2) hx hb hts hi_0 hown hK hP 0 rfl rfl 0 (by decide) hf_9 (fun _ h9 => h9) rfl dX0_firstLike_14 ?_
        refine lv_iload_n hx hb dX0_firstLike_17 rfl (lv_at hl 2 rfl) ?_
        refine va_iald hx hb hK hP 1 0 rfl rfl (ki_in (om_8 b0) (om_9 b1)) dX0_firstLike_18 ?_
        refine lv_topi (fun y_3 ey_3 => ?_)
        have j_3 : y_3.toInt = (f p0.toNatClampNeg).toInt := congrArg Int32.toInt ey_3
        refine lv_icmp_ne (tgt := 24) hx hb dX0_firstLike_19 (by decide) (fun c_4 => ?_) (fun c_4 => ?_)
        · have i_4 : ¬ y_2.toInt = y_3.toInt := kc_ne c_4
          obtain ⟨x_5, ex_5⟩ : ∃ y : Int32, y = i + 1 := ⟨_, rfl⟩
          have i_5 : x_5.toInt = i.toInt + 1 := ki_add ex_5 rfl rfl (om_10 LP1_h0) (om_66 b1 i_1)
          refine lv_iinc (v := x_5) (lv' := [(2, .int x_5), (0, .ref h0), (1, .int p0)]) hx hb dX0_firstLike_24 hl (k := 0) rfl (by rw [ex_5]; rfl) (by decide) rfl (fun ls hl => ?_)
          refine lv_goto (tgt := 2) hx hb dX0_firstLike_27 (by decide) ?_
          exact ih1 x_5 (om_31 LP1_h0 i_5) (om_mu hn1 (om_5 i_5) (om_6 i_1)) ls (lv_sub hl [0, 1, 2] rfl)
        · have i_4 : y_2.toInt = y_3.toInt := kc_eq c_4
          refine lv_iload_n hx hb dX0_firstLike_22 rfl (lv_at hl 0 rfl) ?_
          exact W.iret (v := i) hx hb hr (fun t ht hW => ⟨i, rfl, (by (try dsimp only); omega), ht⟩) (fun q hq => by cases hq) dX0_firstLike_23
  have k_6 : (0 : Int32).toInt = 0 := rfl
  exact LP1 ((p0.toInt - 0 : Int).toNat + 1) 0 om_32 (Nat.lt_succ_self _) ls (lv_sub hl [0, 1, 2] rfl)

set_option maxHeartbeats 4000000 in
set_option maxRecDepth 100000 in
theorem c_X0_takeOut (l : Launch) (dC : Nat → ClassId) (dI : Nat → Nat → Nat) (h0 : Nat) (h1 : Nat) (cyI : ClassId) (len : Int32) (f : Nat → Int32) (p0 : Int32) (sz : Nat) (a0 : 0 ≤ p0.toInt) (a1 : p0.toInt < len.toInt) (a2 : len.toInt ≤ 160) : Met l yX0_takeOut wsX0_takeOut ({ frames := 1, cells := 0, slots := 0, locals := 45 }) (va_Pc [.ref h0, .int p0] (fun U => U.heap.size = sz ∧ va_P (dC, dI) vwCl [kx_0 h0 h1 len, kx_a h1 cyI 160 f] U.heap ∧ va_K (dC, dI) vwCl [(cyI, .int)] U ∧ va_D (fun _ => True) [kx_0 h0 h1 len, kx_a h1 cyI 160 f])) (va_Qi (fun (r : Int32) (u : Int32 × (Nat → Int32)) => u.1.toInt = len.toInt - 1 ∧ u.2 = shL f p0.toNatClampNeg u.1.toNatClampNeg ∧ r = f p0.toNatClampNeg) (fun (u : Int32 × (Nat → Int32)) (t : State) => va_P (dC, dI) vwCl [kx_0 h0 h1 u.1, kx_a h1 cyI 160 u.2] t.heap ∧ va_K (dC, dI) vwCl [(cyI, .int)] t ∧ va_D (va_A [kx_0 h0 h1 len, kx_a h1 cyI 160 f] sz) [kx_0 h0 h1 u.1, kx_a h1 cyI 160 u.2]) (va_A [kx_0 h0 h1 len, kx_a h1 cyI 160 f] sz)) 0 0 (va_A [kx_0 h0 h1 len, kx_a h1 cyI 160 f] sz) := by
  refine Met.ofW (cc := cX0_takeOut) (maxL := 4) (ret := (some .int)) (by decide) rfl ?_
  intro p e s m args below meth c s₁ B hml hv
  obtain ⟨rfl, hsz, hP, hK, hD0⟩ := hv
  have hx := B.exec
  have hb := B.bytes
  have hr := B.returns
  have hts := atoms_spec (ws := wsX0_takeOut) B.pre
  have hown : s.vm.findClass RX0 = some m.cls := findClass_of_methodNamed B.named
  have hlocks := B.notSynchronized
  subst hsz
  have hD := hD0.self (sz := s.heap.size)
  generalize hAe : va_A [kx_0 h0 h1 len, kx_a h1 cyI 160 f] s.heap.size = A at hD ⊢
  have hA : ∀ q : Nat, s.heap.size ≤ q → A q := fun q h => by rw [← hAe]; exact Or.inr h
  have hS : va_S A s.heap s.heap [] := va_S.rf
  have hP : va_P (dC, dI) vwCl [kx_0 h0 h1 len, kx_a h1 cyI 160 f] s.heap := hP
  have hl := lv_entry ([.ref h0, .int p0]) (n := 4) (Nat.le_of_ble_eq_true rfl)
  rw [lg_entry_eq]
  generalize (lg_sl ([.ref h0, .int p0]) ++ List.replicate (4 - (lg_sl ([.ref h0, .int p0])).length) Slot.unset).toArray = ls at hl ⊢
  have hl : lv_has ls 4 [(0, .ref h0), (1, .int p0)] := hl
  have hf_9 := hts (.fieldLink RX0 9 "MajorityIndex$Row" "cell" "[I") (List.mem_of_getElem? (i := 2) rfl)
  have hi_0 : ∀ w ∈ u_ws RX0 TX0 2, w ∈ wsX0_takeOut := fun w h => List.mem_cons_of_mem _ (List.mem_append_right _ h)
  have hf_15 := hts (.fieldLink RX0 15 "MajorityIndex$Row" "length" "I") (List.mem_of_getElem? (i := 3) rfl)
  refine lv_aload_n hx hb dX0_takeOut_0 rfl (lv_at hl 0 rfl) ?_
  refine lv_iload_n hx hb dX0_takeOut_1 rfl (lv_at hl 1 rfl) ?_
  have hPc := hP.sub (ws' := [kx_0 h0 h1 len]) [0] rfl
  have hKc := hK.sub (tys' := []) [] rfl
  refine vp_callSi (W.runV (As := [.int p0]) (rest := []) ⟨hx, hb, hml, hown, hts⟩ (c_X0_hasPlace l dC dI h0 h1 len p0) (cwV 1 hts gX0_takeOut_X0_hasPlace rfl rfl rfl (by decide +kernel) ⟨Nat.le_of_ble_eq_true rfl, Nat.le_of_ble_eq_true rfl⟩) ⟨fun a U g mk q => by obtain ⟨q0, qP, qK⟩ := q; exact ⟨q0, qP, va_K.moved (u := U) (U := U.calling g mk a) (Vm.Alike.refl U.vm) qK⟩, va_recv hKc hPc (ci := 0) (q0 := 0) rfl rfl, fun U hU hW => ⟨rfl, by rw [hU]; exact hPc, va_K.moved hW.alike hKc⟩⟩ rfl rfl hl.1 rfl (lv_room (Nat.le_of_ble_eq_true rfl)) dX0_takeOut_2 ⟨Nat.le_of_ble_eq_true rfl, Nat.le_of_ble_eq_true rfl⟩) (fun r_1 w_1 => ?_)
  rcases w_1 with ⟨rfl, w_1⟩ | ⟨rfl, w_1⟩
  · have w_1 : (0 ≤ p0.toInt ∧ p0.toInt < len.toInt) := w_1
    refine lv_if_ne (tgt := 11) hx hb dX0_takeOut_5 (by decide) (fun c_2 => ?_) (fun c_2 => ?_)
    · refine lv_aload_n hx hb dX0_takeOut_11 rfl (lv_at hl 0 rfl) ?_
      refine va_get (D := (dC, dI)) (ci := 0) (v := .ref h1) (C := RX0) (T := TX0) (N := 2) hx hb hts hi_0 hown hK hP 0 rfl rfl 0 (by decide) hf_9 (fun _ h9 => h9) rfl dX0_takeOut_12 ?_
      refine lv_iload_n hx hb dX0_takeOut_15 rfl (lv_at hl 1 rfl) ?_
      refine va_iald hx hb hK hP 1 0 rfl rfl (ki_in (om_8 a0) (om_67 a1 a2)) dX0_takeOut_16 ?_
      refine lv_topi (fun y_3 ey_3 => ?_)
      have j_3 : y_3.toInt = (f p0.toNatClampNeg).toInt := congrArg Int32.toInt ey_3
      refine lv_istore_n (lv' := [(2, .int y_3), (0, .ref h0), (1, .int p0)]) hx hb dX0_takeOut_17 rfl hl (by decide) rfl (fun ls hl => ?_)
      refine lv_iload_n hx hb dX0_takeOut_18 rfl (lv_at hl 2 rfl) ?_
      refine lv_istore_n (lv' := [(3, .int p0), (2, .int y_3), (0, .ref h0), (1, .int p0)]) hx hb dX0_takeOut_19 rfl hl (by decide) rfl (fun ls hl => ?_)
      have LP1 : ∀ (n : Nat) (i : Int32) (fc : Nat → Int32), (p0.toInt ≤ i.toInt) → (i.toInt ≤ len.toInt - 1) → (fc = shL f p0.toNatClampNeg i.toNatClampNeg) → (len.toInt - i.toInt).toNat < n → ∀ (H : Heap) (locs : List Loc), va_P (dC, dI) vwCl [kx_0 h0 h1 len, kx_a h1 cyI 160 fc] H → va_D A [kx_0 h0 h1 len, kx_a h1 cyI 160 fc] → va_S A s.heap H locs → ∀ (ls : Array Slot), lv_has ls 4 [(3, .int i), (2, .int y_3), (0, .ref h0), (1, .int p0)] → W p l e (headSpec wsX0_takeOut ({ frames := 1, cells := 0, slots := 0, locals := 45 })).room s m ([.ref h0, .int p0] : List Value).toArray below meth c H locs 0 0 (MQ below (va_Qi (fun (r : Int32) (u : Int32 × (Nat → Int32)) => u.1.toInt = len.toInt - 1 ∧ u.2 = shL f p0.toNatClampNeg u.1.toNatClampNeg ∧ r = f p0.toNatClampNeg) (fun (u : Int32 × (Nat → Int32)) (t : State) => va_P (dC, dI) vwCl [kx_0 h0 h1 u.1, kx_a h1 cyI 160 u.2] t.heap ∧ va_K (dC, dI) vwCl [(cyI, .int)] t ∧ va_D A [kx_0 h0 h1 u.1, kx_a h1 cyI 160 u.2]) A) ([.ref h0, .int p0] : List Value).toArray s 0 0 A) (F0 m 20 ls []) := by
        intro n
        induction n with
        | zero => intro i fc LP1_h0 LP1_h1 LP1_h2 hn; exact absurd hn (Nat.not_lt_zero _)
        | succ n ih1 =>
          intro i fc LP1_h0 LP1_h1 LP1_h2 hn1 H locs hP hD hS ls hl
          have n_i := ki_nat i rfl (by omega)
          have n_p := ki_nat p0 rfl (by omega)
          refine lv_iload_n hx hb dX0_takeOut_20 rfl (lv_at hl 0 rfl) ?_
          refine lv_aload_n hx hb dX0_takeOut_21 rfl (lv_at hl 2 rfl) ?_
          refine va_get (D := (dC, dI)) (ci := 0) (v := .int len) (C := RX0) (T := TX0) (N := 2) hx hb hts hi_0 hown hK hP 0 rfl rfl 1 (by decide) hf_15 (fun _ h9 => h9) rfl dX0_takeOut_22 ?_
          refine lv_iconst (v := 1) hx hb dX0_takeOut_25 (by decide) ?_
          refine lv_isub hx hb dX0_takeOut_26 ?_
          refine lv_topi (fun y_4 ey_4 => ?_)
          have i_4 : y_4.toInt = len.toInt - 1 := ki_sub ey_4 rfl rfl (om_14 a0 a1) (om_68 a2)
          refine lv_icmp_ge (tgt := 50) hx hb dX0_takeOut_27 (by decide) (fun c_5 => ?_) (fun c_5 => ?_)
          · have i_5 : y_4.toInt ≤ i.toInt := kc_le c_5
            refine lv_aload_n hx hb dX0_takeOut_50 rfl (lv_at hl 2 rfl) ?_
            refine lv_dup hx hb dX0_takeOut_51 rfl ?_
            refine va_get (D := (dC, dI)) (ci := 0) (v := .int len) (C := RX0) (T := TX0) (N := 2) hx hb hts hi_0 hown hK hP 0 rfl rfl 1 (by decide) hf_15 (fun _ h9 => h9) rfl dX0_takeOut_52 ?_
            refine lv_iconst (v := 1) hx hb dX0_takeOut_55 (by decide) ?_
            refine lv_isub hx hb dX0_takeOut_56 ?_
            refine lv_topi (fun y_6 ey_6 => ?_)
            have i_6 : y_6.toInt = len.toInt - 1 := ki_sub ey_6 rfl rfl (om_14 a0 a1) (om_68 a2)
            refine va_put (D := (dC, dI)) (ci := 0) (v := .int y_6) (ty := .int) (C := RX0) (T := TX0) (N := 2) hx hb hts hi_0 tyX0 tyX0_ok nmX0 hown hK hP hD hS 0 rfl rfl 1 (by decide) hf_15 (fun _ h9 => h9) rfl (by decide +kernel) rfl rfl (Nat.le_of_ble_eq_true rfl) dX0_takeOut_57 (fun H locs hP hD hS => ?_)
            have hP : va_P (dC, dI) vwCl [kx_0 h0 h1 y_6, kx_a h1 cyI 160 fc] H := hP
            have hD : va_D A [kx_0 h0 h1 y_6, kx_a h1 cyI 160 fc] := hD
            refine lv_iload_n hx hb dX0_takeOut_60 rfl (lv_at hl 1 rfl) ?_
            have hP9 := hP
            have hD9 := hD
            have hK9 := hK
            have n_l := ki_nat y_6 rfl (by omega)
            exact W.iret (v := y_3) hx hb hr (fun t ht hW => ⟨⟨y_3, (y_6, fc), rfl, ⟨(by (try dsimp only); omega), (by (try dsimp only); rw [LP1_h2, show i.toNatClampNeg = y_6.toNatClampNeg by omega]), ey_3⟩, by rw [ht]; exact hP9, va_K.moved hW.alike hK9, hD9⟩, hS.F ht⟩) hS.2.2 dX0_takeOut_61
          · have i_5 : i.toInt < y_4.toInt := kc_nle c_5
            refine lv_aload_n hx hb dX0_takeOut_30 rfl (lv_at hl 2 rfl) ?_
            refine va_get (D := (dC, dI)) (ci := 0) (v := .ref h1) (C := RX0) (T := TX0) (N := 2) hx hb hts hi_0 hown hK hP 0 rfl rfl 0 (by decide) hf_9 (fun _ h9 => h9) rfl dX0_takeOut_31 ?_
            refine lv_iload_n hx hb dX0_takeOut_34 rfl (lv_at hl 0 rfl) ?_
            refine lv_aload_n hx hb dX0_takeOut_35 rfl (lv_at hl 2 rfl) ?_
            refine va_get (D := (dC, dI)) (ci := 0) (v := .ref h1) (C := RX0) (T := TX0) (N := 2) hx hb hts hi_0 hown hK hP 0 rfl rfl 0 (by decide) hf_9 (fun _ h9 => h9) rfl dX0_takeOut_36 ?_
            refine lv_iload_n hx hb dX0_takeOut_39 rfl (lv_at hl 0 rfl) ?_
            refine lv_iconst (v := 1) hx hb dX0_takeOut_40 (by decide) ?_
            refine lv_iadd hx hb dX0_takeOut_41 ?_
            refine lv_topi (fun y_7 ey_7 => ?_)
            have i_7 : y_7.toInt = i.toInt + 1 := ki_add ey_7 rfl rfl (om_2 a0 LP1_h0) (om_69 a2 LP1_h1)
            refine va_iald hx hb hK hP 1 0 rfl rfl (ki_in (om_70 a0 LP1_h0 i_7) (om_71 a2 i_4 i_5 i_7)) dX0_takeOut_42 ?_
            refine lv_topi (fun y_8 ey_8 => ?_)
            have j_8 : y_8.toInt = (fc y_7.toNatClampNeg).toInt := congrArg Int32.toInt ey_8
            refine va_iast hx hb hK hP hD hS 1 0 rfl rfl (ki_in (om_0 a0 LP1_h0) (om_72 a2 LP1_h1)) dX0_takeOut_43 (fun H locs hP hD hS => ?_)
            have hP : va_P (dC, dI) vwCl [kx_0 h0 h1 len, kx_a h1 cyI 160 (upd fc i.toNatClampNeg y_8)] H := hP
            have hD : va_D A [kx_0 h0 h1 len, kx_a h1 cyI 160 (upd fc i.toNatClampNeg y_8)] := hD
            obtain ⟨x_9, ex_9⟩ : ∃ y : Int32, y = i + 1 := ⟨_, rfl⟩
            have i_9 : x_9.toInt = i.toInt + 1 := ki_add ex_9 rfl rfl (om_2 a0 LP1_h0) (om_69 a2 LP1_h1)
            refine lv_iinc (v := x_9) (lv' := [(3, .int x_9), (2, .int y_3), (0, .ref h0), (1, .int p0)]) hx hb dX0_takeOut_44 hl (k := 0) rfl (by rw [ex_9]; rfl) (by decide) rfl (fun ls hl => ?_)
            refine lv_goto (tgt := 20) hx hb dX0_takeOut_47 (by decide) ?_
            have n_y := ki_nat y_7 rfl (by omega)
            have n_x := ki_nat x_9 rfl (by omega)
            exact ih1 x_9 (upd fc i.toNatClampNeg y_8) (om_4 LP1_h0 i_9) (om_73 i_4 i_5 i_9) (by rw [ey_8, LP1_h2]; rw [show y_7.toNatClampNeg = x_9.toNatClampNeg by omega]; exact shL_step (by omega) (by omega)) (om_mu hn1 (om_5 i_9) (om_74 LP1_h1)) _ _ hP hD hS ls (lv_sub hl [0, 1, 2, 3] rfl)
      exact LP1 ((len.toInt - p0.toInt : Int).toNat + 1) p0 f om_7 (om_75 a1) (shL_self _ _).symm (Nat.lt_succ_self _) _ _ hP hD hS ls (lv_sub hl [0, 1, 2, 3] rfl)
    · exact absurd c_2 (by decide)
  · have w_1 : (p0.toInt < 0 ∨ len.toInt ≤ p0.toInt) := w_1
    exfalso; omega

set_option maxHeartbeats 4000000 in
set_option maxRecDepth 100000 in
theorem c_X0_exchange (l : Launch) (dC : Nat → ClassId) (dI : Nat → Nat → Nat) (h0 : Nat) (h1 : Nat) (cyI : ClassId) (len : Int32) (f : Nat → Int32) (p0 : Int32) (p1 : Int32) (sz : Nat) (b0 : 0 ≤ p0.toInt) (b1 : p0.toInt < 160) (b2 : 0 ≤ p1.toInt) (b3 : p1.toInt < 160) : Met l yX0_exchange wsX0_exchange ({ frames := 0, cells := 0, slots := 0, locals := 0 }) (va_Pc [.ref h0, .int p0, .int p1] (fun U => U.heap.size = sz ∧ va_P (dC, dI) vwCl [kx_0 h0 h1 len, kx_a h1 cyI 160 f] U.heap ∧ va_K (dC, dI) vwCl [(cyI, .int)] U ∧ va_D (fun _ => True) [kx_0 h0 h1 len, kx_a h1 cyI 160 f])) (va_Qv (fun u : (Nat → Int32) => u = upd (upd f p0.toNatClampNeg (f p1.toNatClampNeg)) p1.toNatClampNeg (f p0.toNatClampNeg)) (fun (u : (Nat → Int32)) (t : State) => va_P (dC, dI) vwCl [kx_0 h0 h1 len, kx_a h1 cyI 160 u] t.heap ∧ va_K (dC, dI) vwCl [(cyI, .int)] t ∧ va_D (va_A [kx_0 h0 h1 len, kx_a h1 cyI 160 f] sz) [kx_0 h0 h1 len, kx_a h1 cyI 160 u]) (va_A [kx_0 h0 h1 len, kx_a h1 cyI 160 f] sz)) 0 0 (va_A [kx_0 h0 h1 len, kx_a h1 cyI 160 f] sz) := by
  refine Met.ofW (cc := cX0_exchange) (maxL := 4) (ret := none) (by decide) rfl ?_
  intro p e s m args below meth c s₁ B hml hv
  obtain ⟨rfl, hsz, hP, hK, hD0⟩ := hv
  have hx := B.exec
  have hb := B.bytes
  have hr := B.returns
  have hts := atoms_spec (ws := wsX0_exchange) B.pre
  have hown : s.vm.findClass RX0 = some m.cls := findClass_of_methodNamed B.named
  have hlocks := B.notSynchronized
  subst hsz
  have hD := hD0.self (sz := s.heap.size)
  generalize hAe : va_A [kx_0 h0 h1 len, kx_a h1 cyI 160 f] s.heap.size = A at hD ⊢
  have hA : ∀ q : Nat, s.heap.size ≤ q → A q := fun q h => by rw [← hAe]; exact Or.inr h
  have hS : va_S A s.heap s.heap [] := va_S.rf
  have hP : va_P (dC, dI) vwCl [kx_0 h0 h1 len, kx_a h1 cyI 160 f] s.heap := hP
  have hl := lv_entry ([.ref h0, .int p0, .int p1]) (n := 4) (Nat.le_of_ble_eq_true rfl)
  rw [lg_entry_eq]
  generalize (lg_sl ([.ref h0, .int p0, .int p1]) ++ List.replicate (4 - (lg_sl ([.ref h0, .int p0, .int p1])).length) Slot.unset).toArray = ls at hl ⊢
  have hl : lv_has ls 4 [(0, .ref h0), (1, .int p0), (2, .int p1)] := hl
  have hf_9 := hts (.fieldLink RX0 9 "MajorityIndex$Row" "cell" "[I") (List.mem_of_getElem? (i := 1) rfl)
  have hi_0 : ∀ w ∈ u_ws RX0 TX0 2, w ∈ wsX0_exchange := fun w h => List.mem_cons_of_mem _ (List.mem_append_right _ h)
  refine lv_aload_n hx hb dX0_exchange_0 rfl (lv_at hl 0 rfl) ?_
  refine va_get (D := (dC, dI)) (ci := 0) (v := .ref h1) (C := RX0) (T := TX0) (N := 2) hx hb hts hi_0 hown hK hP 0 rfl rfl 0 (by decide) hf_9 (fun _ h9 => h9) rfl dX0_exchange_1 ?_
  refine lv_iload_n hx hb dX0_exchange_4 rfl (lv_at hl 1 rfl) ?_
  refine va_iald hx hb hK hP 1 0 rfl rfl (ki_in (om_8 b0) (om_9 b1)) dX0_exchange_5 ?_
  refine lv_topi (fun y_1 ey_1 => ?_)
  have j_1 : y_1.toInt = (f p0.toNatClampNeg).toInt := congrArg Int32.toInt ey_1
  refine lv_istore_n (lv' := [(3, .int y_1), (0, .ref h0), (1, .int p0), (2, .int p1)]) hx hb dX0_exchange_6 rfl hl (by decide) rfl (fun ls hl => ?_)
  refine lv_aload_n hx hb dX0_exchange_7 rfl (lv_at hl 1 rfl) ?_
  refine va_get (D := (dC, dI)) (ci := 0) (v := .ref h1) (C := RX0) (T := TX0) (N := 2) hx hb hts hi_0 hown hK hP 0 rfl rfl 0 (by decide) hf_9 (fun _ h9 => h9) rfl dX0_exchange_8 ?_
  refine lv_iload_n hx hb dX0_exchange_11 rfl (lv_at hl 2 rfl) ?_
  refine lv_aload_n hx hb dX0_exchange_12 rfl (lv_at hl 1 rfl) ?_
  refine va_get (D := (dC, dI)) (ci := 0) (v := .ref h1) (C := RX0) (T := TX0) (N := 2) hx hb hts hi_0 hown hK hP 0 rfl rfl 0 (by decide) hf_9 (fun _ h9 => h9) rfl dX0_exchange_13 ?_
  refine lv_iload_n hx hb dX0_exchange_16 rfl (lv_at hl 3 rfl) ?_
  refine va_iald hx hb hK hP 1 0 rfl rfl (ki_in (om_8 b2) (om_9 b3)) dX0_exchange_17 ?_
  refine lv_topi (fun y_2 ey_2 => ?_)
  have j_2 : y_2.toInt = (f p1.toNatClampNeg).toInt := congrArg Int32.toInt ey_2
  refine va_iast hx hb hK hP hD hS 1 0 rfl rfl (ki_in (om_8 b0) (om_9 b1)) dX0_exchange_18 (fun H locs hP hD hS => ?_)
  have hP : va_P (dC, dI) vwCl [kx_0 h0 h1 len, kx_a h1 cyI 160 (upd f p0.toNatClampNeg y_2)] H := hP
  have hD : va_D A [kx_0 h0 h1 len, kx_a h1 cyI 160 (upd f p0.toNatClampNeg y_2)] := hD
  refine lv_aload_n hx hb dX0_exchange_19 rfl (lv_at hl 1 rfl) ?_
  refine va_get (D := (dC, dI)) (ci := 0) (v := .ref h1) (C := RX0) (T := TX0) (N := 2) hx hb hts hi_0 hown hK hP 0 rfl rfl 0 (by decide) hf_9 (fun _ h9 => h9) rfl dX0_exchange_20 ?_
  refine lv_iload_n hx hb dX0_exchange_23 rfl (lv_at hl 3 rfl) ?_
  refine lv_iload_n hx hb dX0_exchange_24 rfl (lv_at hl 0 rfl) ?_
  refine va_iast hx hb hK hP hD hS 1 0 rfl rfl (ki_in (om_8 b2) (om_9 b3)) dX0_exchange_25 (fun H locs hP hD hS => ?_)
  have hP : va_P (dC, dI) vwCl [kx_0 h0 h1 len, kx_a h1 cyI 160 (upd (upd f p0.toNatClampNeg y_2) p1.toNatClampNeg y_1)] H := hP
  have hD : va_D A [kx_0 h0 h1 len, kx_a h1 cyI 160 (upd (upd f p0.toNatClampNeg y_2) p1.toNatClampNeg y_1)] := hD
  have hP9 := hP
  have hD9 := hD
  have hK9 := hK
  exact W.vret hx hb hr (fun t ht hW => ⟨⟨((upd (upd f p0.toNatClampNeg y_2) p1.toNatClampNeg y_1)), rfl, (by (try dsimp only); rw [ey_2, ey_1]), by rw [ht]; exact hP9, va_K.moved hW.alike hK9, hD9⟩, hS.F ht⟩) hS.2.2 dX0_exchange_26


