theorem upd_back (f : Nat → Int32) (k : Nat) (v : Int32) : upd (upd f k v) k (f k) = f := by
  funext j
  unfold upd
  split
  · rename_i h
    rw [h]
  · rfl

set_option maxHeartbeats 4000000 in
set_option maxRecDepth 100000 in
theorem c_X4_count (l : Launch) (dC : Nat → ClassId) (dI : Nat → Nat → Nat) (m_ : Nat) (q_row : Nat) (q_t : Nat) (t_ : Nat) (h0 : Nat) (k0 : Nat) (w_ : Nat) (z_ : Nat) (slots : Int32) (old : Int32) (q_cell : Nat) (cyI : ClassId) (len : Int32) (f : Nat → Int32) (p0 : Int32) (p1 : Int32) (p2 : Int32) (a0 : 0 ≤ len.toInt) (a1 : len.toInt ≤ 160) : Met l yX4_count wsX4_count ({ frames := 1, cells := 0, slots := 0, locals := 45 }) (va_Pc [.ref m_, .int p0, .int p1, .int p2] (fun U => va_P (dC, dI) vwCl [kx_4 m_ q_row q_t t_ h0 k0 w_ z_ slots old, kx_0 q_row q_cell len, kx_a q_cell cyI 160 f] U.heap ∧ va_K (dC, dI) vwCl [(cyI, .int)] U)) (vp_Si (fun r : Int32 => True)) 0 0 (fun _ => False) := by
  refine kx_stS (ws := wsX4_count) (cc := cX4_count) (maxL := 4) (ret := (some .int)) (by decide) rfl (Nat.le_of_ble_eq_true rfl) ?_
  intro p e s m below meth c ls hx hb hr hlocks hts hown hml hP hK hl
  have hown : s.vm.findClass RX4 = some m.cls := hown
  have hl : lv_has ls 4 [(0, .ref m_), (1, .int p0), (2, .int p1), (3, .int p2)] := hl
  have hf_12 := hts (.fieldLink RX4 12 "MajorityIndex" "row" "LMajorityIndex$Row;") (List.mem_of_getElem? (i := 1) rfl)
  have hi_4 : ∀ w ∈ u_ws RX4 TX4 9, w ∈ wsX4_count := fun w h => List.mem_cons_of_mem _ (List.mem_append_left _ (List.mem_append_right _ h))
  refine lv_iload_n hx hb dX4_count_0 rfl (lv_at hl 1 rfl) ?_
  have hPc := hP.sub (ws' := []) [] rfl
  have hKc := hK.sub (tys' := []) [] rfl
  refine vp_callSi (W.runS (As := [.int p0]) (rest := []) ⟨hx, hb, hml, hown, hts⟩ (c_X4_isValue l dC dI p0) (va_cwS 1 hts gX4_count_X4_isValue rfl rfl rfl (by decide +kernel) ⟨Nat.le_of_ble_eq_true rfl, Nat.le_of_ble_eq_true rfl⟩) ⟨fun a U g mk q => by obtain ⟨q0, qP, qK⟩ := q; exact ⟨q0, qP, va_K.moved (u := U) (U := U.calling g mk a) (Vm.Alike.refl U.vm) qK⟩, fun U hU hW => ⟨rfl, by rw [hU]; exact hPc, va_K.moved hW.alike hKc⟩⟩ rfl rfl hl.1 rfl (lv_room (Nat.le_of_ble_eq_true rfl)) dX4_count_1 ⟨Nat.le_of_ble_eq_true rfl, Nat.le_of_ble_eq_true rfl⟩) (fun r_1 w_1 => ?_)
  rcases w_1 with ⟨rfl, w_1⟩ | ⟨rfl, w_1⟩
  · have w_1 : (-32768 ≤ p0.toInt ∧ p0.toInt ≤ 32767) := w_1
    refine lv_if_eq (tgt := 19) hx hb dX4_count_4 (by decide) (fun c_2 => ?_) (fun c_2 => ?_)
    · exact absurd c_2 (by decide)
    · refine lv_aload_n hx hb dX4_count_7 rfl (lv_at hl 0 rfl) ?_
      refine va_get (D := (dC, dI)) (ci := 4) (v := .ref q_row) (C := RX4) (T := TX4) (N := 9) hx hb hts hi_4 hown hK hP 0 rfl rfl 0 (by decide) hf_12 (fun _ h9 => h9) rfl dX4_count_8 ?_
      refine lv_iload_n hx hb dX4_count_11 rfl (lv_at hl 2 rfl) ?_
      refine lv_iload_n hx hb dX4_count_12 rfl (lv_at hl 3 rfl) ?_
      have hPc := hP.sub (ws' := [kx_0 q_row q_cell len]) [1] rfl
      have hKc := hK.sub (tys' := []) [] rfl
      refine vp_callSi (W.runV (As := [.int p1, .int p2]) (rest := []) ⟨hx, hb, hml, hown, hts⟩ (c_X0_hasRange l dC dI q_row q_cell len p1 p2) (cwV 2 hts gX4_count_X0_hasRange rfl rfl rfl (by decide +kernel) ⟨Nat.le_of_ble_eq_true rfl, Nat.le_of_ble_eq_true rfl⟩) ⟨fun a U g mk q => by obtain ⟨q0, qP, qK⟩ := q; exact ⟨q0, qP, va_K.moved (u := U) (U := U.calling g mk a) (Vm.Alike.refl U.vm) qK⟩, kx_rc0 hKc hPc (q0 := 0) rfl, fun U hU hW => ⟨rfl, by rw [hU]; exact hPc, va_K.moved hW.alike hKc⟩⟩ rfl rfl hl.1 rfl (lv_room (Nat.le_of_ble_eq_true rfl)) dX4_count_13 ⟨Nat.le_of_ble_eq_true rfl, Nat.le_of_ble_eq_true rfl⟩) (fun r_3 w_3 => ?_)
      rcases w_3 with ⟨rfl, w_3⟩ | ⟨rfl, w_3⟩
      · have w_3 : (0 ≤ p1.toInt ∧ p1.toInt < p2.toInt ∧ p2.toInt ≤ len.toInt) := w_3
        refine lv_if_ne (tgt := 21) hx hb dX4_count_16 (by decide) (fun c_4 => ?_) (fun c_4 => ?_)
        · refine lv_aload_n hx hb dX4_count_21 rfl (lv_at hl 0 rfl) ?_
          refine va_get (D := (dC, dI)) (ci := 4) (v := .ref q_row) (C := RX4) (T := TX4) (N := 9) hx hb hts hi_4 hown hK hP 0 rfl rfl 0 (by decide) hf_12 (fun _ h9 => h9) rfl dX4_count_22 ?_
          refine lv_iload_n hx hb dX4_count_25 rfl (lv_at hl 1 rfl) ?_
          refine lv_iload_n hx hb dX4_count_26 rfl (lv_at hl 2 rfl) ?_
          refine lv_iload_n hx hb dX4_count_27 rfl (lv_at hl 3 rfl) ?_
          have hPc := hP.sub (ws' := [kx_0 q_row q_cell len, kx_a q_cell cyI 160 f]) [1, 2] rfl
          have hKc := hK
          refine vp_callSi (W.runV (As := [.int p0, .int p1, .int p2]) (rest := []) ⟨hx, hb, hml, hown, hts⟩ (c_X0_oftenIn l dC dI q_row q_cell cyI len f p0 p1 p2 (om_10 w_3.1) (om_167 a1 w_3.2.2)) (cwV 3 hts gX4_count_X0_oftenIn rfl rfl rfl (by decide +kernel) ⟨Nat.le_of_ble_eq_true rfl, Nat.le_of_ble_eq_true rfl⟩) ⟨fun a U g mk q => by obtain ⟨q0, qP, qK⟩ := q; exact ⟨q0, qP, va_K.moved (u := U) (U := U.calling g mk a) (Vm.Alike.refl U.vm) qK⟩, kx_rc0 hKc hPc (q0 := 0) rfl, fun U hU hW => ⟨rfl, by rw [hU]; exact hPc, va_K.moved hW.alike hKc⟩⟩ rfl rfl hl.1 rfl (lv_room (Nat.le_of_ble_eq_true rfl)) dX4_count_28 ⟨Nat.le_of_ble_eq_true rfl, Nat.le_of_ble_eq_true rfl⟩) (fun r_5 w_5 => ?_)
          have w_5 : r_5.toInt = (cnt f p0 p1.toNatClampNeg (p2.toInt - p1.toInt).toNat : Int) := w_5
          exact W.iret (v := r_5) hx hb hr (hlocks := hlocks) (fun t ht hW => ⟨r_5, rfl, trivial, ht⟩) (fun q hq => by cases hq) dX4_count_31
        · exact absurd c_4 (by decide)
      · have w_3 : (p1.toInt < 0 ∨ p2.toInt ≤ p1.toInt ∨ len.toInt < p2.toInt) := w_3
        refine lv_if_ne (tgt := 21) hx hb dX4_count_16 (by decide) (fun c_6 => ?_) (fun c_6 => ?_)
        · exact absurd c_6 (by decide)
        · refine lv_iconst (v := (-1)) hx hb dX4_count_19 (by decide) ?_
          exact W.iret (v := (-1)) hx hb hr (hlocks := hlocks) (fun t ht hW => ⟨(-1), rfl, trivial, ht⟩) (fun q hq => by cases hq) dX4_count_20
  · have w_1 : (p0.toInt < -32768 ∨ 32767 < p0.toInt) := w_1
    refine lv_if_eq (tgt := 19) hx hb dX4_count_4 (by decide) (fun c_7 => ?_) (fun c_7 => ?_)
    · refine lv_iconst (v := (-1)) hx hb dX4_count_19 (by decide) ?_
      exact W.iret (v := (-1)) hx hb hr (hlocks := hlocks) (fun t ht hW => ⟨(-1), rfl, trivial, ht⟩) (fun q hq => by cases hq) dX4_count_20
    · exact absurd c_7 (by decide)

set_option maxHeartbeats 4000000 in
set_option maxRecDepth 100000 in
theorem c_X4_place (l : Launch) (dC : Nat → ClassId) (dI : Nat → Nat → Nat) (m_ : Nat) (q_row : Nat) (q_t : Nat) (t_ : Nat) (h0 : Nat) (k0 : Nat) (w_ : Nat) (z_ : Nat) (slots : Int32) (old : Int32) (q_cell : Nat) (cyI : ClassId) (len : Int32) (f : Nat → Int32) (p0 : Int32) (p1 : Int32) (a0 : 0 ≤ len.toInt) (a1 : len.toInt ≤ 160) : Met l yX4_place wsX4_place ({ frames := 0, cells := 0, slots := 0, locals := 0 }) (va_Pc [.ref m_, .int p0, .int p1] (fun U => va_P (dC, dI) vwCl [kx_4 m_ q_row q_t t_ h0 k0 w_ z_ slots old, kx_0 q_row q_cell len, kx_a q_cell cyI 160 f] U.heap ∧ va_K (dC, dI) vwCl [(cyI, .int)] U)) (vp_Si (fun r : Int32 => True)) 0 0 (fun _ => False) := by
  refine kx_stS (ws := wsX4_place) (cc := cX4_place) (maxL := 5) (ret := (some .int)) (by decide) rfl (Nat.le_of_ble_eq_true rfl) ?_
  intro p e s m below meth c ls hx hb hr hlocks hts hown hml hP hK hl
  have hown : s.vm.findClass RX4 = some m.cls := hown
  have hl : lv_has ls 5 [(0, .ref m_), (1, .int p0), (2, .int p1)] := hl
  have hf_12 := hts (.fieldLink RX4 12 "MajorityIndex" "row" "LMajorityIndex$Row;") (List.mem_of_getElem? (i := 1) rfl)
  have hi_4 : ∀ w ∈ u_ws RX4 TX4 9, w ∈ wsX4_place := fun w h => List.mem_cons_of_mem _ (List.mem_append_left _ (List.mem_append_right _ h))
  have hf_57 := hts (.fieldLink RX4 57 "MajorityIndex$Row" "length" "I") (List.mem_of_getElem? (i := 2) rfl)
  have hi_0 : ∀ w ∈ u_ws RX0 TX0 2, w ∈ wsX4_place := fun w h => List.mem_cons_of_mem _ (List.mem_append_right _ h)
  have hf_110 := hts (.fieldLink RX4 110 "MajorityIndex$Row" "cell" "[I") (List.mem_of_getElem? (i := 3) rfl)
  refine lv_iload_n hx hb dX4_place_0 rfl (lv_at hl 2 rfl) ?_
  refine lv_if_ge (tgt := 6) hx hb dX4_place_1 (by decide) (fun c_1 => ?_) (fun c_1 => ?_)
  · have i_1 : 0 ≤ p1.toInt := kc_le c_1
    refine lv_iconst (v := 0) hx hb dX4_place_6 (by decide) ?_
    refine lv_istore_n (lv' := [(3, .int 0), (0, .ref m_), (1, .int p0), (2, .int p1)]) hx hb dX4_place_7 rfl hl (by decide) rfl (fun ls hl => ?_)
    refine lv_iconst (v := 0) hx hb dX4_place_8 (by decide) ?_
    refine lv_istore (lv' := [(4, .int 0), (3, .int 0), (0, .ref m_), (1, .int p0), (2, .int p1)]) hx hb dX4_place_9 hl (by decide) rfl (fun ls hl => ?_)
    have LP1 : ∀ (n : Nat) (i : Int32) (seen : Int32), (0 ≤ i.toInt) → (len.toInt - i.toInt).toNat < n → ∀ (ls : Array Slot), lv_has ls 5 [(4, .int i), (3, .int seen), (0, .ref m_), (1, .int p0), (2, .int p1)] → W p l e (headSpec wsX4_place ({ frames := 0, cells := 0, slots := 0, locals := 0 })).room s m ([.ref m_, .int p0, .int p1] : List Value).toArray below meth c s.heap [] 0 0 (MQ below (vp_Si (fun r : Int32 => True)) ([.ref m_, .int p0, .int p1] : List Value).toArray s 0 0 (fun _ => False)) (F0 m 11 ls []) := by
      intro n
      induction n with
      | zero => intro i seen LP1_h0 hn; exact absurd hn (Nat.not_lt_zero _)
      | succ n ih1 =>
        intro i seen LP1_h0 hn1 ls hl
        refine lv_iload hx hb dX4_place_11 (lv_at hl 0 rfl) ?_
        refine lv_aload_n hx hb dX4_place_13 rfl (lv_at hl 2 rfl) ?_
        refine va_get (D := (dC, dI)) (ci := 4) (v := .ref q_row) (C := RX4) (T := TX4) (N := 9) hx hb hts hi_4 hown hK hP 0 rfl rfl 0 (by decide) hf_12 (fun _ h9 => h9) rfl dX4_place_14 ?_
        refine va_get (D := (dC, dI)) (ci := 0) (v := .int len) (C := RX0) (T := TX0) (N := 2) hx hb hts hi_0 hown hK hP 1 rfl rfl 1 (by decide) hf_57 (fun _ h9 => h9) rfl dX4_place_17 ?_
        refine lv_icmp_ge (tgt := 54) hx hb dX4_place_20 (by decide) (fun c_2 => ?_) (fun c_2 => ?_)
        · have i_2 : len.toInt ≤ i.toInt := kc_le c_2
          refine lv_iconst (v := (-1)) hx hb dX4_place_54 (by decide) ?_
          exact W.iret (v := (-1)) hx hb hr (hlocks := hlocks) (fun t ht hW => ⟨(-1), rfl, trivial, ht⟩) (fun q hq => by cases hq) dX4_place_55
        · have i_2 : i.toInt < len.toInt := kc_nle c_2
          refine lv_aload_n hx hb dX4_place_23 rfl (lv_at hl 2 rfl) ?_
          refine va_get (D := (dC, dI)) (ci := 4) (v := .ref q_row) (C := RX4) (T := TX4) (N := 9) hx hb hts hi_4 hown hK hP 0 rfl rfl 0 (by decide) hf_12 (fun _ h9 => h9) rfl dX4_place_24 ?_
          refine va_get (D := (dC, dI)) (ci := 0) (v := .ref q_cell) (C := RX0) (T := TX0) (N := 2) hx hb hts hi_0 hown hK hP 1 rfl rfl 0 (by decide) hf_110 (fun _ h9 => h9) rfl dX4_place_27 ?_
          refine lv_iload hx hb dX4_place_30 (lv_at hl 0 rfl) ?_
          refine va_iald hx hb hK hP 2 0 rfl rfl (ki_in (om_10 LP1_h0) (om_1 a1 i_2)) dX4_place_32 ?_
          refine lv_topi (fun y_3 ey_3 => ?_)
          have j_3 : y_3.toInt = (f i.toNatClampNeg).toInt := congrArg Int32.toInt ey_3
          refine lv_iload_n hx hb dX4_place_33 rfl (lv_at hl 3 rfl) ?_
          refine lv_icmp_ne (tgt := 48) hx hb dX4_place_34 (by decide) (fun c_4 => ?_) (fun c_4 => ?_)
          · have i_4 : ¬ y_3.toInt = p0.toInt := kc_ne c_4
            obtain ⟨x_5, ex_5⟩ : ∃ y : Int32, y = i + 1 := ⟨_, rfl⟩
            have i_5 : x_5.toInt = i.toInt + 1 := ki_add ex_5 rfl rfl (om_13 LP1_h0) (om_3 a1 i_2)
            refine lv_iinc (v := x_5) (lv' := [(4, .int x_5), (3, .int seen), (0, .ref m_), (1, .int p0), (2, .int p1)]) hx hb dX4_place_48 hl (k := 0) rfl (by rw [ex_5]; rfl) (by decide) rfl (fun ls hl => ?_)
            refine lv_goto (tgt := 11) hx hb dX4_place_51 (by decide) ?_
            exact ih1 x_5 seen (om_34 LP1_h0 i_5) (om_mu hn1 (om_5 i_5) (om_6 i_2)) ls (lv_sub hl [0, 1, 2, 3, 4] rfl)
          · have i_4 : y_3.toInt = p0.toInt := kc_eq c_4
            refine lv_iload_n hx hb dX4_place_37 rfl (lv_at hl 1 rfl) ?_
            refine lv_iload_n hx hb dX4_place_38 rfl (lv_at hl 4 rfl) ?_
            refine lv_icmp_ne (tgt := 45) hx hb dX4_place_39 (by decide) (fun c_6 => ?_) (fun c_6 => ?_)
            · have i_6 : ¬ seen.toInt = p1.toInt := kc_ne c_6
              obtain ⟨x_7, ex_7⟩ : ∃ y : Int32, y = seen + 1 := ⟨_, rfl⟩
              refine lv_iinc (v := x_7) (lv' := [(3, .int x_7), (4, .int i), (0, .ref m_), (1, .int p0), (2, .int p1)]) hx hb dX4_place_45 hl (k := 1) rfl (by rw [ex_7]; rfl) (by decide) rfl (fun ls hl => ?_)
              obtain ⟨x_8, ex_8⟩ : ∃ y : Int32, y = i + 1 := ⟨_, rfl⟩
              have i_8 : x_8.toInt = i.toInt + 1 := ki_add ex_8 rfl rfl (om_13 LP1_h0) (om_3 a1 i_2)
              refine lv_iinc (v := x_8) (lv' := [(4, .int x_8), (3, .int x_7), (0, .ref m_), (1, .int p0), (2, .int p1)]) hx hb dX4_place_48 hl (k := 1) rfl (by rw [ex_8]; rfl) (by decide) rfl (fun ls hl => ?_)
              refine lv_goto (tgt := 11) hx hb dX4_place_51 (by decide) ?_
              exact ih1 x_8 x_7 (om_34 LP1_h0 i_8) (om_mu hn1 (om_5 i_8) (om_6 i_2)) ls (lv_sub hl [0, 1, 2, 3, 4] rfl)
            · have i_6 : seen.toInt = p1.toInt := kc_eq c_6
              refine lv_iload hx hb dX4_place_42 (lv_at hl 0 rfl) ?_
              exact W.iret (v := i) hx hb hr (hlocks := hlocks) (fun t ht hW => ⟨i, rfl, trivial, ht⟩) (fun q hq => by cases hq) dX4_place_44
    have k_9 : (0 : Int32).toInt = 0 := rfl
    have k_10 : (0 : Int32).toInt = 0 := rfl
    exact LP1 ((len.toInt - 0 : Int).toNat + 1) 0 0 om_35 (Nat.lt_succ_self _) ls (lv_sub hl [0, 1, 2, 3, 4] rfl)
  · have i_1 : p1.toInt < 0 := kc_nle c_1
    refine lv_iconst (v := (-1)) hx hb dX4_place_4 (by decide) ?_
    exact W.iret (v := (-1)) hx hb hr (hlocks := hlocks) (fun t ht hW => ⟨(-1), rfl, trivial, ht⟩) (fun q hq => by cases hq) dX4_place_5

set_option maxHeartbeats 4000000 in
set_option maxRecDepth 100000 in
theorem c_X4_majority (l : Launch) (dC : Nat → ClassId) (dI : Nat → Nat → Nat) (m_ : Nat) (q_row : Nat) (q_t : Nat) (t_ : Nat) (h0 : Nat) (k0 : Nat) (w_ : Nat) (z_ : Nat) (slots : Int32) (old : Int32) (q_cell : Nat) (cyI : ClassId) (len : Int32) (f : Nat → Int32) (p0 : Int32) (p1 : Int32) (a0 : 0 ≤ len.toInt) (a1 : len.toInt ≤ 160) : Met l yX4_majority wsX4_majority ({ frames := 2, cells := 0, slots := 0, locals := 90 }) (va_Pc [.ref m_, .int p0, .int p1] (fun U => va_P (dC, dI) vwCl [kx_4 m_ q_row q_t t_ h0 k0 w_ z_ slots old, kx_0 q_row q_cell len, kx_a q_cell cyI 160 f] U.heap ∧ va_K (dC, dI) vwCl [(cyI, .int)] U ∧ va_Nw (.methodLinkNest RX0 28 yX4_isHeavy RX4) U)) (vp_Si (fun r : Int32 => True)) 0 0 (fun _ => False) := by
  refine Met.ofW (cc := cX4_majority) (maxL := 3) (ret := (some .int)) (by decide) rfl ?_
  intro p e s m args below meth c s₁ B hml hv
  obtain ⟨rfl, hP, hK, hN0⟩ := hv
  have hx := B.exec
  have hb := B.bytes
  have hr := B.returns
  have hts := atoms_spec (ws := wsX4_majority) B.pre
  have hown : s.vm.findClass RX4 = some m.cls := findClass_of_methodNamed B.named
  have hlocks := B.notSynchronized
  have hP : va_P (dC, dI) vwCl [kx_4 m_ q_row q_t t_ h0 k0 w_ z_ slots old, kx_0 q_row q_cell len, kx_a q_cell cyI 160 f] s.heap := hP
  have hl := lv_entry ([.ref m_, .int p0, .int p1]) (n := 3) (Nat.le_of_ble_eq_true rfl)
  rw [lg_entry_eq]
  generalize (lg_sl ([.ref m_, .int p0, .int p1]) ++ List.replicate (3 - (lg_sl ([.ref m_, .int p0, .int p1])).length) Slot.unset).toArray = ls at hl ⊢
  have hl : lv_has ls 3 [(0, .ref m_), (1, .int p0), (2, .int p1)] := hl
  have hf_12 := hts (.fieldLink RX4 12 "MajorityIndex" "row" "LMajorityIndex$Row;") (List.mem_of_getElem? (i := 1) rfl)
  have hi_4 : ∀ w ∈ u_ws RX4 TX4 9, w ∈ wsX4_majority := fun w h => List.mem_cons_of_mem _ (List.mem_append_left _ (List.mem_append_right _ h))
  have hk_102 := hts (.constant RX4 102 (-40000)) (List.mem_of_getElem? (i := 2) rfl)
  refine lv_aload_n hx hb dX4_majority_0 rfl (lv_at hl 0 rfl) ?_
  refine va_get (D := (dC, dI)) (ci := 4) (v := .ref q_row) (C := RX4) (T := TX4) (N := 9) hx hb hts hi_4 hown hK hP 0 rfl rfl 0 (by decide) hf_12 (fun _ h9 => h9) rfl dX4_majority_1 ?_
  refine lv_iload_n hx hb dX4_majority_4 rfl (lv_at hl 1 rfl) ?_
  refine lv_iload_n hx hb dX4_majority_5 rfl (lv_at hl 2 rfl) ?_
  have hPc := hP.sub (ws' := [kx_0 q_row q_cell len]) [1] rfl
  have hKc := hK.sub (tys' := []) [] rfl
  refine vp_callSi (W.runV (As := [.int p0, .int p1]) (rest := []) ⟨hx, hb, hml, hown, hts⟩ (c_X0_hasRange l dC dI q_row q_cell len p0 p1) (cwV 2 hts gX4_majority_X0_hasRange rfl rfl rfl (by decide +kernel) ⟨Nat.le_of_ble_eq_true rfl, Nat.le_of_ble_eq_true rfl⟩) ⟨fun a U g mk q => by obtain ⟨q0, qP, qK⟩ := q; exact ⟨q0, qP, va_K.moved (u := U) (U := U.calling g mk a) (Vm.Alike.refl U.vm) qK⟩, kx_rc0 hKc hPc (q0 := 0) rfl, fun U hU hW => ⟨rfl, by rw [hU]; exact hPc, va_K.moved hW.alike hKc⟩⟩ rfl rfl hl.1 rfl (lv_room (Nat.le_of_ble_eq_true rfl)) dX4_majority_6 ⟨Nat.le_of_ble_eq_true rfl, Nat.le_of_ble_eq_true rfl⟩) (fun r_1 w_1 => ?_)
  rcases w_1 with ⟨rfl, w_1⟩ | ⟨rfl, w_1⟩
  · have w_1 : (0 ≤ p0.toInt ∧ p0.toInt < p1.toInt ∧ p1.toInt ≤ len.toInt) := w_1
    refine lv_if_eq (tgt := 24) hx hb dX4_majority_9 (by decide) (fun c_2 => ?_) (fun c_2 => ?_)
    · exact absurd c_2 (by decide)
    · refine lv_aload_n hx hb dX4_majority_12 rfl (lv_at hl 0 rfl) ?_
      refine va_get (D := (dC, dI)) (ci := 4) (v := .ref q_row) (C := RX4) (T := TX4) (N := 9) hx hb hts hi_4 hown hK hP 0 rfl rfl 0 (by decide) hf_12 (fun _ h9 => h9) rfl dX4_majority_13 ?_
      refine lv_iload_n hx hb dX4_majority_16 rfl (lv_at hl 1 rfl) ?_
      refine lv_iload_n hx hb dX4_majority_17 rfl (lv_at hl 2 rfl) ?_
      have hPc := hP.sub (ws' := [kx_0 q_row q_cell len, kx_a q_cell cyI 160 f]) [1, 2] rfl
      have hKc := hK
      refine vp_callSi (W.runV (As := [.int p0, .int p1]) (rest := []) ⟨hx, hb, hml, hown, hts⟩ (c_X0_leader l dC dI q_row q_cell cyI len f p0 p1 (om_10 w_1.1) (om_167 a1 w_1.2.2)) (cwV 2 hts gX4_majority_X0_leader rfl rfl rfl (by decide +kernel) ⟨Nat.le_of_ble_eq_true rfl, Nat.le_of_ble_eq_true rfl⟩) ⟨fun a U g mk q => by obtain ⟨q0, qP, qK, qn0⟩ := q; exact ⟨q0, qP, va_K.moved (u := U) (U := U.calling g mk a) (Vm.Alike.refl U.vm) qK, va_Nw.same (u := U) (U := U.calling g mk a) rfl rfl qn0⟩, kx_rc0 hKc hPc (q0 := 0) rfl, fun U hU hW => ⟨rfl, by rw [hU]; exact hPc, va_K.moved hW.alike hKc, va_Nw.warmM hW hN0⟩⟩ rfl rfl hl.1 rfl (lv_room (Nat.le_of_ble_eq_true rfl)) dX4_majority_18 ⟨Nat.le_of_ble_eq_true rfl, Nat.le_of_ble_eq_true rfl⟩) (fun r_3 w_3 => ?_)
      refine lv_goto (tgt := 26) hx hb dX4_majority_21 (by decide) ?_
      exact W.iret (v := r_3) hx hb hr (hlocks := hlocks) (fun t ht hW => ⟨r_3, rfl, trivial, ht⟩) (fun q hq => by cases hq) dX4_majority_26
  · have w_1 : (p0.toInt < 0 ∨ p1.toInt ≤ p0.toInt ∨ len.toInt < p1.toInt) := w_1
    refine lv_if_eq (tgt := 24) hx hb dX4_majority_9 (by decide) (fun c_4 => ?_) (fun c_4 => ?_)
    · refine lv_ldc (v := (-40000)) hx hb hown hk_102 dX4_majority_24 ?_
      exact W.iret (v := (-40000)) hx hb hr (hlocks := hlocks) (fun t ht hW => ⟨(-40000), rfl, trivial, ht⟩) (fun q hq => by cases hq) dX4_majority_26
    · exact absurd c_4 (by decide)

set_option maxHeartbeats 4000000 in
set_option maxRecDepth 100000 in
theorem c_X4_margin (l : Launch) (dC : Nat → ClassId) (dI : Nat → Nat → Nat) (m_ : Nat) (q_row : Nat) (q_t : Nat) (t_ : Nat) (h0 : Nat) (k0 : Nat) (w_ : Nat) (z_ : Nat) (slots : Int32) (old : Int32) (q_cell : Nat) (cyI : ClassId) (len : Int32) (f : Nat → Int32) (p0 : Int32) (p1 : Int32) (p2 : Int32) (a0 : 0 ≤ len.toInt) (a1 : len.toInt ≤ 160) : Met l yX4_margin wsX4_margin ({ frames := 1, cells := 0, slots := 0, locals := 45 }) (va_Pc [.ref m_, .int p0, .int p1, .int p2] (fun U => va_P (dC, dI) vwCl [kx_4 m_ q_row q_t t_ h0 k0 w_ z_ slots old, kx_0 q_row q_cell len, kx_a q_cell cyI 160 f] U.heap ∧ va_K (dC, dI) vwCl [(cyI, .int)] U)) (vp_Si (fun r : Int32 => True)) 0 0 (fun _ => False) := by
  refine kx_stS (ws := wsX4_margin) (cc := cX4_margin) (maxL := 4) (ret := (some .int)) (by decide) rfl (Nat.le_of_ble_eq_true rfl) ?_
  intro p e s m below meth c ls hx hb hr hlocks hts hown hml hP hK hl
  have hown : s.vm.findClass RX4 = some m.cls := hown
  have hl : lv_has ls 4 [(0, .ref m_), (1, .int p0), (2, .int p1), (3, .int p2)] := hl
  have hf_12 := hts (.fieldLink RX4 12 "MajorityIndex" "row" "LMajorityIndex$Row;") (List.mem_of_getElem? (i := 1) rfl)
  have hi_4 : ∀ w ∈ u_ws RX4 TX4 9, w ∈ wsX4_margin := fun w h => List.mem_cons_of_mem _ (List.mem_append_left _ (List.mem_append_right _ h))
  have hk_102 := hts (.constant RX4 102 (-40000)) (List.mem_of_getElem? (i := 2) rfl)
  refine lv_iload_n hx hb dX4_margin_0 rfl (lv_at hl 1 rfl) ?_
  have hPc := hP.sub (ws' := []) [] rfl
  have hKc := hK.sub (tys' := []) [] rfl
  refine vp_callSi (W.runS (As := [.int p0]) (rest := []) ⟨hx, hb, hml, hown, hts⟩ (c_X4_isValue l dC dI p0) (va_cwS 1 hts gX4_margin_X4_isValue rfl rfl rfl (by decide +kernel) ⟨Nat.le_of_ble_eq_true rfl, Nat.le_of_ble_eq_true rfl⟩) ⟨fun a U g mk q => by obtain ⟨q0, qP, qK⟩ := q; exact ⟨q0, qP, va_K.moved (u := U) (U := U.calling g mk a) (Vm.Alike.refl U.vm) qK⟩, fun U hU hW => ⟨rfl, by rw [hU]; exact hPc, va_K.moved hW.alike hKc⟩⟩ rfl rfl hl.1 rfl (lv_room (Nat.le_of_ble_eq_true rfl)) dX4_margin_1 ⟨Nat.le_of_ble_eq_true rfl, Nat.le_of_ble_eq_true rfl⟩) (fun r_1 w_1 => ?_)
  rcases w_1 with ⟨rfl, w_1⟩ | ⟨rfl, w_1⟩
  · have w_1 : (-32768 ≤ p0.toInt ∧ p0.toInt ≤ 32767) := w_1
    refine lv_if_eq (tgt := 19) hx hb dX4_margin_4 (by decide) (fun c_2 => ?_) (fun c_2 => ?_)
    · exact absurd c_2 (by decide)
    · refine lv_aload_n hx hb dX4_margin_7 rfl (lv_at hl 0 rfl) ?_
      refine va_get (D := (dC, dI)) (ci := 4) (v := .ref q_row) (C := RX4) (T := TX4) (N := 9) hx hb hts hi_4 hown hK hP 0 rfl rfl 0 (by decide) hf_12 (fun _ h9 => h9) rfl dX4_margin_8 ?_
      refine lv_iload_n hx hb dX4_margin_11 rfl (lv_at hl 2 rfl) ?_
      refine lv_iload_n hx hb dX4_margin_12 rfl (lv_at hl 3 rfl) ?_
      have hPc := hP.sub (ws' := [kx_0 q_row q_cell len]) [1] rfl
      have hKc := hK.sub (tys' := []) [] rfl
      refine vp_callSi (W.runV (As := [.int p1, .int p2]) (rest := []) ⟨hx, hb, hml, hown, hts⟩ (c_X0_hasRange l dC dI q_row q_cell len p1 p2) (cwV 2 hts gX4_margin_X0_hasRange rfl rfl rfl (by decide +kernel) ⟨Nat.le_of_ble_eq_true rfl, Nat.le_of_ble_eq_true rfl⟩) ⟨fun a U g mk q => by obtain ⟨q0, qP, qK⟩ := q; exact ⟨q0, qP, va_K.moved (u := U) (U := U.calling g mk a) (Vm.Alike.refl U.vm) qK⟩, kx_rc0 hKc hPc (q0 := 0) rfl, fun U hU hW => ⟨rfl, by rw [hU]; exact hPc, va_K.moved hW.alike hKc⟩⟩ rfl rfl hl.1 rfl (lv_room (Nat.le_of_ble_eq_true rfl)) dX4_margin_13 ⟨Nat.le_of_ble_eq_true rfl, Nat.le_of_ble_eq_true rfl⟩) (fun r_3 w_3 => ?_)
      rcases w_3 with ⟨rfl, w_3⟩ | ⟨rfl, w_3⟩
      · have w_3 : (0 ≤ p1.toInt ∧ p1.toInt < p2.toInt ∧ p2.toInt ≤ len.toInt) := w_3
        refine lv_if_ne (tgt := 22) hx hb dX4_margin_16 (by decide) (fun c_4 => ?_) (fun c_4 => ?_)
        · refine lv_iconst (v := 2) hx hb dX4_margin_22 (by decide) ?_
          refine lv_aload_n hx hb dX4_margin_23 rfl (lv_at hl 0 rfl) ?_
          refine va_get (D := (dC, dI)) (ci := 4) (v := .ref q_row) (C := RX4) (T := TX4) (N := 9) hx hb hts hi_4 hown hK hP 0 rfl rfl 0 (by decide) hf_12 (fun _ h9 => h9) rfl dX4_margin_24 ?_
          refine lv_iload_n hx hb dX4_margin_27 rfl (lv_at hl 1 rfl) ?_
          refine lv_iload_n hx hb dX4_margin_28 rfl (lv_at hl 2 rfl) ?_
          refine lv_iload_n hx hb dX4_margin_29 rfl (lv_at hl 3 rfl) ?_
          have hPc := hP.sub (ws' := [kx_0 q_row q_cell len, kx_a q_cell cyI 160 f]) [1, 2] rfl
          have hKc := hK
          refine vp_callSi (W.runV (As := [.int p0, .int p1, .int p2]) (rest := [.int 2]) ⟨hx, hb, hml, hown, hts⟩ (c_X0_oftenIn l dC dI q_row q_cell cyI len f p0 p1 p2 (om_10 w_3.1) (om_167 a1 w_3.2.2)) (cwV 3 hts gX4_margin_X0_oftenIn rfl rfl rfl (by decide +kernel) ⟨Nat.le_of_ble_eq_true rfl, Nat.le_of_ble_eq_true rfl⟩) ⟨fun a U g mk q => by obtain ⟨q0, qP, qK⟩ := q; exact ⟨q0, qP, va_K.moved (u := U) (U := U.calling g mk a) (Vm.Alike.refl U.vm) qK⟩, kx_rc0 hKc hPc (q0 := 0) rfl, fun U hU hW => ⟨rfl, by rw [hU]; exact hPc, va_K.moved hW.alike hKc⟩⟩ rfl rfl hl.1 rfl (lv_room (Nat.le_of_ble_eq_true rfl)) dX4_margin_30 ⟨Nat.le_of_ble_eq_true rfl, Nat.le_of_ble_eq_true rfl⟩) (fun r_5 w_5 => ?_)
          have w_5 : r_5.toInt = (cnt f p0 p1.toNatClampNeg (p2.toInt - p1.toInt).toNat : Int) := w_5
          refine lv_imul hx hb dX4_margin_33 ?_
          refine lv_topi (fun y_6 ey_6 => ?_)
          refine lv_iload_n hx hb dX4_margin_34 rfl (lv_at hl 3 rfl) ?_
          refine lv_iload_n hx hb dX4_margin_35 rfl (lv_at hl 2 rfl) ?_
          refine lv_isub hx hb dX4_margin_36 ?_
          refine lv_topi (fun y_7 ey_7 => ?_)
          have i_7 : y_7.toInt = p2.toInt - p1.toInt := ki_sub ey_7 rfl rfl (om_168 w_3.2.1) (om_169 a1 w_3.1 w_3.2.2)
          refine lv_isub hx hb dX4_margin_37 ?_
          refine lv_topi (fun y_8 ey_8 => ?_)
          exact W.iret (v := y_8) hx hb hr (hlocks := hlocks) (fun t ht hW => ⟨y_8, rfl, trivial, ht⟩) (fun q hq => by cases hq) dX4_margin_38
        · exact absurd c_4 (by decide)
      · have w_3 : (p1.toInt < 0 ∨ p2.toInt ≤ p1.toInt ∨ len.toInt < p2.toInt) := w_3
        refine lv_if_ne (tgt := 22) hx hb dX4_margin_16 (by decide) (fun c_9 => ?_) (fun c_9 => ?_)
        · exact absurd c_9 (by decide)
        · refine lv_ldc (v := (-40000)) hx hb hown hk_102 dX4_margin_19 ?_
          exact W.iret (v := (-40000)) hx hb hr (hlocks := hlocks) (fun t ht hW => ⟨(-40000), rfl, trivial, ht⟩) (fun q hq => by cases hq) dX4_margin_21
  · have w_1 : (p0.toInt < -32768 ∨ 32767 < p0.toInt) := w_1
    refine lv_if_eq (tgt := 19) hx hb dX4_margin_4 (by decide) (fun c_10 => ?_) (fun c_10 => ?_)
    · refine lv_ldc (v := (-40000)) hx hb hown hk_102 dX4_margin_19 ?_
      exact W.iret (v := (-40000)) hx hb hr (hlocks := hlocks) (fun t ht hW => ⟨(-40000), rfl, trivial, ht⟩) (fun q hq => by cases hq) dX4_margin_21
    · exact absurd c_10 (by decide)

set_option maxHeartbeats 4000000 in
set_option maxRecDepth 100000 in
theorem c_X4_farthestHeavy (l : Launch) (dC : Nat → ClassId) (dI : Nat → Nat → Nat) (m_ : Nat) (q_row : Nat) (q_t : Nat) (t_ : Nat) (h0 : Nat) (k0 : Nat) (w_ : Nat) (z_ : Nat) (slots : Int32) (old : Int32) (q_cell : Nat) (cyI : ClassId) (len : Int32) (f : Nat → Int32) (p0 : Int32) (p1 : Int32) (p2 : Int32) (p3 : Int32) (a0 : 0 ≤ len.toInt) (a1 : len.toInt ≤ 160) (b0 : 0 ≤ p1.toInt) : Met l yX4_farthestHeavy wsX4_farthestHeavy ({ frames := 1, cells := 0, slots := 0, locals := 45 }) (va_Pc [.ref m_, .int p0, .int p1, .int p2, .int p3] (fun U => va_P (dC, dI) vwCl [kx_4 m_ q_row q_t t_ h0 k0 w_ z_ slots old, kx_0 q_row q_cell len, kx_a q_cell cyI 160 f] U.heap ∧ va_K (dC, dI) vwCl [(cyI, .int)] U)) (vp_Si (fun r : Int32 => True)) 0 0 (fun _ => False) := by
  refine kx_stS (ws := wsX4_farthestHeavy) (cc := cX4_farthestHeavy) (maxL := 8) (ret := (some .int)) (by decide) rfl (Nat.le_of_ble_eq_true rfl) ?_
  intro p e s m below meth c ls hx hb hr hlocks hts hown hml hP hK hl
  have hown : s.vm.findClass RX4 = some m.cls := hown
  have hl : lv_has ls 8 [(0, .ref m_), (1, .int p0), (2, .int p1), (3, .int p2), (4, .int p3)] := hl
  have hf_12 := hts (.fieldLink RX4 12 "MajorityIndex" "row" "LMajorityIndex$Row;") (List.mem_of_getElem? (i := 1) rfl)
  have hi_4 : ∀ w ∈ u_ws RX4 TX4 9, w ∈ wsX4_farthestHeavy := fun w h => List.mem_cons_of_mem _ (List.mem_append_left _ (List.mem_append_right _ h))
  have hf_57 := hts (.fieldLink RX4 57 "MajorityIndex$Row" "length" "I") (List.mem_of_getElem? (i := 2) rfl)
  have hi_0 : ∀ w ∈ u_ws RX0 TX0 2, w ∈ wsX4_farthestHeavy := fun w h => List.mem_cons_of_mem _ (List.mem_append_right _ h)
  have hf_110 := hts (.fieldLink RX4 110 "MajorityIndex$Row" "cell" "[I") (List.mem_of_getElem? (i := 3) rfl)
  refine lv_iconst (v := (-1)) hx hb dX4_farthestHeavy_0 (by decide) ?_
  refine lv_istore (lv' := [(5, .int (-1)), (0, .ref m_), (1, .int p0), (2, .int p1), (3, .int p2), (4, .int p3)]) hx hb dX4_farthestHeavy_1 hl (by decide) rfl (fun ls hl => ?_)
  refine lv_iconst (v := 0) hx hb dX4_farthestHeavy_3 (by decide) ?_
  refine lv_istore (lv' := [(6, .int 0), (5, .int (-1)), (0, .ref m_), (1, .int p0), (2, .int p1), (3, .int p2), (4, .int p3)]) hx hb dX4_farthestHeavy_4 hl (by decide) rfl (fun ls hl => ?_)
  refine lv_iload_n hx hb dX4_farthestHeavy_6 rfl (lv_at hl 4 rfl) ?_
  refine lv_istore (lv' := [(7, .int p1), (6, .int 0), (5, .int (-1)), (0, .ref m_), (1, .int p0), (2, .int p1), (3, .int p2), (4, .int p3)]) hx hb dX4_farthestHeavy_7 hl (by decide) rfl (fun ls hl => ?_)
  have LP1 : ∀ (n : Nat) (i : Int32) (fa : Int32) (of : Int32), (p1.toInt ≤ i.toInt) → (len.toInt - i.toInt).toNat < n → ∀ (ls : Array Slot), lv_has ls 8 [(7, .int i), (6, .int of), (5, .int fa), (0, .ref m_), (1, .int p0), (2, .int p1), (3, .int p2), (4, .int p3)] → W p l e (headSpec wsX4_farthestHeavy ({ frames := 1, cells := 0, slots := 0, locals := 45 })).room s m ([.ref m_, .int p0, .int p1, .int p2, .int p3] : List Value).toArray below meth c s.heap [] 0 0 (MQ below (vp_Si (fun r : Int32 => True)) ([.ref m_, .int p0, .int p1, .int p2, .int p3] : List Value).toArray s 0 0 (fun _ => False)) (F0 m 9 ls []) := by
    intro n
    induction n with
    | zero => intro i fa of LP1_h0 hn; exact absurd hn (Nat.not_lt_zero _)
    | succ n ih1 =>
      intro i fa of LP1_h0 hn1 ls hl
      refine lv_iload hx hb dX4_farthestHeavy_9 (lv_at hl 0 rfl) ?_
      refine lv_aload_n hx hb dX4_farthestHeavy_11 rfl (lv_at hl 3 rfl) ?_
      refine va_get (D := (dC, dI)) (ci := 4) (v := .ref q_row) (C := RX4) (T := TX4) (N := 9) hx hb hts hi_4 hown hK hP 0 rfl rfl 0 (by decide) hf_12 (fun _ h9 => h9) rfl dX4_farthestHeavy_12 ?_
      refine va_get (D := (dC, dI)) (ci := 0) (v := .int len) (C := RX0) (T := TX0) (N := 2) hx hb hts hi_0 hown hK hP 1 rfl rfl 1 (by decide) hf_57 (fun _ h9 => h9) rfl dX4_farthestHeavy_15 ?_
      refine lv_icmp_ge (tgt := 67) hx hb dX4_farthestHeavy_18 (by decide) (fun c_1 => ?_) (fun c_1 => ?_)
      · have i_1 : len.toInt ≤ i.toInt := kc_le c_1
        refine lv_iload hx hb dX4_farthestHeavy_67 (lv_at hl 2 rfl) ?_
        exact W.iret (v := fa) hx hb hr (hlocks := hlocks) (fun t ht hW => ⟨fa, rfl, trivial, ht⟩) (fun q hq => by cases hq) dX4_farthestHeavy_69
      · have i_1 : i.toInt < len.toInt := kc_nle c_1
        refine lv_aload_n hx hb dX4_farthestHeavy_21 rfl (lv_at hl 3 rfl) ?_
        refine va_get (D := (dC, dI)) (ci := 4) (v := .ref q_row) (C := RX4) (T := TX4) (N := 9) hx hb hts hi_4 hown hK hP 0 rfl rfl 0 (by decide) hf_12 (fun _ h9 => h9) rfl dX4_farthestHeavy_22 ?_
        refine va_get (D := (dC, dI)) (ci := 0) (v := .ref q_cell) (C := RX0) (T := TX0) (N := 2) hx hb hts hi_0 hown hK hP 1 rfl rfl 0 (by decide) hf_110 (fun _ h9 => h9) rfl dX4_farthestHeavy_25 ?_
        refine lv_iload hx hb dX4_farthestHeavy_28 (lv_at hl 0 rfl) ?_
        refine va_iald hx hb hK hP 2 0 rfl rfl (ki_in (om_0 b0 LP1_h0) (om_1 a1 i_1)) dX4_farthestHeavy_30 ?_
        refine lv_topi (fun y_2 ey_2 => ?_)
        have j_2 : y_2.toInt = (f i.toNatClampNeg).toInt := congrArg Int32.toInt ey_2
        refine lv_iload_n hx hb dX4_farthestHeavy_31 rfl (lv_at hl 4 rfl) ?_
        refine lv_icmp_ne (tgt := 38) hx hb dX4_farthestHeavy_32 (by decide) (fun c_3 => ?_) (fun c_3 => ?_)
        · have i_3 : ¬ y_2.toInt = p0.toInt := kc_ne c_3
          refine lv_iload hx hb dX4_farthestHeavy_38 (lv_at hl 1 rfl) ?_
          refine lv_iload hx hb dX4_farthestHeavy_40 (lv_at hl 0 rfl) ?_
          refine lv_iconst (v := 1) hx hb dX4_farthestHeavy_42 (by decide) ?_
          refine lv_iadd hx hb dX4_farthestHeavy_43 ?_
          refine lv_topi (fun y_4 ey_4 => ?_)
          have i_4 : y_4.toInt = i.toInt + 1 := ki_add ey_4 rfl rfl (om_2 b0 LP1_h0) (om_3 a1 i_1)
          refine lv_iload_n hx hb dX4_farthestHeavy_44 rfl (lv_at hl 5 rfl) ?_
          refine lv_isub hx hb dX4_farthestHeavy_45 ?_
          refine lv_topi (fun y_5 ey_5 => ?_)
          refine lv_iload_n hx hb dX4_farthestHeavy_46 rfl (lv_at hl 6 rfl) ?_
          refine lv_iload hx hb dX4_farthestHeavy_47 (lv_at hl 7 rfl) ?_
          have hPc := hP.sub (ws' := []) [] rfl
          have hKc := hK.sub (tys' := []) [] rfl
          refine vp_callSi (W.runS (As := [.int of, .int y_5, .int p2, .int p3]) (rest := []) ⟨hx, hb, hml, hown, hts⟩ (c_X4_isHeavy l dC dI of y_5 p2 p3) (va_cwS 4 hts gX4_farthestHeavy_X4_isHeavy rfl rfl rfl (by decide +kernel) ⟨Nat.le_of_ble_eq_true rfl, Nat.le_of_ble_eq_true rfl⟩) ⟨fun a U g mk q => by obtain ⟨q0, qP, qK⟩ := q; exact ⟨q0, qP, va_K.moved (u := U) (U := U.calling g mk a) (Vm.Alike.refl U.vm) qK⟩, fun U hU hW => ⟨rfl, by rw [hU]; exact hPc, va_K.moved hW.alike hKc⟩⟩ rfl rfl hl.1 rfl (lv_room (Nat.le_of_ble_eq_true rfl)) dX4_farthestHeavy_49 ⟨Nat.le_of_ble_eq_true rfl, Nat.le_of_ble_eq_true rfl⟩) (fun r_6 w_6 => ?_)
          rcases w_6 with ⟨rfl, w_6⟩ | ⟨rfl, w_6⟩
          · have w_6 : (0 : Int) ≤ 1 := w_6
            refine lv_if_eq (tgt := 61) hx hb dX4_farthestHeavy_52 (by decide) (fun c_7 => ?_) (fun c_7 => ?_)
            · exact absurd c_7 (by decide)
            · refine lv_iload hx hb dX4_farthestHeavy_55 (lv_at hl 0 rfl) ?_
              refine lv_iconst (v := 1) hx hb dX4_farthestHeavy_57 (by decide) ?_
              refine lv_iadd hx hb dX4_farthestHeavy_58 ?_
              refine lv_topi (fun y_8 ey_8 => ?_)
              have i_8 : y_8.toInt = i.toInt + 1 := ki_add ey_8 rfl rfl (om_2 b0 LP1_h0) (om_3 a1 i_1)
              refine lv_istore (lv' := [(5, .int y_8), (7, .int i), (6, .int of), (0, .ref m_), (1, .int p0), (2, .int p1), (3, .int p2), (4, .int p3)]) hx hb dX4_farthestHeavy_59 hl (by decide) rfl (fun ls hl => ?_)
              obtain ⟨x_9, ex_9⟩ : ∃ y : Int32, y = i + 1 := ⟨_, rfl⟩
              have i_9 : x_9.toInt = i.toInt + 1 := ki_add ex_9 rfl rfl (om_2 b0 LP1_h0) (om_3 a1 i_1)
              refine lv_iinc (v := x_9) (lv' := [(7, .int x_9), (5, .int y_8), (6, .int of), (0, .ref m_), (1, .int p0), (2, .int p1), (3, .int p2), (4, .int p3)]) hx hb dX4_farthestHeavy_61 hl (k := 1) rfl (by rw [ex_9]; rfl) (by decide) rfl (fun ls hl => ?_)
              refine lv_goto (tgt := 9) hx hb dX4_farthestHeavy_64 (by decide) ?_
              exact ih1 x_9 y_8 of (om_4 LP1_h0 i_9) (om_mu hn1 (om_5 i_9) (om_6 i_1)) ls (lv_sub hl [0, 2, 1, 3, 4, 5, 6, 7] rfl)
          · have w_6 : (0 : Int) ≤ 1 := w_6
            refine lv_if_eq (tgt := 61) hx hb dX4_farthestHeavy_52 (by decide) (fun c_10 => ?_) (fun c_10 => ?_)
            · obtain ⟨x_11, ex_11⟩ : ∃ y : Int32, y = i + 1 := ⟨_, rfl⟩
              have i_11 : x_11.toInt = i.toInt + 1 := ki_add ex_11 rfl rfl (om_2 b0 LP1_h0) (om_3 a1 i_1)
              refine lv_iinc (v := x_11) (lv' := [(7, .int x_11), (6, .int of), (5, .int fa), (0, .ref m_), (1, .int p0), (2, .int p1), (3, .int p2), (4, .int p3)]) hx hb dX4_farthestHeavy_61 hl (k := 0) rfl (by rw [ex_11]; rfl) (by decide) rfl (fun ls hl => ?_)
              refine lv_goto (tgt := 9) hx hb dX4_farthestHeavy_64 (by decide) ?_
              exact ih1 x_11 fa of (om_4 LP1_h0 i_11) (om_mu hn1 (om_5 i_11) (om_6 i_1)) ls (lv_sub hl [0, 1, 2, 3, 4, 5, 6, 7] rfl)
            · exact absurd c_10 (by decide)
        · have i_3 : y_2.toInt = p0.toInt := kc_eq c_3
          obtain ⟨x_12, ex_12⟩ : ∃ y : Int32, y = of + 1 := ⟨_, rfl⟩
          refine lv_iinc (v := x_12) (lv' := [(6, .int x_12), (7, .int i), (5, .int fa), (0, .ref m_), (1, .int p0), (2, .int p1), (3, .int p2), (4, .int p3)]) hx hb dX4_farthestHeavy_35 hl (k := 1) rfl (by rw [ex_12]; rfl) (by decide) rfl (fun ls hl => ?_)
          refine lv_iload hx hb dX4_farthestHeavy_38 (lv_at hl 0 rfl) ?_
          refine lv_iload hx hb dX4_farthestHeavy_40 (lv_at hl 1 rfl) ?_
          refine lv_iconst (v := 1) hx hb dX4_farthestHeavy_42 (by decide) ?_
          refine lv_iadd hx hb dX4_farthestHeavy_43 ?_
          refine lv_topi (fun y_13 ey_13 => ?_)
          have i_13 : y_13.toInt = i.toInt + 1 := ki_add ey_13 rfl rfl (om_2 b0 LP1_h0) (om_3 a1 i_1)
          refine lv_iload_n hx hb dX4_farthestHeavy_44 rfl (lv_at hl 5 rfl) ?_
          refine lv_isub hx hb dX4_farthestHeavy_45 ?_
          refine lv_topi (fun y_14 ey_14 => ?_)
          refine lv_iload_n hx hb dX4_farthestHeavy_46 rfl (lv_at hl 6 rfl) ?_
          refine lv_iload hx hb dX4_farthestHeavy_47 (lv_at hl 7 rfl) ?_
          have hPc := hP.sub (ws' := []) [] rfl
          have hKc := hK.sub (tys' := []) [] rfl
          refine vp_callSi (W.runS (As := [.int x_12, .int y_14, .int p2, .int p3]) (rest := []) ⟨hx, hb, hml, hown, hts⟩ (c_X4_isHeavy l dC dI x_12 y_14 p2 p3) (va_cwS 4 hts gX4_farthestHeavy_X4_isHeavy rfl rfl rfl (by decide +kernel) ⟨Nat.le_of_ble_eq_true rfl, Nat.le_of_ble_eq_true rfl⟩) ⟨fun a U g mk q => by obtain ⟨q0, qP, qK⟩ := q; exact ⟨q0, qP, va_K.moved (u := U) (U := U.calling g mk a) (Vm.Alike.refl U.vm) qK⟩, fun U hU hW => ⟨rfl, by rw [hU]; exact hPc, va_K.moved hW.alike hKc⟩⟩ rfl rfl hl.1 rfl (lv_room (Nat.le_of_ble_eq_true rfl)) dX4_farthestHeavy_49 ⟨Nat.le_of_ble_eq_true rfl, Nat.le_of_ble_eq_true rfl⟩) (fun r_15 w_15 => ?_)
          rcases w_15 with ⟨rfl, w_15⟩ | ⟨rfl, w_15⟩
          · have w_15 : (0 : Int) ≤ 1 := w_15
            refine lv_if_eq (tgt := 61) hx hb dX4_farthestHeavy_52 (by decide) (fun c_16 => ?_) (fun c_16 => ?_)
            · exact absurd c_16 (by decide)
            · refine lv_iload hx hb dX4_farthestHeavy_55 (lv_at hl 1 rfl) ?_
              refine lv_iconst (v := 1) hx hb dX4_farthestHeavy_57 (by decide) ?_
              refine lv_iadd hx hb dX4_farthestHeavy_58 ?_
              refine lv_topi (fun y_17 ey_17 => ?_)
              have i_17 : y_17.toInt = i.toInt + 1 := ki_add ey_17 rfl rfl (om_2 b0 LP1_h0) (om_3 a1 i_1)
              refine lv_istore (lv' := [(5, .int y_17), (6, .int x_12), (7, .int i), (0, .ref m_), (1, .int p0), (2, .int p1), (3, .int p2), (4, .int p3)]) hx hb dX4_farthestHeavy_59 hl (by decide) rfl (fun ls hl => ?_)
              obtain ⟨x_18, ex_18⟩ : ∃ y : Int32, y = i + 1 := ⟨_, rfl⟩
              have i_18 : x_18.toInt = i.toInt + 1 := ki_add ex_18 rfl rfl (om_2 b0 LP1_h0) (om_3 a1 i_1)
              refine lv_iinc (v := x_18) (lv' := [(7, .int x_18), (5, .int y_17), (6, .int x_12), (0, .ref m_), (1, .int p0), (2, .int p1), (3, .int p2), (4, .int p3)]) hx hb dX4_farthestHeavy_61 hl (k := 2) rfl (by rw [ex_18]; rfl) (by decide) rfl (fun ls hl => ?_)
              refine lv_goto (tgt := 9) hx hb dX4_farthestHeavy_64 (by decide) ?_
              exact ih1 x_18 y_17 x_12 (om_4 LP1_h0 i_18) (om_mu hn1 (om_5 i_18) (om_6 i_1)) ls (lv_sub hl [0, 2, 1, 3, 4, 5, 6, 7] rfl)
          · have w_15 : (0 : Int) ≤ 1 := w_15
            refine lv_if_eq (tgt := 61) hx hb dX4_farthestHeavy_52 (by decide) (fun c_19 => ?_) (fun c_19 => ?_)
            · obtain ⟨x_20, ex_20⟩ : ∃ y : Int32, y = i + 1 := ⟨_, rfl⟩
              have i_20 : x_20.toInt = i.toInt + 1 := ki_add ex_20 rfl rfl (om_2 b0 LP1_h0) (om_3 a1 i_1)
              refine lv_iinc (v := x_20) (lv' := [(7, .int x_20), (6, .int x_12), (5, .int fa), (0, .ref m_), (1, .int p0), (2, .int p1), (3, .int p2), (4, .int p3)]) hx hb dX4_farthestHeavy_61 hl (k := 1) rfl (by rw [ex_20]; rfl) (by decide) rfl (fun ls hl => ?_)
              refine lv_goto (tgt := 9) hx hb dX4_farthestHeavy_64 (by decide) ?_
              exact ih1 x_20 fa x_12 (om_4 LP1_h0 i_20) (om_mu hn1 (om_5 i_20) (om_6 i_1)) ls (lv_sub hl [0, 1, 2, 3, 4, 5, 6, 7] rfl)
            · exact absurd c_19 (by decide)
  have k_21 : ((-1) : Int32).toInt = -1 := rfl
  have k_22 : (0 : Int32).toInt = 0 := rfl
  exact LP1 ((len.toInt - p1.toInt : Int).toNat + 1) p1 (-1) 0 om_7 (Nat.lt_succ_self _) ls (lv_sub hl [0, 1, 2, 3, 4, 5, 6, 7] rfl)

set_option maxHeartbeats 4000000 in
set_option maxRecDepth 100000 in
theorem c_X4_longest (l : Launch) (dC : Nat → ClassId) (dI : Nat → Nat → Nat) (m_ : Nat) (q_row : Nat) (q_t : Nat) (t_ : Nat) (h0 : Nat) (k0 : Nat) (w_ : Nat) (z_ : Nat) (slots : Int32) (old : Int32) (q_cell : Nat) (cyI : ClassId) (len : Int32) (f : Nat → Int32) (p0 : Int32) (p1 : Int32) (p2 : Int32) (p3 : Int32) (a0 : 0 ≤ len.toInt) (a1 : len.toInt ≤ 160) : Met l yX4_longest wsX4_longest ({ frames := 2, cells := 0, slots := 0, locals := 90 }) (va_Pc [.ref m_, .int p0, .int p1, .int p2, .int p3] (fun U => va_P (dC, dI) vwCl [kx_4 m_ q_row q_t t_ h0 k0 w_ z_ slots old, kx_0 q_row q_cell len, kx_a q_cell cyI 160 f] U.heap ∧ va_K (dC, dI) vwCl [(cyI, .int)] U)) (vp_Si (fun r : Int32 => True)) 0 0 (fun _ => False) := by
  refine kx_stS (ws := wsX4_longest) (cc := cX4_longest) (maxL := 9) (ret := (some .int)) (by decide) rfl (Nat.le_of_ble_eq_true rfl) ?_
  intro p e s m below meth c ls hx hb hr hlocks hts hown hml hP hK hl
  have hown : s.vm.findClass RX4 = some m.cls := hown
  have hl : lv_has ls 9 [(0, .ref m_), (1, .int p0), (2, .int p1), (3, .int p2), (4, .int p3)] := hl
  have hf_12 := hts (.fieldLink RX4 12 "MajorityIndex" "row" "LMajorityIndex$Row;") (List.mem_of_getElem? (i := 1) rfl)
  have hi_4 : ∀ w ∈ u_ws RX4 TX4 9, w ∈ wsX4_longest := fun w h => List.mem_cons_of_mem _ (List.mem_append_left _ (List.mem_append_right _ h))
  have hf_57 := hts (.fieldLink RX4 57 "MajorityIndex$Row" "length" "I") (List.mem_of_getElem? (i := 2) rfl)
  have hi_0 : ∀ w ∈ u_ws RX0 TX0 2, w ∈ wsX4_longest := fun w h => List.mem_cons_of_mem _ (List.mem_append_right _ h)
  refine lv_iload_n hx hb dX4_longest_0 rfl (lv_at hl 1 rfl) ?_
  have hPc := hP.sub (ws' := []) [] rfl
  have hKc := hK.sub (tys' := []) [] rfl
  refine vp_callSi (W.runS (As := [.int p0]) (rest := []) ⟨hx, hb, hml, hown, hts⟩ (c_X4_isValue l dC dI p0) (va_cwS 1 hts gX4_longest_X4_isValue rfl rfl rfl (by decide +kernel) ⟨Nat.le_of_ble_eq_true rfl, Nat.le_of_ble_eq_true rfl⟩) ⟨fun a U g mk q => by obtain ⟨q0, qP, qK⟩ := q; exact ⟨q0, qP, va_K.moved (u := U) (U := U.calling g mk a) (Vm.Alike.refl U.vm) qK⟩, fun U hU hW => ⟨rfl, by rw [hU]; exact hPc, va_K.moved hW.alike hKc⟩⟩ rfl rfl hl.1 rfl (lv_room (Nat.le_of_ble_eq_true rfl)) dX4_longest_1 ⟨Nat.le_of_ble_eq_true rfl, Nat.le_of_ble_eq_true rfl⟩) (fun r_1 w_1 => ?_)
  rcases w_1 with ⟨rfl, w_1⟩ | ⟨rfl, w_1⟩
  · have w_1 : (-32768 ≤ p0.toInt ∧ p0.toInt ≤ 32767) := w_1
    refine lv_if_eq (tgt := 26) hx hb dX4_longest_4 (by decide) (fun c_2 => ?_) (fun c_2 => ?_)
    · exact absurd c_2 (by decide)
    · refine lv_iload_n hx hb dX4_longest_7 rfl (lv_at hl 2 rfl) ?_
      refine lv_iload_n hx hb dX4_longest_8 rfl (lv_at hl 3 rfl) ?_
      have hPc := hP.sub (ws' := []) [] rfl
      have hKc := hK.sub (tys' := []) [] rfl
      refine vp_callSi (W.runS (As := [.int p1, .int p2]) (rest := []) ⟨hx, hb, hml, hown, hts⟩ (c_X4_isShare l dC dI p1 p2) (va_cwS 2 hts gX4_longest_X4_isShare rfl rfl rfl (by decide +kernel) ⟨Nat.le_of_ble_eq_true rfl, Nat.le_of_ble_eq_true rfl⟩) ⟨fun a U g mk q => by obtain ⟨q0, qP, qK⟩ := q; exact ⟨q0, qP, va_K.moved (u := U) (U := U.calling g mk a) (Vm.Alike.refl U.vm) qK⟩, fun U hU hW => ⟨rfl, by rw [hU]; exact hPc, va_K.moved hW.alike hKc⟩⟩ rfl rfl hl.1 rfl (lv_room (Nat.le_of_ble_eq_true rfl)) dX4_longest_9 ⟨Nat.le_of_ble_eq_true rfl, Nat.le_of_ble_eq_true rfl⟩) (fun r_3 w_3 => ?_)
      rcases w_3 with ⟨rfl, w_3⟩ | ⟨rfl, w_3⟩
      · have w_3 : (1 ≤ p1.toInt ∧ p1.toInt ≤ p2.toInt ∧ p2.toInt ≤ 999) := w_3
        refine lv_if_eq (tgt := 26) hx hb dX4_longest_12 (by decide) (fun c_4 => ?_) (fun c_4 => ?_)
        · exact absurd c_4 (by decide)
        · refine lv_iload hx hb dX4_longest_15 (lv_at hl 4 rfl) ?_
          refine lv_if_lt (tgt := 26) hx hb dX4_longest_17 (by decide) (fun c_5 => ?_) (fun c_5 => ?_)
          · have i_5 : p3.toInt < 0 := kc_lt c_5
            refine lv_iconst (v := (-1)) hx hb dX4_longest_26 (by decide) ?_
            exact W.iret (v := (-1)) hx hb hr (hlocks := hlocks) (fun t ht hW => ⟨(-1), rfl, trivial, ht⟩) (fun q hq => by cases hq) dX4_longest_27
          · have i_5 : 0 ≤ p3.toInt := kc_nlt c_5
            refine lv_iload hx hb dX4_longest_20 (lv_at hl 4 rfl) ?_
            refine lv_iconst (v := 1) hx hb dX4_longest_22 (by decide) ?_
            refine lv_icmp_le (tgt := 28) hx hb dX4_longest_23 (by decide) (fun c_6 => ?_) (fun c_6 => ?_)
            · have i_6 : p3.toInt ≤ 1 := kc_le c_6
              refine lv_iconst (v := (-1)) hx hb dX4_longest_28 (by decide) ?_
              refine lv_istore (lv' := [(5, .int (-1)), (0, .ref m_), (1, .int p0), (2, .int p1), (3, .int p2), (4, .int p3)]) hx hb dX4_longest_29 hl (by decide) rfl (fun ls hl => ?_)
              refine lv_iconst (v := (-1)) hx hb dX4_longest_31 (by decide) ?_
              refine lv_istore (lv' := [(6, .int (-1)), (5, .int (-1)), (0, .ref m_), (1, .int p0), (2, .int p1), (3, .int p2), (4, .int p3)]) hx hb dX4_longest_32 hl (by decide) rfl (fun ls hl => ?_)
              refine lv_iconst (v := 0) hx hb dX4_longest_34 (by decide) ?_
              refine lv_istore (lv' := [(7, .int 0), (6, .int (-1)), (5, .int (-1)), (0, .ref m_), (1, .int p0), (2, .int p1), (3, .int p2), (4, .int p3)]) hx hb dX4_longest_35 hl (by decide) rfl (fun ls hl => ?_)
              have LP1 : ∀ (n : Nat) (i : Int32) (bf : Int32) (bt : Int32), (0 ≤ i.toInt) → (len.toInt - i.toInt).toNat < n → ∀ (ls : Array Slot), lv_has ls 9 [(7, .int i), (6, .int bt), (5, .int bf), (0, .ref m_), (1, .int p0), (2, .int p1), (3, .int p2), (4, .int p3)] → W p l e (headSpec wsX4_longest ({ frames := 2, cells := 0, slots := 0, locals := 90 })).room s m ([.ref m_, .int p0, .int p1, .int p2, .int p3] : List Value).toArray below meth c s.heap [] 0 0 (MQ below (vp_Si (fun r : Int32 => True)) ([.ref m_, .int p0, .int p1, .int p2, .int p3] : List Value).toArray s 0 0 (fun _ => False)) (F0 m 37 ls []) := by
                intro n
                induction n with
                | zero => intro i bf bt LP1_h0 hn; exact absurd hn (Nat.not_lt_zero _)
                | succ n ih1 =>
                  intro i bf bt LP1_h0 hn1 ls hl
                  refine lv_iload hx hb dX4_longest_37 (lv_at hl 0 rfl) ?_
                  refine lv_aload_n hx hb dX4_longest_39 rfl (lv_at hl 3 rfl) ?_
                  refine va_get (D := (dC, dI)) (ci := 4) (v := .ref q_row) (C := RX4) (T := TX4) (N := 9) hx hb hts hi_4 hown hK hP 0 rfl rfl 0 (by decide) hf_12 (fun _ h9 => h9) rfl dX4_longest_40 ?_
                  refine va_get (D := (dC, dI)) (ci := 0) (v := .int len) (C := RX0) (T := TX0) (N := 2) hx hb hts hi_0 hown hK hP 1 rfl rfl 1 (by decide) hf_57 (fun _ h9 => h9) rfl dX4_longest_43 ?_
                  refine lv_icmp_ge (tgt := 93) hx hb dX4_longest_46 (by decide) (fun c_7 => ?_) (fun c_7 => ?_)
                  · have i_7 : len.toInt ≤ i.toInt := kc_le c_7
                    refine lv_iload hx hb dX4_longest_93 (lv_at hl 7 rfl) ?_
                    refine lv_if_ne (tgt := 103) hx hb dX4_longest_95 (by decide) (fun c_8 => ?_) (fun c_8 => ?_)
                    · have i_8 : ¬ p3.toInt = 0 := kc_ne c_8
                      refine lv_iload hx hb dX4_longest_103 (lv_at hl 1 rfl) ?_
                      exact W.iret (v := bt) hx hb hr (hlocks := hlocks) (fun t ht hW => ⟨bt, rfl, trivial, ht⟩) (fun q hq => by cases hq) dX4_longest_105
                    · have i_8 : p3.toInt = 0 := kc_eq c_8
                      refine lv_iload hx hb dX4_longest_98 (lv_at hl 2 rfl) ?_
                      refine lv_goto (tgt := 105) hx hb dX4_longest_100 (by decide) ?_
                      exact W.iret (v := bf) hx hb hr (hlocks := hlocks) (fun t ht hW => ⟨bf, rfl, trivial, ht⟩) (fun q hq => by cases hq) dX4_longest_105
                  · have i_7 : i.toInt < len.toInt := kc_nle c_7
                    refine lv_aload_n hx hb dX4_longest_49 rfl (lv_at hl 3 rfl) ?_
                    refine lv_iload_n hx hb dX4_longest_50 rfl (lv_at hl 4 rfl) ?_
                    refine lv_iload hx hb dX4_longest_51 (lv_at hl 0 rfl) ?_
                    refine lv_iload_n hx hb dX4_longest_53 rfl (lv_at hl 5 rfl) ?_
                    refine lv_iload_n hx hb dX4_longest_54 rfl (lv_at hl 6 rfl) ?_
                    have hPc := hP
                    have hKc := hK
                    refine vp_callSi (W.runV (As := [.int p0, .int i, .int p1, .int p2]) (rest := []) ⟨hx, hb, hml, hown, hts⟩ (c_X4_farthestHeavy l dC dI m_ q_row q_t t_ h0 k0 w_ z_ slots old q_cell cyI len f p0 i p1 p2 a0 a1 LP1_h0) (cwV 4 hts gX4_longest_X4_farthestHeavy rfl rfl rfl (by decide +kernel) ⟨Nat.le_of_ble_eq_true rfl, Nat.le_of_ble_eq_true rfl⟩) ⟨fun a U g mk q => by obtain ⟨q0, qP, qK⟩ := q; exact ⟨q0, qP, va_K.moved (u := U) (U := U.calling g mk a) (Vm.Alike.refl U.vm) qK⟩, kx_rc4 hKc hPc (q0 := 0) rfl, fun U hU hW => ⟨rfl, by rw [hU]; exact hPc, va_K.moved hW.alike hKc⟩⟩ rfl rfl hl.1 rfl (lv_room (Nat.le_of_ble_eq_true rfl)) dX4_longest_55 ⟨Nat.le_of_ble_eq_true rfl, Nat.le_of_ble_eq_true rfl⟩) (fun r_9 w_9 => ?_)
                    refine lv_istore (lv' := [(8, .int r_9), (7, .int i), (6, .int bt), (5, .int bf), (0, .ref m_), (1, .int p0), (2, .int p1), (3, .int p2), (4, .int p3)]) hx hb dX4_longest_58 hl (by decide) rfl (fun ls hl => ?_)
                    refine lv_iload hx hb dX4_longest_60 (lv_at hl 0 rfl) ?_
                    refine lv_iconst (v := (-1)) hx hb dX4_longest_62 (by decide) ?_
                    refine lv_icmp_eq (tgt := 87) hx hb dX4_longest_63 (by decide) (fun c_10 => ?_) (fun c_10 => ?_)
                    · have i_10 : r_9.toInt = (-1) := kc_eq c_10
                      obtain ⟨x_11, ex_11⟩ : ∃ y : Int32, y = i + 1 := ⟨_, rfl⟩
                      have i_11 : x_11.toInt = i.toInt + 1 := ki_add ex_11 rfl rfl (om_13 LP1_h0) (om_3 a1 i_7)
                      refine lv_iinc (v := x_11) (lv' := [(7, .int x_11), (8, .int r_9), (6, .int bt), (5, .int bf), (0, .ref m_), (1, .int p0), (2, .int p1), (3, .int p2), (4, .int p3)]) hx hb dX4_longest_87 hl (k := 1) rfl (by rw [ex_11]; rfl) (by decide) rfl (fun ls hl => ?_)
                      refine lv_goto (tgt := 37) hx hb dX4_longest_90 (by decide) ?_
                      exact ih1 x_11 bf bt (om_34 LP1_h0 i_11) (om_mu hn1 (om_5 i_11) (om_6 i_7)) ls (lv_sub hl [0, 2, 3, 4, 5, 6, 7, 8] rfl)
                    · have i_10 : ¬ r_9.toInt = (-1) := kc_ne c_10
                      refine lv_iload hx hb dX4_longest_66 (lv_at hl 0 rfl) ?_
                      refine lv_iload hx hb dX4_longest_68 (lv_at hl 1 rfl) ?_
                      refine lv_isub hx hb dX4_longest_70 ?_
                      refine lv_topi (fun y_12 ey_12 => ?_)
                      refine lv_iload hx hb dX4_longest_71 (lv_at hl 2 rfl) ?_
                      refine lv_iload hx hb dX4_longest_73 (lv_at hl 3 rfl) ?_
                      refine lv_isub hx hb dX4_longest_75 ?_
                      refine lv_topi (fun y_13 ey_13 => ?_)
                      refine lv_icmp_le (tgt := 87) hx hb dX4_longest_76 (by decide) (fun c_14 => ?_) (fun c_14 => ?_)
                      · have i_14 : y_12.toInt ≤ y_13.toInt := kc_le c_14
                        obtain ⟨x_15, ex_15⟩ : ∃ y : Int32, y = i + 1 := ⟨_, rfl⟩
                        have i_15 : x_15.toInt = i.toInt + 1 := ki_add ex_15 rfl rfl (om_13 LP1_h0) (om_3 a1 i_7)
                        refine lv_iinc (v := x_15) (lv' := [(7, .int x_15), (8, .int r_9), (6, .int bt), (5, .int bf), (0, .ref m_), (1, .int p0), (2, .int p1), (3, .int p2), (4, .int p3)]) hx hb dX4_longest_87 hl (k := 1) rfl (by rw [ex_15]; rfl) (by decide) rfl (fun ls hl => ?_)
                        refine lv_goto (tgt := 37) hx hb dX4_longest_90 (by decide) ?_
                        exact ih1 x_15 bf bt (om_34 LP1_h0 i_15) (om_mu hn1 (om_5 i_15) (om_6 i_7)) ls (lv_sub hl [0, 2, 3, 4, 5, 6, 7, 8] rfl)
                      · have i_14 : y_13.toInt < y_12.toInt := kc_nle c_14
                        refine lv_iload hx hb dX4_longest_79 (lv_at hl 1 rfl) ?_
                        refine lv_istore (lv' := [(5, .int i), (8, .int r_9), (7, .int i), (6, .int bt), (0, .ref m_), (1, .int p0), (2, .int p1), (3, .int p2), (4, .int p3)]) hx hb dX4_longest_81 hl (by decide) rfl (fun ls hl => ?_)
                        refine lv_iload hx hb dX4_longest_83 (lv_at hl 1 rfl) ?_
                        refine lv_istore (lv' := [(6, .int r_9), (5, .int i), (8, .int r_9), (7, .int i), (0, .ref m_), (1, .int p0), (2, .int p1), (3, .int p2), (4, .int p3)]) hx hb dX4_longest_85 hl (by decide) rfl (fun ls hl => ?_)
                        obtain ⟨x_16, ex_16⟩ : ∃ y : Int32, y = i + 1 := ⟨_, rfl⟩
                        have i_16 : x_16.toInt = i.toInt + 1 := ki_add ex_16 rfl rfl (om_13 LP1_h0) (om_3 a1 i_7)
                        refine lv_iinc (v := x_16) (lv' := [(7, .int x_16), (6, .int r_9), (5, .int i), (8, .int r_9), (0, .ref m_), (1, .int p0), (2, .int p1), (3, .int p2), (4, .int p3)]) hx hb dX4_longest_87 hl (k := 3) rfl (by rw [ex_16]; rfl) (by decide) rfl (fun ls hl => ?_)
                        refine lv_goto (tgt := 37) hx hb dX4_longest_90 (by decide) ?_
                        exact ih1 x_16 i r_9 (om_34 LP1_h0 i_16) (om_mu hn1 (om_5 i_16) (om_6 i_7)) ls (lv_sub hl [0, 1, 2, 4, 5, 6, 7, 8] rfl)
              have k_17 : (0 : Int32).toInt = 0 := rfl
              have k_18 : ((-1) : Int32).toInt = -1 := rfl
              have k_19 : ((-1) : Int32).toInt = -1 := rfl
              exact LP1 ((len.toInt - 0 : Int).toNat + 1) 0 (-1) (-1) om_35 (Nat.lt_succ_self _) ls (lv_sub hl [0, 1, 2, 3, 4, 5, 6, 7] rfl)
            · have i_6 : 1 < p3.toInt := kc_nle c_6
              refine lv_iconst (v := (-1)) hx hb dX4_longest_26 (by decide) ?_
              exact W.iret (v := (-1)) hx hb hr (hlocks := hlocks) (fun t ht hW => ⟨(-1), rfl, trivial, ht⟩) (fun q hq => by cases hq) dX4_longest_27
      · have w_3 : (p1.toInt < 1 ∨ p2.toInt < p1.toInt ∨ 999 < p2.toInt) := w_3
        refine lv_if_eq (tgt := 26) hx hb dX4_longest_12 (by decide) (fun c_20 => ?_) (fun c_20 => ?_)
        · refine lv_iconst (v := (-1)) hx hb dX4_longest_26 (by decide) ?_
          exact W.iret (v := (-1)) hx hb hr (hlocks := hlocks) (fun t ht hW => ⟨(-1), rfl, trivial, ht⟩) (fun q hq => by cases hq) dX4_longest_27
        · exact absurd c_20 (by decide)
  · have w_1 : (p0.toInt < -32768 ∨ 32767 < p0.toInt) := w_1
    refine lv_if_eq (tgt := 26) hx hb dX4_longest_4 (by decide) (fun c_21 => ?_) (fun c_21 => ?_)
    · refine lv_iconst (v := (-1)) hx hb dX4_longest_26 (by decide) ?_
      exact W.iret (v := (-1)) hx hb hr (hlocks := hlocks) (fun t ht hW => ⟨(-1), rfl, trivial, ht⟩) (fun q hq => by cases hq) dX4_longest_27
    · exact absurd c_21 (by decide)

set_option maxHeartbeats 4000000 in
set_option maxRecDepth 100000 in
theorem c_X4_cut (l : Launch) (dC : Nat → ClassId) (dI : Nat → Nat → Nat) (m_ : Nat) (q_row : Nat) (q_t : Nat) (t_ : Nat) (h0 : Nat) (k0 : Nat) (w_ : Nat) (z_ : Nat) (slots : Int32) (old : Int32) (q_cell : Nat) (cyI : ClassId) (len : Int32) (f : Nat → Int32) (p0 : Int32) (p1 : Int32) (a0 : 0 ≤ len.toInt) (a1 : len.toInt ≤ 160) : Met l yX4_cut wsX4_cut ({ frames := 2, cells := 0, slots := 0, locals := 90 }) (va_Pc [.ref m_, .int p0, .int p1] (fun U => va_P (dC, dI) vwCl [kx_4 m_ q_row q_t t_ h0 k0 w_ z_ slots old, kx_0 q_row q_cell len, kx_a q_cell cyI 160 f] U.heap ∧ va_K (dC, dI) vwCl [(cyI, .int)] U ∧ va_Nw (.methodLinkNest RX0 28 yX4_isHeavy RX4) U)) (vp_Si (fun r : Int32 => True)) 0 0 (fun _ => False) := by
  refine Met.ofW (cc := cX4_cut) (maxL := 6) (ret := (some .int)) (by decide) rfl ?_
  intro p e s m args below meth c s₁ B hml hv
  obtain ⟨rfl, hP, hK, hN0⟩ := hv
  have hx := B.exec
  have hb := B.bytes
  have hr := B.returns
  have hts := atoms_spec (ws := wsX4_cut) B.pre
  have hown : s.vm.findClass RX4 = some m.cls := findClass_of_methodNamed B.named
  have hlocks := B.notSynchronized
  have hP : va_P (dC, dI) vwCl [kx_4 m_ q_row q_t t_ h0 k0 w_ z_ slots old, kx_0 q_row q_cell len, kx_a q_cell cyI 160 f] s.heap := hP
  have hl := lv_entry ([.ref m_, .int p0, .int p1]) (n := 6) (Nat.le_of_ble_eq_true rfl)
  rw [lg_entry_eq]
  generalize (lg_sl ([.ref m_, .int p0, .int p1]) ++ List.replicate (6 - (lg_sl ([.ref m_, .int p0, .int p1])).length) Slot.unset).toArray = ls at hl ⊢
  have hl : lv_has ls 6 [(0, .ref m_), (1, .int p0), (2, .int p1)] := hl
  have hf_12 := hts (.fieldLink RX4 12 "MajorityIndex" "row" "LMajorityIndex$Row;") (List.mem_of_getElem? (i := 1) rfl)
  have hi_4 : ∀ w ∈ u_ws RX4 TX4 9, w ∈ wsX4_cut := fun w h => List.mem_cons_of_mem _ (List.mem_append_left _ (List.mem_append_right _ h))
  have hk_102 := hts (.constant RX4 102 (-40000)) (List.mem_of_getElem? (i := 2) rfl)
  refine lv_aload_n hx hb dX4_cut_0 rfl (lv_at hl 0 rfl) ?_
  refine va_get (D := (dC, dI)) (ci := 4) (v := .ref q_row) (C := RX4) (T := TX4) (N := 9) hx hb hts hi_4 hown hK hP 0 rfl rfl 0 (by decide) hf_12 (fun _ h9 => h9) rfl dX4_cut_1 ?_
  refine lv_iload_n hx hb dX4_cut_4 rfl (lv_at hl 1 rfl) ?_
  refine lv_iload_n hx hb dX4_cut_5 rfl (lv_at hl 2 rfl) ?_
  have hPc := hP.sub (ws' := [kx_0 q_row q_cell len]) [1] rfl
  have hKc := hK.sub (tys' := []) [] rfl
  refine vp_callSi (W.runV (As := [.int p0, .int p1]) (rest := []) ⟨hx, hb, hml, hown, hts⟩ (c_X0_hasRange l dC dI q_row q_cell len p0 p1) (cwV 2 hts gX4_cut_X0_hasRange rfl rfl rfl (by decide +kernel) ⟨Nat.le_of_ble_eq_true rfl, Nat.le_of_ble_eq_true rfl⟩) ⟨fun a U g mk q => by obtain ⟨q0, qP, qK⟩ := q; exact ⟨q0, qP, va_K.moved (u := U) (U := U.calling g mk a) (Vm.Alike.refl U.vm) qK⟩, kx_rc0 hKc hPc (q0 := 0) rfl, fun U hU hW => ⟨rfl, by rw [hU]; exact hPc, va_K.moved hW.alike hKc⟩⟩ rfl rfl hl.1 rfl (lv_room (Nat.le_of_ble_eq_true rfl)) dX4_cut_6 ⟨Nat.le_of_ble_eq_true rfl, Nat.le_of_ble_eq_true rfl⟩) (fun r_1 w_1 => ?_)
  rcases w_1 with ⟨rfl, w_1⟩ | ⟨rfl, w_1⟩
  · have w_1 : (0 ≤ p0.toInt ∧ p0.toInt < p1.toInt ∧ p1.toInt ≤ len.toInt) := w_1
    refine lv_if_ne (tgt := 14) hx hb dX4_cut_9 (by decide) (fun c_2 => ?_) (fun c_2 => ?_)
    · refine lv_iload_n hx hb dX4_cut_14 rfl (lv_at hl 1 rfl) ?_
      refine lv_iconst (v := 1) hx hb dX4_cut_15 (by decide) ?_
      refine lv_iadd hx hb dX4_cut_16 ?_
      refine lv_topi (fun y_3 ey_3 => ?_)
      have i_3 : y_3.toInt = p0.toInt + 1 := ki_add ey_3 rfl rfl (om_13 w_1.1) (om_170 a1 w_1.2.1 w_1.2.2)
      refine lv_istore_n (lv' := [(3, .int y_3), (0, .ref m_), (1, .int p0), (2, .int p1)]) hx hb dX4_cut_17 rfl hl (by decide) rfl (fun ls hl => ?_)
      have LP1 : ∀ (n : Nat) (i : Int32), (p0.toInt ≤ i.toInt) → (p1.toInt - i.toInt).toNat < n → ∀ (ls : Array Slot), lv_has ls 6 [(3, .int i), (0, .ref m_), (1, .int p0), (2, .int p1)] → W p l e (headSpec wsX4_cut ({ frames := 2, cells := 0, slots := 0, locals := 90 })).room s m ([.ref m_, .int p0, .int p1] : List Value).toArray below meth c s.heap [] 0 0 (MQ below (vp_Si (fun r : Int32 => True)) ([.ref m_, .int p0, .int p1] : List Value).toArray s 0 0 (fun _ => False)) (F0 m 18 ls []) := by
        intro n
        induction n with
        | zero => intro i LP1_h0 hn; exact absurd hn (Nat.not_lt_zero _)
        | succ n ih1 =>
          intro i LP1_h0 hn1 ls hl
          refine lv_iload_n hx hb dX4_cut_18 rfl (lv_at hl 0 rfl) ?_
          refine lv_iload_n hx hb dX4_cut_19 rfl (lv_at hl 3 rfl) ?_
          refine lv_icmp_ge (tgt := 74) hx hb dX4_cut_20 (by decide) (fun c_4 => ?_) (fun c_4 => ?_)
          · have i_4 : p1.toInt ≤ i.toInt := kc_le c_4
            refine lv_iconst (v := (-1)) hx hb dX4_cut_74 (by decide) ?_
            exact W.iret (v := (-1)) hx hb hr (hlocks := hlocks) (fun t ht hW => ⟨(-1), rfl, trivial, ht⟩) (fun q hq => by cases hq) dX4_cut_75
          · have i_4 : i.toInt < p1.toInt := kc_nle c_4
            refine lv_aload_n hx hb dX4_cut_23 rfl (lv_at hl 1 rfl) ?_
            refine va_get (D := (dC, dI)) (ci := 4) (v := .ref q_row) (C := RX4) (T := TX4) (N := 9) hx hb hts hi_4 hown hK hP 0 rfl rfl 0 (by decide) hf_12 (fun _ h9 => h9) rfl dX4_cut_24 ?_
            refine lv_iload_n hx hb dX4_cut_27 rfl (lv_at hl 2 rfl) ?_
            refine lv_iload_n hx hb dX4_cut_28 rfl (lv_at hl 0 rfl) ?_
            have hPc := hP.sub (ws' := [kx_0 q_row q_cell len, kx_a q_cell cyI 160 f]) [1, 2] rfl
            have hKc := hK
            refine vp_callSi (W.runV (As := [.int p0, .int i]) (rest := []) ⟨hx, hb, hml, hown, hts⟩ (c_X0_leader l dC dI q_row q_cell cyI len f p0 i (om_10 w_1.1) (om_171 a1 w_1.2.2 i_4)) (cwV 2 hts gX4_cut_X0_leader rfl rfl rfl (by decide +kernel) ⟨Nat.le_of_ble_eq_true rfl, Nat.le_of_ble_eq_true rfl⟩) ⟨fun a U g mk q => by obtain ⟨q0, qP, qK, qn0⟩ := q; exact ⟨q0, qP, va_K.moved (u := U) (U := U.calling g mk a) (Vm.Alike.refl U.vm) qK, va_Nw.same (u := U) (U := U.calling g mk a) rfl rfl qn0⟩, kx_rc0 hKc hPc (q0 := 0) rfl, fun U hU hW => ⟨rfl, by rw [hU]; exact hPc, va_K.moved hW.alike hKc, va_Nw.warmM hW hN0⟩⟩ rfl rfl hl.1 rfl (lv_room (Nat.le_of_ble_eq_true rfl)) dX4_cut_29 ⟨Nat.le_of_ble_eq_true rfl, Nat.le_of_ble_eq_true rfl⟩) (fun r_5 w_5 => ?_)
            refine lv_istore (lv' := [(4, .int r_5), (3, .int i), (0, .ref m_), (1, .int p0), (2, .int p1)]) hx hb dX4_cut_32 hl (by decide) rfl (fun ls hl => ?_)
            refine lv_aload_n hx hb dX4_cut_34 rfl (lv_at hl 2 rfl) ?_
            refine va_get (D := (dC, dI)) (ci := 4) (v := .ref q_row) (C := RX4) (T := TX4) (N := 9) hx hb hts hi_4 hown hK hP 0 rfl rfl 0 (by decide) hf_12 (fun _ h9 => h9) rfl dX4_cut_35 ?_
            refine lv_iload_n hx hb dX4_cut_38 rfl (lv_at hl 1 rfl) ?_
            refine lv_iload_n hx hb dX4_cut_39 rfl (lv_at hl 4 rfl) ?_
            have hPc := hP.sub (ws' := [kx_0 q_row q_cell len, kx_a q_cell cyI 160 f]) [1, 2] rfl
            have hKc := hK
            refine vp_callSi (W.runV (As := [.int i, .int p1]) (rest := []) ⟨hx, hb, hml, hown, hts⟩ (c_X0_leader l dC dI q_row q_cell cyI len f i p1 (om_0 w_1.1 LP1_h0) (om_167 a1 w_1.2.2)) (cwV 2 hts gX4_cut_X0_leader rfl rfl rfl (by decide +kernel) ⟨Nat.le_of_ble_eq_true rfl, Nat.le_of_ble_eq_true rfl⟩) ⟨fun a U g mk q => by obtain ⟨q0, qP, qK, qn0⟩ := q; exact ⟨q0, qP, va_K.moved (u := U) (U := U.calling g mk a) (Vm.Alike.refl U.vm) qK, va_Nw.same (u := U) (U := U.calling g mk a) rfl rfl qn0⟩, kx_rc0 hKc hPc (q0 := 0) rfl, fun U hU hW => ⟨rfl, by rw [hU]; exact hPc, va_K.moved hW.alike hKc, va_Nw.warmM hW hN0⟩⟩ rfl rfl hl.1 rfl (lv_room (Nat.le_of_ble_eq_true rfl)) dX4_cut_40 ⟨Nat.le_of_ble_eq_true rfl, Nat.le_of_ble_eq_true rfl⟩) (fun r_6 w_6 => ?_)
            refine lv_istore (lv' := [(5, .int r_6), (4, .int r_5), (3, .int i), (0, .ref m_), (1, .int p0), (2, .int p1)]) hx hb dX4_cut_43 hl (by decide) rfl (fun ls hl => ?_)
            refine lv_iload hx hb dX4_cut_45 (lv_at hl 1 rfl) ?_
            refine lv_ldc (v := (-40000)) hx hb hown hk_102 dX4_cut_47 ?_
            refine lv_icmp_eq (tgt := 68) hx hb dX4_cut_49 (by decide) (fun c_7 => ?_) (fun c_7 => ?_)
            · have i_7 : r_5.toInt = (-40000) := kc_eq c_7
              obtain ⟨x_8, ex_8⟩ : ∃ y : Int32, y = i + 1 := ⟨_, rfl⟩
              have i_8 : x_8.toInt = i.toInt + 1 := ki_add ex_8 rfl rfl (om_2 w_1.1 LP1_h0) (om_172 a1 w_1.2.2 i_4)
              refine lv_iinc (v := x_8) (lv' := [(3, .int x_8), (5, .int r_6), (4, .int r_5), (0, .ref m_), (1, .int p0), (2, .int p1)]) hx hb dX4_cut_68 hl (k := 2) rfl (by rw [ex_8]; rfl) (by decide) rfl (fun ls hl => ?_)
              refine lv_goto (tgt := 18) hx hb dX4_cut_71 (by decide) ?_
              exact ih1 x_8 (om_4 LP1_h0 i_8) (om_mu hn1 (om_5 i_8) (om_6 i_4)) ls (lv_sub hl [0, 3, 4, 5] rfl)
            · have i_7 : ¬ r_5.toInt = (-40000) := kc_ne c_7
              refine lv_iload hx hb dX4_cut_52 (lv_at hl 0 rfl) ?_
              refine lv_ldc (v := (-40000)) hx hb hown hk_102 dX4_cut_54 ?_
              refine lv_icmp_eq (tgt := 68) hx hb dX4_cut_56 (by decide) (fun c_9 => ?_) (fun c_9 => ?_)
              · have i_9 : r_6.toInt = (-40000) := kc_eq c_9
                obtain ⟨x_10, ex_10⟩ : ∃ y : Int32, y = i + 1 := ⟨_, rfl⟩
                have i_10 : x_10.toInt = i.toInt + 1 := ki_add ex_10 rfl rfl (om_2 w_1.1 LP1_h0) (om_172 a1 w_1.2.2 i_4)
                refine lv_iinc (v := x_10) (lv' := [(3, .int x_10), (5, .int r_6), (4, .int r_5), (0, .ref m_), (1, .int p0), (2, .int p1)]) hx hb dX4_cut_68 hl (k := 2) rfl (by rw [ex_10]; rfl) (by decide) rfl (fun ls hl => ?_)
                refine lv_goto (tgt := 18) hx hb dX4_cut_71 (by decide) ?_
                exact ih1 x_10 (om_4 LP1_h0 i_10) (om_mu hn1 (om_5 i_10) (om_6 i_4)) ls (lv_sub hl [0, 3, 4, 5] rfl)
              · have i_9 : ¬ r_6.toInt = (-40000) := kc_ne c_9
                refine lv_iload hx hb dX4_cut_59 (lv_at hl 1 rfl) ?_
                refine lv_iload hx hb dX4_cut_61 (lv_at hl 0 rfl) ?_
                refine lv_icmp_eq (tgt := 68) hx hb dX4_cut_63 (by decide) (fun c_11 => ?_) (fun c_11 => ?_)
                · have i_11 : r_5.toInt = r_6.toInt := kc_eq c_11
                  obtain ⟨x_12, ex_12⟩ : ∃ y : Int32, y = i + 1 := ⟨_, rfl⟩
                  have i_12 : x_12.toInt = i.toInt + 1 := ki_add ex_12 rfl rfl (om_2 w_1.1 LP1_h0) (om_172 a1 w_1.2.2 i_4)
                  refine lv_iinc (v := x_12) (lv' := [(3, .int x_12), (5, .int r_6), (4, .int r_5), (0, .ref m_), (1, .int p0), (2, .int p1)]) hx hb dX4_cut_68 hl (k := 2) rfl (by rw [ex_12]; rfl) (by decide) rfl (fun ls hl => ?_)
                  refine lv_goto (tgt := 18) hx hb dX4_cut_71 (by decide) ?_
                  exact ih1 x_12 (om_4 LP1_h0 i_12) (om_mu hn1 (om_5 i_12) (om_6 i_4)) ls (lv_sub hl [0, 3, 4, 5] rfl)
                · have i_11 : ¬ r_5.toInt = r_6.toInt := kc_ne c_11
                  refine lv_iload_n hx hb dX4_cut_66 rfl (lv_at hl 2 rfl) ?_
                  exact W.iret (v := i) hx hb hr (hlocks := hlocks) (fun t ht hW => ⟨i, rfl, trivial, ht⟩) (fun q hq => by cases hq) dX4_cut_67
      exact LP1 ((p1.toInt - y_3.toInt : Int).toNat + 1) y_3 (om_173 i_3) (Nat.lt_succ_self _) ls (lv_sub hl [0, 1, 2, 3] rfl)
    · exact absurd c_2 (by decide)
  · have w_1 : (p0.toInt < 0 ∨ p1.toInt ≤ p0.toInt ∨ len.toInt < p1.toInt) := w_1
    refine lv_if_ne (tgt := 14) hx hb dX4_cut_9 (by decide) (fun c_13 => ?_) (fun c_13 => ?_)
    · exact absurd c_13 (by decide)
    · refine lv_iconst (v := (-1)) hx hb dX4_cut_12 (by decide) ?_
      exact W.iret (v := (-1)) hx hb hr (hlocks := hlocks) (fun t ht hW => ⟨(-1), rfl, trivial, ht⟩) (fun q hq => by cases hq) dX4_cut_13

set_option maxHeartbeats 4000000 in
set_option maxRecDepth 100000 in
theorem c_X4_mostWithoutHeavy (l : Launch) (dC : Nat → ClassId) (dI : Nat → Nat → Nat) (p0 : Int32) (p1 : Int32) (p2 : Int32) : Met l yX4_mostWithoutHeavy wsX4_mostWithoutHeavy ({ frames := 0, cells := 0, slots := 0, locals := 0 }) (va_Pc [.int p0, .int p1, .int p2] (fun U => va_P (dC, dI) vwCl [] U.heap ∧ va_K (dC, dI) vwCl [] U)) (vp_Si (fun r : Int32 => True)) 0 0 (fun _ => False) := by
  refine kx_stS (ws := wsX4_mostWithoutHeavy) (cc := cX4_mostWithoutHeavy) (maxL := 3) (ret := (some .int)) (by decide) rfl (Nat.le_of_ble_eq_true rfl) ?_
  intro p e s m below meth c ls hx hb hr hlocks hts hown hml hP hK hl
  have hown : s.vm.findClass RX4 = some m.cls := hown
  have hl : lv_has ls 3 [(0, .int p0), (1, .int p1), (2, .int p2)] := hl
  refine lv_iload_n hx hb dX4_mostWithoutHeavy_0 rfl (lv_at hl 2 rfl) ?_
  refine lv_if_le (tgt := 12) hx hb dX4_mostWithoutHeavy_1 (by decide) (fun c_1 => ?_) (fun c_1 => ?_)
  · have i_1 : p2.toInt ≤ 0 := kc_le c_1
    refine lv_iconst (v := 0) hx hb dX4_mostWithoutHeavy_12 (by decide) ?_
    exact W.iret (v := 0) hx hb hr (hlocks := hlocks) (fun t ht hW => ⟨0, rfl, trivial, ht⟩) (fun q hq => by cases hq) dX4_mostWithoutHeavy_13
  · have i_1 : 0 < p2.toInt := kc_nle c_1
    refine lv_iload_n hx hb dX4_mostWithoutHeavy_4 rfl (lv_at hl 1 rfl) ?_
    refine lv_iload_n hx hb dX4_mostWithoutHeavy_5 rfl (lv_at hl 0 rfl) ?_
    refine lv_imul hx hb dX4_mostWithoutHeavy_6 ?_
    refine lv_topi (fun y_2 ey_2 => ?_)
    refine lv_iload_n hx hb dX4_mostWithoutHeavy_7 rfl (lv_at hl 2 rfl) ?_
    refine lv_idiv hx hb dX4_mostWithoutHeavy_8 (ki_ne0 (by omega)) ?_
    refine lv_topi (fun y_3 ey_3 => ?_)
    refine lv_goto (tgt := 13) hx hb dX4_mostWithoutHeavy_9 (by decide) ?_
    exact W.iret (v := y_3) hx hb hr (hlocks := hlocks) (fun t ht hW => ⟨y_3, rfl, trivial, ht⟩) (fun q hq => by cases hq) dX4_mostWithoutHeavy_13

set_option maxHeartbeats 4000000 in
set_option maxRecDepth 100000 in
theorem c_X4_needs (l : Launch) (dC : Nat → ClassId) (dI : Nat → Nat → Nat) (m_ : Nat) (q_row : Nat) (q_t : Nat) (t_ : Nat) (h0 : Nat) (k0 : Nat) (w_ : Nat) (z_ : Nat) (slots : Int32) (old : Int32) (q_cell : Nat) (cyI : ClassId) (len : Int32) (f : Nat → Int32) (p0 : Int32) (p1 : Int32) (p2 : Int32) (p3 : Int32) (p4 : Int32) (a0 : 0 ≤ len.toInt) (a1 : len.toInt ≤ 160) : Met l yX4_needs wsX4_needs ({ frames := 1, cells := 0, slots := 0, locals := 45 }) (va_Pc [.ref m_, .int p0, .int p1, .int p2, .int p3, .int p4] (fun U => va_P (dC, dI) vwCl [kx_4 m_ q_row q_t t_ h0 k0 w_ z_ slots old, kx_0 q_row q_cell len, kx_a q_cell cyI 160 f] U.heap ∧ va_K (dC, dI) vwCl [(cyI, .int)] U)) (vp_Si (fun r : Int32 => True)) 0 0 (fun _ => False) := by
  refine kx_stS (ws := wsX4_needs) (cc := cX4_needs) (maxL := 7) (ret := (some .int)) (by decide) rfl (Nat.le_of_ble_eq_true rfl) ?_
  intro p e s m below meth c ls hx hb hr hlocks hts hown hml hP hK hl
  have hown : s.vm.findClass RX4 = some m.cls := hown
  have hl : lv_has ls 7 [(0, .ref m_), (1, .int p0), (2, .int p1), (3, .int p2), (4, .int p3), (5, .int p4)] := hl
  have hf_12 := hts (.fieldLink RX4 12 "MajorityIndex" "row" "LMajorityIndex$Row;") (List.mem_of_getElem? (i := 1) rfl)
  have hi_4 : ∀ w ∈ u_ws RX4 TX4 9, w ∈ wsX4_needs := fun w h => List.mem_cons_of_mem _ (List.mem_append_left _ (List.mem_append_right _ h))
  have hm_96 := hts (.methodLink RX4 96 Lib.Math.max.name) (List.mem_of_getElem? (i := 2) rfl)
  have hms_max := hts (.static Lib.Math.max.name) (List.mem_of_getElem? (i := 3) rfl)
  have hz_math := hts (.initialized "java/lang/Math") (List.mem_of_getElem? (i := 4) rfl)
  have hmc_max := hts (.code Lib.Math.max.name Lib.Math.max.code 2 (some .int)) (List.mem_of_getElem? (i := 5) rfl)
  refine lv_iload_n hx hb dX4_needs_0 rfl (lv_at hl 1 rfl) ?_
  have hPc := hP.sub (ws' := []) [] rfl
  have hKc := hK.sub (tys' := []) [] rfl
  refine vp_callSi (W.runS (As := [.int p0]) (rest := []) ⟨hx, hb, hml, hown, hts⟩ (c_X4_isValue l dC dI p0) (va_cwS 1 hts gX4_needs_X4_isValue rfl rfl rfl (by decide +kernel) ⟨Nat.le_of_ble_eq_true rfl, Nat.le_of_ble_eq_true rfl⟩) ⟨fun a U g mk q => by obtain ⟨q0, qP, qK⟩ := q; exact ⟨q0, qP, va_K.moved (u := U) (U := U.calling g mk a) (Vm.Alike.refl U.vm) qK⟩, fun U hU hW => ⟨rfl, by rw [hU]; exact hPc, va_K.moved hW.alike hKc⟩⟩ rfl rfl hl.1 rfl (lv_room (Nat.le_of_ble_eq_true rfl)) dX4_needs_1 ⟨Nat.le_of_ble_eq_true rfl, Nat.le_of_ble_eq_true rfl⟩) (fun r_1 w_1 => ?_)
  rcases w_1 with ⟨rfl, w_1⟩ | ⟨rfl, w_1⟩
  · have w_1 : (-32768 ≤ p0.toInt ∧ p0.toInt ≤ 32767) := w_1
    refine lv_if_eq (tgt := 29) hx hb dX4_needs_4 (by decide) (fun c_2 => ?_) (fun c_2 => ?_)
    · exact absurd c_2 (by decide)
    · refine lv_aload_n hx hb dX4_needs_7 rfl (lv_at hl 0 rfl) ?_
      refine va_get (D := (dC, dI)) (ci := 4) (v := .ref q_row) (C := RX4) (T := TX4) (N := 9) hx hb hts hi_4 hown hK hP 0 rfl rfl 0 (by decide) hf_12 (fun _ h9 => h9) rfl dX4_needs_8 ?_
      refine lv_iload_n hx hb dX4_needs_11 rfl (lv_at hl 2 rfl) ?_
      refine lv_iload_n hx hb dX4_needs_12 rfl (lv_at hl 3 rfl) ?_
      have hPc := hP.sub (ws' := [kx_0 q_row q_cell len]) [1] rfl
      have hKc := hK.sub (tys' := []) [] rfl
      refine vp_callSi (W.runV (As := [.int p1, .int p2]) (rest := []) ⟨hx, hb, hml, hown, hts⟩ (c_X0_hasRange l dC dI q_row q_cell len p1 p2) (cwV 2 hts gX4_needs_X0_hasRange rfl rfl rfl (by decide +kernel) ⟨Nat.le_of_ble_eq_true rfl, Nat.le_of_ble_eq_true rfl⟩) ⟨fun a U g mk q => by obtain ⟨q0, qP, qK⟩ := q; exact ⟨q0, qP, va_K.moved (u := U) (U := U.calling g mk a) (Vm.Alike.refl U.vm) qK⟩, kx_rc0 hKc hPc (q0 := 0) rfl, fun U hU hW => ⟨rfl, by rw [hU]; exact hPc, va_K.moved hW.alike hKc⟩⟩ rfl rfl hl.1 rfl (lv_room (Nat.le_of_ble_eq_true rfl)) dX4_needs_13 ⟨Nat.le_of_ble_eq_true rfl, Nat.le_of_ble_eq_true rfl⟩) (fun r_3 w_3 => ?_)
      rcases w_3 with ⟨rfl, w_3⟩ | ⟨rfl, w_3⟩
      · have w_3 : (0 ≤ p1.toInt ∧ p1.toInt < p2.toInt ∧ p2.toInt ≤ len.toInt) := w_3
        refine lv_if_eq (tgt := 29) hx hb dX4_needs_16 (by decide) (fun c_4 => ?_) (fun c_4 => ?_)
        · exact absurd c_4 (by decide)
        · refine lv_iload hx hb dX4_needs_19 (lv_at hl 4 rfl) ?_
          refine lv_iload hx hb dX4_needs_21 (lv_at hl 5 rfl) ?_
          have hPc := hP.sub (ws' := []) [] rfl
          have hKc := hK.sub (tys' := []) [] rfl
          refine vp_callSi (W.runS (As := [.int p3, .int p4]) (rest := []) ⟨hx, hb, hml, hown, hts⟩ (c_X4_isShare l dC dI p3 p4) (va_cwS 2 hts gX4_needs_X4_isShare rfl rfl rfl (by decide +kernel) ⟨Nat.le_of_ble_eq_true rfl, Nat.le_of_ble_eq_true rfl⟩) ⟨fun a U g mk q => by obtain ⟨q0, qP, qK⟩ := q; exact ⟨q0, qP, va_K.moved (u := U) (U := U.calling g mk a) (Vm.Alike.refl U.vm) qK⟩, fun U hU hW => ⟨rfl, by rw [hU]; exact hPc, va_K.moved hW.alike hKc⟩⟩ rfl rfl hl.1 rfl (lv_room (Nat.le_of_ble_eq_true rfl)) dX4_needs_23 ⟨Nat.le_of_ble_eq_true rfl, Nat.le_of_ble_eq_true rfl⟩) (fun r_5 w_5 => ?_)
          rcases w_5 with ⟨rfl, w_5⟩ | ⟨rfl, w_5⟩
          · have w_5 : (1 ≤ p3.toInt ∧ p3.toInt ≤ p4.toInt ∧ p4.toInt ≤ 999) := w_5
            refine lv_if_ne (tgt := 31) hx hb dX4_needs_26 (by decide) (fun c_6 => ?_) (fun c_6 => ?_)
            · refine lv_iload_n hx hb dX4_needs_31 rfl (lv_at hl 3 rfl) ?_
              refine lv_iload_n hx hb dX4_needs_32 rfl (lv_at hl 2 rfl) ?_
              refine lv_isub hx hb dX4_needs_33 ?_
              refine lv_topi (fun y_7 ey_7 => ?_)
              have i_7 : y_7.toInt = p2.toInt - p1.toInt := ki_sub ey_7 rfl rfl (om_168 w_3.2.1) (om_169 a1 w_3.1 w_3.2.2)
              refine lv_iload hx hb dX4_needs_34 (lv_at hl 4 rfl) ?_
              refine lv_iload hx hb dX4_needs_36 (lv_at hl 5 rfl) ?_
              have hPc := hP.sub (ws' := []) [] rfl
              have hKc := hK.sub (tys' := []) [] rfl
              refine vp_callSi (W.runS (As := [.int y_7, .int p3, .int p4]) (rest := []) ⟨hx, hb, hml, hown, hts⟩ (c_X4_mostWithoutHeavy l dC dI y_7 p3 p4) (va_cwS 3 hts gX4_needs_X4_mostWithoutHeavy rfl rfl rfl (by decide +kernel) ⟨Nat.le_of_ble_eq_true rfl, Nat.le_of_ble_eq_true rfl⟩) ⟨fun a U g mk q => by obtain ⟨q0, qP, qK⟩ := q; exact ⟨q0, qP, va_K.moved (u := U) (U := U.calling g mk a) (Vm.Alike.refl U.vm) qK⟩, fun U hU hW => ⟨rfl, by rw [hU]; exact hPc, va_K.moved hW.alike hKc⟩⟩ rfl rfl hl.1 rfl (lv_room (Nat.le_of_ble_eq_true rfl)) dX4_needs_38 ⟨Nat.le_of_ble_eq_true rfl, Nat.le_of_ble_eq_true rfl⟩) (fun r_8 w_8 => ?_)
              refine lv_iconst (v := 1) hx hb dX4_needs_41 (by decide) ?_
              refine lv_iadd hx hb dX4_needs_42 ?_
              refine lv_topi (fun y_9 ey_9 => ?_)
              refine lv_istore (lv' := [(6, .int y_9), (0, .ref m_), (1, .int p0), (2, .int p1), (3, .int p2), (4, .int p3), (5, .int p4)]) hx hb dX4_needs_43 hl (by decide) rfl (fun ls hl => ?_)
              refine lv_iload hx hb dX4_needs_45 (lv_at hl 0 rfl) ?_
              refine lv_iload_n hx hb dX4_needs_47 rfl (lv_at hl 4 rfl) ?_
              refine lv_iload_n hx hb dX4_needs_48 rfl (lv_at hl 3 rfl) ?_
              refine lv_isub hx hb dX4_needs_49 ?_
              refine lv_topi (fun y_10 ey_10 => ?_)
              have i_10 : y_10.toInt = p2.toInt - p1.toInt := ki_sub ey_10 rfl rfl (om_168 w_3.2.1) (om_169 a1 w_3.1 w_3.2.2)
              refine lv_icmp_le (tgt := 56) hx hb dX4_needs_50 (by decide) (fun c_11 => ?_) (fun c_11 => ?_)
              · have i_11 : y_9.toInt ≤ y_10.toInt := kc_le c_11
                refine lv_iconst (v := 0) hx hb dX4_needs_56 (by decide) ?_
                refine lv_iload hx hb dX4_needs_57 (lv_at hl 0 rfl) ?_
                refine lv_aload_n hx hb dX4_needs_59 rfl (lv_at hl 1 rfl) ?_
                refine va_get (D := (dC, dI)) (ci := 4) (v := .ref q_row) (C := RX4) (T := TX4) (N := 9) hx hb hts hi_4 hown hK hP 0 rfl rfl 0 (by decide) hf_12 (fun _ h9 => h9) rfl dX4_needs_60 ?_
                refine lv_iload_n hx hb dX4_needs_63 rfl (lv_at hl 2 rfl) ?_
                refine lv_iload_n hx hb dX4_needs_64 rfl (lv_at hl 3 rfl) ?_
                refine lv_iload_n hx hb dX4_needs_65 rfl (lv_at hl 4 rfl) ?_
                have hPc := hP.sub (ws' := [kx_0 q_row q_cell len, kx_a q_cell cyI 160 f]) [1, 2] rfl
                have hKc := hK
                refine vp_callSi (W.runV (As := [.int p0, .int p1, .int p2]) (rest := [.int y_9, .int 0]) ⟨hx, hb, hml, hown, hts⟩ (c_X0_oftenIn l dC dI q_row q_cell cyI len f p0 p1 p2 (om_10 w_3.1) (om_167 a1 w_3.2.2)) (cwV 3 hts gX4_needs_X0_oftenIn rfl rfl rfl (by decide +kernel) ⟨Nat.le_of_ble_eq_true rfl, Nat.le_of_ble_eq_true rfl⟩) ⟨fun a U g mk q => by obtain ⟨q0, qP, qK⟩ := q; exact ⟨q0, qP, va_K.moved (u := U) (U := U.calling g mk a) (Vm.Alike.refl U.vm) qK⟩, kx_rc0 hKc hPc (q0 := 0) rfl, fun U hU hW => ⟨rfl, by rw [hU]; exact hPc, va_K.moved hW.alike hKc⟩⟩ rfl rfl hl.1 rfl (lv_room (Nat.le_of_ble_eq_true rfl)) dX4_needs_66 ⟨Nat.le_of_ble_eq_true rfl, Nat.le_of_ble_eq_true rfl⟩) (fun r_12 w_12 => ?_)
                have w_12 : r_12.toInt = (cnt f p0 p1.toNatClampNeg (p2.toInt - p1.toInt).toNat : Int) := w_12
                refine lv_isub hx hb dX4_needs_69 ?_
                refine lv_topi (fun y_13 ey_13 => ?_)
                refine va_mmax hx hb (hml.trans hl.1.symm) hown hm_96 hms_max hz_math hmc_max (Nat.le_of_ble_eq_true rfl) (Nat.le_of_ble_eq_true rfl) (Nat.le_of_ble_eq_true rfl) (Nat.le_of_ble_eq_true rfl) dX4_needs_70 ?_
                refine lv_topi (fun y_14 ey_14 => ?_)
                have i_15 : (0 ≤ y_13.toInt ∧ y_14.toInt = y_13.toInt) ∨ (y_13.toInt < 0 ∧ y_14.toInt = 0) := ki_max ey_14 rfl rfl
                exact W.iret (v := y_14) hx hb hr (hlocks := hlocks) (fun t ht hW => ⟨y_14, rfl, trivial, ht⟩) (fun q hq => by cases hq) dX4_needs_73
              · have i_11 : y_10.toInt < y_9.toInt := kc_nle c_11
                refine lv_bipush (v := (-2)) hx hb dX4_needs_53 (by decide) ?_
                exact W.iret (v := (-2)) hx hb hr (hlocks := hlocks) (fun t ht hW => ⟨(-2), rfl, trivial, ht⟩) (fun q hq => by cases hq) dX4_needs_55
            · exact absurd c_6 (by decide)
          · have w_5 : (p3.toInt < 1 ∨ p4.toInt < p3.toInt ∨ 999 < p4.toInt) := w_5
            refine lv_if_ne (tgt := 31) hx hb dX4_needs_26 (by decide) (fun c_16 => ?_) (fun c_16 => ?_)
            · exact absurd c_16 (by decide)
            · refine lv_iconst (v := (-1)) hx hb dX4_needs_29 (by decide) ?_
              exact W.iret (v := (-1)) hx hb hr (hlocks := hlocks) (fun t ht hW => ⟨(-1), rfl, trivial, ht⟩) (fun q hq => by cases hq) dX4_needs_30
      · have w_3 : (p1.toInt < 0 ∨ p2.toInt ≤ p1.toInt ∨ len.toInt < p2.toInt) := w_3
        refine lv_if_eq (tgt := 29) hx hb dX4_needs_16 (by decide) (fun c_17 => ?_) (fun c_17 => ?_)
        · refine lv_iconst (v := (-1)) hx hb dX4_needs_29 (by decide) ?_
          exact W.iret (v := (-1)) hx hb hr (hlocks := hlocks) (fun t ht hW => ⟨(-1), rfl, trivial, ht⟩) (fun q hq => by cases hq) dX4_needs_30
        · exact absurd c_17 (by decide)
  · have w_1 : (p0.toInt < -32768 ∨ 32767 < p0.toInt) := w_1
    refine lv_if_eq (tgt := 29) hx hb dX4_needs_4 (by decide) (fun c_18 => ?_) (fun c_18 => ?_)
    · refine lv_iconst (v := (-1)) hx hb dX4_needs_29 (by decide) ?_
      exact W.iret (v := (-1)) hx hb hr (hlocks := hlocks) (fun t ht hW => ⟨(-1), rfl, trivial, ht⟩) (fun q hq => by cases hq) dX4_needs_30
    · exact absurd c_18 (by decide)

set_option maxHeartbeats 4000000 in
set_option maxRecDepth 100000 in
theorem c_X4_spares (l : Launch) (dC : Nat → ClassId) (dI : Nat → Nat → Nat) (m_ : Nat) (q_row : Nat) (q_t : Nat) (t_ : Nat) (h0 : Nat) (k0 : Nat) (w_ : Nat) (z_ : Nat) (slots : Int32) (old : Int32) (q_cell : Nat) (cyI : ClassId) (len : Int32) (f : Nat → Int32) (p0 : Int32) (p1 : Int32) (p2 : Int32) (p3 : Int32) (p4 : Int32) (a0 : 0 ≤ len.toInt) (a1 : len.toInt ≤ 160) : Met l yX4_spares wsX4_spares ({ frames := 1, cells := 0, slots := 0, locals := 45 }) (va_Pc [.ref m_, .int p0, .int p1, .int p2, .int p3, .int p4] (fun U => va_P (dC, dI) vwCl [kx_4 m_ q_row q_t t_ h0 k0 w_ z_ slots old, kx_0 q_row q_cell len, kx_a q_cell cyI 160 f] U.heap ∧ va_K (dC, dI) vwCl [(cyI, .int)] U)) (vp_Si (fun r : Int32 => True)) 0 0 (fun _ => False) := by
  refine kx_stS (ws := wsX4_spares) (cc := cX4_spares) (maxL := 6) (ret := (some .int)) (by decide) rfl (Nat.le_of_ble_eq_true rfl) ?_
  intro p e s m below meth c ls hx hb hr hlocks hts hown hml hP hK hl
  have hown : s.vm.findClass RX4 = some m.cls := hown
  have hl : lv_has ls 6 [(0, .ref m_), (1, .int p0), (2, .int p1), (3, .int p2), (4, .int p3), (5, .int p4)] := hl
  have hf_12 := hts (.fieldLink RX4 12 "MajorityIndex" "row" "LMajorityIndex$Row;") (List.mem_of_getElem? (i := 1) rfl)
  have hi_4 : ∀ w ∈ u_ws RX4 TX4 9, w ∈ wsX4_spares := fun w h => List.mem_cons_of_mem _ (List.mem_append_left _ (List.mem_append_right _ h))
  have hm_96 := hts (.methodLink RX4 96 Lib.Math.max.name) (List.mem_of_getElem? (i := 2) rfl)
  have hms_max := hts (.static Lib.Math.max.name) (List.mem_of_getElem? (i := 3) rfl)
  have hz_math := hts (.initialized "java/lang/Math") (List.mem_of_getElem? (i := 4) rfl)
  have hmc_max := hts (.code Lib.Math.max.name Lib.Math.max.code 2 (some .int)) (List.mem_of_getElem? (i := 5) rfl)
  refine lv_iload_n hx hb dX4_spares_0 rfl (lv_at hl 1 rfl) ?_
  have hPc := hP.sub (ws' := []) [] rfl
  have hKc := hK.sub (tys' := []) [] rfl
  refine vp_callSi (W.runS (As := [.int p0]) (rest := []) ⟨hx, hb, hml, hown, hts⟩ (c_X4_isValue l dC dI p0) (va_cwS 1 hts gX4_spares_X4_isValue rfl rfl rfl (by decide +kernel) ⟨Nat.le_of_ble_eq_true rfl, Nat.le_of_ble_eq_true rfl⟩) ⟨fun a U g mk q => by obtain ⟨q0, qP, qK⟩ := q; exact ⟨q0, qP, va_K.moved (u := U) (U := U.calling g mk a) (Vm.Alike.refl U.vm) qK⟩, fun U hU hW => ⟨rfl, by rw [hU]; exact hPc, va_K.moved hW.alike hKc⟩⟩ rfl rfl hl.1 rfl (lv_room (Nat.le_of_ble_eq_true rfl)) dX4_spares_1 ⟨Nat.le_of_ble_eq_true rfl, Nat.le_of_ble_eq_true rfl⟩) (fun r_1 w_1 => ?_)
  rcases w_1 with ⟨rfl, w_1⟩ | ⟨rfl, w_1⟩
  · have w_1 : (-32768 ≤ p0.toInt ∧ p0.toInt ≤ 32767) := w_1
    refine lv_if_eq (tgt := 29) hx hb dX4_spares_4 (by decide) (fun c_2 => ?_) (fun c_2 => ?_)
    · exact absurd c_2 (by decide)
    · refine lv_aload_n hx hb dX4_spares_7 rfl (lv_at hl 0 rfl) ?_
      refine va_get (D := (dC, dI)) (ci := 4) (v := .ref q_row) (C := RX4) (T := TX4) (N := 9) hx hb hts hi_4 hown hK hP 0 rfl rfl 0 (by decide) hf_12 (fun _ h9 => h9) rfl dX4_spares_8 ?_
      refine lv_iload_n hx hb dX4_spares_11 rfl (lv_at hl 2 rfl) ?_
      refine lv_iload_n hx hb dX4_spares_12 rfl (lv_at hl 3 rfl) ?_
      have hPc := hP.sub (ws' := [kx_0 q_row q_cell len]) [1] rfl
      have hKc := hK.sub (tys' := []) [] rfl
      refine vp_callSi (W.runV (As := [.int p1, .int p2]) (rest := []) ⟨hx, hb, hml, hown, hts⟩ (c_X0_hasRange l dC dI q_row q_cell len p1 p2) (cwV 2 hts gX4_spares_X0_hasRange rfl rfl rfl (by decide +kernel) ⟨Nat.le_of_ble_eq_true rfl, Nat.le_of_ble_eq_true rfl⟩) ⟨fun a U g mk q => by obtain ⟨q0, qP, qK⟩ := q; exact ⟨q0, qP, va_K.moved (u := U) (U := U.calling g mk a) (Vm.Alike.refl U.vm) qK⟩, kx_rc0 hKc hPc (q0 := 0) rfl, fun U hU hW => ⟨rfl, by rw [hU]; exact hPc, va_K.moved hW.alike hKc⟩⟩ rfl rfl hl.1 rfl (lv_room (Nat.le_of_ble_eq_true rfl)) dX4_spares_13 ⟨Nat.le_of_ble_eq_true rfl, Nat.le_of_ble_eq_true rfl⟩) (fun r_3 w_3 => ?_)
      rcases w_3 with ⟨rfl, w_3⟩ | ⟨rfl, w_3⟩
      · have w_3 : (0 ≤ p1.toInt ∧ p1.toInt < p2.toInt ∧ p2.toInt ≤ len.toInt) := w_3
        refine lv_if_eq (tgt := 29) hx hb dX4_spares_16 (by decide) (fun c_4 => ?_) (fun c_4 => ?_)
        · exact absurd c_4 (by decide)
        · refine lv_iload hx hb dX4_spares_19 (lv_at hl 4 rfl) ?_
          refine lv_iload hx hb dX4_spares_21 (lv_at hl 5 rfl) ?_
          have hPc := hP.sub (ws' := []) [] rfl
          have hKc := hK.sub (tys' := []) [] rfl
          refine vp_callSi (W.runS (As := [.int p3, .int p4]) (rest := []) ⟨hx, hb, hml, hown, hts⟩ (c_X4_isShare l dC dI p3 p4) (va_cwS 2 hts gX4_spares_X4_isShare rfl rfl rfl (by decide +kernel) ⟨Nat.le_of_ble_eq_true rfl, Nat.le_of_ble_eq_true rfl⟩) ⟨fun a U g mk q => by obtain ⟨q0, qP, qK⟩ := q; exact ⟨q0, qP, va_K.moved (u := U) (U := U.calling g mk a) (Vm.Alike.refl U.vm) qK⟩, fun U hU hW => ⟨rfl, by rw [hU]; exact hPc, va_K.moved hW.alike hKc⟩⟩ rfl rfl hl.1 rfl (lv_room (Nat.le_of_ble_eq_true rfl)) dX4_spares_23 ⟨Nat.le_of_ble_eq_true rfl, Nat.le_of_ble_eq_true rfl⟩) (fun r_5 w_5 => ?_)
          rcases w_5 with ⟨rfl, w_5⟩ | ⟨rfl, w_5⟩
          · have w_5 : (1 ≤ p3.toInt ∧ p3.toInt ≤ p4.toInt ∧ p4.toInt ≤ 999) := w_5
            refine lv_if_ne (tgt := 31) hx hb dX4_spares_26 (by decide) (fun c_6 => ?_) (fun c_6 => ?_)
            · refine lv_iconst (v := 0) hx hb dX4_spares_31 (by decide) ?_
              refine lv_aload_n hx hb dX4_spares_32 rfl (lv_at hl 0 rfl) ?_
              refine va_get (D := (dC, dI)) (ci := 4) (v := .ref q_row) (C := RX4) (T := TX4) (N := 9) hx hb hts hi_4 hown hK hP 0 rfl rfl 0 (by decide) hf_12 (fun _ h9 => h9) rfl dX4_spares_33 ?_
              refine lv_iload_n hx hb dX4_spares_36 rfl (lv_at hl 1 rfl) ?_
              refine lv_iload_n hx hb dX4_spares_37 rfl (lv_at hl 2 rfl) ?_
              refine lv_iload_n hx hb dX4_spares_38 rfl (lv_at hl 3 rfl) ?_
              have hPc := hP.sub (ws' := [kx_0 q_row q_cell len, kx_a q_cell cyI 160 f]) [1, 2] rfl
              have hKc := hK
              refine vp_callSi (W.runV (As := [.int p0, .int p1, .int p2]) (rest := [.int 0]) ⟨hx, hb, hml, hown, hts⟩ (c_X0_oftenIn l dC dI q_row q_cell cyI len f p0 p1 p2 (om_10 w_3.1) (om_167 a1 w_3.2.2)) (cwV 3 hts gX4_spares_X0_oftenIn rfl rfl rfl (by decide +kernel) ⟨Nat.le_of_ble_eq_true rfl, Nat.le_of_ble_eq_true rfl⟩) ⟨fun a U g mk q => by obtain ⟨q0, qP, qK⟩ := q; exact ⟨q0, qP, va_K.moved (u := U) (U := U.calling g mk a) (Vm.Alike.refl U.vm) qK⟩, kx_rc0 hKc hPc (q0 := 0) rfl, fun U hU hW => ⟨rfl, by rw [hU]; exact hPc, va_K.moved hW.alike hKc⟩⟩ rfl rfl hl.1 rfl (lv_room (Nat.le_of_ble_eq_true rfl)) dX4_spares_39 ⟨Nat.le_of_ble_eq_true rfl, Nat.le_of_ble_eq_true rfl⟩) (fun r_7 w_7 => ?_)
              have w_7 : r_7.toInt = (cnt f p0 p1.toNatClampNeg (p2.toInt - p1.toInt).toNat : Int) := w_7
              refine lv_iload_n hx hb dX4_spares_42 rfl (lv_at hl 3 rfl) ?_
              refine lv_iload_n hx hb dX4_spares_43 rfl (lv_at hl 2 rfl) ?_
              refine lv_isub hx hb dX4_spares_44 ?_
              refine lv_topi (fun y_8 ey_8 => ?_)
              have i_8 : y_8.toInt = p2.toInt - p1.toInt := ki_sub ey_8 rfl rfl (om_168 w_3.2.1) (om_169 a1 w_3.1 w_3.2.2)
              refine lv_iload hx hb dX4_spares_45 (lv_at hl 4 rfl) ?_
              refine lv_iload hx hb dX4_spares_47 (lv_at hl 5 rfl) ?_
              have hPc := hP.sub (ws' := []) [] rfl
              have hKc := hK.sub (tys' := []) [] rfl
              refine vp_callSi (W.runS (As := [.int y_8, .int p3, .int p4]) (rest := [.int r_7, .int 0]) ⟨hx, hb, hml, hown, hts⟩ (c_X4_mostWithoutHeavy l dC dI y_8 p3 p4) (va_cwS 3 hts gX4_spares_X4_mostWithoutHeavy rfl rfl rfl (by decide +kernel) ⟨Nat.le_of_ble_eq_true rfl, Nat.le_of_ble_eq_true rfl⟩) ⟨fun a U g mk q => by obtain ⟨q0, qP, qK⟩ := q; exact ⟨q0, qP, va_K.moved (u := U) (U := U.calling g mk a) (Vm.Alike.refl U.vm) qK⟩, fun U hU hW => ⟨rfl, by rw [hU]; exact hPc, va_K.moved hW.alike hKc⟩⟩ rfl rfl hl.1 rfl (lv_room (Nat.le_of_ble_eq_true rfl)) dX4_spares_49 ⟨Nat.le_of_ble_eq_true rfl, Nat.le_of_ble_eq_true rfl⟩) (fun r_9 w_9 => ?_)
              refine lv_isub hx hb dX4_spares_52 ?_
              refine lv_topi (fun y_10 ey_10 => ?_)
              refine va_mmax hx hb (hml.trans hl.1.symm) hown hm_96 hms_max hz_math hmc_max (Nat.le_of_ble_eq_true rfl) (Nat.le_of_ble_eq_true rfl) (Nat.le_of_ble_eq_true rfl) (Nat.le_of_ble_eq_true rfl) dX4_spares_53 ?_
              refine lv_topi (fun y_11 ey_11 => ?_)
              have i_12 : (0 ≤ y_10.toInt ∧ y_11.toInt = y_10.toInt) ∨ (y_10.toInt < 0 ∧ y_11.toInt = 0) := ki_max ey_11 rfl rfl
              exact W.iret (v := y_11) hx hb hr (hlocks := hlocks) (fun t ht hW => ⟨y_11, rfl, trivial, ht⟩) (fun q hq => by cases hq) dX4_spares_56
            · exact absurd c_6 (by decide)
          · have w_5 : (p3.toInt < 1 ∨ p4.toInt < p3.toInt ∨ 999 < p4.toInt) := w_5
            refine lv_if_ne (tgt := 31) hx hb dX4_spares_26 (by decide) (fun c_13 => ?_) (fun c_13 => ?_)
            · exact absurd c_13 (by decide)
            · refine lv_iconst (v := (-1)) hx hb dX4_spares_29 (by decide) ?_
              exact W.iret (v := (-1)) hx hb hr (hlocks := hlocks) (fun t ht hW => ⟨(-1), rfl, trivial, ht⟩) (fun q hq => by cases hq) dX4_spares_30
      · have w_3 : (p1.toInt < 0 ∨ p2.toInt ≤ p1.toInt ∨ len.toInt < p2.toInt) := w_3
        refine lv_if_eq (tgt := 29) hx hb dX4_spares_16 (by decide) (fun c_14 => ?_) (fun c_14 => ?_)
        · refine lv_iconst (v := (-1)) hx hb dX4_spares_29 (by decide) ?_
          exact W.iret (v := (-1)) hx hb hr (hlocks := hlocks) (fun t ht hW => ⟨(-1), rfl, trivial, ht⟩) (fun q hq => by cases hq) dX4_spares_30
        · exact absurd c_14 (by decide)
  · have w_1 : (p0.toInt < -32768 ∨ 32767 < p0.toInt) := w_1
    refine lv_if_eq (tgt := 29) hx hb dX4_spares_4 (by decide) (fun c_15 => ?_) (fun c_15 => ?_)
    · refine lv_iconst (v := (-1)) hx hb dX4_spares_29 (by decide) ?_
      exact W.iret (v := (-1)) hx hb hr (hlocks := hlocks) (fun t ht hW => ⟨(-1), rfl, trivial, ht⟩) (fun q hq => by cases hq) dX4_spares_30
    · exact absurd c_15 (by decide)

set_option maxHeartbeats 4000000 in
set_option maxRecDepth 100000 in
theorem c_X4_would (l : Launch) (dC : Nat → ClassId) (dI : Nat → Nat → Nat) (m_ : Nat) (q_row : Nat) (q_t : Nat) (t_ : Nat) (h0 : Nat) (k0 : Nat) (w_ : Nat) (z_ : Nat) (slots : Int32) (old : Int32) (q_cell : Nat) (cyI : ClassId) (len : Int32) (f : Nat → Int32) (p0 : Int32) (p1 : Int32) (p2 : Int32) (p3 : Int32) (sz : Nat) (a0 : 0 ≤ len.toInt) (a1 : len.toInt ≤ 160) : Met l yX4_would wsX4_would ({ frames := 2, cells := 0, slots := 0, locals := 90 }) (va_Pc [.ref m_, .int p0, .int p1, .int p2, .int p3] (fun U => U.heap.size = sz ∧ va_P (dC, dI) vwCl [kx_4 m_ q_row q_t t_ h0 k0 w_ z_ slots old, kx_0 q_row q_cell len, kx_a q_cell cyI 160 f] U.heap ∧ va_K (dC, dI) vwCl [(cyI, .int)] U ∧ va_D (fun _ => True) [kx_4 m_ q_row q_t t_ h0 k0 w_ z_ slots old, kx_0 q_row q_cell len, kx_a q_cell cyI 160 f] ∧ va_Nw (.methodLinkNest RX0 28 yX4_isHeavy RX4) U)) (va_Qi (fun (r : Int32) (u : (Nat → Int32)) => u = f) (fun (u : (Nat → Int32)) (t : State) => va_P (dC, dI) vwCl [kx_4 m_ q_row q_t t_ h0 k0 w_ z_ slots old, kx_0 q_row q_cell len, kx_a q_cell cyI 160 u] t.heap ∧ va_K (dC, dI) vwCl [(cyI, .int)] t ∧ va_D (va_A [kx_4 m_ q_row q_t t_ h0 k0 w_ z_ slots old, kx_0 q_row q_cell len, kx_a q_cell cyI 160 f] sz) [kx_4 m_ q_row q_t t_ h0 k0 w_ z_ slots old, kx_0 q_row q_cell len, kx_a q_cell cyI 160 u]) (va_A [kx_4 m_ q_row q_t t_ h0 k0 w_ z_ slots old, kx_0 q_row q_cell len, kx_a q_cell cyI 160 f] sz)) 0 0 (va_A [kx_4 m_ q_row q_t t_ h0 k0 w_ z_ slots old, kx_0 q_row q_cell len, kx_a q_cell cyI 160 f] sz) := by
  refine Met.ofW (cc := cX4_would) (maxL := 7) (ret := (some .int)) (by decide) rfl ?_
  intro p e s m args below meth c s₁ B hml hv
  obtain ⟨rfl, hsz, hP, hK, hD0, hN0⟩ := hv
  have hx := B.exec
  have hb := B.bytes
  have hr := B.returns
  have hts := atoms_spec (ws := wsX4_would) B.pre
  have hown : s.vm.findClass RX4 = some m.cls := findClass_of_methodNamed B.named
  have hlocks := B.notSynchronized
  subst hsz
  have hD := hD0.self (sz := s.heap.size)
  generalize hAe : va_A [kx_4 m_ q_row q_t t_ h0 k0 w_ z_ slots old, kx_0 q_row q_cell len, kx_a q_cell cyI 160 f] s.heap.size = A at hD ⊢
  have hA : ∀ q : Nat, s.heap.size ≤ q → A q := fun q h => by rw [← hAe]; exact Or.inr h
  have hS : va_S A s.heap s.heap [] := va_S.rf
  have hP : va_P (dC, dI) vwCl [kx_4 m_ q_row q_t t_ h0 k0 w_ z_ slots old, kx_0 q_row q_cell len, kx_a q_cell cyI 160 f] s.heap := hP
  have hl := lv_entry ([.ref m_, .int p0, .int p1, .int p2, .int p3]) (n := 7) (Nat.le_of_ble_eq_true rfl)
  rw [lg_entry_eq]
  generalize (lg_sl ([.ref m_, .int p0, .int p1, .int p2, .int p3]) ++ List.replicate (7 - (lg_sl ([.ref m_, .int p0, .int p1, .int p2, .int p3])).length) Slot.unset).toArray = ls at hl ⊢
  have hl : lv_has ls 7 [(0, .ref m_), (1, .int p0), (2, .int p1), (3, .int p2), (4, .int p3)] := hl
  have hf_12 := hts (.fieldLink RX4 12 "MajorityIndex" "row" "LMajorityIndex$Row;") (List.mem_of_getElem? (i := 1) rfl)
  have hi_4 : ∀ w ∈ u_ws RX4 TX4 9, w ∈ wsX4_would := fun w h => List.mem_cons_of_mem _ (List.mem_append_left _ (List.mem_append_right _ h))
  have hf_110 := hts (.fieldLink RX4 110 "MajorityIndex$Row" "cell" "[I") (List.mem_of_getElem? (i := 3) rfl)
  have hi_0 : ∀ w ∈ u_ws RX0 TX0 2, w ∈ wsX4_would := fun w h => List.mem_cons_of_mem _ (List.mem_append_right _ h)
  have hk_102 := hts (.constant RX4 102 (-40000)) (List.mem_of_getElem? (i := 2) rfl)
  refine lv_aload_n hx hb dX4_would_0 rfl (lv_at hl 0 rfl) ?_
  refine va_get (D := (dC, dI)) (ci := 4) (v := .ref q_row) (C := RX4) (T := TX4) (N := 9) hx hb hts hi_4 hown hK hP 0 rfl rfl 0 (by decide) hf_12 (fun _ h9 => h9) rfl dX4_would_1 ?_
  refine lv_iload_n hx hb dX4_would_4 rfl (lv_at hl 1 rfl) ?_
  have hPc := hP.sub (ws' := [kx_0 q_row q_cell len]) [1] rfl
  have hKc := hK.sub (tys' := []) [] rfl
  refine vp_callSi (W.runV (As := [.int p0]) (rest := []) ⟨hx, hb, hml, hown, hts⟩ (c_X0_hasPlace l dC dI q_row q_cell len p0) (cwV 1 hts gX4_would_X0_hasPlace rfl rfl rfl (by decide +kernel) ⟨Nat.le_of_ble_eq_true rfl, Nat.le_of_ble_eq_true rfl⟩) ⟨fun a U g mk q => by obtain ⟨q0, qP, qK⟩ := q; exact ⟨q0, qP, va_K.moved (u := U) (U := U.calling g mk a) (Vm.Alike.refl U.vm) qK⟩, kx_rc0 hKc hPc (q0 := 0) rfl, fun U hU hW => ⟨rfl, by rw [hU]; exact hPc, va_K.moved hW.alike hKc⟩⟩ rfl rfl hl.1 rfl (lv_room (Nat.le_of_ble_eq_true rfl)) dX4_would_5 ⟨Nat.le_of_ble_eq_true rfl, Nat.le_of_ble_eq_true rfl⟩) (fun r_1 w_1 => ?_)
  rcases w_1 with ⟨rfl, w_1⟩ | ⟨rfl, w_1⟩
  · have w_1 : (0 ≤ p0.toInt ∧ p0.toInt < len.toInt) := w_1
    refine lv_if_eq (tgt := 31) hx hb dX4_would_8 (by decide) (fun c_2 => ?_) (fun c_2 => ?_)
    · exact absurd c_2 (by decide)
    · refine lv_iload_n hx hb dX4_would_11 rfl (lv_at hl 2 rfl) ?_
      have hPc := hP.sub (ws' := []) [] rfl
      have hKc := hK.sub (tys' := []) [] rfl
      refine vp_callSi (W.runS (As := [.int p1]) (rest := []) ⟨hx, hb, hml, hown, hts⟩ (c_X4_isValue l dC dI p1) (va_cwS 1 hts gX4_would_X4_isValue rfl rfl rfl (by decide +kernel) ⟨Nat.le_of_ble_eq_true rfl, Nat.le_of_ble_eq_true rfl⟩) ⟨fun a U g mk q => by obtain ⟨q0, qP, qK⟩ := q; exact ⟨q0, qP, va_K.moved (u := U) (U := U.calling g mk a) (Vm.Alike.refl U.vm) qK⟩, fun U hU hW => ⟨rfl, by rw [hU]; exact hPc, va_K.moved hW.alike hKc⟩⟩ rfl rfl hl.1 rfl (lv_room (Nat.le_of_ble_eq_true rfl)) dX4_would_12 ⟨Nat.le_of_ble_eq_true rfl, Nat.le_of_ble_eq_true rfl⟩) (fun r_3 w_3 => ?_)
      rcases w_3 with ⟨rfl, w_3⟩ | ⟨rfl, w_3⟩
      · have w_3 : (-32768 ≤ p1.toInt ∧ p1.toInt ≤ 32767) := w_3
        refine lv_if_eq (tgt := 31) hx hb dX4_would_15 (by decide) (fun c_4 => ?_) (fun c_4 => ?_)
        · exact absurd c_4 (by decide)
        · refine lv_aload_n hx hb dX4_would_18 rfl (lv_at hl 0 rfl) ?_
          refine va_get (D := (dC, dI)) (ci := 4) (v := .ref q_row) (C := RX4) (T := TX4) (N := 9) hx hb hts hi_4 hown hK hP 0 rfl rfl 0 (by decide) hf_12 (fun _ h9 => h9) rfl dX4_would_19 ?_
          refine lv_iload_n hx hb dX4_would_22 rfl (lv_at hl 3 rfl) ?_
          refine lv_iload hx hb dX4_would_23 (lv_at hl 4 rfl) ?_
          have hPc := hP.sub (ws' := [kx_0 q_row q_cell len]) [1] rfl
          have hKc := hK.sub (tys' := []) [] rfl
          refine vp_callSi (W.runV (As := [.int p2, .int p3]) (rest := []) ⟨hx, hb, hml, hown, hts⟩ (c_X0_hasRange l dC dI q_row q_cell len p2 p3) (cwV 2 hts gX4_would_X0_hasRange rfl rfl rfl (by decide +kernel) ⟨Nat.le_of_ble_eq_true rfl, Nat.le_of_ble_eq_true rfl⟩) ⟨fun a U g mk q => by obtain ⟨q0, qP, qK⟩ := q; exact ⟨q0, qP, va_K.moved (u := U) (U := U.calling g mk a) (Vm.Alike.refl U.vm) qK⟩, kx_rc0 hKc hPc (q0 := 0) rfl, fun U hU hW => ⟨rfl, by rw [hU]; exact hPc, va_K.moved hW.alike hKc⟩⟩ rfl rfl hl.1 rfl (lv_room (Nat.le_of_ble_eq_true rfl)) dX4_would_25 ⟨Nat.le_of_ble_eq_true rfl, Nat.le_of_ble_eq_true rfl⟩) (fun r_5 w_5 => ?_)
          rcases w_5 with ⟨rfl, w_5⟩ | ⟨rfl, w_5⟩
          · have w_5 : (0 ≤ p2.toInt ∧ p2.toInt < p3.toInt ∧ p3.toInt ≤ len.toInt) := w_5
            refine lv_if_ne (tgt := 34) hx hb dX4_would_28 (by decide) (fun c_6 => ?_) (fun c_6 => ?_)
            · refine lv_aload_n hx hb dX4_would_34 rfl (lv_at hl 0 rfl) ?_
              refine va_get (D := (dC, dI)) (ci := 4) (v := .ref q_row) (C := RX4) (T := TX4) (N := 9) hx hb hts hi_4 hown hK hP 0 rfl rfl 0 (by decide) hf_12 (fun _ h9 => h9) rfl dX4_would_35 ?_
              refine va_get (D := (dC, dI)) (ci := 0) (v := .ref q_cell) (C := RX0) (T := TX0) (N := 2) hx hb hts hi_0 hown hK hP 1 rfl rfl 0 (by decide) hf_110 (fun _ h9 => h9) rfl dX4_would_38 ?_
              refine lv_iload_n hx hb dX4_would_41 rfl (lv_at hl 1 rfl) ?_
              refine va_iald hx hb hK hP 2 0 rfl rfl (ki_in (om_10 w_1.1) (om_1 a1 w_1.2)) dX4_would_42 ?_
              refine lv_topi (fun y_7 ey_7 => ?_)
              have j_7 : y_7.toInt = (f p0.toNatClampNeg).toInt := congrArg Int32.toInt ey_7
              refine lv_istore (lv' := [(5, .int y_7), (0, .ref m_), (1, .int p0), (2, .int p1), (3, .int p2), (4, .int p3)]) hx hb dX4_would_43 hl (by decide) rfl (fun ls hl => ?_)
              refine lv_aload_n hx hb dX4_would_45 rfl (lv_at hl 1 rfl) ?_
              refine va_get (D := (dC, dI)) (ci := 4) (v := .ref q_row) (C := RX4) (T := TX4) (N := 9) hx hb hts hi_4 hown hK hP 0 rfl rfl 0 (by decide) hf_12 (fun _ h9 => h9) rfl dX4_would_46 ?_
              refine va_get (D := (dC, dI)) (ci := 0) (v := .ref q_cell) (C := RX0) (T := TX0) (N := 2) hx hb hts hi_0 hown hK hP 1 rfl rfl 0 (by decide) hf_110 (fun _ h9 => h9) rfl dX4_would_49 ?_
              refine lv_iload_n hx hb dX4_would_52 rfl (lv_at hl 2 rfl) ?_
              refine lv_iload_n hx hb dX4_would_53 rfl (lv_at hl 3 rfl) ?_
              refine va_iast hx hb hK hP hD hS 2 0 rfl rfl (ki_in (om_10 w_1.1) (om_1 a1 w_1.2)) dX4_would_54 (fun H locs hP hD hS => ?_)
              obtain ⟨hP, hD⟩ := kx_re (w2 := [kx_4 m_ q_row q_t t_ h0 k0 w_ z_ slots old, kx_0 q_row q_cell len, kx_a q_cell cyI 160 (upd f p0.toNatClampNeg p1)]) hP hD rfl
              refine lv_aload_n hx hb dX4_would_55 rfl (lv_at hl 1 rfl) ?_
              refine va_get (D := (dC, dI)) (ci := 4) (v := .ref q_row) (C := RX4) (T := TX4) (N := 9) hx hb hts hi_4 hown hK hP 0 rfl rfl 0 (by decide) hf_12 (fun _ h9 => h9) rfl dX4_would_56 ?_
              refine lv_iload_n hx hb dX4_would_59 rfl (lv_at hl 4 rfl) ?_
              refine lv_iload hx hb dX4_would_60 (lv_at hl 5 rfl) ?_
              have hPc := hP.sub (ws' := [kx_0 q_row q_cell len, kx_a q_cell cyI 160 (upd f p0.toNatClampNeg p1)]) [1, 2] rfl
              have hKc := hK
              refine vp_callSi (W.runV (As := [.int p2, .int p3]) (rest := []) ⟨hx, hb, hml, hown, hts⟩ (c_X0_leader l dC dI q_row q_cell cyI len (upd f p0.toNatClampNeg p1) p2 p3 (om_10 w_5.1) (om_167 a1 w_5.2.2)) (cwV 2 hts gX4_would_X0_leader rfl rfl rfl (by decide +kernel) ⟨Nat.le_of_ble_eq_true rfl, Nat.le_of_ble_eq_true rfl⟩) ⟨fun a U g mk q => by obtain ⟨q0, qP, qK, qn0⟩ := q; exact ⟨q0, qP, va_K.moved (u := U) (U := U.calling g mk a) (Vm.Alike.refl U.vm) qK, va_Nw.same (u := U) (U := U.calling g mk a) rfl rfl qn0⟩, kx_rc0 hKc hPc (q0 := 0) rfl, fun U hU hW => ⟨rfl, by rw [hU]; exact hPc, va_K.moved hW.alike hKc, va_Nw.warmM hW hN0⟩⟩ rfl rfl hl.1 rfl (lv_room (Nat.le_of_ble_eq_true rfl)) dX4_would_62 ⟨Nat.le_of_ble_eq_true rfl, Nat.le_of_ble_eq_true rfl⟩) (fun r_8 w_8 => ?_)
              refine lv_istore (lv' := [(6, .int r_8), (5, .int y_7), (0, .ref m_), (1, .int p0), (2, .int p1), (3, .int p2), (4, .int p3)]) hx hb dX4_would_65 hl (by decide) rfl (fun ls hl => ?_)
              refine lv_aload_n hx hb dX4_would_67 rfl (lv_at hl 2 rfl) ?_
              refine va_get (D := (dC, dI)) (ci := 4) (v := .ref q_row) (C := RX4) (T := TX4) (N := 9) hx hb hts hi_4 hown hK hP 0 rfl rfl 0 (by decide) hf_12 (fun _ h9 => h9) rfl dX4_would_68 ?_
              refine va_get (D := (dC, dI)) (ci := 0) (v := .ref q_cell) (C := RX0) (T := TX0) (N := 2) hx hb hts hi_0 hown hK hP 1 rfl rfl 0 (by decide) hf_110 (fun _ h9 => h9) rfl dX4_would_71 ?_
              refine lv_iload_n hx hb dX4_would_74 rfl (lv_at hl 3 rfl) ?_
              refine lv_iload hx hb dX4_would_75 (lv_at hl 1 rfl) ?_
              refine va_iast hx hb hK hP hD hS 2 0 rfl rfl (ki_in (om_10 w_1.1) (om_1 a1 w_1.2)) dX4_would_77 (fun H locs hP hD hS => ?_)
              obtain ⟨hP, hD⟩ := kx_re (w2 := [kx_4 m_ q_row q_t t_ h0 k0 w_ z_ slots old, kx_0 q_row q_cell len, kx_a q_cell cyI 160 (upd (upd f p0.toNatClampNeg p1) p0.toNatClampNeg y_7)]) hP hD rfl
              refine lv_iload hx hb dX4_would_78 (lv_at hl 0 rfl) ?_
              have hP9 := hP
              have hD9 := hD
              have hK9 := hK
              exact W.iret (v := r_8) hx hb hr (hlocks := hlocks) (fun t ht hW => ⟨⟨r_8, ((upd (upd f p0.toNatClampNeg p1) p0.toNatClampNeg y_7)), rfl, (by (try dsimp only); rw [ey_7]; exact upd_back _ _ _), by rw [ht]; exact hP9, va_K.moved hW.alike hK9, hD9⟩, hS.F ht⟩) hS.2.2 dX4_would_80
            · exact absurd c_6 (by decide)
          · have w_5 : (p2.toInt < 0 ∨ p3.toInt ≤ p2.toInt ∨ len.toInt < p3.toInt) := w_5
            refine lv_if_ne (tgt := 34) hx hb dX4_would_28 (by decide) (fun c_9 => ?_) (fun c_9 => ?_)
            · exact absurd c_9 (by decide)
            · refine lv_ldc (v := (-40000)) hx hb hown hk_102 dX4_would_31 ?_
              have hP9 := hP
              have hD9 := hD
              have hK9 := hK
              exact W.iret (v := (-40000)) hx hb hr (hlocks := hlocks) (fun t ht hW => ⟨⟨(-40000), (f), rfl, rfl, by rw [ht]; exact hP9, va_K.moved hW.alike hK9, hD9⟩, hS.F ht⟩) hS.2.2 dX4_would_33
      · have w_3 : (p1.toInt < -32768 ∨ 32767 < p1.toInt) := w_3
        refine lv_if_eq (tgt := 31) hx hb dX4_would_15 (by decide) (fun c_10 => ?_) (fun c_10 => ?_)
        · refine lv_ldc (v := (-40000)) hx hb hown hk_102 dX4_would_31 ?_
          have hP9 := hP
          have hD9 := hD
          have hK9 := hK
          exact W.iret (v := (-40000)) hx hb hr (hlocks := hlocks) (fun t ht hW => ⟨⟨(-40000), (f), rfl, rfl, by rw [ht]; exact hP9, va_K.moved hW.alike hK9, hD9⟩, hS.F ht⟩) hS.2.2 dX4_would_33
        · exact absurd c_10 (by decide)
  · have w_1 : (p0.toInt < 0 ∨ len.toInt ≤ p0.toInt) := w_1
    refine lv_if_eq (tgt := 31) hx hb dX4_would_8 (by decide) (fun c_11 => ?_) (fun c_11 => ?_)
    · refine lv_ldc (v := (-40000)) hx hb hown hk_102 dX4_would_31 ?_
      have hP9 := hP
      have hD9 := hD
      have hK9 := hK
      exact W.iret (v := (-40000)) hx hb hr (hlocks := hlocks) (fun t ht hW => ⟨⟨(-40000), (f), rfl, rfl, by rw [ht]; exact hP9, va_K.moved hW.alike hK9, hD9⟩, hS.F ht⟩) hS.2.2 dX4_would_33
    · exact absurd c_11 (by decide)

set_option maxHeartbeats 4000000 in
set_option maxRecDepth 100000 in
theorem c_X4_values (l : Launch) (dC : Nat → ClassId) (dI : Nat → Nat → Nat) (m_ : Nat) (q_row : Nat) (q_t : Nat) (t_ : Nat) (h0 : Nat) (k0 : Nat) (w_ : Nat) (z_ : Nat) (slots : Int32) (old : Int32) (q_cell : Nat) (cyI : ClassId) (len : Int32) (f : Nat → Int32) (t_k : Nat) (t_o : Nat) (tk : Int32) (mo : Int32) (fk : Nat → Int32) (fq : Nat → Int32) (sz : Nat) (a0 : 0 ≤ len.toInt) (a1 : len.toInt ≤ 160) : kx_MQ l (dC, dI) yX4_values wsX4_values ({ frames := 2, cells := 0, slots := 0, locals := 90 }) [.ref m_] [kx_4 m_ q_row q_t t_ h0 k0 w_ z_ slots old, kx_0 q_row q_cell len, kx_a q_cell cyI 160 f, kx_1 t_ t_k t_o tk mo, kx_a t_k cyI 160 fk, kx_a t_o cyI 160 fq] [(cyI, .int)] sz (fun A => va_Qi (fun (r : Int32) (u : Int32 × Int32 × (Nat → Int32) × (Nat → Int32)) => True) (fun (u : Int32 × Int32 × (Nat → Int32) × (Nat → Int32)) (t : State) => va_P (dC, dI) vwCl [kx_4 m_ q_row q_t t_ h0 k0 w_ z_ slots old, kx_0 q_row q_cell len, kx_a q_cell cyI 160 f, kx_1 t_ t_k t_o u.1 u.2.1, kx_a t_k cyI 160 u.2.2.1, kx_a t_o cyI 160 u.2.2.2] t.heap ∧ va_K (dC, dI) vwCl [(cyI, .int)] t ∧ va_D A [kx_4 m_ q_row q_t t_ h0 k0 w_ z_ slots old, kx_0 q_row q_cell len, kx_a q_cell cyI 160 f, kx_1 t_ t_k t_o u.1 u.2.1, kx_a t_k cyI 160 u.2.2.1, kx_a t_o cyI 160 u.2.2.2]) A) := by
  refine kx_stQ (ws := wsX4_values) (cc := cX4_values) (maxL := 3) (ret := (some .int)) (by decide) rfl (Nat.le_of_ble_eq_true rfl) ?_
  intro p e s m below meth c A ls hx hb hr hlocks hts hown hml hA hS hP hK hD hl
  have hown : s.vm.findClass RX4 = some m.cls := hown
  have hl : lv_has ls 3 [(0, .ref m_)] := hl
  have hf_28 := hts (.fieldLink RX4 28 "MajorityIndex" "tally" "LMajorityIndex$Tally;") (List.mem_of_getElem? (i := 1) rfl)
  have hi_4 : ∀ w ∈ u_ws RX4 TX4 9, w ∈ wsX4_values := fun w h => List.mem_cons_of_mem _ (List.mem_append_left _ (List.mem_append_left _ (List.mem_append_right _ h)))
  have hf_12 := hts (.fieldLink RX4 12 "MajorityIndex" "row" "LMajorityIndex$Row;") (List.mem_of_getElem? (i := 2) rfl)
  have hf_57 := hts (.fieldLink RX4 57 "MajorityIndex$Row" "length" "I") (List.mem_of_getElem? (i := 3) rfl)
  have hi_0 : ∀ w ∈ u_ws RX0 TX0 2, w ∈ wsX4_values := fun w h => List.mem_cons_of_mem _ (List.mem_append_left _ (List.mem_append_right _ h))
  have hf_120 := hts (.fieldLink RX4 120 "MajorityIndex$Tally" "kind" "[I") (List.mem_of_getElem? (i := 4) rfl)
  have hi_1 : ∀ w ∈ u_ws RX1 TX1 4, w ∈ wsX4_values := fun w h => List.mem_cons_of_mem _ (List.mem_append_right _ h)
  refine lv_aload_n hx hb dX4_values_0 rfl (lv_at hl 0 rfl) ?_
  refine va_get (D := (dC, dI)) (ci := 4) (v := .ref t_) (C := RX4) (T := TX4) (N := 9) hx hb hts hi_4 hown hK hP 0 rfl rfl 2 (by decide) hf_28 (fun _ h9 => h9) rfl dX4_values_1 ?_
  refine lv_aload_n hx hb dX4_values_4 rfl (lv_at hl 0 rfl) ?_
  refine va_get (D := (dC, dI)) (ci := 4) (v := .ref q_row) (C := RX4) (T := TX4) (N := 9) hx hb hts hi_4 hown hK hP 0 rfl rfl 0 (by decide) hf_12 (fun _ h9 => h9) rfl dX4_values_5 ?_
  obtain ⟨hPc, hDc, hFc, hCc⟩ := kx_pre (wc := [kx_1 t_ t_k t_o tk mo, kx_a t_k cyI 160 fk, kx_0 q_row q_cell len, kx_a q_cell cyI 160 f]) hP hD hS hA [3, 4, 1, 2] (by decide) rfl
  have hKc := hK
  refine va_callv (va_runV (As := [.ref q_row]) (rest := []) ⟨hx, hb, hml, hown, hts⟩ (kx_un (c_X1_learn l dC dI t_ t_k t_o cyI tk mo fk q_row q_cell len f s.heap.size a0 a1)) (cwV 1 hts gX4_values_X1_learn rfl rfl rfl (by decide +kernel) ⟨Nat.le_of_ble_eq_true rfl, Nat.le_of_ble_eq_true rfl⟩) ⟨fun a U g mk q => by obtain ⟨q0, q1, qP, qK, qD⟩ := q; exact ⟨q0, q1, qP, va_K.moved (u := U) (U := U.calling g mk a) (Vm.Alike.refl U.vm) qK, qD⟩, kx_rc1 hKc hPc (q0 := 0) rfl, fun U hU hW => ⟨rfl, by rw [hU], by rw [hU]; exact hPc, va_K.moved hW.alike hKc, hDc.weaken (fun _ _ _ _ => trivial)⟩⟩ rfl rfl hl.1 rfl (lv_room (Nat.le_of_ble_eq_true rfl)) dX4_values_8 ⟨Nat.le_of_ble_eq_true rfl, Nat.le_of_ble_eq_true rfl⟩) hS (fun q _ h => hFc q h) hFc (fun u t H1 locs ht hvm w_1 hB hz1 hk1 hS => ?_)
  obtain ⟨o_2, rfl⟩ : ∃ z, z = u := ⟨_, rfl⟩
  obtain ⟨hP1, hK1, hD1⟩ := hB
  rw [ht] at hP1
  have hK1 := va_K.moved hvm.symm hK1
  obtain ⟨hP, hD⟩ := kx_join (w2 := [kx_4 m_ q_row q_t t_ h0 k0 w_ z_ slots old, kx_a t_o cyI 160 fq, kx_1 t_ t_k t_o tk mo, kx_a t_k cyI 160 o_2, kx_0 q_row q_cell len, kx_a q_cell cyI 160 f]) hP hD hP1 hD1 hk1 hFc [3, 4, 1, 2] [0, 5] hCc rfl (by decide) (by decide)
  clear hP1 hD1 hK1 hk1 hz1 hFc hDc hPc hKc hCc
  generalize H1 = H at hP hS ⊢
  have w_1 : kindOk o_2 len.toInt := w_1
  refine lv_iconst (v := 0) hx hb dX4_values_11 (by decide) ?_
  refine lv_istore_n (lv' := [(1, .int 0), (0, .ref m_)]) hx hb dX4_values_12 rfl hl (by decide) rfl (fun ls hl => ?_)
  refine lv_iconst (v := 0) hx hb dX4_values_13 (by decide) ?_
  refine lv_istore_n (lv' := [(2, .int 0), (1, .int 0), (0, .ref m_)]) hx hb dX4_values_14 rfl hl (by decide) rfl (fun ls hl => ?_)
  have LP1 : ∀ (n : Nat) (i : Int32) (un : Int32), (0 ≤ i.toInt) → (len.toInt - i.toInt).toNat < n → ∀ (H : Heap) (locs : List Loc), va_P (dC, dI) vwCl [kx_4 m_ q_row q_t t_ h0 k0 w_ z_ slots old, kx_a t_o cyI 160 fq, kx_1 t_ t_k t_o tk mo, kx_a t_k cyI 160 o_2, kx_0 q_row q_cell len, kx_a q_cell cyI 160 f] H → va_D A [kx_4 m_ q_row q_t t_ h0 k0 w_ z_ slots old, kx_a t_o cyI 160 fq, kx_1 t_ t_k t_o tk mo, kx_a t_k cyI 160 o_2, kx_0 q_row q_cell len, kx_a q_cell cyI 160 f] → va_S A s.heap H locs → ∀ (ls : Array Slot), lv_has ls 3 [(2, .int i), (1, .int un), (0, .ref m_)] → W p l e (headSpec wsX4_values ({ frames := 2, cells := 0, slots := 0, locals := 90 })).room s m ([.ref m_] : List Value).toArray below meth c H locs 0 0 (MQ below (va_Qi (fun (r : Int32) (u : Int32 × Int32 × (Nat → Int32) × (Nat → Int32)) => True) (fun (u : Int32 × Int32 × (Nat → Int32) × (Nat → Int32)) (t : State) => va_P (dC, dI) vwCl [kx_4 m_ q_row q_t t_ h0 k0 w_ z_ slots old, kx_0 q_row q_cell len, kx_a q_cell cyI 160 f, kx_1 t_ t_k t_o u.1 u.2.1, kx_a t_k cyI 160 u.2.2.1, kx_a t_o cyI 160 u.2.2.2] t.heap ∧ va_K (dC, dI) vwCl [(cyI, .int)] t ∧ va_D A [kx_4 m_ q_row q_t t_ h0 k0 w_ z_ slots old, kx_0 q_row q_cell len, kx_a q_cell cyI 160 f, kx_1 t_ t_k t_o u.1 u.2.1, kx_a t_k cyI 160 u.2.2.1, kx_a t_o cyI 160 u.2.2.2]) A) ([.ref m_] : List Value).toArray s 0 0 A) (F0 m 15 ls []) := by
    intro n
    induction n with
    | zero => intro i un LP1_h0 hn; exact absurd hn (Nat.not_lt_zero _)
    | succ n ih1 =>
      intro i un LP1_h0 hn1 H locs hP hD hS ls hl
      refine lv_iload_n hx hb dX4_values_15 rfl (lv_at hl 0 rfl) ?_
      refine lv_aload_n hx hb dX4_values_16 rfl (lv_at hl 2 rfl) ?_
      refine va_get (D := (dC, dI)) (ci := 4) (v := .ref q_row) (C := RX4) (T := TX4) (N := 9) hx hb hts hi_4 hown hK hP 0 rfl rfl 0 (by decide) hf_12 (fun _ h9 => h9) rfl dX4_values_17 ?_
      refine va_get (D := (dC, dI)) (ci := 0) (v := .int len) (C := RX0) (T := TX0) (N := 2) hx hb hts hi_0 hown hK hP 4 rfl rfl 1 (by decide) hf_57 (fun _ h9 => h9) rfl dX4_values_20 ?_
      refine lv_icmp_ge (tgt := 48) hx hb dX4_values_23 (by decide) (fun c_3 => ?_) (fun c_3 => ?_)
      · have i_3 : len.toInt ≤ i.toInt := kc_le c_3
        refine lv_iload_n hx hb dX4_values_48 rfl (lv_at hl 1 rfl) ?_
        obtain ⟨hP9, hD9⟩ := kx_sub (w2 := [kx_4 m_ q_row q_t t_ h0 k0 w_ z_ slots old, kx_0 q_row q_cell len, kx_a q_cell cyI 160 f, kx_1 t_ t_k t_o tk mo, kx_a t_k cyI 160 o_2, kx_a t_o cyI 160 fq]) hP hD [0, 4, 5, 2, 3, 1] (by decide) rfl
        have hK9 := hK
        exact W.iret (v := un) hx hb hr (hlocks := hlocks) (fun t ht hW => ⟨⟨un, (tk, mo, o_2, fq), rfl, trivial, by rw [ht]; exact hP9, va_K.moved hW.alike hK9, hD9⟩, hS.F ht⟩) hS.2.2 dX4_values_49
      · have i_3 : i.toInt < len.toInt := kc_nle c_3
        refine lv_aload_n hx hb dX4_values_26 rfl (lv_at hl 2 rfl) ?_
        refine va_get (D := (dC, dI)) (ci := 4) (v := .ref t_) (C := RX4) (T := TX4) (N := 9) hx hb hts hi_4 hown hK hP 0 rfl rfl 2 (by decide) hf_28 (fun _ h9 => h9) rfl dX4_values_27 ?_
        refine va_get (D := (dC, dI)) (ci := 1) (v := .ref t_k) (C := RX1) (T := TX1) (N := 4) hx hb hts hi_1 hown hK hP 2 rfl rfl 0 (by decide) hf_120 (fun _ h9 => h9) rfl dX4_values_30 ?_
        refine lv_iload_n hx hb dX4_values_33 rfl (lv_at hl 0 rfl) ?_
        refine va_iald hx hb hK hP 3 0 rfl rfl (ki_in (om_10 LP1_h0) (om_1 a1 i_3)) dX4_values_34 ?_
        refine lv_topi (fun y_4 ey_4 => ?_)
        have j_4 : y_4.toInt = (o_2 i.toNatClampNeg).toInt := congrArg Int32.toInt ey_4
        refine lv_iload_n hx hb dX4_values_35 rfl (lv_at hl 0 rfl) ?_
        refine lv_icmp_ne (tgt := 42) hx hb dX4_values_36 (by decide) (fun c_5 => ?_) (fun c_5 => ?_)
        · have i_5 : ¬ y_4.toInt = i.toInt := kc_ne c_5
          obtain ⟨x_6, ex_6⟩ : ∃ y : Int32, y = i + 1 := ⟨_, rfl⟩
          have i_6 : x_6.toInt = i.toInt + 1 := ki_add ex_6 rfl rfl (om_13 LP1_h0) (om_3 a1 i_3)
          refine lv_iinc (v := x_6) (lv' := [(2, .int x_6), (1, .int un), (0, .ref m_)]) hx hb dX4_values_42 hl (k := 0) rfl (by rw [ex_6]; rfl) (by decide) rfl (fun ls hl => ?_)
          refine lv_goto (tgt := 15) hx hb dX4_values_45 (by decide) ?_
          exact ih1 x_6 un (om_34 LP1_h0 i_6) (om_mu hn1 (om_5 i_6) (om_6 i_3)) _ _ hP hD hS ls (lv_sub hl [0, 1, 2] rfl)
        · have i_5 : y_4.toInt = i.toInt := kc_eq c_5
          obtain ⟨x_7, ex_7⟩ : ∃ y : Int32, y = un + 1 := ⟨_, rfl⟩
          refine lv_iinc (v := x_7) (lv' := [(1, .int x_7), (2, .int i), (0, .ref m_)]) hx hb dX4_values_39 hl (k := 1) rfl (by rw [ex_7]; rfl) (by decide) rfl (fun ls hl => ?_)
          obtain ⟨x_8, ex_8⟩ : ∃ y : Int32, y = i + 1 := ⟨_, rfl⟩
          have i_8 : x_8.toInt = i.toInt + 1 := ki_add ex_8 rfl rfl (om_13 LP1_h0) (om_3 a1 i_3)
          refine lv_iinc (v := x_8) (lv' := [(2, .int x_8), (1, .int x_7), (0, .ref m_)]) hx hb dX4_values_42 hl (k := 1) rfl (by rw [ex_8]; rfl) (by decide) rfl (fun ls hl => ?_)
          refine lv_goto (tgt := 15) hx hb dX4_values_45 (by decide) ?_
          exact ih1 x_8 x_7 (om_34 LP1_h0 i_8) (om_mu hn1 (om_5 i_8) (om_6 i_3)) _ _ hP hD hS ls (lv_sub hl [0, 1, 2] rfl)
  have k_9 : (0 : Int32).toInt = 0 := rfl
  have k_10 : (0 : Int32).toInt = 0 := rfl
  exact LP1 ((len.toInt - 0 : Int).toNat + 1) 0 0 om_35 (Nat.lt_succ_self _) _ _ hP hD hS ls (lv_sub hl [0, 1, 2] rfl)

set_option maxHeartbeats 4000000 in
set_option maxRecDepth 100000 in
theorem c_X4_majorities (l : Launch) (dC : Nat → ClassId) (dI : Nat → Nat → Nat) (m_ : Nat) (q_row : Nat) (q_t : Nat) (t_ : Nat) (h0 : Nat) (k0 : Nat) (w_ : Nat) (z_ : Nat) (slots : Int32) (old : Int32) (q_cell : Nat) (cyI : ClassId) (len : Int32) (f : Nat → Int32) (t_k : Nat) (t_o : Nat) (tk : Int32) (mo : Int32) (fk : Nat → Int32) (fq : Nat → Int32) (sz : Nat) (a0 : 0 ≤ len.toInt) (a1 : len.toInt ≤ 160) : kx_MQ l (dC, dI) yX4_majorities wsX4_majorities ({ frames := 2, cells := 0, slots := 0, locals := 90 }) [.ref m_] [kx_4 m_ q_row q_t t_ h0 k0 w_ z_ slots old, kx_0 q_row q_cell len, kx_a q_cell cyI 160 f, kx_1 t_ t_k t_o tk mo, kx_a t_k cyI 160 fk, kx_a t_o cyI 160 fq] [(cyI, .int)] sz (fun A => va_Qi (fun (r : Int32) (u : Int32 × Int32 × (Nat → Int32) × (Nat → Int32)) => True) (fun (u : Int32 × Int32 × (Nat → Int32) × (Nat → Int32)) (t : State) => va_P (dC, dI) vwCl [kx_4 m_ q_row q_t t_ h0 k0 w_ z_ slots old, kx_0 q_row q_cell len, kx_a q_cell cyI 160 f, kx_1 t_ t_k t_o u.1 u.2.1, kx_a t_k cyI 160 u.2.2.1, kx_a t_o cyI 160 u.2.2.2] t.heap ∧ va_K (dC, dI) vwCl [(cyI, .int)] t ∧ va_D A [kx_4 m_ q_row q_t t_ h0 k0 w_ z_ slots old, kx_0 q_row q_cell len, kx_a q_cell cyI 160 f, kx_1 t_ t_k t_o u.1 u.2.1, kx_a t_k cyI 160 u.2.2.1, kx_a t_o cyI 160 u.2.2.2]) A) := by
  refine kx_stQ (ws := wsX4_majorities) (cc := cX4_majorities) (maxL := 4) (ret := (some .int)) (by decide) rfl (Nat.le_of_ble_eq_true rfl) ?_
  intro p e s m below meth c A ls hx hb hr hlocks hts hown hml hA hS hP hK hD hl
  have hown : s.vm.findClass RX4 = some m.cls := hown
  have hl : lv_has ls 4 [(0, .ref m_)] := hl
  have hf_28 := hts (.fieldLink RX4 28 "MajorityIndex" "tally" "LMajorityIndex$Tally;") (List.mem_of_getElem? (i := 1) rfl)
  have hi_4 : ∀ w ∈ u_ws RX4 TX4 9, w ∈ wsX4_majorities := fun w h => List.mem_cons_of_mem _ (List.mem_append_left _ (List.mem_append_left _ (List.mem_append_right _ h)))
  have hf_12 := hts (.fieldLink RX4 12 "MajorityIndex" "row" "LMajorityIndex$Row;") (List.mem_of_getElem? (i := 2) rfl)
  have hf_57 := hts (.fieldLink RX4 57 "MajorityIndex$Row" "length" "I") (List.mem_of_getElem? (i := 3) rfl)
  have hi_0 : ∀ w ∈ u_ws RX0 TX0 2, w ∈ wsX4_majorities := fun w h => List.mem_cons_of_mem _ (List.mem_append_left _ (List.mem_append_right _ h))
  refine lv_aload_n hx hb dX4_majorities_0 rfl (lv_at hl 0 rfl) ?_
  refine va_get (D := (dC, dI)) (ci := 4) (v := .ref t_) (C := RX4) (T := TX4) (N := 9) hx hb hts hi_4 hown hK hP 0 rfl rfl 2 (by decide) hf_28 (fun _ h9 => h9) rfl dX4_majorities_1 ?_
  refine lv_aload_n hx hb dX4_majorities_4 rfl (lv_at hl 0 rfl) ?_
  refine va_get (D := (dC, dI)) (ci := 4) (v := .ref q_row) (C := RX4) (T := TX4) (N := 9) hx hb hts hi_4 hown hK hP 0 rfl rfl 0 (by decide) hf_12 (fun _ h9 => h9) rfl dX4_majorities_5 ?_
  obtain ⟨hPc, hDc, hFc, hCc⟩ := kx_pre (wc := [kx_1 t_ t_k t_o tk mo, kx_a t_k cyI 160 fk, kx_0 q_row q_cell len, kx_a q_cell cyI 160 f]) hP hD hS hA [3, 4, 1, 2] (by decide) rfl
  have hKc := hK
  refine va_callv (va_runV (As := [.ref q_row]) (rest := []) ⟨hx, hb, hml, hown, hts⟩ (kx_un (c_X1_learn l dC dI t_ t_k t_o cyI tk mo fk q_row q_cell len f s.heap.size a0 a1)) (cwV 1 hts gX4_majorities_X1_learn rfl rfl rfl (by decide +kernel) ⟨Nat.le_of_ble_eq_true rfl, Nat.le_of_ble_eq_true rfl⟩) ⟨fun a U g mk q => by obtain ⟨q0, q1, qP, qK, qD⟩ := q; exact ⟨q0, q1, qP, va_K.moved (u := U) (U := U.calling g mk a) (Vm.Alike.refl U.vm) qK, qD⟩, kx_rc1 hKc hPc (q0 := 0) rfl, fun U hU hW => ⟨rfl, by rw [hU], by rw [hU]; exact hPc, va_K.moved hW.alike hKc, hDc.weaken (fun _ _ _ _ => trivial)⟩⟩ rfl rfl hl.1 rfl (lv_room (Nat.le_of_ble_eq_true rfl)) dX4_majorities_8 ⟨Nat.le_of_ble_eq_true rfl, Nat.le_of_ble_eq_true rfl⟩) hS (fun q _ h => hFc q h) hFc (fun u t H1 locs ht hvm w_1 hB hz1 hk1 hS => ?_)
  obtain ⟨o_2, rfl⟩ : ∃ z, z = u := ⟨_, rfl⟩
  obtain ⟨hP1, hK1, hD1⟩ := hB
  rw [ht] at hP1
  have hK1 := va_K.moved hvm.symm hK1
  obtain ⟨hP, hD⟩ := kx_join (w2 := [kx_4 m_ q_row q_t t_ h0 k0 w_ z_ slots old, kx_a t_o cyI 160 fq, kx_1 t_ t_k t_o tk mo, kx_a t_k cyI 160 o_2, kx_0 q_row q_cell len, kx_a q_cell cyI 160 f]) hP hD hP1 hD1 hk1 hFc [3, 4, 1, 2] [0, 5] hCc rfl (by decide) (by decide)
  clear hP1 hD1 hK1 hk1 hz1 hFc hDc hPc hKc hCc
  generalize H1 = H at hP hS ⊢
  have w_1 : kindOk o_2 len.toInt := w_1
  refine lv_iconst (v := 0) hx hb dX4_majorities_11 (by decide) ?_
  refine lv_istore_n (lv' := [(1, .int 0), (0, .ref m_)]) hx hb dX4_majorities_12 rfl hl (by decide) rfl (fun ls hl => ?_)
  refine lv_iconst (v := 0) hx hb dX4_majorities_13 (by decide) ?_
  refine lv_istore_n (lv' := [(2, .int 0), (1, .int 0), (0, .ref m_)]) hx hb dX4_majorities_14 rfl hl (by decide) rfl (fun ls hl => ?_)
  have LP1 : ∀ (n : Nat) (i : Int32) (many : Int32) (a_t : Int32) (a_m : Int32) (a_q : Nat → Int32), (0 ≤ i.toInt) → (len.toInt - i.toInt).toNat < n → ∀ (H : Heap) (locs : List Loc), va_P (dC, dI) vwCl [kx_4 m_ q_row q_t t_ h0 k0 w_ z_ slots old, kx_a t_o cyI 160 a_q, kx_1 t_ t_k t_o a_t a_m, kx_a t_k cyI 160 o_2, kx_0 q_row q_cell len, kx_a q_cell cyI 160 f] H → va_D A [kx_4 m_ q_row q_t t_ h0 k0 w_ z_ slots old, kx_a t_o cyI 160 a_q, kx_1 t_ t_k t_o a_t a_m, kx_a t_k cyI 160 o_2, kx_0 q_row q_cell len, kx_a q_cell cyI 160 f] → va_S A s.heap H locs → ∀ (ls : Array Slot), lv_has ls 4 [(2, .int i), (1, .int many), (0, .ref m_)] → W p l e (headSpec wsX4_majorities ({ frames := 2, cells := 0, slots := 0, locals := 90 })).room s m ([.ref m_] : List Value).toArray below meth c H locs 0 0 (MQ below (va_Qi (fun (r : Int32) (u : Int32 × Int32 × (Nat → Int32) × (Nat → Int32)) => True) (fun (u : Int32 × Int32 × (Nat → Int32) × (Nat → Int32)) (t : State) => va_P (dC, dI) vwCl [kx_4 m_ q_row q_t t_ h0 k0 w_ z_ slots old, kx_0 q_row q_cell len, kx_a q_cell cyI 160 f, kx_1 t_ t_k t_o u.1 u.2.1, kx_a t_k cyI 160 u.2.2.1, kx_a t_o cyI 160 u.2.2.2] t.heap ∧ va_K (dC, dI) vwCl [(cyI, .int)] t ∧ va_D A [kx_4 m_ q_row q_t t_ h0 k0 w_ z_ slots old, kx_0 q_row q_cell len, kx_a q_cell cyI 160 f, kx_1 t_ t_k t_o u.1 u.2.1, kx_a t_k cyI 160 u.2.2.1, kx_a t_o cyI 160 u.2.2.2]) A) ([.ref m_] : List Value).toArray s 0 0 A) (F0 m 15 ls []) := by
    intro n
    induction n with
    | zero => intro i many a_t a_m a_q LP1_h0 hn; exact absurd hn (Nat.not_lt_zero _)
    | succ n ih1 =>
      intro i many a_t a_m a_q LP1_h0 hn1 H locs hP hD hS ls hl
      refine lv_iload_n hx hb dX4_majorities_15 rfl (lv_at hl 0 rfl) ?_
      refine lv_aload_n hx hb dX4_majorities_16 rfl (lv_at hl 2 rfl) ?_
      refine va_get (D := (dC, dI)) (ci := 4) (v := .ref q_row) (C := RX4) (T := TX4) (N := 9) hx hb hts hi_4 hown hK hP 0 rfl rfl 0 (by decide) hf_12 (fun _ h9 => h9) rfl dX4_majorities_17 ?_
      refine va_get (D := (dC, dI)) (ci := 0) (v := .int len) (C := RX0) (T := TX0) (N := 2) hx hb hts hi_0 hown hK hP 4 rfl rfl 1 (by decide) hf_57 (fun _ h9 => h9) rfl dX4_majorities_20 ?_
      refine lv_icmp_ge (tgt := 79) hx hb dX4_majorities_23 (by decide) (fun c_3 => ?_) (fun c_3 => ?_)
      · have i_3 : len.toInt ≤ i.toInt := kc_le c_3
        refine lv_iload_n hx hb dX4_majorities_79 rfl (lv_at hl 1 rfl) ?_
        obtain ⟨hP9, hD9⟩ := kx_sub (w2 := [kx_4 m_ q_row q_t t_ h0 k0 w_ z_ slots old, kx_0 q_row q_cell len, kx_a q_cell cyI 160 f, kx_1 t_ t_k t_o a_t a_m, kx_a t_k cyI 160 o_2, kx_a t_o cyI 160 a_q]) hP hD [0, 4, 5, 2, 3, 1] (by decide) rfl
        have hK9 := hK
        exact W.iret (v := many) hx hb hr (hlocks := hlocks) (fun t ht hW => ⟨⟨many, (a_t, a_m, o_2, a_q), rfl, trivial, by rw [ht]; exact hP9, va_K.moved hW.alike hK9, hD9⟩, hS.F ht⟩) hS.2.2 dX4_majorities_80
      · have i_3 : i.toInt < len.toInt := kc_nle c_3
        refine lv_aload_n hx hb dX4_majorities_26 rfl (lv_at hl 2 rfl) ?_
        refine va_get (D := (dC, dI)) (ci := 4) (v := .ref t_) (C := RX4) (T := TX4) (N := 9) hx hb hts hi_4 hown hK hP 0 rfl rfl 2 (by decide) hf_28 (fun _ h9 => h9) rfl dX4_majorities_27 ?_
        obtain ⟨hPc, hDc, hFc, hCc⟩ := kx_pre (wc := [kx_1 t_ t_k t_o a_t a_m, kx_a t_o cyI 160 a_q]) hP hD hS hA [2, 1] (by decide) rfl
        have hKc := hK
        refine va_callv (va_runV (As := []) (rest := []) ⟨hx, hb, hml, hown, hts⟩ (kx_un (c_X1_clear l dC dI t_ t_k t_o cyI a_t a_m a_q H.size)) (cwV 0 hts gX4_majorities_X1_clear rfl rfl rfl (by decide +kernel) ⟨Nat.le_of_ble_eq_true rfl, Nat.le_of_ble_eq_true rfl⟩) ⟨fun a U g mk q => by obtain ⟨q0, q1, qP, qK, qD⟩ := q; exact ⟨q0, q1, qP, va_K.moved (u := U) (U := U.calling g mk a) (Vm.Alike.refl U.vm) qK, qD⟩, kx_rc1 hKc hPc (q0 := 0) rfl, fun U hU hW => ⟨rfl, by rw [hU], by rw [hU]; exact hPc, va_K.moved hW.alike hKc, hDc.weaken (fun _ _ _ _ => trivial)⟩⟩ rfl rfl hl.1 rfl (lv_room (Nat.le_of_ble_eq_true rfl)) dX4_majorities_30 ⟨Nat.le_of_ble_eq_true rfl, Nat.le_of_ble_eq_true rfl⟩) hS (fun q _ h => hFc q h) hFc (fun u t H1 locs ht hvm w_4 hB hz1 hk1 hS => ?_)
        obtain ⟨o_5, rfl⟩ : ∃ z, z = u := ⟨_, rfl⟩
        obtain ⟨hP1, hK1, hD1⟩ := hB
        rw [ht] at hP1
        have hK1 := va_K.moved hvm.symm hK1
        obtain ⟨hP, hD⟩ := kx_join (w2 := [kx_4 m_ q_row q_t t_ h0 k0 w_ z_ slots old, kx_a t_k cyI 160 o_2, kx_0 q_row q_cell len, kx_a q_cell cyI 160 f, kx_1 t_ t_k t_o 0 0, kx_a t_o cyI 160 o_5]) hP hD hP1 hD1 hk1 hFc [2, 1] [0, 3, 4, 5] hCc rfl (by decide) (by decide)
        clear hP1 hD1 hK1 hk1 hz1 hFc hDc hPc hKc hCc
        generalize H1 = H at hP hS ⊢
        have w_4 : ∀ k : Nat, k < 160 → o_5 k = 0 := w_4
        refine lv_iload_n hx hb dX4_majorities_33 rfl (lv_at hl 0 rfl) ?_
        refine lv_istore_n (lv' := [(3, .int i), (2, .int i), (1, .int many), (0, .ref m_)]) hx hb dX4_majorities_34 rfl hl (by decide) rfl (fun ls hl => ?_)
        have LP2 : ∀ (n : Nat) (j : Int32) (many2 : Int32) (b_t : Int32) (b_m : Int32) (b_q : Nat → Int32), (0 ≤ j.toInt) → (len.toInt - j.toInt).toNat < n → ∀ (H : Heap) (locs : List Loc), va_P (dC, dI) vwCl [kx_4 m_ q_row q_t t_ h0 k0 w_ z_ slots old, kx_a t_k cyI 160 o_2, kx_0 q_row q_cell len, kx_a q_cell cyI 160 f, kx_1 t_ t_k t_o b_t b_m, kx_a t_o cyI 160 b_q] H → va_D A [kx_4 m_ q_row q_t t_ h0 k0 w_ z_ slots old, kx_a t_k cyI 160 o_2, kx_0 q_row q_cell len, kx_a q_cell cyI 160 f, kx_1 t_ t_k t_o b_t b_m, kx_a t_o cyI 160 b_q] → va_S A s.heap H locs → ∀ (ls : Array Slot), lv_has ls 4 [(3, .int j), (2, .int i), (1, .int many2), (0, .ref m_)] → W p l e (headSpec wsX4_majorities ({ frames := 2, cells := 0, slots := 0, locals := 90 })).room s m ([.ref m_] : List Value).toArray below meth c H locs 0 0 (MQ below (va_Qi (fun (r : Int32) (u : Int32 × Int32 × (Nat → Int32) × (Nat → Int32)) => True) (fun (u : Int32 × Int32 × (Nat → Int32) × (Nat → Int32)) (t : State) => va_P (dC, dI) vwCl [kx_4 m_ q_row q_t t_ h0 k0 w_ z_ slots old, kx_0 q_row q_cell len, kx_a q_cell cyI 160 f, kx_1 t_ t_k t_o u.1 u.2.1, kx_a t_k cyI 160 u.2.2.1, kx_a t_o cyI 160 u.2.2.2] t.heap ∧ va_K (dC, dI) vwCl [(cyI, .int)] t ∧ va_D A [kx_4 m_ q_row q_t t_ h0 k0 w_ z_ slots old, kx_0 q_row q_cell len, kx_a q_cell cyI 160 f, kx_1 t_ t_k t_o u.1 u.2.1, kx_a t_k cyI 160 u.2.2.1, kx_a t_o cyI 160 u.2.2.2]) A) ([.ref m_] : List Value).toArray s 0 0 A) (F0 m 35 ls []) := by
          intro n
          induction n with
          | zero => intro j many2 b_t b_m b_q LP2_h0 hn; exact absurd hn (Nat.not_lt_zero _)
          | succ n ih2 =>
            intro j many2 b_t b_m b_q LP2_h0 hn2 H locs hP hD hS ls hl
            refine lv_iload_n hx hb dX4_majorities_35 rfl (lv_at hl 0 rfl) ?_
            refine lv_aload_n hx hb dX4_majorities_36 rfl (lv_at hl 3 rfl) ?_
            refine va_get (D := (dC, dI)) (ci := 4) (v := .ref q_row) (C := RX4) (T := TX4) (N := 9) hx hb hts hi_4 hown hK hP 0 rfl rfl 0 (by decide) hf_12 (fun _ h9 => h9) rfl dX4_majorities_37 ?_
            refine va_get (D := (dC, dI)) (ci := 0) (v := .int len) (C := RX0) (T := TX0) (N := 2) hx hb hts hi_0 hown hK hP 2 rfl rfl 1 (by decide) hf_57 (fun _ h9 => h9) rfl dX4_majorities_40 ?_
            refine lv_icmp_ge (tgt := 73) hx hb dX4_majorities_43 (by decide) (fun c_6 => ?_) (fun c_6 => ?_)
            · have i_6 : len.toInt ≤ j.toInt := kc_le c_6
              obtain ⟨x_7, ex_7⟩ : ∃ y : Int32, y = i + 1 := ⟨_, rfl⟩
              have i_7 : x_7.toInt = i.toInt + 1 := ki_add ex_7 rfl rfl (om_13 LP1_h0) (om_3 a1 i_3)
              refine lv_iinc (v := x_7) (lv' := [(2, .int x_7), (3, .int j), (1, .int many2), (0, .ref m_)]) hx hb dX4_majorities_73 hl (k := 1) rfl (by rw [ex_7]; rfl) (by decide) rfl (fun ls hl => ?_)
              refine lv_goto (tgt := 15) hx hb dX4_majorities_76 (by decide) ?_
              have hP : va_P (dC, dI) vwCl [kx_4 m_ q_row q_t t_ h0 k0 w_ z_ slots old, kx_a t_o cyI 160 b_q, kx_1 t_ t_k t_o b_t b_m, kx_a t_k cyI 160 o_2, kx_0 q_row q_cell len, kx_a q_cell cyI 160 f] _ := hP.sub [0, 5, 4, 1, 2, 3] rfl
              have hD : va_D A [kx_4 m_ q_row q_t t_ h0 k0 w_ z_ slots old, kx_a t_o cyI 160 b_q, kx_1 t_ t_k t_o b_t b_m, kx_a t_k cyI 160 o_2, kx_0 q_row q_cell len, kx_a q_cell cyI 160 f] := hD.sub [0, 5, 4, 1, 2, 3] (by decide) rfl
              exact ih1 x_7 many2 b_t b_m b_q (om_34 LP1_h0 i_7) (om_mu hn1 (om_5 i_7) (om_6 i_3)) _ _ hP hD hS ls (lv_sub hl [0, 2, 3] rfl)
            · have i_6 : j.toInt < len.toInt := kc_nle c_6
              refine lv_aload_n hx hb dX4_majorities_46 rfl (lv_at hl 3 rfl) ?_
              refine va_get (D := (dC, dI)) (ci := 4) (v := .ref t_) (C := RX4) (T := TX4) (N := 9) hx hb hts hi_4 hown hK hP 0 rfl rfl 2 (by decide) hf_28 (fun _ h9 => h9) rfl dX4_majorities_47 ?_
              refine lv_iload_n hx hb dX4_majorities_50 rfl (lv_at hl 0 rfl) ?_
              obtain ⟨hPc, hDc, hFc, hCc⟩ := kx_pre (wc := [kx_1 t_ t_k t_o b_t b_m, kx_a t_k cyI 160 o_2, kx_a t_o cyI 160 b_q]) hP hD hS hA [4, 1, 5] (by decide) rfl
              have hKc := hK
              refine va_callv (va_runV (As := [.int j]) (rest := []) ⟨hx, hb, hml, hown, hts⟩ (kx_un (c_X1_take l dC dI t_ t_k t_o cyI b_t b_m o_2 b_q len.toInt j H.size w_1 LP2_h0 i_6 a1)) (cwV 1 hts gX4_majorities_X1_take rfl rfl rfl (by decide +kernel) ⟨Nat.le_of_ble_eq_true rfl, Nat.le_of_ble_eq_true rfl⟩) ⟨fun a U g mk q => by obtain ⟨q0, q1, qP, qK, qD⟩ := q; exact ⟨q0, q1, qP, va_K.moved (u := U) (U := U.calling g mk a) (Vm.Alike.refl U.vm) qK, qD⟩, kx_rc1 hKc hPc (q0 := 0) rfl, fun U hU hW => ⟨rfl, by rw [hU], by rw [hU]; exact hPc, va_K.moved hW.alike hKc, hDc.weaken (fun _ _ _ _ => trivial)⟩⟩ rfl rfl hl.1 rfl (lv_room (Nat.le_of_ble_eq_true rfl)) dX4_majorities_51 ⟨Nat.le_of_ble_eq_true rfl, Nat.le_of_ble_eq_true rfl⟩) hS (fun q _ h => hFc q h) hFc (fun u t H1 locs ht hvm w_8 hB hz1 hk1 hS => ?_)
              obtain ⟨o_9, o_10, o_11⟩ := u
              dsimp only at w_8 hB
              obtain ⟨hP1, hK1, hD1⟩ := hB
              rw [ht] at hP1
              have hK1 := va_K.moved hvm.symm hK1
              obtain ⟨hP, hD⟩ := kx_join (w2 := [kx_4 m_ q_row q_t t_ h0 k0 w_ z_ slots old, kx_0 q_row q_cell len, kx_a q_cell cyI 160 f, kx_1 t_ t_k t_o o_9 o_10, kx_a t_k cyI 160 o_2, kx_a t_o cyI 160 o_11]) hP hD hP1 hD1 hk1 hFc [4, 1, 5] [0, 2, 3] hCc rfl (by decide) (by decide)
              clear hP1 hD1 hK1 hk1 hz1 hFc hDc hPc hKc hCc
              generalize H1 = H at hP hS ⊢
              have w_8 : True := w_8
              refine lv_aload_n hx hb dX4_majorities_54 rfl (lv_at hl 3 rfl) ?_
              refine va_get (D := (dC, dI)) (ci := 4) (v := .ref t_) (C := RX4) (T := TX4) (N := 9) hx hb hts hi_4 hown hK hP 0 rfl rfl 2 (by decide) hf_28 (fun _ h9 => h9) rfl dX4_majorities_55 ?_
              have hPc := hP.sub (ws' := [kx_1 t_ t_k t_o o_9 o_10]) [3] rfl
              have hKc := hK.sub (tys' := []) [] rfl
              refine vp_callSi (W.runV (As := []) (rest := []) ⟨hx, hb, hml, hown, hts⟩ (c_X1_hasMajority l dC dI t_ t_k t_o o_9 o_10) (cwV 0 hts gX4_majorities_X1_hasMajority rfl rfl rfl (by decide +kernel) ⟨Nat.le_of_ble_eq_true rfl, Nat.le_of_ble_eq_true rfl⟩) ⟨fun a U g mk q => by obtain ⟨q0, qP, qK⟩ := q; exact ⟨q0, qP, va_K.moved (u := U) (U := U.calling g mk a) (Vm.Alike.refl U.vm) qK⟩, kx_rc1 hKc hPc (q0 := 0) rfl, fun U hU hW => ⟨rfl, by rw [hU]; exact hPc, va_K.moved hW.alike hKc⟩⟩ rfl rfl hl.1 rfl (lv_room (Nat.le_of_ble_eq_true rfl)) dX4_majorities_58 ⟨Nat.le_of_ble_eq_true rfl, Nat.le_of_ble_eq_true rfl⟩) (fun r_12 w_12 => ?_)
              rcases w_12 with ⟨rfl, w_12⟩ | ⟨rfl, w_12⟩
              · have w_12 : (0 : Int) ≤ 1 := w_12
                refine lv_if_eq (tgt := 67) hx hb dX4_majorities_61 (by decide) (fun c_13 => ?_) (fun c_13 => ?_)
                · exact absurd c_13 (by decide)
                · obtain ⟨x_14, ex_14⟩ : ∃ y : Int32, y = many2 + 1 := ⟨_, rfl⟩
                  refine lv_iinc (v := x_14) (lv' := [(1, .int x_14), (3, .int j), (2, .int i), (0, .ref m_)]) hx hb dX4_majorities_64 hl (k := 2) rfl (by rw [ex_14]; rfl) (by decide) rfl (fun ls hl => ?_)
                  obtain ⟨x_15, ex_15⟩ : ∃ y : Int32, y = j + 1 := ⟨_, rfl⟩
                  have i_15 : x_15.toInt = j.toInt + 1 := ki_add ex_15 rfl rfl (om_13 LP2_h0) (om_3 a1 i_6)
                  refine lv_iinc (v := x_15) (lv' := [(3, .int x_15), (1, .int x_14), (2, .int i), (0, .ref m_)]) hx hb dX4_majorities_67 hl (k := 1) rfl (by rw [ex_15]; rfl) (by decide) rfl (fun ls hl => ?_)
                  refine lv_goto (tgt := 35) hx hb dX4_majorities_70 (by decide) ?_
                  have hP : va_P (dC, dI) vwCl [kx_4 m_ q_row q_t t_ h0 k0 w_ z_ slots old, kx_a t_k cyI 160 o_2, kx_0 q_row q_cell len, kx_a q_cell cyI 160 f, kx_1 t_ t_k t_o o_9 o_10, kx_a t_o cyI 160 o_11] _ := hP.sub [0, 4, 1, 2, 3, 5] rfl
                  have hD : va_D A [kx_4 m_ q_row q_t t_ h0 k0 w_ z_ slots old, kx_a t_k cyI 160 o_2, kx_0 q_row q_cell len, kx_a q_cell cyI 160 f, kx_1 t_ t_k t_o o_9 o_10, kx_a t_o cyI 160 o_11] := hD.sub [0, 4, 1, 2, 3, 5] (by decide) rfl
                  exact ih2 x_15 x_14 o_9 o_10 o_11 (om_34 LP2_h0 i_15) (om_mu hn2 (om_5 i_15) (om_6 i_6)) _ _ hP hD hS ls (lv_sub hl [0, 2, 1, 3] rfl)
              · have w_12 : (0 : Int) ≤ 1 := w_12
                refine lv_if_eq (tgt := 67) hx hb dX4_majorities_61 (by decide) (fun c_16 => ?_) (fun c_16 => ?_)
                · obtain ⟨x_17, ex_17⟩ : ∃ y : Int32, y = j + 1 := ⟨_, rfl⟩
                  have i_17 : x_17.toInt = j.toInt + 1 := ki_add ex_17 rfl rfl (om_13 LP2_h0) (om_3 a1 i_6)
                  refine lv_iinc (v := x_17) (lv' := [(3, .int x_17), (2, .int i), (1, .int many2), (0, .ref m_)]) hx hb dX4_majorities_67 hl (k := 0) rfl (by rw [ex_17]; rfl) (by decide) rfl (fun ls hl => ?_)
                  refine lv_goto (tgt := 35) hx hb dX4_majorities_70 (by decide) ?_
                  have hP : va_P (dC, dI) vwCl [kx_4 m_ q_row q_t t_ h0 k0 w_ z_ slots old, kx_a t_k cyI 160 o_2, kx_0 q_row q_cell len, kx_a q_cell cyI 160 f, kx_1 t_ t_k t_o o_9 o_10, kx_a t_o cyI 160 o_11] _ := hP.sub [0, 4, 1, 2, 3, 5] rfl
                  have hD : va_D A [kx_4 m_ q_row q_t t_ h0 k0 w_ z_ slots old, kx_a t_k cyI 160 o_2, kx_0 q_row q_cell len, kx_a q_cell cyI 160 f, kx_1 t_ t_k t_o o_9 o_10, kx_a t_o cyI 160 o_11] := hD.sub [0, 4, 1, 2, 3, 5] (by decide) rfl
                  exact ih2 x_17 many2 o_9 o_10 o_11 (om_34 LP2_h0 i_17) (om_mu hn2 (om_5 i_17) (om_6 i_6)) _ _ hP hD hS ls (lv_sub hl [0, 1, 2, 3] rfl)
                · exact absurd c_16 (by decide)
        have k_18 : (0 : Int32).toInt = 0 := rfl
        have k_19 : (0 : Int32).toInt = 0 := rfl
        exact LP2 ((len.toInt - i.toInt : Int).toNat + 1) i many 0 0 o_5 (om_10 LP1_h0) (Nat.lt_succ_self _) _ _ hP hD hS ls (lv_sub hl [0, 1, 2, 3] rfl)
  have k_20 : (0 : Int32).toInt = 0 := rfl
  have k_21 : (0 : Int32).toInt = 0 := rfl
  exact LP1 ((len.toInt - 0 : Int).toNat + 1) 0 0 tk mo fq om_35 (Nat.lt_succ_self _) _ _ hP hD hS ls (lv_sub hl [0, 1, 2] rfl)

set_option maxHeartbeats 4000000 in
set_option maxRecDepth 100000 in
theorem c_X4_reach (l : Launch) (dC : Nat → ClassId) (dI : Nat → Nat → Nat) (m_ : Nat) (q_row : Nat) (q_t : Nat) (t_ : Nat) (h0 : Nat) (k0 : Nat) (w_ : Nat) (z_ : Nat) (slots : Int32) (old : Int32) (q_cell : Nat) (cyI : ClassId) (len : Int32) (f : Nat → Int32) (t_k : Nat) (t_o : Nat) (tk : Int32) (mo : Int32) (fk : Nat → Int32) (fq : Nat → Int32) (p0 : Int32) (sz : Nat) (a0 : 0 ≤ len.toInt) (a1 : len.toInt ≤ 160) : kx_MQ l (dC, dI) yX4_reach wsX4_reach ({ frames := 2, cells := 0, slots := 0, locals := 90 }) [.ref m_, .int p0] [kx_4 m_ q_row q_t t_ h0 k0 w_ z_ slots old, kx_0 q_row q_cell len, kx_a q_cell cyI 160 f, kx_1 t_ t_k t_o tk mo, kx_a t_k cyI 160 fk, kx_a t_o cyI 160 fq] [(cyI, .int)] sz (fun A => va_Qi (fun (r : Int32) (u : Int32 × Int32 × (Nat → Int32) × (Nat → Int32)) => True) (fun (u : Int32 × Int32 × (Nat → Int32) × (Nat → Int32)) (t : State) => va_P (dC, dI) vwCl [kx_4 m_ q_row q_t t_ h0 k0 w_ z_ slots old, kx_0 q_row q_cell len, kx_a q_cell cyI 160 f, kx_1 t_ t_k t_o u.1 u.2.1, kx_a t_k cyI 160 u.2.2.1, kx_a t_o cyI 160 u.2.2.2] t.heap ∧ va_K (dC, dI) vwCl [(cyI, .int)] t ∧ va_D A [kx_4 m_ q_row q_t t_ h0 k0 w_ z_ slots old, kx_0 q_row q_cell len, kx_a q_cell cyI 160 f, kx_1 t_ t_k t_o u.1 u.2.1, kx_a t_k cyI 160 u.2.2.1, kx_a t_o cyI 160 u.2.2.2]) A) := by
  refine kx_stQ (ws := wsX4_reach) (cc := cX4_reach) (maxL := 4) (ret := (some .int)) (by decide) rfl (Nat.le_of_ble_eq_true rfl) ?_
  intro p e s m below meth c A ls hx hb hr hlocks hts hown hml hA hS hP hK hD hl
  have hown : s.vm.findClass RX4 = some m.cls := hown
  have hl : lv_has ls 4 [(0, .ref m_), (1, .int p0)] := hl
  have hf_12 := hts (.fieldLink RX4 12 "MajorityIndex" "row" "LMajorityIndex$Row;") (List.mem_of_getElem? (i := 1) rfl)
  have hi_4 : ∀ w ∈ u_ws RX4 TX4 9, w ∈ wsX4_reach := fun w h => List.mem_cons_of_mem _ (List.mem_append_left _ (List.mem_append_left _ (List.mem_append_right _ h)))
  have hf_28 := hts (.fieldLink RX4 28 "MajorityIndex" "tally" "LMajorityIndex$Tally;") (List.mem_of_getElem? (i := 2) rfl)
  have hf_57 := hts (.fieldLink RX4 57 "MajorityIndex$Row" "length" "I") (List.mem_of_getElem? (i := 3) rfl)
  have hi_0 : ∀ w ∈ u_ws RX0 TX0 2, w ∈ wsX4_reach := fun w h => List.mem_cons_of_mem _ (List.mem_append_left _ (List.mem_append_right _ h))
  refine lv_aload_n hx hb dX4_reach_0 rfl (lv_at hl 0 rfl) ?_
  refine va_get (D := (dC, dI)) (ci := 4) (v := .ref q_row) (C := RX4) (T := TX4) (N := 9) hx hb hts hi_4 hown hK hP 0 rfl rfl 0 (by decide) hf_12 (fun _ h9 => h9) rfl dX4_reach_1 ?_
  refine lv_iload_n hx hb dX4_reach_4 rfl (lv_at hl 1 rfl) ?_
  have hPc := hP.sub (ws' := [kx_0 q_row q_cell len]) [1] rfl
  have hKc := hK.sub (tys' := []) [] rfl
  refine vp_callSi (W.runV (As := [.int p0]) (rest := []) ⟨hx, hb, hml, hown, hts⟩ (c_X0_hasPlace l dC dI q_row q_cell len p0) (cwV 1 hts gX4_reach_X0_hasPlace rfl rfl rfl (by decide +kernel) ⟨Nat.le_of_ble_eq_true rfl, Nat.le_of_ble_eq_true rfl⟩) ⟨fun a U g mk q => by obtain ⟨q0, qP, qK⟩ := q; exact ⟨q0, qP, va_K.moved (u := U) (U := U.calling g mk a) (Vm.Alike.refl U.vm) qK⟩, kx_rc0 hKc hPc (q0 := 0) rfl, fun U hU hW => ⟨rfl, by rw [hU]; exact hPc, va_K.moved hW.alike hKc⟩⟩ rfl rfl hl.1 rfl (lv_room (Nat.le_of_ble_eq_true rfl)) dX4_reach_5 ⟨Nat.le_of_ble_eq_true rfl, Nat.le_of_ble_eq_true rfl⟩) (fun r_1 w_1 => ?_)
  rcases w_1 with ⟨rfl, w_1⟩ | ⟨rfl, w_1⟩
  · have w_1 : (0 ≤ p0.toInt ∧ p0.toInt < len.toInt) := w_1
    refine lv_if_ne (tgt := 13) hx hb dX4_reach_8 (by decide) (fun c_2 => ?_) (fun c_2 => ?_)
    · refine lv_aload_n hx hb dX4_reach_13 rfl (lv_at hl 0 rfl) ?_
      refine va_get (D := (dC, dI)) (ci := 4) (v := .ref t_) (C := RX4) (T := TX4) (N := 9) hx hb hts hi_4 hown hK hP 0 rfl rfl 2 (by decide) hf_28 (fun _ h9 => h9) rfl dX4_reach_14 ?_
      refine lv_aload_n hx hb dX4_reach_17 rfl (lv_at hl 0 rfl) ?_
      refine va_get (D := (dC, dI)) (ci := 4) (v := .ref q_row) (C := RX4) (T := TX4) (N := 9) hx hb hts hi_4 hown hK hP 0 rfl rfl 0 (by decide) hf_12 (fun _ h9 => h9) rfl dX4_reach_18 ?_
      obtain ⟨hPc, hDc, hFc, hCc⟩ := kx_pre (wc := [kx_1 t_ t_k t_o tk mo, kx_a t_k cyI 160 fk, kx_0 q_row q_cell len, kx_a q_cell cyI 160 f]) hP hD hS hA [3, 4, 1, 2] (by decide) rfl
      have hKc := hK
      refine va_callv (va_runV (As := [.ref q_row]) (rest := []) ⟨hx, hb, hml, hown, hts⟩ (kx_un (c_X1_learn l dC dI t_ t_k t_o cyI tk mo fk q_row q_cell len f s.heap.size a0 a1)) (cwV 1 hts gX4_reach_X1_learn rfl rfl rfl (by decide +kernel) ⟨Nat.le_of_ble_eq_true rfl, Nat.le_of_ble_eq_true rfl⟩) ⟨fun a U g mk q => by obtain ⟨q0, q1, qP, qK, qD⟩ := q; exact ⟨q0, q1, qP, va_K.moved (u := U) (U := U.calling g mk a) (Vm.Alike.refl U.vm) qK, qD⟩, kx_rc1 hKc hPc (q0 := 0) rfl, fun U hU hW => ⟨rfl, by rw [hU], by rw [hU]; exact hPc, va_K.moved hW.alike hKc, hDc.weaken (fun _ _ _ _ => trivial)⟩⟩ rfl rfl hl.1 rfl (lv_room (Nat.le_of_ble_eq_true rfl)) dX4_reach_21 ⟨Nat.le_of_ble_eq_true rfl, Nat.le_of_ble_eq_true rfl⟩) hS (fun q _ h => hFc q h) hFc (fun u t H1 locs ht hvm w_3 hB hz1 hk1 hS => ?_)
      obtain ⟨o_4, rfl⟩ : ∃ z, z = u := ⟨_, rfl⟩
      obtain ⟨hP1, hK1, hD1⟩ := hB
      rw [ht] at hP1
      have hK1 := va_K.moved hvm.symm hK1
      obtain ⟨hP, hD⟩ := kx_join (w2 := [kx_4 m_ q_row q_t t_ h0 k0 w_ z_ slots old, kx_a t_o cyI 160 fq, kx_1 t_ t_k t_o tk mo, kx_a t_k cyI 160 o_4, kx_0 q_row q_cell len, kx_a q_cell cyI 160 f]) hP hD hP1 hD1 hk1 hFc [3, 4, 1, 2] [0, 5] hCc rfl (by decide) (by decide)
      clear hP1 hD1 hK1 hk1 hz1 hFc hDc hPc hKc hCc
      generalize H1 = H at hP hS ⊢
      have w_3 : kindOk o_4 len.toInt := w_3
      refine lv_aload_n hx hb dX4_reach_24 rfl (lv_at hl 0 rfl) ?_
      refine va_get (D := (dC, dI)) (ci := 4) (v := .ref t_) (C := RX4) (T := TX4) (N := 9) hx hb hts hi_4 hown hK hP 0 rfl rfl 2 (by decide) hf_28 (fun _ h9 => h9) rfl dX4_reach_25 ?_
      obtain ⟨hPc, hDc, hFc, hCc⟩ := kx_pre (wc := [kx_1 t_ t_k t_o tk mo, kx_a t_o cyI 160 fq]) hP hD hS hA [2, 1] (by decide) rfl
      have hKc := hK
      refine va_callv (va_runV (As := []) (rest := []) ⟨hx, hb, hml, hown, hts⟩ (kx_un (c_X1_clear l dC dI t_ t_k t_o cyI tk mo fq H.size)) (cwV 0 hts gX4_reach_X1_clear rfl rfl rfl (by decide +kernel) ⟨Nat.le_of_ble_eq_true rfl, Nat.le_of_ble_eq_true rfl⟩) ⟨fun a U g mk q => by obtain ⟨q0, q1, qP, qK, qD⟩ := q; exact ⟨q0, q1, qP, va_K.moved (u := U) (U := U.calling g mk a) (Vm.Alike.refl U.vm) qK, qD⟩, kx_rc1 hKc hPc (q0 := 0) rfl, fun U hU hW => ⟨rfl, by rw [hU], by rw [hU]; exact hPc, va_K.moved hW.alike hKc, hDc.weaken (fun _ _ _ _ => trivial)⟩⟩ rfl rfl hl.1 rfl (lv_room (Nat.le_of_ble_eq_true rfl)) dX4_reach_28 ⟨Nat.le_of_ble_eq_true rfl, Nat.le_of_ble_eq_true rfl⟩) hS (fun q _ h => hFc q h) hFc (fun u t H1 locs ht hvm w_5 hB hz1 hk1 hS => ?_)
      obtain ⟨o_6, rfl⟩ : ∃ z, z = u := ⟨_, rfl⟩
      obtain ⟨hP1, hK1, hD1⟩ := hB
      rw [ht] at hP1
      have hK1 := va_K.moved hvm.symm hK1
      obtain ⟨hP, hD⟩ := kx_join (w2 := [kx_4 m_ q_row q_t t_ h0 k0 w_ z_ slots old, kx_a t_k cyI 160 o_4, kx_0 q_row q_cell len, kx_a q_cell cyI 160 f, kx_1 t_ t_k t_o 0 0, kx_a t_o cyI 160 o_6]) hP hD hP1 hD1 hk1 hFc [2, 1] [0, 3, 4, 5] hCc rfl (by decide) (by decide)
      clear hP1 hD1 hK1 hk1 hz1 hFc hDc hPc hKc hCc
      generalize H1 = H at hP hS ⊢
      have w_5 : ∀ k : Nat, k < 160 → o_6 k = 0 := w_5
      refine lv_iconst (v := (-1)) hx hb dX4_reach_31 (by decide) ?_
      refine lv_istore_n (lv' := [(2, .int (-1)), (0, .ref m_), (1, .int p0)]) hx hb dX4_reach_32 rfl hl (by decide) rfl (fun ls hl => ?_)
      refine lv_iload_n hx hb dX4_reach_33 rfl (lv_at hl 2 rfl) ?_
      refine lv_istore_n (lv' := [(3, .int p0), (2, .int (-1)), (0, .ref m_), (1, .int p0)]) hx hb dX4_reach_34 rfl hl (by decide) rfl (fun ls hl => ?_)
      have LP1 : ∀ (n : Nat) (i : Int32) (far : Int32) (a_t : Int32) (a_m : Int32) (a_q : Nat → Int32), (0 ≤ i.toInt) → (len.toInt - i.toInt).toNat < n → ∀ (H : Heap) (locs : List Loc), va_P (dC, dI) vwCl [kx_4 m_ q_row q_t t_ h0 k0 w_ z_ slots old, kx_a t_k cyI 160 o_4, kx_0 q_row q_cell len, kx_a q_cell cyI 160 f, kx_1 t_ t_k t_o a_t a_m, kx_a t_o cyI 160 a_q] H → va_D A [kx_4 m_ q_row q_t t_ h0 k0 w_ z_ slots old, kx_a t_k cyI 160 o_4, kx_0 q_row q_cell len, kx_a q_cell cyI 160 f, kx_1 t_ t_k t_o a_t a_m, kx_a t_o cyI 160 a_q] → va_S A s.heap H locs → ∀ (ls : Array Slot), lv_has ls 4 [(3, .int i), (2, .int far), (0, .ref m_), (1, .int p0)] → W p l e (headSpec wsX4_reach ({ frames := 2, cells := 0, slots := 0, locals := 90 })).room s m ([.ref m_, .int p0] : List Value).toArray below meth c H locs 0 0 (MQ below (va_Qi (fun (r : Int32) (u : Int32 × Int32 × (Nat → Int32) × (Nat → Int32)) => True) (fun (u : Int32 × Int32 × (Nat → Int32) × (Nat → Int32)) (t : State) => va_P (dC, dI) vwCl [kx_4 m_ q_row q_t t_ h0 k0 w_ z_ slots old, kx_0 q_row q_cell len, kx_a q_cell cyI 160 f, kx_1 t_ t_k t_o u.1 u.2.1, kx_a t_k cyI 160 u.2.2.1, kx_a t_o cyI 160 u.2.2.2] t.heap ∧ va_K (dC, dI) vwCl [(cyI, .int)] t ∧ va_D A [kx_4 m_ q_row q_t t_ h0 k0 w_ z_ slots old, kx_0 q_row q_cell len, kx_a q_cell cyI 160 f, kx_1 t_ t_k t_o u.1 u.2.1, kx_a t_k cyI 160 u.2.2.1, kx_a t_o cyI 160 u.2.2.2]) A) ([.ref m_, .int p0] : List Value).toArray s 0 0 A) (F0 m 35 ls []) := by
        intro n
        induction n with
        | zero => intro i far a_t a_m a_q LP1_h0 hn; exact absurd hn (Nat.not_lt_zero _)
        | succ n ih1 =>
          intro i far a_t a_m a_q LP1_h0 hn1 H locs hP hD hS ls hl
          refine lv_iload_n hx hb dX4_reach_35 rfl (lv_at hl 0 rfl) ?_
          refine lv_aload_n hx hb dX4_reach_36 rfl (lv_at hl 2 rfl) ?_
          refine va_get (D := (dC, dI)) (ci := 4) (v := .ref q_row) (C := RX4) (T := TX4) (N := 9) hx hb hts hi_4 hown hK hP 0 rfl rfl 0 (by decide) hf_12 (fun _ h9 => h9) rfl dX4_reach_37 ?_
          refine va_get (D := (dC, dI)) (ci := 0) (v := .int len) (C := RX0) (T := TX0) (N := 2) hx hb hts hi_0 hown hK hP 2 rfl rfl 1 (by decide) hf_57 (fun _ h9 => h9) rfl dX4_reach_40 ?_
          refine lv_icmp_ge (tgt := 74) hx hb dX4_reach_43 (by decide) (fun c_7 => ?_) (fun c_7 => ?_)
          · have i_7 : len.toInt ≤ i.toInt := kc_le c_7
            refine lv_iload_n hx hb dX4_reach_74 rfl (lv_at hl 1 rfl) ?_
            obtain ⟨hP9, hD9⟩ := kx_sub (w2 := [kx_4 m_ q_row q_t t_ h0 k0 w_ z_ slots old, kx_0 q_row q_cell len, kx_a q_cell cyI 160 f, kx_1 t_ t_k t_o a_t a_m, kx_a t_k cyI 160 o_4, kx_a t_o cyI 160 a_q]) hP hD [0, 2, 3, 4, 1, 5] (by decide) rfl
            have hK9 := hK
            exact W.iret (v := far) hx hb hr (hlocks := hlocks) (fun t ht hW => ⟨⟨far, (a_t, a_m, o_4, a_q), rfl, trivial, by rw [ht]; exact hP9, va_K.moved hW.alike hK9, hD9⟩, hS.F ht⟩) hS.2.2 dX4_reach_75
          · have i_7 : i.toInt < len.toInt := kc_nle c_7
            refine lv_aload_n hx hb dX4_reach_46 rfl (lv_at hl 2 rfl) ?_
            refine va_get (D := (dC, dI)) (ci := 4) (v := .ref t_) (C := RX4) (T := TX4) (N := 9) hx hb hts hi_4 hown hK hP 0 rfl rfl 2 (by decide) hf_28 (fun _ h9 => h9) rfl dX4_reach_47 ?_
            refine lv_iload_n hx hb dX4_reach_50 rfl (lv_at hl 0 rfl) ?_
            obtain ⟨hPc, hDc, hFc, hCc⟩ := kx_pre (wc := [kx_1 t_ t_k t_o a_t a_m, kx_a t_k cyI 160 o_4, kx_a t_o cyI 160 a_q]) hP hD hS hA [4, 1, 5] (by decide) rfl
            have hKc := hK
            refine va_callv (va_runV (As := [.int i]) (rest := []) ⟨hx, hb, hml, hown, hts⟩ (kx_un (c_X1_take l dC dI t_ t_k t_o cyI a_t a_m o_4 a_q len.toInt i H.size w_3 LP1_h0 i_7 a1)) (cwV 1 hts gX4_reach_X1_take rfl rfl rfl (by decide +kernel) ⟨Nat.le_of_ble_eq_true rfl, Nat.le_of_ble_eq_true rfl⟩) ⟨fun a U g mk q => by obtain ⟨q0, q1, qP, qK, qD⟩ := q; exact ⟨q0, q1, qP, va_K.moved (u := U) (U := U.calling g mk a) (Vm.Alike.refl U.vm) qK, qD⟩, kx_rc1 hKc hPc (q0 := 0) rfl, fun U hU hW => ⟨rfl, by rw [hU], by rw [hU]; exact hPc, va_K.moved hW.alike hKc, hDc.weaken (fun _ _ _ _ => trivial)⟩⟩ rfl rfl hl.1 rfl (lv_room (Nat.le_of_ble_eq_true rfl)) dX4_reach_51 ⟨Nat.le_of_ble_eq_true rfl, Nat.le_of_ble_eq_true rfl⟩) hS (fun q _ h => hFc q h) hFc (fun u t H1 locs ht hvm w_8 hB hz1 hk1 hS => ?_)
            obtain ⟨o_9, o_10, o_11⟩ := u
            dsimp only at w_8 hB
            obtain ⟨hP1, hK1, hD1⟩ := hB
            rw [ht] at hP1
            have hK1 := va_K.moved hvm.symm hK1
            obtain ⟨hP, hD⟩ := kx_join (w2 := [kx_4 m_ q_row q_t t_ h0 k0 w_ z_ slots old, kx_0 q_row q_cell len, kx_a q_cell cyI 160 f, kx_1 t_ t_k t_o o_9 o_10, kx_a t_k cyI 160 o_4, kx_a t_o cyI 160 o_11]) hP hD hP1 hD1 hk1 hFc [4, 1, 5] [0, 2, 3] hCc rfl (by decide) (by decide)
            clear hP1 hD1 hK1 hk1 hz1 hFc hDc hPc hKc hCc
            generalize H1 = H at hP hS ⊢
            have w_8 : True := w_8
            refine lv_aload_n hx hb dX4_reach_54 rfl (lv_at hl 2 rfl) ?_
            refine va_get (D := (dC, dI)) (ci := 4) (v := .ref t_) (C := RX4) (T := TX4) (N := 9) hx hb hts hi_4 hown hK hP 0 rfl rfl 2 (by decide) hf_28 (fun _ h9 => h9) rfl dX4_reach_55 ?_
            have hPc := hP.sub (ws' := [kx_1 t_ t_k t_o o_9 o_10]) [3] rfl
            have hKc := hK.sub (tys' := []) [] rfl
            refine vp_callSi (W.runV (As := []) (rest := []) ⟨hx, hb, hml, hown, hts⟩ (c_X1_hasMajority l dC dI t_ t_k t_o o_9 o_10) (cwV 0 hts gX4_reach_X1_hasMajority rfl rfl rfl (by decide +kernel) ⟨Nat.le_of_ble_eq_true rfl, Nat.le_of_ble_eq_true rfl⟩) ⟨fun a U g mk q => by obtain ⟨q0, qP, qK⟩ := q; exact ⟨q0, qP, va_K.moved (u := U) (U := U.calling g mk a) (Vm.Alike.refl U.vm) qK⟩, kx_rc1 hKc hPc (q0 := 0) rfl, fun U hU hW => ⟨rfl, by rw [hU]; exact hPc, va_K.moved hW.alike hKc⟩⟩ rfl rfl hl.1 rfl (lv_room (Nat.le_of_ble_eq_true rfl)) dX4_reach_58 ⟨Nat.le_of_ble_eq_true rfl, Nat.le_of_ble_eq_true rfl⟩) (fun r_12 w_12 => ?_)
            rcases w_12 with ⟨rfl, w_12⟩ | ⟨rfl, w_12⟩
            · have w_12 : (0 : Int) ≤ 1 := w_12
              refine lv_if_eq (tgt := 68) hx hb dX4_reach_61 (by decide) (fun c_13 => ?_) (fun c_13 => ?_)
              · exact absurd c_13 (by decide)
              · refine lv_iload_n hx hb dX4_reach_64 rfl (lv_at hl 0 rfl) ?_
                refine lv_iconst (v := 1) hx hb dX4_reach_65 (by decide) ?_
                refine lv_iadd hx hb dX4_reach_66 ?_
                refine lv_topi (fun y_14 ey_14 => ?_)
                have i_14 : y_14.toInt = i.toInt + 1 := ki_add ey_14 rfl rfl (om_13 LP1_h0) (om_3 a1 i_7)
                refine lv_istore_n (lv' := [(2, .int y_14), (3, .int i), (0, .ref m_), (1, .int p0)]) hx hb dX4_reach_67 rfl hl (by decide) rfl (fun ls hl => ?_)
                obtain ⟨x_15, ex_15⟩ : ∃ y : Int32, y = i + 1 := ⟨_, rfl⟩
                have i_15 : x_15.toInt = i.toInt + 1 := ki_add ex_15 rfl rfl (om_13 LP1_h0) (om_3 a1 i_7)
                refine lv_iinc (v := x_15) (lv' := [(3, .int x_15), (2, .int y_14), (0, .ref m_), (1, .int p0)]) hx hb dX4_reach_68 hl (k := 1) rfl (by rw [ex_15]; rfl) (by decide) rfl (fun ls hl => ?_)
                refine lv_goto (tgt := 35) hx hb dX4_reach_71 (by decide) ?_
                have hP : va_P (dC, dI) vwCl [kx_4 m_ q_row q_t t_ h0 k0 w_ z_ slots old, kx_a t_k cyI 160 o_4, kx_0 q_row q_cell len, kx_a q_cell cyI 160 f, kx_1 t_ t_k t_o o_9 o_10, kx_a t_o cyI 160 o_11] _ := hP.sub [0, 4, 1, 2, 3, 5] rfl
                have hD : va_D A [kx_4 m_ q_row q_t t_ h0 k0 w_ z_ slots old, kx_a t_k cyI 160 o_4, kx_0 q_row q_cell len, kx_a q_cell cyI 160 f, kx_1 t_ t_k t_o o_9 o_10, kx_a t_o cyI 160 o_11] := hD.sub [0, 4, 1, 2, 3, 5] (by decide) rfl
                exact ih1 x_15 y_14 o_9 o_10 o_11 (om_34 LP1_h0 i_15) (om_mu hn1 (om_5 i_15) (om_6 i_7)) _ _ hP hD hS ls (lv_sub hl [0, 1, 2, 3] rfl)
            · have w_12 : (0 : Int) ≤ 1 := w_12
              refine lv_if_eq (tgt := 68) hx hb dX4_reach_61 (by decide) (fun c_16 => ?_) (fun c_16 => ?_)
              · obtain ⟨x_17, ex_17⟩ : ∃ y : Int32, y = i + 1 := ⟨_, rfl⟩
                have i_17 : x_17.toInt = i.toInt + 1 := ki_add ex_17 rfl rfl (om_13 LP1_h0) (om_3 a1 i_7)
                refine lv_iinc (v := x_17) (lv' := [(3, .int x_17), (2, .int far), (0, .ref m_), (1, .int p0)]) hx hb dX4_reach_68 hl (k := 0) rfl (by rw [ex_17]; rfl) (by decide) rfl (fun ls hl => ?_)
                refine lv_goto (tgt := 35) hx hb dX4_reach_71 (by decide) ?_
                have hP : va_P (dC, dI) vwCl [kx_4 m_ q_row q_t t_ h0 k0 w_ z_ slots old, kx_a t_k cyI 160 o_4, kx_0 q_row q_cell len, kx_a q_cell cyI 160 f, kx_1 t_ t_k t_o o_9 o_10, kx_a t_o cyI 160 o_11] _ := hP.sub [0, 4, 1, 2, 3, 5] rfl
                have hD : va_D A [kx_4 m_ q_row q_t t_ h0 k0 w_ z_ slots old, kx_a t_k cyI 160 o_4, kx_0 q_row q_cell len, kx_a q_cell cyI 160 f, kx_1 t_ t_k t_o o_9 o_10, kx_a t_o cyI 160 o_11] := hD.sub [0, 4, 1, 2, 3, 5] (by decide) rfl
                exact ih1 x_17 far o_9 o_10 o_11 (om_34 LP1_h0 i_17) (om_mu hn1 (om_5 i_17) (om_6 i_7)) _ _ hP hD hS ls (lv_sub hl [0, 1, 2, 3] rfl)
              · exact absurd c_16 (by decide)
      have k_18 : ((-1) : Int32).toInt = -1 := rfl
      have k_19 : (0 : Int32).toInt = 0 := rfl
      have k_20 : (0 : Int32).toInt = 0 := rfl
      exact LP1 ((len.toInt - p0.toInt : Int).toNat + 1) p0 (-1) 0 0 o_6 (om_10 w_1.1) (Nat.lt_succ_self _) _ _ hP hD hS ls (lv_sub hl [0, 1, 2, 3] rfl)
    · exact absurd c_2 (by decide)
  · have w_1 : (p0.toInt < 0 ∨ len.toInt ≤ p0.toInt) := w_1
    refine lv_if_ne (tgt := 13) hx hb dX4_reach_8 (by decide) (fun c_21 => ?_) (fun c_21 => ?_)
    · exact absurd c_21 (by decide)
    · refine lv_iconst (v := (-1)) hx hb dX4_reach_11 (by decide) ?_
      have hP9 := hP
      have hD9 := hD
      have hK9 := hK
      exact W.iret (v := (-1)) hx hb hr (hlocks := hlocks) (fun t ht hW => ⟨⟨(-1), (tk, mo, fk, fq), rfl, trivial, by rw [ht]; exact hP9, va_K.moved hW.alike hK9, hD9⟩, hS.F ht⟩) hS.2.2 dX4_reach_12

set_option maxHeartbeats 4000000 in
set_option maxRecDepth 100000 in
theorem c_X4_parted (l : Launch) (dC : Nat → ClassId) (dI : Nat → Nat → Nat) (m_ : Nat) (q_row : Nat) (q_t : Nat) (t_ : Nat) (h0 : Nat) (k0 : Nat) (w_ : Nat) (z_ : Nat) (slots : Int32) (old : Int32) (q_cell : Nat) (cyI : ClassId) (len : Int32) (f : Nat → Int32) (t_k : Nat) (t_o : Nat) (tk : Int32) (mo : Int32) (fk : Nat → Int32) (fq : Nat → Int32) (fz : Nat → Int32) (p0 : Int32) (p1 : Int32) (sz : Nat) (a0 : 0 ≤ len.toInt) (a1 : len.toInt ≤ 160) : kx_MQ l (dC, dI) yX4_parted wsX4_parted ({ frames := 2, cells := 0, slots := 0, locals := 90 }) [.ref m_, .int p0, .int p1] [kx_4 m_ q_row q_t t_ h0 k0 w_ z_ slots old, kx_0 q_row q_cell len, kx_a q_cell cyI 160 f, kx_1 t_ t_k t_o tk mo, kx_a t_k cyI 160 fk, kx_a t_o cyI 160 fq, kx_a z_ cyI 161 fz] [(cyI, .int)] sz (fun A => va_Qi (fun (r : Int32) (u : Int32 × Int32 × (Nat → Int32) × (Nat → Int32) × (Nat → Int32)) => True) (fun (u : Int32 × Int32 × (Nat → Int32) × (Nat → Int32) × (Nat → Int32)) (t : State) => va_P (dC, dI) vwCl [kx_4 m_ q_row q_t t_ h0 k0 w_ z_ slots old, kx_0 q_row q_cell len, kx_a q_cell cyI 160 f, kx_1 t_ t_k t_o u.1 u.2.1, kx_a t_k cyI 160 u.2.2.1, kx_a t_o cyI 160 u.2.2.2.1, kx_a z_ cyI 161 u.2.2.2.2] t.heap ∧ va_K (dC, dI) vwCl [(cyI, .int)] t ∧ va_D A [kx_4 m_ q_row q_t t_ h0 k0 w_ z_ slots old, kx_0 q_row q_cell len, kx_a q_cell cyI 160 f, kx_1 t_ t_k t_o u.1 u.2.1, kx_a t_k cyI 160 u.2.2.1, kx_a t_o cyI 160 u.2.2.2.1, kx_a z_ cyI 161 u.2.2.2.2]) A) := by
  refine kx_stQ (ws := wsX4_parted) (cc := cX4_parted) (maxL := 5) (ret := (some .int)) (by decide) rfl (Nat.le_of_ble_eq_true rfl) ?_
  intro p e s m below meth c A ls hx hb hr hlocks hts hown hml hA hS hP hK hD hl
  have hown : s.vm.findClass RX4 = some m.cls := hown
  have hl : lv_has ls 5 [(0, .ref m_), (1, .int p0), (2, .int p1)] := hl
  have hf_12 := hts (.fieldLink RX4 12 "MajorityIndex" "row" "LMajorityIndex$Row;") (List.mem_of_getElem? (i := 1) rfl)
  have hi_4 : ∀ w ∈ u_ws RX4 TX4 9, w ∈ wsX4_parted := fun w h => List.mem_cons_of_mem _ (List.mem_append_left _ (List.mem_append_left _ (List.mem_append_right _ h)))
  have hf_28 := hts (.fieldLink RX4 28 "MajorityIndex" "tally" "LMajorityIndex$Tally;") (List.mem_of_getElem? (i := 2) rfl)
  have hf_46 := hts (.fieldLink RX4 46 "MajorityIndex" "fewest" "[I") (List.mem_of_getElem? (i := 3) rfl)
  have hm_91 := hts (.methodLink RX4 91 Lib.Math.min.name) (List.mem_of_getElem? (i := 4) rfl)
  have hms_min := hts (.static Lib.Math.min.name) (List.mem_of_getElem? (i := 5) rfl)
  have hz_math := hts (.initialized "java/lang/Math") (List.mem_of_getElem? (i := 6) rfl)
  have hmc_min := hts (.code Lib.Math.min.name Lib.Math.min.code 2 (some .int)) (List.mem_of_getElem? (i := 7) rfl)
  refine lv_aload_n hx hb dX4_parted_0 rfl (lv_at hl 0 rfl) ?_
  refine va_get (D := (dC, dI)) (ci := 4) (v := .ref q_row) (C := RX4) (T := TX4) (N := 9) hx hb hts hi_4 hown hK hP 0 rfl rfl 0 (by decide) hf_12 (fun _ h9 => h9) rfl dX4_parted_1 ?_
  refine lv_iload_n hx hb dX4_parted_4 rfl (lv_at hl 1 rfl) ?_
  refine lv_iload_n hx hb dX4_parted_5 rfl (lv_at hl 2 rfl) ?_
  have hPc := hP.sub (ws' := [kx_0 q_row q_cell len]) [1] rfl
  have hKc := hK.sub (tys' := []) [] rfl
  refine vp_callSi (W.runV (As := [.int p0, .int p1]) (rest := []) ⟨hx, hb, hml, hown, hts⟩ (c_X0_hasRange l dC dI q_row q_cell len p0 p1) (cwV 2 hts gX4_parted_X0_hasRange rfl rfl rfl (by decide +kernel) ⟨Nat.le_of_ble_eq_true rfl, Nat.le_of_ble_eq_true rfl⟩) ⟨fun a U g mk q => by obtain ⟨q0, qP, qK⟩ := q; exact ⟨q0, qP, va_K.moved (u := U) (U := U.calling g mk a) (Vm.Alike.refl U.vm) qK⟩, kx_rc0 hKc hPc (q0 := 0) rfl, fun U hU hW => ⟨rfl, by rw [hU]; exact hPc, va_K.moved hW.alike hKc⟩⟩ rfl rfl hl.1 rfl (lv_room (Nat.le_of_ble_eq_true rfl)) dX4_parted_6 ⟨Nat.le_of_ble_eq_true rfl, Nat.le_of_ble_eq_true rfl⟩) (fun r_1 w_1 => ?_)
  rcases w_1 with ⟨rfl, w_1⟩ | ⟨rfl, w_1⟩
  · have w_1 : (0 ≤ p0.toInt ∧ p0.toInt < p1.toInt ∧ p1.toInt ≤ len.toInt) := w_1
    refine lv_if_ne (tgt := 14) hx hb dX4_parted_9 (by decide) (fun c_2 => ?_) (fun c_2 => ?_)
    · refine lv_aload_n hx hb dX4_parted_14 rfl (lv_at hl 0 rfl) ?_
      refine va_get (D := (dC, dI)) (ci := 4) (v := .ref t_) (C := RX4) (T := TX4) (N := 9) hx hb hts hi_4 hown hK hP 0 rfl rfl 2 (by decide) hf_28 (fun _ h9 => h9) rfl dX4_parted_15 ?_
      refine lv_aload_n hx hb dX4_parted_18 rfl (lv_at hl 0 rfl) ?_
      refine va_get (D := (dC, dI)) (ci := 4) (v := .ref q_row) (C := RX4) (T := TX4) (N := 9) hx hb hts hi_4 hown hK hP 0 rfl rfl 0 (by decide) hf_12 (fun _ h9 => h9) rfl dX4_parted_19 ?_
      obtain ⟨hPc, hDc, hFc, hCc⟩ := kx_pre (wc := [kx_1 t_ t_k t_o tk mo, kx_a t_k cyI 160 fk, kx_0 q_row q_cell len, kx_a q_cell cyI 160 f]) hP hD hS hA [3, 4, 1, 2] (by decide) rfl
      have hKc := hK
      refine va_callv (va_runV (As := [.ref q_row]) (rest := []) ⟨hx, hb, hml, hown, hts⟩ (kx_un (c_X1_learn l dC dI t_ t_k t_o cyI tk mo fk q_row q_cell len f s.heap.size a0 a1)) (cwV 1 hts gX4_parted_X1_learn rfl rfl rfl (by decide +kernel) ⟨Nat.le_of_ble_eq_true rfl, Nat.le_of_ble_eq_true rfl⟩) ⟨fun a U g mk q => by obtain ⟨q0, q1, qP, qK, qD⟩ := q; exact ⟨q0, q1, qP, va_K.moved (u := U) (U := U.calling g mk a) (Vm.Alike.refl U.vm) qK, qD⟩, kx_rc1 hKc hPc (q0 := 0) rfl, fun U hU hW => ⟨rfl, by rw [hU], by rw [hU]; exact hPc, va_K.moved hW.alike hKc, hDc.weaken (fun _ _ _ _ => trivial)⟩⟩ rfl rfl hl.1 rfl (lv_room (Nat.le_of_ble_eq_true rfl)) dX4_parted_22 ⟨Nat.le_of_ble_eq_true rfl, Nat.le_of_ble_eq_true rfl⟩) hS (fun q _ h => hFc q h) hFc (fun u t H1 locs ht hvm w_3 hB hz1 hk1 hS => ?_)
      obtain ⟨o_4, rfl⟩ : ∃ z, z = u := ⟨_, rfl⟩
      obtain ⟨hP1, hK1, hD1⟩ := hB
      rw [ht] at hP1
      have hK1 := va_K.moved hvm.symm hK1
      obtain ⟨hP, hD⟩ := kx_join (w2 := [kx_4 m_ q_row q_t t_ h0 k0 w_ z_ slots old, kx_a t_o cyI 160 fq, kx_a z_ cyI 161 fz, kx_1 t_ t_k t_o tk mo, kx_a t_k cyI 160 o_4, kx_0 q_row q_cell len, kx_a q_cell cyI 160 f]) hP hD hP1 hD1 hk1 hFc [3, 4, 1, 2] [0, 5, 6] hCc rfl (by decide) (by decide)
      clear hP1 hD1 hK1 hk1 hz1 hFc hDc hPc hKc hCc
      generalize H1 = H at hP hS ⊢
      have w_3 : kindOk o_4 len.toInt := w_3
      refine lv_aload_n hx hb dX4_parted_25 rfl (lv_at hl 0 rfl) ?_
      refine va_get (D := (dC, dI)) (ci := 4) (v := .ref z_) (C := RX4) (T := TX4) (N := 9) hx hb hts hi_4 hown hK hP 0 rfl rfl 6 (by decide) hf_46 (fun _ h9 => h9) rfl dX4_parted_26 ?_
      refine lv_iload_n hx hb dX4_parted_29 rfl (lv_at hl 2 rfl) ?_
      refine lv_iload_n hx hb dX4_parted_30 rfl (lv_at hl 1 rfl) ?_
      refine lv_isub hx hb dX4_parted_31 ?_
      refine lv_topi (fun y_5 ey_5 => ?_)
      have i_5 : y_5.toInt = p1.toInt - p0.toInt := ki_sub ey_5 rfl rfl (om_168 w_1.2.1) (om_169 a1 w_1.1 w_1.2.2)
      obtain ⟨hPc, hDc, hFc, hCc⟩ := kx_preM (wc := [kx_a z_ cyI 161 fz]) hP hD hS hA [false, false, true, false, false, false, false] rfl
      have hKc := hK
      refine va_callv (va_runS (As := [.ref z_, .int y_5]) (rest := []) ⟨hx, hb, hml, hown, hts⟩ (kx_un (c_J7_fill_161 l dC dI z_ cyI fz y_5 H.size)) (va_cwS 2 hts gX4_parted_J7_fill_53178 rfl rfl rfl (by decide +kernel) ⟨Nat.le_of_ble_eq_true rfl, Nat.le_of_ble_eq_true rfl⟩) ⟨fun a U g mk q => by obtain ⟨q0, q1, qP, qK, qD⟩ := q; exact ⟨q0, q1, qP, va_K.moved (u := U) (U := U.calling g mk a) (Vm.Alike.refl U.vm) qK, qD⟩, fun U hU hW => ⟨rfl, by rw [hU], by rw [hU]; exact hPc, va_K.moved hW.alike hKc, hDc.weaken (fun _ _ _ _ => trivial)⟩⟩ rfl rfl hl.1 rfl (lv_room (Nat.le_of_ble_eq_true rfl)) dX4_parted_32 ⟨Nat.le_of_ble_eq_true rfl, Nat.le_of_ble_eq_true rfl⟩) hS (fun q _ h => hFc q h) hFc (fun u t H1 locs ht hvm w_6 hB hz1 hk1 hS => ?_)
      obtain ⟨o_7, rfl⟩ : ∃ z, z = u := ⟨_, rfl⟩
      obtain ⟨hP1, hK1, hD1⟩ := hB
      rw [ht] at hP1
      have hK1 := va_K.moved hvm.symm hK1
      obtain ⟨hP, hD⟩ := kx_joinM (w2 := [kx_4 m_ q_row q_t t_ h0 k0 w_ z_ slots old, kx_a t_o cyI 160 fq, kx_a z_ cyI 161 o_7, kx_1 t_ t_k t_o tk mo, kx_a t_k cyI 160 o_4, kx_0 q_row q_cell len, kx_a q_cell cyI 160 f]) hP hD hP1 hD1 hk1 hFc [false, false, true, false, false, false, false] hCc rfl
      clear hP1 hD1 hK1 hk1 hz1 hFc hDc hPc hKc hCc
      generalize H1 = H at hP hS ⊢
      have w_6 : ∀ k : Nat, k < 161 → o_7 k = y_5 := w_6
      refine lv_aload_n hx hb dX4_parted_35 rfl (lv_at hl 0 rfl) ?_
      refine va_get (D := (dC, dI)) (ci := 4) (v := .ref z_) (C := RX4) (T := TX4) (N := 9) hx hb hts hi_4 hown hK hP 0 rfl rfl 6 (by decide) hf_46 (fun _ h9 => h9) rfl dX4_parted_36 ?_
      refine lv_iload_n hx hb dX4_parted_39 rfl (lv_at hl 1 rfl) ?_
      refine lv_iconst (v := 0) hx hb dX4_parted_40 (by decide) ?_
      refine va_iast hx hb hK hP hD hS 2 0 rfl rfl (ki_in (om_10 w_1.1) (om_174 a1 w_1.2.1 w_1.2.2)) dX4_parted_41 (fun H locs hP hD hS => ?_)
      obtain ⟨hP, hD⟩ := kx_re (w2 := [kx_4 m_ q_row q_t t_ h0 k0 w_ z_ slots old, kx_a t_o cyI 160 fq, kx_a z_ cyI 161 (upd o_7 p0.toNatClampNeg 0), kx_1 t_ t_k t_o tk mo, kx_a t_k cyI 160 o_4, kx_0 q_row q_cell len, kx_a q_cell cyI 160 f]) hP hD rfl
      refine lv_iload_n hx hb dX4_parted_42 rfl (lv_at hl 1 rfl) ?_
      refine lv_istore_n (lv' := [(3, .int p0), (0, .ref m_), (1, .int p0), (2, .int p1)]) hx hb dX4_parted_43 rfl hl (by decide) rfl (fun ls hl => ?_)
      have LP1 : ∀ (n : Nat) (i : Int32) (a_t : Int32) (a_m : Int32) (a_q : Nat → Int32) (az : Nat → Int32), (p0.toInt ≤ i.toInt) → (p1.toInt - i.toInt).toNat < n → ∀ (H : Heap) (locs : List Loc), va_P (dC, dI) vwCl [kx_4 m_ q_row q_t t_ h0 k0 w_ z_ slots old, kx_a t_o cyI 160 a_q, kx_a z_ cyI 161 az, kx_1 t_ t_k t_o a_t a_m, kx_a t_k cyI 160 o_4, kx_0 q_row q_cell len, kx_a q_cell cyI 160 f] H → va_D A [kx_4 m_ q_row q_t t_ h0 k0 w_ z_ slots old, kx_a t_o cyI 160 a_q, kx_a z_ cyI 161 az, kx_1 t_ t_k t_o a_t a_m, kx_a t_k cyI 160 o_4, kx_0 q_row q_cell len, kx_a q_cell cyI 160 f] → va_S A s.heap H locs → ∀ (ls : Array Slot), lv_has ls 5 [(3, .int i), (0, .ref m_), (1, .int p0), (2, .int p1)] → W p l e (headSpec wsX4_parted ({ frames := 2, cells := 0, slots := 0, locals := 90 })).room s m ([.ref m_, .int p0, .int p1] : List Value).toArray below meth c H locs 0 0 (MQ below (va_Qi (fun (r : Int32) (u : Int32 × Int32 × (Nat → Int32) × (Nat → Int32) × (Nat → Int32)) => True) (fun (u : Int32 × Int32 × (Nat → Int32) × (Nat → Int32) × (Nat → Int32)) (t : State) => va_P (dC, dI) vwCl [kx_4 m_ q_row q_t t_ h0 k0 w_ z_ slots old, kx_0 q_row q_cell len, kx_a q_cell cyI 160 f, kx_1 t_ t_k t_o u.1 u.2.1, kx_a t_k cyI 160 u.2.2.1, kx_a t_o cyI 160 u.2.2.2.1, kx_a z_ cyI 161 u.2.2.2.2] t.heap ∧ va_K (dC, dI) vwCl [(cyI, .int)] t ∧ va_D A [kx_4 m_ q_row q_t t_ h0 k0 w_ z_ slots old, kx_0 q_row q_cell len, kx_a q_cell cyI 160 f, kx_1 t_ t_k t_o u.1 u.2.1, kx_a t_k cyI 160 u.2.2.1, kx_a t_o cyI 160 u.2.2.2.1, kx_a z_ cyI 161 u.2.2.2.2]) A) ([.ref m_, .int p0, .int p1] : List Value).toArray s 0 0 A) (F0 m 44 ls []) := by
        intro n
        induction n with
        | zero => intro i a_t a_m a_q az LP1_h0 hn; exact absurd hn (Nat.not_lt_zero _)
        | succ n ih1 =>
          intro i a_t a_m a_q az LP1_h0 hn1 H locs hP hD hS ls hl
          refine lv_iload_n hx hb dX4_parted_44 rfl (lv_at hl 0 rfl) ?_
          refine lv_iload_n hx hb dX4_parted_45 rfl (lv_at hl 3 rfl) ?_
          refine lv_icmp_ge (tgt := 125) hx hb dX4_parted_46 (by decide) (fun c_8 => ?_) (fun c_8 => ?_)
          · have i_8 : p1.toInt ≤ i.toInt := kc_le c_8
            refine lv_aload_n hx hb dX4_parted_125 rfl (lv_at hl 1 rfl) ?_
            refine va_get (D := (dC, dI)) (ci := 4) (v := .ref z_) (C := RX4) (T := TX4) (N := 9) hx hb hts hi_4 hown hK hP 0 rfl rfl 6 (by decide) hf_46 (fun _ h9 => h9) rfl dX4_parted_126 ?_
            refine lv_iload_n hx hb dX4_parted_129 rfl (lv_at hl 3 rfl) ?_
            refine va_iald hx hb hK hP 2 0 rfl rfl (ki_in (om_21 w_1.1 w_1.2.1) (om_175 a1 w_1.2.2)) dX4_parted_130 ?_
            refine lv_topi (fun y_9 ey_9 => ?_)
            have j_9 : y_9.toInt = (az p1.toNatClampNeg).toInt := congrArg Int32.toInt ey_9
            obtain ⟨hP9, hD9⟩ := kx_sub (w2 := [kx_4 m_ q_row q_t t_ h0 k0 w_ z_ slots old, kx_0 q_row q_cell len, kx_a q_cell cyI 160 f, kx_1 t_ t_k t_o a_t a_m, kx_a t_k cyI 160 o_4, kx_a t_o cyI 160 a_q, kx_a z_ cyI 161 az]) hP hD [0, 5, 6, 3, 4, 1, 2] (by decide) rfl
            have hK9 := hK
            exact W.iret (v := y_9) hx hb hr (hlocks := hlocks) (fun t ht hW => ⟨⟨y_9, (a_t, a_m, o_4, a_q, az), rfl, trivial, by rw [ht]; exact hP9, va_K.moved hW.alike hK9, hD9⟩, hS.F ht⟩) hS.2.2 dX4_parted_131
          · have i_8 : i.toInt < p1.toInt := kc_nle c_8
            refine lv_aload_n hx hb dX4_parted_49 rfl (lv_at hl 1 rfl) ?_
            refine va_get (D := (dC, dI)) (ci := 4) (v := .ref t_) (C := RX4) (T := TX4) (N := 9) hx hb hts hi_4 hown hK hP 0 rfl rfl 2 (by decide) hf_28 (fun _ h9 => h9) rfl dX4_parted_50 ?_
            obtain ⟨hPc, hDc, hFc, hCc⟩ := kx_pre (wc := [kx_1 t_ t_k t_o a_t a_m, kx_a t_o cyI 160 a_q]) hP hD hS hA [3, 1] (by decide) rfl
            have hKc := hK
            refine va_callv (va_runV (As := []) (rest := []) ⟨hx, hb, hml, hown, hts⟩ (kx_un (c_X1_clear l dC dI t_ t_k t_o cyI a_t a_m a_q H.size)) (cwV 0 hts gX4_parted_X1_clear rfl rfl rfl (by decide +kernel) ⟨Nat.le_of_ble_eq_true rfl, Nat.le_of_ble_eq_true rfl⟩) ⟨fun a U g mk q => by obtain ⟨q0, q1, qP, qK, qD⟩ := q; exact ⟨q0, q1, qP, va_K.moved (u := U) (U := U.calling g mk a) (Vm.Alike.refl U.vm) qK, qD⟩, kx_rc1 hKc hPc (q0 := 0) rfl, fun U hU hW => ⟨rfl, by rw [hU], by rw [hU]; exact hPc, va_K.moved hW.alike hKc, hDc.weaken (fun _ _ _ _ => trivial)⟩⟩ rfl rfl hl.1 rfl (lv_room (Nat.le_of_ble_eq_true rfl)) dX4_parted_53 ⟨Nat.le_of_ble_eq_true rfl, Nat.le_of_ble_eq_true rfl⟩) hS (fun q _ h => hFc q h) hFc (fun u t H1 locs ht hvm w_10 hB hz1 hk1 hS => ?_)
            obtain ⟨o_11, rfl⟩ : ∃ z, z = u := ⟨_, rfl⟩
            obtain ⟨hP1, hK1, hD1⟩ := hB
            rw [ht] at hP1
            have hK1 := va_K.moved hvm.symm hK1
            obtain ⟨hP, hD⟩ := kx_join (w2 := [kx_4 m_ q_row q_t t_ h0 k0 w_ z_ slots old, kx_a z_ cyI 161 az, kx_a t_k cyI 160 o_4, kx_0 q_row q_cell len, kx_a q_cell cyI 160 f, kx_1 t_ t_k t_o 0 0, kx_a t_o cyI 160 o_11]) hP hD hP1 hD1 hk1 hFc [3, 1] [0, 2, 4, 5, 6] hCc rfl (by decide) (by decide)
            clear hP1 hD1 hK1 hk1 hz1 hFc hDc hPc hKc hCc
            generalize H1 = H at hP hS ⊢
            have w_10 : ∀ k : Nat, k < 160 → o_11 k = 0 := w_10
            refine lv_iload_n hx hb dX4_parted_56 rfl (lv_at hl 0 rfl) ?_
            refine lv_istore (lv' := [(4, .int i), (3, .int i), (0, .ref m_), (1, .int p0), (2, .int p1)]) hx hb dX4_parted_57 hl (by decide) rfl (fun ls hl => ?_)
            have LP2 : ∀ (n : Nat) (j : Int32) (b_t : Int32) (b_m : Int32) (b_q : Nat → Int32) (bz : Nat → Int32), (i.toInt ≤ j.toInt) → (p1.toInt - j.toInt).toNat < n → ∀ (H : Heap) (locs : List Loc), va_P (dC, dI) vwCl [kx_4 m_ q_row q_t t_ h0 k0 w_ z_ slots old, kx_a z_ cyI 161 bz, kx_a t_k cyI 160 o_4, kx_0 q_row q_cell len, kx_a q_cell cyI 160 f, kx_1 t_ t_k t_o b_t b_m, kx_a t_o cyI 160 b_q] H → va_D A [kx_4 m_ q_row q_t t_ h0 k0 w_ z_ slots old, kx_a z_ cyI 161 bz, kx_a t_k cyI 160 o_4, kx_0 q_row q_cell len, kx_a q_cell cyI 160 f, kx_1 t_ t_k t_o b_t b_m, kx_a t_o cyI 160 b_q] → va_S A s.heap H locs → ∀ (ls : Array Slot), lv_has ls 5 [(4, .int j), (3, .int i), (0, .ref m_), (1, .int p0), (2, .int p1)] → W p l e (headSpec wsX4_parted ({ frames := 2, cells := 0, slots := 0, locals := 90 })).room s m ([.ref m_, .int p0, .int p1] : List Value).toArray below meth c H locs 0 0 (MQ below (va_Qi (fun (r : Int32) (u : Int32 × Int32 × (Nat → Int32) × (Nat → Int32) × (Nat → Int32)) => True) (fun (u : Int32 × Int32 × (Nat → Int32) × (Nat → Int32) × (Nat → Int32)) (t : State) => va_P (dC, dI) vwCl [kx_4 m_ q_row q_t t_ h0 k0 w_ z_ slots old, kx_0 q_row q_cell len, kx_a q_cell cyI 160 f, kx_1 t_ t_k t_o u.1 u.2.1, kx_a t_k cyI 160 u.2.2.1, kx_a t_o cyI 160 u.2.2.2.1, kx_a z_ cyI 161 u.2.2.2.2] t.heap ∧ va_K (dC, dI) vwCl [(cyI, .int)] t ∧ va_D A [kx_4 m_ q_row q_t t_ h0 k0 w_ z_ slots old, kx_0 q_row q_cell len, kx_a q_cell cyI 160 f, kx_1 t_ t_k t_o u.1 u.2.1, kx_a t_k cyI 160 u.2.2.1, kx_a t_o cyI 160 u.2.2.2.1, kx_a z_ cyI 161 u.2.2.2.2]) A) ([.ref m_, .int p0, .int p1] : List Value).toArray s 0 0 A) (F0 m 59 ls []) := by
              intro n
              induction n with
              | zero => intro j b_t b_m b_q bz LP2_h0 hn; exact absurd hn (Nat.not_lt_zero _)
              | succ n ih2 =>
                intro j b_t b_m b_q bz LP2_h0 hn2 H locs hP hD hS ls hl
                refine lv_iload hx hb dX4_parted_59 (lv_at hl 0 rfl) ?_
                refine lv_iload_n hx hb dX4_parted_61 rfl (lv_at hl 4 rfl) ?_
                refine lv_icmp_ge (tgt := 119) hx hb dX4_parted_62 (by decide) (fun c_12 => ?_) (fun c_12 => ?_)
                · have i_12 : p1.toInt ≤ j.toInt := kc_le c_12
                  obtain ⟨x_13, ex_13⟩ : ∃ y : Int32, y = i + 1 := ⟨_, rfl⟩
                  have i_13 : x_13.toInt = i.toInt + 1 := ki_add ex_13 rfl rfl (om_2 w_1.1 LP1_h0) (om_172 a1 w_1.2.2 i_8)
                  refine lv_iinc (v := x_13) (lv' := [(3, .int x_13), (4, .int j), (0, .ref m_), (1, .int p0), (2, .int p1)]) hx hb dX4_parted_119 hl (k := 1) rfl (by rw [ex_13]; rfl) (by decide) rfl (fun ls hl => ?_)
                  refine lv_goto (tgt := 44) hx hb dX4_parted_122 (by decide) ?_
                  have hP : va_P (dC, dI) vwCl [kx_4 m_ q_row q_t t_ h0 k0 w_ z_ slots old, kx_a t_o cyI 160 b_q, kx_a z_ cyI 161 bz, kx_1 t_ t_k t_o b_t b_m, kx_a t_k cyI 160 o_4, kx_0 q_row q_cell len, kx_a q_cell cyI 160 f] _ := hP.sub [0, 6, 1, 5, 2, 3, 4] rfl
                  have hD : va_D A [kx_4 m_ q_row q_t t_ h0 k0 w_ z_ slots old, kx_a t_o cyI 160 b_q, kx_a z_ cyI 161 bz, kx_1 t_ t_k t_o b_t b_m, kx_a t_k cyI 160 o_4, kx_0 q_row q_cell len, kx_a q_cell cyI 160 f] := hD.sub [0, 6, 1, 5, 2, 3, 4] (by decide) rfl
                  exact ih1 x_13 b_t b_m b_q bz (om_4 LP1_h0 i_13) (om_mu hn1 (om_5 i_13) (om_6 i_8)) _ _ hP hD hS ls (lv_sub hl [0, 2, 3, 4] rfl)
                · have i_12 : j.toInt < p1.toInt := kc_nle c_12
                  refine lv_aload_n hx hb dX4_parted_65 rfl (lv_at hl 2 rfl) ?_
                  refine va_get (D := (dC, dI)) (ci := 4) (v := .ref t_) (C := RX4) (T := TX4) (N := 9) hx hb hts hi_4 hown hK hP 0 rfl rfl 2 (by decide) hf_28 (fun _ h9 => h9) rfl dX4_parted_66 ?_
                  refine lv_iload hx hb dX4_parted_69 (lv_at hl 0 rfl) ?_
                  obtain ⟨hPc, hDc, hFc, hCc⟩ := kx_pre (wc := [kx_1 t_ t_k t_o b_t b_m, kx_a t_k cyI 160 o_4, kx_a t_o cyI 160 b_q]) hP hD hS hA [5, 2, 6] (by decide) rfl
                  have hKc := hK
                  refine va_callv (va_runV (As := [.int j]) (rest := []) ⟨hx, hb, hml, hown, hts⟩ (kx_un (c_X1_take l dC dI t_ t_k t_o cyI b_t b_m o_4 b_q len.toInt j H.size w_3 (om_176 w_1.1 LP1_h0 LP2_h0) (om_177 w_1.2.2 i_12) a1)) (cwV 1 hts gX4_parted_X1_take rfl rfl rfl (by decide +kernel) ⟨Nat.le_of_ble_eq_true rfl, Nat.le_of_ble_eq_true rfl⟩) ⟨fun a U g mk q => by obtain ⟨q0, q1, qP, qK, qD⟩ := q; exact ⟨q0, q1, qP, va_K.moved (u := U) (U := U.calling g mk a) (Vm.Alike.refl U.vm) qK, qD⟩, kx_rc1 hKc hPc (q0 := 0) rfl, fun U hU hW => ⟨rfl, by rw [hU], by rw [hU]; exact hPc, va_K.moved hW.alike hKc, hDc.weaken (fun _ _ _ _ => trivial)⟩⟩ rfl rfl hl.1 rfl (lv_room (Nat.le_of_ble_eq_true rfl)) dX4_parted_71 ⟨Nat.le_of_ble_eq_true rfl, Nat.le_of_ble_eq_true rfl⟩) hS (fun q _ h => hFc q h) hFc (fun u t H1 locs ht hvm w_14 hB hz1 hk1 hS => ?_)
                  obtain ⟨o_15, o_16, o_17⟩ := u
                  dsimp only at w_14 hB
                  obtain ⟨hP1, hK1, hD1⟩ := hB
                  rw [ht] at hP1
                  have hK1 := va_K.moved hvm.symm hK1
                  obtain ⟨hP, hD⟩ := kx_join (w2 := [kx_4 m_ q_row q_t t_ h0 k0 w_ z_ slots old, kx_a z_ cyI 161 bz, kx_0 q_row q_cell len, kx_a q_cell cyI 160 f, kx_1 t_ t_k t_o o_15 o_16, kx_a t_k cyI 160 o_4, kx_a t_o cyI 160 o_17]) hP hD hP1 hD1 hk1 hFc [5, 2, 6] [0, 1, 3, 4] hCc rfl (by decide) (by decide)
                  clear hP1 hD1 hK1 hk1 hz1 hFc hDc hPc hKc hCc
                  generalize H1 = H at hP hS ⊢
                  have w_14 : True := w_14
                  refine lv_aload_n hx hb dX4_parted_74 rfl (lv_at hl 2 rfl) ?_
                  refine va_get (D := (dC, dI)) (ci := 4) (v := .ref t_) (C := RX4) (T := TX4) (N := 9) hx hb hts hi_4 hown hK hP 0 rfl rfl 2 (by decide) hf_28 (fun _ h9 => h9) rfl dX4_parted_75 ?_
                  have hPc := hP.sub (ws' := [kx_1 t_ t_k t_o o_15 o_16]) [4] rfl
                  have hKc := hK.sub (tys' := []) [] rfl
                  refine vp_callSi (W.runV (As := []) (rest := []) ⟨hx, hb, hml, hown, hts⟩ (c_X1_hasMajority l dC dI t_ t_k t_o o_15 o_16) (cwV 0 hts gX4_parted_X1_hasMajority rfl rfl rfl (by decide +kernel) ⟨Nat.le_of_ble_eq_true rfl, Nat.le_of_ble_eq_true rfl⟩) ⟨fun a U g mk q => by obtain ⟨q0, qP, qK⟩ := q; exact ⟨q0, qP, va_K.moved (u := U) (U := U.calling g mk a) (Vm.Alike.refl U.vm) qK⟩, kx_rc1 hKc hPc (q0 := 0) rfl, fun U hU hW => ⟨rfl, by rw [hU]; exact hPc, va_K.moved hW.alike hKc⟩⟩ rfl rfl hl.1 rfl (lv_room (Nat.le_of_ble_eq_true rfl)) dX4_parted_78 ⟨Nat.le_of_ble_eq_true rfl, Nat.le_of_ble_eq_true rfl⟩) (fun r_18 w_18 => ?_)
                  rcases w_18 with ⟨rfl, w_18⟩ | ⟨rfl, w_18⟩
                  · have w_18 : (0 : Int) ≤ 1 := w_18
                    refine lv_if_eq (tgt := 113) hx hb dX4_parted_81 (by decide) (fun c_19 => ?_) (fun c_19 => ?_)
                    · exact absurd c_19 (by decide)
                    · refine lv_aload_n hx hb dX4_parted_84 rfl (lv_at hl 2 rfl) ?_
                      refine va_get (D := (dC, dI)) (ci := 4) (v := .ref z_) (C := RX4) (T := TX4) (N := 9) hx hb hts hi_4 hown hK hP 0 rfl rfl 6 (by decide) hf_46 (fun _ h9 => h9) rfl dX4_parted_85 ?_
                      refine lv_iload hx hb dX4_parted_88 (lv_at hl 0 rfl) ?_
                      refine lv_iconst (v := 1) hx hb dX4_parted_90 (by decide) ?_
                      refine lv_iadd hx hb dX4_parted_91 ?_
                      refine lv_topi (fun y_20 ey_20 => ?_)
                      have i_20 : y_20.toInt = j.toInt + 1 := ki_add ey_20 rfl rfl (om_178 w_1.1 LP1_h0 LP2_h0) (om_172 a1 w_1.2.2 i_12)
                      refine lv_aload_n hx hb dX4_parted_92 rfl (lv_at hl 2 rfl) ?_
                      refine va_get (D := (dC, dI)) (ci := 4) (v := .ref z_) (C := RX4) (T := TX4) (N := 9) hx hb hts hi_4 hown hK hP 0 rfl rfl 6 (by decide) hf_46 (fun _ h9 => h9) rfl dX4_parted_93 ?_
                      refine lv_iload hx hb dX4_parted_96 (lv_at hl 0 rfl) ?_
                      refine lv_iconst (v := 1) hx hb dX4_parted_98 (by decide) ?_
                      refine lv_iadd hx hb dX4_parted_99 ?_
                      refine lv_topi (fun y_21 ey_21 => ?_)
                      have i_21 : y_21.toInt = j.toInt + 1 := ki_add ey_21 rfl rfl (om_178 w_1.1 LP1_h0 LP2_h0) (om_172 a1 w_1.2.2 i_12)
                      refine va_iald hx hb hK hP 1 0 rfl rfl (ki_in (om_179 w_1.1 LP1_h0 LP2_h0 i_21) (om_180 a1 w_1.2.2 i_12 i_21)) dX4_parted_100 ?_
                      refine lv_topi (fun y_22 ey_22 => ?_)
                      have j_22 : y_22.toInt = (bz y_21.toNatClampNeg).toInt := congrArg Int32.toInt ey_22
                      refine lv_aload_n hx hb dX4_parted_101 rfl (lv_at hl 2 rfl) ?_
                      refine va_get (D := (dC, dI)) (ci := 4) (v := .ref z_) (C := RX4) (T := TX4) (N := 9) hx hb hts hi_4 hown hK hP 0 rfl rfl 6 (by decide) hf_46 (fun _ h9 => h9) rfl dX4_parted_102 ?_
                      refine lv_iload_n hx hb dX4_parted_105 rfl (lv_at hl 1 rfl) ?_
                      refine va_iald hx hb hK hP 1 0 rfl rfl (ki_in (om_0 w_1.1 LP1_h0) (om_181 a1 w_1.2.2 i_8)) dX4_parted_106 ?_
                      refine lv_topi (fun y_23 ey_23 => ?_)
                      have j_23 : y_23.toInt = (bz i.toNatClampNeg).toInt := congrArg Int32.toInt ey_23
                      refine lv_iconst (v := 1) hx hb dX4_parted_107 (by decide) ?_
                      refine lv_iadd hx hb dX4_parted_108 ?_
                      refine lv_topi (fun y_24 ey_24 => ?_)
                      refine va_mmin hx hb (hml.trans hl.1.symm) hown hm_91 hms_min hz_math hmc_min (Nat.le_of_ble_eq_true rfl) (Nat.le_of_ble_eq_true rfl) (Nat.le_of_ble_eq_true rfl) (Nat.le_of_ble_eq_true rfl) dX4_parted_109 ?_
                      refine lv_topi (fun y_25 ey_25 => ?_)
                      have i_26 : (y_22.toInt ≤ y_24.toInt ∧ y_25.toInt = y_22.toInt) ∨ (y_24.toInt < y_22.toInt ∧ y_25.toInt = y_24.toInt) := ki_min ey_25 rfl rfl
                      refine va_iast hx hb hK hP hD hS 1 0 rfl rfl (ki_in (om_179 w_1.1 LP1_h0 LP2_h0 i_20) (om_180 a1 w_1.2.2 i_12 i_20)) dX4_parted_112 (fun H locs hP hD hS => ?_)
                      obtain ⟨hP, hD⟩ := kx_re (w2 := [kx_4 m_ q_row q_t t_ h0 k0 w_ z_ slots old, kx_a z_ cyI 161 (upd bz y_20.toNatClampNeg y_25), kx_0 q_row q_cell len, kx_a q_cell cyI 160 f, kx_1 t_ t_k t_o o_15 o_16, kx_a t_k cyI 160 o_4, kx_a t_o cyI 160 o_17]) hP hD rfl
                      obtain ⟨x_27, ex_27⟩ : ∃ y : Int32, y = j + 1 := ⟨_, rfl⟩
                      have i_27 : x_27.toInt = j.toInt + 1 := ki_add ex_27 rfl rfl (om_178 w_1.1 LP1_h0 LP2_h0) (om_172 a1 w_1.2.2 i_12)
                      refine lv_iinc (v := x_27) (lv' := [(4, .int x_27), (3, .int i), (0, .ref m_), (1, .int p0), (2, .int p1)]) hx hb dX4_parted_113 hl (k := 0) rfl (by rw [ex_27]; rfl) (by decide) rfl (fun ls hl => ?_)
                      refine lv_goto (tgt := 59) hx hb dX4_parted_116 (by decide) ?_
                      have hP : va_P (dC, dI) vwCl [kx_4 m_ q_row q_t t_ h0 k0 w_ z_ slots old, kx_a z_ cyI 161 (upd bz y_20.toNatClampNeg y_25), kx_a t_k cyI 160 o_4, kx_0 q_row q_cell len, kx_a q_cell cyI 160 f, kx_1 t_ t_k t_o o_15 o_16, kx_a t_o cyI 160 o_17] _ := hP.sub [0, 1, 5, 2, 3, 4, 6] rfl
                      have hD : va_D A [kx_4 m_ q_row q_t t_ h0 k0 w_ z_ slots old, kx_a z_ cyI 161 (upd bz y_20.toNatClampNeg y_25), kx_a t_k cyI 160 o_4, kx_0 q_row q_cell len, kx_a q_cell cyI 160 f, kx_1 t_ t_k t_o o_15 o_16, kx_a t_o cyI 160 o_17] := hD.sub [0, 1, 5, 2, 3, 4, 6] (by decide) rfl
                      exact ih2 x_27 o_15 o_16 o_17 (upd bz y_20.toNatClampNeg y_25) (om_4 LP2_h0 i_27) (om_mu hn2 (om_5 i_27) (om_6 i_12)) _ _ hP hD hS ls (lv_sub hl [0, 1, 2, 3, 4] rfl)
                  · have w_18 : (0 : Int) ≤ 1 := w_18
                    refine lv_if_eq (tgt := 113) hx hb dX4_parted_81 (by decide) (fun c_28 => ?_) (fun c_28 => ?_)
                    · obtain ⟨x_29, ex_29⟩ : ∃ y : Int32, y = j + 1 := ⟨_, rfl⟩
                      have i_29 : x_29.toInt = j.toInt + 1 := ki_add ex_29 rfl rfl (om_178 w_1.1 LP1_h0 LP2_h0) (om_172 a1 w_1.2.2 i_12)
                      refine lv_iinc (v := x_29) (lv' := [(4, .int x_29), (3, .int i), (0, .ref m_), (1, .int p0), (2, .int p1)]) hx hb dX4_parted_113 hl (k := 0) rfl (by rw [ex_29]; rfl) (by decide) rfl (fun ls hl => ?_)
                      refine lv_goto (tgt := 59) hx hb dX4_parted_116 (by decide) ?_
                      have hP : va_P (dC, dI) vwCl [kx_4 m_ q_row q_t t_ h0 k0 w_ z_ slots old, kx_a z_ cyI 161 bz, kx_a t_k cyI 160 o_4, kx_0 q_row q_cell len, kx_a q_cell cyI 160 f, kx_1 t_ t_k t_o o_15 o_16, kx_a t_o cyI 160 o_17] _ := hP.sub [0, 1, 5, 2, 3, 4, 6] rfl
                      have hD : va_D A [kx_4 m_ q_row q_t t_ h0 k0 w_ z_ slots old, kx_a z_ cyI 161 bz, kx_a t_k cyI 160 o_4, kx_0 q_row q_cell len, kx_a q_cell cyI 160 f, kx_1 t_ t_k t_o o_15 o_16, kx_a t_o cyI 160 o_17] := hD.sub [0, 1, 5, 2, 3, 4, 6] (by decide) rfl
                      exact ih2 x_29 o_15 o_16 o_17 bz (om_4 LP2_h0 i_29) (om_mu hn2 (om_5 i_29) (om_6 i_12)) _ _ hP hD hS ls (lv_sub hl [0, 1, 2, 3, 4] rfl)
                    · exact absurd c_28 (by decide)
            have k_30 : (0 : Int32).toInt = 0 := rfl
            have k_31 : (0 : Int32).toInt = 0 := rfl
            exact LP2 ((p1.toInt - i.toInt : Int).toNat + 1) i 0 0 o_11 az om_7 (Nat.lt_succ_self _) _ _ hP hD hS ls (lv_sub hl [0, 1, 2, 3, 4] rfl)
      exact LP1 ((p1.toInt - p0.toInt : Int).toNat + 1) p0 tk mo fq (upd o_7 p0.toNatClampNeg 0) om_7 (Nat.lt_succ_self _) _ _ hP hD hS ls (lv_sub hl [0, 1, 2, 3] rfl)
    · exact absurd c_2 (by decide)
  · have w_1 : (p0.toInt < 0 ∨ p1.toInt ≤ p0.toInt ∨ len.toInt < p1.toInt) := w_1
    refine lv_if_ne (tgt := 14) hx hb dX4_parted_9 (by decide) (fun c_32 => ?_) (fun c_32 => ?_)
    · exact absurd c_32 (by decide)
    · refine lv_iconst (v := (-1)) hx hb dX4_parted_12 (by decide) ?_
      have hP9 := hP
      have hD9 := hD
      have hK9 := hK
      exact W.iret (v := (-1)) hx hb hr (hlocks := hlocks) (fun t ht hW => ⟨⟨(-1), (tk, mo, fk, fq, fz), rfl, trivial, by rw [ht]; exact hP9, va_K.moved hW.alike hK9, hD9⟩, hS.F ht⟩) hS.2.2 dX4_parted_13

set_option maxHeartbeats 4000000 in
set_option maxRecDepth 100000 in
theorem c_X4_creditHeavy (l : Launch) (dC : Nat → ClassId) (dI : Nat → Nat → Nat) (m_ : Nat) (q_row : Nat) (q_t : Nat) (t_ : Nat) (h0 : Nat) (k0 : Nat) (w_ : Nat) (z_ : Nat) (slots : Int32) (old : Int32) (q_cell : Nat) (cyI : ClassId) (len : Int32) (f : Nat → Int32) (t_k : Nat) (t_o : Nat) (tk : Int32) (mo : Int32) (fk : Nat → Int32) (fq : Nat → Int32) (fw : Nat → Int32) (p0 : Int32) (p1 : Int32) (p2 : Int32) (sz : Nat) (a0 : 0 ≤ len.toInt) (a1 : len.toInt ≤ 160) : kx_MQ l (dC, dI) yX4_creditHeavy wsX4_creditHeavy ({ frames := 1, cells := 0, slots := 0, locals := 45 }) [.ref m_, .int p0, .int p1, .int p2] [kx_4 m_ q_row q_t t_ h0 k0 w_ z_ slots old, kx_0 q_row q_cell len, kx_a q_cell cyI 160 f, kx_1 t_ t_k t_o tk mo, kx_a t_k cyI 160 fk, kx_a t_o cyI 160 fq, kx_a w_ cyI 160 fw] [(cyI, .int)] sz (fun A => va_Qi (fun (r : Int32) (u : (Nat → Int32)) => r = 1 ∨ r = 0) (fun (u : (Nat → Int32)) (t : State) => va_P (dC, dI) vwCl [kx_4 m_ q_row q_t t_ h0 k0 w_ z_ slots old, kx_0 q_row q_cell len, kx_a q_cell cyI 160 f, kx_1 t_ t_k t_o tk mo, kx_a t_k cyI 160 fk, kx_a t_o cyI 160 fq, kx_a w_ cyI 160 u] t.heap ∧ va_K (dC, dI) vwCl [(cyI, .int)] t ∧ va_D A [kx_4 m_ q_row q_t t_ h0 k0 w_ z_ slots old, kx_0 q_row q_cell len, kx_a q_cell cyI 160 f, kx_1 t_ t_k t_o tk mo, kx_a t_k cyI 160 fk, kx_a t_o cyI 160 fq, kx_a w_ cyI 160 u]) A) := by
  refine kx_stQ (ws := wsX4_creditHeavy) (cc := cX4_creditHeavy) (maxL := 6) (ret := (some .boolean)) (by decide) rfl (Nat.le_of_ble_eq_true rfl) ?_
  intro p e s m below meth c A ls hx hb hr hlocks hts hown hml hA hS hP hK hD hl
  have hown : s.vm.findClass RX4 = some m.cls := hown
  have hl : lv_has ls 6 [(0, .ref m_), (1, .int p0), (2, .int p1), (3, .int p2)] := hl
  have hf_12 := hts (.fieldLink RX4 12 "MajorityIndex" "row" "LMajorityIndex$Row;") (List.mem_of_getElem? (i := 1) rfl)
  have hi_4 : ∀ w ∈ u_ws RX4 TX4 9, w ∈ wsX4_creditHeavy := fun w h => List.mem_cons_of_mem _ (List.mem_append_left _ (List.mem_append_left _ (List.mem_append_right _ h)))
  have hf_57 := hts (.fieldLink RX4 57 "MajorityIndex$Row" "length" "I") (List.mem_of_getElem? (i := 2) rfl)
  have hi_0 : ∀ w ∈ u_ws RX0 TX0 2, w ∈ wsX4_creditHeavy := fun w h => List.mem_cons_of_mem _ (List.mem_append_left _ (List.mem_append_right _ h))
  have hf_28 := hts (.fieldLink RX4 28 "MajorityIndex" "tally" "LMajorityIndex$Tally;") (List.mem_of_getElem? (i := 3) rfl)
  have hf_283 := hts (.fieldLink RX4 283 "MajorityIndex$Tally" "often" "[I") (List.mem_of_getElem? (i := 4) rfl)
  have hi_1 : ∀ w ∈ u_ws RX1 TX1 4, w ∈ wsX4_creditHeavy := fun w h => List.mem_cons_of_mem _ (List.mem_append_right _ h)
  have hf_42 := hts (.fieldLink RX4 42 "MajorityIndex" "wins" "[I") (List.mem_of_getElem? (i := 5) rfl)
  refine lv_iconst (v := 0) hx hb dX4_creditHeavy_0 (by decide) ?_
  refine lv_istore (lv' := [(4, .int 0), (0, .ref m_), (1, .int p0), (2, .int p1), (3, .int p2)]) hx hb dX4_creditHeavy_1 hl (by decide) rfl (fun ls hl => ?_)
  refine lv_iconst (v := 0) hx hb dX4_creditHeavy_3 (by decide) ?_
  refine lv_istore (lv' := [(5, .int 0), (4, .int 0), (0, .ref m_), (1, .int p0), (2, .int p1), (3, .int p2)]) hx hb dX4_creditHeavy_4 hl (by decide) rfl (fun ls hl => ?_)
  have LP1 : ∀ (n : Nat) (i : Int32) (so : Int32) (gw : Nat → Int32), (0 ≤ i.toInt) → (so = 0 ∨ so = 1) → (len.toInt - i.toInt).toNat < n → ∀ (H : Heap) (locs : List Loc), va_P (dC, dI) vwCl [kx_4 m_ q_row q_t t_ h0 k0 w_ z_ slots old, kx_0 q_row q_cell len, kx_a q_cell cyI 160 f, kx_1 t_ t_k t_o tk mo, kx_a t_k cyI 160 fk, kx_a t_o cyI 160 fq, kx_a w_ cyI 160 gw] H → va_D A [kx_4 m_ q_row q_t t_ h0 k0 w_ z_ slots old, kx_0 q_row q_cell len, kx_a q_cell cyI 160 f, kx_1 t_ t_k t_o tk mo, kx_a t_k cyI 160 fk, kx_a t_o cyI 160 fq, kx_a w_ cyI 160 gw] → va_S A s.heap H locs → ∀ (ls : Array Slot), lv_has ls 6 [(5, .int i), (4, .int so), (0, .ref m_), (1, .int p0), (2, .int p1), (3, .int p2)] → W p l e (headSpec wsX4_creditHeavy ({ frames := 1, cells := 0, slots := 0, locals := 45 })).room s m ([.ref m_, .int p0, .int p1, .int p2] : List Value).toArray below meth c H locs 0 0 (MQ below (va_Qi (fun (r : Int32) (u : (Nat → Int32)) => r = 1 ∨ r = 0) (fun (u : (Nat → Int32)) (t : State) => va_P (dC, dI) vwCl [kx_4 m_ q_row q_t t_ h0 k0 w_ z_ slots old, kx_0 q_row q_cell len, kx_a q_cell cyI 160 f, kx_1 t_ t_k t_o tk mo, kx_a t_k cyI 160 fk, kx_a t_o cyI 160 fq, kx_a w_ cyI 160 u] t.heap ∧ va_K (dC, dI) vwCl [(cyI, .int)] t ∧ va_D A [kx_4 m_ q_row q_t t_ h0 k0 w_ z_ slots old, kx_0 q_row q_cell len, kx_a q_cell cyI 160 f, kx_1 t_ t_k t_o tk mo, kx_a t_k cyI 160 fk, kx_a t_o cyI 160 fq, kx_a w_ cyI 160 u]) A) ([.ref m_, .int p0, .int p1, .int p2] : List Value).toArray s 0 0 A) (F0 m 6 ls []) := by
    intro n
    induction n with
    | zero => intro i so gw LP1_h0 LP1_h1 hn; exact absurd hn (Nat.not_lt_zero _)
    | succ n ih1 =>
      intro i so gw LP1_h0 LP1_h1 hn1 H locs hP hD hS ls hl
      refine lv_iload hx hb dX4_creditHeavy_6 (lv_at hl 0 rfl) ?_
      refine lv_aload_n hx hb dX4_creditHeavy_8 rfl (lv_at hl 2 rfl) ?_
      refine va_get (D := (dC, dI)) (ci := 4) (v := .ref q_row) (C := RX4) (T := TX4) (N := 9) hx hb hts hi_4 hown hK hP 0 rfl rfl 0 (by decide) hf_12 (fun _ h9 => h9) rfl dX4_creditHeavy_9 ?_
      refine va_get (D := (dC, dI)) (ci := 0) (v := .int len) (C := RX0) (T := TX0) (N := 2) hx hb hts hi_0 hown hK hP 1 rfl rfl 1 (by decide) hf_57 (fun _ h9 => h9) rfl dX4_creditHeavy_12 ?_
      refine lv_icmp_ge (tgt := 57) hx hb dX4_creditHeavy_15 (by decide) (fun c_1 => ?_) (fun c_1 => ?_)
      · have i_1 : len.toInt ≤ i.toInt := kc_le c_1
        refine lv_iload hx hb dX4_creditHeavy_57 (lv_at hl 1 rfl) ?_
        have hP9 := hP
        have hD9 := hD
        have hK9 := hK
        exact W.zret (v := so) hx hb hr (by rcases LP1_h1 with h | h <;> rw [h] <;> decide) (hlocks := hlocks) (fun t ht hW => ⟨⟨so, (gw), rfl, (Or.symm LP1_h1), by rw [ht]; exact hP9, va_K.moved hW.alike hK9, hD9⟩, hS.F ht⟩) hS.2.2 dX4_creditHeavy_59
      · have i_1 : i.toInt < len.toInt := kc_nle c_1
        refine lv_aload_n hx hb dX4_creditHeavy_18 rfl (lv_at hl 2 rfl) ?_
        refine va_get (D := (dC, dI)) (ci := 4) (v := .ref t_) (C := RX4) (T := TX4) (N := 9) hx hb hts hi_4 hown hK hP 0 rfl rfl 2 (by decide) hf_28 (fun _ h9 => h9) rfl dX4_creditHeavy_19 ?_
        refine va_get (D := (dC, dI)) (ci := 1) (v := .ref t_o) (C := RX1) (T := TX1) (N := 4) hx hb hts hi_1 hown hK hP 3 rfl rfl 1 (by decide) hf_283 (fun _ h9 => h9) rfl dX4_creditHeavy_22 ?_
        refine lv_iload hx hb dX4_creditHeavy_25 (lv_at hl 0 rfl) ?_
        refine va_iald hx hb hK hP 5 0 rfl rfl (ki_in (om_10 LP1_h0) (om_1 a1 i_1)) dX4_creditHeavy_27 ?_
        refine lv_topi (fun y_2 ey_2 => ?_)
        have j_2 : y_2.toInt = (fq i.toNatClampNeg).toInt := congrArg Int32.toInt ey_2
        refine lv_iload_n hx hb dX4_creditHeavy_28 rfl (lv_at hl 3 rfl) ?_
        refine lv_iload_n hx hb dX4_creditHeavy_29 rfl (lv_at hl 4 rfl) ?_
        refine lv_iload_n hx hb dX4_creditHeavy_30 rfl (lv_at hl 5 rfl) ?_
        have hPc := hP.sub (ws' := []) [] rfl
        have hKc := hK.sub (tys' := []) [] rfl
        refine vp_callSi (W.runS (As := [.int y_2, .int p0, .int p1, .int p2]) (rest := []) ⟨hx, hb, hml, hown, hts⟩ (c_X4_isHeavy l dC dI y_2 p0 p1 p2) (va_cwS 4 hts gX4_creditHeavy_X4_isHeavy rfl rfl rfl (by decide +kernel) ⟨Nat.le_of_ble_eq_true rfl, Nat.le_of_ble_eq_true rfl⟩) ⟨fun a U g mk q => by obtain ⟨q0, qP, qK⟩ := q; exact ⟨q0, qP, va_K.moved (u := U) (U := U.calling g mk a) (Vm.Alike.refl U.vm) qK⟩, fun U hU hW => ⟨rfl, by rw [hU]; exact hPc, va_K.moved hW.alike hKc⟩⟩ rfl rfl hl.1 rfl (lv_room (Nat.le_of_ble_eq_true rfl)) dX4_creditHeavy_31 ⟨Nat.le_of_ble_eq_true rfl, Nat.le_of_ble_eq_true rfl⟩) (fun r_3 w_3 => ?_)
        rcases w_3 with ⟨rfl, w_3⟩ | ⟨rfl, w_3⟩
        · have w_3 : (0 : Int) ≤ 1 := w_3
          refine lv_if_eq (tgt := 51) hx hb dX4_creditHeavy_34 (by decide) (fun c_4 => ?_) (fun c_4 => ?_)
          · exact absurd c_4 (by decide)
          · refine lv_aload_n hx hb dX4_creditHeavy_37 rfl (lv_at hl 2 rfl) ?_
            refine va_get (D := (dC, dI)) (ci := 4) (v := .ref w_) (C := RX4) (T := TX4) (N := 9) hx hb hts hi_4 hown hK hP 0 rfl rfl 5 (by decide) hf_42 (fun _ h9 => h9) rfl dX4_creditHeavy_38 ?_
            refine lv_iload hx hb dX4_creditHeavy_41 (lv_at hl 0 rfl) ?_
            refine lv_dup2_11 hx hb dX4_creditHeavy_43 rfl rfl ?_
            refine va_iald hx hb hK hP 6 0 rfl rfl (ki_in (om_10 LP1_h0) (om_1 a1 i_1)) dX4_creditHeavy_44 ?_
            refine lv_topi (fun y_5 ey_5 => ?_)
            have j_5 : y_5.toInt = (gw i.toNatClampNeg).toInt := congrArg Int32.toInt ey_5
            refine lv_iconst (v := 1) hx hb dX4_creditHeavy_45 (by decide) ?_
            refine lv_iadd hx hb dX4_creditHeavy_46 ?_
            refine lv_topi (fun y_6 ey_6 => ?_)
            refine va_iast hx hb hK hP hD hS 6 0 rfl rfl (ki_in (om_10 LP1_h0) (om_1 a1 i_1)) dX4_creditHeavy_47 (fun H locs hP hD hS => ?_)
            obtain ⟨hP, hD⟩ := kx_re (w2 := [kx_4 m_ q_row q_t t_ h0 k0 w_ z_ slots old, kx_0 q_row q_cell len, kx_a q_cell cyI 160 f, kx_1 t_ t_k t_o tk mo, kx_a t_k cyI 160 fk, kx_a t_o cyI 160 fq, kx_a w_ cyI 160 (upd gw i.toNatClampNeg y_6)]) hP hD rfl
            refine lv_iconst (v := 1) hx hb dX4_creditHeavy_48 (by decide) ?_
            refine lv_istore (lv' := [(4, .int 1), (5, .int i), (0, .ref m_), (1, .int p0), (2, .int p1), (3, .int p2)]) hx hb dX4_creditHeavy_49 hl (by decide) rfl (fun ls hl => ?_)
            obtain ⟨x_7, ex_7⟩ : ∃ y : Int32, y = i + 1 := ⟨_, rfl⟩
            have i_7 : x_7.toInt = i.toInt + 1 := ki_add ex_7 rfl rfl (om_13 LP1_h0) (om_3 a1 i_1)
            refine lv_iinc (v := x_7) (lv' := [(5, .int x_7), (4, .int 1), (0, .ref m_), (1, .int p0), (2, .int p1), (3, .int p2)]) hx hb dX4_creditHeavy_51 hl (k := 1) rfl (by rw [ex_7]; rfl) (by decide) rfl (fun ls hl => ?_)
            refine lv_goto (tgt := 6) hx hb dX4_creditHeavy_54 (by decide) ?_
            have k_8 : (1 : Int32).toInt = 1 := rfl
            exact ih1 x_7 1 (upd gw i.toNatClampNeg y_6) (om_34 LP1_h0 i_7) (Or.inr rfl) (om_mu hn1 (om_5 i_7) (om_6 i_1)) _ _ hP hD hS ls (lv_sub hl [0, 1, 2, 3, 4, 5] rfl)
        · have w_3 : (0 : Int) ≤ 1 := w_3
          refine lv_if_eq (tgt := 51) hx hb dX4_creditHeavy_34 (by decide) (fun c_9 => ?_) (fun c_9 => ?_)
          · obtain ⟨x_10, ex_10⟩ : ∃ y : Int32, y = i + 1 := ⟨_, rfl⟩
            have i_10 : x_10.toInt = i.toInt + 1 := ki_add ex_10 rfl rfl (om_13 LP1_h0) (om_3 a1 i_1)
            refine lv_iinc (v := x_10) (lv' := [(5, .int x_10), (4, .int so), (0, .ref m_), (1, .int p0), (2, .int p1), (3, .int p2)]) hx hb dX4_creditHeavy_51 hl (k := 0) rfl (by rw [ex_10]; rfl) (by decide) rfl (fun ls hl => ?_)
            refine lv_goto (tgt := 6) hx hb dX4_creditHeavy_54 (by decide) ?_
            exact ih1 x_10 so gw (om_34 LP1_h0 i_10) LP1_h1 (om_mu hn1 (om_5 i_10) (om_6 i_1)) _ _ hP hD hS ls (lv_sub hl [0, 1, 2, 3, 4, 5] rfl)
          · exact absurd c_9 (by decide)
  have k_11 : (0 : Int32).toInt = 0 := rfl
  have k_12 : (0 : Int32).toInt = 0 := rfl
  exact LP1 ((len.toInt - 0 : Int).toNat + 1) 0 0 fw om_35 (Or.inl rfl) (Nat.lt_succ_self _) _ _ hP hD hS ls (lv_sub hl [0, 1, 2, 3, 4, 5] rfl)

set_option maxHeartbeats 4000000 in
set_option maxRecDepth 100000 in
theorem c_X4_kindOfMostWins (l : Launch) (dC : Nat → ClassId) (dI : Nat → Nat → Nat) (m_ : Nat) (q_row : Nat) (q_t : Nat) (t_ : Nat) (h0 : Nat) (k0 : Nat) (w_ : Nat) (z_ : Nat) (slots : Int32) (old : Int32) (q_cell : Nat) (cyI : ClassId) (len : Int32) (f : Nat → Int32) (fw : Nat → Int32) (a0 : 0 ≤ len.toInt) (a1 : len.toInt ≤ 160) : Met l yX4_kindOfMostWins wsX4_kindOfMostWins ({ frames := 0, cells := 0, slots := 0, locals := 0 }) (va_Pc [.ref m_] (fun U => va_P (dC, dI) vwCl [kx_4 m_ q_row q_t t_ h0 k0 w_ z_ slots old, kx_0 q_row q_cell len, kx_a q_cell cyI 160 f, kx_a w_ cyI 160 fw] U.heap ∧ va_K (dC, dI) vwCl [(cyI, .int)] U)) (vp_Si (fun r : Int32 => (r.toInt = -1 ∨ (0 ≤ r.toInt ∧ r.toInt < len.toInt)))) 0 0 (fun _ => False) := by
  refine kx_stS (ws := wsX4_kindOfMostWins) (cc := cX4_kindOfMostWins) (maxL := 5) (ret := (some .int)) (by decide) rfl (Nat.le_of_ble_eq_true rfl) ?_
  intro p e s m below meth c ls hx hb hr hlocks hts hown hml hP hK hl
  have hown : s.vm.findClass RX4 = some m.cls := hown
  have hl : lv_has ls 5 [(0, .ref m_)] := hl
  have hf_12 := hts (.fieldLink RX4 12 "MajorityIndex" "row" "LMajorityIndex$Row;") (List.mem_of_getElem? (i := 1) rfl)
  have hi_4 : ∀ w ∈ u_ws RX4 TX4 9, w ∈ wsX4_kindOfMostWins := fun w h => List.mem_cons_of_mem _ (List.mem_append_left _ (List.mem_append_right _ h))
  have hf_57 := hts (.fieldLink RX4 57 "MajorityIndex$Row" "length" "I") (List.mem_of_getElem? (i := 2) rfl)
  have hi_0 : ∀ w ∈ u_ws RX0 TX0 2, w ∈ wsX4_kindOfMostWins := fun w h => List.mem_cons_of_mem _ (List.mem_append_right _ h)
  have hf_42 := hts (.fieldLink RX4 42 "MajorityIndex" "wins" "[I") (List.mem_of_getElem? (i := 3) rfl)
  have hf_110 := hts (.fieldLink RX4 110 "MajorityIndex$Row" "cell" "[I") (List.mem_of_getElem? (i := 4) rfl)
  refine lv_iconst (v := (-1)) hx hb dX4_kindOfMostWins_0 (by decide) ?_
  refine lv_istore_n (lv' := [(1, .int (-1)), (0, .ref m_)]) hx hb dX4_kindOfMostWins_1 rfl hl (by decide) rfl (fun ls hl => ?_)
  refine lv_iconst (v := 0) hx hb dX4_kindOfMostWins_2 (by decide) ?_
  refine lv_istore_n (lv' := [(2, .int 0), (1, .int (-1)), (0, .ref m_)]) hx hb dX4_kindOfMostWins_3 rfl hl (by decide) rfl (fun ls hl => ?_)
  refine lv_iconst (v := 0) hx hb dX4_kindOfMostWins_4 (by decide) ?_
  refine lv_istore_n (lv' := [(3, .int 0), (2, .int 0), (1, .int (-1)), (0, .ref m_)]) hx hb dX4_kindOfMostWins_5 rfl hl (by decide) rfl (fun ls hl => ?_)
  have LP1 : ∀ (n : Nat) (i : Int32) (best : Int32) (most : Int32), (0 ≤ i.toInt) → (best.toInt = -1 ∨ (0 ≤ best.toInt ∧ best.toInt < len.toInt)) → (len.toInt - i.toInt).toNat < n → ∀ (ls : Array Slot), lv_has ls 5 [(3, .int i), (2, .int most), (1, .int best), (0, .ref m_)] → W p l e (headSpec wsX4_kindOfMostWins ({ frames := 0, cells := 0, slots := 0, locals := 0 })).room s m ([.ref m_] : List Value).toArray below meth c s.heap [] 0 0 (MQ below (vp_Si (fun r : Int32 => (r.toInt = -1 ∨ (0 ≤ r.toInt ∧ r.toInt < len.toInt)))) ([.ref m_] : List Value).toArray s 0 0 (fun _ => False)) (F0 m 6 ls []) := by
    intro n
    induction n with
    | zero => intro i best most LP1_h0 LP1_h1 hn; exact absurd hn (Nat.not_lt_zero _)
    | succ n ih1 =>
      intro i best most LP1_h0 LP1_h1 hn1 ls hl
      refine lv_iload_n hx hb dX4_kindOfMostWins_6 rfl (lv_at hl 0 rfl) ?_
      refine lv_aload_n hx hb dX4_kindOfMostWins_7 rfl (lv_at hl 3 rfl) ?_
      refine va_get (D := (dC, dI)) (ci := 4) (v := .ref q_row) (C := RX4) (T := TX4) (N := 9) hx hb hts hi_4 hown hK hP 0 rfl rfl 0 (by decide) hf_12 (fun _ h9 => h9) rfl dX4_kindOfMostWins_8 ?_
      refine va_get (D := (dC, dI)) (ci := 0) (v := .int len) (C := RX0) (T := TX0) (N := 2) hx hb hts hi_0 hown hK hP 1 rfl rfl 1 (by decide) hf_57 (fun _ h9 => h9) rfl dX4_kindOfMostWins_11 ?_
      refine lv_icmp_ge (tgt := 90) hx hb dX4_kindOfMostWins_14 (by decide) (fun c_1 => ?_) (fun c_1 => ?_)
      · have i_1 : len.toInt ≤ i.toInt := kc_le c_1
        refine lv_iload_n hx hb dX4_kindOfMostWins_90 rfl (lv_at hl 2 rfl) ?_
        exact W.iret (v := best) hx hb hr (hlocks := hlocks) (fun t ht hW => ⟨best, rfl, LP1_h1, ht⟩) (fun q hq => by cases hq) dX4_kindOfMostWins_91
      · have i_1 : i.toInt < len.toInt := kc_nle c_1
        refine lv_iload_n hx hb dX4_kindOfMostWins_17 rfl (lv_at hl 2 rfl) ?_
        refine lv_iconst (v := (-1)) hx hb dX4_kindOfMostWins_18 (by decide) ?_
        refine lv_icmp_eq (tgt := 57) hx hb dX4_kindOfMostWins_19 (by decide) (fun c_2 => ?_) (fun c_2 => ?_)
        · have i_2 : best.toInt = (-1) := kc_eq c_2
          refine lv_iconst (v := 0) hx hb dX4_kindOfMostWins_57 (by decide) ?_
          refine lv_istore (lv' := [(4, .int 0), (3, .int i), (2, .int most), (1, .int best), (0, .ref m_)]) hx hb dX4_kindOfMostWins_58 hl (by decide) rfl (fun ls hl => ?_)
          refine lv_aload_n hx hb dX4_kindOfMostWins_60 rfl (lv_at hl 4 rfl) ?_
          refine va_get (D := (dC, dI)) (ci := 4) (v := .ref w_) (C := RX4) (T := TX4) (N := 9) hx hb hts hi_4 hown hK hP 0 rfl rfl 5 (by decide) hf_42 (fun _ h9 => h9) rfl dX4_kindOfMostWins_61 ?_
          refine lv_iload_n hx hb dX4_kindOfMostWins_64 rfl (lv_at hl 1 rfl) ?_
          refine va_iald hx hb hK hP 3 0 rfl rfl (ki_in (om_10 LP1_h0) (om_1 a1 i_1)) dX4_kindOfMostWins_65 ?_
          refine lv_topi (fun y_3 ey_3 => ?_)
          have j_3 : y_3.toInt = (fw i.toNatClampNeg).toInt := congrArg Int32.toInt ey_3
          refine lv_iload_n hx hb dX4_kindOfMostWins_66 rfl (lv_at hl 2 rfl) ?_
          refine lv_icmp_gt (tgt := 75) hx hb dX4_kindOfMostWins_67 (by decide) (fun c_4 => ?_) (fun c_4 => ?_)
          · have i_4 : most.toInt < y_3.toInt := kc_lt c_4
            refine lv_iload_n hx hb dX4_kindOfMostWins_75 rfl (lv_at hl 1 rfl) ?_
            refine lv_istore_n (lv' := [(1, .int i), (4, .int 0), (3, .int i), (2, .int most), (0, .ref m_)]) hx hb dX4_kindOfMostWins_76 rfl hl (by decide) rfl (fun ls hl => ?_)
            refine lv_aload_n hx hb dX4_kindOfMostWins_77 rfl (lv_at hl 4 rfl) ?_
            refine va_get (D := (dC, dI)) (ci := 4) (v := .ref w_) (C := RX4) (T := TX4) (N := 9) hx hb hts hi_4 hown hK hP 0 rfl rfl 5 (by decide) hf_42 (fun _ h9 => h9) rfl dX4_kindOfMostWins_78 ?_
            refine lv_iload_n hx hb dX4_kindOfMostWins_81 rfl (lv_at hl 2 rfl) ?_
            refine va_iald hx hb hK hP 3 0 rfl rfl (ki_in (om_10 LP1_h0) (om_1 a1 i_1)) dX4_kindOfMostWins_82 ?_
            refine lv_topi (fun y_5 ey_5 => ?_)
            have j_5 : y_5.toInt = (fw i.toNatClampNeg).toInt := congrArg Int32.toInt ey_5
            refine lv_istore_n (lv' := [(2, .int y_5), (1, .int i), (4, .int 0), (3, .int i), (0, .ref m_)]) hx hb dX4_kindOfMostWins_83 rfl hl (by decide) rfl (fun ls hl => ?_)
            obtain ⟨x_6, ex_6⟩ : ∃ y : Int32, y = i + 1 := ⟨_, rfl⟩
            have i_6 : x_6.toInt = i.toInt + 1 := ki_add ex_6 rfl rfl (om_13 LP1_h0) (om_3 a1 i_1)
            refine lv_iinc (v := x_6) (lv' := [(3, .int x_6), (2, .int y_5), (1, .int i), (4, .int 0), (0, .ref m_)]) hx hb dX4_kindOfMostWins_84 hl (k := 3) rfl (by rw [ex_6]; rfl) (by decide) rfl (fun ls hl => ?_)
            refine lv_goto (tgt := 6) hx hb dX4_kindOfMostWins_87 (by decide) ?_
            exact ih1 x_6 i y_5 (om_34 LP1_h0 i_6) (by omega) (om_mu hn1 (om_5 i_6) (om_6 i_1)) ls (lv_sub hl [0, 1, 2, 4] rfl)
          · have i_4 : y_3.toInt ≤ most.toInt := kc_nlt c_4
            refine lv_iload hx hb dX4_kindOfMostWins_70 (lv_at hl 0 rfl) ?_
            refine lv_if_eq (tgt := 84) hx hb dX4_kindOfMostWins_72 (by decide) (fun c_7 => ?_) (fun c_7 => ?_)
            · obtain ⟨x_8, ex_8⟩ : ∃ y : Int32, y = i + 1 := ⟨_, rfl⟩
              have i_8 : x_8.toInt = i.toInt + 1 := ki_add ex_8 rfl rfl (om_13 LP1_h0) (om_3 a1 i_1)
              refine lv_iinc (v := x_8) (lv' := [(3, .int x_8), (4, .int 0), (2, .int most), (1, .int best), (0, .ref m_)]) hx hb dX4_kindOfMostWins_84 hl (k := 1) rfl (by rw [ex_8]; rfl) (by decide) rfl (fun ls hl => ?_)
              refine lv_goto (tgt := 6) hx hb dX4_kindOfMostWins_87 (by decide) ?_
              exact ih1 x_8 best most (om_34 LP1_h0 i_8) (by omega) (om_mu hn1 (om_5 i_8) (om_6 i_1)) ls (lv_sub hl [0, 2, 3, 4] rfl)
            · exact absurd c_7 (by decide)
        · have i_2 : ¬ best.toInt = (-1) := kc_ne c_2
          refine lv_aload_n hx hb dX4_kindOfMostWins_22 rfl (lv_at hl 3 rfl) ?_
          refine va_get (D := (dC, dI)) (ci := 4) (v := .ref w_) (C := RX4) (T := TX4) (N := 9) hx hb hts hi_4 hown hK hP 0 rfl rfl 5 (by decide) hf_42 (fun _ h9 => h9) rfl dX4_kindOfMostWins_23 ?_
          refine lv_iload_n hx hb dX4_kindOfMostWins_26 rfl (lv_at hl 0 rfl) ?_
          refine va_iald hx hb hK hP 3 0 rfl rfl (ki_in (om_10 LP1_h0) (om_1 a1 i_1)) dX4_kindOfMostWins_27 ?_
          refine lv_topi (fun y_9 ey_9 => ?_)
          have j_9 : y_9.toInt = (fw i.toNatClampNeg).toInt := congrArg Int32.toInt ey_9
          refine lv_iload_n hx hb dX4_kindOfMostWins_28 rfl (lv_at hl 1 rfl) ?_
          refine lv_icmp_ne (tgt := 57) hx hb dX4_kindOfMostWins_29 (by decide) (fun c_10 => ?_) (fun c_10 => ?_)
          · have i_10 : ¬ y_9.toInt = most.toInt := kc_ne c_10
            refine lv_iconst (v := 0) hx hb dX4_kindOfMostWins_57 (by decide) ?_
            refine lv_istore (lv' := [(4, .int 0), (3, .int i), (2, .int most), (1, .int best), (0, .ref m_)]) hx hb dX4_kindOfMostWins_58 hl (by decide) rfl (fun ls hl => ?_)
            refine lv_aload_n hx hb dX4_kindOfMostWins_60 rfl (lv_at hl 4 rfl) ?_
            refine va_get (D := (dC, dI)) (ci := 4) (v := .ref w_) (C := RX4) (T := TX4) (N := 9) hx hb hts hi_4 hown hK hP 0 rfl rfl 5 (by decide) hf_42 (fun _ h9 => h9) rfl dX4_kindOfMostWins_61 ?_
            refine lv_iload_n hx hb dX4_kindOfMostWins_64 rfl (lv_at hl 1 rfl) ?_
            refine va_iald hx hb hK hP 3 0 rfl rfl (ki_in (om_10 LP1_h0) (om_1 a1 i_1)) dX4_kindOfMostWins_65 ?_
            refine lv_topi (fun y_11 ey_11 => ?_)
            have j_11 : y_11.toInt = (fw i.toNatClampNeg).toInt := congrArg Int32.toInt ey_11
            refine lv_iload_n hx hb dX4_kindOfMostWins_66 rfl (lv_at hl 2 rfl) ?_
            refine lv_icmp_gt (tgt := 75) hx hb dX4_kindOfMostWins_67 (by decide) (fun c_12 => ?_) (fun c_12 => ?_)
            · have i_12 : most.toInt < y_11.toInt := kc_lt c_12
              refine lv_iload_n hx hb dX4_kindOfMostWins_75 rfl (lv_at hl 1 rfl) ?_
              refine lv_istore_n (lv' := [(1, .int i), (4, .int 0), (3, .int i), (2, .int most), (0, .ref m_)]) hx hb dX4_kindOfMostWins_76 rfl hl (by decide) rfl (fun ls hl => ?_)
              refine lv_aload_n hx hb dX4_kindOfMostWins_77 rfl (lv_at hl 4 rfl) ?_
              refine va_get (D := (dC, dI)) (ci := 4) (v := .ref w_) (C := RX4) (T := TX4) (N := 9) hx hb hts hi_4 hown hK hP 0 rfl rfl 5 (by decide) hf_42 (fun _ h9 => h9) rfl dX4_kindOfMostWins_78 ?_
              refine lv_iload_n hx hb dX4_kindOfMostWins_81 rfl (lv_at hl 2 rfl) ?_
              refine va_iald hx hb hK hP 3 0 rfl rfl (ki_in (om_10 LP1_h0) (om_1 a1 i_1)) dX4_kindOfMostWins_82 ?_
              refine lv_topi (fun y_13 ey_13 => ?_)
              have j_13 : y_13.toInt = (fw i.toNatClampNeg).toInt := congrArg Int32.toInt ey_13
              refine lv_istore_n (lv' := [(2, .int y_13), (1, .int i), (4, .int 0), (3, .int i), (0, .ref m_)]) hx hb dX4_kindOfMostWins_83 rfl hl (by decide) rfl (fun ls hl => ?_)
              obtain ⟨x_14, ex_14⟩ : ∃ y : Int32, y = i + 1 := ⟨_, rfl⟩
              have i_14 : x_14.toInt = i.toInt + 1 := ki_add ex_14 rfl rfl (om_13 LP1_h0) (om_3 a1 i_1)
              refine lv_iinc (v := x_14) (lv' := [(3, .int x_14), (2, .int y_13), (1, .int i), (4, .int 0), (0, .ref m_)]) hx hb dX4_kindOfMostWins_84 hl (k := 3) rfl (by rw [ex_14]; rfl) (by decide) rfl (fun ls hl => ?_)
              refine lv_goto (tgt := 6) hx hb dX4_kindOfMostWins_87 (by decide) ?_
              exact ih1 x_14 i y_13 (om_34 LP1_h0 i_14) (by omega) (om_mu hn1 (om_5 i_14) (om_6 i_1)) ls (lv_sub hl [0, 1, 2, 4] rfl)
            · have i_12 : y_11.toInt ≤ most.toInt := kc_nlt c_12
              refine lv_iload hx hb dX4_kindOfMostWins_70 (lv_at hl 0 rfl) ?_
              refine lv_if_eq (tgt := 84) hx hb dX4_kindOfMostWins_72 (by decide) (fun c_15 => ?_) (fun c_15 => ?_)
              · obtain ⟨x_16, ex_16⟩ : ∃ y : Int32, y = i + 1 := ⟨_, rfl⟩
                have i_16 : x_16.toInt = i.toInt + 1 := ki_add ex_16 rfl rfl (om_13 LP1_h0) (om_3 a1 i_1)
                refine lv_iinc (v := x_16) (lv' := [(3, .int x_16), (4, .int 0), (2, .int most), (1, .int best), (0, .ref m_)]) hx hb dX4_kindOfMostWins_84 hl (k := 1) rfl (by rw [ex_16]; rfl) (by decide) rfl (fun ls hl => ?_)
                refine lv_goto (tgt := 6) hx hb dX4_kindOfMostWins_87 (by decide) ?_
                exact ih1 x_16 best most (om_34 LP1_h0 i_16) (by omega) (om_mu hn1 (om_5 i_16) (om_6 i_1)) ls (lv_sub hl [0, 2, 3, 4] rfl)
              · exact absurd c_15 (by decide)
          · have i_10 : y_9.toInt = most.toInt := kc_eq c_10
            refine lv_aload_n hx hb dX4_kindOfMostWins_32 rfl (lv_at hl 3 rfl) ?_
            refine va_get (D := (dC, dI)) (ci := 4) (v := .ref q_row) (C := RX4) (T := TX4) (N := 9) hx hb hts hi_4 hown hK hP 0 rfl rfl 0 (by decide) hf_12 (fun _ h9 => h9) rfl dX4_kindOfMostWins_33 ?_
            refine va_get (D := (dC, dI)) (ci := 0) (v := .ref q_cell) (C := RX0) (T := TX0) (N := 2) hx hb hts hi_0 hown hK hP 1 rfl rfl 0 (by decide) hf_110 (fun _ h9 => h9) rfl dX4_kindOfMostWins_36 ?_
            refine lv_iload_n hx hb dX4_kindOfMostWins_39 rfl (lv_at hl 0 rfl) ?_
            refine va_iald hx hb hK hP 2 0 rfl rfl (ki_in (om_10 LP1_h0) (om_1 a1 i_1)) dX4_kindOfMostWins_40 ?_
            refine lv_topi (fun y_17 ey_17 => ?_)
            have j_17 : y_17.toInt = (f i.toNatClampNeg).toInt := congrArg Int32.toInt ey_17
            refine lv_aload_n hx hb dX4_kindOfMostWins_41 rfl (lv_at hl 3 rfl) ?_
            refine va_get (D := (dC, dI)) (ci := 4) (v := .ref q_row) (C := RX4) (T := TX4) (N := 9) hx hb hts hi_4 hown hK hP 0 rfl rfl 0 (by decide) hf_12 (fun _ h9 => h9) rfl dX4_kindOfMostWins_42 ?_
            refine va_get (D := (dC, dI)) (ci := 0) (v := .ref q_cell) (C := RX0) (T := TX0) (N := 2) hx hb hts hi_0 hown hK hP 1 rfl rfl 0 (by decide) hf_110 (fun _ h9 => h9) rfl dX4_kindOfMostWins_45 ?_
            refine lv_iload_n hx hb dX4_kindOfMostWins_48 rfl (lv_at hl 2 rfl) ?_
            refine va_iald hx hb hK hP 2 0 rfl rfl (ki_in (by omega) (by omega)) dX4_kindOfMostWins_49 ?_
            refine lv_topi (fun y_18 ey_18 => ?_)
            have j_18 : y_18.toInt = (f best.toNatClampNeg).toInt := congrArg Int32.toInt ey_18
            refine lv_icmp_ge (tgt := 57) hx hb dX4_kindOfMostWins_50 (by decide) (fun c_19 => ?_) (fun c_19 => ?_)
            · have i_19 : y_18.toInt ≤ y_17.toInt := kc_le c_19
              refine lv_iconst (v := 0) hx hb dX4_kindOfMostWins_57 (by decide) ?_
              refine lv_istore (lv' := [(4, .int 0), (3, .int i), (2, .int most), (1, .int best), (0, .ref m_)]) hx hb dX4_kindOfMostWins_58 hl (by decide) rfl (fun ls hl => ?_)
              refine lv_aload_n hx hb dX4_kindOfMostWins_60 rfl (lv_at hl 4 rfl) ?_
              refine va_get (D := (dC, dI)) (ci := 4) (v := .ref w_) (C := RX4) (T := TX4) (N := 9) hx hb hts hi_4 hown hK hP 0 rfl rfl 5 (by decide) hf_42 (fun _ h9 => h9) rfl dX4_kindOfMostWins_61 ?_
              refine lv_iload_n hx hb dX4_kindOfMostWins_64 rfl (lv_at hl 1 rfl) ?_
              refine va_iald hx hb hK hP 3 0 rfl rfl (ki_in (om_10 LP1_h0) (om_1 a1 i_1)) dX4_kindOfMostWins_65 ?_
              refine lv_topi (fun y_20 ey_20 => ?_)
              have j_20 : y_20.toInt = (fw i.toNatClampNeg).toInt := congrArg Int32.toInt ey_20
              refine lv_iload_n hx hb dX4_kindOfMostWins_66 rfl (lv_at hl 2 rfl) ?_
              refine lv_icmp_gt (tgt := 75) hx hb dX4_kindOfMostWins_67 (by decide) (fun c_21 => ?_) (fun c_21 => ?_)
              · have i_21 : most.toInt < y_20.toInt := kc_lt c_21
                exfalso; omega
              · have i_21 : y_20.toInt ≤ most.toInt := kc_nlt c_21
                refine lv_iload hx hb dX4_kindOfMostWins_70 (lv_at hl 0 rfl) ?_
                refine lv_if_eq (tgt := 84) hx hb dX4_kindOfMostWins_72 (by decide) (fun c_22 => ?_) (fun c_22 => ?_)
                · obtain ⟨x_23, ex_23⟩ : ∃ y : Int32, y = i + 1 := ⟨_, rfl⟩
                  have i_23 : x_23.toInt = i.toInt + 1 := ki_add ex_23 rfl rfl (om_13 LP1_h0) (om_3 a1 i_1)
                  refine lv_iinc (v := x_23) (lv' := [(3, .int x_23), (4, .int 0), (2, .int most), (1, .int best), (0, .ref m_)]) hx hb dX4_kindOfMostWins_84 hl (k := 1) rfl (by rw [ex_23]; rfl) (by decide) rfl (fun ls hl => ?_)
                  refine lv_goto (tgt := 6) hx hb dX4_kindOfMostWins_87 (by decide) ?_
                  exact ih1 x_23 best most (om_34 LP1_h0 i_23) (by omega) (om_mu hn1 (om_5 i_23) (om_6 i_1)) ls (lv_sub hl [0, 2, 3, 4] rfl)
                · exact absurd c_22 (by decide)
            · have i_19 : y_17.toInt < y_18.toInt := kc_nle c_19
              refine lv_iconst (v := 1) hx hb dX4_kindOfMostWins_53 (by decide) ?_
              refine lv_goto (tgt := 58) hx hb dX4_kindOfMostWins_54 (by decide) ?_
              refine lv_istore (lv' := [(4, .int 1), (3, .int i), (2, .int most), (1, .int best), (0, .ref m_)]) hx hb dX4_kindOfMostWins_58 hl (by decide) rfl (fun ls hl => ?_)
              refine lv_aload_n hx hb dX4_kindOfMostWins_60 rfl (lv_at hl 4 rfl) ?_
              refine va_get (D := (dC, dI)) (ci := 4) (v := .ref w_) (C := RX4) (T := TX4) (N := 9) hx hb hts hi_4 hown hK hP 0 rfl rfl 5 (by decide) hf_42 (fun _ h9 => h9) rfl dX4_kindOfMostWins_61 ?_
              refine lv_iload_n hx hb dX4_kindOfMostWins_64 rfl (lv_at hl 1 rfl) ?_
              refine va_iald hx hb hK hP 3 0 rfl rfl (ki_in (om_10 LP1_h0) (om_1 a1 i_1)) dX4_kindOfMostWins_65 ?_
              refine lv_topi (fun y_24 ey_24 => ?_)
              have j_24 : y_24.toInt = (fw i.toNatClampNeg).toInt := congrArg Int32.toInt ey_24
              refine lv_iload_n hx hb dX4_kindOfMostWins_66 rfl (lv_at hl 2 rfl) ?_
              refine lv_icmp_gt (tgt := 75) hx hb dX4_kindOfMostWins_67 (by decide) (fun c_25 => ?_) (fun c_25 => ?_)
              · have i_25 : most.toInt < y_24.toInt := kc_lt c_25
                exfalso; omega
              · have i_25 : y_24.toInt ≤ most.toInt := kc_nlt c_25
                refine lv_iload hx hb dX4_kindOfMostWins_70 (lv_at hl 0 rfl) ?_
                refine lv_if_eq (tgt := 84) hx hb dX4_kindOfMostWins_72 (by decide) (fun c_26 => ?_) (fun c_26 => ?_)
                · exact absurd c_26 (by decide)
                · refine lv_iload_n hx hb dX4_kindOfMostWins_75 rfl (lv_at hl 1 rfl) ?_
                  refine lv_istore_n (lv' := [(1, .int i), (4, .int 1), (3, .int i), (2, .int most), (0, .ref m_)]) hx hb dX4_kindOfMostWins_76 rfl hl (by decide) rfl (fun ls hl => ?_)
                  refine lv_aload_n hx hb dX4_kindOfMostWins_77 rfl (lv_at hl 4 rfl) ?_
                  refine va_get (D := (dC, dI)) (ci := 4) (v := .ref w_) (C := RX4) (T := TX4) (N := 9) hx hb hts hi_4 hown hK hP 0 rfl rfl 5 (by decide) hf_42 (fun _ h9 => h9) rfl dX4_kindOfMostWins_78 ?_
                  refine lv_iload_n hx hb dX4_kindOfMostWins_81 rfl (lv_at hl 2 rfl) ?_
                  refine va_iald hx hb hK hP 3 0 rfl rfl (ki_in (om_10 LP1_h0) (om_1 a1 i_1)) dX4_kindOfMostWins_82 ?_
                  refine lv_topi (fun y_27 ey_27 => ?_)
                  have j_27 : y_27.toInt = (fw i.toNatClampNeg).toInt := congrArg Int32.toInt ey_27
                  refine lv_istore_n (lv' := [(2, .int y_27), (1, .int i), (4, .int 1), (3, .int i), (0, .ref m_)]) hx hb dX4_kindOfMostWins_83 rfl hl (by decide) rfl (fun ls hl => ?_)
                  obtain ⟨x_28, ex_28⟩ : ∃ y : Int32, y = i + 1 := ⟨_, rfl⟩
                  have i_28 : x_28.toInt = i.toInt + 1 := ki_add ex_28 rfl rfl (om_13 LP1_h0) (om_3 a1 i_1)
                  refine lv_iinc (v := x_28) (lv' := [(3, .int x_28), (2, .int y_27), (1, .int i), (4, .int 1), (0, .ref m_)]) hx hb dX4_kindOfMostWins_84 hl (k := 3) rfl (by rw [ex_28]; rfl) (by decide) rfl (fun ls hl => ?_)
                  refine lv_goto (tgt := 6) hx hb dX4_kindOfMostWins_87 (by decide) ?_
                  exact ih1 x_28 i y_27 (om_34 LP1_h0 i_28) (by omega) (om_mu hn1 (om_5 i_28) (om_6 i_1)) ls (lv_sub hl [0, 1, 2, 4] rfl)
  have k_29 : (0 : Int32).toInt = 0 := rfl
  have k_30 : ((-1) : Int32).toInt = -1 := rfl
  have k_31 : (0 : Int32).toInt = 0 := rfl
  exact LP1 ((len.toInt - 0 : Int).toNat + 1) 0 (-1) 0 om_35 (by omega) (Nat.lt_succ_self _) ls (lv_sub hl [0, 1, 2, 3] rfl)

set_option maxHeartbeats 4000000 in
set_option maxRecDepth 100000 in
theorem c_X4_slideWindow (l : Launch) (dC : Nat → ClassId) (dI : Nat → Nat → Nat) (m_ : Nat) (q_row : Nat) (q_t : Nat) (t_ : Nat) (h0 : Nat) (k0 : Nat) (w_ : Nat) (z_ : Nat) (slots : Int32) (old : Int32) (q_cell : Nat) (cyI : ClassId) (len : Int32) (f : Nat → Int32) (t_k : Nat) (t_o : Nat) (tk : Int32) (mo : Int32) (fk : Nat → Int32) (fq : Nat → Int32) (fw : Nat → Int32) (p0 : Int32) (p1 : Int32) (p2 : Int32) (sz : Nat) (a0 : 0 ≤ len.toInt) (a1 : len.toInt ≤ 160) (b0 : 1 ≤ p0.toInt) (b1 : p0.toInt ≤ len.toInt) : kx_MQ l (dC, dI) yX4_slideWindow wsX4_slideWindow ({ frames := 2, cells := 0, slots := 0, locals := 90 }) [.ref m_, .int p0, .int p1, .int p2] [kx_4 m_ q_row q_t t_ h0 k0 w_ z_ slots old, kx_0 q_row q_cell len, kx_a q_cell cyI 160 f, kx_1 t_ t_k t_o tk mo, kx_a t_k cyI 160 fk, kx_a t_o cyI 160 fq, kx_a w_ cyI 160 fw] [(cyI, .int)] sz (fun A => va_Qi (fun (r : Int32) (u : Int32 × Int32 × (Nat → Int32) × (Nat → Int32) × (Nat → Int32)) => True) (fun (u : Int32 × Int32 × (Nat → Int32) × (Nat → Int32) × (Nat → Int32)) (t : State) => va_P (dC, dI) vwCl [kx_4 m_ q_row q_t t_ h0 k0 w_ z_ slots old, kx_0 q_row q_cell len, kx_a q_cell cyI 160 f, kx_1 t_ t_k t_o u.1 u.2.1, kx_a t_k cyI 160 u.2.2.1, kx_a t_o cyI 160 u.2.2.2.1, kx_a w_ cyI 160 u.2.2.2.2] t.heap ∧ va_K (dC, dI) vwCl [(cyI, .int)] t ∧ va_D A [kx_4 m_ q_row q_t t_ h0 k0 w_ z_ slots old, kx_0 q_row q_cell len, kx_a q_cell cyI 160 f, kx_1 t_ t_k t_o u.1 u.2.1, kx_a t_k cyI 160 u.2.2.1, kx_a t_o cyI 160 u.2.2.2.1, kx_a w_ cyI 160 u.2.2.2.2]) A) := by
  refine kx_stQ (ws := wsX4_slideWindow) (cc := cX4_slideWindow) (maxL := 6) (ret := (some .int)) (by decide) rfl (Nat.le_of_ble_eq_true rfl) ?_
  intro p e s m below meth c A ls hx hb hr hlocks hts hown hml hA hS hP hK hD hl
  have hown : s.vm.findClass RX4 = some m.cls := hown
  have hl : lv_has ls 6 [(0, .ref m_), (1, .int p0), (2, .int p1), (3, .int p2)] := hl
  have hf_28 := hts (.fieldLink RX4 28 "MajorityIndex" "tally" "LMajorityIndex$Tally;") (List.mem_of_getElem? (i := 1) rfl)
  have hi_4 : ∀ w ∈ u_ws RX4 TX4 9, w ∈ wsX4_slideWindow := fun w h => List.mem_cons_of_mem _ (List.mem_append_left _ (List.mem_append_left _ (List.mem_append_right _ h)))
  have hf_12 := hts (.fieldLink RX4 12 "MajorityIndex" "row" "LMajorityIndex$Row;") (List.mem_of_getElem? (i := 2) rfl)
  have hf_42 := hts (.fieldLink RX4 42 "MajorityIndex" "wins" "[I") (List.mem_of_getElem? (i := 3) rfl)
  have hf_57 := hts (.fieldLink RX4 57 "MajorityIndex$Row" "length" "I") (List.mem_of_getElem? (i := 4) rfl)
  have hi_0 : ∀ w ∈ u_ws RX0 TX0 2, w ∈ wsX4_slideWindow := fun w h => List.mem_cons_of_mem _ (List.mem_append_left _ (List.mem_append_right _ h))
  refine lv_aload_n hx hb dX4_slideWindow_0 rfl (lv_at hl 0 rfl) ?_
  refine va_get (D := (dC, dI)) (ci := 4) (v := .ref t_) (C := RX4) (T := TX4) (N := 9) hx hb hts hi_4 hown hK hP 0 rfl rfl 2 (by decide) hf_28 (fun _ h9 => h9) rfl dX4_slideWindow_1 ?_
  refine lv_aload_n hx hb dX4_slideWindow_4 rfl (lv_at hl 0 rfl) ?_
  refine va_get (D := (dC, dI)) (ci := 4) (v := .ref q_row) (C := RX4) (T := TX4) (N := 9) hx hb hts hi_4 hown hK hP 0 rfl rfl 0 (by decide) hf_12 (fun _ h9 => h9) rfl dX4_slideWindow_5 ?_
  obtain ⟨hPc, hDc, hFc, hCc⟩ := kx_pre (wc := [kx_1 t_ t_k t_o tk mo, kx_a t_k cyI 160 fk, kx_0 q_row q_cell len, kx_a q_cell cyI 160 f]) hP hD hS hA [3, 4, 1, 2] (by decide) rfl
  have hKc := hK
  refine va_callv (va_runV (As := [.ref q_row]) (rest := []) ⟨hx, hb, hml, hown, hts⟩ (kx_un (c_X1_learn l dC dI t_ t_k t_o cyI tk mo fk q_row q_cell len f s.heap.size a0 a1)) (cwV 1 hts gX4_slideWindow_X1_learn rfl rfl rfl (by decide +kernel) ⟨Nat.le_of_ble_eq_true rfl, Nat.le_of_ble_eq_true rfl⟩) ⟨fun a U g mk q => by obtain ⟨q0, q1, qP, qK, qD⟩ := q; exact ⟨q0, q1, qP, va_K.moved (u := U) (U := U.calling g mk a) (Vm.Alike.refl U.vm) qK, qD⟩, kx_rc1 hKc hPc (q0 := 0) rfl, fun U hU hW => ⟨rfl, by rw [hU], by rw [hU]; exact hPc, va_K.moved hW.alike hKc, hDc.weaken (fun _ _ _ _ => trivial)⟩⟩ rfl rfl hl.1 rfl (lv_room (Nat.le_of_ble_eq_true rfl)) dX4_slideWindow_8 ⟨Nat.le_of_ble_eq_true rfl, Nat.le_of_ble_eq_true rfl⟩) hS (fun q _ h => hFc q h) hFc (fun u t H1 locs ht hvm w_1 hB hz1 hk1 hS => ?_)
  obtain ⟨o_2, rfl⟩ : ∃ z, z = u := ⟨_, rfl⟩
  obtain ⟨hP1, hK1, hD1⟩ := hB
  rw [ht] at hP1
  have hK1 := va_K.moved hvm.symm hK1
  obtain ⟨hP, hD⟩ := kx_join (w2 := [kx_4 m_ q_row q_t t_ h0 k0 w_ z_ slots old, kx_a t_o cyI 160 fq, kx_a w_ cyI 160 fw, kx_1 t_ t_k t_o tk mo, kx_a t_k cyI 160 o_2, kx_0 q_row q_cell len, kx_a q_cell cyI 160 f]) hP hD hP1 hD1 hk1 hFc [3, 4, 1, 2] [0, 5, 6] hCc rfl (by decide) (by decide)
  clear hP1 hD1 hK1 hk1 hz1 hFc hDc hPc hKc hCc
  generalize H1 = H at hP hS ⊢
  have w_1 : kindOk o_2 len.toInt := w_1
  refine lv_aload_n hx hb dX4_slideWindow_11 rfl (lv_at hl 0 rfl) ?_
  refine va_get (D := (dC, dI)) (ci := 4) (v := .ref t_) (C := RX4) (T := TX4) (N := 9) hx hb hts hi_4 hown hK hP 0 rfl rfl 2 (by decide) hf_28 (fun _ h9 => h9) rfl dX4_slideWindow_12 ?_
  obtain ⟨hPc, hDc, hFc, hCc⟩ := kx_pre (wc := [kx_1 t_ t_k t_o tk mo, kx_a t_o cyI 160 fq]) hP hD hS hA [3, 1] (by decide) rfl
  have hKc := hK
  refine va_callv (va_runV (As := []) (rest := []) ⟨hx, hb, hml, hown, hts⟩ (kx_un (c_X1_clear l dC dI t_ t_k t_o cyI tk mo fq H.size)) (cwV 0 hts gX4_slideWindow_X1_clear rfl rfl rfl (by decide +kernel) ⟨Nat.le_of_ble_eq_true rfl, Nat.le_of_ble_eq_true rfl⟩) ⟨fun a U g mk q => by obtain ⟨q0, q1, qP, qK, qD⟩ := q; exact ⟨q0, q1, qP, va_K.moved (u := U) (U := U.calling g mk a) (Vm.Alike.refl U.vm) qK, qD⟩, kx_rc1 hKc hPc (q0 := 0) rfl, fun U hU hW => ⟨rfl, by rw [hU], by rw [hU]; exact hPc, va_K.moved hW.alike hKc, hDc.weaken (fun _ _ _ _ => trivial)⟩⟩ rfl rfl hl.1 rfl (lv_room (Nat.le_of_ble_eq_true rfl)) dX4_slideWindow_15 ⟨Nat.le_of_ble_eq_true rfl, Nat.le_of_ble_eq_true rfl⟩) hS (fun q _ h => hFc q h) hFc (fun u t H1 locs ht hvm w_3 hB hz1 hk1 hS => ?_)
  obtain ⟨o_4, rfl⟩ : ∃ z, z = u := ⟨_, rfl⟩
  obtain ⟨hP1, hK1, hD1⟩ := hB
  rw [ht] at hP1
  have hK1 := va_K.moved hvm.symm hK1
  obtain ⟨hP, hD⟩ := kx_join (w2 := [kx_4 m_ q_row q_t t_ h0 k0 w_ z_ slots old, kx_a w_ cyI 160 fw, kx_a t_k cyI 160 o_2, kx_0 q_row q_cell len, kx_a q_cell cyI 160 f, kx_1 t_ t_k t_o 0 0, kx_a t_o cyI 160 o_4]) hP hD hP1 hD1 hk1 hFc [3, 1] [0, 2, 4, 5, 6] hCc rfl (by decide) (by decide)
  clear hP1 hD1 hK1 hk1 hz1 hFc hDc hPc hKc hCc
  generalize H1 = H at hP hS ⊢
  have w_3 : ∀ k : Nat, k < 160 → o_4 k = 0 := w_3
  refine lv_aload_n hx hb dX4_slideWindow_18 rfl (lv_at hl 0 rfl) ?_
  refine va_get (D := (dC, dI)) (ci := 4) (v := .ref w_) (C := RX4) (T := TX4) (N := 9) hx hb hts hi_4 hown hK hP 0 rfl rfl 5 (by decide) hf_42 (fun _ h9 => h9) rfl dX4_slideWindow_19 ?_
  refine lv_iconst (v := 0) hx hb dX4_slideWindow_22 (by decide) ?_
  obtain ⟨hPc, hDc, hFc, hCc⟩ := kx_preM (wc := [kx_a w_ cyI 160 fw]) hP hD hS hA [false, true, false, false, false, false, false] rfl
  have hKc := hK
  refine va_callv (va_runS (As := [.ref w_, .int 0]) (rest := []) ⟨hx, hb, hml, hown, hts⟩ (kx_un (c_J7_fill_160 l dC dI w_ cyI fw 0 H.size)) (va_cwS 2 hts gX4_slideWindow_J7_fill_53178 rfl rfl rfl (by decide +kernel) ⟨Nat.le_of_ble_eq_true rfl, Nat.le_of_ble_eq_true rfl⟩) ⟨fun a U g mk q => by obtain ⟨q0, q1, qP, qK, qD⟩ := q; exact ⟨q0, q1, qP, va_K.moved (u := U) (U := U.calling g mk a) (Vm.Alike.refl U.vm) qK, qD⟩, fun U hU hW => ⟨rfl, by rw [hU], by rw [hU]; exact hPc, va_K.moved hW.alike hKc, hDc.weaken (fun _ _ _ _ => trivial)⟩⟩ rfl rfl hl.1 rfl (lv_room (Nat.le_of_ble_eq_true rfl)) dX4_slideWindow_23 ⟨Nat.le_of_ble_eq_true rfl, Nat.le_of_ble_eq_true rfl⟩) hS (fun q _ h => hFc q h) hFc (fun u t H1 locs ht hvm w_5 hB hz1 hk1 hS => ?_)
  obtain ⟨o_6, rfl⟩ : ∃ z, z = u := ⟨_, rfl⟩
  obtain ⟨hP1, hK1, hD1⟩ := hB
  rw [ht] at hP1
  have hK1 := va_K.moved hvm.symm hK1
  obtain ⟨hP, hD⟩ := kx_joinM (w2 := [kx_4 m_ q_row q_t t_ h0 k0 w_ z_ slots old, kx_a w_ cyI 160 o_6, kx_a t_k cyI 160 o_2, kx_0 q_row q_cell len, kx_a q_cell cyI 160 f, kx_1 t_ t_k t_o 0 0, kx_a t_o cyI 160 o_4]) hP hD hP1 hD1 hk1 hFc [false, true, false, false, false, false, false] hCc rfl
  clear hP1 hD1 hK1 hk1 hz1 hFc hDc hPc hKc hCc
  generalize H1 = H at hP hS ⊢
  have w_5 : ∀ k : Nat, k < 160 → o_6 k = 0 := w_5
  refine lv_iconst (v := 0) hx hb dX4_slideWindow_26 (by decide) ?_
  refine lv_istore (lv' := [(4, .int 0), (0, .ref m_), (1, .int p0), (2, .int p1), (3, .int p2)]) hx hb dX4_slideWindow_27 hl (by decide) rfl (fun ls hl => ?_)
  refine lv_iconst (v := 0) hx hb dX4_slideWindow_29 (by decide) ?_
  refine lv_istore (lv' := [(5, .int 0), (4, .int 0), (0, .ref m_), (1, .int p0), (2, .int p1), (3, .int p2)]) hx hb dX4_slideWindow_30 hl (by decide) rfl (fun ls hl => ?_)
  have LP1 : ∀ (n : Nat) (i : Int32) (so : Int32) (a_t : Int32) (a_m : Int32) (a_q : Nat → Int32) (aw : Nat → Int32), (0 ≤ i.toInt) → (len.toInt - i.toInt).toNat < n → ∀ (H : Heap) (locs : List Loc), va_P (dC, dI) vwCl [kx_4 m_ q_row q_t t_ h0 k0 w_ z_ slots old, kx_a w_ cyI 160 aw, kx_a t_k cyI 160 o_2, kx_0 q_row q_cell len, kx_a q_cell cyI 160 f, kx_1 t_ t_k t_o a_t a_m, kx_a t_o cyI 160 a_q] H → va_D A [kx_4 m_ q_row q_t t_ h0 k0 w_ z_ slots old, kx_a w_ cyI 160 aw, kx_a t_k cyI 160 o_2, kx_0 q_row q_cell len, kx_a q_cell cyI 160 f, kx_1 t_ t_k t_o a_t a_m, kx_a t_o cyI 160 a_q] → va_S A s.heap H locs → ∀ (ls : Array Slot), lv_has ls 6 [(5, .int i), (4, .int so), (0, .ref m_), (1, .int p0), (2, .int p1), (3, .int p2)] → W p l e (headSpec wsX4_slideWindow ({ frames := 2, cells := 0, slots := 0, locals := 90 })).room s m ([.ref m_, .int p0, .int p1, .int p2] : List Value).toArray below meth c H locs 0 0 (MQ below (va_Qi (fun (r : Int32) (u : Int32 × Int32 × (Nat → Int32) × (Nat → Int32) × (Nat → Int32)) => True) (fun (u : Int32 × Int32 × (Nat → Int32) × (Nat → Int32) × (Nat → Int32)) (t : State) => va_P (dC, dI) vwCl [kx_4 m_ q_row q_t t_ h0 k0 w_ z_ slots old, kx_0 q_row q_cell len, kx_a q_cell cyI 160 f, kx_1 t_ t_k t_o u.1 u.2.1, kx_a t_k cyI 160 u.2.2.1, kx_a t_o cyI 160 u.2.2.2.1, kx_a w_ cyI 160 u.2.2.2.2] t.heap ∧ va_K (dC, dI) vwCl [(cyI, .int)] t ∧ va_D A [kx_4 m_ q_row q_t t_ h0 k0 w_ z_ slots old, kx_0 q_row q_cell len, kx_a q_cell cyI 160 f, kx_1 t_ t_k t_o u.1 u.2.1, kx_a t_k cyI 160 u.2.2.1, kx_a t_o cyI 160 u.2.2.2.1, kx_a w_ cyI 160 u.2.2.2.2]) A) ([.ref m_, .int p0, .int p1, .int p2] : List Value).toArray s 0 0 A) (F0 m 32 ls []) := by
    intro n
    induction n with
    | zero => intro i so a_t a_m a_q aw LP1_h0 hn; exact absurd hn (Nat.not_lt_zero _)
    | succ n ih1 =>
      intro i so a_t a_m a_q aw LP1_h0 hn1 H locs hP hD hS ls hl
      refine lv_iload hx hb dX4_slideWindow_32 (lv_at hl 0 rfl) ?_
      refine lv_aload_n hx hb dX4_slideWindow_34 rfl (lv_at hl 2 rfl) ?_
      refine va_get (D := (dC, dI)) (ci := 4) (v := .ref q_row) (C := RX4) (T := TX4) (N := 9) hx hb hts hi_4 hown hK hP 0 rfl rfl 0 (by decide) hf_12 (fun _ h9 => h9) rfl dX4_slideWindow_35 ?_
      refine va_get (D := (dC, dI)) (ci := 0) (v := .int len) (C := RX0) (T := TX0) (N := 2) hx hb hts hi_0 hown hK hP 3 rfl rfl 1 (by decide) hf_57 (fun _ h9 => h9) rfl dX4_slideWindow_38 ?_
      refine lv_icmp_ge (tgt := 97) hx hb dX4_slideWindow_41 (by decide) (fun c_7 => ?_) (fun c_7 => ?_)
      · have i_7 : len.toInt ≤ i.toInt := kc_le c_7
        refine lv_iload hx hb dX4_slideWindow_97 (lv_at hl 1 rfl) ?_
        obtain ⟨hP9, hD9⟩ := kx_sub (w2 := [kx_4 m_ q_row q_t t_ h0 k0 w_ z_ slots old, kx_0 q_row q_cell len, kx_a q_cell cyI 160 f, kx_1 t_ t_k t_o a_t a_m, kx_a t_k cyI 160 o_2, kx_a t_o cyI 160 a_q, kx_a w_ cyI 160 aw]) hP hD [0, 3, 4, 5, 2, 6, 1] (by decide) rfl
        have hK9 := hK
        exact W.iret (v := so) hx hb hr (hlocks := hlocks) (fun t ht hW => ⟨⟨so, (a_t, a_m, o_2, a_q, aw), rfl, trivial, by rw [ht]; exact hP9, va_K.moved hW.alike hK9, hD9⟩, hS.F ht⟩) hS.2.2 dX4_slideWindow_99
      · have i_7 : i.toInt < len.toInt := kc_nle c_7
        refine lv_aload_n hx hb dX4_slideWindow_44 rfl (lv_at hl 2 rfl) ?_
        refine va_get (D := (dC, dI)) (ci := 4) (v := .ref t_) (C := RX4) (T := TX4) (N := 9) hx hb hts hi_4 hown hK hP 0 rfl rfl 2 (by decide) hf_28 (fun _ h9 => h9) rfl dX4_slideWindow_45 ?_
        refine lv_iload hx hb dX4_slideWindow_48 (lv_at hl 0 rfl) ?_
        obtain ⟨hPc, hDc, hFc, hCc⟩ := kx_pre (wc := [kx_1 t_ t_k t_o a_t a_m, kx_a t_k cyI 160 o_2, kx_a t_o cyI 160 a_q]) hP hD hS hA [5, 2, 6] (by decide) rfl
        have hKc := hK
        refine va_callv (va_runV (As := [.int i]) (rest := []) ⟨hx, hb, hml, hown, hts⟩ (kx_un (c_X1_take l dC dI t_ t_k t_o cyI a_t a_m o_2 a_q len.toInt i H.size w_1 LP1_h0 i_7 a1)) (cwV 1 hts gX4_slideWindow_X1_take rfl rfl rfl (by decide +kernel) ⟨Nat.le_of_ble_eq_true rfl, Nat.le_of_ble_eq_true rfl⟩) ⟨fun a U g mk q => by obtain ⟨q0, q1, qP, qK, qD⟩ := q; exact ⟨q0, q1, qP, va_K.moved (u := U) (U := U.calling g mk a) (Vm.Alike.refl U.vm) qK, qD⟩, kx_rc1 hKc hPc (q0 := 0) rfl, fun U hU hW => ⟨rfl, by rw [hU], by rw [hU]; exact hPc, va_K.moved hW.alike hKc, hDc.weaken (fun _ _ _ _ => trivial)⟩⟩ rfl rfl hl.1 rfl (lv_room (Nat.le_of_ble_eq_true rfl)) dX4_slideWindow_50 ⟨Nat.le_of_ble_eq_true rfl, Nat.le_of_ble_eq_true rfl⟩) hS (fun q _ h => hFc q h) hFc (fun u t H1 locs ht hvm w_8 hB hz1 hk1 hS => ?_)
        obtain ⟨o_9, o_10, o_11⟩ := u
        dsimp only at w_8 hB
        obtain ⟨hP1, hK1, hD1⟩ := hB
        rw [ht] at hP1
        have hK1 := va_K.moved hvm.symm hK1
        obtain ⟨hP, hD⟩ := kx_join (w2 := [kx_4 m_ q_row q_t t_ h0 k0 w_ z_ slots old, kx_a w_ cyI 160 aw, kx_0 q_row q_cell len, kx_a q_cell cyI 160 f, kx_1 t_ t_k t_o o_9 o_10, kx_a t_k cyI 160 o_2, kx_a t_o cyI 160 o_11]) hP hD hP1 hD1 hk1 hFc [5, 2, 6] [0, 1, 3, 4] hCc rfl (by decide) (by decide)
        clear hP1 hD1 hK1 hk1 hz1 hFc hDc hPc hKc hCc
        generalize H1 = H at hP hS ⊢
        have w_8 : True := w_8
        refine lv_iload hx hb dX4_slideWindow_53 (lv_at hl 0 rfl) ?_
        refine lv_iload_n hx hb dX4_slideWindow_55 rfl (lv_at hl 3 rfl) ?_
        refine lv_icmp_lt (tgt := 70) hx hb dX4_slideWindow_56 (by decide) (fun c_12 => ?_) (fun c_12 => ?_)
        · have i_12 : i.toInt < p0.toInt := kc_lt c_12
          refine lv_iload hx hb dX4_slideWindow_70 (lv_at hl 0 rfl) ?_
          refine lv_iload_n hx hb dX4_slideWindow_72 rfl (lv_at hl 3 rfl) ?_
          refine lv_iconst (v := 1) hx hb dX4_slideWindow_73 (by decide) ?_
          refine lv_isub hx hb dX4_slideWindow_74 ?_
          refine lv_topi (fun y_13 ey_13 => ?_)
          have i_13 : y_13.toInt = p0.toInt - 1 := ki_sub ey_13 rfl rfl (om_182 b0) (om_183 a1 b1)
          refine lv_icmp_lt (tgt := 91) hx hb dX4_slideWindow_75 (by decide) (fun c_14 => ?_) (fun c_14 => ?_)
          · have i_14 : i.toInt < y_13.toInt := kc_lt c_14
            obtain ⟨x_15, ex_15⟩ : ∃ y : Int32, y = i + 1 := ⟨_, rfl⟩
            have i_15 : x_15.toInt = i.toInt + 1 := ki_add ex_15 rfl rfl (om_13 LP1_h0) (om_3 a1 i_7)
            refine lv_iinc (v := x_15) (lv' := [(5, .int x_15), (4, .int so), (0, .ref m_), (1, .int p0), (2, .int p1), (3, .int p2)]) hx hb dX4_slideWindow_91 hl (k := 0) rfl (by rw [ex_15]; rfl) (by decide) rfl (fun ls hl => ?_)
            refine lv_goto (tgt := 32) hx hb dX4_slideWindow_94 (by decide) ?_
            have hP : va_P (dC, dI) vwCl [kx_4 m_ q_row q_t t_ h0 k0 w_ z_ slots old, kx_a w_ cyI 160 aw, kx_a t_k cyI 160 o_2, kx_0 q_row q_cell len, kx_a q_cell cyI 160 f, kx_1 t_ t_k t_o o_9 o_10, kx_a t_o cyI 160 o_11] _ := hP.sub [0, 1, 5, 2, 3, 4, 6] rfl
            have hD : va_D A [kx_4 m_ q_row q_t t_ h0 k0 w_ z_ slots old, kx_a w_ cyI 160 aw, kx_a t_k cyI 160 o_2, kx_0 q_row q_cell len, kx_a q_cell cyI 160 f, kx_1 t_ t_k t_o o_9 o_10, kx_a t_o cyI 160 o_11] := hD.sub [0, 1, 5, 2, 3, 4, 6] (by decide) rfl
            exact ih1 x_15 so o_9 o_10 o_11 aw (om_34 LP1_h0 i_15) (om_mu hn1 (om_5 i_15) (om_6 i_7)) _ _ hP hD hS ls (lv_sub hl [0, 1, 2, 3, 4, 5] rfl)
          · have i_14 : y_13.toInt ≤ i.toInt := kc_nlt c_14
            refine lv_aload_n hx hb dX4_slideWindow_78 rfl (lv_at hl 2 rfl) ?_
            refine lv_iload_n hx hb dX4_slideWindow_79 rfl (lv_at hl 3 rfl) ?_
            refine lv_iload_n hx hb dX4_slideWindow_80 rfl (lv_at hl 4 rfl) ?_
            refine lv_iload_n hx hb dX4_slideWindow_81 rfl (lv_at hl 5 rfl) ?_
            obtain ⟨hPc, hDc, hFc, hCc⟩ := kx_pre (wc := [kx_4 m_ q_row q_t t_ h0 k0 w_ z_ slots old, kx_0 q_row q_cell len, kx_a q_cell cyI 160 f, kx_1 t_ t_k t_o o_9 o_10, kx_a t_k cyI 160 o_2, kx_a t_o cyI 160 o_11, kx_a w_ cyI 160 aw]) hP hD hS hA [0, 2, 3, 4, 5, 6, 1] (by decide) rfl
            have hKc := hK
            refine va_calli (va_runV (As := [.int p0, .int p1, .int p2]) (rest := []) ⟨hx, hb, hml, hown, hts⟩ (kx_un (c_X4_creditHeavy l dC dI m_ q_row q_t t_ h0 k0 w_ z_ slots old q_cell cyI len f t_k t_o o_9 o_10 o_2 o_11 aw p0 p1 p2 H.size a0 a1)) (cwV 3 hts gX4_slideWindow_X4_creditHeavy rfl rfl rfl (by decide +kernel) ⟨Nat.le_of_ble_eq_true rfl, Nat.le_of_ble_eq_true rfl⟩) ⟨fun a U g mk q => by obtain ⟨q0, q1, qP, qK, qD⟩ := q; exact ⟨q0, q1, qP, va_K.moved (u := U) (U := U.calling g mk a) (Vm.Alike.refl U.vm) qK, qD⟩, kx_rc4 hKc hPc (q0 := 0) rfl, fun U hU hW => ⟨rfl, by rw [hU], by rw [hU]; exact hPc, va_K.moved hW.alike hKc, hDc.weaken (fun _ _ _ _ => trivial)⟩⟩ rfl rfl hl.1 rfl (lv_room (Nat.le_of_ble_eq_true rfl)) dX4_slideWindow_82 ⟨Nat.le_of_ble_eq_true rfl, Nat.le_of_ble_eq_true rfl⟩) hS (fun q _ h => hFc q h) hFc (fun r_16 u t H1 locs ht hvm w_16 hB hz1 hk1 hS => ?_)
            obtain ⟨o_17, rfl⟩ : ∃ z, z = u := ⟨_, rfl⟩
            obtain ⟨hP1, hK1, hD1⟩ := hB
            rw [ht] at hP1
            have hK1 := va_K.moved hvm.symm hK1
            obtain ⟨hP, hD⟩ := kx_join (w2 := [kx_4 m_ q_row q_t t_ h0 k0 w_ z_ slots old, kx_0 q_row q_cell len, kx_a q_cell cyI 160 f, kx_1 t_ t_k t_o o_9 o_10, kx_a t_k cyI 160 o_2, kx_a t_o cyI 160 o_11, kx_a w_ cyI 160 o_17]) hP hD hP1 hD1 hk1 hFc [0, 2, 3, 4, 5, 6, 1] [] hCc rfl (by decide) (by decide)
            clear hP1 hD1 hK1 hk1 hz1 hFc hDc hPc hKc hCc
            generalize H1 = H at hP hS ⊢
            have w_16 : r_16 = 1 ∨ r_16 = 0 := w_16
            refine lv_if_eq (tgt := 91) hx hb dX4_slideWindow_85 (by decide) (fun c_18 => ?_) (fun c_18 => ?_)
            · have i_18 : r_16.toInt = 0 := kc_eq c_18
              obtain ⟨x_19, ex_19⟩ : ∃ y : Int32, y = i + 1 := ⟨_, rfl⟩
              have i_19 : x_19.toInt = i.toInt + 1 := ki_add ex_19 rfl rfl (om_13 LP1_h0) (om_3 a1 i_7)
              refine lv_iinc (v := x_19) (lv' := [(5, .int x_19), (4, .int so), (0, .ref m_), (1, .int p0), (2, .int p1), (3, .int p2)]) hx hb dX4_slideWindow_91 hl (k := 0) rfl (by rw [ex_19]; rfl) (by decide) rfl (fun ls hl => ?_)
              refine lv_goto (tgt := 32) hx hb dX4_slideWindow_94 (by decide) ?_
              have hP : va_P (dC, dI) vwCl [kx_4 m_ q_row q_t t_ h0 k0 w_ z_ slots old, kx_a w_ cyI 160 o_17, kx_a t_k cyI 160 o_2, kx_0 q_row q_cell len, kx_a q_cell cyI 160 f, kx_1 t_ t_k t_o o_9 o_10, kx_a t_o cyI 160 o_11] _ := hP.sub [0, 6, 4, 1, 2, 3, 5] rfl
              have hD : va_D A [kx_4 m_ q_row q_t t_ h0 k0 w_ z_ slots old, kx_a w_ cyI 160 o_17, kx_a t_k cyI 160 o_2, kx_0 q_row q_cell len, kx_a q_cell cyI 160 f, kx_1 t_ t_k t_o o_9 o_10, kx_a t_o cyI 160 o_11] := hD.sub [0, 6, 4, 1, 2, 3, 5] (by decide) rfl
              exact ih1 x_19 so o_9 o_10 o_11 o_17 (om_34 LP1_h0 i_19) (om_mu hn1 (om_5 i_19) (om_6 i_7)) _ _ hP hD hS ls (lv_sub hl [0, 1, 2, 3, 4, 5] rfl)
            · have i_18 : ¬ r_16.toInt = 0 := kc_ne c_18
              obtain ⟨x_20, ex_20⟩ : ∃ y : Int32, y = so + 1 := ⟨_, rfl⟩
              refine lv_iinc (v := x_20) (lv' := [(4, .int x_20), (5, .int i), (0, .ref m_), (1, .int p0), (2, .int p1), (3, .int p2)]) hx hb dX4_slideWindow_88 hl (k := 1) rfl (by rw [ex_20]; rfl) (by decide) rfl (fun ls hl => ?_)
              obtain ⟨x_21, ex_21⟩ : ∃ y : Int32, y = i + 1 := ⟨_, rfl⟩
              have i_21 : x_21.toInt = i.toInt + 1 := ki_add ex_21 rfl rfl (om_13 LP1_h0) (om_3 a1 i_7)
              refine lv_iinc (v := x_21) (lv' := [(5, .int x_21), (4, .int x_20), (0, .ref m_), (1, .int p0), (2, .int p1), (3, .int p2)]) hx hb dX4_slideWindow_91 hl (k := 1) rfl (by rw [ex_21]; rfl) (by decide) rfl (fun ls hl => ?_)
              refine lv_goto (tgt := 32) hx hb dX4_slideWindow_94 (by decide) ?_
              have hP : va_P (dC, dI) vwCl [kx_4 m_ q_row q_t t_ h0 k0 w_ z_ slots old, kx_a w_ cyI 160 o_17, kx_a t_k cyI 160 o_2, kx_0 q_row q_cell len, kx_a q_cell cyI 160 f, kx_1 t_ t_k t_o o_9 o_10, kx_a t_o cyI 160 o_11] _ := hP.sub [0, 6, 4, 1, 2, 3, 5] rfl
              have hD : va_D A [kx_4 m_ q_row q_t t_ h0 k0 w_ z_ slots old, kx_a w_ cyI 160 o_17, kx_a t_k cyI 160 o_2, kx_0 q_row q_cell len, kx_a q_cell cyI 160 f, kx_1 t_ t_k t_o o_9 o_10, kx_a t_o cyI 160 o_11] := hD.sub [0, 6, 4, 1, 2, 3, 5] (by decide) rfl
              exact ih1 x_21 x_20 o_9 o_10 o_11 o_17 (om_34 LP1_h0 i_21) (om_mu hn1 (om_5 i_21) (om_6 i_7)) _ _ hP hD hS ls (lv_sub hl [0, 1, 2, 3, 4, 5] rfl)
        · have i_12 : p0.toInt ≤ i.toInt := kc_nlt c_12
          refine lv_aload_n hx hb dX4_slideWindow_59 rfl (lv_at hl 2 rfl) ?_
          refine va_get (D := (dC, dI)) (ci := 4) (v := .ref t_) (C := RX4) (T := TX4) (N := 9) hx hb hts hi_4 hown hK hP 0 rfl rfl 2 (by decide) hf_28 (fun _ h9 => h9) rfl dX4_slideWindow_60 ?_
          refine lv_iload hx hb dX4_slideWindow_63 (lv_at hl 0 rfl) ?_
          refine lv_iload_n hx hb dX4_slideWindow_65 rfl (lv_at hl 3 rfl) ?_
          refine lv_isub hx hb dX4_slideWindow_66 ?_
          refine lv_topi (fun y_22 ey_22 => ?_)
          have i_22 : y_22.toInt = i.toInt - p0.toInt := ki_sub ey_22 rfl rfl (om_184 i_12) (om_185 a1 b0 i_7)
          obtain ⟨hPc, hDc, hFc, hCc⟩ := kx_preM (wc := [kx_1 t_ t_k t_o o_9 o_10, kx_a t_k cyI 160 o_2, kx_a t_o cyI 160 o_11]) hP hD hS hA [false, false, false, false, true, true, true] rfl
          have hKc := hK
          refine va_callv (va_runV (As := [.int y_22]) (rest := []) ⟨hx, hb, hml, hown, hts⟩ (kx_un (c_X1_drop l dC dI t_ t_k t_o cyI o_9 o_10 o_2 o_11 len.toInt y_22 H.size w_1 (om_186 i_12 i_22) (om_187 b0 i_7 i_22) a1)) (cwV 1 hts gX4_slideWindow_X1_drop rfl rfl rfl (by decide +kernel) ⟨Nat.le_of_ble_eq_true rfl, Nat.le_of_ble_eq_true rfl⟩) ⟨fun a U g mk q => by obtain ⟨q0, q1, qP, qK, qD⟩ := q; exact ⟨q0, q1, qP, va_K.moved (u := U) (U := U.calling g mk a) (Vm.Alike.refl U.vm) qK, qD⟩, kx_rc1 hKc hPc (q0 := 0) rfl, fun U hU hW => ⟨rfl, by rw [hU], by rw [hU]; exact hPc, va_K.moved hW.alike hKc, hDc.weaken (fun _ _ _ _ => trivial)⟩⟩ rfl rfl hl.1 rfl (lv_room (Nat.le_of_ble_eq_true rfl)) dX4_slideWindow_67 ⟨Nat.le_of_ble_eq_true rfl, Nat.le_of_ble_eq_true rfl⟩) hS (fun q _ h => hFc q h) hFc (fun u t H1 locs ht hvm w_23 hB hz1 hk1 hS => ?_)
          obtain ⟨o_24, o_25⟩ := u
          dsimp only at w_23 hB
          obtain ⟨hP1, hK1, hD1⟩ := hB
          rw [ht] at hP1
          have hK1 := va_K.moved hvm.symm hK1
          obtain ⟨hP, hD⟩ := kx_joinM (w2 := [kx_4 m_ q_row q_t t_ h0 k0 w_ z_ slots old, kx_a w_ cyI 160 aw, kx_0 q_row q_cell len, kx_a q_cell cyI 160 f, kx_1 t_ t_k t_o o_24 o_10, kx_a t_k cyI 160 o_2, kx_a t_o cyI 160 o_25]) hP hD hP1 hD1 hk1 hFc [false, false, false, false, true, true, true] hCc rfl
          clear hP1 hD1 hK1 hk1 hz1 hFc hDc hPc hKc hCc
          generalize H1 = H at hP hS ⊢
          have w_23 : True := w_23
          refine lv_iload hx hb dX4_slideWindow_70 (lv_at hl 0 rfl) ?_
          refine lv_iload_n hx hb dX4_slideWindow_72 rfl (lv_at hl 3 rfl) ?_
          refine lv_iconst (v := 1) hx hb dX4_slideWindow_73 (by decide) ?_
          refine lv_isub hx hb dX4_slideWindow_74 ?_
          refine lv_topi (fun y_26 ey_26 => ?_)
          have i_26 : y_26.toInt = p0.toInt - 1 := ki_sub ey_26 rfl rfl (om_182 b0) (om_183 a1 b1)
          refine lv_icmp_lt (tgt := 91) hx hb dX4_slideWindow_75 (by decide) (fun c_27 => ?_) (fun c_27 => ?_)
          · have i_27 : i.toInt < y_26.toInt := kc_lt c_27
            exfalso; omega
          · have i_27 : y_26.toInt ≤ i.toInt := kc_nlt c_27
            refine lv_aload_n hx hb dX4_slideWindow_78 rfl (lv_at hl 2 rfl) ?_
            refine lv_iload_n hx hb dX4_slideWindow_79 rfl (lv_at hl 3 rfl) ?_
            refine lv_iload_n hx hb dX4_slideWindow_80 rfl (lv_at hl 4 rfl) ?_
            refine lv_iload_n hx hb dX4_slideWindow_81 rfl (lv_at hl 5 rfl) ?_
            obtain ⟨hPc, hDc, hFc, hCc⟩ := kx_pre (wc := [kx_4 m_ q_row q_t t_ h0 k0 w_ z_ slots old, kx_0 q_row q_cell len, kx_a q_cell cyI 160 f, kx_1 t_ t_k t_o o_24 o_10, kx_a t_k cyI 160 o_2, kx_a t_o cyI 160 o_25, kx_a w_ cyI 160 aw]) hP hD hS hA [0, 2, 3, 4, 5, 6, 1] (by decide) rfl
            have hKc := hK
            refine va_calli (va_runV (As := [.int p0, .int p1, .int p2]) (rest := []) ⟨hx, hb, hml, hown, hts⟩ (kx_un (c_X4_creditHeavy l dC dI m_ q_row q_t t_ h0 k0 w_ z_ slots old q_cell cyI len f t_k t_o o_24 o_10 o_2 o_25 aw p0 p1 p2 H.size a0 a1)) (cwV 3 hts gX4_slideWindow_X4_creditHeavy rfl rfl rfl (by decide +kernel) ⟨Nat.le_of_ble_eq_true rfl, Nat.le_of_ble_eq_true rfl⟩) ⟨fun a U g mk q => by obtain ⟨q0, q1, qP, qK, qD⟩ := q; exact ⟨q0, q1, qP, va_K.moved (u := U) (U := U.calling g mk a) (Vm.Alike.refl U.vm) qK, qD⟩, kx_rc4 hKc hPc (q0 := 0) rfl, fun U hU hW => ⟨rfl, by rw [hU], by rw [hU]; exact hPc, va_K.moved hW.alike hKc, hDc.weaken (fun _ _ _ _ => trivial)⟩⟩ rfl rfl hl.1 rfl (lv_room (Nat.le_of_ble_eq_true rfl)) dX4_slideWindow_82 ⟨Nat.le_of_ble_eq_true rfl, Nat.le_of_ble_eq_true rfl⟩) hS (fun q _ h => hFc q h) hFc (fun r_28 u t H1 locs ht hvm w_28 hB hz1 hk1 hS => ?_)
            obtain ⟨o_29, rfl⟩ : ∃ z, z = u := ⟨_, rfl⟩
            obtain ⟨hP1, hK1, hD1⟩ := hB
            rw [ht] at hP1
            have hK1 := va_K.moved hvm.symm hK1
            obtain ⟨hP, hD⟩ := kx_join (w2 := [kx_4 m_ q_row q_t t_ h0 k0 w_ z_ slots old, kx_0 q_row q_cell len, kx_a q_cell cyI 160 f, kx_1 t_ t_k t_o o_24 o_10, kx_a t_k cyI 160 o_2, kx_a t_o cyI 160 o_25, kx_a w_ cyI 160 o_29]) hP hD hP1 hD1 hk1 hFc [0, 2, 3, 4, 5, 6, 1] [] hCc rfl (by decide) (by decide)
            clear hP1 hD1 hK1 hk1 hz1 hFc hDc hPc hKc hCc
            generalize H1 = H at hP hS ⊢
            have w_28 : r_28 = 1 ∨ r_28 = 0 := w_28
            refine lv_if_eq (tgt := 91) hx hb dX4_slideWindow_85 (by decide) (fun c_30 => ?_) (fun c_30 => ?_)
            · have i_30 : r_28.toInt = 0 := kc_eq c_30
              obtain ⟨x_31, ex_31⟩ : ∃ y : Int32, y = i + 1 := ⟨_, rfl⟩
              have i_31 : x_31.toInt = i.toInt + 1 := ki_add ex_31 rfl rfl (om_13 LP1_h0) (om_3 a1 i_7)
              refine lv_iinc (v := x_31) (lv' := [(5, .int x_31), (4, .int so), (0, .ref m_), (1, .int p0), (2, .int p1), (3, .int p2)]) hx hb dX4_slideWindow_91 hl (k := 0) rfl (by rw [ex_31]; rfl) (by decide) rfl (fun ls hl => ?_)
              refine lv_goto (tgt := 32) hx hb dX4_slideWindow_94 (by decide) ?_
              have hP : va_P (dC, dI) vwCl [kx_4 m_ q_row q_t t_ h0 k0 w_ z_ slots old, kx_a w_ cyI 160 o_29, kx_a t_k cyI 160 o_2, kx_0 q_row q_cell len, kx_a q_cell cyI 160 f, kx_1 t_ t_k t_o o_24 o_10, kx_a t_o cyI 160 o_25] _ := hP.sub [0, 6, 4, 1, 2, 3, 5] rfl
              have hD : va_D A [kx_4 m_ q_row q_t t_ h0 k0 w_ z_ slots old, kx_a w_ cyI 160 o_29, kx_a t_k cyI 160 o_2, kx_0 q_row q_cell len, kx_a q_cell cyI 160 f, kx_1 t_ t_k t_o o_24 o_10, kx_a t_o cyI 160 o_25] := hD.sub [0, 6, 4, 1, 2, 3, 5] (by decide) rfl
              exact ih1 x_31 so o_24 o_10 o_25 o_29 (om_34 LP1_h0 i_31) (om_mu hn1 (om_5 i_31) (om_6 i_7)) _ _ hP hD hS ls (lv_sub hl [0, 1, 2, 3, 4, 5] rfl)
            · have i_30 : ¬ r_28.toInt = 0 := kc_ne c_30
              obtain ⟨x_32, ex_32⟩ : ∃ y : Int32, y = so + 1 := ⟨_, rfl⟩
              refine lv_iinc (v := x_32) (lv' := [(4, .int x_32), (5, .int i), (0, .ref m_), (1, .int p0), (2, .int p1), (3, .int p2)]) hx hb dX4_slideWindow_88 hl (k := 1) rfl (by rw [ex_32]; rfl) (by decide) rfl (fun ls hl => ?_)
              obtain ⟨x_33, ex_33⟩ : ∃ y : Int32, y = i + 1 := ⟨_, rfl⟩
              have i_33 : x_33.toInt = i.toInt + 1 := ki_add ex_33 rfl rfl (om_13 LP1_h0) (om_3 a1 i_7)
              refine lv_iinc (v := x_33) (lv' := [(5, .int x_33), (4, .int x_32), (0, .ref m_), (1, .int p0), (2, .int p1), (3, .int p2)]) hx hb dX4_slideWindow_91 hl (k := 1) rfl (by rw [ex_33]; rfl) (by decide) rfl (fun ls hl => ?_)
              refine lv_goto (tgt := 32) hx hb dX4_slideWindow_94 (by decide) ?_
              have hP : va_P (dC, dI) vwCl [kx_4 m_ q_row q_t t_ h0 k0 w_ z_ slots old, kx_a w_ cyI 160 o_29, kx_a t_k cyI 160 o_2, kx_0 q_row q_cell len, kx_a q_cell cyI 160 f, kx_1 t_ t_k t_o o_24 o_10, kx_a t_o cyI 160 o_25] _ := hP.sub [0, 6, 4, 1, 2, 3, 5] rfl
              have hD : va_D A [kx_4 m_ q_row q_t t_ h0 k0 w_ z_ slots old, kx_a w_ cyI 160 o_29, kx_a t_k cyI 160 o_2, kx_0 q_row q_cell len, kx_a q_cell cyI 160 f, kx_1 t_ t_k t_o o_24 o_10, kx_a t_o cyI 160 o_25] := hD.sub [0, 6, 4, 1, 2, 3, 5] (by decide) rfl
              exact ih1 x_33 x_32 o_24 o_10 o_25 o_29 (om_34 LP1_h0 i_33) (om_mu hn1 (om_5 i_33) (om_6 i_7)) _ _ hP hD hS ls (lv_sub hl [0, 1, 2, 3, 4, 5] rfl)
  have k_34 : (0 : Int32).toInt = 0 := rfl
  have k_35 : (0 : Int32).toInt = 0 := rfl
  have k_36 : (0 : Int32).toInt = 0 := rfl
  have k_37 : (0 : Int32).toInt = 0 := rfl
  exact LP1 ((len.toInt - 0 : Int).toNat + 1) 0 0 0 0 o_4 o_6 om_35 (Nat.lt_succ_self _) _ _ hP hD hS ls (lv_sub hl [0, 1, 2, 3, 4, 5] rfl)

set_option maxHeartbeats 4000000 in
set_option maxRecDepth 100000 in
theorem c_X4_windows (l : Launch) (dC : Nat → ClassId) (dI : Nat → Nat → Nat) (m_ : Nat) (q_row : Nat) (q_t : Nat) (t_ : Nat) (h0 : Nat) (k0 : Nat) (w_ : Nat) (z_ : Nat) (slots : Int32) (old : Int32) (q_cell : Nat) (cyI : ClassId) (len : Int32) (f : Nat → Int32) (t_k : Nat) (t_o : Nat) (tk : Int32) (mo : Int32) (fk : Nat → Int32) (fq : Nat → Int32) (fw : Nat → Int32) (p0 : Int32) (p1 : Int32) (p2 : Int32) (p3 : Int32) (sz : Nat) (a0 : 0 ≤ len.toInt) (a1 : len.toInt ≤ 160) : kx_MQ l (dC, dI) yX4_windows wsX4_windows ({ frames := 3, cells := 0, slots := 0, locals := 135 }) [.ref m_, .int p0, .int p1, .int p2, .int p3] [kx_4 m_ q_row q_t t_ h0 k0 w_ z_ slots old, kx_0 q_row q_cell len, kx_a q_cell cyI 160 f, kx_1 t_ t_k t_o tk mo, kx_a t_k cyI 160 fk, kx_a t_o cyI 160 fq, kx_a w_ cyI 160 fw] [(cyI, .int)] sz (fun A => va_Qi (fun (r : Int32) (u : Int32 × Int32 × (Nat → Int32) × (Nat → Int32) × (Nat → Int32)) => True) (fun (u : Int32 × Int32 × (Nat → Int32) × (Nat → Int32) × (Nat → Int32)) (t : State) => va_P (dC, dI) vwCl [kx_4 m_ q_row q_t t_ h0 k0 w_ z_ slots old, kx_0 q_row q_cell len, kx_a q_cell cyI 160 f, kx_1 t_ t_k t_o u.1 u.2.1, kx_a t_k cyI 160 u.2.2.1, kx_a t_o cyI 160 u.2.2.2.1, kx_a w_ cyI 160 u.2.2.2.2] t.heap ∧ va_K (dC, dI) vwCl [(cyI, .int)] t ∧ va_D A [kx_4 m_ q_row q_t t_ h0 k0 w_ z_ slots old, kx_0 q_row q_cell len, kx_a q_cell cyI 160 f, kx_1 t_ t_k t_o u.1 u.2.1, kx_a t_k cyI 160 u.2.2.1, kx_a t_o cyI 160 u.2.2.2.1, kx_a w_ cyI 160 u.2.2.2.2]) A) := by
  refine kx_stQ (ws := wsX4_windows) (cc := cX4_windows) (maxL := 7) (ret := (some .int)) (by decide) rfl (Nat.le_of_ble_eq_true rfl) ?_
  intro p e s m below meth c A ls hx hb hr hlocks hts hown hml hA hS hP hK hD hl
  have hown : s.vm.findClass RX4 = some m.cls := hown
  have hl : lv_has ls 7 [(0, .ref m_), (1, .int p0), (2, .int p1), (3, .int p2), (4, .int p3)] := hl
  have hk_102 := hts (.constant RX4 102 (-40000)) (List.mem_of_getElem? (i := 3) rfl)
  have hf_12 := hts (.fieldLink RX4 12 "MajorityIndex" "row" "LMajorityIndex$Row;") (List.mem_of_getElem? (i := 1) rfl)
  have hi_4 : ∀ w ∈ u_ws RX4 TX4 9, w ∈ wsX4_windows := fun w h => List.mem_cons_of_mem _ (List.mem_append_left _ (List.mem_append_left _ (List.mem_append_right _ h)))
  have hf_57 := hts (.fieldLink RX4 57 "MajorityIndex$Row" "length" "I") (List.mem_of_getElem? (i := 2) rfl)
  have hi_0 : ∀ w ∈ u_ws RX0 TX0 2, w ∈ wsX4_windows := fun w h => List.mem_cons_of_mem _ (List.mem_append_left _ (List.mem_append_right _ h))
  have hf_42 := hts (.fieldLink RX4 42 "MajorityIndex" "wins" "[I") (List.mem_of_getElem? (i := 5) rfl)
  have hf_110 := hts (.fieldLink RX4 110 "MajorityIndex$Row" "cell" "[I") (List.mem_of_getElem? (i := 4) rfl)
  refine lv_iload hx hb dX4_windows_0 (lv_at hl 4 rfl) ?_
  refine lv_if_lt (tgt := 11) hx hb dX4_windows_2 (by decide) (fun c_1 => ?_) (fun c_1 => ?_)
  · have i_1 : p3.toInt < 0 := kc_lt c_1
    refine lv_iconst (v := (-1)) hx hb dX4_windows_11 (by decide) ?_
    have hP9 := hP
    have hD9 := hD
    have hK9 := hK
    exact W.iret (v := (-1)) hx hb hr (hlocks := hlocks) (fun t ht hW => ⟨⟨(-1), (tk, mo, fk, fq, fw), rfl, trivial, by rw [ht]; exact hP9, va_K.moved hW.alike hK9, hD9⟩, hS.F ht⟩) hS.2.2 dX4_windows_12
  · have i_1 : 0 ≤ p3.toInt := kc_nlt c_1
    refine lv_iload hx hb dX4_windows_5 (lv_at hl 4 rfl) ?_
    refine lv_iconst (v := 2) hx hb dX4_windows_7 (by decide) ?_
    refine lv_icmp_le (tgt := 13) hx hb dX4_windows_8 (by decide) (fun c_2 => ?_) (fun c_2 => ?_)
    · have i_2 : p3.toInt ≤ 2 := kc_le c_2
      refine lv_iload_n hx hb dX4_windows_13 rfl (lv_at hl 1 rfl) ?_
      refine lv_iconst (v := 1) hx hb dX4_windows_14 (by decide) ?_
      refine lv_icmp_lt (tgt := 37) hx hb dX4_windows_15 (by decide) (fun c_3 => ?_) (fun c_3 => ?_)
      · have i_3 : p0.toInt < 1 := kc_lt c_3
        refine lv_iload hx hb dX4_windows_37 (lv_at hl 4 rfl) ?_
        refine lv_iconst (v := 1) hx hb dX4_windows_39 (by decide) ?_
        refine lv_icmp_ne (tgt := 48) hx hb dX4_windows_40 (by decide) (fun c_4 => ?_) (fun c_4 => ?_)
        · have i_4 : ¬ p3.toInt = 1 := kc_ne c_4
          refine lv_iconst (v := (-1)) hx hb dX4_windows_48 (by decide) ?_
          have hP9 := hP
          have hD9 := hD
          have hK9 := hK
          exact W.iret (v := (-1)) hx hb hr (hlocks := hlocks) (fun t ht hW => ⟨⟨(-1), (tk, mo, fk, fq, fw), rfl, trivial, by rw [ht]; exact hP9, va_K.moved hW.alike hK9, hD9⟩, hS.F ht⟩) hS.2.2 dX4_windows_49
        · have i_4 : p3.toInt = 1 := kc_eq c_4
          refine lv_ldc (v := (-40000)) hx hb hown hk_102 dX4_windows_43 ?_
          refine lv_goto (tgt := 49) hx hb dX4_windows_45 (by decide) ?_
          have hP9 := hP
          have hD9 := hD
          have hK9 := hK
          exact W.iret (v := (-40000)) hx hb hr (hlocks := hlocks) (fun t ht hW => ⟨⟨(-40000), (tk, mo, fk, fq, fw), rfl, trivial, by rw [ht]; exact hP9, va_K.moved hW.alike hK9, hD9⟩, hS.F ht⟩) hS.2.2 dX4_windows_49
      · have i_3 : 1 ≤ p0.toInt := kc_nlt c_3
        refine lv_iload_n hx hb dX4_windows_18 rfl (lv_at hl 1 rfl) ?_
        refine lv_aload_n hx hb dX4_windows_19 rfl (lv_at hl 0 rfl) ?_
        refine va_get (D := (dC, dI)) (ci := 4) (v := .ref q_row) (C := RX4) (T := TX4) (N := 9) hx hb hts hi_4 hown hK hP 0 rfl rfl 0 (by decide) hf_12 (fun _ h9 => h9) rfl dX4_windows_20 ?_
        refine va_get (D := (dC, dI)) (ci := 0) (v := .int len) (C := RX0) (T := TX0) (N := 2) hx hb hts hi_0 hown hK hP 1 rfl rfl 1 (by decide) hf_57 (fun _ h9 => h9) rfl dX4_windows_23 ?_
        refine lv_icmp_gt (tgt := 37) hx hb dX4_windows_26 (by decide) (fun c_5 => ?_) (fun c_5 => ?_)
        · have i_5 : len.toInt < p0.toInt := kc_lt c_5
          refine lv_iload hx hb dX4_windows_37 (lv_at hl 4 rfl) ?_
          refine lv_iconst (v := 1) hx hb dX4_windows_39 (by decide) ?_
          refine lv_icmp_ne (tgt := 48) hx hb dX4_windows_40 (by decide) (fun c_6 => ?_) (fun c_6 => ?_)
          · have i_6 : ¬ p3.toInt = 1 := kc_ne c_6
            refine lv_iconst (v := (-1)) hx hb dX4_windows_48 (by decide) ?_
            have hP9 := hP
            have hD9 := hD
            have hK9 := hK
            exact W.iret (v := (-1)) hx hb hr (hlocks := hlocks) (fun t ht hW => ⟨⟨(-1), (tk, mo, fk, fq, fw), rfl, trivial, by rw [ht]; exact hP9, va_K.moved hW.alike hK9, hD9⟩, hS.F ht⟩) hS.2.2 dX4_windows_49
          · have i_6 : p3.toInt = 1 := kc_eq c_6
            refine lv_ldc (v := (-40000)) hx hb hown hk_102 dX4_windows_43 ?_
            refine lv_goto (tgt := 49) hx hb dX4_windows_45 (by decide) ?_
            have hP9 := hP
            have hD9 := hD
            have hK9 := hK
            exact W.iret (v := (-40000)) hx hb hr (hlocks := hlocks) (fun t ht hW => ⟨⟨(-40000), (tk, mo, fk, fq, fw), rfl, trivial, by rw [ht]; exact hP9, va_K.moved hW.alike hK9, hD9⟩, hS.F ht⟩) hS.2.2 dX4_windows_49
        · have i_5 : p0.toInt ≤ len.toInt := kc_nlt c_5
          refine lv_iload_n hx hb dX4_windows_29 rfl (lv_at hl 2 rfl) ?_
          refine lv_iload_n hx hb dX4_windows_30 rfl (lv_at hl 3 rfl) ?_
          have hPc := hP.sub (ws' := []) [] rfl
          have hKc := hK.sub (tys' := []) [] rfl
          refine vp_callSi (W.runS (As := [.int p1, .int p2]) (rest := []) ⟨hx, hb, hml, hown, hts⟩ (c_X4_isShare l dC dI p1 p2) (va_cwS 2 hts gX4_windows_X4_isShare rfl rfl rfl (by decide +kernel) ⟨Nat.le_of_ble_eq_true rfl, Nat.le_of_ble_eq_true rfl⟩) ⟨fun a U g mk q => by obtain ⟨q0, qP, qK⟩ := q; exact ⟨q0, qP, va_K.moved (u := U) (U := U.calling g mk a) (Vm.Alike.refl U.vm) qK⟩, fun U hU hW => ⟨rfl, by rw [hU]; exact hPc, va_K.moved hW.alike hKc⟩⟩ rfl rfl hl.1 rfl (lv_room (Nat.le_of_ble_eq_true rfl)) dX4_windows_31 ⟨Nat.le_of_ble_eq_true rfl, Nat.le_of_ble_eq_true rfl⟩) (fun r_7 w_7 => ?_)
          rcases w_7 with ⟨rfl, w_7⟩ | ⟨rfl, w_7⟩
          · have w_7 : (1 ≤ p1.toInt ∧ p1.toInt ≤ p2.toInt ∧ p2.toInt ≤ 999) := w_7
            refine lv_if_ne (tgt := 50) hx hb dX4_windows_34 (by decide) (fun c_8 => ?_) (fun c_8 => ?_)
            · refine lv_aload_n hx hb dX4_windows_50 rfl (lv_at hl 0 rfl) ?_
              refine lv_iload_n hx hb dX4_windows_51 rfl (lv_at hl 1 rfl) ?_
              refine lv_iload_n hx hb dX4_windows_52 rfl (lv_at hl 2 rfl) ?_
              refine lv_iload_n hx hb dX4_windows_53 rfl (lv_at hl 3 rfl) ?_
              have hPc := hP
              have hKc := hK
              have hDc := hD
              have hFc := kx_free hD hS hA
              refine va_calli (va_runV (As := [.int p0, .int p1, .int p2]) (rest := []) ⟨hx, hb, hml, hown, hts⟩ (kx_un (c_X4_slideWindow l dC dI m_ q_row q_t t_ h0 k0 w_ z_ slots old q_cell cyI len f t_k t_o tk mo fk fq fw p0 p1 p2 s.heap.size a0 a1 i_3 i_5)) (cwV 3 hts gX4_windows_X4_slideWindow rfl rfl rfl (by decide +kernel) ⟨Nat.le_of_ble_eq_true rfl, Nat.le_of_ble_eq_true rfl⟩) ⟨fun a U g mk q => by obtain ⟨q0, q1, qP, qK, qD⟩ := q; exact ⟨q0, q1, qP, va_K.moved (u := U) (U := U.calling g mk a) (Vm.Alike.refl U.vm) qK, qD⟩, kx_rc4 hKc hPc (q0 := 0) rfl, fun U hU hW => ⟨rfl, by rw [hU], by rw [hU]; exact hPc, va_K.moved hW.alike hKc, hDc.weaken (fun _ _ _ _ => trivial)⟩⟩ rfl rfl hl.1 rfl (lv_room (Nat.le_of_ble_eq_true rfl)) dX4_windows_54 ⟨Nat.le_of_ble_eq_true rfl, Nat.le_of_ble_eq_true rfl⟩) hS (fun q _ h => hFc q h) hFc (fun r_9 u t H1 locs ht hvm w_9 hB hz1 hk1 hS => ?_)
              obtain ⟨o_10, o_11, o_12, o_13, o_14⟩ := u
              dsimp only at w_9 hB
              obtain ⟨hP1, hK1, hD1⟩ := hB
              rw [ht] at hP1
              have hK1 := va_K.moved hvm.symm hK1
              have hD := hD1.weaken (fun _ q _ h => hFc q.1 h)
              have hP := hP1
              clear hP1 hD1 hK1 hk1 hz1 hFc hDc hPc hKc
              generalize H1 = H at hP hS ⊢
              have w_9 : True := w_9
              refine lv_istore (lv' := [(5, .int r_9), (0, .ref m_), (1, .int p0), (2, .int p1), (3, .int p2), (4, .int p3)]) hx hb dX4_windows_57 hl (by decide) rfl (fun ls hl => ?_)
              refine lv_iload hx hb dX4_windows_59 (lv_at hl 5 rfl) ?_
              refine lv_if_ne (tgt := 67) hx hb dX4_windows_61 (by decide) (fun c_15 => ?_) (fun c_15 => ?_)
              · have i_15 : ¬ p3.toInt = 0 := kc_ne c_15
                refine lv_aload_n hx hb dX4_windows_67 rfl (lv_at hl 1 rfl) ?_
                have hPc := hP.sub (ws' := [kx_4 m_ q_row q_t t_ h0 k0 w_ z_ slots old, kx_0 q_row q_cell len, kx_a q_cell cyI 160 f, kx_a w_ cyI 160 o_14]) [0, 1, 2, 6] rfl
                have hKc := hK
                refine vp_callSi (W.runV (As := []) (rest := []) ⟨hx, hb, hml, hown, hts⟩ (c_X4_kindOfMostWins l dC dI m_ q_row q_t t_ h0 k0 w_ z_ slots old q_cell cyI len f o_14 a0 a1) (cwV 0 hts gX4_windows_X4_kindOfMostWins rfl rfl rfl (by decide +kernel) ⟨Nat.le_of_ble_eq_true rfl, Nat.le_of_ble_eq_true rfl⟩) ⟨fun a U g mk q => by obtain ⟨q0, qP, qK⟩ := q; exact ⟨q0, qP, va_K.moved (u := U) (U := U.calling g mk a) (Vm.Alike.refl U.vm) qK⟩, kx_rc4 hKc hPc (q0 := 0) rfl, fun U hU hW => ⟨rfl, by rw [hU]; exact hPc, va_K.moved hW.alike hKc⟩⟩ rfl rfl hl.1 rfl (lv_room (Nat.le_of_ble_eq_true rfl)) dX4_windows_68 ⟨Nat.le_of_ble_eq_true rfl, Nat.le_of_ble_eq_true rfl⟩) (fun r_16 w_16 => ?_)
                have w_16 : (r_16.toInt = -1 ∨ (0 ≤ r_16.toInt ∧ r_16.toInt < len.toInt)) := w_16
                refine lv_istore (lv' := [(6, .int r_16), (5, .int r_9), (0, .ref m_), (1, .int p0), (2, .int p1), (3, .int p2), (4, .int p3)]) hx hb dX4_windows_71 hl (by decide) rfl (fun ls hl => ?_)
                refine lv_iload hx hb dX4_windows_73 (lv_at hl 0 rfl) ?_
                refine lv_iconst (v := (-1)) hx hb dX4_windows_75 (by decide) ?_
                refine lv_icmp_ne (tgt := 92) hx hb dX4_windows_76 (by decide) (fun c_17 => ?_) (fun c_17 => ?_)
                · have i_17 : ¬ r_16.toInt = (-1) := kc_ne c_17
                  refine lv_iload hx hb dX4_windows_92 (lv_at hl 6 rfl) ?_
                  refine lv_iconst (v := 1) hx hb dX4_windows_94 (by decide) ?_
                  refine lv_icmp_ne (tgt := 111) hx hb dX4_windows_95 (by decide) (fun c_18 => ?_) (fun c_18 => ?_)
                  · have i_18 : ¬ p3.toInt = 1 := kc_ne c_18
                    refine lv_aload_n hx hb dX4_windows_111 rfl (lv_at hl 2 rfl) ?_
                    refine va_get (D := (dC, dI)) (ci := 4) (v := .ref w_) (C := RX4) (T := TX4) (N := 9) hx hb hts hi_4 hown hK hP 0 rfl rfl 5 (by decide) hf_42 (fun _ h9 => h9) rfl dX4_windows_112 ?_
                    refine lv_iload hx hb dX4_windows_115 (lv_at hl 0 rfl) ?_
                    refine va_iald hx hb hK hP 6 0 rfl rfl (ki_in (by omega) (by omega)) dX4_windows_117 ?_
                    refine lv_topi (fun y_19 ey_19 => ?_)
                    have j_19 : y_19.toInt = (o_14 r_16.toNatClampNeg).toInt := congrArg Int32.toInt ey_19
                    have hP9 := hP
                    have hD9 := hD
                    have hK9 := hK
                    exact W.iret (v := y_19) hx hb hr (hlocks := hlocks) (fun t ht hW => ⟨⟨y_19, (o_10, o_11, o_12, o_13, o_14), rfl, trivial, by rw [ht]; exact hP9, va_K.moved hW.alike hK9, hD9⟩, hS.F ht⟩) hS.2.2 dX4_windows_118
                  · have i_18 : p3.toInt = 1 := kc_eq c_18
                    refine lv_aload_n hx hb dX4_windows_98 rfl (lv_at hl 2 rfl) ?_
                    refine va_get (D := (dC, dI)) (ci := 4) (v := .ref q_row) (C := RX4) (T := TX4) (N := 9) hx hb hts hi_4 hown hK hP 0 rfl rfl 0 (by decide) hf_12 (fun _ h9 => h9) rfl dX4_windows_99 ?_
                    refine va_get (D := (dC, dI)) (ci := 0) (v := .ref q_cell) (C := RX0) (T := TX0) (N := 2) hx hb hts hi_0 hown hK hP 1 rfl rfl 0 (by decide) hf_110 (fun _ h9 => h9) rfl dX4_windows_102 ?_
                    refine lv_iload hx hb dX4_windows_105 (lv_at hl 0 rfl) ?_
                    refine va_iald hx hb hK hP 2 0 rfl rfl (ki_in (by omega) (by omega)) dX4_windows_107 ?_
                    refine lv_topi (fun y_20 ey_20 => ?_)
                    have j_20 : y_20.toInt = (f r_16.toNatClampNeg).toInt := congrArg Int32.toInt ey_20
                    refine lv_goto (tgt := 118) hx hb dX4_windows_108 (by decide) ?_
                    have hP9 := hP
                    have hD9 := hD
                    have hK9 := hK
                    exact W.iret (v := y_20) hx hb hr (hlocks := hlocks) (fun t ht hW => ⟨⟨y_20, (o_10, o_11, o_12, o_13, o_14), rfl, trivial, by rw [ht]; exact hP9, va_K.moved hW.alike hK9, hD9⟩, hS.F ht⟩) hS.2.2 dX4_windows_118
                · have i_17 : r_16.toInt = (-1) := kc_eq c_17
                  refine lv_iload hx hb dX4_windows_79 (lv_at hl 6 rfl) ?_
                  refine lv_iconst (v := 1) hx hb dX4_windows_81 (by decide) ?_
                  refine lv_icmp_ne (tgt := 90) hx hb dX4_windows_82 (by decide) (fun c_21 => ?_) (fun c_21 => ?_)
                  · have i_21 : ¬ p3.toInt = 1 := kc_ne c_21
                    refine lv_iconst (v := 0) hx hb dX4_windows_90 (by decide) ?_
                    have hP9 := hP
                    have hD9 := hD
                    have hK9 := hK
                    exact W.iret (v := 0) hx hb hr (hlocks := hlocks) (fun t ht hW => ⟨⟨0, (o_10, o_11, o_12, o_13, o_14), rfl, trivial, by rw [ht]; exact hP9, va_K.moved hW.alike hK9, hD9⟩, hS.F ht⟩) hS.2.2 dX4_windows_91
                  · have i_21 : p3.toInt = 1 := kc_eq c_21
                    refine lv_ldc (v := (-40000)) hx hb hown hk_102 dX4_windows_85 ?_
                    refine lv_goto (tgt := 91) hx hb dX4_windows_87 (by decide) ?_
                    have hP9 := hP
                    have hD9 := hD
                    have hK9 := hK
                    exact W.iret (v := (-40000)) hx hb hr (hlocks := hlocks) (fun t ht hW => ⟨⟨(-40000), (o_10, o_11, o_12, o_13, o_14), rfl, trivial, by rw [ht]; exact hP9, va_K.moved hW.alike hK9, hD9⟩, hS.F ht⟩) hS.2.2 dX4_windows_91
              · have i_15 : p3.toInt = 0 := kc_eq c_15
                refine lv_iload hx hb dX4_windows_64 (lv_at hl 0 rfl) ?_
                have hP9 := hP
                have hD9 := hD
                have hK9 := hK
                exact W.iret (v := r_9) hx hb hr (hlocks := hlocks) (fun t ht hW => ⟨⟨r_9, (o_10, o_11, o_12, o_13, o_14), rfl, trivial, by rw [ht]; exact hP9, va_K.moved hW.alike hK9, hD9⟩, hS.F ht⟩) hS.2.2 dX4_windows_66
            · exact absurd c_8 (by decide)
          · have w_7 : (p1.toInt < 1 ∨ p2.toInt < p1.toInt ∨ 999 < p2.toInt) := w_7
            refine lv_if_ne (tgt := 50) hx hb dX4_windows_34 (by decide) (fun c_22 => ?_) (fun c_22 => ?_)
            · exact absurd c_22 (by decide)
            · refine lv_iload hx hb dX4_windows_37 (lv_at hl 4 rfl) ?_
              refine lv_iconst (v := 1) hx hb dX4_windows_39 (by decide) ?_
              refine lv_icmp_ne (tgt := 48) hx hb dX4_windows_40 (by decide) (fun c_23 => ?_) (fun c_23 => ?_)
              · have i_23 : ¬ p3.toInt = 1 := kc_ne c_23
                refine lv_iconst (v := (-1)) hx hb dX4_windows_48 (by decide) ?_
                have hP9 := hP
                have hD9 := hD
                have hK9 := hK
                exact W.iret (v := (-1)) hx hb hr (hlocks := hlocks) (fun t ht hW => ⟨⟨(-1), (tk, mo, fk, fq, fw), rfl, trivial, by rw [ht]; exact hP9, va_K.moved hW.alike hK9, hD9⟩, hS.F ht⟩) hS.2.2 dX4_windows_49
              · have i_23 : p3.toInt = 1 := kc_eq c_23
                refine lv_ldc (v := (-40000)) hx hb hown hk_102 dX4_windows_43 ?_
                refine lv_goto (tgt := 49) hx hb dX4_windows_45 (by decide) ?_
                have hP9 := hP
                have hD9 := hD
                have hK9 := hK
                exact W.iret (v := (-40000)) hx hb hr (hlocks := hlocks) (fun t ht hW => ⟨⟨(-40000), (tk, mo, fk, fq, fw), rfl, trivial, by rw [ht]; exact hP9, va_K.moved hW.alike hK9, hD9⟩, hS.F ht⟩) hS.2.2 dX4_windows_49
    · have i_2 : 2 < p3.toInt := kc_nle c_2
      refine lv_iconst (v := (-1)) hx hb dX4_windows_11 (by decide) ?_
      have hP9 := hP
      have hD9 := hD
      have hK9 := hK
      exact W.iret (v := (-1)) hx hb hr (hlocks := hlocks) (fun t ht hW => ⟨⟨(-1), (tk, mo, fk, fq, fw), rfl, trivial, by rw [ht]; exact hP9, va_K.moved hW.alike hK9, hD9⟩, hS.F ht⟩) hS.2.2 dX4_windows_12


