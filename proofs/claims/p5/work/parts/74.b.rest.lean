set_option maxHeartbeats 4000000 in
set_option maxRecDepth 100000 in
theorem c_X4_heavyValues (l : Launch) (dC : Nat → ClassId) (dI : Nat → Nat → Nat) (m_ : Nat) (q_row : Nat) (q_t : Nat) (t_ : Nat) (h0 : Nat) (k0 : Nat) (w_ : Nat) (z_ : Nat) (slots : Int32) (old : Int32) (q_cell : Nat) (cyI : ClassId) (len : Int32) (f : Nat → Int32) (p0 : Int32) (p1 : Int32) (p2 : Int32) (p3 : Int32) (a0 : 0 ≤ len.toInt) (a1 : len.toInt ≤ 160) (d0 : 0 ≤ p0.toInt) (d1 : p1.toInt ≤ 160) : Met l yX4_heavyValues wsX4_heavyValues ({ frames := 1, cells := 0, slots := 0, locals := 45 }) (va_Pc [.ref m_, .int p0, .int p1, .int p2, .int p3] (fun U => va_P (dC, dI) vwCl [kx_4 m_ q_row q_t t_ h0 k0 w_ z_ slots old, kx_0 q_row q_cell len, kx_a q_cell cyI 160 f] U.heap ∧ va_K (dC, dI) vwCl [(cyI, .int)] U)) (vp_Si (fun r : Int32 => True)) 0 0 (fun _ => False) := by
  refine Met.ofW (cc := cX4_heavyValues) (maxL := 8) (ret := (some .int)) (by decide) rfl ?_
  intro p e s m args below meth c s₁ B hml hv
  obtain ⟨rfl, hP, hK⟩ := hv
  have hx := B.exec
  have hb := B.bytes
  have hr := B.returns
  have hts := atoms_spec (ws := wsX4_heavyValues) B.pre
  have hown : s.vm.findClass RX4 = some m.cls := findClass_of_methodNamed B.named
  have hlocks := B.notSynchronized
  have hP : va_P (dC, dI) vwCl [kx_4 m_ q_row q_t t_ h0 k0 w_ z_ slots old, kx_0 q_row q_cell len, kx_a q_cell cyI 160 f] s.heap := hP
  have hl := lv_entry ([.ref m_, .int p0, .int p1, .int p2, .int p3]) (n := 8) (Nat.le_of_ble_eq_true rfl)
  rw [lg_entry_eq]
  generalize (lg_sl ([.ref m_, .int p0, .int p1, .int p2, .int p3]) ++ List.replicate (8 - (lg_sl ([.ref m_, .int p0, .int p1, .int p2, .int p3])).length) Slot.unset).toArray = ls at hl ⊢
  have hl : lv_has ls 8 [(0, .ref m_), (1, .int p0), (2, .int p1), (3, .int p2), (4, .int p3)] := hl
  have hf_12 := hts (.fieldLink RX4 12 "MajorityIndex" "row" "LMajorityIndex$Row;") (List.mem_of_getElem? (i := 1) rfl)
  have hi_4 : ∀ w ∈ u_ws RX4 TX4 9, w ∈ wsX4_heavyValues := fun w h => List.mem_cons_of_mem _ (List.mem_append_left _ (List.mem_append_right _ h))
  have hf_110 := hts (.fieldLink RX4 110 "MajorityIndex$Row" "cell" "[I") (List.mem_of_getElem? (i := 2) rfl)
  have hi_0 : ∀ w ∈ u_ws RX0 TX0 2, w ∈ wsX4_heavyValues := fun w h => List.mem_cons_of_mem _ (List.mem_append_right _ h)
  refine lv_iconst (v := 0) hx hb dX4_heavyValues_0 (by decide) ?_
  refine lv_istore (lv' := [(5, .int 0), (0, .ref m_), (1, .int p0), (2, .int p1), (3, .int p2), (4, .int p3)]) hx hb dX4_heavyValues_1 hl (by decide) rfl (fun ls hl => ?_)
  refine lv_iload_n hx hb dX4_heavyValues_3 rfl (lv_at hl 2 rfl) ?_
  refine lv_istore (lv' := [(6, .int p0), (5, .int 0), (0, .ref m_), (1, .int p0), (2, .int p1), (3, .int p2), (4, .int p3)]) hx hb dX4_heavyValues_4 hl (by decide) rfl (fun ls hl => ?_)
  have LP1 : ∀ (n : Nat) (i : Int32) (many : Int32), (p0.toInt ≤ i.toInt) → (p1.toInt - i.toInt).toNat < n → ∀ (ls : Array Slot), lv_has ls 8 [(6, .int i), (5, .int many), (0, .ref m_), (1, .int p0), (2, .int p1), (3, .int p2), (4, .int p3)] → W p l e (headSpec wsX4_heavyValues ({ frames := 1, cells := 0, slots := 0, locals := 45 })).room s m ([.ref m_, .int p0, .int p1, .int p2, .int p3] : List Value).toArray below meth c s.heap [] 0 0 (MQ below (vp_Si (fun r : Int32 => True)) ([.ref m_, .int p0, .int p1, .int p2, .int p3] : List Value).toArray s 0 0 (fun _ => False)) (F0 m 6 ls []) := by
    intro n
    induction n with
    | zero => intro i many LP1_h0 hn; exact absurd hn (Nat.not_lt_zero _)
    | succ n ih1 =>
      intro i many LP1_h0 hn1 ls hl
      refine lv_iload hx hb dX4_heavyValues_6 (lv_at hl 0 rfl) ?_
      refine lv_iload_n hx hb dX4_heavyValues_8 rfl (lv_at hl 4 rfl) ?_
      refine lv_icmp_ge (tgt := 72) hx hb dX4_heavyValues_9 (by decide) (fun c_1 => ?_) (fun c_1 => ?_)
      · have i_1 : p1.toInt ≤ i.toInt := kc_le c_1
        refine lv_iload hx hb dX4_heavyValues_72 (lv_at hl 1 rfl) ?_
        exact W.iret (v := many) hx hb hr (fun t ht hW => ⟨many, rfl, trivial, ht⟩) (fun q hq => by cases hq) dX4_heavyValues_74
      · have i_1 : i.toInt < p1.toInt := kc_nle c_1
        refine lv_aload_n hx hb dX4_heavyValues_12 rfl (lv_at hl 2 rfl) ?_
        refine va_get (D := (dC, dI)) (ci := 4) (v := .ref q_row) (C := RX4) (T := TX4) (N := 9) hx hb hts hi_4 hown hK hP 0 rfl rfl 0 (by decide) hf_12 (fun _ h9 => h9) rfl dX4_heavyValues_13 ?_
        refine va_get (D := (dC, dI)) (ci := 0) (v := .ref q_cell) (C := RX0) (T := TX0) (N := 2) hx hb hts hi_0 hown hK hP 1 rfl rfl 0 (by decide) hf_110 (fun _ h9 => h9) rfl dX4_heavyValues_16 ?_
        refine lv_iload hx hb dX4_heavyValues_19 (lv_at hl 0 rfl) ?_
        refine va_iald hx hb hK hP 2 0 rfl rfl (ki_in (om_0 d0 LP1_h0) (om_1 d1 i_1)) dX4_heavyValues_21 ?_
        refine lv_topi (fun y_2 ey_2 => ?_)
        have j_2 : y_2.toInt = (f i.toNatClampNeg).toInt := congrArg Int32.toInt ey_2
        refine lv_istore (lv' := [(7, .int y_2), (6, .int i), (5, .int many), (0, .ref m_), (1, .int p0), (2, .int p1), (3, .int p2), (4, .int p3)]) hx hb dX4_heavyValues_22 hl (by decide) rfl (fun ls hl => ?_)
        refine lv_aload_n hx hb dX4_heavyValues_24 rfl (lv_at hl 3 rfl) ?_
        refine va_get (D := (dC, dI)) (ci := 4) (v := .ref q_row) (C := RX4) (T := TX4) (N := 9) hx hb hts hi_4 hown hK hP 0 rfl rfl 0 (by decide) hf_12 (fun _ h9 => h9) rfl dX4_heavyValues_25 ?_
        refine lv_iload hx hb dX4_heavyValues_28 (lv_at hl 0 rfl) ?_
        refine lv_iload_n hx hb dX4_heavyValues_30 rfl (lv_at hl 4 rfl) ?_
        refine lv_iload hx hb dX4_heavyValues_31 (lv_at hl 1 rfl) ?_
        have hPc := hP.sub (ws' := [kx_0 q_row q_cell len, kx_a q_cell cyI 160 f]) [1, 2] rfl
        have hKc := hK
        refine vp_callSi (W.runV (As := [.int y_2, .int p0, .int i]) (rest := []) ⟨hx, hb, hml, hown, hts⟩ (c_X0_oftenIn l dC dI q_row q_cell cyI len f y_2 p0 i d0 (om_137 d1 i_1)) (cwV 3 hts gX4_heavyValues_X0_oftenIn rfl rfl rfl (by decide +kernel) ⟨Nat.le_of_ble_eq_true rfl, Nat.le_of_ble_eq_true rfl⟩) ⟨fun a U g mk q => by obtain ⟨q0, qP, qK⟩ := q; exact ⟨q0, qP, va_K.moved (u := U) (U := U.calling g mk a) (Vm.Alike.refl U.vm) qK⟩, va_recv hKc hPc (ci := 0) (q0 := 0) rfl rfl, fun U hU hW => ⟨rfl, by rw [hU]; exact hPc, va_K.moved hW.alike hKc⟩⟩ rfl rfl hl.1 rfl (lv_room (Nat.le_of_ble_eq_true rfl)) dX4_heavyValues_33 ⟨Nat.le_of_ble_eq_true rfl, Nat.le_of_ble_eq_true rfl⟩) (fun r_3 w_3 => ?_)
        have w_3 : r_3.toInt = (cnt f y_2 p0.toNatClampNeg (i.toInt - p0.toInt).toNat : Int) := w_3
        refine lv_if_ne (tgt := 66) hx hb dX4_heavyValues_36 (by decide) (fun c_4 => ?_) (fun c_4 => ?_)
        · have i_4 : ¬ r_3.toInt = 0 := kc_ne c_4
          obtain ⟨x_5, ex_5⟩ : ∃ y : Int32, y = i + 1 := ⟨_, rfl⟩
          have i_5 : x_5.toInt = i.toInt + 1 := ki_add ex_5 rfl rfl (om_2 d0 LP1_h0) (om_3 d1 i_1)
          refine lv_iinc (v := x_5) (lv' := [(6, .int x_5), (7, .int y_2), (5, .int many), (0, .ref m_), (1, .int p0), (2, .int p1), (3, .int p2), (4, .int p3)]) hx hb dX4_heavyValues_66 hl (k := 1) rfl (by rw [ex_5]; rfl) (by decide) rfl (fun ls hl => ?_)
          refine lv_goto (tgt := 6) hx hb dX4_heavyValues_69 (by decide) ?_
          exact ih1 x_5 many (om_4 LP1_h0 i_5) (om_mu hn1 (om_5 i_5) (om_6 i_1)) ls (lv_sub hl [0, 2, 3, 4, 5, 6, 7] rfl)
        · have i_4 : r_3.toInt = 0 := kc_eq c_4
          refine lv_aload_n hx hb dX4_heavyValues_39 rfl (lv_at hl 3 rfl) ?_
          refine va_get (D := (dC, dI)) (ci := 4) (v := .ref q_row) (C := RX4) (T := TX4) (N := 9) hx hb hts hi_4 hown hK hP 0 rfl rfl 0 (by decide) hf_12 (fun _ h9 => h9) rfl dX4_heavyValues_40 ?_
          refine lv_iload hx hb dX4_heavyValues_43 (lv_at hl 0 rfl) ?_
          refine lv_iload hx hb dX4_heavyValues_45 (lv_at hl 1 rfl) ?_
          refine lv_iload_n hx hb dX4_heavyValues_47 rfl (lv_at hl 5 rfl) ?_
          have hPc := hP.sub (ws' := [kx_0 q_row q_cell len, kx_a q_cell cyI 160 f]) [1, 2] rfl
          have hKc := hK
          refine vp_callSi (W.runV (As := [.int y_2, .int i, .int p1]) (rest := []) ⟨hx, hb, hml, hown, hts⟩ (c_X0_oftenIn l dC dI q_row q_cell cyI len f y_2 i p1 (om_0 d0 LP1_h0) d1) (cwV 3 hts gX4_heavyValues_X0_oftenIn rfl rfl rfl (by decide +kernel) ⟨Nat.le_of_ble_eq_true rfl, Nat.le_of_ble_eq_true rfl⟩) ⟨fun a U g mk q => by obtain ⟨q0, qP, qK⟩ := q; exact ⟨q0, qP, va_K.moved (u := U) (U := U.calling g mk a) (Vm.Alike.refl U.vm) qK⟩, va_recv hKc hPc (ci := 0) (q0 := 0) rfl rfl, fun U hU hW => ⟨rfl, by rw [hU]; exact hPc, va_K.moved hW.alike hKc⟩⟩ rfl rfl hl.1 rfl (lv_room (Nat.le_of_ble_eq_true rfl)) dX4_heavyValues_48 ⟨Nat.le_of_ble_eq_true rfl, Nat.le_of_ble_eq_true rfl⟩) (fun r_6 w_6 => ?_)
          have w_6 : r_6.toInt = (cnt f y_2 i.toNatClampNeg (p1.toInt - i.toInt).toNat : Int) := w_6
          refine lv_iload_n hx hb dX4_heavyValues_51 rfl (lv_at hl 5 rfl) ?_
          refine lv_iload_n hx hb dX4_heavyValues_52 rfl (lv_at hl 4 rfl) ?_
          refine lv_isub hx hb dX4_heavyValues_53 ?_
          refine lv_topi (fun y_7 ey_7 => ?_)
          refine lv_iload_n hx hb dX4_heavyValues_54 rfl (lv_at hl 6 rfl) ?_
          refine lv_iload hx hb dX4_heavyValues_55 (lv_at hl 7 rfl) ?_
          have hPc := hP.sub (ws' := []) [] rfl
          have hKc := hK.sub (tys' := []) [] rfl
          refine vp_callSi (W.runS (As := [.int r_6, .int y_7, .int p2, .int p3]) (rest := []) ⟨hx, hb, hml, hown, hts⟩ (c_X4_isHeavy l dC dI r_6 y_7 p2 p3) (va_cwS 4 hts gX4_heavyValues_X4_isHeavy rfl rfl rfl (by decide +kernel) ⟨Nat.le_of_ble_eq_true rfl, Nat.le_of_ble_eq_true rfl⟩) ⟨fun a U g mk q => by obtain ⟨q0, qP, qK⟩ := q; exact ⟨q0, qP, va_K.moved (u := U) (U := U.calling g mk a) (Vm.Alike.refl U.vm) qK⟩, fun U hU hW => ⟨rfl, by rw [hU]; exact hPc, va_K.moved hW.alike hKc⟩⟩ rfl rfl hl.1 rfl (lv_room (Nat.le_of_ble_eq_true rfl)) dX4_heavyValues_57 ⟨Nat.le_of_ble_eq_true rfl, Nat.le_of_ble_eq_true rfl⟩) (fun r_8 w_8 => ?_)
          rcases w_8 with ⟨rfl, w_8⟩ | ⟨rfl, w_8⟩
          · have w_8 : (0 : Int) ≤ 1 := w_8
            refine lv_if_eq (tgt := 66) hx hb dX4_heavyValues_60 (by decide) (fun c_9 => ?_) (fun c_9 => ?_)
            · exact absurd c_9 (by decide)
            · obtain ⟨x_10, ex_10⟩ : ∃ y : Int32, y = many + 1 := ⟨_, rfl⟩
              refine lv_iinc (v := x_10) (lv' := [(5, .int x_10), (7, .int y_2), (6, .int i), (0, .ref m_), (1, .int p0), (2, .int p1), (3, .int p2), (4, .int p3)]) hx hb dX4_heavyValues_63 hl (k := 2) rfl (by rw [ex_10]; rfl) (by decide) rfl (fun ls hl => ?_)
              obtain ⟨x_11, ex_11⟩ : ∃ y : Int32, y = i + 1 := ⟨_, rfl⟩
              have i_11 : x_11.toInt = i.toInt + 1 := ki_add ex_11 rfl rfl (om_2 d0 LP1_h0) (om_3 d1 i_1)
              refine lv_iinc (v := x_11) (lv' := [(6, .int x_11), (5, .int x_10), (7, .int y_2), (0, .ref m_), (1, .int p0), (2, .int p1), (3, .int p2), (4, .int p3)]) hx hb dX4_heavyValues_66 hl (k := 2) rfl (by rw [ex_11]; rfl) (by decide) rfl (fun ls hl => ?_)
              refine lv_goto (tgt := 6) hx hb dX4_heavyValues_69 (by decide) ?_
              exact ih1 x_11 x_10 (om_4 LP1_h0 i_11) (om_mu hn1 (om_5 i_11) (om_6 i_1)) ls (lv_sub hl [0, 1, 3, 4, 5, 6, 7] rfl)
          · have w_8 : (0 : Int) ≤ 1 := w_8
            refine lv_if_eq (tgt := 66) hx hb dX4_heavyValues_60 (by decide) (fun c_12 => ?_) (fun c_12 => ?_)
            · obtain ⟨x_13, ex_13⟩ : ∃ y : Int32, y = i + 1 := ⟨_, rfl⟩
              have i_13 : x_13.toInt = i.toInt + 1 := ki_add ex_13 rfl rfl (om_2 d0 LP1_h0) (om_3 d1 i_1)
              refine lv_iinc (v := x_13) (lv' := [(6, .int x_13), (7, .int y_2), (5, .int many), (0, .ref m_), (1, .int p0), (2, .int p1), (3, .int p2), (4, .int p3)]) hx hb dX4_heavyValues_66 hl (k := 1) rfl (by rw [ex_13]; rfl) (by decide) rfl (fun ls hl => ?_)
              refine lv_goto (tgt := 6) hx hb dX4_heavyValues_69 (by decide) ?_
              exact ih1 x_13 many (om_4 LP1_h0 i_13) (om_mu hn1 (om_5 i_13) (om_6 i_1)) ls (lv_sub hl [0, 2, 3, 4, 5, 6, 7] rfl)
            · exact absurd c_12 (by decide)
  have k_14 : (0 : Int32).toInt = 0 := rfl
  exact LP1 ((p1.toInt - p0.toInt : Int).toNat + 1) p0 0 om_7 (Nat.lt_succ_self _) ls (lv_sub hl [0, 1, 2, 3, 4, 5, 6] rfl)

set_option maxHeartbeats 4000000 in
set_option maxRecDepth 100000 in
theorem c_X4_refusalOfBoth (l : Launch) (dC : Nat → ClassId) (dI : Nat → Nat → Nat) (m_ : Nat) (q_row : Nat) (q_t : Nat) (t_ : Nat) (h0 : Nat) (k0 : Nat) (w_ : Nat) (z_ : Nat) (slots : Int32) (old : Int32) (q_cell : Nat) (cyI : ClassId) (len : Int32) (f : Nat → Int32) (p0 : Int32) (p1 : Int32) (p2 : Int32) (p3 : Int32) (p4 : Int32) (p5 : Int32) (a0 : 0 ≤ len.toInt) (a1 : len.toInt ≤ 160) : Met l yX4_refusalOfBoth wsX4_refusalOfBoth ({ frames := 1, cells := 0, slots := 0, locals := 45 }) (va_Pc [.ref m_, .int p0, .int p1, .int p2, .int p3, .int p4, .int p5] (fun U => va_P (dC, dI) vwCl [kx_4 m_ q_row q_t t_ h0 k0 w_ z_ slots old, kx_0 q_row q_cell len, kx_a q_cell cyI 160 f] U.heap ∧ va_K (dC, dI) vwCl [(cyI, .int)] U)) (vp_Si (fun r : Int32 => (r = 0 ∧ (0 ≤ p0.toInt ∧ p0.toInt < p1.toInt ∧ p1.toInt ≤ len.toInt ∧ 0 ≤ p2.toInt ∧ p2.toInt < p3.toInt ∧ p3.toInt ≤ len.toInt)) ∨ (r = (-1) ∧ (0 : Int) ≤ 1) ∨ (r = (-2) ∧ (0 : Int) ≤ 1) ∨ (r = (-3) ∧ (0 : Int) ≤ 1))) 0 0 (fun _ => False) := by
  refine Met.ofW (cc := cX4_refusalOfBoth) (maxL := 7) (ret := (some .int)) (by decide) rfl ?_
  intro p e s m args below meth c s₁ B hml hv
  obtain ⟨rfl, hP, hK⟩ := hv
  have hx := B.exec
  have hb := B.bytes
  have hr := B.returns
  have hts := atoms_spec (ws := wsX4_refusalOfBoth) B.pre
  have hown : s.vm.findClass RX4 = some m.cls := findClass_of_methodNamed B.named
  have hlocks := B.notSynchronized
  have hP : va_P (dC, dI) vwCl [kx_4 m_ q_row q_t t_ h0 k0 w_ z_ slots old, kx_0 q_row q_cell len, kx_a q_cell cyI 160 f] s.heap := hP
  have hl := lv_entry ([.ref m_, .int p0, .int p1, .int p2, .int p3, .int p4, .int p5]) (n := 7) (Nat.le_of_ble_eq_true rfl)
  rw [lg_entry_eq]
  generalize (lg_sl ([.ref m_, .int p0, .int p1, .int p2, .int p3, .int p4, .int p5]) ++ List.replicate (7 - (lg_sl ([.ref m_, .int p0, .int p1, .int p2, .int p3, .int p4, .int p5])).length) Slot.unset).toArray = ls at hl ⊢
  have hl : lv_has ls 7 [(0, .ref m_), (1, .int p0), (2, .int p1), (3, .int p2), (4, .int p3), (5, .int p4), (6, .int p5)] := hl
  have hf_12 := hts (.fieldLink RX4 12 "MajorityIndex" "row" "LMajorityIndex$Row;") (List.mem_of_getElem? (i := 1) rfl)
  have hi_4 : ∀ w ∈ u_ws RX4 TX4 9, w ∈ wsX4_refusalOfBoth := fun w h => List.mem_cons_of_mem _ (List.mem_append_left _ (List.mem_append_right _ h))
  refine lv_aload_n hx hb dX4_refusalOfBoth_0 rfl (lv_at hl 0 rfl) ?_
  refine va_get (D := (dC, dI)) (ci := 4) (v := .ref q_row) (C := RX4) (T := TX4) (N := 9) hx hb hts hi_4 hown hK hP 0 rfl rfl 0 (by decide) hf_12 (fun _ h9 => h9) rfl dX4_refusalOfBoth_1 ?_
  refine lv_iload_n hx hb dX4_refusalOfBoth_4 rfl (lv_at hl 1 rfl) ?_
  refine lv_iload_n hx hb dX4_refusalOfBoth_5 rfl (lv_at hl 2 rfl) ?_
  have hPc := hP.sub (ws' := [kx_0 q_row q_cell len]) [1] rfl
  have hKc := hK.sub (tys' := []) [] rfl
  refine vp_callSi (W.runV (As := [.int p0, .int p1]) (rest := []) ⟨hx, hb, hml, hown, hts⟩ (c_X0_hasRange l dC dI q_row q_cell len p0 p1) (cwV 2 hts gX4_refusalOfBoth_X0_hasRange rfl rfl rfl (by decide +kernel) ⟨Nat.le_of_ble_eq_true rfl, Nat.le_of_ble_eq_true rfl⟩) ⟨fun a U g mk q => by obtain ⟨q0, qP, qK⟩ := q; exact ⟨q0, qP, va_K.moved (u := U) (U := U.calling g mk a) (Vm.Alike.refl U.vm) qK⟩, va_recv hKc hPc (ci := 0) (q0 := 0) rfl rfl, fun U hU hW => ⟨rfl, by rw [hU]; exact hPc, va_K.moved hW.alike hKc⟩⟩ rfl rfl hl.1 rfl (lv_room (Nat.le_of_ble_eq_true rfl)) dX4_refusalOfBoth_6 ⟨Nat.le_of_ble_eq_true rfl, Nat.le_of_ble_eq_true rfl⟩) (fun r_1 w_1 => ?_)
  rcases w_1 with ⟨rfl, w_1⟩ | ⟨rfl, w_1⟩
  · have w_1 : (0 ≤ p0.toInt ∧ p0.toInt < p1.toInt ∧ p1.toInt ≤ len.toInt) := w_1
    refine lv_if_eq (tgt := 35) hx hb dX4_refusalOfBoth_9 (by decide) (fun c_2 => ?_) (fun c_2 => ?_)
    · exact absurd c_2 (by decide)
    · refine lv_aload_n hx hb dX4_refusalOfBoth_12 rfl (lv_at hl 0 rfl) ?_
      refine va_get (D := (dC, dI)) (ci := 4) (v := .ref q_row) (C := RX4) (T := TX4) (N := 9) hx hb hts hi_4 hown hK hP 0 rfl rfl 0 (by decide) hf_12 (fun _ h9 => h9) rfl dX4_refusalOfBoth_13 ?_
      refine lv_iload_n hx hb dX4_refusalOfBoth_16 rfl (lv_at hl 3 rfl) ?_
      refine lv_iload hx hb dX4_refusalOfBoth_17 (lv_at hl 4 rfl) ?_
      have hPc := hP.sub (ws' := [kx_0 q_row q_cell len]) [1] rfl
      have hKc := hK.sub (tys' := []) [] rfl
      refine vp_callSi (W.runV (As := [.int p2, .int p3]) (rest := []) ⟨hx, hb, hml, hown, hts⟩ (c_X0_hasRange l dC dI q_row q_cell len p2 p3) (cwV 2 hts gX4_refusalOfBoth_X0_hasRange rfl rfl rfl (by decide +kernel) ⟨Nat.le_of_ble_eq_true rfl, Nat.le_of_ble_eq_true rfl⟩) ⟨fun a U g mk q => by obtain ⟨q0, qP, qK⟩ := q; exact ⟨q0, qP, va_K.moved (u := U) (U := U.calling g mk a) (Vm.Alike.refl U.vm) qK⟩, va_recv hKc hPc (ci := 0) (q0 := 0) rfl rfl, fun U hU hW => ⟨rfl, by rw [hU]; exact hPc, va_K.moved hW.alike hKc⟩⟩ rfl rfl hl.1 rfl (lv_room (Nat.le_of_ble_eq_true rfl)) dX4_refusalOfBoth_19 ⟨Nat.le_of_ble_eq_true rfl, Nat.le_of_ble_eq_true rfl⟩) (fun r_3 w_3 => ?_)
      rcases w_3 with ⟨rfl, w_3⟩ | ⟨rfl, w_3⟩
      · have w_3 : (0 ≤ p2.toInt ∧ p2.toInt < p3.toInt ∧ p3.toInt ≤ len.toInt) := w_3
        refine lv_if_eq (tgt := 35) hx hb dX4_refusalOfBoth_22 (by decide) (fun c_4 => ?_) (fun c_4 => ?_)
        · exact absurd c_4 (by decide)
        · refine lv_iload hx hb dX4_refusalOfBoth_25 (lv_at hl 5 rfl) ?_
          refine lv_iload hx hb dX4_refusalOfBoth_27 (lv_at hl 6 rfl) ?_
          have hPc := hP.sub (ws' := []) [] rfl
          have hKc := hK.sub (tys' := []) [] rfl
          refine vp_callSi (W.runS (As := [.int p4, .int p5]) (rest := []) ⟨hx, hb, hml, hown, hts⟩ (c_X4_isShare l dC dI p4 p5) (va_cwS 2 hts gX4_refusalOfBoth_X4_isShare rfl rfl rfl (by decide +kernel) ⟨Nat.le_of_ble_eq_true rfl, Nat.le_of_ble_eq_true rfl⟩) ⟨fun a U g mk q => by obtain ⟨q0, qP, qK⟩ := q; exact ⟨q0, qP, va_K.moved (u := U) (U := U.calling g mk a) (Vm.Alike.refl U.vm) qK⟩, fun U hU hW => ⟨rfl, by rw [hU]; exact hPc, va_K.moved hW.alike hKc⟩⟩ rfl rfl hl.1 rfl (lv_room (Nat.le_of_ble_eq_true rfl)) dX4_refusalOfBoth_29 ⟨Nat.le_of_ble_eq_true rfl, Nat.le_of_ble_eq_true rfl⟩) (fun r_5 w_5 => ?_)
          rcases w_5 with ⟨rfl, w_5⟩ | ⟨rfl, w_5⟩
          · have w_5 : (1 ≤ p4.toInt ∧ p4.toInt ≤ p5.toInt ∧ p5.toInt ≤ 999) := w_5
            refine lv_if_ne (tgt := 37) hx hb dX4_refusalOfBoth_32 (by decide) (fun c_6 => ?_) (fun c_6 => ?_)
            · refine lv_aload_n hx hb dX4_refusalOfBoth_37 rfl (lv_at hl 0 rfl) ?_
              refine lv_iload hx hb dX4_refusalOfBoth_38 (lv_at hl 5 rfl) ?_
              refine lv_iload hx hb dX4_refusalOfBoth_40 (lv_at hl 6 rfl) ?_
              have hPc := hP.sub (ws' := [kx_4 m_ q_row q_t t_ h0 k0 w_ z_ slots old]) [0] rfl
              have hKc := hK.sub (tys' := []) [] rfl
              refine vp_callSi (W.runV (As := [.int p4, .int p5]) (rest := []) ⟨hx, hb, hml, hown, hts⟩ (c_X4_isEnough l dC dI m_ q_row q_t t_ h0 k0 w_ z_ slots old p4 p5) (cwV 2 hts gX4_refusalOfBoth_X4_isEnough rfl rfl rfl (by decide +kernel) ⟨Nat.le_of_ble_eq_true rfl, Nat.le_of_ble_eq_true rfl⟩) ⟨fun a U g mk q => by obtain ⟨q0, qP, qK⟩ := q; exact ⟨q0, qP, va_K.moved (u := U) (U := U.calling g mk a) (Vm.Alike.refl U.vm) qK⟩, va_recv hKc hPc (ci := 4) (q0 := 0) rfl rfl, fun U hU hW => ⟨rfl, by rw [hU]; exact hPc, va_K.moved hW.alike hKc⟩⟩ rfl rfl hl.1 rfl (lv_room (Nat.le_of_ble_eq_true rfl)) dX4_refusalOfBoth_42 ⟨Nat.le_of_ble_eq_true rfl, Nat.le_of_ble_eq_true rfl⟩) (fun r_7 w_7 => ?_)
              rcases w_7 with ⟨rfl, w_7⟩ | ⟨rfl, w_7⟩
              · have w_7 : (0 : Int) ≤ 1 := w_7
                refine lv_if_ne (tgt := 51) hx hb dX4_refusalOfBoth_45 (by decide) (fun c_8 => ?_) (fun c_8 => ?_)
                · refine lv_iload_n hx hb dX4_refusalOfBoth_51 rfl (lv_at hl 1 rfl) ?_
                  refine lv_iload hx hb dX4_refusalOfBoth_52 (lv_at hl 4 rfl) ?_
                  refine lv_icmp_ge (tgt := 67) hx hb dX4_refusalOfBoth_54 (by decide) (fun c_9 => ?_) (fun c_9 => ?_)
                  · have i_9 : p3.toInt ≤ p0.toInt := kc_le c_9
                    refine lv_iconst (v := 0) hx hb dX4_refusalOfBoth_67 (by decide) ?_
                    exact W.iret (v := 0) hx hb hr (fun t ht hW => ⟨0, rfl, Or.inl ⟨rfl, by omega⟩, ht⟩) (fun q hq => by cases hq) dX4_refusalOfBoth_68
                  · have i_9 : p0.toInt < p3.toInt := kc_nle c_9
                    refine lv_iload_n hx hb dX4_refusalOfBoth_57 rfl (lv_at hl 3 rfl) ?_
                    refine lv_iload_n hx hb dX4_refusalOfBoth_58 rfl (lv_at hl 2 rfl) ?_
                    refine lv_icmp_ge (tgt := 67) hx hb dX4_refusalOfBoth_59 (by decide) (fun c_10 => ?_) (fun c_10 => ?_)
                    · have i_10 : p1.toInt ≤ p2.toInt := kc_le c_10
                      refine lv_iconst (v := 0) hx hb dX4_refusalOfBoth_67 (by decide) ?_
                      exact W.iret (v := 0) hx hb hr (fun t ht hW => ⟨0, rfl, Or.inl ⟨rfl, by omega⟩, ht⟩) (fun q hq => by cases hq) dX4_refusalOfBoth_68
                    · have i_10 : p2.toInt < p1.toInt := kc_nle c_10
                      refine lv_bipush (v := (-3)) hx hb dX4_refusalOfBoth_62 (by decide) ?_
                      refine lv_goto (tgt := 68) hx hb dX4_refusalOfBoth_64 (by decide) ?_
                      exact W.iret (v := (-3)) hx hb hr (fun t ht hW => ⟨(-3), rfl, Or.inr (Or.inr (Or.inr (⟨rfl, by omega⟩))), ht⟩) (fun q hq => by cases hq) dX4_refusalOfBoth_68
                · exact absurd c_8 (by decide)
              · have w_7 : (0 : Int) ≤ 1 := w_7
                refine lv_if_ne (tgt := 51) hx hb dX4_refusalOfBoth_45 (by decide) (fun c_11 => ?_) (fun c_11 => ?_)
                · exact absurd c_11 (by decide)
                · refine lv_bipush (v := (-2)) hx hb dX4_refusalOfBoth_48 (by decide) ?_
                  exact W.iret (v := (-2)) hx hb hr (fun t ht hW => ⟨(-2), rfl, Or.inr (Or.inr (Or.inl ⟨rfl, by omega⟩)), ht⟩) (fun q hq => by cases hq) dX4_refusalOfBoth_50
            · exact absurd c_6 (by decide)
          · have w_5 : (p4.toInt < 1 ∨ p5.toInt < p4.toInt ∨ 999 < p5.toInt) := w_5
            refine lv_if_ne (tgt := 37) hx hb dX4_refusalOfBoth_32 (by decide) (fun c_12 => ?_) (fun c_12 => ?_)
            · exact absurd c_12 (by decide)
            · refine lv_iconst (v := (-1)) hx hb dX4_refusalOfBoth_35 (by decide) ?_
              exact W.iret (v := (-1)) hx hb hr (fun t ht hW => ⟨(-1), rfl, Or.inr (Or.inl ⟨rfl, by omega⟩), ht⟩) (fun q hq => by cases hq) dX4_refusalOfBoth_36
      · have w_3 : (p2.toInt < 0 ∨ p3.toInt ≤ p2.toInt ∨ len.toInt < p3.toInt) := w_3
        refine lv_if_eq (tgt := 35) hx hb dX4_refusalOfBoth_22 (by decide) (fun c_13 => ?_) (fun c_13 => ?_)
        · refine lv_iconst (v := (-1)) hx hb dX4_refusalOfBoth_35 (by decide) ?_
          exact W.iret (v := (-1)) hx hb hr (fun t ht hW => ⟨(-1), rfl, Or.inr (Or.inl ⟨rfl, by omega⟩), ht⟩) (fun q hq => by cases hq) dX4_refusalOfBoth_36
        · exact absurd c_13 (by decide)
  · have w_1 : (p0.toInt < 0 ∨ p1.toInt ≤ p0.toInt ∨ len.toInt < p1.toInt) := w_1
    refine lv_if_eq (tgt := 35) hx hb dX4_refusalOfBoth_9 (by decide) (fun c_14 => ?_) (fun c_14 => ?_)
    · refine lv_iconst (v := (-1)) hx hb dX4_refusalOfBoth_35 (by decide) ?_
      exact W.iret (v := (-1)) hx hb hr (fun t ht hW => ⟨(-1), rfl, Or.inr (Or.inl ⟨rfl, by omega⟩), ht⟩) (fun q hq => by cases hq) dX4_refusalOfBoth_36
    · exact absurd c_14 (by decide)

set_option maxHeartbeats 4000000 in
set_option maxRecDepth 100000 in
theorem c_X4_gatherHeavyOfBoth (l : Launch) (dC : Nat → ClassId) (dI : Nat → Nat → Nat) (m_ : Nat) (q_row : Nat) (q_t : Nat) (t_ : Nat) (h0 : Nat) (k0 : Nat) (w_ : Nat) (z_ : Nat) (slots : Int32) (old : Int32) (q_joined : Nat) (q_from : Nat) (q_to : Nat) (q_size : Nat) (q_lossOf : Nat) (q_lessBy : Nat) (q_value : Nat) (q_number : Nat) (nodes : Int32) (here : Int32) (q_cell : Nat) (cyI : ClassId) (len : Int32) (f : Nat → Int32) (ff : Nat → Int32) (ft : Nat → Int32) (fs : Nat → Int32) (fo : Nat → Int32) (uv : Nat → Int32) (un : Nat → Int32) (a_v : Nat) (a_n : Nat) (cyI : ClassId) (vs : Int32) (lo : Int32) (le : Int32) (fv : Nat → Int32) (fn : Nat → Int32) (kv : Nat) (kn : Nat) (sb : Int32) (lb : Int32) (eb : Int32) (gb : Nat → Int32) (nb : Nat → Int32) (p0 : Int32) (p1 : Int32) (p2 : Int32) (p3 : Int32) (p4 : Int32) (p5 : Int32) (sz : Nat) (b0 : 0 ≤ nodes.toInt) (c0 : nodes.toInt ≤ 319) (s0 : sixes fs) (d0 : 0 ≤ p0.toInt) (d1 : p1.toInt ≤ 160) (d2 : 0 ≤ p2.toInt) (d3 : p3.toInt ≤ 160) : Met l yX4_gatherHeavyOfBoth wsX4_gatherHeavyOfBoth ({ frames := 4, cells := 0, slots := 0, locals := 180 }) (va_Pc [.ref m_, .ref q_t, .int p0, .int p1, .int p2, .int p3, .int p4, .int p5] (fun U => U.heap.size = sz ∧ va_P (dC, dI) vwCl [kx_4 m_ q_row q_t t_ h0 k0 w_ z_ slots old, kx_0 q_row q_cell len, kx_a q_cell cyI 160 f, kx_2 q_t q_row q_joined q_from q_to q_size q_lossOf q_lessBy q_value q_number nodes here, kx_a q_from cyI 319 ff, kx_a q_to cyI 319 ft, kx_a q_size cyI 319 fs, kx_a q_lossOf cyI 319 fo, kx_a q_value cyI 1914 uv, kx_a q_number cyI 1914 un, kx_3 h0 a_v a_n vs lo le, kx_a a_v cyI 12 fv, kx_a a_n cyI 12 fn, kx_3 k0 kv kn sb lb eb, kx_a kv cyI 12 gb, kx_a kn cyI 12 nb] U.heap ∧ va_K (dC, dI) vwCl [(cyI, .int)] U ∧ va_D (fun _ => True) [kx_4 m_ q_row q_t t_ h0 k0 w_ z_ slots old, kx_0 q_row q_cell len, kx_a q_cell cyI 160 f, kx_2 q_t q_row q_joined q_from q_to q_size q_lossOf q_lessBy q_value q_number nodes here, kx_a q_from cyI 319 ff, kx_a q_to cyI 319 ft, kx_a q_size cyI 319 fs, kx_a q_lossOf cyI 319 fo, kx_a q_value cyI 1914 uv, kx_a q_number cyI 1914 un, kx_3 h0 a_v a_n vs lo le, kx_a a_v cyI 12 fv, kx_a a_n cyI 12 fn, kx_3 k0 kv kn sb lb eb, kx_a kv cyI 12 gb, kx_a kn cyI 12 nb] ∧ va_Nw (.methodLinkNest RX3 42 yX4_isHeavy RX4) U)) (va_Qv (fun u : Int32 × Int32 × Int32 × (Nat → Int32) × (Nat → Int32) × Int32 × Int32 × Int32 × (Nat → Int32) × (Nat → Int32) => 0 ≤ u.1.toInt ∧ u.1.toInt ≤ 12) (fun (u : Int32 × Int32 × Int32 × (Nat → Int32) × (Nat → Int32) × Int32 × Int32 × Int32 × (Nat → Int32) × (Nat → Int32)) (t : State) => va_P (dC, dI) vwCl [kx_4 m_ q_row q_t t_ h0 k0 w_ z_ slots old, kx_0 q_row q_cell len, kx_a q_cell cyI 160 f, kx_2 q_t q_row q_joined q_from q_to q_size q_lossOf q_lessBy q_value q_number nodes here, kx_a q_from cyI 319 ff, kx_a q_to cyI 319 ft, kx_a q_size cyI 319 fs, kx_a q_lossOf cyI 319 fo, kx_a q_value cyI 1914 uv, kx_a q_number cyI 1914 un, kx_3 h0 a_v a_n u.1 u.2.1 u.2.2.1, kx_a a_v cyI 12 u.2.2.2.1, kx_a a_n cyI 12 u.2.2.2.2.1, kx_3 k0 kv kn u.2.2.2.2.2.1 u.2.2.2.2.2.2.1 u.2.2.2.2.2.2.2.1, kx_a kv cyI 12 u.2.2.2.2.2.2.2.2.1, kx_a kn cyI 12 u.2.2.2.2.2.2.2.2.2] t.heap ∧ va_K (dC, dI) vwCl [(cyI, .int)] t ∧ va_D (va_A [kx_4 m_ q_row q_t t_ h0 k0 w_ z_ slots old, kx_0 q_row q_cell len, kx_a q_cell cyI 160 f, kx_2 q_t q_row q_joined q_from q_to q_size q_lossOf q_lessBy q_value q_number nodes here, kx_a q_from cyI 319 ff, kx_a q_to cyI 319 ft, kx_a q_size cyI 319 fs, kx_a q_lossOf cyI 319 fo, kx_a q_value cyI 1914 uv, kx_a q_number cyI 1914 un, kx_3 h0 a_v a_n vs lo le, kx_a a_v cyI 12 fv, kx_a a_n cyI 12 fn, kx_3 k0 kv kn sb lb eb, kx_a kv cyI 12 gb, kx_a kn cyI 12 nb] sz) [kx_4 m_ q_row q_t t_ h0 k0 w_ z_ slots old, kx_0 q_row q_cell len, kx_a q_cell cyI 160 f, kx_2 q_t q_row q_joined q_from q_to q_size q_lossOf q_lessBy q_value q_number nodes here, kx_a q_from cyI 319 ff, kx_a q_to cyI 319 ft, kx_a q_size cyI 319 fs, kx_a q_lossOf cyI 319 fo, kx_a q_value cyI 1914 uv, kx_a q_number cyI 1914 un, kx_3 h0 a_v a_n u.1 u.2.1 u.2.2.1, kx_a a_v cyI 12 u.2.2.2.1, kx_a a_n cyI 12 u.2.2.2.2.1, kx_3 k0 kv kn u.2.2.2.2.2.1 u.2.2.2.2.2.2.1 u.2.2.2.2.2.2.2.1, kx_a kv cyI 12 u.2.2.2.2.2.2.2.2.1, kx_a kn cyI 12 u.2.2.2.2.2.2.2.2.2]) (va_A [kx_4 m_ q_row q_t t_ h0 k0 w_ z_ slots old, kx_0 q_row q_cell len, kx_a q_cell cyI 160 f, kx_2 q_t q_row q_joined q_from q_to q_size q_lossOf q_lessBy q_value q_number nodes here, kx_a q_from cyI 319 ff, kx_a q_to cyI 319 ft, kx_a q_size cyI 319 fs, kx_a q_lossOf cyI 319 fo, kx_a q_value cyI 1914 uv, kx_a q_number cyI 1914 un, kx_3 h0 a_v a_n vs lo le, kx_a a_v cyI 12 fv, kx_a a_n cyI 12 fn, kx_3 k0 kv kn sb lb eb, kx_a kv cyI 12 gb, kx_a kn cyI 12 nb] sz)) 0 0 (va_A [kx_4 m_ q_row q_t t_ h0 k0 w_ z_ slots old, kx_0 q_row q_cell len, kx_a q_cell cyI 160 f, kx_2 q_t q_row q_joined q_from q_to q_size q_lossOf q_lessBy q_value q_number nodes here, kx_a q_from cyI 319 ff, kx_a q_to cyI 319 ft, kx_a q_size cyI 319 fs, kx_a q_lossOf cyI 319 fo, kx_a q_value cyI 1914 uv, kx_a q_number cyI 1914 un, kx_3 h0 a_v a_n vs lo le, kx_a a_v cyI 12 fv, kx_a a_n cyI 12 fn, kx_3 k0 kv kn sb lb eb, kx_a kv cyI 12 gb, kx_a kn cyI 12 nb] sz) := by
  refine Met.ofW (cc := cX4_gatherHeavyOfBoth) (maxL := 10) (ret := none) (by decide) rfl ?_
  intro p e s m args below meth c s₁ B hml hv
  obtain ⟨rfl, hsz, hP, hK, hD0, hN0⟩ := hv
  have hx := B.exec
  have hb := B.bytes
  have hr := B.returns
  have hts := atoms_spec (ws := wsX4_gatherHeavyOfBoth) B.pre
  have hown : s.vm.findClass RX4 = some m.cls := findClass_of_methodNamed B.named
  have hlocks := B.notSynchronized
  subst hsz
  have hD := hD0.self (sz := s.heap.size)
  generalize hAe : va_A [kx_4 m_ q_row q_t t_ h0 k0 w_ z_ slots old, kx_0 q_row q_cell len, kx_a q_cell cyI 160 f, kx_2 q_t q_row q_joined q_from q_to q_size q_lossOf q_lessBy q_value q_number nodes here, kx_a q_from cyI 319 ff, kx_a q_to cyI 319 ft, kx_a q_size cyI 319 fs, kx_a q_lossOf cyI 319 fo, kx_a q_value cyI 1914 uv, kx_a q_number cyI 1914 un, kx_3 h0 a_v a_n vs lo le, kx_a a_v cyI 12 fv, kx_a a_n cyI 12 fn, kx_3 k0 kv kn sb lb eb, kx_a kv cyI 12 gb, kx_a kn cyI 12 nb] s.heap.size = A at hD ⊢
  have hA : ∀ q : Nat, s.heap.size ≤ q → A q := fun q h => by rw [← hAe]; exact Or.inr h
  have hS : va_S A s.heap s.heap [] := va_S.rf
  have hP : va_P (dC, dI) vwCl [kx_4 m_ q_row q_t t_ h0 k0 w_ z_ slots old, kx_0 q_row q_cell len, kx_a q_cell cyI 160 f, kx_2 q_t q_row q_joined q_from q_to q_size q_lossOf q_lessBy q_value q_number nodes here, kx_a q_from cyI 319 ff, kx_a q_to cyI 319 ft, kx_a q_size cyI 319 fs, kx_a q_lossOf cyI 319 fo, kx_a q_value cyI 1914 uv, kx_a q_number cyI 1914 un, kx_3 h0 a_v a_n vs lo le, kx_a a_v cyI 12 fv, kx_a a_n cyI 12 fn, kx_3 k0 kv kn sb lb eb, kx_a kv cyI 12 gb, kx_a kn cyI 12 nb] s.heap := hP
  have hl := lv_entry ([.ref m_, .ref q_t, .int p0, .int p1, .int p2, .int p3, .int p4, .int p5]) (n := 10) (Nat.le_of_ble_eq_true rfl)
  rw [lg_entry_eq]
  generalize (lg_sl ([.ref m_, .ref q_t, .int p0, .int p1, .int p2, .int p3, .int p4, .int p5]) ++ List.replicate (10 - (lg_sl ([.ref m_, .ref q_t, .int p0, .int p1, .int p2, .int p3, .int p4, .int p5])).length) Slot.unset).toArray = ls at hl ⊢
  have hl : lv_has ls 10 [(0, .ref m_), (1, .ref q_t), (2, .int p0), (3, .int p1), (4, .int p2), (5, .int p3), (6, .int p4), (7, .int p5)] := hl
  have hf_35 := hts (.fieldLink RX4 35 "MajorityIndex" "votes" "LMajorityIndex$Votes;") (List.mem_of_getElem? (i := 1) rfl)
  have hi_4 : ∀ w ∈ u_ws RX4 TX4 9, w ∈ wsX4_gatherHeavyOfBoth := fun w h => List.mem_cons_of_mem _ (List.mem_append_left _ (List.mem_append_left _ (List.mem_append_left _ (List.mem_append_right _ h))))
  have hm_91 := hts (.methodLink RX4 91 Lib.Math.min.name) (List.mem_of_getElem? (i := 2) rfl)
  have hms_min := hts (.static Lib.Math.min.name) (List.mem_of_getElem? (i := 3) rfl)
  have hz_math := hts (.initialized "java/lang/Math") (List.mem_of_getElem? (i := 4) rfl)
  have hmc_min := hts (.code Lib.Math.min.name Lib.Math.min.code 2 (some .int)) (List.mem_of_getElem? (i := 5) rfl)
  have hf_39 := hts (.fieldLink RX4 39 "MajorityIndex" "otherVotes" "LMajorityIndex$Votes;") (List.mem_of_getElem? (i := 6) rfl)
  have hm_96 := hts (.methodLink RX4 96 Lib.Math.max.name) (List.mem_of_getElem? (i := 7) rfl)
  have hms_max := hts (.static Lib.Math.max.name) (List.mem_of_getElem? (i := 8) rfl)
  have hmc_max := hts (.code Lib.Math.max.name Lib.Math.max.code 2 (some .int)) (List.mem_of_getElem? (i := 9) rfl)
  have hf_49 := hts (.fieldLink RX4 49 "MajorityIndex" "slotsNow" "I") (List.mem_of_getElem? (i := 10) rfl)
  have hf_174 := hts (.fieldLink RX4 174 "MajorityIndex$Votes" "size" "I") (List.mem_of_getElem? (i := 11) rfl)
  have hi_3 : ∀ w ∈ u_ws RX3 TX3 5, w ∈ wsX4_gatherHeavyOfBoth := fun w h => List.mem_cons_of_mem _ (List.mem_append_left _ (List.mem_append_left _ (List.mem_append_right _ h)))
  have hf_133 := hts (.fieldLink RX4 133 "MajorityIndex$Votes" "value" "[I") (List.mem_of_getElem? (i := 12) rfl)
  have hf_136 := hts (.fieldLink RX4 136 "MajorityIndex$Votes" "number" "[I") (List.mem_of_getElem? (i := 13) rfl)
  have hf_12 := hts (.fieldLink RX4 12 "MajorityIndex" "row" "LMajorityIndex$Row;") (List.mem_of_getElem? (i := 14) rfl)
  refine lv_aload_n hx hb dX4_gatherHeavyOfBoth_0 rfl (lv_at hl 1 rfl) ?_
  refine lv_aload_n hx hb dX4_gatherHeavyOfBoth_1 rfl (lv_at hl 0 rfl) ?_
  refine va_get (D := (dC, dI)) (ci := 4) (v := .ref h0) (C := RX4) (T := TX4) (N := 9) hx hb hts hi_4 hown hK hP 0 rfl rfl 3 (by decide) hf_35 (fun _ h9 => h9) rfl dX4_gatherHeavyOfBoth_2 ?_
  refine lv_iload_n hx hb dX4_gatherHeavyOfBoth_5 rfl (lv_at hl 2 rfl) ?_
  refine lv_iload hx hb dX4_gatherHeavyOfBoth_6 (lv_at hl 4 rfl) ?_
  refine va_mmin hx hb (hml.trans hl.1.symm) hown hm_91 hms_min hz_math hmc_min (Nat.le_of_ble_eq_true rfl) (Nat.le_of_ble_eq_true rfl) (Nat.le_of_ble_eq_true rfl) (Nat.le_of_ble_eq_true rfl) dX4_gatherHeavyOfBoth_8 ?_
  refine lv_topi (fun y_1 ey_1 => ?_)
  have i_2 : (p0.toInt ≤ p2.toInt ∧ y_1.toInt = p0.toInt) ∨ (p2.toInt < p0.toInt ∧ y_1.toInt = p2.toInt) := ki_min ey_1 rfl rfl
  refine lv_iload_n hx hb dX4_gatherHeavyOfBoth_11 rfl (lv_at hl 2 rfl) ?_
  refine lv_iload hx hb dX4_gatherHeavyOfBoth_12 (lv_at hl 4 rfl) ?_
  refine lv_icmp_ge (tgt := 21) hx hb dX4_gatherHeavyOfBoth_14 (by decide) (fun c_3 => ?_) (fun c_3 => ?_)
  · have i_3 : p2.toInt ≤ p0.toInt := kc_le c_3
    refine lv_iload hx hb dX4_gatherHeavyOfBoth_21 (lv_at hl 5 rfl) ?_
    have hPc := hP.sub (ws' := [kx_2 q_t q_row q_joined q_from q_to q_size q_lossOf q_lessBy q_value q_number nodes here, kx_a q_from cyI 319 ff, kx_a q_to cyI 319 ft, kx_a q_size cyI 319 fs, kx_a q_lossOf cyI 319 fo, kx_a q_value cyI 1914 uv, kx_a q_number cyI 1914 un, kx_3 h0 a_v a_n vs lo le, kx_a a_v cyI 12 fv, kx_a a_n cyI 12 fn]) [3, 4, 5, 6, 7, 8, 9, 10, 11, 12] rfl
    have hKc := hK
    have hDc := hD.sub (ws' := [kx_2 q_t q_row q_joined q_from q_to q_size q_lossOf q_lessBy q_value q_number nodes here, kx_a q_from cyI 319 ff, kx_a q_to cyI 319 ft, kx_a q_size cyI 319 fs, kx_a q_lossOf cyI 319 fo, kx_a q_value cyI 1914 uv, kx_a q_number cyI 1914 un, kx_3 h0 a_v a_n vs lo le, kx_a a_v cyI 12 fv, kx_a a_n cyI 12 fn]) [3, 4, 5, 6, 7, 8, 9, 10, 11, 12] (by decide) rfl
    have hFc := va_free (wc := [kx_2 q_t q_row q_joined q_from q_to q_size q_lossOf q_lessBy q_value q_number nodes here, kx_a q_from cyI 319 ff, kx_a q_to cyI 319 ft, kx_a q_size cyI 319 fs, kx_a q_lossOf cyI 319 fo, kx_a q_value cyI 1914 uv, kx_a q_number cyI 1914 un, kx_3 h0 a_v a_n vs lo le, kx_a a_v cyI 12 fv, kx_a a_n cyI 12 fn]) hD hS hA [3, 4, 5, 6, 7, 8, 9, 10, 11, 12] rfl
    refine va_callv (va_runV (As := [.ref h0, .int y_1, .int p3]) (rest := []) ⟨hx, hb, hml, hown, hts⟩ (c_X2_gather l dC dI q_t q_row q_joined q_from q_to q_size q_lossOf q_lessBy q_value q_number nodes here h0 a_v a_n cyI vs lo le fv fn ff ft fs fo uv un y_1 p3 s.heap.size b0 c0 s0) (cwV 3 hts gX4_gatherHeavyOfBoth_X2_gather rfl rfl rfl (by decide +kernel) ⟨Nat.le_of_ble_eq_true rfl, Nat.le_of_ble_eq_true rfl⟩) ⟨fun a U g mk q => by obtain ⟨q0, q1, qP, qK, qD⟩ := q; exact ⟨q0, q1, qP, va_K.moved (u := U) (U := U.calling g mk a) (Vm.Alike.refl U.vm) qK, qD⟩, va_recv hKc hPc (ci := 2) (q0 := 0) rfl rfl, fun U hU hW => ⟨rfl, by rw [hU], by rw [hU]; exact hPc, va_K.moved hW.alike hKc, hDc.weaken (fun _ _ _ _ => trivial)⟩⟩ rfl rfl hl.1 rfl (lv_room (Nat.le_of_ble_eq_true rfl)) dX4_gatherHeavyOfBoth_23 ⟨Nat.le_of_ble_eq_true rfl, Nat.le_of_ble_eq_true rfl⟩) hS (fun q _ h => hFc q h) hFc (fun u t H1 locs ht hvm w_4 hB hz1 hk1 hS => ?_)
    obtain ⟨o_5, o_6, o_7, o_8, o_9⟩ := u
    dsimp only at w_4 hB
    obtain ⟨hP1, hK1, hD1⟩ := hB
    rw [ht] at hP1
    have hK1 := va_K.moved hvm.symm hK1
    obtain ⟨hP, hD⟩ := va_join (wr := [kx_4 m_ q_row q_t t_ h0 k0 w_ z_ slots old, kx_0 q_row q_cell len, kx_a q_cell cyI 160 f, kx_3 k0 kv kn sb lb eb, kx_a kv cyI 12 gb, kx_a kn cyI 12 nb]) (w1 := [kx_2 q_t q_row q_joined q_from q_to q_size q_lossOf q_lessBy q_value q_number nodes here, kx_a q_from cyI 319 ff, kx_a q_to cyI 319 ft, kx_a q_size cyI 319 fs, kx_a q_lossOf cyI 319 fo, kx_a q_value cyI 1914 uv, kx_a q_number cyI 1914 un, kx_3 h0 a_v a_n o_5 o_6 o_7, kx_a a_v cyI 12 o_8, kx_a a_n cyI 12 o_9]) hP hD [3, 4, 5, 6, 7, 8, 9, 10, 11, 12] [0, 1, 2, 13, 14, 15] rfl rfl (by decide) (by decide) hk1 hFc hP1 hD1
    clear hP1 hD1 hK1 hk1 hz1 hFc hDc hPc hKc
    generalize H1 = H at hP hS ⊢
    have hP : va_P (dC, dI) vwCl [kx_4 m_ q_row q_t t_ h0 k0 w_ z_ slots old, kx_0 q_row q_cell len, kx_a q_cell cyI 160 f, kx_3 k0 kv kn sb lb eb, kx_a kv cyI 12 gb, kx_a kn cyI 12 nb, kx_2 q_t q_row q_joined q_from q_to q_size q_lossOf q_lessBy q_value q_number nodes here, kx_a q_from cyI 319 ff, kx_a q_to cyI 319 ft, kx_a q_size cyI 319 fs, kx_a q_lossOf cyI 319 fo, kx_a q_value cyI 1914 uv, kx_a q_number cyI 1914 un, kx_3 h0 a_v a_n o_5 o_6 o_7, kx_a a_v cyI 12 o_8, kx_a a_n cyI 12 o_9] H := hP
    have hD : va_D A [kx_4 m_ q_row q_t t_ h0 k0 w_ z_ slots old, kx_0 q_row q_cell len, kx_a q_cell cyI 160 f, kx_3 k0 kv kn sb lb eb, kx_a kv cyI 12 gb, kx_a kn cyI 12 nb, kx_2 q_t q_row q_joined q_from q_to q_size q_lossOf q_lessBy q_value q_number nodes here, kx_a q_from cyI 319 ff, kx_a q_to cyI 319 ft, kx_a q_size cyI 319 fs, kx_a q_lossOf cyI 319 fo, kx_a q_value cyI 1914 uv, kx_a q_number cyI 1914 un, kx_3 h0 a_v a_n o_5 o_6 o_7, kx_a a_v cyI 12 o_8, kx_a a_n cyI 12 o_9] := hD
    have w_4 : 0 ≤ o_5.toInt ∧ o_5.toInt ≤ 12 := w_4
    refine lv_aload_n hx hb dX4_gatherHeavyOfBoth_26 rfl (lv_at hl 1 rfl) ?_
    refine lv_aload_n hx hb dX4_gatherHeavyOfBoth_27 rfl (lv_at hl 0 rfl) ?_
    refine va_get (D := (dC, dI)) (ci := 4) (v := .ref k0) (C := RX4) (T := TX4) (N := 9) hx hb hts hi_4 hown hK hP 0 rfl rfl 4 (by decide) hf_39 (fun _ h9 => h9) rfl dX4_gatherHeavyOfBoth_28 ?_
    refine lv_iload_n hx hb dX4_gatherHeavyOfBoth_31 rfl (lv_at hl 2 rfl) ?_
    refine lv_iload hx hb dX4_gatherHeavyOfBoth_32 (lv_at hl 4 rfl) ?_
    refine va_mmax hx hb (hml.trans hl.1.symm) hown hm_96 hms_max hz_math hmc_max (Nat.le_of_ble_eq_true rfl) (Nat.le_of_ble_eq_true rfl) (Nat.le_of_ble_eq_true rfl) (Nat.le_of_ble_eq_true rfl) dX4_gatherHeavyOfBoth_34 ?_
    refine lv_topi (fun y_10 ey_10 => ?_)
    have i_11 : (p0.toInt ≤ p2.toInt ∧ y_10.toInt = p2.toInt) ∨ (p2.toInt < p0.toInt ∧ y_10.toInt = p0.toInt) := ki_max ey_10 rfl rfl
    refine lv_iload_n hx hb dX4_gatherHeavyOfBoth_37 rfl (lv_at hl 2 rfl) ?_
    refine lv_iload hx hb dX4_gatherHeavyOfBoth_38 (lv_at hl 4 rfl) ?_
    refine lv_icmp_ge (tgt := 48) hx hb dX4_gatherHeavyOfBoth_40 (by decide) (fun c_12 => ?_) (fun c_12 => ?_)
    · have i_12 : p2.toInt ≤ p0.toInt := kc_le c_12
      refine lv_iload_n hx hb dX4_gatherHeavyOfBoth_48 rfl (lv_at hl 3 rfl) ?_
      have hPc := hP.sub (ws' := [kx_2 q_t q_row q_joined q_from q_to q_size q_lossOf q_lessBy q_value q_number nodes here, kx_a q_from cyI 319 ff, kx_a q_to cyI 319 ft, kx_a q_size cyI 319 fs, kx_a q_lossOf cyI 319 fo, kx_a q_value cyI 1914 uv, kx_a q_number cyI 1914 un, kx_3 k0 kv kn sb lb eb, kx_a kv cyI 12 gb, kx_a kn cyI 12 nb]) [6, 7, 8, 9, 10, 11, 12, 3, 4, 5] rfl
      have hKc := hK
      have hDc := hD.sub (ws' := [kx_2 q_t q_row q_joined q_from q_to q_size q_lossOf q_lessBy q_value q_number nodes here, kx_a q_from cyI 319 ff, kx_a q_to cyI 319 ft, kx_a q_size cyI 319 fs, kx_a q_lossOf cyI 319 fo, kx_a q_value cyI 1914 uv, kx_a q_number cyI 1914 un, kx_3 k0 kv kn sb lb eb, kx_a kv cyI 12 gb, kx_a kn cyI 12 nb]) [6, 7, 8, 9, 10, 11, 12, 3, 4, 5] (by decide) rfl
      have hFc := va_free (wc := [kx_2 q_t q_row q_joined q_from q_to q_size q_lossOf q_lessBy q_value q_number nodes here, kx_a q_from cyI 319 ff, kx_a q_to cyI 319 ft, kx_a q_size cyI 319 fs, kx_a q_lossOf cyI 319 fo, kx_a q_value cyI 1914 uv, kx_a q_number cyI 1914 un, kx_3 k0 kv kn sb lb eb, kx_a kv cyI 12 gb, kx_a kn cyI 12 nb]) hD hS hA [6, 7, 8, 9, 10, 11, 12, 3, 4, 5] rfl
      refine va_callv (va_runV (As := [.ref k0, .int y_10, .int p1]) (rest := []) ⟨hx, hb, hml, hown, hts⟩ (c_X2_gather l dC dI q_t q_row q_joined q_from q_to q_size q_lossOf q_lessBy q_value q_number nodes here k0 kv kn cyI sb lb eb gb nb ff ft fs fo uv un y_10 p1 H.size b0 c0 s0) (cwV 3 hts gX4_gatherHeavyOfBoth_X2_gather rfl rfl rfl (by decide +kernel) ⟨Nat.le_of_ble_eq_true rfl, Nat.le_of_ble_eq_true rfl⟩) ⟨fun a U g mk q => by obtain ⟨q0, q1, qP, qK, qD⟩ := q; exact ⟨q0, q1, qP, va_K.moved (u := U) (U := U.calling g mk a) (Vm.Alike.refl U.vm) qK, qD⟩, va_recv hKc hPc (ci := 2) (q0 := 0) rfl rfl, fun U hU hW => ⟨rfl, by rw [hU], by rw [hU]; exact hPc, va_K.moved hW.alike hKc, hDc.weaken (fun _ _ _ _ => trivial)⟩⟩ rfl rfl hl.1 rfl (lv_room (Nat.le_of_ble_eq_true rfl)) dX4_gatherHeavyOfBoth_49 ⟨Nat.le_of_ble_eq_true rfl, Nat.le_of_ble_eq_true rfl⟩) hS (fun q _ h => hFc q h) hFc (fun u t H1 locs ht hvm w_13 hB hz1 hk1 hS => ?_)
      obtain ⟨o_14, o_15, o_16, o_17, o_18⟩ := u
      dsimp only at w_13 hB
      obtain ⟨hP1, hK1, hD1⟩ := hB
      rw [ht] at hP1
      have hK1 := va_K.moved hvm.symm hK1
      obtain ⟨hP, hD⟩ := va_join (wr := [kx_4 m_ q_row q_t t_ h0 k0 w_ z_ slots old, kx_0 q_row q_cell len, kx_a q_cell cyI 160 f, kx_3 h0 a_v a_n o_5 o_6 o_7, kx_a a_v cyI 12 o_8, kx_a a_n cyI 12 o_9]) (w1 := [kx_2 q_t q_row q_joined q_from q_to q_size q_lossOf q_lessBy q_value q_number nodes here, kx_a q_from cyI 319 ff, kx_a q_to cyI 319 ft, kx_a q_size cyI 319 fs, kx_a q_lossOf cyI 319 fo, kx_a q_value cyI 1914 uv, kx_a q_number cyI 1914 un, kx_3 k0 kv kn o_14 o_15 o_16, kx_a kv cyI 12 o_17, kx_a kn cyI 12 o_18]) hP hD [6, 7, 8, 9, 10, 11, 12, 3, 4, 5] [0, 1, 2, 13, 14, 15] rfl rfl (by decide) (by decide) hk1 hFc hP1 hD1
      clear hP1 hD1 hK1 hk1 hz1 hFc hDc hPc hKc
      generalize H1 = H at hP hS ⊢
      have hP : va_P (dC, dI) vwCl [kx_4 m_ q_row q_t t_ h0 k0 w_ z_ slots old, kx_0 q_row q_cell len, kx_a q_cell cyI 160 f, kx_3 h0 a_v a_n o_5 o_6 o_7, kx_a a_v cyI 12 o_8, kx_a a_n cyI 12 o_9, kx_2 q_t q_row q_joined q_from q_to q_size q_lossOf q_lessBy q_value q_number nodes here, kx_a q_from cyI 319 ff, kx_a q_to cyI 319 ft, kx_a q_size cyI 319 fs, kx_a q_lossOf cyI 319 fo, kx_a q_value cyI 1914 uv, kx_a q_number cyI 1914 un, kx_3 k0 kv kn o_14 o_15 o_16, kx_a kv cyI 12 o_17, kx_a kn cyI 12 o_18] H := hP
      have hD : va_D A [kx_4 m_ q_row q_t t_ h0 k0 w_ z_ slots old, kx_0 q_row q_cell len, kx_a q_cell cyI 160 f, kx_3 h0 a_v a_n o_5 o_6 o_7, kx_a a_v cyI 12 o_8, kx_a a_n cyI 12 o_9, kx_2 q_t q_row q_joined q_from q_to q_size q_lossOf q_lessBy q_value q_number nodes here, kx_a q_from cyI 319 ff, kx_a q_to cyI 319 ft, kx_a q_size cyI 319 fs, kx_a q_lossOf cyI 319 fo, kx_a q_value cyI 1914 uv, kx_a q_number cyI 1914 un, kx_3 k0 kv kn o_14 o_15 o_16, kx_a kv cyI 12 o_17, kx_a kn cyI 12 o_18] := hD
      have w_13 : 0 ≤ o_14.toInt ∧ o_14.toInt ≤ 12 := w_13
      refine lv_aload_n hx hb dX4_gatherHeavyOfBoth_52 rfl (lv_at hl 0 rfl) ?_
      refine va_get (D := (dC, dI)) (ci := 4) (v := .ref h0) (C := RX4) (T := TX4) (N := 9) hx hb hts hi_4 hown hK hP 0 rfl rfl 3 (by decide) hf_35 (fun _ h9 => h9) rfl dX4_gatherHeavyOfBoth_53 ?_
      refine lv_aload_n hx hb dX4_gatherHeavyOfBoth_56 rfl (lv_at hl 0 rfl) ?_
      refine va_get (D := (dC, dI)) (ci := 4) (v := .ref k0) (C := RX4) (T := TX4) (N := 9) hx hb hts hi_4 hown hK hP 0 rfl rfl 4 (by decide) hf_39 (fun _ h9 => h9) rfl dX4_gatherHeavyOfBoth_57 ?_
      have hPc := hP.sub (ws' := [kx_3 h0 a_v a_n o_5 o_6 o_7, kx_a a_v cyI 12 o_8, kx_a a_n cyI 12 o_9, kx_3 k0 kv kn o_14 o_15 o_16, kx_a kv cyI 12 o_17, kx_a kn cyI 12 o_18]) [3, 4, 5, 13, 14, 15] rfl
      have hKc := hK
      have hDc := hD.sub (ws' := [kx_3 h0 a_v a_n o_5 o_6 o_7, kx_a a_v cyI 12 o_8, kx_a a_n cyI 12 o_9, kx_3 k0 kv kn o_14 o_15 o_16, kx_a kv cyI 12 o_17, kx_a kn cyI 12 o_18]) [3, 4, 5, 13, 14, 15] (by decide) rfl
      have hFc := va_free (wc := [kx_3 h0 a_v a_n o_5 o_6 o_7, kx_a a_v cyI 12 o_8, kx_a a_n cyI 12 o_9, kx_3 k0 kv kn o_14 o_15 o_16, kx_a kv cyI 12 o_17, kx_a kn cyI 12 o_18]) hD hS hA [3, 4, 5, 13, 14, 15] rfl
      refine va_callv (va_runV (As := [.ref k0]) (rest := []) ⟨hx, hb, hml, hown, hts⟩ (c_X3_join l dC dI h0 a_v a_n cyI o_5 o_6 o_7 o_8 o_9 k0 kv kn o_14 o_15 o_16 o_17 o_18 H.size w_4.1 w_4.2 w_13.1 w_13.2) (cwV 1 hts gX4_gatherHeavyOfBoth_X3_join rfl rfl rfl (by decide +kernel) ⟨Nat.le_of_ble_eq_true rfl, Nat.le_of_ble_eq_true rfl⟩) ⟨fun a U g mk q => by obtain ⟨q0, q1, qP, qK, qD⟩ := q; exact ⟨q0, q1, qP, va_K.moved (u := U) (U := U.calling g mk a) (Vm.Alike.refl U.vm) qK, qD⟩, va_recv hKc hPc (ci := 3) (q0 := 0) rfl rfl, fun U hU hW => ⟨rfl, by rw [hU], by rw [hU]; exact hPc, va_K.moved hW.alike hKc, hDc.weaken (fun _ _ _ _ => trivial)⟩⟩ rfl rfl hl.1 rfl (lv_room (Nat.le_of_ble_eq_true rfl)) dX4_gatherHeavyOfBoth_60 ⟨Nat.le_of_ble_eq_true rfl, Nat.le_of_ble_eq_true rfl⟩) hS (fun q _ h => hFc q h) hFc (fun u t H1 locs ht hvm w_19 hB hz1 hk1 hS => ?_)
      obtain ⟨o_20, o_21, o_22, o_23⟩ := u
      dsimp only at w_19 hB
      obtain ⟨hP1, hK1, hD1⟩ := hB
      rw [ht] at hP1
      have hK1 := va_K.moved hvm.symm hK1
      obtain ⟨hP, hD⟩ := va_join (wr := [kx_4 m_ q_row q_t t_ h0 k0 w_ z_ slots old, kx_0 q_row q_cell len, kx_a q_cell cyI 160 f, kx_2 q_t q_row q_joined q_from q_to q_size q_lossOf q_lessBy q_value q_number nodes here, kx_a q_from cyI 319 ff, kx_a q_to cyI 319 ft, kx_a q_size cyI 319 fs, kx_a q_lossOf cyI 319 fo, kx_a q_value cyI 1914 uv, kx_a q_number cyI 1914 un]) (w1 := [kx_3 h0 a_v a_n o_20 o_21 o_7, kx_a a_v cyI 12 o_22, kx_a a_n cyI 12 o_23, kx_3 k0 kv kn o_14 o_15 o_16, kx_a kv cyI 12 o_17, kx_a kn cyI 12 o_18]) hP hD [3, 4, 5, 13, 14, 15] [0, 1, 2, 6, 7, 8, 9, 10, 11, 12] rfl rfl (by decide) (by decide) hk1 hFc hP1 hD1
      clear hP1 hD1 hK1 hk1 hz1 hFc hDc hPc hKc
      generalize H1 = H at hP hS ⊢
      have hP : va_P (dC, dI) vwCl [kx_4 m_ q_row q_t t_ h0 k0 w_ z_ slots old, kx_0 q_row q_cell len, kx_a q_cell cyI 160 f, kx_2 q_t q_row q_joined q_from q_to q_size q_lossOf q_lessBy q_value q_number nodes here, kx_a q_from cyI 319 ff, kx_a q_to cyI 319 ft, kx_a q_size cyI 319 fs, kx_a q_lossOf cyI 319 fo, kx_a q_value cyI 1914 uv, kx_a q_number cyI 1914 un, kx_3 h0 a_v a_n o_20 o_21 o_7, kx_a a_v cyI 12 o_22, kx_a a_n cyI 12 o_23, kx_3 k0 kv kn o_14 o_15 o_16, kx_a kv cyI 12 o_17, kx_a kn cyI 12 o_18] H := hP
      have hD : va_D A [kx_4 m_ q_row q_t t_ h0 k0 w_ z_ slots old, kx_0 q_row q_cell len, kx_a q_cell cyI 160 f, kx_2 q_t q_row q_joined q_from q_to q_size q_lossOf q_lessBy q_value q_number nodes here, kx_a q_from cyI 319 ff, kx_a q_to cyI 319 ft, kx_a q_size cyI 319 fs, kx_a q_lossOf cyI 319 fo, kx_a q_value cyI 1914 uv, kx_a q_number cyI 1914 un, kx_3 h0 a_v a_n o_20 o_21 o_7, kx_a a_v cyI 12 o_22, kx_a a_n cyI 12 o_23, kx_3 k0 kv kn o_14 o_15 o_16, kx_a kv cyI 12 o_17, kx_a kn cyI 12 o_18] := hD
      have w_19 : 0 ≤ o_20.toInt ∧ o_20.toInt ≤ 12 := w_19
      refine lv_aload_n hx hb dX4_gatherHeavyOfBoth_63 rfl (lv_at hl 0 rfl) ?_
      refine va_get (D := (dC, dI)) (ci := 4) (v := .ref h0) (C := RX4) (T := TX4) (N := 9) hx hb hts hi_4 hown hK hP 0 rfl rfl 3 (by decide) hf_35 (fun _ h9 => h9) rfl dX4_gatherHeavyOfBoth_64 ?_
      refine lv_aload_n hx hb dX4_gatherHeavyOfBoth_67 rfl (lv_at hl 0 rfl) ?_
      refine va_get (D := (dC, dI)) (ci := 4) (v := .int slots) (C := RX4) (T := TX4) (N := 9) hx hb hts hi_4 hown hK hP 0 rfl rfl 7 (by decide) hf_49 (fun _ h9 => h9) rfl dX4_gatherHeavyOfBoth_68 ?_
      have hPc := hP.sub (ws' := [kx_3 h0 a_v a_n o_20 o_21 o_7, kx_a a_v cyI 12 o_22, kx_a a_n cyI 12 o_23]) [10, 11, 12] rfl
      have hKc := hK
      have hDc := hD.sub (ws' := [kx_3 h0 a_v a_n o_20 o_21 o_7, kx_a a_v cyI 12 o_22, kx_a a_n cyI 12 o_23]) [10, 11, 12] (by decide) rfl
      have hFc := va_free (wc := [kx_3 h0 a_v a_n o_20 o_21 o_7, kx_a a_v cyI 12 o_22, kx_a a_n cyI 12 o_23]) hD hS hA [10, 11, 12] rfl
      refine va_callv (va_runV (As := [.int slots]) (rest := []) ⟨hx, hb, hml, hown, hts⟩ (c_X3_cancel l dC dI h0 a_v a_n cyI o_20 o_21 o_7 o_22 o_23 slots H.size w_19.1 w_19.2) (cwV 1 hts gX4_gatherHeavyOfBoth_X3_cancel rfl rfl rfl (by decide +kernel) ⟨Nat.le_of_ble_eq_true rfl, Nat.le_of_ble_eq_true rfl⟩) ⟨fun a U g mk q => by obtain ⟨q0, q1, qP, qK, qD⟩ := q; exact ⟨q0, q1, qP, va_K.moved (u := U) (U := U.calling g mk a) (Vm.Alike.refl U.vm) qK, qD⟩, va_recv hKc hPc (ci := 3) (q0 := 0) rfl rfl, fun U hU hW => ⟨rfl, by rw [hU], by rw [hU]; exact hPc, va_K.moved hW.alike hKc, hDc.weaken (fun _ _ _ _ => trivial)⟩⟩ rfl rfl hl.1 rfl (lv_room (Nat.le_of_ble_eq_true rfl)) dX4_gatherHeavyOfBoth_71 ⟨Nat.le_of_ble_eq_true rfl, Nat.le_of_ble_eq_true rfl⟩) hS (fun q _ h => hFc q h) hFc (fun u t H1 locs ht hvm w_24 hB hz1 hk1 hS => ?_)
      obtain ⟨o_25, o_26, o_27, o_28, o_29⟩ := u
      dsimp only at w_24 hB
      obtain ⟨hP1, hK1, hD1⟩ := hB
      rw [ht] at hP1
      have hK1 := va_K.moved hvm.symm hK1
      obtain ⟨hP, hD⟩ := va_join (wr := [kx_4 m_ q_row q_t t_ h0 k0 w_ z_ slots old, kx_0 q_row q_cell len, kx_a q_cell cyI 160 f, kx_2 q_t q_row q_joined q_from q_to q_size q_lossOf q_lessBy q_value q_number nodes here, kx_a q_from cyI 319 ff, kx_a q_to cyI 319 ft, kx_a q_size cyI 319 fs, kx_a q_lossOf cyI 319 fo, kx_a q_value cyI 1914 uv, kx_a q_number cyI 1914 un, kx_3 k0 kv kn o_14 o_15 o_16, kx_a kv cyI 12 o_17, kx_a kn cyI 12 o_18]) (w1 := [kx_3 h0 a_v a_n o_25 o_26 o_27, kx_a a_v cyI 12 o_28, kx_a a_n cyI 12 o_29]) hP hD [10, 11, 12] [0, 1, 2, 3, 4, 5, 6, 7, 8, 9, 13, 14, 15] rfl rfl (by decide) (by decide) hk1 hFc hP1 hD1
      clear hP1 hD1 hK1 hk1 hz1 hFc hDc hPc hKc
      generalize H1 = H at hP hS ⊢
      have hP : va_P (dC, dI) vwCl [kx_4 m_ q_row q_t t_ h0 k0 w_ z_ slots old, kx_0 q_row q_cell len, kx_a q_cell cyI 160 f, kx_2 q_t q_row q_joined q_from q_to q_size q_lossOf q_lessBy q_value q_number nodes here, kx_a q_from cyI 319 ff, kx_a q_to cyI 319 ft, kx_a q_size cyI 319 fs, kx_a q_lossOf cyI 319 fo, kx_a q_value cyI 1914 uv, kx_a q_number cyI 1914 un, kx_3 k0 kv kn o_14 o_15 o_16, kx_a kv cyI 12 o_17, kx_a kn cyI 12 o_18, kx_3 h0 a_v a_n o_25 o_26 o_27, kx_a a_v cyI 12 o_28, kx_a a_n cyI 12 o_29] H := hP
      have hD : va_D A [kx_4 m_ q_row q_t t_ h0 k0 w_ z_ slots old, kx_0 q_row q_cell len, kx_a q_cell cyI 160 f, kx_2 q_t q_row q_joined q_from q_to q_size q_lossOf q_lessBy q_value q_number nodes here, kx_a q_from cyI 319 ff, kx_a q_to cyI 319 ft, kx_a q_size cyI 319 fs, kx_a q_lossOf cyI 319 fo, kx_a q_value cyI 1914 uv, kx_a q_number cyI 1914 un, kx_3 k0 kv kn o_14 o_15 o_16, kx_a kv cyI 12 o_17, kx_a kn cyI 12 o_18, kx_3 h0 a_v a_n o_25 o_26 o_27, kx_a a_v cyI 12 o_28, kx_a a_n cyI 12 o_29] := hD
      have w_24 : 0 ≤ o_25.toInt ∧ o_25.toInt ≤ o_20.toInt := w_24
      refine lv_iconst (v := 0) hx hb dX4_gatherHeavyOfBoth_74 (by decide) ?_
      refine lv_istore (lv' := [(8, .int 0), (0, .ref m_), (1, .ref q_t), (2, .int p0), (3, .int p1), (4, .int p2), (5, .int p3), (6, .int p4), (7, .int p5)]) hx hb dX4_gatherHeavyOfBoth_75 hl (by decide) rfl (fun ls hl => ?_)
      have LP1 : ∀ (n : Nat) (i : Int32) (wn : Nat → Int32), (0 ≤ i.toInt) → (o_25.toInt - i.toInt).toNat < n → ∀ (H : Heap) (locs : List Loc), va_P (dC, dI) vwCl [kx_4 m_ q_row q_t t_ h0 k0 w_ z_ slots old, kx_0 q_row q_cell len, kx_a q_cell cyI 160 f, kx_2 q_t q_row q_joined q_from q_to q_size q_lossOf q_lessBy q_value q_number nodes here, kx_a q_from cyI 319 ff, kx_a q_to cyI 319 ft, kx_a q_size cyI 319 fs, kx_a q_lossOf cyI 319 fo, kx_a q_value cyI 1914 uv, kx_a q_number cyI 1914 un, kx_3 k0 kv kn o_14 o_15 o_16, kx_a kv cyI 12 o_17, kx_a kn cyI 12 o_18, kx_3 h0 a_v a_n o_25 o_26 o_27, kx_a a_v cyI 12 o_28, kx_a a_n cyI 12 wn] H → va_D A [kx_4 m_ q_row q_t t_ h0 k0 w_ z_ slots old, kx_0 q_row q_cell len, kx_a q_cell cyI 160 f, kx_2 q_t q_row q_joined q_from q_to q_size q_lossOf q_lessBy q_value q_number nodes here, kx_a q_from cyI 319 ff, kx_a q_to cyI 319 ft, kx_a q_size cyI 319 fs, kx_a q_lossOf cyI 319 fo, kx_a q_value cyI 1914 uv, kx_a q_number cyI 1914 un, kx_3 k0 kv kn o_14 o_15 o_16, kx_a kv cyI 12 o_17, kx_a kn cyI 12 o_18, kx_3 h0 a_v a_n o_25 o_26 o_27, kx_a a_v cyI 12 o_28, kx_a a_n cyI 12 wn] → va_S A s.heap H locs → ∀ (ls : Array Slot), lv_has ls 10 [(8, .int i), (0, .ref m_), (1, .ref q_t), (2, .int p0), (3, .int p1), (4, .int p2), (5, .int p3), (6, .int p4), (7, .int p5)] → W p l e (headSpec wsX4_gatherHeavyOfBoth ({ frames := 4, cells := 0, slots := 0, locals := 180 })).room s m ([.ref m_, .ref q_t, .int p0, .int p1, .int p2, .int p3, .int p4, .int p5] : List Value).toArray below meth c H locs 0 0 (MQ below (va_Qv (fun u : Int32 × Int32 × Int32 × (Nat → Int32) × (Nat → Int32) × Int32 × Int32 × Int32 × (Nat → Int32) × (Nat → Int32) => 0 ≤ u.1.toInt ∧ u.1.toInt ≤ 12) (fun (u : Int32 × Int32 × Int32 × (Nat → Int32) × (Nat → Int32) × Int32 × Int32 × Int32 × (Nat → Int32) × (Nat → Int32)) (t : State) => va_P (dC, dI) vwCl [kx_4 m_ q_row q_t t_ h0 k0 w_ z_ slots old, kx_0 q_row q_cell len, kx_a q_cell cyI 160 f, kx_2 q_t q_row q_joined q_from q_to q_size q_lossOf q_lessBy q_value q_number nodes here, kx_a q_from cyI 319 ff, kx_a q_to cyI 319 ft, kx_a q_size cyI 319 fs, kx_a q_lossOf cyI 319 fo, kx_a q_value cyI 1914 uv, kx_a q_number cyI 1914 un, kx_3 h0 a_v a_n u.1 u.2.1 u.2.2.1, kx_a a_v cyI 12 u.2.2.2.1, kx_a a_n cyI 12 u.2.2.2.2.1, kx_3 k0 kv kn u.2.2.2.2.2.1 u.2.2.2.2.2.2.1 u.2.2.2.2.2.2.2.1, kx_a kv cyI 12 u.2.2.2.2.2.2.2.2.1, kx_a kn cyI 12 u.2.2.2.2.2.2.2.2.2] t.heap ∧ va_K (dC, dI) vwCl [(cyI, .int)] t ∧ va_D A [kx_4 m_ q_row q_t t_ h0 k0 w_ z_ slots old, kx_0 q_row q_cell len, kx_a q_cell cyI 160 f, kx_2 q_t q_row q_joined q_from q_to q_size q_lossOf q_lessBy q_value q_number nodes here, kx_a q_from cyI 319 ff, kx_a q_to cyI 319 ft, kx_a q_size cyI 319 fs, kx_a q_lossOf cyI 319 fo, kx_a q_value cyI 1914 uv, kx_a q_number cyI 1914 un, kx_3 h0 a_v a_n u.1 u.2.1 u.2.2.1, kx_a a_v cyI 12 u.2.2.2.1, kx_a a_n cyI 12 u.2.2.2.2.1, kx_3 k0 kv kn u.2.2.2.2.2.1 u.2.2.2.2.2.2.1 u.2.2.2.2.2.2.2.1, kx_a kv cyI 12 u.2.2.2.2.2.2.2.2.1, kx_a kn cyI 12 u.2.2.2.2.2.2.2.2.2]) A) ([.ref m_, .ref q_t, .int p0, .int p1, .int p2, .int p3, .int p4, .int p5] : List Value).toArray s 0 0 A) (F0 m 77 ls []) := by
        intro n
        induction n with
        | zero => intro i wn LP1_h0 hn; exact absurd hn (Nat.not_lt_zero _)
        | succ n ih1 =>
          intro i wn LP1_h0 hn1 H locs hP hD hS ls hl
          refine lv_iload hx hb dX4_gatherHeavyOfBoth_77 (lv_at hl 0 rfl) ?_
          refine lv_aload_n hx hb dX4_gatherHeavyOfBoth_79 rfl (lv_at hl 1 rfl) ?_
          refine va_get (D := (dC, dI)) (ci := 4) (v := .ref h0) (C := RX4) (T := TX4) (N := 9) hx hb hts hi_4 hown hK hP 0 rfl rfl 3 (by decide) hf_35 (fun _ h9 => h9) rfl dX4_gatherHeavyOfBoth_80 ?_
          refine va_get (D := (dC, dI)) (ci := 3) (v := .int o_25) (C := RX3) (T := TX3) (N := 5) hx hb hts hi_3 hown hK hP 13 rfl rfl 2 (by decide) hf_174 (fun _ h9 => h9) rfl dX4_gatherHeavyOfBoth_83 ?_
          refine lv_icmp_ge (tgt := 142) hx hb dX4_gatherHeavyOfBoth_86 (by decide) (fun c_30 => ?_) (fun c_30 => ?_)
          · have i_30 : o_25.toInt ≤ i.toInt := kc_le c_30
            refine lv_aload_n hx hb dX4_gatherHeavyOfBoth_142 rfl (lv_at hl 1 rfl) ?_
            refine va_get (D := (dC, dI)) (ci := 4) (v := .ref h0) (C := RX4) (T := TX4) (N := 9) hx hb hts hi_4 hown hK hP 0 rfl rfl 3 (by decide) hf_35 (fun _ h9 => h9) rfl dX4_gatherHeavyOfBoth_143 ?_
            refine lv_iload_n hx hb dX4_gatherHeavyOfBoth_146 rfl (lv_at hl 4 rfl) ?_
            refine lv_iload_n hx hb dX4_gatherHeavyOfBoth_147 rfl (lv_at hl 3 rfl) ?_
            refine lv_isub hx hb dX4_gatherHeavyOfBoth_148 ?_
            refine lv_topi (fun y_31 ey_31 => ?_)
            refine lv_iload hx hb dX4_gatherHeavyOfBoth_149 (lv_at hl 6 rfl) ?_
            refine lv_iadd hx hb dX4_gatherHeavyOfBoth_151 ?_
            refine lv_topi (fun y_32 ey_32 => ?_)
            refine lv_iload hx hb dX4_gatherHeavyOfBoth_152 (lv_at hl 5 rfl) ?_
            refine lv_isub hx hb dX4_gatherHeavyOfBoth_154 ?_
            refine lv_topi (fun y_33 ey_33 => ?_)
            refine lv_iload hx hb dX4_gatherHeavyOfBoth_155 (lv_at hl 7 rfl) ?_
            refine lv_iload hx hb dX4_gatherHeavyOfBoth_157 (lv_at hl 8 rfl) ?_
            have hPc := hP.sub (ws' := [kx_3 h0 a_v a_n o_25 o_26 o_27, kx_a a_v cyI 12 o_28, kx_a a_n cyI 12 wn]) [13, 14, 15] rfl
            have hKc := hK
            have hDc := hD.sub (ws' := [kx_3 h0 a_v a_n o_25 o_26 o_27, kx_a a_v cyI 12 o_28, kx_a a_n cyI 12 wn]) [13, 14, 15] (by decide) rfl
            have hFc := va_free (wc := [kx_3 h0 a_v a_n o_25 o_26 o_27, kx_a a_v cyI 12 o_28, kx_a a_n cyI 12 wn]) hD hS hA [13, 14, 15] rfl
            refine va_callv (va_runV (As := [.int y_33, .int p4, .int p5]) (rest := []) ⟨hx, hb, hml, hown, hts⟩ (c_X3_keepHeavy l dC dI h0 a_v a_n cyI o_25 o_26 o_27 o_28 wn y_33 p4 p5 H.size w_24.1 (om_103 w_19.2 w_24.2)) (cwV 3 hts gX4_gatherHeavyOfBoth_X3_keepHeavy rfl rfl rfl (by decide +kernel) ⟨Nat.le_of_ble_eq_true rfl, Nat.le_of_ble_eq_true rfl⟩) ⟨fun a U g mk q => by obtain ⟨q0, q1, qP, qK, qD, qn0⟩ := q; exact ⟨q0, q1, qP, va_K.moved (u := U) (U := U.calling g mk a) (Vm.Alike.refl U.vm) qK, qD, va_Nw.same (u := U) (U := U.calling g mk a) rfl rfl qn0⟩, va_recv hKc hPc (ci := 3) (q0 := 0) rfl rfl, fun U hU hW => ⟨rfl, by rw [hU], by rw [hU]; exact hPc, va_K.moved hW.alike hKc, hDc.weaken (fun _ _ _ _ => trivial), va_Nw.warmM hW hN0⟩⟩ rfl rfl hl.1 rfl (lv_room (Nat.le_of_ble_eq_true rfl)) dX4_gatherHeavyOfBoth_159 ⟨Nat.le_of_ble_eq_true rfl, Nat.le_of_ble_eq_true rfl⟩) hS (fun q _ h => hFc q h) hFc (fun u t H1 locs ht hvm w_34 hB hz1 hk1 hS => ?_)
            obtain ⟨o_35, o_36, o_37⟩ := u
            dsimp only at w_34 hB
            obtain ⟨hP1, hK1, hD1⟩ := hB
            rw [ht] at hP1
            have hK1 := va_K.moved hvm.symm hK1
            obtain ⟨hP, hD⟩ := va_join (wr := [kx_4 m_ q_row q_t t_ h0 k0 w_ z_ slots old, kx_0 q_row q_cell len, kx_a q_cell cyI 160 f, kx_2 q_t q_row q_joined q_from q_to q_size q_lossOf q_lessBy q_value q_number nodes here, kx_a q_from cyI 319 ff, kx_a q_to cyI 319 ft, kx_a q_size cyI 319 fs, kx_a q_lossOf cyI 319 fo, kx_a q_value cyI 1914 uv, kx_a q_number cyI 1914 un, kx_3 k0 kv kn o_14 o_15 o_16, kx_a kv cyI 12 o_17, kx_a kn cyI 12 o_18]) (w1 := [kx_3 h0 a_v a_n o_35 o_26 o_27, kx_a a_v cyI 12 o_36, kx_a a_n cyI 12 o_37]) hP hD [13, 14, 15] [0, 1, 2, 3, 4, 5, 6, 7, 8, 9, 10, 11, 12] rfl rfl (by decide) (by decide) hk1 hFc hP1 hD1
            clear hP1 hD1 hK1 hk1 hz1 hFc hDc hPc hKc
            generalize H1 = H at hP hS ⊢
            have hP : va_P (dC, dI) vwCl [kx_4 m_ q_row q_t t_ h0 k0 w_ z_ slots old, kx_0 q_row q_cell len, kx_a q_cell cyI 160 f, kx_2 q_t q_row q_joined q_from q_to q_size q_lossOf q_lessBy q_value q_number nodes here, kx_a q_from cyI 319 ff, kx_a q_to cyI 319 ft, kx_a q_size cyI 319 fs, kx_a q_lossOf cyI 319 fo, kx_a q_value cyI 1914 uv, kx_a q_number cyI 1914 un, kx_3 k0 kv kn o_14 o_15 o_16, kx_a kv cyI 12 o_17, kx_a kn cyI 12 o_18, kx_3 h0 a_v a_n o_35 o_26 o_27, kx_a a_v cyI 12 o_36, kx_a a_n cyI 12 o_37] H := hP
            have hD : va_D A [kx_4 m_ q_row q_t t_ h0 k0 w_ z_ slots old, kx_0 q_row q_cell len, kx_a q_cell cyI 160 f, kx_2 q_t q_row q_joined q_from q_to q_size q_lossOf q_lessBy q_value q_number nodes here, kx_a q_from cyI 319 ff, kx_a q_to cyI 319 ft, kx_a q_size cyI 319 fs, kx_a q_lossOf cyI 319 fo, kx_a q_value cyI 1914 uv, kx_a q_number cyI 1914 un, kx_3 k0 kv kn o_14 o_15 o_16, kx_a kv cyI 12 o_17, kx_a kn cyI 12 o_18, kx_3 h0 a_v a_n o_35 o_26 o_27, kx_a a_v cyI 12 o_36, kx_a a_n cyI 12 o_37] := hD
            have w_34 : 0 ≤ o_35.toInt ∧ o_35.toInt ≤ o_25.toInt := w_34
            have hP9 := hP.sub (ws' := [kx_4 m_ q_row q_t t_ h0 k0 w_ z_ slots old, kx_0 q_row q_cell len, kx_a q_cell cyI 160 f, kx_2 q_t q_row q_joined q_from q_to q_size q_lossOf q_lessBy q_value q_number nodes here, kx_a q_from cyI 319 ff, kx_a q_to cyI 319 ft, kx_a q_size cyI 319 fs, kx_a q_lossOf cyI 319 fo, kx_a q_value cyI 1914 uv, kx_a q_number cyI 1914 un, kx_3 h0 a_v a_n o_35 o_26 o_27, kx_a a_v cyI 12 o_36, kx_a a_n cyI 12 o_37, kx_3 k0 kv kn o_14 o_15 o_16, kx_a kv cyI 12 o_17, kx_a kn cyI 12 o_18]) [0, 1, 2, 3, 4, 5, 6, 7, 8, 9, 13, 14, 15, 10, 11, 12] rfl
            have hD9 := hD.sub (ws' := [kx_4 m_ q_row q_t t_ h0 k0 w_ z_ slots old, kx_0 q_row q_cell len, kx_a q_cell cyI 160 f, kx_2 q_t q_row q_joined q_from q_to q_size q_lossOf q_lessBy q_value q_number nodes here, kx_a q_from cyI 319 ff, kx_a q_to cyI 319 ft, kx_a q_size cyI 319 fs, kx_a q_lossOf cyI 319 fo, kx_a q_value cyI 1914 uv, kx_a q_number cyI 1914 un, kx_3 h0 a_v a_n o_35 o_26 o_27, kx_a a_v cyI 12 o_36, kx_a a_n cyI 12 o_37, kx_3 k0 kv kn o_14 o_15 o_16, kx_a kv cyI 12 o_17, kx_a kn cyI 12 o_18]) [0, 1, 2, 3, 4, 5, 6, 7, 8, 9, 13, 14, 15, 10, 11, 12] (by decide) rfl
            have hK9 := hK
            exact W.vret hx hb hr (fun t ht hW => ⟨⟨(o_35, o_26, o_27, o_36, o_37, o_14, o_15, o_16, o_17, o_18), rfl, (by (try dsimp only); omega), by rw [ht]; exact hP9, va_K.moved hW.alike hK9, hD9⟩, hS.F ht⟩) hS.2.2 dX4_gatherHeavyOfBoth_162
          · have i_30 : i.toInt < o_25.toInt := kc_nle c_30
            refine lv_aload_n hx hb dX4_gatherHeavyOfBoth_89 rfl (lv_at hl 1 rfl) ?_
            refine va_get (D := (dC, dI)) (ci := 4) (v := .ref h0) (C := RX4) (T := TX4) (N := 9) hx hb hts hi_4 hown hK hP 0 rfl rfl 3 (by decide) hf_35 (fun _ h9 => h9) rfl dX4_gatherHeavyOfBoth_90 ?_
            refine va_get (D := (dC, dI)) (ci := 3) (v := .ref a_v) (C := RX3) (T := TX3) (N := 5) hx hb hts hi_3 hown hK hP 13 rfl rfl 0 (by decide) hf_133 (fun _ h9 => h9) rfl dX4_gatherHeavyOfBoth_93 ?_
            refine lv_iload hx hb dX4_gatherHeavyOfBoth_96 (lv_at hl 0 rfl) ?_
            refine va_iald hx hb hK hP 14 0 rfl rfl (ki_in (om_8 LP1_h0) (om_141 w_19.2 w_24.2 i_30)) dX4_gatherHeavyOfBoth_98 ?_
            refine lv_topi (fun y_38 ey_38 => ?_)
            have j_38 : y_38.toInt = (o_28 i.toNatClampNeg).toInt := congrArg Int32.toInt ey_38
            refine lv_istore (lv' := [(9, .int y_38), (8, .int i), (0, .ref m_), (1, .ref q_t), (2, .int p0), (3, .int p1), (4, .int p2), (5, .int p3), (6, .int p4), (7, .int p5)]) hx hb dX4_gatherHeavyOfBoth_99 hl (by decide) rfl (fun ls hl => ?_)
            refine lv_aload_n hx hb dX4_gatherHeavyOfBoth_101 rfl (lv_at hl 2 rfl) ?_
            refine va_get (D := (dC, dI)) (ci := 4) (v := .ref h0) (C := RX4) (T := TX4) (N := 9) hx hb hts hi_4 hown hK hP 0 rfl rfl 3 (by decide) hf_35 (fun _ h9 => h9) rfl dX4_gatherHeavyOfBoth_102 ?_
            refine va_get (D := (dC, dI)) (ci := 3) (v := .ref a_n) (C := RX3) (T := TX3) (N := 5) hx hb hts hi_3 hown hK hP 13 rfl rfl 1 (by decide) hf_136 (fun _ h9 => h9) rfl dX4_gatherHeavyOfBoth_105 ?_
            refine lv_iload hx hb dX4_gatherHeavyOfBoth_108 (lv_at hl 1 rfl) ?_
            refine lv_aload_n hx hb dX4_gatherHeavyOfBoth_110 rfl (lv_at hl 2 rfl) ?_
            refine va_get (D := (dC, dI)) (ci := 4) (v := .ref q_row) (C := RX4) (T := TX4) (N := 9) hx hb hts hi_4 hown hK hP 0 rfl rfl 0 (by decide) hf_12 (fun _ h9 => h9) rfl dX4_gatherHeavyOfBoth_111 ?_
            refine lv_iload hx hb dX4_gatherHeavyOfBoth_114 (lv_at hl 0 rfl) ?_
            refine lv_iload_n hx hb dX4_gatherHeavyOfBoth_116 rfl (lv_at hl 4 rfl) ?_
            refine lv_iload_n hx hb dX4_gatherHeavyOfBoth_117 rfl (lv_at hl 5 rfl) ?_
            have hPc := hP.sub (ws' := [kx_0 q_row q_cell len, kx_a q_cell cyI 160 f]) [1, 2] rfl
            have hKc := hK
            refine vp_callSi (W.runV (As := [.int y_38, .int p0, .int p1]) (rest := [.int i, .ref a_n]) ⟨hx, hb, hml, hown, hts⟩ (c_X0_oftenIn l dC dI q_row q_cell cyI len f y_38 p0 p1 d0 d1) (cwV 3 hts gX4_gatherHeavyOfBoth_X0_oftenIn rfl rfl rfl (by decide +kernel) ⟨Nat.le_of_ble_eq_true rfl, Nat.le_of_ble_eq_true rfl⟩) ⟨fun a U g mk q => by obtain ⟨q0, qP, qK⟩ := q; exact ⟨q0, qP, va_K.moved (u := U) (U := U.calling g mk a) (Vm.Alike.refl U.vm) qK⟩, va_recv hKc hPc (ci := 0) (q0 := 0) rfl rfl, fun U hU hW => ⟨rfl, by rw [hU]; exact hPc, va_K.moved hW.alike hKc⟩⟩ rfl rfl hl.1 rfl (lv_room (Nat.le_of_ble_eq_true rfl)) dX4_gatherHeavyOfBoth_118 ⟨Nat.le_of_ble_eq_true rfl, Nat.le_of_ble_eq_true rfl⟩) (fun r_39 w_39 => ?_)
            have w_39 : r_39.toInt = (cnt f y_38 p0.toNatClampNeg (p1.toInt - p0.toInt).toNat : Int) := w_39
            refine lv_aload_n hx hb dX4_gatherHeavyOfBoth_121 rfl (lv_at hl 2 rfl) ?_
            refine va_get (D := (dC, dI)) (ci := 4) (v := .ref q_row) (C := RX4) (T := TX4) (N := 9) hx hb hts hi_4 hown hK hP 0 rfl rfl 0 (by decide) hf_12 (fun _ h9 => h9) rfl dX4_gatherHeavyOfBoth_122 ?_
            refine lv_iload hx hb dX4_gatherHeavyOfBoth_125 (lv_at hl 0 rfl) ?_
            refine lv_iload hx hb dX4_gatherHeavyOfBoth_127 (lv_at hl 6 rfl) ?_
            refine lv_iload hx hb dX4_gatherHeavyOfBoth_129 (lv_at hl 7 rfl) ?_
            have hPc := hP.sub (ws' := [kx_0 q_row q_cell len, kx_a q_cell cyI 160 f]) [1, 2] rfl
            have hKc := hK
            refine vp_callSi (W.runV (As := [.int y_38, .int p2, .int p3]) (rest := [.int r_39, .int i, .ref a_n]) ⟨hx, hb, hml, hown, hts⟩ (c_X0_oftenIn l dC dI q_row q_cell cyI len f y_38 p2 p3 d2 d3) (cwV 3 hts gX4_gatherHeavyOfBoth_X0_oftenIn rfl rfl rfl (by decide +kernel) ⟨Nat.le_of_ble_eq_true rfl, Nat.le_of_ble_eq_true rfl⟩) ⟨fun a U g mk q => by obtain ⟨q0, qP, qK⟩ := q; exact ⟨q0, qP, va_K.moved (u := U) (U := U.calling g mk a) (Vm.Alike.refl U.vm) qK⟩, va_recv hKc hPc (ci := 0) (q0 := 0) rfl rfl, fun U hU hW => ⟨rfl, by rw [hU]; exact hPc, va_K.moved hW.alike hKc⟩⟩ rfl rfl hl.1 rfl (lv_room (Nat.le_of_ble_eq_true rfl)) dX4_gatherHeavyOfBoth_131 ⟨Nat.le_of_ble_eq_true rfl, Nat.le_of_ble_eq_true rfl⟩) (fun r_40 w_40 => ?_)
            have w_40 : r_40.toInt = (cnt f y_38 p2.toNatClampNeg (p3.toInt - p2.toInt).toNat : Int) := w_40
            refine lv_iadd hx hb dX4_gatherHeavyOfBoth_134 ?_
            refine lv_topi (fun y_41 ey_41 => ?_)
            refine va_iast hx hb hK hP hD hS 15 0 rfl rfl (ki_in (om_8 LP1_h0) (om_141 w_19.2 w_24.2 i_30)) dX4_gatherHeavyOfBoth_135 (fun H locs hP hD hS => ?_)
            have hP : va_P (dC, dI) vwCl [kx_4 m_ q_row q_t t_ h0 k0 w_ z_ slots old, kx_0 q_row q_cell len, kx_a q_cell cyI 160 f, kx_2 q_t q_row q_joined q_from q_to q_size q_lossOf q_lessBy q_value q_number nodes here, kx_a q_from cyI 319 ff, kx_a q_to cyI 319 ft, kx_a q_size cyI 319 fs, kx_a q_lossOf cyI 319 fo, kx_a q_value cyI 1914 uv, kx_a q_number cyI 1914 un, kx_3 k0 kv kn o_14 o_15 o_16, kx_a kv cyI 12 o_17, kx_a kn cyI 12 o_18, kx_3 h0 a_v a_n o_25 o_26 o_27, kx_a a_v cyI 12 o_28, kx_a a_n cyI 12 (upd wn i.toNatClampNeg y_41)] H := hP
            have hD : va_D A [kx_4 m_ q_row q_t t_ h0 k0 w_ z_ slots old, kx_0 q_row q_cell len, kx_a q_cell cyI 160 f, kx_2 q_t q_row q_joined q_from q_to q_size q_lossOf q_lessBy q_value q_number nodes here, kx_a q_from cyI 319 ff, kx_a q_to cyI 319 ft, kx_a q_size cyI 319 fs, kx_a q_lossOf cyI 319 fo, kx_a q_value cyI 1914 uv, kx_a q_number cyI 1914 un, kx_3 k0 kv kn o_14 o_15 o_16, kx_a kv cyI 12 o_17, kx_a kn cyI 12 o_18, kx_3 h0 a_v a_n o_25 o_26 o_27, kx_a a_v cyI 12 o_28, kx_a a_n cyI 12 (upd wn i.toNatClampNeg y_41)] := hD
            obtain ⟨x_42, ex_42⟩ : ∃ y : Int32, y = i + 1 := ⟨_, rfl⟩
            have i_42 : x_42.toInt = i.toInt + 1 := ki_add ex_42 rfl rfl (om_10 LP1_h0) (om_142 w_19.2 w_24.2 i_30)
            refine lv_iinc (v := x_42) (lv' := [(8, .int x_42), (9, .int y_38), (0, .ref m_), (1, .ref q_t), (2, .int p0), (3, .int p1), (4, .int p2), (5, .int p3), (6, .int p4), (7, .int p5)]) hx hb dX4_gatherHeavyOfBoth_136 hl (k := 1) rfl (by rw [ex_42]; rfl) (by decide) rfl (fun ls hl => ?_)
            refine lv_goto (tgt := 77) hx hb dX4_gatherHeavyOfBoth_139 (by decide) ?_
            exact ih1 x_42 (upd wn i.toNatClampNeg y_41) (om_31 LP1_h0 i_42) (om_mu hn1 (om_5 i_42) (om_6 i_30)) _ _ hP hD hS ls (lv_sub hl [0, 2, 3, 4, 5, 6, 7, 8, 9] rfl)
      have k_43 : (0 : Int32).toInt = 0 := rfl
      exact LP1 ((o_25.toInt - 0 : Int).toNat + 1) 0 o_29 om_32 (Nat.lt_succ_self _) _ _ hP hD hS ls (lv_sub hl [0, 1, 2, 3, 4, 5, 6, 7, 8] rfl)
    · have i_12 : p0.toInt < p2.toInt := kc_nle c_12
      exfalso; omega
  · have i_3 : p0.toInt < p2.toInt := kc_nle c_3
    refine lv_iload_n hx hb dX4_gatherHeavyOfBoth_17 rfl (lv_at hl 3 rfl) ?_
    refine lv_goto (tgt := 23) hx hb dX4_gatherHeavyOfBoth_18 (by decide) ?_
    have hPc := hP.sub (ws' := [kx_2 q_t q_row q_joined q_from q_to q_size q_lossOf q_lessBy q_value q_number nodes here, kx_a q_from cyI 319 ff, kx_a q_to cyI 319 ft, kx_a q_size cyI 319 fs, kx_a q_lossOf cyI 319 fo, kx_a q_value cyI 1914 uv, kx_a q_number cyI 1914 un, kx_3 h0 a_v a_n vs lo le, kx_a a_v cyI 12 fv, kx_a a_n cyI 12 fn]) [3, 4, 5, 6, 7, 8, 9, 10, 11, 12] rfl
    have hKc := hK
    have hDc := hD.sub (ws' := [kx_2 q_t q_row q_joined q_from q_to q_size q_lossOf q_lessBy q_value q_number nodes here, kx_a q_from cyI 319 ff, kx_a q_to cyI 319 ft, kx_a q_size cyI 319 fs, kx_a q_lossOf cyI 319 fo, kx_a q_value cyI 1914 uv, kx_a q_number cyI 1914 un, kx_3 h0 a_v a_n vs lo le, kx_a a_v cyI 12 fv, kx_a a_n cyI 12 fn]) [3, 4, 5, 6, 7, 8, 9, 10, 11, 12] (by decide) rfl
    have hFc := va_free (wc := [kx_2 q_t q_row q_joined q_from q_to q_size q_lossOf q_lessBy q_value q_number nodes here, kx_a q_from cyI 319 ff, kx_a q_to cyI 319 ft, kx_a q_size cyI 319 fs, kx_a q_lossOf cyI 319 fo, kx_a q_value cyI 1914 uv, kx_a q_number cyI 1914 un, kx_3 h0 a_v a_n vs lo le, kx_a a_v cyI 12 fv, kx_a a_n cyI 12 fn]) hD hS hA [3, 4, 5, 6, 7, 8, 9, 10, 11, 12] rfl
    refine va_callv (va_runV (As := [.ref h0, .int y_1, .int p1]) (rest := []) ⟨hx, hb, hml, hown, hts⟩ (c_X2_gather l dC dI q_t q_row q_joined q_from q_to q_size q_lossOf q_lessBy q_value q_number nodes here h0 a_v a_n cyI vs lo le fv fn ff ft fs fo uv un y_1 p1 s.heap.size b0 c0 s0) (cwV 3 hts gX4_gatherHeavyOfBoth_X2_gather rfl rfl rfl (by decide +kernel) ⟨Nat.le_of_ble_eq_true rfl, Nat.le_of_ble_eq_true rfl⟩) ⟨fun a U g mk q => by obtain ⟨q0, q1, qP, qK, qD⟩ := q; exact ⟨q0, q1, qP, va_K.moved (u := U) (U := U.calling g mk a) (Vm.Alike.refl U.vm) qK, qD⟩, va_recv hKc hPc (ci := 2) (q0 := 0) rfl rfl, fun U hU hW => ⟨rfl, by rw [hU], by rw [hU]; exact hPc, va_K.moved hW.alike hKc, hDc.weaken (fun _ _ _ _ => trivial)⟩⟩ rfl rfl hl.1 rfl (lv_room (Nat.le_of_ble_eq_true rfl)) dX4_gatherHeavyOfBoth_23 ⟨Nat.le_of_ble_eq_true rfl, Nat.le_of_ble_eq_true rfl⟩) hS (fun q _ h => hFc q h) hFc (fun u t H1 locs ht hvm w_44 hB hz1 hk1 hS => ?_)
    obtain ⟨o_45, o_46, o_47, o_48, o_49⟩ := u
    dsimp only at w_44 hB
    obtain ⟨hP1, hK1, hD1⟩ := hB
    rw [ht] at hP1
    have hK1 := va_K.moved hvm.symm hK1
    obtain ⟨hP, hD⟩ := va_join (wr := [kx_4 m_ q_row q_t t_ h0 k0 w_ z_ slots old, kx_0 q_row q_cell len, kx_a q_cell cyI 160 f, kx_3 k0 kv kn sb lb eb, kx_a kv cyI 12 gb, kx_a kn cyI 12 nb]) (w1 := [kx_2 q_t q_row q_joined q_from q_to q_size q_lossOf q_lessBy q_value q_number nodes here, kx_a q_from cyI 319 ff, kx_a q_to cyI 319 ft, kx_a q_size cyI 319 fs, kx_a q_lossOf cyI 319 fo, kx_a q_value cyI 1914 uv, kx_a q_number cyI 1914 un, kx_3 h0 a_v a_n o_45 o_46 o_47, kx_a a_v cyI 12 o_48, kx_a a_n cyI 12 o_49]) hP hD [3, 4, 5, 6, 7, 8, 9, 10, 11, 12] [0, 1, 2, 13, 14, 15] rfl rfl (by decide) (by decide) hk1 hFc hP1 hD1
    clear hP1 hD1 hK1 hk1 hz1 hFc hDc hPc hKc
    generalize H1 = H at hP hS ⊢
    have hP : va_P (dC, dI) vwCl [kx_4 m_ q_row q_t t_ h0 k0 w_ z_ slots old, kx_0 q_row q_cell len, kx_a q_cell cyI 160 f, kx_3 k0 kv kn sb lb eb, kx_a kv cyI 12 gb, kx_a kn cyI 12 nb, kx_2 q_t q_row q_joined q_from q_to q_size q_lossOf q_lessBy q_value q_number nodes here, kx_a q_from cyI 319 ff, kx_a q_to cyI 319 ft, kx_a q_size cyI 319 fs, kx_a q_lossOf cyI 319 fo, kx_a q_value cyI 1914 uv, kx_a q_number cyI 1914 un, kx_3 h0 a_v a_n o_45 o_46 o_47, kx_a a_v cyI 12 o_48, kx_a a_n cyI 12 o_49] H := hP
    have hD : va_D A [kx_4 m_ q_row q_t t_ h0 k0 w_ z_ slots old, kx_0 q_row q_cell len, kx_a q_cell cyI 160 f, kx_3 k0 kv kn sb lb eb, kx_a kv cyI 12 gb, kx_a kn cyI 12 nb, kx_2 q_t q_row q_joined q_from q_to q_size q_lossOf q_lessBy q_value q_number nodes here, kx_a q_from cyI 319 ff, kx_a q_to cyI 319 ft, kx_a q_size cyI 319 fs, kx_a q_lossOf cyI 319 fo, kx_a q_value cyI 1914 uv, kx_a q_number cyI 1914 un, kx_3 h0 a_v a_n o_45 o_46 o_47, kx_a a_v cyI 12 o_48, kx_a a_n cyI 12 o_49] := hD
    have w_44 : 0 ≤ o_45.toInt ∧ o_45.toInt ≤ 12 := w_44
    refine lv_aload_n hx hb dX4_gatherHeavyOfBoth_26 rfl (lv_at hl 1 rfl) ?_
    refine lv_aload_n hx hb dX4_gatherHeavyOfBoth_27 rfl (lv_at hl 0 rfl) ?_
    refine va_get (D := (dC, dI)) (ci := 4) (v := .ref k0) (C := RX4) (T := TX4) (N := 9) hx hb hts hi_4 hown hK hP 0 rfl rfl 4 (by decide) hf_39 (fun _ h9 => h9) rfl dX4_gatherHeavyOfBoth_28 ?_
    refine lv_iload_n hx hb dX4_gatherHeavyOfBoth_31 rfl (lv_at hl 2 rfl) ?_
    refine lv_iload hx hb dX4_gatherHeavyOfBoth_32 (lv_at hl 4 rfl) ?_
    refine va_mmax hx hb (hml.trans hl.1.symm) hown hm_96 hms_max hz_math hmc_max (Nat.le_of_ble_eq_true rfl) (Nat.le_of_ble_eq_true rfl) (Nat.le_of_ble_eq_true rfl) (Nat.le_of_ble_eq_true rfl) dX4_gatherHeavyOfBoth_34 ?_
    refine lv_topi (fun y_50 ey_50 => ?_)
    have i_51 : (p0.toInt ≤ p2.toInt ∧ y_50.toInt = p2.toInt) ∨ (p2.toInt < p0.toInt ∧ y_50.toInt = p0.toInt) := ki_max ey_50 rfl rfl
    refine lv_iload_n hx hb dX4_gatherHeavyOfBoth_37 rfl (lv_at hl 2 rfl) ?_
    refine lv_iload hx hb dX4_gatherHeavyOfBoth_38 (lv_at hl 4 rfl) ?_
    refine lv_icmp_ge (tgt := 48) hx hb dX4_gatherHeavyOfBoth_40 (by decide) (fun c_52 => ?_) (fun c_52 => ?_)
    · have i_52 : p2.toInt ≤ p0.toInt := kc_le c_52
      exfalso; omega
    · have i_52 : p0.toInt < p2.toInt := kc_nle c_52
      refine lv_iload hx hb dX4_gatherHeavyOfBoth_43 (lv_at hl 5 rfl) ?_
      refine lv_goto (tgt := 49) hx hb dX4_gatherHeavyOfBoth_45 (by decide) ?_
      have hPc := hP.sub (ws' := [kx_2 q_t q_row q_joined q_from q_to q_size q_lossOf q_lessBy q_value q_number nodes here, kx_a q_from cyI 319 ff, kx_a q_to cyI 319 ft, kx_a q_size cyI 319 fs, kx_a q_lossOf cyI 319 fo, kx_a q_value cyI 1914 uv, kx_a q_number cyI 1914 un, kx_3 k0 kv kn sb lb eb, kx_a kv cyI 12 gb, kx_a kn cyI 12 nb]) [6, 7, 8, 9, 10, 11, 12, 3, 4, 5] rfl
      have hKc := hK
      have hDc := hD.sub (ws' := [kx_2 q_t q_row q_joined q_from q_to q_size q_lossOf q_lessBy q_value q_number nodes here, kx_a q_from cyI 319 ff, kx_a q_to cyI 319 ft, kx_a q_size cyI 319 fs, kx_a q_lossOf cyI 319 fo, kx_a q_value cyI 1914 uv, kx_a q_number cyI 1914 un, kx_3 k0 kv kn sb lb eb, kx_a kv cyI 12 gb, kx_a kn cyI 12 nb]) [6, 7, 8, 9, 10, 11, 12, 3, 4, 5] (by decide) rfl
      have hFc := va_free (wc := [kx_2 q_t q_row q_joined q_from q_to q_size q_lossOf q_lessBy q_value q_number nodes here, kx_a q_from cyI 319 ff, kx_a q_to cyI 319 ft, kx_a q_size cyI 319 fs, kx_a q_lossOf cyI 319 fo, kx_a q_value cyI 1914 uv, kx_a q_number cyI 1914 un, kx_3 k0 kv kn sb lb eb, kx_a kv cyI 12 gb, kx_a kn cyI 12 nb]) hD hS hA [6, 7, 8, 9, 10, 11, 12, 3, 4, 5] rfl
      refine va_callv (va_runV (As := [.ref k0, .int y_50, .int p3]) (rest := []) ⟨hx, hb, hml, hown, hts⟩ (c_X2_gather l dC dI q_t q_row q_joined q_from q_to q_size q_lossOf q_lessBy q_value q_number nodes here k0 kv kn cyI sb lb eb gb nb ff ft fs fo uv un y_50 p3 H.size b0 c0 s0) (cwV 3 hts gX4_gatherHeavyOfBoth_X2_gather rfl rfl rfl (by decide +kernel) ⟨Nat.le_of_ble_eq_true rfl, Nat.le_of_ble_eq_true rfl⟩) ⟨fun a U g mk q => by obtain ⟨q0, q1, qP, qK, qD⟩ := q; exact ⟨q0, q1, qP, va_K.moved (u := U) (U := U.calling g mk a) (Vm.Alike.refl U.vm) qK, qD⟩, va_recv hKc hPc (ci := 2) (q0 := 0) rfl rfl, fun U hU hW => ⟨rfl, by rw [hU], by rw [hU]; exact hPc, va_K.moved hW.alike hKc, hDc.weaken (fun _ _ _ _ => trivial)⟩⟩ rfl rfl hl.1 rfl (lv_room (Nat.le_of_ble_eq_true rfl)) dX4_gatherHeavyOfBoth_49 ⟨Nat.le_of_ble_eq_true rfl, Nat.le_of_ble_eq_true rfl⟩) hS (fun q _ h => hFc q h) hFc (fun u t H1 locs ht hvm w_53 hB hz1 hk1 hS => ?_)
      obtain ⟨o_54, o_55, o_56, o_57, o_58⟩ := u
      dsimp only at w_53 hB
      obtain ⟨hP1, hK1, hD1⟩ := hB
      rw [ht] at hP1
      have hK1 := va_K.moved hvm.symm hK1
      obtain ⟨hP, hD⟩ := va_join (wr := [kx_4 m_ q_row q_t t_ h0 k0 w_ z_ slots old, kx_0 q_row q_cell len, kx_a q_cell cyI 160 f, kx_3 h0 a_v a_n o_45 o_46 o_47, kx_a a_v cyI 12 o_48, kx_a a_n cyI 12 o_49]) (w1 := [kx_2 q_t q_row q_joined q_from q_to q_size q_lossOf q_lessBy q_value q_number nodes here, kx_a q_from cyI 319 ff, kx_a q_to cyI 319 ft, kx_a q_size cyI 319 fs, kx_a q_lossOf cyI 319 fo, kx_a q_value cyI 1914 uv, kx_a q_number cyI 1914 un, kx_3 k0 kv kn o_54 o_55 o_56, kx_a kv cyI 12 o_57, kx_a kn cyI 12 o_58]) hP hD [6, 7, 8, 9, 10, 11, 12, 3, 4, 5] [0, 1, 2, 13, 14, 15] rfl rfl (by decide) (by decide) hk1 hFc hP1 hD1
      clear hP1 hD1 hK1 hk1 hz1 hFc hDc hPc hKc
      generalize H1 = H at hP hS ⊢
      have hP : va_P (dC, dI) vwCl [kx_4 m_ q_row q_t t_ h0 k0 w_ z_ slots old, kx_0 q_row q_cell len, kx_a q_cell cyI 160 f, kx_3 h0 a_v a_n o_45 o_46 o_47, kx_a a_v cyI 12 o_48, kx_a a_n cyI 12 o_49, kx_2 q_t q_row q_joined q_from q_to q_size q_lossOf q_lessBy q_value q_number nodes here, kx_a q_from cyI 319 ff, kx_a q_to cyI 319 ft, kx_a q_size cyI 319 fs, kx_a q_lossOf cyI 319 fo, kx_a q_value cyI 1914 uv, kx_a q_number cyI 1914 un, kx_3 k0 kv kn o_54 o_55 o_56, kx_a kv cyI 12 o_57, kx_a kn cyI 12 o_58] H := hP
      have hD : va_D A [kx_4 m_ q_row q_t t_ h0 k0 w_ z_ slots old, kx_0 q_row q_cell len, kx_a q_cell cyI 160 f, kx_3 h0 a_v a_n o_45 o_46 o_47, kx_a a_v cyI 12 o_48, kx_a a_n cyI 12 o_49, kx_2 q_t q_row q_joined q_from q_to q_size q_lossOf q_lessBy q_value q_number nodes here, kx_a q_from cyI 319 ff, kx_a q_to cyI 319 ft, kx_a q_size cyI 319 fs, kx_a q_lossOf cyI 319 fo, kx_a q_value cyI 1914 uv, kx_a q_number cyI 1914 un, kx_3 k0 kv kn o_54 o_55 o_56, kx_a kv cyI 12 o_57, kx_a kn cyI 12 o_58] := hD
      have w_53 : 0 ≤ o_54.toInt ∧ o_54.toInt ≤ 12 := w_53
      refine lv_aload_n hx hb dX4_gatherHeavyOfBoth_52 rfl (lv_at hl 0 rfl) ?_
      refine va_get (D := (dC, dI)) (ci := 4) (v := .ref h0) (C := RX4) (T := TX4) (N := 9) hx hb hts hi_4 hown hK hP 0 rfl rfl 3 (by decide) hf_35 (fun _ h9 => h9) rfl dX4_gatherHeavyOfBoth_53 ?_
      refine lv_aload_n hx hb dX4_gatherHeavyOfBoth_56 rfl (lv_at hl 0 rfl) ?_
      refine va_get (D := (dC, dI)) (ci := 4) (v := .ref k0) (C := RX4) (T := TX4) (N := 9) hx hb hts hi_4 hown hK hP 0 rfl rfl 4 (by decide) hf_39 (fun _ h9 => h9) rfl dX4_gatherHeavyOfBoth_57 ?_
      have hPc := hP.sub (ws' := [kx_3 h0 a_v a_n o_45 o_46 o_47, kx_a a_v cyI 12 o_48, kx_a a_n cyI 12 o_49, kx_3 k0 kv kn o_54 o_55 o_56, kx_a kv cyI 12 o_57, kx_a kn cyI 12 o_58]) [3, 4, 5, 13, 14, 15] rfl
      have hKc := hK
      have hDc := hD.sub (ws' := [kx_3 h0 a_v a_n o_45 o_46 o_47, kx_a a_v cyI 12 o_48, kx_a a_n cyI 12 o_49, kx_3 k0 kv kn o_54 o_55 o_56, kx_a kv cyI 12 o_57, kx_a kn cyI 12 o_58]) [3, 4, 5, 13, 14, 15] (by decide) rfl
      have hFc := va_free (wc := [kx_3 h0 a_v a_n o_45 o_46 o_47, kx_a a_v cyI 12 o_48, kx_a a_n cyI 12 o_49, kx_3 k0 kv kn o_54 o_55 o_56, kx_a kv cyI 12 o_57, kx_a kn cyI 12 o_58]) hD hS hA [3, 4, 5, 13, 14, 15] rfl
      refine va_callv (va_runV (As := [.ref k0]) (rest := []) ⟨hx, hb, hml, hown, hts⟩ (c_X3_join l dC dI h0 a_v a_n cyI o_45 o_46 o_47 o_48 o_49 k0 kv kn o_54 o_55 o_56 o_57 o_58 H.size w_44.1 w_44.2 w_53.1 w_53.2) (cwV 1 hts gX4_gatherHeavyOfBoth_X3_join rfl rfl rfl (by decide +kernel) ⟨Nat.le_of_ble_eq_true rfl, Nat.le_of_ble_eq_true rfl⟩) ⟨fun a U g mk q => by obtain ⟨q0, q1, qP, qK, qD⟩ := q; exact ⟨q0, q1, qP, va_K.moved (u := U) (U := U.calling g mk a) (Vm.Alike.refl U.vm) qK, qD⟩, va_recv hKc hPc (ci := 3) (q0 := 0) rfl rfl, fun U hU hW => ⟨rfl, by rw [hU], by rw [hU]; exact hPc, va_K.moved hW.alike hKc, hDc.weaken (fun _ _ _ _ => trivial)⟩⟩ rfl rfl hl.1 rfl (lv_room (Nat.le_of_ble_eq_true rfl)) dX4_gatherHeavyOfBoth_60 ⟨Nat.le_of_ble_eq_true rfl, Nat.le_of_ble_eq_true rfl⟩) hS (fun q _ h => hFc q h) hFc (fun u t H1 locs ht hvm w_59 hB hz1 hk1 hS => ?_)
      obtain ⟨o_60, o_61, o_62, o_63⟩ := u
      dsimp only at w_59 hB
      obtain ⟨hP1, hK1, hD1⟩ := hB
      rw [ht] at hP1
      have hK1 := va_K.moved hvm.symm hK1
      obtain ⟨hP, hD⟩ := va_join (wr := [kx_4 m_ q_row q_t t_ h0 k0 w_ z_ slots old, kx_0 q_row q_cell len, kx_a q_cell cyI 160 f, kx_2 q_t q_row q_joined q_from q_to q_size q_lossOf q_lessBy q_value q_number nodes here, kx_a q_from cyI 319 ff, kx_a q_to cyI 319 ft, kx_a q_size cyI 319 fs, kx_a q_lossOf cyI 319 fo, kx_a q_value cyI 1914 uv, kx_a q_number cyI 1914 un]) (w1 := [kx_3 h0 a_v a_n o_60 o_61 o_47, kx_a a_v cyI 12 o_62, kx_a a_n cyI 12 o_63, kx_3 k0 kv kn o_54 o_55 o_56, kx_a kv cyI 12 o_57, kx_a kn cyI 12 o_58]) hP hD [3, 4, 5, 13, 14, 15] [0, 1, 2, 6, 7, 8, 9, 10, 11, 12] rfl rfl (by decide) (by decide) hk1 hFc hP1 hD1
      clear hP1 hD1 hK1 hk1 hz1 hFc hDc hPc hKc
      generalize H1 = H at hP hS ⊢
      have hP : va_P (dC, dI) vwCl [kx_4 m_ q_row q_t t_ h0 k0 w_ z_ slots old, kx_0 q_row q_cell len, kx_a q_cell cyI 160 f, kx_2 q_t q_row q_joined q_from q_to q_size q_lossOf q_lessBy q_value q_number nodes here, kx_a q_from cyI 319 ff, kx_a q_to cyI 319 ft, kx_a q_size cyI 319 fs, kx_a q_lossOf cyI 319 fo, kx_a q_value cyI 1914 uv, kx_a q_number cyI 1914 un, kx_3 h0 a_v a_n o_60 o_61 o_47, kx_a a_v cyI 12 o_62, kx_a a_n cyI 12 o_63, kx_3 k0 kv kn o_54 o_55 o_56, kx_a kv cyI 12 o_57, kx_a kn cyI 12 o_58] H := hP
      have hD : va_D A [kx_4 m_ q_row q_t t_ h0 k0 w_ z_ slots old, kx_0 q_row q_cell len, kx_a q_cell cyI 160 f, kx_2 q_t q_row q_joined q_from q_to q_size q_lossOf q_lessBy q_value q_number nodes here, kx_a q_from cyI 319 ff, kx_a q_to cyI 319 ft, kx_a q_size cyI 319 fs, kx_a q_lossOf cyI 319 fo, kx_a q_value cyI 1914 uv, kx_a q_number cyI 1914 un, kx_3 h0 a_v a_n o_60 o_61 o_47, kx_a a_v cyI 12 o_62, kx_a a_n cyI 12 o_63, kx_3 k0 kv kn o_54 o_55 o_56, kx_a kv cyI 12 o_57, kx_a kn cyI 12 o_58] := hD
      have w_59 : 0 ≤ o_60.toInt ∧ o_60.toInt ≤ 12 := w_59
      refine lv_aload_n hx hb dX4_gatherHeavyOfBoth_63 rfl (lv_at hl 0 rfl) ?_
      refine va_get (D := (dC, dI)) (ci := 4) (v := .ref h0) (C := RX4) (T := TX4) (N := 9) hx hb hts hi_4 hown hK hP 0 rfl rfl 3 (by decide) hf_35 (fun _ h9 => h9) rfl dX4_gatherHeavyOfBoth_64 ?_
      refine lv_aload_n hx hb dX4_gatherHeavyOfBoth_67 rfl (lv_at hl 0 rfl) ?_
      refine va_get (D := (dC, dI)) (ci := 4) (v := .int slots) (C := RX4) (T := TX4) (N := 9) hx hb hts hi_4 hown hK hP 0 rfl rfl 7 (by decide) hf_49 (fun _ h9 => h9) rfl dX4_gatherHeavyOfBoth_68 ?_
      have hPc := hP.sub (ws' := [kx_3 h0 a_v a_n o_60 o_61 o_47, kx_a a_v cyI 12 o_62, kx_a a_n cyI 12 o_63]) [10, 11, 12] rfl
      have hKc := hK
      have hDc := hD.sub (ws' := [kx_3 h0 a_v a_n o_60 o_61 o_47, kx_a a_v cyI 12 o_62, kx_a a_n cyI 12 o_63]) [10, 11, 12] (by decide) rfl
      have hFc := va_free (wc := [kx_3 h0 a_v a_n o_60 o_61 o_47, kx_a a_v cyI 12 o_62, kx_a a_n cyI 12 o_63]) hD hS hA [10, 11, 12] rfl
      refine va_callv (va_runV (As := [.int slots]) (rest := []) ⟨hx, hb, hml, hown, hts⟩ (c_X3_cancel l dC dI h0 a_v a_n cyI o_60 o_61 o_47 o_62 o_63 slots H.size w_59.1 w_59.2) (cwV 1 hts gX4_gatherHeavyOfBoth_X3_cancel rfl rfl rfl (by decide +kernel) ⟨Nat.le_of_ble_eq_true rfl, Nat.le_of_ble_eq_true rfl⟩) ⟨fun a U g mk q => by obtain ⟨q0, q1, qP, qK, qD⟩ := q; exact ⟨q0, q1, qP, va_K.moved (u := U) (U := U.calling g mk a) (Vm.Alike.refl U.vm) qK, qD⟩, va_recv hKc hPc (ci := 3) (q0 := 0) rfl rfl, fun U hU hW => ⟨rfl, by rw [hU], by rw [hU]; exact hPc, va_K.moved hW.alike hKc, hDc.weaken (fun _ _ _ _ => trivial)⟩⟩ rfl rfl hl.1 rfl (lv_room (Nat.le_of_ble_eq_true rfl)) dX4_gatherHeavyOfBoth_71 ⟨Nat.le_of_ble_eq_true rfl, Nat.le_of_ble_eq_true rfl⟩) hS (fun q _ h => hFc q h) hFc (fun u t H1 locs ht hvm w_64 hB hz1 hk1 hS => ?_)
      obtain ⟨o_65, o_66, o_67, o_68, o_69⟩ := u
      dsimp only at w_64 hB
      obtain ⟨hP1, hK1, hD1⟩ := hB
      rw [ht] at hP1
      have hK1 := va_K.moved hvm.symm hK1
      obtain ⟨hP, hD⟩ := va_join (wr := [kx_4 m_ q_row q_t t_ h0 k0 w_ z_ slots old, kx_0 q_row q_cell len, kx_a q_cell cyI 160 f, kx_2 q_t q_row q_joined q_from q_to q_size q_lossOf q_lessBy q_value q_number nodes here, kx_a q_from cyI 319 ff, kx_a q_to cyI 319 ft, kx_a q_size cyI 319 fs, kx_a q_lossOf cyI 319 fo, kx_a q_value cyI 1914 uv, kx_a q_number cyI 1914 un, kx_3 k0 kv kn o_54 o_55 o_56, kx_a kv cyI 12 o_57, kx_a kn cyI 12 o_58]) (w1 := [kx_3 h0 a_v a_n o_65 o_66 o_67, kx_a a_v cyI 12 o_68, kx_a a_n cyI 12 o_69]) hP hD [10, 11, 12] [0, 1, 2, 3, 4, 5, 6, 7, 8, 9, 13, 14, 15] rfl rfl (by decide) (by decide) hk1 hFc hP1 hD1
      clear hP1 hD1 hK1 hk1 hz1 hFc hDc hPc hKc
      generalize H1 = H at hP hS ⊢
      have hP : va_P (dC, dI) vwCl [kx_4 m_ q_row q_t t_ h0 k0 w_ z_ slots old, kx_0 q_row q_cell len, kx_a q_cell cyI 160 f, kx_2 q_t q_row q_joined q_from q_to q_size q_lossOf q_lessBy q_value q_number nodes here, kx_a q_from cyI 319 ff, kx_a q_to cyI 319 ft, kx_a q_size cyI 319 fs, kx_a q_lossOf cyI 319 fo, kx_a q_value cyI 1914 uv, kx_a q_number cyI 1914 un, kx_3 k0 kv kn o_54 o_55 o_56, kx_a kv cyI 12 o_57, kx_a kn cyI 12 o_58, kx_3 h0 a_v a_n o_65 o_66 o_67, kx_a a_v cyI 12 o_68, kx_a a_n cyI 12 o_69] H := hP
      have hD : va_D A [kx_4 m_ q_row q_t t_ h0 k0 w_ z_ slots old, kx_0 q_row q_cell len, kx_a q_cell cyI 160 f, kx_2 q_t q_row q_joined q_from q_to q_size q_lossOf q_lessBy q_value q_number nodes here, kx_a q_from cyI 319 ff, kx_a q_to cyI 319 ft, kx_a q_size cyI 319 fs, kx_a q_lossOf cyI 319 fo, kx_a q_value cyI 1914 uv, kx_a q_number cyI 1914 un, kx_3 k0 kv kn o_54 o_55 o_56, kx_a kv cyI 12 o_57, kx_a kn cyI 12 o_58, kx_3 h0 a_v a_n o_65 o_66 o_67, kx_a a_v cyI 12 o_68, kx_a a_n cyI 12 o_69] := hD
      have w_64 : 0 ≤ o_65.toInt ∧ o_65.toInt ≤ o_60.toInt := w_64
      refine lv_iconst (v := 0) hx hb dX4_gatherHeavyOfBoth_74 (by decide) ?_
      refine lv_istore (lv' := [(8, .int 0), (0, .ref m_), (1, .ref q_t), (2, .int p0), (3, .int p1), (4, .int p2), (5, .int p3), (6, .int p4), (7, .int p5)]) hx hb dX4_gatherHeavyOfBoth_75 hl (by decide) rfl (fun ls hl => ?_)
      have LP2 : ∀ (n : Nat) (i : Int32) (wn : Nat → Int32), (0 ≤ i.toInt) → (o_65.toInt - i.toInt).toNat < n → ∀ (H : Heap) (locs : List Loc), va_P (dC, dI) vwCl [kx_4 m_ q_row q_t t_ h0 k0 w_ z_ slots old, kx_0 q_row q_cell len, kx_a q_cell cyI 160 f, kx_2 q_t q_row q_joined q_from q_to q_size q_lossOf q_lessBy q_value q_number nodes here, kx_a q_from cyI 319 ff, kx_a q_to cyI 319 ft, kx_a q_size cyI 319 fs, kx_a q_lossOf cyI 319 fo, kx_a q_value cyI 1914 uv, kx_a q_number cyI 1914 un, kx_3 k0 kv kn o_54 o_55 o_56, kx_a kv cyI 12 o_57, kx_a kn cyI 12 o_58, kx_3 h0 a_v a_n o_65 o_66 o_67, kx_a a_v cyI 12 o_68, kx_a a_n cyI 12 wn] H → va_D A [kx_4 m_ q_row q_t t_ h0 k0 w_ z_ slots old, kx_0 q_row q_cell len, kx_a q_cell cyI 160 f, kx_2 q_t q_row q_joined q_from q_to q_size q_lossOf q_lessBy q_value q_number nodes here, kx_a q_from cyI 319 ff, kx_a q_to cyI 319 ft, kx_a q_size cyI 319 fs, kx_a q_lossOf cyI 319 fo, kx_a q_value cyI 1914 uv, kx_a q_number cyI 1914 un, kx_3 k0 kv kn o_54 o_55 o_56, kx_a kv cyI 12 o_57, kx_a kn cyI 12 o_58, kx_3 h0 a_v a_n o_65 o_66 o_67, kx_a a_v cyI 12 o_68, kx_a a_n cyI 12 wn] → va_S A s.heap H locs → ∀ (ls : Array Slot), lv_has ls 10 [(8, .int i), (0, .ref m_), (1, .ref q_t), (2, .int p0), (3, .int p1), (4, .int p2), (5, .int p3), (6, .int p4), (7, .int p5)] → W p l e (headSpec wsX4_gatherHeavyOfBoth ({ frames := 4, cells := 0, slots := 0, locals := 180 })).room s m ([.ref m_, .ref q_t, .int p0, .int p1, .int p2, .int p3, .int p4, .int p5] : List Value).toArray below meth c H locs 0 0 (MQ below (va_Qv (fun u : Int32 × Int32 × Int32 × (Nat → Int32) × (Nat → Int32) × Int32 × Int32 × Int32 × (Nat → Int32) × (Nat → Int32) => 0 ≤ u.1.toInt ∧ u.1.toInt ≤ 12) (fun (u : Int32 × Int32 × Int32 × (Nat → Int32) × (Nat → Int32) × Int32 × Int32 × Int32 × (Nat → Int32) × (Nat → Int32)) (t : State) => va_P (dC, dI) vwCl [kx_4 m_ q_row q_t t_ h0 k0 w_ z_ slots old, kx_0 q_row q_cell len, kx_a q_cell cyI 160 f, kx_2 q_t q_row q_joined q_from q_to q_size q_lossOf q_lessBy q_value q_number nodes here, kx_a q_from cyI 319 ff, kx_a q_to cyI 319 ft, kx_a q_size cyI 319 fs, kx_a q_lossOf cyI 319 fo, kx_a q_value cyI 1914 uv, kx_a q_number cyI 1914 un, kx_3 h0 a_v a_n u.1 u.2.1 u.2.2.1, kx_a a_v cyI 12 u.2.2.2.1, kx_a a_n cyI 12 u.2.2.2.2.1, kx_3 k0 kv kn u.2.2.2.2.2.1 u.2.2.2.2.2.2.1 u.2.2.2.2.2.2.2.1, kx_a kv cyI 12 u.2.2.2.2.2.2.2.2.1, kx_a kn cyI 12 u.2.2.2.2.2.2.2.2.2] t.heap ∧ va_K (dC, dI) vwCl [(cyI, .int)] t ∧ va_D A [kx_4 m_ q_row q_t t_ h0 k0 w_ z_ slots old, kx_0 q_row q_cell len, kx_a q_cell cyI 160 f, kx_2 q_t q_row q_joined q_from q_to q_size q_lossOf q_lessBy q_value q_number nodes here, kx_a q_from cyI 319 ff, kx_a q_to cyI 319 ft, kx_a q_size cyI 319 fs, kx_a q_lossOf cyI 319 fo, kx_a q_value cyI 1914 uv, kx_a q_number cyI 1914 un, kx_3 h0 a_v a_n u.1 u.2.1 u.2.2.1, kx_a a_v cyI 12 u.2.2.2.1, kx_a a_n cyI 12 u.2.2.2.2.1, kx_3 k0 kv kn u.2.2.2.2.2.1 u.2.2.2.2.2.2.1 u.2.2.2.2.2.2.2.1, kx_a kv cyI 12 u.2.2.2.2.2.2.2.2.1, kx_a kn cyI 12 u.2.2.2.2.2.2.2.2.2]) A) ([.ref m_, .ref q_t, .int p0, .int p1, .int p2, .int p3, .int p4, .int p5] : List Value).toArray s 0 0 A) (F0 m 77 ls []) := by
        intro n
        induction n with
        | zero => intro i wn LP2_h0 hn; exact absurd hn (Nat.not_lt_zero _)
        | succ n ih2 =>
          intro i wn LP2_h0 hn2 H locs hP hD hS ls hl
          refine lv_iload hx hb dX4_gatherHeavyOfBoth_77 (lv_at hl 0 rfl) ?_
          refine lv_aload_n hx hb dX4_gatherHeavyOfBoth_79 rfl (lv_at hl 1 rfl) ?_
          refine va_get (D := (dC, dI)) (ci := 4) (v := .ref h0) (C := RX4) (T := TX4) (N := 9) hx hb hts hi_4 hown hK hP 0 rfl rfl 3 (by decide) hf_35 (fun _ h9 => h9) rfl dX4_gatherHeavyOfBoth_80 ?_
          refine va_get (D := (dC, dI)) (ci := 3) (v := .int o_65) (C := RX3) (T := TX3) (N := 5) hx hb hts hi_3 hown hK hP 13 rfl rfl 2 (by decide) hf_174 (fun _ h9 => h9) rfl dX4_gatherHeavyOfBoth_83 ?_
          refine lv_icmp_ge (tgt := 142) hx hb dX4_gatherHeavyOfBoth_86 (by decide) (fun c_70 => ?_) (fun c_70 => ?_)
          · have i_70 : o_65.toInt ≤ i.toInt := kc_le c_70
            refine lv_aload_n hx hb dX4_gatherHeavyOfBoth_142 rfl (lv_at hl 1 rfl) ?_
            refine va_get (D := (dC, dI)) (ci := 4) (v := .ref h0) (C := RX4) (T := TX4) (N := 9) hx hb hts hi_4 hown hK hP 0 rfl rfl 3 (by decide) hf_35 (fun _ h9 => h9) rfl dX4_gatherHeavyOfBoth_143 ?_
            refine lv_iload_n hx hb dX4_gatherHeavyOfBoth_146 rfl (lv_at hl 4 rfl) ?_
            refine lv_iload_n hx hb dX4_gatherHeavyOfBoth_147 rfl (lv_at hl 3 rfl) ?_
            refine lv_isub hx hb dX4_gatherHeavyOfBoth_148 ?_
            refine lv_topi (fun y_71 ey_71 => ?_)
            refine lv_iload hx hb dX4_gatherHeavyOfBoth_149 (lv_at hl 6 rfl) ?_
            refine lv_iadd hx hb dX4_gatherHeavyOfBoth_151 ?_
            refine lv_topi (fun y_72 ey_72 => ?_)
            refine lv_iload hx hb dX4_gatherHeavyOfBoth_152 (lv_at hl 5 rfl) ?_
            refine lv_isub hx hb dX4_gatherHeavyOfBoth_154 ?_
            refine lv_topi (fun y_73 ey_73 => ?_)
            refine lv_iload hx hb dX4_gatherHeavyOfBoth_155 (lv_at hl 7 rfl) ?_
            refine lv_iload hx hb dX4_gatherHeavyOfBoth_157 (lv_at hl 8 rfl) ?_
            have hPc := hP.sub (ws' := [kx_3 h0 a_v a_n o_65 o_66 o_67, kx_a a_v cyI 12 o_68, kx_a a_n cyI 12 wn]) [13, 14, 15] rfl
            have hKc := hK
            have hDc := hD.sub (ws' := [kx_3 h0 a_v a_n o_65 o_66 o_67, kx_a a_v cyI 12 o_68, kx_a a_n cyI 12 wn]) [13, 14, 15] (by decide) rfl
            have hFc := va_free (wc := [kx_3 h0 a_v a_n o_65 o_66 o_67, kx_a a_v cyI 12 o_68, kx_a a_n cyI 12 wn]) hD hS hA [13, 14, 15] rfl
            refine va_callv (va_runV (As := [.int y_73, .int p4, .int p5]) (rest := []) ⟨hx, hb, hml, hown, hts⟩ (c_X3_keepHeavy l dC dI h0 a_v a_n cyI o_65 o_66 o_67 o_68 wn y_73 p4 p5 H.size w_64.1 (om_103 w_59.2 w_64.2)) (cwV 3 hts gX4_gatherHeavyOfBoth_X3_keepHeavy rfl rfl rfl (by decide +kernel) ⟨Nat.le_of_ble_eq_true rfl, Nat.le_of_ble_eq_true rfl⟩) ⟨fun a U g mk q => by obtain ⟨q0, q1, qP, qK, qD, qn0⟩ := q; exact ⟨q0, q1, qP, va_K.moved (u := U) (U := U.calling g mk a) (Vm.Alike.refl U.vm) qK, qD, va_Nw.same (u := U) (U := U.calling g mk a) rfl rfl qn0⟩, va_recv hKc hPc (ci := 3) (q0 := 0) rfl rfl, fun U hU hW => ⟨rfl, by rw [hU], by rw [hU]; exact hPc, va_K.moved hW.alike hKc, hDc.weaken (fun _ _ _ _ => trivial), va_Nw.warmM hW hN0⟩⟩ rfl rfl hl.1 rfl (lv_room (Nat.le_of_ble_eq_true rfl)) dX4_gatherHeavyOfBoth_159 ⟨Nat.le_of_ble_eq_true rfl, Nat.le_of_ble_eq_true rfl⟩) hS (fun q _ h => hFc q h) hFc (fun u t H1 locs ht hvm w_74 hB hz1 hk1 hS => ?_)
            obtain ⟨o_75, o_76, o_77⟩ := u
            dsimp only at w_74 hB
            obtain ⟨hP1, hK1, hD1⟩ := hB
            rw [ht] at hP1
            have hK1 := va_K.moved hvm.symm hK1
            obtain ⟨hP, hD⟩ := va_join (wr := [kx_4 m_ q_row q_t t_ h0 k0 w_ z_ slots old, kx_0 q_row q_cell len, kx_a q_cell cyI 160 f, kx_2 q_t q_row q_joined q_from q_to q_size q_lossOf q_lessBy q_value q_number nodes here, kx_a q_from cyI 319 ff, kx_a q_to cyI 319 ft, kx_a q_size cyI 319 fs, kx_a q_lossOf cyI 319 fo, kx_a q_value cyI 1914 uv, kx_a q_number cyI 1914 un, kx_3 k0 kv kn o_54 o_55 o_56, kx_a kv cyI 12 o_57, kx_a kn cyI 12 o_58]) (w1 := [kx_3 h0 a_v a_n o_75 o_66 o_67, kx_a a_v cyI 12 o_76, kx_a a_n cyI 12 o_77]) hP hD [13, 14, 15] [0, 1, 2, 3, 4, 5, 6, 7, 8, 9, 10, 11, 12] rfl rfl (by decide) (by decide) hk1 hFc hP1 hD1
            clear hP1 hD1 hK1 hk1 hz1 hFc hDc hPc hKc
            generalize H1 = H at hP hS ⊢
            have hP : va_P (dC, dI) vwCl [kx_4 m_ q_row q_t t_ h0 k0 w_ z_ slots old, kx_0 q_row q_cell len, kx_a q_cell cyI 160 f, kx_2 q_t q_row q_joined q_from q_to q_size q_lossOf q_lessBy q_value q_number nodes here, kx_a q_from cyI 319 ff, kx_a q_to cyI 319 ft, kx_a q_size cyI 319 fs, kx_a q_lossOf cyI 319 fo, kx_a q_value cyI 1914 uv, kx_a q_number cyI 1914 un, kx_3 k0 kv kn o_54 o_55 o_56, kx_a kv cyI 12 o_57, kx_a kn cyI 12 o_58, kx_3 h0 a_v a_n o_75 o_66 o_67, kx_a a_v cyI 12 o_76, kx_a a_n cyI 12 o_77] H := hP
            have hD : va_D A [kx_4 m_ q_row q_t t_ h0 k0 w_ z_ slots old, kx_0 q_row q_cell len, kx_a q_cell cyI 160 f, kx_2 q_t q_row q_joined q_from q_to q_size q_lossOf q_lessBy q_value q_number nodes here, kx_a q_from cyI 319 ff, kx_a q_to cyI 319 ft, kx_a q_size cyI 319 fs, kx_a q_lossOf cyI 319 fo, kx_a q_value cyI 1914 uv, kx_a q_number cyI 1914 un, kx_3 k0 kv kn o_54 o_55 o_56, kx_a kv cyI 12 o_57, kx_a kn cyI 12 o_58, kx_3 h0 a_v a_n o_75 o_66 o_67, kx_a a_v cyI 12 o_76, kx_a a_n cyI 12 o_77] := hD
            have w_74 : 0 ≤ o_75.toInt ∧ o_75.toInt ≤ o_65.toInt := w_74
            have hP9 := hP.sub (ws' := [kx_4 m_ q_row q_t t_ h0 k0 w_ z_ slots old, kx_0 q_row q_cell len, kx_a q_cell cyI 160 f, kx_2 q_t q_row q_joined q_from q_to q_size q_lossOf q_lessBy q_value q_number nodes here, kx_a q_from cyI 319 ff, kx_a q_to cyI 319 ft, kx_a q_size cyI 319 fs, kx_a q_lossOf cyI 319 fo, kx_a q_value cyI 1914 uv, kx_a q_number cyI 1914 un, kx_3 h0 a_v a_n o_75 o_66 o_67, kx_a a_v cyI 12 o_76, kx_a a_n cyI 12 o_77, kx_3 k0 kv kn o_54 o_55 o_56, kx_a kv cyI 12 o_57, kx_a kn cyI 12 o_58]) [0, 1, 2, 3, 4, 5, 6, 7, 8, 9, 13, 14, 15, 10, 11, 12] rfl
            have hD9 := hD.sub (ws' := [kx_4 m_ q_row q_t t_ h0 k0 w_ z_ slots old, kx_0 q_row q_cell len, kx_a q_cell cyI 160 f, kx_2 q_t q_row q_joined q_from q_to q_size q_lossOf q_lessBy q_value q_number nodes here, kx_a q_from cyI 319 ff, kx_a q_to cyI 319 ft, kx_a q_size cyI 319 fs, kx_a q_lossOf cyI 319 fo, kx_a q_value cyI 1914 uv, kx_a q_number cyI 1914 un, kx_3 h0 a_v a_n o_75 o_66 o_67, kx_a a_v cyI 12 o_76, kx_a a_n cyI 12 o_77, kx_3 k0 kv kn o_54 o_55 o_56, kx_a kv cyI 12 o_57, kx_a kn cyI 12 o_58]) [0, 1, 2, 3, 4, 5, 6, 7, 8, 9, 13, 14, 15, 10, 11, 12] (by decide) rfl
            have hK9 := hK
            exact W.vret hx hb hr (fun t ht hW => ⟨⟨(o_75, o_66, o_67, o_76, o_77, o_54, o_55, o_56, o_57, o_58), rfl, (by (try dsimp only); omega), by rw [ht]; exact hP9, va_K.moved hW.alike hK9, hD9⟩, hS.F ht⟩) hS.2.2 dX4_gatherHeavyOfBoth_162
          · have i_70 : i.toInt < o_65.toInt := kc_nle c_70
            refine lv_aload_n hx hb dX4_gatherHeavyOfBoth_89 rfl (lv_at hl 1 rfl) ?_
            refine va_get (D := (dC, dI)) (ci := 4) (v := .ref h0) (C := RX4) (T := TX4) (N := 9) hx hb hts hi_4 hown hK hP 0 rfl rfl 3 (by decide) hf_35 (fun _ h9 => h9) rfl dX4_gatherHeavyOfBoth_90 ?_
            refine va_get (D := (dC, dI)) (ci := 3) (v := .ref a_v) (C := RX3) (T := TX3) (N := 5) hx hb hts hi_3 hown hK hP 13 rfl rfl 0 (by decide) hf_133 (fun _ h9 => h9) rfl dX4_gatherHeavyOfBoth_93 ?_
            refine lv_iload hx hb dX4_gatherHeavyOfBoth_96 (lv_at hl 0 rfl) ?_
            refine va_iald hx hb hK hP 14 0 rfl rfl (ki_in (om_8 LP2_h0) (om_141 w_59.2 w_64.2 i_70)) dX4_gatherHeavyOfBoth_98 ?_
            refine lv_topi (fun y_78 ey_78 => ?_)
            have j_78 : y_78.toInt = (o_68 i.toNatClampNeg).toInt := congrArg Int32.toInt ey_78
            refine lv_istore (lv' := [(9, .int y_78), (8, .int i), (0, .ref m_), (1, .ref q_t), (2, .int p0), (3, .int p1), (4, .int p2), (5, .int p3), (6, .int p4), (7, .int p5)]) hx hb dX4_gatherHeavyOfBoth_99 hl (by decide) rfl (fun ls hl => ?_)
            refine lv_aload_n hx hb dX4_gatherHeavyOfBoth_101 rfl (lv_at hl 2 rfl) ?_
            refine va_get (D := (dC, dI)) (ci := 4) (v := .ref h0) (C := RX4) (T := TX4) (N := 9) hx hb hts hi_4 hown hK hP 0 rfl rfl 3 (by decide) hf_35 (fun _ h9 => h9) rfl dX4_gatherHeavyOfBoth_102 ?_
            refine va_get (D := (dC, dI)) (ci := 3) (v := .ref a_n) (C := RX3) (T := TX3) (N := 5) hx hb hts hi_3 hown hK hP 13 rfl rfl 1 (by decide) hf_136 (fun _ h9 => h9) rfl dX4_gatherHeavyOfBoth_105 ?_
            refine lv_iload hx hb dX4_gatherHeavyOfBoth_108 (lv_at hl 1 rfl) ?_
            refine lv_aload_n hx hb dX4_gatherHeavyOfBoth_110 rfl (lv_at hl 2 rfl) ?_
            refine va_get (D := (dC, dI)) (ci := 4) (v := .ref q_row) (C := RX4) (T := TX4) (N := 9) hx hb hts hi_4 hown hK hP 0 rfl rfl 0 (by decide) hf_12 (fun _ h9 => h9) rfl dX4_gatherHeavyOfBoth_111 ?_
            refine lv_iload hx hb dX4_gatherHeavyOfBoth_114 (lv_at hl 0 rfl) ?_
            refine lv_iload_n hx hb dX4_gatherHeavyOfBoth_116 rfl (lv_at hl 4 rfl) ?_
            refine lv_iload_n hx hb dX4_gatherHeavyOfBoth_117 rfl (lv_at hl 5 rfl) ?_
            have hPc := hP.sub (ws' := [kx_0 q_row q_cell len, kx_a q_cell cyI 160 f]) [1, 2] rfl
            have hKc := hK
            refine vp_callSi (W.runV (As := [.int y_78, .int p0, .int p1]) (rest := [.int i, .ref a_n]) ⟨hx, hb, hml, hown, hts⟩ (c_X0_oftenIn l dC dI q_row q_cell cyI len f y_78 p0 p1 d0 d1) (cwV 3 hts gX4_gatherHeavyOfBoth_X0_oftenIn rfl rfl rfl (by decide +kernel) ⟨Nat.le_of_ble_eq_true rfl, Nat.le_of_ble_eq_true rfl⟩) ⟨fun a U g mk q => by obtain ⟨q0, qP, qK⟩ := q; exact ⟨q0, qP, va_K.moved (u := U) (U := U.calling g mk a) (Vm.Alike.refl U.vm) qK⟩, va_recv hKc hPc (ci := 0) (q0 := 0) rfl rfl, fun U hU hW => ⟨rfl, by rw [hU]; exact hPc, va_K.moved hW.alike hKc⟩⟩ rfl rfl hl.1 rfl (lv_room (Nat.le_of_ble_eq_true rfl)) dX4_gatherHeavyOfBoth_118 ⟨Nat.le_of_ble_eq_true rfl, Nat.le_of_ble_eq_true rfl⟩) (fun r_79 w_79 => ?_)
            have w_79 : r_79.toInt = (cnt f y_78 p0.toNatClampNeg (p1.toInt - p0.toInt).toNat : Int) := w_79
            refine lv_aload_n hx hb dX4_gatherHeavyOfBoth_121 rfl (lv_at hl 2 rfl) ?_
            refine va_get (D := (dC, dI)) (ci := 4) (v := .ref q_row) (C := RX4) (T := TX4) (N := 9) hx hb hts hi_4 hown hK hP 0 rfl rfl 0 (by decide) hf_12 (fun _ h9 => h9) rfl dX4_gatherHeavyOfBoth_122 ?_
            refine lv_iload hx hb dX4_gatherHeavyOfBoth_125 (lv_at hl 0 rfl) ?_
            refine lv_iload hx hb dX4_gatherHeavyOfBoth_127 (lv_at hl 6 rfl) ?_
            refine lv_iload hx hb dX4_gatherHeavyOfBoth_129 (lv_at hl 7 rfl) ?_
            have hPc := hP.sub (ws' := [kx_0 q_row q_cell len, kx_a q_cell cyI 160 f]) [1, 2] rfl
            have hKc := hK
            refine vp_callSi (W.runV (As := [.int y_78, .int p2, .int p3]) (rest := [.int r_79, .int i, .ref a_n]) ⟨hx, hb, hml, hown, hts⟩ (c_X0_oftenIn l dC dI q_row q_cell cyI len f y_78 p2 p3 d2 d3) (cwV 3 hts gX4_gatherHeavyOfBoth_X0_oftenIn rfl rfl rfl (by decide +kernel) ⟨Nat.le_of_ble_eq_true rfl, Nat.le_of_ble_eq_true rfl⟩) ⟨fun a U g mk q => by obtain ⟨q0, qP, qK⟩ := q; exact ⟨q0, qP, va_K.moved (u := U) (U := U.calling g mk a) (Vm.Alike.refl U.vm) qK⟩, va_recv hKc hPc (ci := 0) (q0 := 0) rfl rfl, fun U hU hW => ⟨rfl, by rw [hU]; exact hPc, va_K.moved hW.alike hKc⟩⟩ rfl rfl hl.1 rfl (lv_room (Nat.le_of_ble_eq_true rfl)) dX4_gatherHeavyOfBoth_131 ⟨Nat.le_of_ble_eq_true rfl, Nat.le_of_ble_eq_true rfl⟩) (fun r_80 w_80 => ?_)
            have w_80 : r_80.toInt = (cnt f y_78 p2.toNatClampNeg (p3.toInt - p2.toInt).toNat : Int) := w_80
            refine lv_iadd hx hb dX4_gatherHeavyOfBoth_134 ?_
            refine lv_topi (fun y_81 ey_81 => ?_)
            refine va_iast hx hb hK hP hD hS 15 0 rfl rfl (ki_in (om_8 LP2_h0) (om_141 w_59.2 w_64.2 i_70)) dX4_gatherHeavyOfBoth_135 (fun H locs hP hD hS => ?_)
            have hP : va_P (dC, dI) vwCl [kx_4 m_ q_row q_t t_ h0 k0 w_ z_ slots old, kx_0 q_row q_cell len, kx_a q_cell cyI 160 f, kx_2 q_t q_row q_joined q_from q_to q_size q_lossOf q_lessBy q_value q_number nodes here, kx_a q_from cyI 319 ff, kx_a q_to cyI 319 ft, kx_a q_size cyI 319 fs, kx_a q_lossOf cyI 319 fo, kx_a q_value cyI 1914 uv, kx_a q_number cyI 1914 un, kx_3 k0 kv kn o_54 o_55 o_56, kx_a kv cyI 12 o_57, kx_a kn cyI 12 o_58, kx_3 h0 a_v a_n o_65 o_66 o_67, kx_a a_v cyI 12 o_68, kx_a a_n cyI 12 (upd wn i.toNatClampNeg y_81)] H := hP
            have hD : va_D A [kx_4 m_ q_row q_t t_ h0 k0 w_ z_ slots old, kx_0 q_row q_cell len, kx_a q_cell cyI 160 f, kx_2 q_t q_row q_joined q_from q_to q_size q_lossOf q_lessBy q_value q_number nodes here, kx_a q_from cyI 319 ff, kx_a q_to cyI 319 ft, kx_a q_size cyI 319 fs, kx_a q_lossOf cyI 319 fo, kx_a q_value cyI 1914 uv, kx_a q_number cyI 1914 un, kx_3 k0 kv kn o_54 o_55 o_56, kx_a kv cyI 12 o_57, kx_a kn cyI 12 o_58, kx_3 h0 a_v a_n o_65 o_66 o_67, kx_a a_v cyI 12 o_68, kx_a a_n cyI 12 (upd wn i.toNatClampNeg y_81)] := hD
            obtain ⟨x_82, ex_82⟩ : ∃ y : Int32, y = i + 1 := ⟨_, rfl⟩
            have i_82 : x_82.toInt = i.toInt + 1 := ki_add ex_82 rfl rfl (om_10 LP2_h0) (om_142 w_59.2 w_64.2 i_70)
            refine lv_iinc (v := x_82) (lv' := [(8, .int x_82), (9, .int y_78), (0, .ref m_), (1, .ref q_t), (2, .int p0), (3, .int p1), (4, .int p2), (5, .int p3), (6, .int p4), (7, .int p5)]) hx hb dX4_gatherHeavyOfBoth_136 hl (k := 1) rfl (by rw [ex_82]; rfl) (by decide) rfl (fun ls hl => ?_)
            refine lv_goto (tgt := 77) hx hb dX4_gatherHeavyOfBoth_139 (by decide) ?_
            exact ih2 x_82 (upd wn i.toNatClampNeg y_81) (om_31 LP2_h0 i_82) (om_mu hn2 (om_5 i_82) (om_6 i_70)) _ _ hP hD hS ls (lv_sub hl [0, 2, 3, 4, 5, 6, 7, 8, 9] rfl)
      have k_83 : (0 : Int32).toInt = 0 := rfl
      exact LP2 ((o_65.toInt - 0 : Int).toNat + 1) 0 o_69 om_32 (Nat.lt_succ_self _) _ _ hP hD hS ls (lv_sub hl [0, 1, 2, 3, 4, 5, 6, 7, 8] rfl)


