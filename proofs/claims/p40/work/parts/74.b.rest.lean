set_option maxHeartbeats 4000000 in
set_option maxRecDepth 100000 in
theorem c_X4_heavyValues (l : Launch) (dC : Nat → ClassId) (dI : Nat → Nat → Nat) (m_ : Nat) (q_row : Nat) (q_t : Nat) (t_ : Nat) (h0 : Nat) (k0 : Nat) (w_ : Nat) (z_ : Nat) (slots : Int32) (old : Int32) (q_cell : Nat) (cyI : ClassId) (len : Int32) (f : Nat → Int32) (p0 : Int32) (p1 : Int32) (p2 : Int32) (p3 : Int32) (a0 : 0 ≤ len.toInt) (a1 : len.toInt ≤ 160) (d0 : 0 ≤ p0.toInt) (d1 : p1.toInt ≤ 160) : Met l yX4_heavyValues wsX4_heavyValues ({ frames := 1, cells := 0, slots := 0, locals := 45 }) (va_Pc [.ref m_, .int p0, .int p1, .int p2, .int p3] (fun U => va_P (dC, dI) vwCl [kx_4 m_ q_row q_t t_ h0 k0 w_ z_ slots old, kx_0 q_row q_cell len, kx_a q_cell cyI 160 f] U.heap ∧ va_K (dC, dI) vwCl [(cyI, .int)] U)) (vp_Si (fun r : Int32 => True)) 0 0 (fun _ => False) := by
  refine kx_stS (ws := wsX4_heavyValues) (cc := cX4_heavyValues) (maxL := 8) (ret := (some .int)) (by decide) rfl (Nat.le_of_ble_eq_true rfl) ?_
  intro p e s m below meth c ls hx hb hr hlocks hts hown hml hP hK hl
  have hown : s.vm.findClass RX4 = some m.cls := hown
  have hl : lv_has ls 8 [(0, .ref m_), (1, .int p0), (2, .int p1), (3, .int p2), (4, .int p3)] := hl
  have hf_12 := hts (.fieldLink RX4 12 "MajorityIndex" "row" "LMajorityIndex$Row;") (List.mem_of_getElem? (i := 1) rfl)
  have hi_4 : ∀ w ∈ u_ws RX4 TX4 9, w ∈ wsX4_heavyValues := fun w h => List.mem_cons_of_mem _ (List.mem_append_left _ (List.mem_append_right _ h))
  have hf_110 := hts (.fieldLink RX4 110 "MajorityIndex$Row" "cell" "[I") (List.mem_of_getElem? (i := 2) rfl)
  have hi_0 : ∀ w ∈ u_ws RX0 TX0 2, w ∈ wsX4_heavyValues := fun w h => List.mem_cons_of_mem _ (List.mem_append_right _ h)
  refine lv_iconst (v := 0) hx hb dX4_heavyValues_0 (by decide) ?_
  refine lv_istore (lv' := [(5, .int 0), (0, .ref m_), (1, .int p0), (2, .int p1), (3, .int p2), (4, .int p3)]) hx hb dX4_heavyValues_1 hl (by decide) rfl (fun ls hl => ?_)
  refine lv_iload_n hx hb dX4_heavyValues_3 rfl (lv_at hl 2 rfl) ?_
  refine lv_istore (lv' := [(6, .int p0), (5, .int 0), (0, .ref m_), (1, .int p0), (2, .int p1), (3, .int p2), (4, .int p3)]) hx hb dX4_heavyValues_4 hl (by decide) rfl (fun ls hl => ?_)
  have LP1 : ∀ (n : Nat) (i : Int32) (many : Int32), (p0.toInt ≤ i.toInt) → (p1.toInt - i.toInt).toNat < n → ∀ (ls : Array Slot), lv_has ls 8 [(6, .int i), (5, .int many), (0, .ref m_), (1, .int p0), (2, .int p1), (3, .int p2), (4, .int p3)] → W p l e (headSpec wsX4_heavyValues ({ frames := 1, cells := 0, slots := 0, locals := 45 })).room s m ([.ref m_, .int p0, .int p1, .int p2, .int p3] : List Value).toArray below meth c s.heap [] 0 0 (MQ below (vp_Si (fun r : Int32 => True)) ([.ref m_, .int p0, .int p1, .int p2, .int p3] : List Value).toArray s 0 0 (fun _ => False)) (F0 m 6 ls []) := by
    intro n
    induction n with
    | zero => intro i many LP1_h0 hn; exact absurd hn (Nat.not_lt_zero _)
    | succ n ih1 =>
      intro i many LP1_h0 hn1 ls hl
      refine lv_iload hx hb dX4_heavyValues_6 (lv_at hl 0 rfl) ?_
      refine lv_iload_n hx hb dX4_heavyValues_8 rfl (lv_at hl 4 rfl) ?_
      refine lv_icmp_ge (tgt := 72) hx hb dX4_heavyValues_9 (by decide) (fun c_1 => ?_) (fun c_1 => ?_)
      · have i_1 : p1.toInt ≤ i.toInt := kc_le c_1
        refine lv_iload hx hb dX4_heavyValues_72 (lv_at hl 1 rfl) ?_
        exact W.iret (v := many) hx hb hr (hlocks := hlocks) (fun t ht hW => ⟨many, rfl, trivial, ht⟩) (fun q hq => by cases hq) dX4_heavyValues_74
      · have i_1 : i.toInt < p1.toInt := kc_nle c_1
        refine lv_aload_n hx hb dX4_heavyValues_12 rfl (lv_at hl 2 rfl) ?_
        refine va_get (D := (dC, dI)) (ci := 4) (v := .ref q_row) (C := RX4) (T := TX4) (N := 9) hx hb hts hi_4 hown hK hP 0 rfl rfl 0 (by decide) hf_12 (fun _ h9 => h9) rfl dX4_heavyValues_13 ?_
        refine va_get (D := (dC, dI)) (ci := 0) (v := .ref q_cell) (C := RX0) (T := TX0) (N := 2) hx hb hts hi_0 hown hK hP 1 rfl rfl 0 (by decide) hf_110 (fun _ h9 => h9) rfl dX4_heavyValues_16 ?_
        refine lv_iload hx hb dX4_heavyValues_19 (lv_at hl 0 rfl) ?_
        refine va_iald hx hb hK hP 2 0 rfl rfl (ki_in (om_0 d0 LP1_h0) (om_1 d1 i_1)) dX4_heavyValues_21 ?_
        refine lv_topi (fun y_2 ey_2 => ?_)
        have j_2 : y_2.toInt = (f i.toNatClampNeg).toInt := congrArg Int32.toInt ey_2
        refine lv_istore (lv' := [(7, .int y_2), (6, .int i), (5, .int many), (0, .ref m_), (1, .int p0), (2, .int p1), (3, .int p2), (4, .int p3)]) hx hb dX4_heavyValues_22 hl (by decide) rfl (fun ls hl => ?_)
        refine lv_aload_n hx hb dX4_heavyValues_24 rfl (lv_at hl 3 rfl) ?_
        refine va_get (D := (dC, dI)) (ci := 4) (v := .ref q_row) (C := RX4) (T := TX4) (N := 9) hx hb hts hi_4 hown hK hP 0 rfl rfl 0 (by decide) hf_12 (fun _ h9 => h9) rfl dX4_heavyValues_25 ?_
        refine lv_iload hx hb dX4_heavyValues_28 (lv_at hl 0 rfl) ?_
        refine lv_iload_n hx hb dX4_heavyValues_30 rfl (lv_at hl 4 rfl) ?_
        refine lv_iload hx hb dX4_heavyValues_31 (lv_at hl 1 rfl) ?_
        have hPc := hP.sub (ws' := [kx_0 q_row q_cell len, kx_a q_cell cyI 160 f]) [1, 2] rfl
        have hKc := hK
        refine vp_callSi (W.runV (As := [.int y_2, .int p0, .int i]) (rest := []) ⟨hx, hb, hml, hown, hts⟩ (c_X0_oftenIn l dC dI q_row q_cell cyI len f y_2 p0 i d0 (om_202 d1 i_1)) (cwV 3 hts gX4_heavyValues_X0_oftenIn rfl rfl rfl (by decide +kernel) ⟨Nat.le_of_ble_eq_true rfl, Nat.le_of_ble_eq_true rfl⟩) ⟨fun a U g mk q => by obtain ⟨q0, qP, qK⟩ := q; exact ⟨q0, qP, va_K.moved (u := U) (U := U.calling g mk a) (Vm.Alike.refl U.vm) qK⟩, kx_rc0 hKc hPc (q0 := 0) rfl, fun U hU hW => ⟨rfl, by rw [hU]; exact hPc, va_K.moved hW.alike hKc⟩⟩ rfl rfl hl.1 rfl (lv_room (Nat.le_of_ble_eq_true rfl)) dX4_heavyValues_33 ⟨Nat.le_of_ble_eq_true rfl, Nat.le_of_ble_eq_true rfl⟩) (fun r_3 w_3 => ?_)
        have w_3 : r_3.toInt = (cnt f y_2 p0.toNatClampNeg (i.toInt - p0.toInt).toNat : Int) := w_3
        refine lv_if_ne (tgt := 66) hx hb dX4_heavyValues_36 (by decide) (fun c_4 => ?_) (fun c_4 => ?_)
        · have i_4 : ¬ r_3.toInt = 0 := kc_ne c_4
          obtain ⟨x_5, ex_5⟩ : ∃ y : Int32, y = i + 1 := ⟨_, rfl⟩
          have i_5 : x_5.toInt = i.toInt + 1 := ki_add ex_5 rfl rfl (om_2 d0 LP1_h0) (om_3 d1 i_1)
          refine lv_iinc (v := x_5) (lv' := [(6, .int x_5), (7, .int y_2), (5, .int many), (0, .ref m_), (1, .int p0), (2, .int p1), (3, .int p2), (4, .int p3)]) hx hb dX4_heavyValues_66 hl (k := 1) rfl (by rw [ex_5]; rfl) (by decide) rfl (fun ls hl => ?_)
          refine lv_goto (tgt := 6) hx hb dX4_heavyValues_69 (by decide) ?_
          exact ih1 x_5 many (om_4 LP1_h0 i_5) (om_mu hn1 (om_5 i_5) (om_6 i_1)) ls (lv_sub hl [0, 2, 3, 4, 5, 6, 7] rfl)
        · have i_4 : r_3.toInt = 0 := kc_eq c_4
          refine lv_aload_n hx hb dX4_heavyValues_39 rfl (lv_at hl 3 rfl) ?_
          refine va_get (D := (dC, dI)) (ci := 4) (v := .ref q_row) (C := RX4) (T := TX4) (N := 9) hx hb hts hi_4 hown hK hP 0 rfl rfl 0 (by decide) hf_12 (fun _ h9 => h9) rfl dX4_heavyValues_40 ?_
          refine lv_iload hx hb dX4_heavyValues_43 (lv_at hl 0 rfl) ?_
          refine lv_iload hx hb dX4_heavyValues_45 (lv_at hl 1 rfl) ?_
          refine lv_iload_n hx hb dX4_heavyValues_47 rfl (lv_at hl 5 rfl) ?_
          have hPc := hP.sub (ws' := [kx_0 q_row q_cell len, kx_a q_cell cyI 160 f]) [1, 2] rfl
          have hKc := hK
          refine vp_callSi (W.runV (As := [.int y_2, .int i, .int p1]) (rest := []) ⟨hx, hb, hml, hown, hts⟩ (c_X0_oftenIn l dC dI q_row q_cell cyI len f y_2 i p1 (om_0 d0 LP1_h0) d1) (cwV 3 hts gX4_heavyValues_X0_oftenIn rfl rfl rfl (by decide +kernel) ⟨Nat.le_of_ble_eq_true rfl, Nat.le_of_ble_eq_true rfl⟩) ⟨fun a U g mk q => by obtain ⟨q0, qP, qK⟩ := q; exact ⟨q0, qP, va_K.moved (u := U) (U := U.calling g mk a) (Vm.Alike.refl U.vm) qK⟩, kx_rc0 hKc hPc (q0 := 0) rfl, fun U hU hW => ⟨rfl, by rw [hU]; exact hPc, va_K.moved hW.alike hKc⟩⟩ rfl rfl hl.1 rfl (lv_room (Nat.le_of_ble_eq_true rfl)) dX4_heavyValues_48 ⟨Nat.le_of_ble_eq_true rfl, Nat.le_of_ble_eq_true rfl⟩) (fun r_6 w_6 => ?_)
          have w_6 : r_6.toInt = (cnt f y_2 i.toNatClampNeg (p1.toInt - i.toInt).toNat : Int) := w_6
          refine lv_iload_n hx hb dX4_heavyValues_51 rfl (lv_at hl 5 rfl) ?_
          refine lv_iload_n hx hb dX4_heavyValues_52 rfl (lv_at hl 4 rfl) ?_
          refine lv_isub hx hb dX4_heavyValues_53 ?_
          refine lv_topi (fun y_7 ey_7 => ?_)
          refine lv_iload_n hx hb dX4_heavyValues_54 rfl (lv_at hl 6 rfl) ?_
          refine lv_iload hx hb dX4_heavyValues_55 (lv_at hl 7 rfl) ?_
          have hPc := hP.sub (ws' := []) [] rfl
          have hKc := hK.sub (tys' := []) [] rfl
          refine vp_callSi (W.runS (As := [.int r_6, .int y_7, .int p2, .int p3]) (rest := []) ⟨hx, hb, hml, hown, hts⟩ (c_X4_isHeavy l dC dI r_6 y_7 p2 p3) (va_cwS 4 hts gX4_heavyValues_X4_isHeavy rfl rfl rfl (by decide +kernel) ⟨Nat.le_of_ble_eq_true rfl, Nat.le_of_ble_eq_true rfl⟩) ⟨fun a U g mk q => by obtain ⟨q0, qP, qK⟩ := q; exact ⟨q0, qP, va_K.moved (u := U) (U := U.calling g mk a) (Vm.Alike.refl U.vm) qK⟩, fun U hU hW => ⟨rfl, by rw [hU]; exact hPc, va_K.moved hW.alike hKc⟩⟩ rfl rfl hl.1 rfl (lv_room (Nat.le_of_ble_eq_true rfl)) dX4_heavyValues_57 ⟨Nat.le_of_ble_eq_true rfl, Nat.le_of_ble_eq_true rfl⟩) (fun r_8 w_8 => ?_)
          rcases w_8 with ⟨rfl, w_8⟩ | ⟨rfl, w_8⟩
          · have w_8 : (0 : Int) ≤ 1 := w_8
            refine lv_if_eq (tgt := 66) hx hb dX4_heavyValues_60 (by decide) (fun c_9 => ?_) (fun c_9 => ?_)
            · exact absurd c_9 (by decide)
            · obtain ⟨x_10, ex_10⟩ : ∃ y : Int32, y = many + 1 := ⟨_, rfl⟩
              refine lv_iinc (v := x_10) (lv' := [(5, .int x_10), (7, .int y_2), (6, .int i), (0, .ref m_), (1, .int p0), (2, .int p1), (3, .int p2), (4, .int p3)]) hx hb dX4_heavyValues_63 hl (k := 2) rfl (by rw [ex_10]; rfl) (by decide) rfl (fun ls hl => ?_)
              obtain ⟨x_11, ex_11⟩ : ∃ y : Int32, y = i + 1 := ⟨_, rfl⟩
              have i_11 : x_11.toInt = i.toInt + 1 := ki_add ex_11 rfl rfl (om_2 d0 LP1_h0) (om_3 d1 i_1)
              refine lv_iinc (v := x_11) (lv' := [(6, .int x_11), (5, .int x_10), (7, .int y_2), (0, .ref m_), (1, .int p0), (2, .int p1), (3, .int p2), (4, .int p3)]) hx hb dX4_heavyValues_66 hl (k := 2) rfl (by rw [ex_11]; rfl) (by decide) rfl (fun ls hl => ?_)
              refine lv_goto (tgt := 6) hx hb dX4_heavyValues_69 (by decide) ?_
              exact ih1 x_11 x_10 (om_4 LP1_h0 i_11) (om_mu hn1 (om_5 i_11) (om_6 i_1)) ls (lv_sub hl [0, 1, 3, 4, 5, 6, 7] rfl)
          · have w_8 : (0 : Int) ≤ 1 := w_8
            refine lv_if_eq (tgt := 66) hx hb dX4_heavyValues_60 (by decide) (fun c_12 => ?_) (fun c_12 => ?_)
            · obtain ⟨x_13, ex_13⟩ : ∃ y : Int32, y = i + 1 := ⟨_, rfl⟩
              have i_13 : x_13.toInt = i.toInt + 1 := ki_add ex_13 rfl rfl (om_2 d0 LP1_h0) (om_3 d1 i_1)
              refine lv_iinc (v := x_13) (lv' := [(6, .int x_13), (7, .int y_2), (5, .int many), (0, .ref m_), (1, .int p0), (2, .int p1), (3, .int p2), (4, .int p3)]) hx hb dX4_heavyValues_66 hl (k := 1) rfl (by rw [ex_13]; rfl) (by decide) rfl (fun ls hl => ?_)
              refine lv_goto (tgt := 6) hx hb dX4_heavyValues_69 (by decide) ?_
              exact ih1 x_13 many (om_4 LP1_h0 i_13) (om_mu hn1 (om_5 i_13) (om_6 i_1)) ls (lv_sub hl [0, 2, 3, 4, 5, 6, 7] rfl)
            · exact absurd c_12 (by decide)
  have k_14 : (0 : Int32).toInt = 0 := rfl
  exact LP1 ((p1.toInt - p0.toInt : Int).toNat + 1) p0 0 om_7 (Nat.lt_succ_self _) ls (lv_sub hl [0, 1, 2, 3, 4, 5, 6] rfl)

set_option maxHeartbeats 4000000 in
set_option maxRecDepth 100000 in
theorem c_X4_heavyVotesBy (l : Launch) (dC : Nat → ClassId) (dI : Nat → Nat → Nat) (m_ : Nat) (q_row : Nat) (q_t : Nat) (t_ : Nat) (h0 : Nat) (k0 : Nat) (w_ : Nat) (z_ : Nat) (slots : Int32) (old : Int32) (q_joined : Nat) (q_from : Nat) (q_to : Nat) (q_size : Nat) (q_lossOf : Nat) (q_lessBy : Nat) (q_value : Nat) (q_number : Nat) (nodes : Int32) (here : Int32) (q_cell : Nat) (cyI : ClassId) (len : Int32) (f : Nat → Int32) (ff : Nat → Int32) (ft : Nat → Int32) (fs : Nat → Int32) (fo : Nat → Int32) (uv : Nat → Int32) (un : Nat → Int32) (fe : Nat → Int32) (j_v : Nat) (j_n : Nat) (js : Int32) (jl : Int32) (je : Int32) (jv : Nat → Int32) (jn : Nat → Int32) (a_v : Nat) (a_n : Nat) (vs : Int32) (lo : Int32) (le : Int32) (fv : Nat → Int32) (fn : Nat → Int32) (p0 : Int32) (p1 : Int32) (p2 : Int32) (p3 : Int32) (p4 : Int32) (sz : Nat) (b0 : 0 ≤ nodes.toInt) (c0 : nodes.toInt ≤ 319) (c1 : len.toInt ≤ 160) (s0 : sixes fs) (t0 : treeOk ff ft nodes.toInt len.toInt) (d0 : 0 ≤ p1.toInt) (d1 : p2.toInt ≤ 160) : kx_MQ l (dC, dI) yX4_heavyVotesBy wsX4_heavyVotesBy ({ frames := 5, cells := 0, slots := 0, locals := 225 }) [.ref m_, .ref q_t, .int p0, .int p1, .int p2, .int p3, .int p4] [kx_4 m_ q_row q_t t_ h0 k0 w_ z_ slots old, kx_2 q_t q_row q_joined q_from q_to q_size q_lossOf q_lessBy q_value q_number nodes here, kx_0 q_row q_cell len, kx_a q_cell cyI 160 f, kx_a q_from cyI 319 ff, kx_a q_to cyI 319 ft, kx_a q_size cyI 319 fs, kx_a q_lossOf cyI 319 fo, kx_a q_lessBy cyI 319 fe, kx_a q_value cyI 1914 uv, kx_a q_number cyI 1914 un, kx_3 q_joined j_v j_n js jl je, kx_a j_v cyI 12 jv, kx_a j_n cyI 12 jn, kx_3 h0 a_v a_n vs lo le, kx_a a_v cyI 12 fv, kx_a a_n cyI 12 fn] [(cyI, .int)] sz (fun A => va_Qi (fun (r : Int32) (u : (Nat → Int32) × (Nat → Int32) × (Nat → Int32) × (Nat → Int32) × (Nat → Int32) × Int32 × Int32 × Int32 × (Nat → Int32) × (Nat → Int32) × Int32 × Int32 × Int32 × (Nat → Int32) × (Nat → Int32)) => sixes u.1) (fun (u : (Nat → Int32) × (Nat → Int32) × (Nat → Int32) × (Nat → Int32) × (Nat → Int32) × Int32 × Int32 × Int32 × (Nat → Int32) × (Nat → Int32) × Int32 × Int32 × Int32 × (Nat → Int32) × (Nat → Int32)) (t : State) => va_P (dC, dI) vwCl [kx_4 m_ q_row q_t t_ h0 k0 w_ z_ slots old, kx_2 q_t q_row q_joined q_from q_to q_size q_lossOf q_lessBy q_value q_number nodes p0, kx_0 q_row q_cell len, kx_a q_cell cyI 160 f, kx_a q_from cyI 319 ff, kx_a q_to cyI 319 ft, kx_a q_size cyI 319 u.1, kx_a q_lossOf cyI 319 u.2.1, kx_a q_lessBy cyI 319 u.2.2.1, kx_a q_value cyI 1914 u.2.2.2.1, kx_a q_number cyI 1914 u.2.2.2.2.1, kx_3 q_joined j_v j_n u.2.2.2.2.2.1 u.2.2.2.2.2.2.1 u.2.2.2.2.2.2.2.1, kx_a j_v cyI 12 u.2.2.2.2.2.2.2.2.1, kx_a j_n cyI 12 u.2.2.2.2.2.2.2.2.2.1, kx_3 h0 a_v a_n u.2.2.2.2.2.2.2.2.2.2.1 u.2.2.2.2.2.2.2.2.2.2.2.1 u.2.2.2.2.2.2.2.2.2.2.2.2.1, kx_a a_v cyI 12 u.2.2.2.2.2.2.2.2.2.2.2.2.2.1, kx_a a_n cyI 12 u.2.2.2.2.2.2.2.2.2.2.2.2.2.2] t.heap ∧ va_K (dC, dI) vwCl [(cyI, .int)] t ∧ va_D A [kx_4 m_ q_row q_t t_ h0 k0 w_ z_ slots old, kx_2 q_t q_row q_joined q_from q_to q_size q_lossOf q_lessBy q_value q_number nodes p0, kx_0 q_row q_cell len, kx_a q_cell cyI 160 f, kx_a q_from cyI 319 ff, kx_a q_to cyI 319 ft, kx_a q_size cyI 319 u.1, kx_a q_lossOf cyI 319 u.2.1, kx_a q_lessBy cyI 319 u.2.2.1, kx_a q_value cyI 1914 u.2.2.2.1, kx_a q_number cyI 1914 u.2.2.2.2.1, kx_3 q_joined j_v j_n u.2.2.2.2.2.1 u.2.2.2.2.2.2.1 u.2.2.2.2.2.2.2.1, kx_a j_v cyI 12 u.2.2.2.2.2.2.2.2.1, kx_a j_n cyI 12 u.2.2.2.2.2.2.2.2.2.1, kx_3 h0 a_v a_n u.2.2.2.2.2.2.2.2.2.2.1 u.2.2.2.2.2.2.2.2.2.2.2.1 u.2.2.2.2.2.2.2.2.2.2.2.2.1, kx_a a_v cyI 12 u.2.2.2.2.2.2.2.2.2.2.2.2.2.1, kx_a a_n cyI 12 u.2.2.2.2.2.2.2.2.2.2.2.2.2.2]) A) := by
  refine kx_stQ (ws := wsX4_heavyVotesBy) (cc := cX4_heavyVotesBy) (maxL := 9) (ret := (some .int)) (by decide) rfl (Nat.le_of_ble_eq_true rfl) ?_
  intro p e s m below meth c A ls hx hb hr hlocks hts hown hml hA hS hP hK hD hl
  have hown : s.vm.findClass RX4 = some m.cls := hown
  have hl : lv_has ls 9 [(0, .ref m_), (1, .ref q_t), (2, .int p0), (3, .int p1), (4, .int p2), (5, .int p3), (6, .int p4)] := hl
  have hf_204 := hts (.fieldLink RX4 204 "MajorityIndex$Tree" "slotsHere" "I") (List.mem_of_getElem? (i := 1) rfl)
  have hi_2 : ∀ w ∈ u_ws RX2 TX2 11, w ∈ wsX4_heavyVotesBy := fun w h => List.mem_cons_of_mem _ (List.mem_append_left _ (List.mem_append_left _ (List.mem_append_left _ (List.mem_append_right _ h))))
  have hf_35 := hts (.fieldLink RX4 35 "MajorityIndex" "votes" "LMajorityIndex$Votes;") (List.mem_of_getElem? (i := 2) rfl)
  have hi_4 : ∀ w ∈ u_ws RX4 TX4 9, w ∈ wsX4_heavyVotesBy := fun w h => List.mem_cons_of_mem _ (List.mem_append_left _ (List.mem_append_left _ (List.mem_append_right _ h)))
  have hf_174 := hts (.fieldLink RX4 174 "MajorityIndex$Votes" "size" "I") (List.mem_of_getElem? (i := 3) rfl)
  have hi_3 : ∀ w ∈ u_ws RX3 TX3 5, w ∈ wsX4_heavyVotesBy := fun w h => List.mem_cons_of_mem _ (List.mem_append_left _ (List.mem_append_right _ h))
  have hf_12 := hts (.fieldLink RX4 12 "MajorityIndex" "row" "LMajorityIndex$Row;") (List.mem_of_getElem? (i := 4) rfl)
  have hf_133 := hts (.fieldLink RX4 133 "MajorityIndex$Votes" "value" "[I") (List.mem_of_getElem? (i := 5) rfl)
  refine lv_aload_n hx hb dX4_heavyVotesBy_0 rfl (lv_at hl 1 rfl) ?_
  refine lv_iload_n hx hb dX4_heavyVotesBy_1 rfl (lv_at hl 2 rfl) ?_
  refine va_put (D := (dC, dI)) (ci := 2) (v := .int p0) (ty := .int) (C := RX2) (T := TX2) (N := 11) hx hb hts hi_2 tyX2 tyX2_ok nmX2 hown hK hP hD hS 1 rfl rfl 10 (by decide) hf_204 (fun _ h9 => h9) rfl (by decide +kernel) rfl rfl (Nat.le_of_ble_eq_true rfl) dX4_heavyVotesBy_2 (fun H locs hP hD hS => ?_)
  obtain ⟨hP, hD⟩ := kx_re (w2 := [kx_4 m_ q_row q_t t_ h0 k0 w_ z_ slots old, kx_2 q_t q_row q_joined q_from q_to q_size q_lossOf q_lessBy q_value q_number nodes p0, kx_0 q_row q_cell len, kx_a q_cell cyI 160 f, kx_a q_from cyI 319 ff, kx_a q_to cyI 319 ft, kx_a q_size cyI 319 fs, kx_a q_lossOf cyI 319 fo, kx_a q_lessBy cyI 319 fe, kx_a q_value cyI 1914 uv, kx_a q_number cyI 1914 un, kx_3 q_joined j_v j_n js jl je, kx_a j_v cyI 12 jv, kx_a j_n cyI 12 jn, kx_3 h0 a_v a_n vs lo le, kx_a a_v cyI 12 fv, kx_a a_n cyI 12 fn]) hP hD rfl
  refine lv_aload_n hx hb dX4_heavyVotesBy_5 rfl (lv_at hl 1 rfl) ?_
  refine lv_iload_n hx hb dX4_heavyVotesBy_6 rfl (lv_at hl 3 rfl) ?_
  refine lv_iload hx hb dX4_heavyVotesBy_7 (lv_at hl 4 rfl) ?_
  obtain ⟨hPc, hDc, hFc, hCc⟩ := kx_preM (wc := [kx_2 q_t q_row q_joined q_from q_to q_size q_lossOf q_lessBy q_value q_number nodes p0, kx_0 q_row q_cell len, kx_a q_cell cyI 160 f, kx_a q_from cyI 319 ff, kx_a q_to cyI 319 ft, kx_a q_size cyI 319 fs, kx_a q_lossOf cyI 319 fo, kx_a q_lessBy cyI 319 fe, kx_a q_value cyI 1914 uv, kx_a q_number cyI 1914 un, kx_3 q_joined j_v j_n js jl je, kx_a j_v cyI 12 jv, kx_a j_n cyI 12 jn]) hP hD hS hA [false, true, true, true, true, true, true, true, true, true, true, true, true, true, false, false, false] rfl
  have hKc := hK
  refine va_calli (va_runV (As := [.int p1, .int p2]) (rest := []) ⟨hx, hb, hml, hown, hts⟩ (kx_un (c_X2_renew l dC dI q_t q_row q_joined q_from q_to q_size q_lossOf q_lessBy q_value q_number nodes p0 q_cell cyI len f ff ft fs fo uv un fe j_v j_n js jl je jv jn p1 p2 H.size b0 c0 c1 s0 t0)) (cwV 2 hts gX4_heavyVotesBy_X2_renew rfl rfl rfl (by decide +kernel) ⟨Nat.le_of_ble_eq_true rfl, Nat.le_of_ble_eq_true rfl⟩) ⟨fun a U g mk q => by obtain ⟨q0, q1, qP, qK, qD⟩ := q; exact ⟨q0, q1, qP, va_K.moved (u := U) (U := U.calling g mk a) (Vm.Alike.refl U.vm) qK, qD⟩, kx_rc2 hKc hPc (q0 := 0) rfl, fun U hU hW => ⟨rfl, by rw [hU], by rw [hU]; exact hPc, va_K.moved hW.alike hKc, hDc.weaken (fun _ _ _ _ => trivial)⟩⟩ rfl rfl hl.1 rfl (lv_room (Nat.le_of_ble_eq_true rfl)) dX4_heavyVotesBy_9 ⟨Nat.le_of_ble_eq_true rfl, Nat.le_of_ble_eq_true rfl⟩) hS (fun q _ h => hFc q h) hFc (fun r_1 u t H1 locs ht hvm w_1 hB hz1 hk1 hS => ?_)
  obtain ⟨o_2, o_3, o_4, o_5, o_6, o_7, o_8, o_9, o_10, o_11⟩ := u
  dsimp only at w_1 hB
  obtain ⟨hP1, hK1, hD1⟩ := hB
  rw [ht] at hP1
  have hK1 := va_K.moved hvm.symm hK1
  obtain ⟨hP, hD⟩ := kx_joinM (w2 := [kx_4 m_ q_row q_t t_ h0 k0 w_ z_ slots old, kx_2 q_t q_row q_joined q_from q_to q_size q_lossOf q_lessBy q_value q_number nodes p0, kx_0 q_row q_cell len, kx_a q_cell cyI 160 f, kx_a q_from cyI 319 ff, kx_a q_to cyI 319 ft, kx_a q_size cyI 319 o_2, kx_a q_lossOf cyI 319 o_3, kx_a q_lessBy cyI 319 o_4, kx_a q_value cyI 1914 o_5, kx_a q_number cyI 1914 o_6, kx_3 q_joined j_v j_n o_7 o_8 o_9, kx_a j_v cyI 12 o_10, kx_a j_n cyI 12 o_11, kx_3 h0 a_v a_n vs lo le, kx_a a_v cyI 12 fv, kx_a a_n cyI 12 fn]) hP hD hP1 hD1 hk1 hFc [false, true, true, true, true, true, true, true, true, true, true, true, true, true, false, false, false] hCc rfl
  clear hP1 hD1 hK1 hk1 hz1 hFc hDc hPc hKc hCc
  generalize H1 = H at hP hS ⊢
  have w_1 : sixes o_2 := w_1
  refine lv_pop hx hb dX4_heavyVotesBy_12 rfl ?_
  refine lv_aload_n hx hb dX4_heavyVotesBy_13 rfl (lv_at hl 1 rfl) ?_
  refine lv_aload_n hx hb dX4_heavyVotesBy_14 rfl (lv_at hl 0 rfl) ?_
  refine va_get (D := (dC, dI)) (ci := 4) (v := .ref h0) (C := RX4) (T := TX4) (N := 9) hx hb hts hi_4 hown hK hP 0 rfl rfl 3 (by decide) hf_35 (fun _ h9 => h9) rfl dX4_heavyVotesBy_15 ?_
  refine lv_iload_n hx hb dX4_heavyVotesBy_18 rfl (lv_at hl 3 rfl) ?_
  refine lv_iload hx hb dX4_heavyVotesBy_19 (lv_at hl 4 rfl) ?_
  obtain ⟨hPc, hDc, hFc, hCc⟩ := kx_preM (wc := [kx_2 q_t q_row q_joined q_from q_to q_size q_lossOf q_lessBy q_value q_number nodes p0, kx_a q_from cyI 319 ff, kx_a q_to cyI 319 ft, kx_a q_size cyI 319 o_2, kx_a q_lossOf cyI 319 o_3, kx_a q_value cyI 1914 o_5, kx_a q_number cyI 1914 o_6, kx_3 h0 a_v a_n vs lo le, kx_a a_v cyI 12 fv, kx_a a_n cyI 12 fn]) hP hD hS hA [false, true, false, false, true, true, true, true, false, true, true, false, false, false, true, true, true] rfl
  have hKc := hK
  refine va_callv (va_runV (As := [.ref h0, .int p1, .int p2]) (rest := []) ⟨hx, hb, hml, hown, hts⟩ (kx_un (c_X2_gather l dC dI q_t q_row q_joined q_from q_to q_size q_lossOf q_lessBy q_value q_number nodes p0 h0 a_v a_n cyI vs lo le fv fn ff ft o_2 o_3 o_5 o_6 p1 p2 H.size b0 c0 w_1)) (cwV 3 hts gX4_heavyVotesBy_X2_gather rfl rfl rfl (by decide +kernel) ⟨Nat.le_of_ble_eq_true rfl, Nat.le_of_ble_eq_true rfl⟩) ⟨fun a U g mk q => by obtain ⟨q0, q1, qP, qK, qD⟩ := q; exact ⟨q0, q1, qP, va_K.moved (u := U) (U := U.calling g mk a) (Vm.Alike.refl U.vm) qK, qD⟩, kx_rc2 hKc hPc (q0 := 0) rfl, fun U hU hW => ⟨rfl, by rw [hU], by rw [hU]; exact hPc, va_K.moved hW.alike hKc, hDc.weaken (fun _ _ _ _ => trivial)⟩⟩ rfl rfl hl.1 rfl (lv_room (Nat.le_of_ble_eq_true rfl)) dX4_heavyVotesBy_21 ⟨Nat.le_of_ble_eq_true rfl, Nat.le_of_ble_eq_true rfl⟩) hS (fun q _ h => hFc q h) hFc (fun u t H1 locs ht hvm w_12 hB hz1 hk1 hS => ?_)
  obtain ⟨o_13, o_14, o_15, o_16, o_17⟩ := u
  dsimp only at w_12 hB
  obtain ⟨hP1, hK1, hD1⟩ := hB
  rw [ht] at hP1
  have hK1 := va_K.moved hvm.symm hK1
  obtain ⟨hP, hD⟩ := kx_joinM (w2 := [kx_4 m_ q_row q_t t_ h0 k0 w_ z_ slots old, kx_2 q_t q_row q_joined q_from q_to q_size q_lossOf q_lessBy q_value q_number nodes p0, kx_0 q_row q_cell len, kx_a q_cell cyI 160 f, kx_a q_from cyI 319 ff, kx_a q_to cyI 319 ft, kx_a q_size cyI 319 o_2, kx_a q_lossOf cyI 319 o_3, kx_a q_lessBy cyI 319 o_4, kx_a q_value cyI 1914 o_5, kx_a q_number cyI 1914 o_6, kx_3 q_joined j_v j_n o_7 o_8 o_9, kx_a j_v cyI 12 o_10, kx_a j_n cyI 12 o_11, kx_3 h0 a_v a_n o_13 o_14 o_15, kx_a a_v cyI 12 o_16, kx_a a_n cyI 12 o_17]) hP hD hP1 hD1 hk1 hFc [false, true, false, false, true, true, true, true, false, true, true, false, false, false, true, true, true] hCc rfl
  clear hP1 hD1 hK1 hk1 hz1 hFc hDc hPc hKc hCc
  generalize H1 = H at hP hS ⊢
  have w_12 : 0 ≤ o_13.toInt ∧ o_13.toInt ≤ 12 := w_12
  refine lv_iconst (v := 0) hx hb dX4_heavyVotesBy_24 (by decide) ?_
  refine lv_istore (lv' := [(7, .int 0), (0, .ref m_), (1, .ref q_t), (2, .int p0), (3, .int p1), (4, .int p2), (5, .int p3), (6, .int p4)]) hx hb dX4_heavyVotesBy_25 hl (by decide) rfl (fun ls hl => ?_)
  refine lv_iconst (v := 0) hx hb dX4_heavyVotesBy_27 (by decide) ?_
  refine lv_istore (lv' := [(8, .int 0), (7, .int 0), (0, .ref m_), (1, .ref q_t), (2, .int p0), (3, .int p1), (4, .int p2), (5, .int p3), (6, .int p4)]) hx hb dX4_heavyVotesBy_28 hl (by decide) rfl (fun ls hl => ?_)
  have LP1 : ∀ (n : Nat) (i : Int32) (many : Int32), (0 ≤ i.toInt) → (o_13.toInt - i.toInt).toNat < n → ∀ (H : Heap) (locs : List Loc), va_P (dC, dI) vwCl [kx_4 m_ q_row q_t t_ h0 k0 w_ z_ slots old, kx_2 q_t q_row q_joined q_from q_to q_size q_lossOf q_lessBy q_value q_number nodes p0, kx_0 q_row q_cell len, kx_a q_cell cyI 160 f, kx_a q_from cyI 319 ff, kx_a q_to cyI 319 ft, kx_a q_size cyI 319 o_2, kx_a q_lossOf cyI 319 o_3, kx_a q_lessBy cyI 319 o_4, kx_a q_value cyI 1914 o_5, kx_a q_number cyI 1914 o_6, kx_3 q_joined j_v j_n o_7 o_8 o_9, kx_a j_v cyI 12 o_10, kx_a j_n cyI 12 o_11, kx_3 h0 a_v a_n o_13 o_14 o_15, kx_a a_v cyI 12 o_16, kx_a a_n cyI 12 o_17] H → va_D A [kx_4 m_ q_row q_t t_ h0 k0 w_ z_ slots old, kx_2 q_t q_row q_joined q_from q_to q_size q_lossOf q_lessBy q_value q_number nodes p0, kx_0 q_row q_cell len, kx_a q_cell cyI 160 f, kx_a q_from cyI 319 ff, kx_a q_to cyI 319 ft, kx_a q_size cyI 319 o_2, kx_a q_lossOf cyI 319 o_3, kx_a q_lessBy cyI 319 o_4, kx_a q_value cyI 1914 o_5, kx_a q_number cyI 1914 o_6, kx_3 q_joined j_v j_n o_7 o_8 o_9, kx_a j_v cyI 12 o_10, kx_a j_n cyI 12 o_11, kx_3 h0 a_v a_n o_13 o_14 o_15, kx_a a_v cyI 12 o_16, kx_a a_n cyI 12 o_17] → va_S A s.heap H locs → ∀ (ls : Array Slot), lv_has ls 9 [(8, .int i), (7, .int many), (0, .ref m_), (1, .ref q_t), (2, .int p0), (3, .int p1), (4, .int p2), (5, .int p3), (6, .int p4)] → W p l e (headSpec wsX4_heavyVotesBy ({ frames := 5, cells := 0, slots := 0, locals := 225 })).room s m ([.ref m_, .ref q_t, .int p0, .int p1, .int p2, .int p3, .int p4] : List Value).toArray below meth c H locs 0 0 (MQ below (va_Qi (fun (r : Int32) (u : (Nat → Int32) × (Nat → Int32) × (Nat → Int32) × (Nat → Int32) × (Nat → Int32) × Int32 × Int32 × Int32 × (Nat → Int32) × (Nat → Int32) × Int32 × Int32 × Int32 × (Nat → Int32) × (Nat → Int32)) => sixes u.1) (fun (u : (Nat → Int32) × (Nat → Int32) × (Nat → Int32) × (Nat → Int32) × (Nat → Int32) × Int32 × Int32 × Int32 × (Nat → Int32) × (Nat → Int32) × Int32 × Int32 × Int32 × (Nat → Int32) × (Nat → Int32)) (t : State) => va_P (dC, dI) vwCl [kx_4 m_ q_row q_t t_ h0 k0 w_ z_ slots old, kx_2 q_t q_row q_joined q_from q_to q_size q_lossOf q_lessBy q_value q_number nodes p0, kx_0 q_row q_cell len, kx_a q_cell cyI 160 f, kx_a q_from cyI 319 ff, kx_a q_to cyI 319 ft, kx_a q_size cyI 319 u.1, kx_a q_lossOf cyI 319 u.2.1, kx_a q_lessBy cyI 319 u.2.2.1, kx_a q_value cyI 1914 u.2.2.2.1, kx_a q_number cyI 1914 u.2.2.2.2.1, kx_3 q_joined j_v j_n u.2.2.2.2.2.1 u.2.2.2.2.2.2.1 u.2.2.2.2.2.2.2.1, kx_a j_v cyI 12 u.2.2.2.2.2.2.2.2.1, kx_a j_n cyI 12 u.2.2.2.2.2.2.2.2.2.1, kx_3 h0 a_v a_n u.2.2.2.2.2.2.2.2.2.2.1 u.2.2.2.2.2.2.2.2.2.2.2.1 u.2.2.2.2.2.2.2.2.2.2.2.2.1, kx_a a_v cyI 12 u.2.2.2.2.2.2.2.2.2.2.2.2.2.1, kx_a a_n cyI 12 u.2.2.2.2.2.2.2.2.2.2.2.2.2.2] t.heap ∧ va_K (dC, dI) vwCl [(cyI, .int)] t ∧ va_D A [kx_4 m_ q_row q_t t_ h0 k0 w_ z_ slots old, kx_2 q_t q_row q_joined q_from q_to q_size q_lossOf q_lessBy q_value q_number nodes p0, kx_0 q_row q_cell len, kx_a q_cell cyI 160 f, kx_a q_from cyI 319 ff, kx_a q_to cyI 319 ft, kx_a q_size cyI 319 u.1, kx_a q_lossOf cyI 319 u.2.1, kx_a q_lessBy cyI 319 u.2.2.1, kx_a q_value cyI 1914 u.2.2.2.1, kx_a q_number cyI 1914 u.2.2.2.2.1, kx_3 q_joined j_v j_n u.2.2.2.2.2.1 u.2.2.2.2.2.2.1 u.2.2.2.2.2.2.2.1, kx_a j_v cyI 12 u.2.2.2.2.2.2.2.2.1, kx_a j_n cyI 12 u.2.2.2.2.2.2.2.2.2.1, kx_3 h0 a_v a_n u.2.2.2.2.2.2.2.2.2.2.1 u.2.2.2.2.2.2.2.2.2.2.2.1 u.2.2.2.2.2.2.2.2.2.2.2.2.1, kx_a a_v cyI 12 u.2.2.2.2.2.2.2.2.2.2.2.2.2.1, kx_a a_n cyI 12 u.2.2.2.2.2.2.2.2.2.2.2.2.2.2]) A) ([.ref m_, .ref q_t, .int p0, .int p1, .int p2, .int p3, .int p4] : List Value).toArray s 0 0 A) (F0 m 30 ls []) := by
    intro n
    induction n with
    | zero => intro i many LP1_h0 hn; exact absurd hn (Nat.not_lt_zero _)
    | succ n ih1 =>
      intro i many LP1_h0 hn1 H locs hP hD hS ls hl
      refine lv_iload hx hb dX4_heavyVotesBy_30 (lv_at hl 0 rfl) ?_
      refine lv_aload_n hx hb dX4_heavyVotesBy_32 rfl (lv_at hl 2 rfl) ?_
      refine va_get (D := (dC, dI)) (ci := 4) (v := .ref h0) (C := RX4) (T := TX4) (N := 9) hx hb hts hi_4 hown hK hP 0 rfl rfl 3 (by decide) hf_35 (fun _ h9 => h9) rfl dX4_heavyVotesBy_33 ?_
      refine va_get (D := (dC, dI)) (ci := 3) (v := .int o_13) (C := RX3) (T := TX3) (N := 5) hx hb hts hi_3 hown hK hP 14 rfl rfl 2 (by decide) hf_174 (fun _ h9 => h9) rfl dX4_heavyVotesBy_36 ?_
      refine lv_icmp_ge (tgt := 85) hx hb dX4_heavyVotesBy_39 (by decide) (fun c_18 => ?_) (fun c_18 => ?_)
      · have i_18 : o_13.toInt ≤ i.toInt := kc_le c_18
        refine lv_iload hx hb dX4_heavyVotesBy_85 (lv_at hl 1 rfl) ?_
        have hP9 := hP
        have hD9 := hD
        have hK9 := hK
        exact W.iret (v := many) hx hb hr (hlocks := hlocks) (fun t ht hW => ⟨⟨many, (o_2, o_3, o_4, o_5, o_6, o_7, o_8, o_9, o_10, o_11, o_13, o_14, o_15, o_16, o_17), rfl, w_1, by rw [ht]; exact hP9, va_K.moved hW.alike hK9, hD9⟩, hS.F ht⟩) hS.2.2 dX4_heavyVotesBy_87
      · have i_18 : i.toInt < o_13.toInt := kc_nle c_18
        refine lv_aload_n hx hb dX4_heavyVotesBy_42 rfl (lv_at hl 2 rfl) ?_
        refine va_get (D := (dC, dI)) (ci := 4) (v := .ref q_row) (C := RX4) (T := TX4) (N := 9) hx hb hts hi_4 hown hK hP 0 rfl rfl 0 (by decide) hf_12 (fun _ h9 => h9) rfl dX4_heavyVotesBy_43 ?_
        refine lv_aload_n hx hb dX4_heavyVotesBy_46 rfl (lv_at hl 2 rfl) ?_
        refine va_get (D := (dC, dI)) (ci := 4) (v := .ref h0) (C := RX4) (T := TX4) (N := 9) hx hb hts hi_4 hown hK hP 0 rfl rfl 3 (by decide) hf_35 (fun _ h9 => h9) rfl dX4_heavyVotesBy_47 ?_
        refine va_get (D := (dC, dI)) (ci := 3) (v := .ref a_v) (C := RX3) (T := TX3) (N := 5) hx hb hts hi_3 hown hK hP 14 rfl rfl 0 (by decide) hf_133 (fun _ h9 => h9) rfl dX4_heavyVotesBy_50 ?_
        refine lv_iload hx hb dX4_heavyVotesBy_53 (lv_at hl 0 rfl) ?_
        refine va_iald hx hb hK hP 15 0 rfl rfl (ki_in (om_10 LP1_h0) (om_32 w_12.2 i_18)) dX4_heavyVotesBy_55 ?_
        refine lv_topi (fun y_19 ey_19 => ?_)
        have j_19 : y_19.toInt = (o_16 i.toNatClampNeg).toInt := congrArg Int32.toInt ey_19
        refine lv_iload_n hx hb dX4_heavyVotesBy_56 rfl (lv_at hl 5 rfl) ?_
        refine lv_iload hx hb dX4_heavyVotesBy_57 (lv_at hl 6 rfl) ?_
        have hPc := hP.sub (ws' := [kx_0 q_row q_cell len, kx_a q_cell cyI 160 f]) [2, 3] rfl
        have hKc := hK
        refine vp_callSi (W.runV (As := [.int y_19, .int p1, .int p2]) (rest := []) ⟨hx, hb, hml, hown, hts⟩ (c_X0_oftenIn l dC dI q_row q_cell cyI len f y_19 p1 p2 d0 d1) (cwV 3 hts gX4_heavyVotesBy_X0_oftenIn rfl rfl rfl (by decide +kernel) ⟨Nat.le_of_ble_eq_true rfl, Nat.le_of_ble_eq_true rfl⟩) ⟨fun a U g mk q => by obtain ⟨q0, qP, qK⟩ := q; exact ⟨q0, qP, va_K.moved (u := U) (U := U.calling g mk a) (Vm.Alike.refl U.vm) qK⟩, kx_rc0 hKc hPc (q0 := 0) rfl, fun U hU hW => ⟨rfl, by rw [hU]; exact hPc, va_K.moved hW.alike hKc⟩⟩ rfl rfl hl.1 rfl (lv_room (Nat.le_of_ble_eq_true rfl)) dX4_heavyVotesBy_59 ⟨Nat.le_of_ble_eq_true rfl, Nat.le_of_ble_eq_true rfl⟩) (fun r_20 w_20 => ?_)
        have w_20 : r_20.toInt = (cnt f y_19 p1.toNatClampNeg (p2.toInt - p1.toInt).toNat : Int) := w_20
        refine lv_iload hx hb dX4_heavyVotesBy_62 (lv_at hl 6 rfl) ?_
        refine lv_iload_n hx hb dX4_heavyVotesBy_64 rfl (lv_at hl 5 rfl) ?_
        refine lv_isub hx hb dX4_heavyVotesBy_65 ?_
        refine lv_topi (fun y_21 ey_21 => ?_)
        refine lv_iload hx hb dX4_heavyVotesBy_66 (lv_at hl 7 rfl) ?_
        refine lv_iload hx hb dX4_heavyVotesBy_68 (lv_at hl 8 rfl) ?_
        have hPc := hP.sub (ws' := []) [] rfl
        have hKc := hK.sub (tys' := []) [] rfl
        refine vp_callSi (W.runS (As := [.int r_20, .int y_21, .int p3, .int p4]) (rest := []) ⟨hx, hb, hml, hown, hts⟩ (c_X4_isHeavy l dC dI r_20 y_21 p3 p4) (va_cwS 4 hts gX4_heavyVotesBy_X4_isHeavy rfl rfl rfl (by decide +kernel) ⟨Nat.le_of_ble_eq_true rfl, Nat.le_of_ble_eq_true rfl⟩) ⟨fun a U g mk q => by obtain ⟨q0, qP, qK⟩ := q; exact ⟨q0, qP, va_K.moved (u := U) (U := U.calling g mk a) (Vm.Alike.refl U.vm) qK⟩, fun U hU hW => ⟨rfl, by rw [hU]; exact hPc, va_K.moved hW.alike hKc⟩⟩ rfl rfl hl.1 rfl (lv_room (Nat.le_of_ble_eq_true rfl)) dX4_heavyVotesBy_70 ⟨Nat.le_of_ble_eq_true rfl, Nat.le_of_ble_eq_true rfl⟩) (fun r_22 w_22 => ?_)
        rcases w_22 with ⟨rfl, w_22⟩ | ⟨rfl, w_22⟩
        · have w_22 : (0 : Int) ≤ 1 := w_22
          refine lv_if_eq (tgt := 79) hx hb dX4_heavyVotesBy_73 (by decide) (fun c_23 => ?_) (fun c_23 => ?_)
          · exact absurd c_23 (by decide)
          · obtain ⟨x_24, ex_24⟩ : ∃ y : Int32, y = many + 1 := ⟨_, rfl⟩
            refine lv_iinc (v := x_24) (lv' := [(7, .int x_24), (8, .int i), (0, .ref m_), (1, .ref q_t), (2, .int p0), (3, .int p1), (4, .int p2), (5, .int p3), (6, .int p4)]) hx hb dX4_heavyVotesBy_76 hl (k := 1) rfl (by rw [ex_24]; rfl) (by decide) rfl (fun ls hl => ?_)
            obtain ⟨x_25, ex_25⟩ : ∃ y : Int32, y = i + 1 := ⟨_, rfl⟩
            have i_25 : x_25.toInt = i.toInt + 1 := ki_add ex_25 rfl rfl (om_13 LP1_h0) (om_33 w_12.2 i_18)
            refine lv_iinc (v := x_25) (lv' := [(8, .int x_25), (7, .int x_24), (0, .ref m_), (1, .ref q_t), (2, .int p0), (3, .int p1), (4, .int p2), (5, .int p3), (6, .int p4)]) hx hb dX4_heavyVotesBy_79 hl (k := 1) rfl (by rw [ex_25]; rfl) (by decide) rfl (fun ls hl => ?_)
            refine lv_goto (tgt := 30) hx hb dX4_heavyVotesBy_82 (by decide) ?_
            exact ih1 x_25 x_24 (om_34 LP1_h0 i_25) (om_mu hn1 (om_5 i_25) (om_6 i_18)) _ _ hP hD hS ls (lv_sub hl [0, 1, 2, 3, 4, 5, 6, 7, 8] rfl)
        · have w_22 : (0 : Int) ≤ 1 := w_22
          refine lv_if_eq (tgt := 79) hx hb dX4_heavyVotesBy_73 (by decide) (fun c_26 => ?_) (fun c_26 => ?_)
          · obtain ⟨x_27, ex_27⟩ : ∃ y : Int32, y = i + 1 := ⟨_, rfl⟩
            have i_27 : x_27.toInt = i.toInt + 1 := ki_add ex_27 rfl rfl (om_13 LP1_h0) (om_33 w_12.2 i_18)
            refine lv_iinc (v := x_27) (lv' := [(8, .int x_27), (7, .int many), (0, .ref m_), (1, .ref q_t), (2, .int p0), (3, .int p1), (4, .int p2), (5, .int p3), (6, .int p4)]) hx hb dX4_heavyVotesBy_79 hl (k := 0) rfl (by rw [ex_27]; rfl) (by decide) rfl (fun ls hl => ?_)
            refine lv_goto (tgt := 30) hx hb dX4_heavyVotesBy_82 (by decide) ?_
            exact ih1 x_27 many (om_34 LP1_h0 i_27) (om_mu hn1 (om_5 i_27) (om_6 i_18)) _ _ hP hD hS ls (lv_sub hl [0, 1, 2, 3, 4, 5, 6, 7, 8] rfl)
          · exact absurd c_26 (by decide)
  have k_28 : (0 : Int32).toInt = 0 := rfl
  have k_29 : (0 : Int32).toInt = 0 := rfl
  exact LP1 ((o_13.toInt - 0 : Int).toNat + 1) 0 0 om_35 (Nat.lt_succ_self _) _ _ hP hD hS ls (lv_sub hl [0, 1, 2, 3, 4, 5, 6, 7, 8] rfl)

set_option maxHeartbeats 4000000 in
set_option maxRecDepth 100000 in
theorem c_X4_least (l : Launch) (dC : Nat → ClassId) (dI : Nat → Nat → Nat) (m_ : Nat) (q_row : Nat) (q_t : Nat) (t_ : Nat) (h0 : Nat) (k0 : Nat) (w_ : Nat) (z_ : Nat) (slots : Int32) (old : Int32) (q_joined : Nat) (q_from : Nat) (q_to : Nat) (q_size : Nat) (q_lossOf : Nat) (q_lessBy : Nat) (q_value : Nat) (q_number : Nat) (nodes : Int32) (here : Int32) (q_cell : Nat) (cyI : ClassId) (len : Int32) (f : Nat → Int32) (ff : Nat → Int32) (ft : Nat → Int32) (fs : Nat → Int32) (fo : Nat → Int32) (uv : Nat → Int32) (un : Nat → Int32) (fe : Nat → Int32) (j_v : Nat) (j_n : Nat) (js : Int32) (jl : Int32) (je : Int32) (jv : Nat → Int32) (jn : Nat → Int32) (a_v : Nat) (a_n : Nat) (vs : Int32) (lo : Int32) (le : Int32) (fv : Nat → Int32) (fn : Nat → Int32) (p0 : Int32) (p1 : Int32) (p2 : Int32) (p3 : Int32) (sz : Nat) (a0 : 0 ≤ len.toInt) (a1 : len.toInt ≤ 160) (s0 : sixes fs) (l0 : laidP old ff ft nodes len) : kx_MQ l (dC, dI) yX4_least wsX4_least ({ frames := 6, cells := 0, slots := 0, locals := 270 }) [.ref m_, .int p0, .int p1, .int p2, .int p3] [kx_4 m_ q_row q_t t_ h0 k0 w_ z_ slots old, kx_2 q_t q_row q_joined q_from q_to q_size q_lossOf q_lessBy q_value q_number nodes here, kx_0 q_row q_cell len, kx_a q_cell cyI 160 f, kx_a q_from cyI 319 ff, kx_a q_to cyI 319 ft, kx_a q_size cyI 319 fs, kx_a q_lossOf cyI 319 fo, kx_a q_lessBy cyI 319 fe, kx_a q_value cyI 1914 uv, kx_a q_number cyI 1914 un, kx_3 q_joined j_v j_n js jl je, kx_a j_v cyI 12 jv, kx_a j_n cyI 12 jn, kx_3 h0 a_v a_n vs lo le, kx_a a_v cyI 12 fv, kx_a a_n cyI 12 fn] [(cyI, .int)] sz (fun A => va_Qi (fun (r : Int32) (u : Int32 × Int32 × Int32 × (Nat → Int32) × (Nat → Int32) × (Nat → Int32) × (Nat → Int32) × (Nat → Int32) × (Nat → Int32) × (Nat → Int32) × Int32 × Int32 × Int32 × (Nat → Int32) × (Nat → Int32) × Int32 × Int32 × Int32 × (Nat → Int32) × (Nat → Int32)) => laidP u.1 u.2.2.2.1 u.2.2.2.2.1 u.2.1 len ∧ sixes u.2.2.2.2.2.1) (fun (u : Int32 × Int32 × Int32 × (Nat → Int32) × (Nat → Int32) × (Nat → Int32) × (Nat → Int32) × (Nat → Int32) × (Nat → Int32) × (Nat → Int32) × Int32 × Int32 × Int32 × (Nat → Int32) × (Nat → Int32) × Int32 × Int32 × Int32 × (Nat → Int32) × (Nat → Int32)) (t : State) => va_P (dC, dI) vwCl [kx_4 m_ q_row q_t t_ h0 k0 w_ z_ slots u.1, kx_2 q_t q_row q_joined q_from q_to q_size q_lossOf q_lessBy q_value q_number u.2.1 u.2.2.1, kx_0 q_row q_cell len, kx_a q_cell cyI 160 f, kx_a q_from cyI 319 u.2.2.2.1, kx_a q_to cyI 319 u.2.2.2.2.1, kx_a q_size cyI 319 u.2.2.2.2.2.1, kx_a q_lossOf cyI 319 u.2.2.2.2.2.2.1, kx_a q_lessBy cyI 319 u.2.2.2.2.2.2.2.1, kx_a q_value cyI 1914 u.2.2.2.2.2.2.2.2.1, kx_a q_number cyI 1914 u.2.2.2.2.2.2.2.2.2.1, kx_3 q_joined j_v j_n u.2.2.2.2.2.2.2.2.2.2.1 u.2.2.2.2.2.2.2.2.2.2.2.1 u.2.2.2.2.2.2.2.2.2.2.2.2.1, kx_a j_v cyI 12 u.2.2.2.2.2.2.2.2.2.2.2.2.2.1, kx_a j_n cyI 12 u.2.2.2.2.2.2.2.2.2.2.2.2.2.2.1, kx_3 h0 a_v a_n u.2.2.2.2.2.2.2.2.2.2.2.2.2.2.2.1 u.2.2.2.2.2.2.2.2.2.2.2.2.2.2.2.2.1 u.2.2.2.2.2.2.2.2.2.2.2.2.2.2.2.2.2.1, kx_a a_v cyI 12 u.2.2.2.2.2.2.2.2.2.2.2.2.2.2.2.2.2.2.1, kx_a a_n cyI 12 u.2.2.2.2.2.2.2.2.2.2.2.2.2.2.2.2.2.2.2] t.heap ∧ va_K (dC, dI) vwCl [(cyI, .int)] t ∧ va_D A [kx_4 m_ q_row q_t t_ h0 k0 w_ z_ slots u.1, kx_2 q_t q_row q_joined q_from q_to q_size q_lossOf q_lessBy q_value q_number u.2.1 u.2.2.1, kx_0 q_row q_cell len, kx_a q_cell cyI 160 f, kx_a q_from cyI 319 u.2.2.2.1, kx_a q_to cyI 319 u.2.2.2.2.1, kx_a q_size cyI 319 u.2.2.2.2.2.1, kx_a q_lossOf cyI 319 u.2.2.2.2.2.2.1, kx_a q_lessBy cyI 319 u.2.2.2.2.2.2.2.1, kx_a q_value cyI 1914 u.2.2.2.2.2.2.2.2.1, kx_a q_number cyI 1914 u.2.2.2.2.2.2.2.2.2.1, kx_3 q_joined j_v j_n u.2.2.2.2.2.2.2.2.2.2.1 u.2.2.2.2.2.2.2.2.2.2.2.1 u.2.2.2.2.2.2.2.2.2.2.2.2.1, kx_a j_v cyI 12 u.2.2.2.2.2.2.2.2.2.2.2.2.2.1, kx_a j_n cyI 12 u.2.2.2.2.2.2.2.2.2.2.2.2.2.2.1, kx_3 h0 a_v a_n u.2.2.2.2.2.2.2.2.2.2.2.2.2.2.2.1 u.2.2.2.2.2.2.2.2.2.2.2.2.2.2.2.2.1 u.2.2.2.2.2.2.2.2.2.2.2.2.2.2.2.2.2.1, kx_a a_v cyI 12 u.2.2.2.2.2.2.2.2.2.2.2.2.2.2.2.2.2.2.1, kx_a a_n cyI 12 u.2.2.2.2.2.2.2.2.2.2.2.2.2.2.2.2.2.2.2]) A) := by
  refine kx_stQ (ws := wsX4_least) (cc := cX4_least) (maxL := 9) (ret := (some .int)) (by decide) rfl (Nat.le_of_ble_eq_true rfl) ?_
  intro p e s m below meth c A ls hx hb hr hlocks hts hown hml hA hS hP hK hD hl
  have hown : s.vm.findClass RX4 = some m.cls := hown
  have hl : lv_has ls 9 [(0, .ref m_), (1, .int p0), (2, .int p1), (3, .int p2), (4, .int p3)] := hl
  have hf_12 := hts (.fieldLink RX4 12 "MajorityIndex" "row" "LMajorityIndex$Row;") (List.mem_of_getElem? (i := 1) rfl)
  have hi_4 : ∀ w ∈ u_ws RX4 TX4 9, w ∈ wsX4_least := fun w h => List.mem_cons_of_mem _ (List.mem_append_left _ (List.mem_append_left _ (List.mem_append_left _ (List.mem_append_right _ h))))
  have hf_49 := hts (.fieldLink RX4 49 "MajorityIndex" "slotsNow" "I") (List.mem_of_getElem? (i := 2) rfl)
  have hf_204 := hts (.fieldLink RX4 204 "MajorityIndex$Tree" "slotsHere" "I") (List.mem_of_getElem? (i := 3) rfl)
  have hi_2 : ∀ w ∈ u_ws RX2 TX2 11, w ∈ wsX4_least := fun w h => List.mem_cons_of_mem _ (List.mem_append_left _ (List.mem_append_left _ (List.mem_append_right _ h)))
  refine lv_aload_n hx hb dX4_least_0 rfl (lv_at hl 0 rfl) ?_
  refine va_get (D := (dC, dI)) (ci := 4) (v := .ref q_row) (C := RX4) (T := TX4) (N := 9) hx hb hts hi_4 hown hK hP 0 rfl rfl 0 (by decide) hf_12 (fun _ h9 => h9) rfl dX4_least_1 ?_
  refine lv_iload_n hx hb dX4_least_4 rfl (lv_at hl 1 rfl) ?_
  refine lv_iload_n hx hb dX4_least_5 rfl (lv_at hl 2 rfl) ?_
  have hPc := hP.sub (ws' := [kx_0 q_row q_cell len]) [2] rfl
  have hKc := hK.sub (tys' := []) [] rfl
  refine vp_callSi (W.runV (As := [.int p0, .int p1]) (rest := []) ⟨hx, hb, hml, hown, hts⟩ (c_X0_hasRange l dC dI q_row q_cell len p0 p1) (cwV 2 hts gX4_least_X0_hasRange rfl rfl rfl (by decide +kernel) ⟨Nat.le_of_ble_eq_true rfl, Nat.le_of_ble_eq_true rfl⟩) ⟨fun a U g mk q => by obtain ⟨q0, qP, qK⟩ := q; exact ⟨q0, qP, va_K.moved (u := U) (U := U.calling g mk a) (Vm.Alike.refl U.vm) qK⟩, kx_rc0 hKc hPc (q0 := 0) rfl, fun U hU hW => ⟨rfl, by rw [hU]; exact hPc, va_K.moved hW.alike hKc⟩⟩ rfl rfl hl.1 rfl (lv_room (Nat.le_of_ble_eq_true rfl)) dX4_least_6 ⟨Nat.le_of_ble_eq_true rfl, Nat.le_of_ble_eq_true rfl⟩) (fun r_1 w_1 => ?_)
  rcases w_1 with ⟨rfl, w_1⟩ | ⟨rfl, w_1⟩
  · have w_1 : (0 ≤ p0.toInt ∧ p0.toInt < p1.toInt ∧ p1.toInt ≤ len.toInt) := w_1
    refine lv_if_eq (tgt := 29) hx hb dX4_least_9 (by decide) (fun c_2 => ?_) (fun c_2 => ?_)
    · exact absurd c_2 (by decide)
    · refine lv_iload_n hx hb dX4_least_12 rfl (lv_at hl 2 rfl) ?_
      refine lv_iload_n hx hb dX4_least_13 rfl (lv_at hl 1 rfl) ?_
      refine lv_isub hx hb dX4_least_14 ?_
      refine lv_topi (fun y_3 ey_3 => ?_)
      have i_3 : y_3.toInt = p1.toInt - p0.toInt := ki_sub ey_3 rfl rfl (om_168 w_1.2.1) (om_169 a1 w_1.1 w_1.2.2)
      refine lv_bipush (v := 64) hx hb dX4_least_15 (by decide) ?_
      refine lv_icmp_gt (tgt := 29) hx hb dX4_least_17 (by decide) (fun c_4 => ?_) (fun c_4 => ?_)
      · have i_4 : 64 < y_3.toInt := kc_lt c_4
        refine lv_iconst (v := (-1)) hx hb dX4_least_29 (by decide) ?_
        have hP9 := hP
        have hD9 := hD
        have hK9 := hK
        exact W.iret (v := (-1)) hx hb hr (hlocks := hlocks) (fun t ht hW => ⟨⟨(-1), (old, nodes, here, ff, ft, fs, fo, fe, uv, un, js, jl, je, jv, jn, vs, lo, le, fv, fn), rfl, ⟨l0, s0⟩, by rw [ht]; exact hP9, va_K.moved hW.alike hK9, hD9⟩, hS.F ht⟩) hS.2.2 dX4_least_30
      · have i_4 : y_3.toInt ≤ 64 := kc_nlt c_4
        refine lv_iload_n hx hb dX4_least_20 rfl (lv_at hl 3 rfl) ?_
        refine lv_iload hx hb dX4_least_21 (lv_at hl 4 rfl) ?_
        have hPc := hP.sub (ws' := []) [] rfl
        have hKc := hK.sub (tys' := []) [] rfl
        refine vp_callSi (W.runS (As := [.int p2, .int p3]) (rest := []) ⟨hx, hb, hml, hown, hts⟩ (c_X4_isShare l dC dI p2 p3) (va_cwS 2 hts gX4_least_X4_isShare rfl rfl rfl (by decide +kernel) ⟨Nat.le_of_ble_eq_true rfl, Nat.le_of_ble_eq_true rfl⟩) ⟨fun a U g mk q => by obtain ⟨q0, qP, qK⟩ := q; exact ⟨q0, qP, va_K.moved (u := U) (U := U.calling g mk a) (Vm.Alike.refl U.vm) qK⟩, fun U hU hW => ⟨rfl, by rw [hU]; exact hPc, va_K.moved hW.alike hKc⟩⟩ rfl rfl hl.1 rfl (lv_room (Nat.le_of_ble_eq_true rfl)) dX4_least_23 ⟨Nat.le_of_ble_eq_true rfl, Nat.le_of_ble_eq_true rfl⟩) (fun r_5 w_5 => ?_)
        rcases w_5 with ⟨rfl, w_5⟩ | ⟨rfl, w_5⟩
        · have w_5 : (1 ≤ p2.toInt ∧ p2.toInt ≤ p3.toInt ∧ p3.toInt ≤ 999) := w_5
          refine lv_if_ne (tgt := 31) hx hb dX4_least_26 (by decide) (fun c_6 => ?_) (fun c_6 => ?_)
          · refine lv_aload_n hx hb dX4_least_31 rfl (lv_at hl 0 rfl) ?_
            refine lv_iload_n hx hb dX4_least_32 rfl (lv_at hl 1 rfl) ?_
            refine lv_iload_n hx hb dX4_least_33 rfl (lv_at hl 2 rfl) ?_
            refine lv_iload_n hx hb dX4_least_34 rfl (lv_at hl 3 rfl) ?_
            refine lv_iload hx hb dX4_least_35 (lv_at hl 4 rfl) ?_
            have hPc := hP.sub (ws' := [kx_4 m_ q_row q_t t_ h0 k0 w_ z_ slots old, kx_0 q_row q_cell len, kx_a q_cell cyI 160 f]) [0, 2, 3] rfl
            have hKc := hK
            refine vp_callSi (W.runV (As := [.int p0, .int p1, .int p2, .int p3]) (rest := []) ⟨hx, hb, hml, hown, hts⟩ (c_X4_heavyValues l dC dI m_ q_row q_t t_ h0 k0 w_ z_ slots old q_cell cyI len f p0 p1 p2 p3 a0 a1 (om_10 w_1.1) (om_167 a1 w_1.2.2)) (cwV 4 hts gX4_least_X4_heavyValues rfl rfl rfl (by decide +kernel) ⟨Nat.le_of_ble_eq_true rfl, Nat.le_of_ble_eq_true rfl⟩) ⟨fun a U g mk q => by obtain ⟨q0, qP, qK⟩ := q; exact ⟨q0, qP, va_K.moved (u := U) (U := U.calling g mk a) (Vm.Alike.refl U.vm) qK⟩, kx_rc4 hKc hPc (q0 := 0) rfl, fun U hU hW => ⟨rfl, by rw [hU]; exact hPc, va_K.moved hW.alike hKc⟩⟩ rfl rfl hl.1 rfl (lv_room (Nat.le_of_ble_eq_true rfl)) dX4_least_37 ⟨Nat.le_of_ble_eq_true rfl, Nat.le_of_ble_eq_true rfl⟩) (fun r_7 w_7 => ?_)
            refine lv_istore (lv' := [(5, .int r_7), (0, .ref m_), (1, .int p0), (2, .int p1), (3, .int p2), (4, .int p3)]) hx hb dX4_least_40 hl (by decide) rfl (fun ls hl => ?_)
            refine lv_bipush (v := (-2)) hx hb dX4_least_42 (by decide) ?_
            refine lv_istore (lv' := [(6, .int (-2)), (5, .int r_7), (0, .ref m_), (1, .int p0), (2, .int p1), (3, .int p2), (4, .int p3)]) hx hb dX4_least_44 hl (by decide) rfl (fun ls hl => ?_)
            refine lv_aload_n hx hb dX4_least_46 rfl (lv_at hl 2 rfl) ?_
            obtain ⟨hPc, hDc, hFc, hCc⟩ := kx_preM (wc := [kx_4 m_ q_row q_t t_ h0 k0 w_ z_ slots old, kx_2 q_t q_row q_joined q_from q_to q_size q_lossOf q_lessBy q_value q_number nodes here, kx_0 q_row q_cell len, kx_a q_cell cyI 160 f, kx_a q_from cyI 319 ff, kx_a q_to cyI 319 ft, kx_a q_size cyI 319 fs, kx_a q_lossOf cyI 319 fo, kx_a q_lessBy cyI 319 fe, kx_a q_value cyI 1914 uv, kx_a q_number cyI 1914 un, kx_3 q_joined j_v j_n js jl je, kx_a j_v cyI 12 jv, kx_a j_n cyI 12 jn]) hP hD hS hA [true, true, true, true, true, true, true, true, true, true, true, true, true, true, false, false, false] rfl
            have hKc := hK
            refine va_callr (va_runV (As := []) (rest := []) ⟨hx, hb, hml, hown, hts⟩ (kx_un (c_X4_laidTree l dC dI m_ q_row q_t t_ h0 k0 w_ z_ slots old q_joined q_from q_to q_size q_lossOf q_lessBy q_value q_number nodes here q_cell cyI len f ff ft fs fo uv un fe j_v j_n js jl je jv jn s.heap.size a0 a1 s0 l0)) (cwV 0 hts gX4_least_X4_laidTree rfl rfl rfl (by decide +kernel) ⟨Nat.le_of_ble_eq_true rfl, Nat.le_of_ble_eq_true rfl⟩) ⟨fun a U g mk q => by obtain ⟨q0, q1, qP, qK, qD⟩ := q; exact ⟨q0, q1, qP, va_K.moved (u := U) (U := U.calling g mk a) (Vm.Alike.refl U.vm) qK, qD⟩, kx_rc4 hKc hPc (q0 := 0) rfl, fun U hU hW => ⟨rfl, by rw [hU], by rw [hU]; exact hPc, va_K.moved hW.alike hKc, hDc.weaken (fun _ _ _ _ => trivial)⟩⟩ rfl rfl hl.1 rfl (lv_room (Nat.le_of_ble_eq_true rfl)) dX4_least_47 ⟨Nat.le_of_ble_eq_true rfl, Nat.le_of_ble_eq_true rfl⟩) hS (fun q _ h => hFc q h) hFc (fun u ra t H1 locs ht hvm w_8 hB hz1 hk1 hS => ?_)
            obtain ⟨o_9, o_10, o_11, o_12, o_13, o_14, o_15, o_16, o_17, o_18, o_19, o_20, o_21, o_22, o_23⟩ := u
            dsimp only at w_8 hB
            obtain ⟨er, hP1, hK1, hD1⟩ := hB
            rw [ht] at hP1
            have hK1 := va_K.moved hvm.symm hK1
            obtain ⟨hP, hD⟩ := kx_joinM (w2 := [kx_4 m_ q_row q_t t_ h0 k0 w_ z_ slots o_9, kx_2 q_t q_row q_joined q_from q_to q_size q_lossOf q_lessBy q_value q_number o_10 o_11, kx_0 q_row q_cell len, kx_a q_cell cyI 160 f, kx_a q_from cyI 319 o_12, kx_a q_to cyI 319 o_13, kx_a q_size cyI 319 o_14, kx_a q_lossOf cyI 319 o_15, kx_a q_lessBy cyI 319 o_16, kx_a q_value cyI 1914 o_17, kx_a q_number cyI 1914 o_18, kx_3 q_joined j_v j_n o_19 o_20 o_21, kx_a j_v cyI 12 o_22, kx_a j_n cyI 12 o_23, kx_3 h0 a_v a_n vs lo le, kx_a a_v cyI 12 fv, kx_a a_n cyI 12 fn]) hP hD hP1 hD1 hk1 hFc [true, true, true, true, true, true, true, true, true, true, true, true, true, true, false, false, false] hCc rfl
            clear hP1 hD1 hK1 hk1 hz1 hFc hDc hPc hKc hCc
            generalize H1 = H at hP hS ⊢
            have w_8 : o_9.toInt = 0 ∧ 0 ≤ o_10.toInt ∧ o_10.toInt ≤ 319 ∧ sixes o_14 ∧ treeOk o_12 o_13 o_10.toInt len.toInt := w_8
            rw [er]
            refine lv_astore (lv' := [(7, .ref q_t), (6, .int (-2)), (5, .int r_7), (0, .ref m_), (1, .int p0), (2, .int p1), (3, .int p2), (4, .int p3)]) hx hb dX4_least_50 hl (by decide) rfl (fun ls hl => ?_)
            refine lv_iconst (v := 1) hx hb dX4_least_52 (by decide) ?_
            refine lv_istore (lv' := [(8, .int 1), (7, .ref q_t), (6, .int (-2)), (5, .int r_7), (0, .ref m_), (1, .int p0), (2, .int p1), (3, .int p2), (4, .int p3)]) hx hb dX4_least_53 hl (by decide) rfl (fun ls hl => ?_)
            have LP1 : ∀ (n : Nat) (found : Int32) (k : Int32) (g_here : Int32) (g_s : Nat → Int32) (g_o : Nat → Int32) (g_e : Nat → Int32) (g_v : Nat → Int32) (g_n : Nat → Int32) (g_js : Int32) (g_jl : Int32) (g_je : Int32) (g_jv : Nat → Int32) (g_jn : Nat → Int32) (g_vs : Int32) (g_vl : Int32) (g_ve : Int32) (g_vv : Nat → Int32) (g_vn : Nat → Int32), (1 ≤ k.toInt) → (sixes g_s) → (7 - k.toInt).toNat < n → ∀ (H : Heap) (locs : List Loc), va_P (dC, dI) vwCl [kx_4 m_ q_row q_t t_ h0 k0 w_ z_ slots o_9, kx_2 q_t q_row q_joined q_from q_to q_size q_lossOf q_lessBy q_value q_number o_10 g_here, kx_0 q_row q_cell len, kx_a q_cell cyI 160 f, kx_a q_from cyI 319 o_12, kx_a q_to cyI 319 o_13, kx_a q_size cyI 319 g_s, kx_a q_lossOf cyI 319 g_o, kx_a q_lessBy cyI 319 g_e, kx_a q_value cyI 1914 g_v, kx_a q_number cyI 1914 g_n, kx_3 q_joined j_v j_n g_js g_jl g_je, kx_a j_v cyI 12 g_jv, kx_a j_n cyI 12 g_jn, kx_3 h0 a_v a_n g_vs g_vl g_ve, kx_a a_v cyI 12 g_vv, kx_a a_n cyI 12 g_vn] H → va_D A [kx_4 m_ q_row q_t t_ h0 k0 w_ z_ slots o_9, kx_2 q_t q_row q_joined q_from q_to q_size q_lossOf q_lessBy q_value q_number o_10 g_here, kx_0 q_row q_cell len, kx_a q_cell cyI 160 f, kx_a q_from cyI 319 o_12, kx_a q_to cyI 319 o_13, kx_a q_size cyI 319 g_s, kx_a q_lossOf cyI 319 g_o, kx_a q_lessBy cyI 319 g_e, kx_a q_value cyI 1914 g_v, kx_a q_number cyI 1914 g_n, kx_3 q_joined j_v j_n g_js g_jl g_je, kx_a j_v cyI 12 g_jv, kx_a j_n cyI 12 g_jn, kx_3 h0 a_v a_n g_vs g_vl g_ve, kx_a a_v cyI 12 g_vv, kx_a a_n cyI 12 g_vn] → va_S A s.heap H locs → ∀ (ls : Array Slot), lv_has ls 9 [(8, .int k), (7, .ref q_t), (6, .int found), (5, .int r_7), (0, .ref m_), (1, .int p0), (2, .int p1), (3, .int p2), (4, .int p3)] → W p l e (headSpec wsX4_least ({ frames := 6, cells := 0, slots := 0, locals := 270 })).room s m ([.ref m_, .int p0, .int p1, .int p2, .int p3] : List Value).toArray below meth c H locs 0 0 (MQ below (va_Qi (fun (r : Int32) (u : Int32 × Int32 × Int32 × (Nat → Int32) × (Nat → Int32) × (Nat → Int32) × (Nat → Int32) × (Nat → Int32) × (Nat → Int32) × (Nat → Int32) × Int32 × Int32 × Int32 × (Nat → Int32) × (Nat → Int32) × Int32 × Int32 × Int32 × (Nat → Int32) × (Nat → Int32)) => laidP u.1 u.2.2.2.1 u.2.2.2.2.1 u.2.1 len ∧ sixes u.2.2.2.2.2.1) (fun (u : Int32 × Int32 × Int32 × (Nat → Int32) × (Nat → Int32) × (Nat → Int32) × (Nat → Int32) × (Nat → Int32) × (Nat → Int32) × (Nat → Int32) × Int32 × Int32 × Int32 × (Nat → Int32) × (Nat → Int32) × Int32 × Int32 × Int32 × (Nat → Int32) × (Nat → Int32)) (t : State) => va_P (dC, dI) vwCl [kx_4 m_ q_row q_t t_ h0 k0 w_ z_ slots u.1, kx_2 q_t q_row q_joined q_from q_to q_size q_lossOf q_lessBy q_value q_number u.2.1 u.2.2.1, kx_0 q_row q_cell len, kx_a q_cell cyI 160 f, kx_a q_from cyI 319 u.2.2.2.1, kx_a q_to cyI 319 u.2.2.2.2.1, kx_a q_size cyI 319 u.2.2.2.2.2.1, kx_a q_lossOf cyI 319 u.2.2.2.2.2.2.1, kx_a q_lessBy cyI 319 u.2.2.2.2.2.2.2.1, kx_a q_value cyI 1914 u.2.2.2.2.2.2.2.2.1, kx_a q_number cyI 1914 u.2.2.2.2.2.2.2.2.2.1, kx_3 q_joined j_v j_n u.2.2.2.2.2.2.2.2.2.2.1 u.2.2.2.2.2.2.2.2.2.2.2.1 u.2.2.2.2.2.2.2.2.2.2.2.2.1, kx_a j_v cyI 12 u.2.2.2.2.2.2.2.2.2.2.2.2.2.1, kx_a j_n cyI 12 u.2.2.2.2.2.2.2.2.2.2.2.2.2.2.1, kx_3 h0 a_v a_n u.2.2.2.2.2.2.2.2.2.2.2.2.2.2.2.1 u.2.2.2.2.2.2.2.2.2.2.2.2.2.2.2.2.1 u.2.2.2.2.2.2.2.2.2.2.2.2.2.2.2.2.2.1, kx_a a_v cyI 12 u.2.2.2.2.2.2.2.2.2.2.2.2.2.2.2.2.2.2.1, kx_a a_n cyI 12 u.2.2.2.2.2.2.2.2.2.2.2.2.2.2.2.2.2.2.2] t.heap ∧ va_K (dC, dI) vwCl [(cyI, .int)] t ∧ va_D A [kx_4 m_ q_row q_t t_ h0 k0 w_ z_ slots u.1, kx_2 q_t q_row q_joined q_from q_to q_size q_lossOf q_lessBy q_value q_number u.2.1 u.2.2.1, kx_0 q_row q_cell len, kx_a q_cell cyI 160 f, kx_a q_from cyI 319 u.2.2.2.1, kx_a q_to cyI 319 u.2.2.2.2.1, kx_a q_size cyI 319 u.2.2.2.2.2.1, kx_a q_lossOf cyI 319 u.2.2.2.2.2.2.1, kx_a q_lessBy cyI 319 u.2.2.2.2.2.2.2.1, kx_a q_value cyI 1914 u.2.2.2.2.2.2.2.2.1, kx_a q_number cyI 1914 u.2.2.2.2.2.2.2.2.2.1, kx_3 q_joined j_v j_n u.2.2.2.2.2.2.2.2.2.2.1 u.2.2.2.2.2.2.2.2.2.2.2.1 u.2.2.2.2.2.2.2.2.2.2.2.2.1, kx_a j_v cyI 12 u.2.2.2.2.2.2.2.2.2.2.2.2.2.1, kx_a j_n cyI 12 u.2.2.2.2.2.2.2.2.2.2.2.2.2.2.1, kx_3 h0 a_v a_n u.2.2.2.2.2.2.2.2.2.2.2.2.2.2.2.1 u.2.2.2.2.2.2.2.2.2.2.2.2.2.2.2.2.1 u.2.2.2.2.2.2.2.2.2.2.2.2.2.2.2.2.2.1, kx_a a_v cyI 12 u.2.2.2.2.2.2.2.2.2.2.2.2.2.2.2.2.2.2.1, kx_a a_n cyI 12 u.2.2.2.2.2.2.2.2.2.2.2.2.2.2.2.2.2.2.2]) A) ([.ref m_, .int p0, .int p1, .int p2, .int p3] : List Value).toArray s 0 0 A) (F0 m 55 ls []) := by
              intro n
              induction n with
              | zero => intro found k g_here g_s g_o g_e g_v g_n g_js g_jl g_je g_jv g_jn g_vs g_vl g_ve g_vv g_vn LP1_h0 LP1_h1 hn; exact absurd hn (Nat.not_lt_zero _)
              | succ n ih1 =>
                intro found k g_here g_s g_o g_e g_v g_n g_js g_jl g_je g_jv g_jn g_vs g_vl g_ve g_vv g_vn LP1_h0 LP1_h1 hn1 H locs hP hD hS ls hl
                refine lv_iload hx hb dX4_least_55 (lv_at hl 0 rfl) ?_
                refine lv_bipush (v := 6) hx hb dX4_least_57 (by decide) ?_
                refine lv_icmp_gt (tgt := 104) hx hb dX4_least_59 (by decide) (fun c_24 => ?_) (fun c_24 => ?_)
                · have i_24 : 6 < k.toInt := kc_lt c_24
                  refine lv_aload hx hb dX4_least_104 (lv_at hl 1 rfl) ?_
                  refine lv_aload_n hx hb dX4_least_106 rfl (lv_at hl 4 rfl) ?_
                  refine va_get (D := (dC, dI)) (ci := 4) (v := .int slots) (C := RX4) (T := TX4) (N := 9) hx hb hts hi_4 hown hK hP 0 rfl rfl 7 (by decide) hf_49 (fun _ h9 => h9) rfl dX4_least_107 ?_
                  refine va_put (D := (dC, dI)) (ci := 2) (v := .int slots) (ty := .int) (C := RX2) (T := TX2) (N := 11) hx hb hts hi_2 tyX2 tyX2_ok nmX2 hown hK hP hD hS 1 rfl rfl 10 (by decide) hf_204 (fun _ h9 => h9) rfl (by decide +kernel) rfl rfl (Nat.le_of_ble_eq_true rfl) dX4_least_110 (fun H locs hP hD hS => ?_)
                  obtain ⟨hP, hD⟩ := kx_re (w2 := [kx_4 m_ q_row q_t t_ h0 k0 w_ z_ slots o_9, kx_2 q_t q_row q_joined q_from q_to q_size q_lossOf q_lessBy q_value q_number o_10 slots, kx_0 q_row q_cell len, kx_a q_cell cyI 160 f, kx_a q_from cyI 319 o_12, kx_a q_to cyI 319 o_13, kx_a q_size cyI 319 g_s, kx_a q_lossOf cyI 319 g_o, kx_a q_lessBy cyI 319 g_e, kx_a q_value cyI 1914 g_v, kx_a q_number cyI 1914 g_n, kx_3 q_joined j_v j_n g_js g_jl g_je, kx_a j_v cyI 12 g_jv, kx_a j_n cyI 12 g_jn, kx_3 h0 a_v a_n g_vs g_vl g_ve, kx_a a_v cyI 12 g_vv, kx_a a_n cyI 12 g_vn]) hP hD rfl
                  refine lv_aload hx hb dX4_least_113 (lv_at hl 1 rfl) ?_
                  refine lv_iload_n hx hb dX4_least_115 rfl (lv_at hl 5 rfl) ?_
                  refine lv_iload_n hx hb dX4_least_116 rfl (lv_at hl 6 rfl) ?_
                  obtain ⟨hPc, hDc, hFc, hCc⟩ := kx_preM (wc := [kx_2 q_t q_row q_joined q_from q_to q_size q_lossOf q_lessBy q_value q_number o_10 slots, kx_0 q_row q_cell len, kx_a q_cell cyI 160 f, kx_a q_from cyI 319 o_12, kx_a q_to cyI 319 o_13, kx_a q_size cyI 319 g_s, kx_a q_lossOf cyI 319 g_o, kx_a q_lessBy cyI 319 g_e, kx_a q_value cyI 1914 g_v, kx_a q_number cyI 1914 g_n, kx_3 q_joined j_v j_n g_js g_jl g_je, kx_a j_v cyI 12 g_jv, kx_a j_n cyI 12 g_jn]) hP hD hS hA [false, true, true, true, true, true, true, true, true, true, true, true, true, true, false, false, false] rfl
                  have hKc := hK
                  refine va_calli (va_runV (As := [.int p0, .int p1]) (rest := []) ⟨hx, hb, hml, hown, hts⟩ (kx_un (c_X2_renew l dC dI q_t q_row q_joined q_from q_to q_size q_lossOf q_lessBy q_value q_number o_10 slots q_cell cyI len f o_12 o_13 g_s g_o g_v g_n g_e j_v j_n g_js g_jl g_je g_jv g_jn p0 p1 H.size w_8.2.1 w_8.2.2.1 a1 LP1_h1 w_8.2.2.2.2)) (cwV 2 hts gX4_least_X2_renew rfl rfl rfl (by decide +kernel) ⟨Nat.le_of_ble_eq_true rfl, Nat.le_of_ble_eq_true rfl⟩) ⟨fun a U g mk q => by obtain ⟨q0, q1, qP, qK, qD⟩ := q; exact ⟨q0, q1, qP, va_K.moved (u := U) (U := U.calling g mk a) (Vm.Alike.refl U.vm) qK, qD⟩, kx_rc2 hKc hPc (q0 := 0) rfl, fun U hU hW => ⟨rfl, by rw [hU], by rw [hU]; exact hPc, va_K.moved hW.alike hKc, hDc.weaken (fun _ _ _ _ => trivial)⟩⟩ rfl rfl hl.1 rfl (lv_room (Nat.le_of_ble_eq_true rfl)) dX4_least_117 ⟨Nat.le_of_ble_eq_true rfl, Nat.le_of_ble_eq_true rfl⟩) hS (fun q _ h => hFc q h) hFc (fun r_25 u t H1 locs ht hvm w_25 hB hz1 hk1 hS => ?_)
                  obtain ⟨o_26, o_27, o_28, o_29, o_30, o_31, o_32, o_33, o_34, o_35⟩ := u
                  dsimp only at w_25 hB
                  obtain ⟨hP1, hK1, hD1⟩ := hB
                  rw [ht] at hP1
                  have hK1 := va_K.moved hvm.symm hK1
                  obtain ⟨hP, hD⟩ := kx_joinM (w2 := [kx_4 m_ q_row q_t t_ h0 k0 w_ z_ slots o_9, kx_2 q_t q_row q_joined q_from q_to q_size q_lossOf q_lessBy q_value q_number o_10 slots, kx_0 q_row q_cell len, kx_a q_cell cyI 160 f, kx_a q_from cyI 319 o_12, kx_a q_to cyI 319 o_13, kx_a q_size cyI 319 o_26, kx_a q_lossOf cyI 319 o_27, kx_a q_lessBy cyI 319 o_28, kx_a q_value cyI 1914 o_29, kx_a q_number cyI 1914 o_30, kx_3 q_joined j_v j_n o_31 o_32 o_33, kx_a j_v cyI 12 o_34, kx_a j_n cyI 12 o_35, kx_3 h0 a_v a_n g_vs g_vl g_ve, kx_a a_v cyI 12 g_vv, kx_a a_n cyI 12 g_vn]) hP hD hP1 hD1 hk1 hFc [false, true, true, true, true, true, true, true, true, true, true, true, true, true, false, false, false] hCc rfl
                  clear hP1 hD1 hK1 hk1 hz1 hFc hDc hPc hKc hCc
                  generalize H1 = H at hP hS ⊢
                  have w_25 : sixes o_26 := w_25
                  refine lv_pop hx hb dX4_least_120 rfl ?_
                  refine lv_iload hx hb dX4_least_121 (lv_at hl 2 rfl) ?_
                  have hP9 := hP
                  have hD9 := hD
                  have hK9 := hK
                  exact W.iret (v := found) hx hb hr (hlocks := hlocks) (fun t ht hW => ⟨⟨found, (o_9, o_10, slots, o_12, o_13, o_26, o_27, o_28, o_29, o_30, o_31, o_32, o_33, o_34, o_35, g_vs, g_vl, g_ve, g_vv, g_vn), rfl, ⟨(fun _ => ⟨(by (try dsimp only); omega), (by (try dsimp only); omega), w_8.2.2.2.2⟩), w_25⟩, by rw [ht]; exact hP9, va_K.moved hW.alike hK9, hD9⟩, hS.F ht⟩) hS.2.2 dX4_least_123
                · have i_24 : k.toInt ≤ 6 := kc_nlt c_24
                  refine lv_iload hx hb dX4_least_62 (lv_at hl 2 rfl) ?_
                  refine lv_bipush (v := (-2)) hx hb dX4_least_64 (by decide) ?_
                  refine lv_icmp_ne (tgt := 104) hx hb dX4_least_66 (by decide) (fun c_36 => ?_) (fun c_36 => ?_)
                  · have i_36 : ¬ found.toInt = (-2) := kc_ne c_36
                    refine lv_aload hx hb dX4_least_104 (lv_at hl 1 rfl) ?_
                    refine lv_aload_n hx hb dX4_least_106 rfl (lv_at hl 4 rfl) ?_
                    refine va_get (D := (dC, dI)) (ci := 4) (v := .int slots) (C := RX4) (T := TX4) (N := 9) hx hb hts hi_4 hown hK hP 0 rfl rfl 7 (by decide) hf_49 (fun _ h9 => h9) rfl dX4_least_107 ?_
                    refine va_put (D := (dC, dI)) (ci := 2) (v := .int slots) (ty := .int) (C := RX2) (T := TX2) (N := 11) hx hb hts hi_2 tyX2 tyX2_ok nmX2 hown hK hP hD hS 1 rfl rfl 10 (by decide) hf_204 (fun _ h9 => h9) rfl (by decide +kernel) rfl rfl (Nat.le_of_ble_eq_true rfl) dX4_least_110 (fun H locs hP hD hS => ?_)
                    obtain ⟨hP, hD⟩ := kx_re (w2 := [kx_4 m_ q_row q_t t_ h0 k0 w_ z_ slots o_9, kx_2 q_t q_row q_joined q_from q_to q_size q_lossOf q_lessBy q_value q_number o_10 slots, kx_0 q_row q_cell len, kx_a q_cell cyI 160 f, kx_a q_from cyI 319 o_12, kx_a q_to cyI 319 o_13, kx_a q_size cyI 319 g_s, kx_a q_lossOf cyI 319 g_o, kx_a q_lessBy cyI 319 g_e, kx_a q_value cyI 1914 g_v, kx_a q_number cyI 1914 g_n, kx_3 q_joined j_v j_n g_js g_jl g_je, kx_a j_v cyI 12 g_jv, kx_a j_n cyI 12 g_jn, kx_3 h0 a_v a_n g_vs g_vl g_ve, kx_a a_v cyI 12 g_vv, kx_a a_n cyI 12 g_vn]) hP hD rfl
                    refine lv_aload hx hb dX4_least_113 (lv_at hl 1 rfl) ?_
                    refine lv_iload_n hx hb dX4_least_115 rfl (lv_at hl 5 rfl) ?_
                    refine lv_iload_n hx hb dX4_least_116 rfl (lv_at hl 6 rfl) ?_
                    obtain ⟨hPc, hDc, hFc, hCc⟩ := kx_preM (wc := [kx_2 q_t q_row q_joined q_from q_to q_size q_lossOf q_lessBy q_value q_number o_10 slots, kx_0 q_row q_cell len, kx_a q_cell cyI 160 f, kx_a q_from cyI 319 o_12, kx_a q_to cyI 319 o_13, kx_a q_size cyI 319 g_s, kx_a q_lossOf cyI 319 g_o, kx_a q_lessBy cyI 319 g_e, kx_a q_value cyI 1914 g_v, kx_a q_number cyI 1914 g_n, kx_3 q_joined j_v j_n g_js g_jl g_je, kx_a j_v cyI 12 g_jv, kx_a j_n cyI 12 g_jn]) hP hD hS hA [false, true, true, true, true, true, true, true, true, true, true, true, true, true, false, false, false] rfl
                    have hKc := hK
                    refine va_calli (va_runV (As := [.int p0, .int p1]) (rest := []) ⟨hx, hb, hml, hown, hts⟩ (kx_un (c_X2_renew l dC dI q_t q_row q_joined q_from q_to q_size q_lossOf q_lessBy q_value q_number o_10 slots q_cell cyI len f o_12 o_13 g_s g_o g_v g_n g_e j_v j_n g_js g_jl g_je g_jv g_jn p0 p1 H.size w_8.2.1 w_8.2.2.1 a1 LP1_h1 w_8.2.2.2.2)) (cwV 2 hts gX4_least_X2_renew rfl rfl rfl (by decide +kernel) ⟨Nat.le_of_ble_eq_true rfl, Nat.le_of_ble_eq_true rfl⟩) ⟨fun a U g mk q => by obtain ⟨q0, q1, qP, qK, qD⟩ := q; exact ⟨q0, q1, qP, va_K.moved (u := U) (U := U.calling g mk a) (Vm.Alike.refl U.vm) qK, qD⟩, kx_rc2 hKc hPc (q0 := 0) rfl, fun U hU hW => ⟨rfl, by rw [hU], by rw [hU]; exact hPc, va_K.moved hW.alike hKc, hDc.weaken (fun _ _ _ _ => trivial)⟩⟩ rfl rfl hl.1 rfl (lv_room (Nat.le_of_ble_eq_true rfl)) dX4_least_117 ⟨Nat.le_of_ble_eq_true rfl, Nat.le_of_ble_eq_true rfl⟩) hS (fun q _ h => hFc q h) hFc (fun r_37 u t H1 locs ht hvm w_37 hB hz1 hk1 hS => ?_)
                    obtain ⟨o_38, o_39, o_40, o_41, o_42, o_43, o_44, o_45, o_46, o_47⟩ := u
                    dsimp only at w_37 hB
                    obtain ⟨hP1, hK1, hD1⟩ := hB
                    rw [ht] at hP1
                    have hK1 := va_K.moved hvm.symm hK1
                    obtain ⟨hP, hD⟩ := kx_joinM (w2 := [kx_4 m_ q_row q_t t_ h0 k0 w_ z_ slots o_9, kx_2 q_t q_row q_joined q_from q_to q_size q_lossOf q_lessBy q_value q_number o_10 slots, kx_0 q_row q_cell len, kx_a q_cell cyI 160 f, kx_a q_from cyI 319 o_12, kx_a q_to cyI 319 o_13, kx_a q_size cyI 319 o_38, kx_a q_lossOf cyI 319 o_39, kx_a q_lessBy cyI 319 o_40, kx_a q_value cyI 1914 o_41, kx_a q_number cyI 1914 o_42, kx_3 q_joined j_v j_n o_43 o_44 o_45, kx_a j_v cyI 12 o_46, kx_a j_n cyI 12 o_47, kx_3 h0 a_v a_n g_vs g_vl g_ve, kx_a a_v cyI 12 g_vv, kx_a a_n cyI 12 g_vn]) hP hD hP1 hD1 hk1 hFc [false, true, true, true, true, true, true, true, true, true, true, true, true, true, false, false, false] hCc rfl
                    clear hP1 hD1 hK1 hk1 hz1 hFc hDc hPc hKc hCc
                    generalize H1 = H at hP hS ⊢
                    have w_37 : sixes o_38 := w_37
                    refine lv_pop hx hb dX4_least_120 rfl ?_
                    refine lv_iload hx hb dX4_least_121 (lv_at hl 2 rfl) ?_
                    have hP9 := hP
                    have hD9 := hD
                    have hK9 := hK
                    exact W.iret (v := found) hx hb hr (hlocks := hlocks) (fun t ht hW => ⟨⟨found, (o_9, o_10, slots, o_12, o_13, o_38, o_39, o_40, o_41, o_42, o_43, o_44, o_45, o_46, o_47, g_vs, g_vl, g_ve, g_vv, g_vn), rfl, ⟨(fun _ => ⟨(by (try dsimp only); omega), (by (try dsimp only); omega), w_8.2.2.2.2⟩), w_37⟩, by rw [ht]; exact hP9, va_K.moved hW.alike hK9, hD9⟩, hS.F ht⟩) hS.2.2 dX4_least_123
                  · have i_36 : found.toInt = (-2) := kc_eq c_36
                    refine lv_iload hx hb dX4_least_69 (lv_at hl 0 rfl) ?_
                    refine lv_iload hx hb dX4_least_71 (lv_at hl 3 rfl) ?_
                    refine lv_icmp_lt (tgt := 98) hx hb dX4_least_73 (by decide) (fun c_48 => ?_) (fun c_48 => ?_)
                    · have i_48 : k.toInt < r_7.toInt := kc_lt c_48
                      obtain ⟨x_49, ex_49⟩ : ∃ y : Int32, y = k + 1 := ⟨_, rfl⟩
                      have i_49 : x_49.toInt = k.toInt + 1 := ki_add ex_49 rfl rfl (om_40 LP1_h0) (om_203 i_24)
                      refine lv_iinc (v := x_49) (lv' := [(8, .int x_49), (7, .ref q_t), (6, .int found), (5, .int r_7), (0, .ref m_), (1, .int p0), (2, .int p1), (3, .int p2), (4, .int p3)]) hx hb dX4_least_98 hl (k := 0) rfl (by rw [ex_49]; rfl) (by decide) rfl (fun ls hl => ?_)
                      refine lv_goto (tgt := 55) hx hb dX4_least_101 (by decide) ?_
                      exact ih1 found x_49 g_here g_s g_o g_e g_v g_n g_js g_jl g_je g_jv g_jn g_vs g_vl g_ve g_vv g_vn (om_41 LP1_h0 i_49) LP1_h1 (om_mu hn1 (om_204 i_49) (om_205 i_24)) _ _ hP hD hS ls (lv_sub hl [0, 1, 2, 3, 4, 5, 6, 7, 8] rfl)
                    · have i_48 : r_7.toInt ≤ k.toInt := kc_nlt c_48
                      refine lv_aload_n hx hb dX4_least_76 rfl (lv_at hl 4 rfl) ?_
                      refine lv_aload hx hb dX4_least_77 (lv_at hl 1 rfl) ?_
                      refine lv_iload hx hb dX4_least_79 (lv_at hl 0 rfl) ?_
                      refine lv_iload_n hx hb dX4_least_81 rfl (lv_at hl 5 rfl) ?_
                      refine lv_iload_n hx hb dX4_least_82 rfl (lv_at hl 6 rfl) ?_
                      refine lv_iload_n hx hb dX4_least_83 rfl (lv_at hl 7 rfl) ?_
                      refine lv_iload hx hb dX4_least_84 (lv_at hl 8 rfl) ?_
                      have hPc := hP
                      have hKc := hK
                      have hDc := hD
                      have hFc := kx_free hD hS hA
                      refine va_calli (va_runV (As := [.ref q_t, .int k, .int p0, .int p1, .int p2, .int p3]) (rest := []) ⟨hx, hb, hml, hown, hts⟩ (kx_un (c_X4_heavyVotesBy l dC dI m_ q_row q_t t_ h0 k0 w_ z_ slots o_9 q_joined q_from q_to q_size q_lossOf q_lessBy q_value q_number o_10 g_here q_cell cyI len f o_12 o_13 g_s g_o g_v g_n g_e j_v j_n g_js g_jl g_je g_jv g_jn a_v a_n g_vs g_vl g_ve g_vv g_vn k p0 p1 p2 p3 H.size w_8.2.1 w_8.2.2.1 a1 LP1_h1 w_8.2.2.2.2 (om_10 w_1.1) (om_167 a1 w_1.2.2))) (cwV 6 hts gX4_least_X4_heavyVotesBy rfl rfl rfl (by decide +kernel) ⟨Nat.le_of_ble_eq_true rfl, Nat.le_of_ble_eq_true rfl⟩) ⟨fun a U g mk q => by obtain ⟨q0, q1, qP, qK, qD⟩ := q; exact ⟨q0, q1, qP, va_K.moved (u := U) (U := U.calling g mk a) (Vm.Alike.refl U.vm) qK, qD⟩, kx_rc4 hKc hPc (q0 := 0) rfl, fun U hU hW => ⟨rfl, by rw [hU], by rw [hU]; exact hPc, va_K.moved hW.alike hKc, hDc.weaken (fun _ _ _ _ => trivial)⟩⟩ rfl rfl hl.1 rfl (lv_room (Nat.le_of_ble_eq_true rfl)) dX4_least_86 ⟨Nat.le_of_ble_eq_true rfl, Nat.le_of_ble_eq_true rfl⟩) hS (fun q _ h => hFc q h) hFc (fun r_50 u t H1 locs ht hvm w_50 hB hz1 hk1 hS => ?_)
                      obtain ⟨o_51, o_52, o_53, o_54, o_55, o_56, o_57, o_58, o_59, o_60, o_61, o_62, o_63, o_64, o_65⟩ := u
                      dsimp only at w_50 hB
                      obtain ⟨hP1, hK1, hD1⟩ := hB
                      rw [ht] at hP1
                      have hK1 := va_K.moved hvm.symm hK1
                      have hD := hD1.weaken (fun _ q _ h => hFc q.1 h)
                      have hP := hP1
                      clear hP1 hD1 hK1 hk1 hz1 hFc hDc hPc hKc
                      generalize H1 = H at hP hS ⊢
                      have w_50 : sixes o_51 := w_50
                      refine lv_iload hx hb dX4_least_89 (lv_at hl 3 rfl) ?_
                      refine lv_icmp_ne (tgt := 98) hx hb dX4_least_91 (by decide) (fun c_66 => ?_) (fun c_66 => ?_)
                      · have i_66 : ¬ r_50.toInt = r_7.toInt := kc_ne c_66
                        obtain ⟨x_67, ex_67⟩ : ∃ y : Int32, y = k + 1 := ⟨_, rfl⟩
                        have i_67 : x_67.toInt = k.toInt + 1 := ki_add ex_67 rfl rfl (om_40 LP1_h0) (om_203 i_24)
                        refine lv_iinc (v := x_67) (lv' := [(8, .int x_67), (7, .ref q_t), (6, .int found), (5, .int r_7), (0, .ref m_), (1, .int p0), (2, .int p1), (3, .int p2), (4, .int p3)]) hx hb dX4_least_98 hl (k := 0) rfl (by rw [ex_67]; rfl) (by decide) rfl (fun ls hl => ?_)
                        refine lv_goto (tgt := 55) hx hb dX4_least_101 (by decide) ?_
                        exact ih1 found x_67 k o_51 o_52 o_53 o_54 o_55 o_56 o_57 o_58 o_59 o_60 o_61 o_62 o_63 o_64 o_65 (om_41 LP1_h0 i_67) w_50 (om_mu hn1 (om_204 i_67) (om_205 i_24)) _ _ hP hD hS ls (lv_sub hl [0, 1, 2, 3, 4, 5, 6, 7, 8] rfl)
                      · have i_66 : r_50.toInt = r_7.toInt := kc_eq c_66
                        refine lv_iload hx hb dX4_least_94 (lv_at hl 0 rfl) ?_
                        refine lv_istore (lv' := [(6, .int k), (8, .int k), (7, .ref q_t), (5, .int r_7), (0, .ref m_), (1, .int p0), (2, .int p1), (3, .int p2), (4, .int p3)]) hx hb dX4_least_96 hl (by decide) rfl (fun ls hl => ?_)
                        obtain ⟨x_68, ex_68⟩ : ∃ y : Int32, y = k + 1 := ⟨_, rfl⟩
                        have i_68 : x_68.toInt = k.toInt + 1 := ki_add ex_68 rfl rfl (om_40 LP1_h0) (om_203 i_24)
                        refine lv_iinc (v := x_68) (lv' := [(8, .int x_68), (6, .int k), (7, .ref q_t), (5, .int r_7), (0, .ref m_), (1, .int p0), (2, .int p1), (3, .int p2), (4, .int p3)]) hx hb dX4_least_98 hl (k := 1) rfl (by rw [ex_68]; rfl) (by decide) rfl (fun ls hl => ?_)
                        refine lv_goto (tgt := 55) hx hb dX4_least_101 (by decide) ?_
                        exact ih1 k x_68 k o_51 o_52 o_53 o_54 o_55 o_56 o_57 o_58 o_59 o_60 o_61 o_62 o_63 o_64 o_65 (om_41 LP1_h0 i_68) w_50 (om_mu hn1 (om_204 i_68) (om_205 i_24)) _ _ hP hD hS ls (lv_sub hl [0, 2, 1, 3, 4, 5, 6, 7, 8] rfl)
            have k_69 : ((-2) : Int32).toInt = -2 := rfl
            have k_70 : (1 : Int32).toInt = 1 := rfl
            exact LP1 ((7 - 1 : Int).toNat + 1) (-2) 1 o_11 o_14 o_15 o_16 o_17 o_18 o_19 o_20 o_21 o_22 o_23 vs lo le fv fn om_52 w_8.2.2.2.1 (Nat.lt_succ_self _) _ _ hP hD hS ls (lv_sub hl [0, 1, 2, 3, 4, 5, 6, 7, 8] rfl)
          · exact absurd c_6 (by decide)
        · have w_5 : (p2.toInt < 1 ∨ p3.toInt < p2.toInt ∨ 999 < p3.toInt) := w_5
          refine lv_if_ne (tgt := 31) hx hb dX4_least_26 (by decide) (fun c_71 => ?_) (fun c_71 => ?_)
          · exact absurd c_71 (by decide)
          · refine lv_iconst (v := (-1)) hx hb dX4_least_29 (by decide) ?_
            have hP9 := hP
            have hD9 := hD
            have hK9 := hK
            exact W.iret (v := (-1)) hx hb hr (hlocks := hlocks) (fun t ht hW => ⟨⟨(-1), (old, nodes, here, ff, ft, fs, fo, fe, uv, un, js, jl, je, jv, jn, vs, lo, le, fv, fn), rfl, ⟨l0, s0⟩, by rw [ht]; exact hP9, va_K.moved hW.alike hK9, hD9⟩, hS.F ht⟩) hS.2.2 dX4_least_30
  · have w_1 : (p0.toInt < 0 ∨ p1.toInt ≤ p0.toInt ∨ len.toInt < p1.toInt) := w_1
    refine lv_if_eq (tgt := 29) hx hb dX4_least_9 (by decide) (fun c_72 => ?_) (fun c_72 => ?_)
    · refine lv_iconst (v := (-1)) hx hb dX4_least_29 (by decide) ?_
      have hP9 := hP
      have hD9 := hD
      have hK9 := hK
      exact W.iret (v := (-1)) hx hb hr (hlocks := hlocks) (fun t ht hW => ⟨⟨(-1), (old, nodes, here, ff, ft, fs, fo, fe, uv, un, js, jl, je, jv, jn, vs, lo, le, fv, fn), rfl, ⟨l0, s0⟩, by rw [ht]; exact hP9, va_K.moved hW.alike hK9, hD9⟩, hS.F ht⟩) hS.2.2 dX4_least_30
    · exact absurd c_72 (by decide)

set_option maxHeartbeats 4000000 in
set_option maxRecDepth 100000 in
theorem c_X4_refusalOfBoth (l : Launch) (dC : Nat → ClassId) (dI : Nat → Nat → Nat) (m_ : Nat) (q_row : Nat) (q_t : Nat) (t_ : Nat) (h0 : Nat) (k0 : Nat) (w_ : Nat) (z_ : Nat) (slots : Int32) (old : Int32) (q_cell : Nat) (cyI : ClassId) (len : Int32) (f : Nat → Int32) (p0 : Int32) (p1 : Int32) (p2 : Int32) (p3 : Int32) (p4 : Int32) (p5 : Int32) (a0 : 0 ≤ len.toInt) (a1 : len.toInt ≤ 160) : Met l yX4_refusalOfBoth wsX4_refusalOfBoth ({ frames := 1, cells := 0, slots := 0, locals := 45 }) (va_Pc [.ref m_, .int p0, .int p1, .int p2, .int p3, .int p4, .int p5] (fun U => va_P (dC, dI) vwCl [kx_4 m_ q_row q_t t_ h0 k0 w_ z_ slots old, kx_0 q_row q_cell len, kx_a q_cell cyI 160 f] U.heap ∧ va_K (dC, dI) vwCl [(cyI, .int)] U)) (vp_Si (fun r : Int32 => (r = 0 ∧ (0 ≤ p0.toInt ∧ p0.toInt < p1.toInt ∧ p1.toInt ≤ len.toInt ∧ 0 ≤ p2.toInt ∧ p2.toInt < p3.toInt ∧ p3.toInt ≤ len.toInt)) ∨ (r = (-1) ∧ (0 : Int) ≤ 1) ∨ (r = (-2) ∧ (0 : Int) ≤ 1) ∨ (r = (-3) ∧ (0 : Int) ≤ 1))) 0 0 (fun _ => False) := by
  refine kx_stS (ws := wsX4_refusalOfBoth) (cc := cX4_refusalOfBoth) (maxL := 7) (ret := (some .int)) (by decide) rfl (Nat.le_of_ble_eq_true rfl) ?_
  intro p e s m below meth c ls hx hb hr hlocks hts hown hml hP hK hl
  have hown : s.vm.findClass RX4 = some m.cls := hown
  have hl : lv_has ls 7 [(0, .ref m_), (1, .int p0), (2, .int p1), (3, .int p2), (4, .int p3), (5, .int p4), (6, .int p5)] := hl
  have hf_12 := hts (.fieldLink RX4 12 "MajorityIndex" "row" "LMajorityIndex$Row;") (List.mem_of_getElem? (i := 1) rfl)
  have hi_4 : ∀ w ∈ u_ws RX4 TX4 9, w ∈ wsX4_refusalOfBoth := fun w h => List.mem_cons_of_mem _ (List.mem_append_left _ (List.mem_append_right _ h))
  refine lv_aload_n hx hb dX4_refusalOfBoth_0 rfl (lv_at hl 0 rfl) ?_
  refine va_get (D := (dC, dI)) (ci := 4) (v := .ref q_row) (C := RX4) (T := TX4) (N := 9) hx hb hts hi_4 hown hK hP 0 rfl rfl 0 (by decide) hf_12 (fun _ h9 => h9) rfl dX4_refusalOfBoth_1 ?_
  refine lv_iload_n hx hb dX4_refusalOfBoth_4 rfl (lv_at hl 1 rfl) ?_
  refine lv_iload_n hx hb dX4_refusalOfBoth_5 rfl (lv_at hl 2 rfl) ?_
  have hPc := hP.sub (ws' := [kx_0 q_row q_cell len]) [1] rfl
  have hKc := hK.sub (tys' := []) [] rfl
  refine vp_callSi (W.runV (As := [.int p0, .int p1]) (rest := []) ⟨hx, hb, hml, hown, hts⟩ (c_X0_hasRange l dC dI q_row q_cell len p0 p1) (cwV 2 hts gX4_refusalOfBoth_X0_hasRange rfl rfl rfl (by decide +kernel) ⟨Nat.le_of_ble_eq_true rfl, Nat.le_of_ble_eq_true rfl⟩) ⟨fun a U g mk q => by obtain ⟨q0, qP, qK⟩ := q; exact ⟨q0, qP, va_K.moved (u := U) (U := U.calling g mk a) (Vm.Alike.refl U.vm) qK⟩, kx_rc0 hKc hPc (q0 := 0) rfl, fun U hU hW => ⟨rfl, by rw [hU]; exact hPc, va_K.moved hW.alike hKc⟩⟩ rfl rfl hl.1 rfl (lv_room (Nat.le_of_ble_eq_true rfl)) dX4_refusalOfBoth_6 ⟨Nat.le_of_ble_eq_true rfl, Nat.le_of_ble_eq_true rfl⟩) (fun r_1 w_1 => ?_)
  rcases w_1 with ⟨rfl, w_1⟩ | ⟨rfl, w_1⟩
  · have w_1 : (0 ≤ p0.toInt ∧ p0.toInt < p1.toInt ∧ p1.toInt ≤ len.toInt) := w_1
    refine lv_if_eq (tgt := 35) hx hb dX4_refusalOfBoth_9 (by decide) (fun c_2 => ?_) (fun c_2 => ?_)
    · exact absurd c_2 (by decide)
    · refine lv_aload_n hx hb dX4_refusalOfBoth_12 rfl (lv_at hl 0 rfl) ?_
      refine va_get (D := (dC, dI)) (ci := 4) (v := .ref q_row) (C := RX4) (T := TX4) (N := 9) hx hb hts hi_4 hown hK hP 0 rfl rfl 0 (by decide) hf_12 (fun _ h9 => h9) rfl dX4_refusalOfBoth_13 ?_
      refine lv_iload_n hx hb dX4_refusalOfBoth_16 rfl (lv_at hl 3 rfl) ?_
      refine lv_iload hx hb dX4_refusalOfBoth_17 (lv_at hl 4 rfl) ?_
      have hPc := hP.sub (ws' := [kx_0 q_row q_cell len]) [1] rfl
      have hKc := hK.sub (tys' := []) [] rfl
      refine vp_callSi (W.runV (As := [.int p2, .int p3]) (rest := []) ⟨hx, hb, hml, hown, hts⟩ (c_X0_hasRange l dC dI q_row q_cell len p2 p3) (cwV 2 hts gX4_refusalOfBoth_X0_hasRange rfl rfl rfl (by decide +kernel) ⟨Nat.le_of_ble_eq_true rfl, Nat.le_of_ble_eq_true rfl⟩) ⟨fun a U g mk q => by obtain ⟨q0, qP, qK⟩ := q; exact ⟨q0, qP, va_K.moved (u := U) (U := U.calling g mk a) (Vm.Alike.refl U.vm) qK⟩, kx_rc0 hKc hPc (q0 := 0) rfl, fun U hU hW => ⟨rfl, by rw [hU]; exact hPc, va_K.moved hW.alike hKc⟩⟩ rfl rfl hl.1 rfl (lv_room (Nat.le_of_ble_eq_true rfl)) dX4_refusalOfBoth_19 ⟨Nat.le_of_ble_eq_true rfl, Nat.le_of_ble_eq_true rfl⟩) (fun r_3 w_3 => ?_)
      rcases w_3 with ⟨rfl, w_3⟩ | ⟨rfl, w_3⟩
      · have w_3 : (0 ≤ p2.toInt ∧ p2.toInt < p3.toInt ∧ p3.toInt ≤ len.toInt) := w_3
        refine lv_if_eq (tgt := 35) hx hb dX4_refusalOfBoth_22 (by decide) (fun c_4 => ?_) (fun c_4 => ?_)
        · exact absurd c_4 (by decide)
        · refine lv_iload hx hb dX4_refusalOfBoth_25 (lv_at hl 5 rfl) ?_
          refine lv_iload hx hb dX4_refusalOfBoth_27 (lv_at hl 6 rfl) ?_
          have hPc := hP.sub (ws' := []) [] rfl
          have hKc := hK.sub (tys' := []) [] rfl
          refine vp_callSi (W.runS (As := [.int p4, .int p5]) (rest := []) ⟨hx, hb, hml, hown, hts⟩ (c_X4_isShare l dC dI p4 p5) (va_cwS 2 hts gX4_refusalOfBoth_X4_isShare rfl rfl rfl (by decide +kernel) ⟨Nat.le_of_ble_eq_true rfl, Nat.le_of_ble_eq_true rfl⟩) ⟨fun a U g mk q => by obtain ⟨q0, qP, qK⟩ := q; exact ⟨q0, qP, va_K.moved (u := U) (U := U.calling g mk a) (Vm.Alike.refl U.vm) qK⟩, fun U hU hW => ⟨rfl, by rw [hU]; exact hPc, va_K.moved hW.alike hKc⟩⟩ rfl rfl hl.1 rfl (lv_room (Nat.le_of_ble_eq_true rfl)) dX4_refusalOfBoth_29 ⟨Nat.le_of_ble_eq_true rfl, Nat.le_of_ble_eq_true rfl⟩) (fun r_5 w_5 => ?_)
          rcases w_5 with ⟨rfl, w_5⟩ | ⟨rfl, w_5⟩
          · have w_5 : (1 ≤ p4.toInt ∧ p4.toInt ≤ p5.toInt ∧ p5.toInt ≤ 999) := w_5
            refine lv_if_ne (tgt := 37) hx hb dX4_refusalOfBoth_32 (by decide) (fun c_6 => ?_) (fun c_6 => ?_)
            · refine lv_aload_n hx hb dX4_refusalOfBoth_37 rfl (lv_at hl 0 rfl) ?_
              refine lv_iload hx hb dX4_refusalOfBoth_38 (lv_at hl 5 rfl) ?_
              refine lv_iload hx hb dX4_refusalOfBoth_40 (lv_at hl 6 rfl) ?_
              have hPc := hP.sub (ws' := [kx_4 m_ q_row q_t t_ h0 k0 w_ z_ slots old]) [0] rfl
              have hKc := hK.sub (tys' := []) [] rfl
              refine vp_callSi (W.runV (As := [.int p4, .int p5]) (rest := []) ⟨hx, hb, hml, hown, hts⟩ (c_X4_isEnough l dC dI m_ q_row q_t t_ h0 k0 w_ z_ slots old p4 p5) (cwV 2 hts gX4_refusalOfBoth_X4_isEnough rfl rfl rfl (by decide +kernel) ⟨Nat.le_of_ble_eq_true rfl, Nat.le_of_ble_eq_true rfl⟩) ⟨fun a U g mk q => by obtain ⟨q0, qP, qK⟩ := q; exact ⟨q0, qP, va_K.moved (u := U) (U := U.calling g mk a) (Vm.Alike.refl U.vm) qK⟩, kx_rc4 hKc hPc (q0 := 0) rfl, fun U hU hW => ⟨rfl, by rw [hU]; exact hPc, va_K.moved hW.alike hKc⟩⟩ rfl rfl hl.1 rfl (lv_room (Nat.le_of_ble_eq_true rfl)) dX4_refusalOfBoth_42 ⟨Nat.le_of_ble_eq_true rfl, Nat.le_of_ble_eq_true rfl⟩) (fun r_7 w_7 => ?_)
              rcases w_7 with ⟨rfl, w_7⟩ | ⟨rfl, w_7⟩
              · have w_7 : (0 : Int) ≤ 1 := w_7
                refine lv_if_ne (tgt := 51) hx hb dX4_refusalOfBoth_45 (by decide) (fun c_8 => ?_) (fun c_8 => ?_)
                · refine lv_iload_n hx hb dX4_refusalOfBoth_51 rfl (lv_at hl 1 rfl) ?_
                  refine lv_iload hx hb dX4_refusalOfBoth_52 (lv_at hl 4 rfl) ?_
                  refine lv_icmp_ge (tgt := 67) hx hb dX4_refusalOfBoth_54 (by decide) (fun c_9 => ?_) (fun c_9 => ?_)
                  · have i_9 : p3.toInt ≤ p0.toInt := kc_le c_9
                    refine lv_iconst (v := 0) hx hb dX4_refusalOfBoth_67 (by decide) ?_
                    exact W.iret (v := 0) hx hb hr (hlocks := hlocks) (fun t ht hW => ⟨0, rfl, Or.inl ⟨rfl, ⟨(om_10 w_1.1), (om_11 w_1.2.1), (om_9 w_1.2.2), (om_10 w_3.1), (om_11 w_3.2.1), (om_9 w_3.2.2)⟩⟩, ht⟩) (fun q hq => by cases hq) dX4_refusalOfBoth_68
                  · have i_9 : p0.toInt < p3.toInt := kc_nle c_9
                    refine lv_iload_n hx hb dX4_refusalOfBoth_57 rfl (lv_at hl 3 rfl) ?_
                    refine lv_iload_n hx hb dX4_refusalOfBoth_58 rfl (lv_at hl 2 rfl) ?_
                    refine lv_icmp_ge (tgt := 67) hx hb dX4_refusalOfBoth_59 (by decide) (fun c_10 => ?_) (fun c_10 => ?_)
                    · have i_10 : p1.toInt ≤ p2.toInt := kc_le c_10
                      refine lv_iconst (v := 0) hx hb dX4_refusalOfBoth_67 (by decide) ?_
                      exact W.iret (v := 0) hx hb hr (hlocks := hlocks) (fun t ht hW => ⟨0, rfl, Or.inl ⟨rfl, ⟨(om_10 w_1.1), (om_11 w_1.2.1), (om_9 w_1.2.2), (om_10 w_3.1), (om_11 w_3.2.1), (om_9 w_3.2.2)⟩⟩, ht⟩) (fun q hq => by cases hq) dX4_refusalOfBoth_68
                    · have i_10 : p2.toInt < p1.toInt := kc_nle c_10
                      refine lv_bipush (v := (-3)) hx hb dX4_refusalOfBoth_62 (by decide) ?_
                      refine lv_goto (tgt := 68) hx hb dX4_refusalOfBoth_64 (by decide) ?_
                      exact W.iret (v := (-3)) hx hb hr (hlocks := hlocks) (fun t ht hW => ⟨(-3), rfl, Or.inr (Or.inr (Or.inr (⟨rfl, om_29⟩))), ht⟩) (fun q hq => by cases hq) dX4_refusalOfBoth_68
                · exact absurd c_8 (by decide)
              · have w_7 : (0 : Int) ≤ 1 := w_7
                refine lv_if_ne (tgt := 51) hx hb dX4_refusalOfBoth_45 (by decide) (fun c_11 => ?_) (fun c_11 => ?_)
                · exact absurd c_11 (by decide)
                · refine lv_bipush (v := (-2)) hx hb dX4_refusalOfBoth_48 (by decide) ?_
                  exact W.iret (v := (-2)) hx hb hr (hlocks := hlocks) (fun t ht hW => ⟨(-2), rfl, Or.inr (Or.inr (Or.inl ⟨rfl, om_29⟩)), ht⟩) (fun q hq => by cases hq) dX4_refusalOfBoth_50
            · exact absurd c_6 (by decide)
          · have w_5 : (p4.toInt < 1 ∨ p5.toInt < p4.toInt ∨ 999 < p5.toInt) := w_5
            refine lv_if_ne (tgt := 37) hx hb dX4_refusalOfBoth_32 (by decide) (fun c_12 => ?_) (fun c_12 => ?_)
            · exact absurd c_12 (by decide)
            · refine lv_iconst (v := (-1)) hx hb dX4_refusalOfBoth_35 (by decide) ?_
              exact W.iret (v := (-1)) hx hb hr (hlocks := hlocks) (fun t ht hW => ⟨(-1), rfl, Or.inr (Or.inl ⟨rfl, om_29⟩), ht⟩) (fun q hq => by cases hq) dX4_refusalOfBoth_36
      · have w_3 : (p2.toInt < 0 ∨ p3.toInt ≤ p2.toInt ∨ len.toInt < p3.toInt) := w_3
        refine lv_if_eq (tgt := 35) hx hb dX4_refusalOfBoth_22 (by decide) (fun c_13 => ?_) (fun c_13 => ?_)
        · refine lv_iconst (v := (-1)) hx hb dX4_refusalOfBoth_35 (by decide) ?_
          exact W.iret (v := (-1)) hx hb hr (hlocks := hlocks) (fun t ht hW => ⟨(-1), rfl, Or.inr (Or.inl ⟨rfl, om_29⟩), ht⟩) (fun q hq => by cases hq) dX4_refusalOfBoth_36
        · exact absurd c_13 (by decide)
  · have w_1 : (p0.toInt < 0 ∨ p1.toInt ≤ p0.toInt ∨ len.toInt < p1.toInt) := w_1
    refine lv_if_eq (tgt := 35) hx hb dX4_refusalOfBoth_9 (by decide) (fun c_14 => ?_) (fun c_14 => ?_)
    · refine lv_iconst (v := (-1)) hx hb dX4_refusalOfBoth_35 (by decide) ?_
      exact W.iret (v := (-1)) hx hb hr (hlocks := hlocks) (fun t ht hW => ⟨(-1), rfl, Or.inr (Or.inl ⟨rfl, om_29⟩), ht⟩) (fun q hq => by cases hq) dX4_refusalOfBoth_36
    · exact absurd c_14 (by decide)

set_option maxHeartbeats 4000000 in
set_option maxRecDepth 100000 in
theorem c_X4_gatherHeavyOfBoth (l : Launch) (dC : Nat → ClassId) (dI : Nat → Nat → Nat) (m_ : Nat) (q_row : Nat) (q_t : Nat) (t_ : Nat) (h0 : Nat) (k0 : Nat) (w_ : Nat) (z_ : Nat) (slots : Int32) (old : Int32) (q_joined : Nat) (q_from : Nat) (q_to : Nat) (q_size : Nat) (q_lossOf : Nat) (q_lessBy : Nat) (q_value : Nat) (q_number : Nat) (nodes : Int32) (here : Int32) (q_cell : Nat) (cyI : ClassId) (len : Int32) (f : Nat → Int32) (ff : Nat → Int32) (ft : Nat → Int32) (fs : Nat → Int32) (fo : Nat → Int32) (uv : Nat → Int32) (un : Nat → Int32) (a_v : Nat) (a_n : Nat) (cyI : ClassId) (vs : Int32) (lo : Int32) (le : Int32) (fv : Nat → Int32) (fn : Nat → Int32) (kv : Nat) (kn : Nat) (sb : Int32) (lb : Int32) (eb : Int32) (gb : Nat → Int32) (nb : Nat → Int32) (p0 : Int32) (p1 : Int32) (p2 : Int32) (p3 : Int32) (p4 : Int32) (p5 : Int32) (sz : Nat) (b0 : 0 ≤ nodes.toInt) (c0 : nodes.toInt ≤ 319) (s0 : sixes fs) (d0 : 0 ≤ p0.toInt) (d1 : p1.toInt ≤ 160) (d2 : 0 ≤ p2.toInt) (d3 : p3.toInt ≤ 160) : Met l yX4_gatherHeavyOfBoth wsX4_gatherHeavyOfBoth ({ frames := 4, cells := 0, slots := 0, locals := 180 }) (va_Pc [.ref m_, .ref q_t, .int p0, .int p1, .int p2, .int p3, .int p4, .int p5] (fun U => U.heap.size = sz ∧ va_P (dC, dI) vwCl [kx_4 m_ q_row q_t t_ h0 k0 w_ z_ slots old, kx_0 q_row q_cell len, kx_a q_cell cyI 160 f, kx_2 q_t q_row q_joined q_from q_to q_size q_lossOf q_lessBy q_value q_number nodes here, kx_a q_from cyI 319 ff, kx_a q_to cyI 319 ft, kx_a q_size cyI 319 fs, kx_a q_lossOf cyI 319 fo, kx_a q_value cyI 1914 uv, kx_a q_number cyI 1914 un, kx_3 h0 a_v a_n vs lo le, kx_a a_v cyI 12 fv, kx_a a_n cyI 12 fn, kx_3 k0 kv kn sb lb eb, kx_a kv cyI 12 gb, kx_a kn cyI 12 nb] U.heap ∧ va_K (dC, dI) vwCl [(cyI, .int)] U ∧ va_D (fun _ => True) [kx_4 m_ q_row q_t t_ h0 k0 w_ z_ slots old, kx_0 q_row q_cell len, kx_a q_cell cyI 160 f, kx_2 q_t q_row q_joined q_from q_to q_size q_lossOf q_lessBy q_value q_number nodes here, kx_a q_from cyI 319 ff, kx_a q_to cyI 319 ft, kx_a q_size cyI 319 fs, kx_a q_lossOf cyI 319 fo, kx_a q_value cyI 1914 uv, kx_a q_number cyI 1914 un, kx_3 h0 a_v a_n vs lo le, kx_a a_v cyI 12 fv, kx_a a_n cyI 12 fn, kx_3 k0 kv kn sb lb eb, kx_a kv cyI 12 gb, kx_a kn cyI 12 nb] ∧ va_Nw (.methodLinkNest RX3 42 yX4_isHeavy RX4) U)) (va_Qv (fun u : Int32 × Int32 × Int32 × (Nat → Int32) × (Nat → Int32) × Int32 × Int32 × Int32 × (Nat → Int32) × (Nat → Int32) => 0 ≤ u.1.toInt ∧ u.1.toInt ≤ 12) (fun (u : Int32 × Int32 × Int32 × (Nat → Int32) × (Nat → Int32) × Int32 × Int32 × Int32 × (Nat → Int32) × (Nat → Int32)) (t : State) => va_P (dC, dI) vwCl [kx_4 m_ q_row q_t t_ h0 k0 w_ z_ slots old, kx_0 q_row q_cell len, kx_a q_cell cyI 160 f, kx_2 q_t q_row q_joined q_from q_to q_size q_lossOf q_lessBy q_value q_number nodes here, kx_a q_from cyI 319 ff, kx_a q_to cyI 319 ft, kx_a q_size cyI 319 fs, kx_a q_lossOf cyI 319 fo, kx_a q_value cyI 1914 uv, kx_a q_number cyI 1914 un, kx_3 h0 a_v a_n u.1 u.2.1 u.2.2.1, kx_a a_v cyI 12 u.2.2.2.1, kx_a a_n cyI 12 u.2.2.2.2.1, kx_3 k0 kv kn u.2.2.2.2.2.1 u.2.2.2.2.2.2.1 u.2.2.2.2.2.2.2.1, kx_a kv cyI 12 u.2.2.2.2.2.2.2.2.1, kx_a kn cyI 12 u.2.2.2.2.2.2.2.2.2] t.heap ∧ va_K (dC, dI) vwCl [(cyI, .int)] t ∧ va_D (va_A [kx_4 m_ q_row q_t t_ h0 k0 w_ z_ slots old, kx_0 q_row q_cell len, kx_a q_cell cyI 160 f, kx_2 q_t q_row q_joined q_from q_to q_size q_lossOf q_lessBy q_value q_number nodes here, kx_a q_from cyI 319 ff, kx_a q_to cyI 319 ft, kx_a q_size cyI 319 fs, kx_a q_lossOf cyI 319 fo, kx_a q_value cyI 1914 uv, kx_a q_number cyI 1914 un, kx_3 h0 a_v a_n vs lo le, kx_a a_v cyI 12 fv, kx_a a_n cyI 12 fn, kx_3 k0 kv kn sb lb eb, kx_a kv cyI 12 gb, kx_a kn cyI 12 nb] sz) [kx_4 m_ q_row q_t t_ h0 k0 w_ z_ slots old, kx_0 q_row q_cell len, kx_a q_cell cyI 160 f, kx_2 q_t q_row q_joined q_from q_to q_size q_lossOf q_lessBy q_value q_number nodes here, kx_a q_from cyI 319 ff, kx_a q_to cyI 319 ft, kx_a q_size cyI 319 fs, kx_a q_lossOf cyI 319 fo, kx_a q_value cyI 1914 uv, kx_a q_number cyI 1914 un, kx_3 h0 a_v a_n u.1 u.2.1 u.2.2.1, kx_a a_v cyI 12 u.2.2.2.1, kx_a a_n cyI 12 u.2.2.2.2.1, kx_3 k0 kv kn u.2.2.2.2.2.1 u.2.2.2.2.2.2.1 u.2.2.2.2.2.2.2.1, kx_a kv cyI 12 u.2.2.2.2.2.2.2.2.1, kx_a kn cyI 12 u.2.2.2.2.2.2.2.2.2]) (va_A [kx_4 m_ q_row q_t t_ h0 k0 w_ z_ slots old, kx_0 q_row q_cell len, kx_a q_cell cyI 160 f, kx_2 q_t q_row q_joined q_from q_to q_size q_lossOf q_lessBy q_value q_number nodes here, kx_a q_from cyI 319 ff, kx_a q_to cyI 319 ft, kx_a q_size cyI 319 fs, kx_a q_lossOf cyI 319 fo, kx_a q_value cyI 1914 uv, kx_a q_number cyI 1914 un, kx_3 h0 a_v a_n vs lo le, kx_a a_v cyI 12 fv, kx_a a_n cyI 12 fn, kx_3 k0 kv kn sb lb eb, kx_a kv cyI 12 gb, kx_a kn cyI 12 nb] sz)) 0 0 (va_A [kx_4 m_ q_row q_t t_ h0 k0 w_ z_ slots old, kx_0 q_row q_cell len, kx_a q_cell cyI 160 f, kx_2 q_t q_row q_joined q_from q_to q_size q_lossOf q_lessBy q_value q_number nodes here, kx_a q_from cyI 319 ff, kx_a q_to cyI 319 ft, kx_a q_size cyI 319 fs, kx_a q_lossOf cyI 319 fo, kx_a q_value cyI 1914 uv, kx_a q_number cyI 1914 un, kx_3 h0 a_v a_n vs lo le, kx_a a_v cyI 12 fv, kx_a a_n cyI 12 fn, kx_3 k0 kv kn sb lb eb, kx_a kv cyI 12 gb, kx_a kn cyI 12 nb] sz) := by
  refine Met.ofW (cc := cX4_gatherHeavyOfBoth) (maxL := 10) (ret := none) (by decide) rfl ?_
  intro p e s m args below meth c s₁ B hml hv
  obtain ⟨rfl, hsz, hP, hK, hD0, hN0⟩ := hv
  have hx := B.exec
  have hb := B.bytes
  have hr := B.returns
  have hts := atoms_spec (ws := wsX4_gatherHeavyOfBoth) B.pre
  have hown : s.vm.findClass RX4 = some m.cls := findClass_of_methodNamed B.named
  have hlocks := B.notSynchronized
  subst hsz
  have hD := hD0.self (sz := s.heap.size)
  generalize hAe : va_A [kx_4 m_ q_row q_t t_ h0 k0 w_ z_ slots old, kx_0 q_row q_cell len, kx_a q_cell cyI 160 f, kx_2 q_t q_row q_joined q_from q_to q_size q_lossOf q_lessBy q_value q_number nodes here, kx_a q_from cyI 319 ff, kx_a q_to cyI 319 ft, kx_a q_size cyI 319 fs, kx_a q_lossOf cyI 319 fo, kx_a q_value cyI 1914 uv, kx_a q_number cyI 1914 un, kx_3 h0 a_v a_n vs lo le, kx_a a_v cyI 12 fv, kx_a a_n cyI 12 fn, kx_3 k0 kv kn sb lb eb, kx_a kv cyI 12 gb, kx_a kn cyI 12 nb] s.heap.size = A at hD ⊢
  have hA : ∀ q : Nat, s.heap.size ≤ q → A q := fun q h => by rw [← hAe]; exact Or.inr h
  have hS : va_S A s.heap s.heap [] := va_S.rf
  have hP : va_P (dC, dI) vwCl [kx_4 m_ q_row q_t t_ h0 k0 w_ z_ slots old, kx_0 q_row q_cell len, kx_a q_cell cyI 160 f, kx_2 q_t q_row q_joined q_from q_to q_size q_lossOf q_lessBy q_value q_number nodes here, kx_a q_from cyI 319 ff, kx_a q_to cyI 319 ft, kx_a q_size cyI 319 fs, kx_a q_lossOf cyI 319 fo, kx_a q_value cyI 1914 uv, kx_a q_number cyI 1914 un, kx_3 h0 a_v a_n vs lo le, kx_a a_v cyI 12 fv, kx_a a_n cyI 12 fn, kx_3 k0 kv kn sb lb eb, kx_a kv cyI 12 gb, kx_a kn cyI 12 nb] s.heap := hP
  have hl := lv_entry ([.ref m_, .ref q_t, .int p0, .int p1, .int p2, .int p3, .int p4, .int p5]) (n := 10) (Nat.le_of_ble_eq_true rfl)
  rw [lg_entry_eq]
  generalize (lg_sl ([.ref m_, .ref q_t, .int p0, .int p1, .int p2, .int p3, .int p4, .int p5]) ++ List.replicate (10 - (lg_sl ([.ref m_, .ref q_t, .int p0, .int p1, .int p2, .int p3, .int p4, .int p5])).length) Slot.unset).toArray = ls at hl ⊢
  have hl : lv_has ls 10 [(0, .ref m_), (1, .ref q_t), (2, .int p0), (3, .int p1), (4, .int p2), (5, .int p3), (6, .int p4), (7, .int p5)] := hl
  have hf_35 := hts (.fieldLink RX4 35 "MajorityIndex" "votes" "LMajorityIndex$Votes;") (List.mem_of_getElem? (i := 1) rfl)
  have hi_4 : ∀ w ∈ u_ws RX4 TX4 9, w ∈ wsX4_gatherHeavyOfBoth := fun w h => List.mem_cons_of_mem _ (List.mem_append_left _ (List.mem_append_left _ (List.mem_append_left _ (List.mem_append_right _ h))))
  have hm_91 := hts (.methodLink RX4 91 Lib.Math.min.name) (List.mem_of_getElem? (i := 2) rfl)
  have hms_min := hts (.static Lib.Math.min.name) (List.mem_of_getElem? (i := 3) rfl)
  have hz_math := hts (.initialized "java/lang/Math") (List.mem_of_getElem? (i := 4) rfl)
  have hmc_min := hts (.code Lib.Math.min.name Lib.Math.min.code 2 (some .int)) (List.mem_of_getElem? (i := 5) rfl)
  have hf_39 := hts (.fieldLink RX4 39 "MajorityIndex" "otherVotes" "LMajorityIndex$Votes;") (List.mem_of_getElem? (i := 6) rfl)
  have hm_96 := hts (.methodLink RX4 96 Lib.Math.max.name) (List.mem_of_getElem? (i := 7) rfl)
  have hms_max := hts (.static Lib.Math.max.name) (List.mem_of_getElem? (i := 8) rfl)
  have hmc_max := hts (.code Lib.Math.max.name Lib.Math.max.code 2 (some .int)) (List.mem_of_getElem? (i := 9) rfl)
  have hf_49 := hts (.fieldLink RX4 49 "MajorityIndex" "slotsNow" "I") (List.mem_of_getElem? (i := 10) rfl)
  have hf_174 := hts (.fieldLink RX4 174 "MajorityIndex$Votes" "size" "I") (List.mem_of_getElem? (i := 11) rfl)
  have hi_3 : ∀ w ∈ u_ws RX3 TX3 5, w ∈ wsX4_gatherHeavyOfBoth := fun w h => List.mem_cons_of_mem _ (List.mem_append_left _ (List.mem_append_left _ (List.mem_append_right _ h)))
  have hf_133 := hts (.fieldLink RX4 133 "MajorityIndex$Votes" "value" "[I") (List.mem_of_getElem? (i := 12) rfl)
  have hf_136 := hts (.fieldLink RX4 136 "MajorityIndex$Votes" "number" "[I") (List.mem_of_getElem? (i := 13) rfl)
  have hf_12 := hts (.fieldLink RX4 12 "MajorityIndex" "row" "LMajorityIndex$Row;") (List.mem_of_getElem? (i := 14) rfl)
  refine lv_aload_n hx hb dX4_gatherHeavyOfBoth_0 rfl (lv_at hl 1 rfl) ?_
  refine lv_aload_n hx hb dX4_gatherHeavyOfBoth_1 rfl (lv_at hl 0 rfl) ?_
  refine va_get (D := (dC, dI)) (ci := 4) (v := .ref h0) (C := RX4) (T := TX4) (N := 9) hx hb hts hi_4 hown hK hP 0 rfl rfl 3 (by decide) hf_35 (fun _ h9 => h9) rfl dX4_gatherHeavyOfBoth_2 ?_
  refine lv_iload_n hx hb dX4_gatherHeavyOfBoth_5 rfl (lv_at hl 2 rfl) ?_
  refine lv_iload hx hb dX4_gatherHeavyOfBoth_6 (lv_at hl 4 rfl) ?_
  refine va_mmin hx hb (hml.trans hl.1.symm) hown hm_91 hms_min hz_math hmc_min (Nat.le_of_ble_eq_true rfl) (Nat.le_of_ble_eq_true rfl) (Nat.le_of_ble_eq_true rfl) (Nat.le_of_ble_eq_true rfl) dX4_gatherHeavyOfBoth_8 ?_
  refine lv_topi (fun y_1 ey_1 => ?_)
  have i_2 : (p0.toInt ≤ p2.toInt ∧ y_1.toInt = p0.toInt) ∨ (p2.toInt < p0.toInt ∧ y_1.toInt = p2.toInt) := ki_min ey_1 rfl rfl
  refine lv_iload_n hx hb dX4_gatherHeavyOfBoth_11 rfl (lv_at hl 2 rfl) ?_
  refine lv_iload hx hb dX4_gatherHeavyOfBoth_12 (lv_at hl 4 rfl) ?_
  refine lv_icmp_ge (tgt := 21) hx hb dX4_gatherHeavyOfBoth_14 (by decide) (fun c_3 => ?_) (fun c_3 => ?_)
  · have i_3 : p2.toInt ≤ p0.toInt := kc_le c_3
    refine lv_iload hx hb dX4_gatherHeavyOfBoth_21 (lv_at hl 5 rfl) ?_
    obtain ⟨hPc, hDc, hFc, hCc⟩ := kx_preM (wc := [kx_2 q_t q_row q_joined q_from q_to q_size q_lossOf q_lessBy q_value q_number nodes here, kx_a q_from cyI 319 ff, kx_a q_to cyI 319 ft, kx_a q_size cyI 319 fs, kx_a q_lossOf cyI 319 fo, kx_a q_value cyI 1914 uv, kx_a q_number cyI 1914 un, kx_3 h0 a_v a_n vs lo le, kx_a a_v cyI 12 fv, kx_a a_n cyI 12 fn]) hP hD hS hA [false, false, false, true, true, true, true, true, true, true, true, true, true, false, false, false] rfl
    have hKc := hK
    refine va_callv (va_runV (As := [.ref h0, .int y_1, .int p3]) (rest := []) ⟨hx, hb, hml, hown, hts⟩ (kx_un (c_X2_gather l dC dI q_t q_row q_joined q_from q_to q_size q_lossOf q_lessBy q_value q_number nodes here h0 a_v a_n cyI vs lo le fv fn ff ft fs fo uv un y_1 p3 s.heap.size b0 c0 s0)) (cwV 3 hts gX4_gatherHeavyOfBoth_X2_gather rfl rfl rfl (by decide +kernel) ⟨Nat.le_of_ble_eq_true rfl, Nat.le_of_ble_eq_true rfl⟩) ⟨fun a U g mk q => by obtain ⟨q0, q1, qP, qK, qD⟩ := q; exact ⟨q0, q1, qP, va_K.moved (u := U) (U := U.calling g mk a) (Vm.Alike.refl U.vm) qK, qD⟩, kx_rc2 hKc hPc (q0 := 0) rfl, fun U hU hW => ⟨rfl, by rw [hU], by rw [hU]; exact hPc, va_K.moved hW.alike hKc, hDc.weaken (fun _ _ _ _ => trivial)⟩⟩ rfl rfl hl.1 rfl (lv_room (Nat.le_of_ble_eq_true rfl)) dX4_gatherHeavyOfBoth_23 ⟨Nat.le_of_ble_eq_true rfl, Nat.le_of_ble_eq_true rfl⟩) hS (fun q _ h => hFc q h) hFc (fun u t H1 locs ht hvm w_4 hB hz1 hk1 hS => ?_)
    obtain ⟨o_5, o_6, o_7, o_8, o_9⟩ := u
    dsimp only at w_4 hB
    obtain ⟨hP1, hK1, hD1⟩ := hB
    rw [ht] at hP1
    have hK1 := va_K.moved hvm.symm hK1
    obtain ⟨hP, hD⟩ := kx_joinM (w2 := [kx_4 m_ q_row q_t t_ h0 k0 w_ z_ slots old, kx_0 q_row q_cell len, kx_a q_cell cyI 160 f, kx_2 q_t q_row q_joined q_from q_to q_size q_lossOf q_lessBy q_value q_number nodes here, kx_a q_from cyI 319 ff, kx_a q_to cyI 319 ft, kx_a q_size cyI 319 fs, kx_a q_lossOf cyI 319 fo, kx_a q_value cyI 1914 uv, kx_a q_number cyI 1914 un, kx_3 h0 a_v a_n o_5 o_6 o_7, kx_a a_v cyI 12 o_8, kx_a a_n cyI 12 o_9, kx_3 k0 kv kn sb lb eb, kx_a kv cyI 12 gb, kx_a kn cyI 12 nb]) hP hD hP1 hD1 hk1 hFc [false, false, false, true, true, true, true, true, true, true, true, true, true, false, false, false] hCc rfl
    clear hP1 hD1 hK1 hk1 hz1 hFc hDc hPc hKc hCc
    generalize H1 = H at hP hS ⊢
    have w_4 : 0 ≤ o_5.toInt ∧ o_5.toInt ≤ 12 := w_4
    refine lv_aload_n hx hb dX4_gatherHeavyOfBoth_26 rfl (lv_at hl 1 rfl) ?_
    refine lv_aload_n hx hb dX4_gatherHeavyOfBoth_27 rfl (lv_at hl 0 rfl) ?_
    refine va_get (D := (dC, dI)) (ci := 4) (v := .ref k0) (C := RX4) (T := TX4) (N := 9) hx hb hts hi_4 hown hK hP 0 rfl rfl 4 (by decide) hf_39 (fun _ h9 => h9) rfl dX4_gatherHeavyOfBoth_28 ?_
    refine lv_iload_n hx hb dX4_gatherHeavyOfBoth_31 rfl (lv_at hl 2 rfl) ?_
    refine lv_iload hx hb dX4_gatherHeavyOfBoth_32 (lv_at hl 4 rfl) ?_
    refine va_mmax hx hb (hml.trans hl.1.symm) hown hm_96 hms_max hz_math hmc_max (Nat.le_of_ble_eq_true rfl) (Nat.le_of_ble_eq_true rfl) (Nat.le_of_ble_eq_true rfl) (Nat.le_of_ble_eq_true rfl) dX4_gatherHeavyOfBoth_34 ?_
    refine lv_topi (fun y_10 ey_10 => ?_)
    have i_11 : (p0.toInt ≤ p2.toInt ∧ y_10.toInt = p2.toInt) ∨ (p2.toInt < p0.toInt ∧ y_10.toInt = p0.toInt) := ki_max ey_10 rfl rfl
    refine lv_iload_n hx hb dX4_gatherHeavyOfBoth_37 rfl (lv_at hl 2 rfl) ?_
    refine lv_iload hx hb dX4_gatherHeavyOfBoth_38 (lv_at hl 4 rfl) ?_
    refine lv_icmp_ge (tgt := 48) hx hb dX4_gatherHeavyOfBoth_40 (by decide) (fun c_12 => ?_) (fun c_12 => ?_)
    · have i_12 : p2.toInt ≤ p0.toInt := kc_le c_12
      refine lv_iload_n hx hb dX4_gatherHeavyOfBoth_48 rfl (lv_at hl 3 rfl) ?_
      obtain ⟨hPc, hDc, hFc, hCc⟩ := kx_preM (wc := [kx_2 q_t q_row q_joined q_from q_to q_size q_lossOf q_lessBy q_value q_number nodes here, kx_a q_from cyI 319 ff, kx_a q_to cyI 319 ft, kx_a q_size cyI 319 fs, kx_a q_lossOf cyI 319 fo, kx_a q_value cyI 1914 uv, kx_a q_number cyI 1914 un, kx_3 k0 kv kn sb lb eb, kx_a kv cyI 12 gb, kx_a kn cyI 12 nb]) hP hD hS hA [false, false, false, true, true, true, true, true, true, true, false, false, false, true, true, true] rfl
      have hKc := hK
      refine va_callv (va_runV (As := [.ref k0, .int y_10, .int p1]) (rest := []) ⟨hx, hb, hml, hown, hts⟩ (kx_un (c_X2_gather l dC dI q_t q_row q_joined q_from q_to q_size q_lossOf q_lessBy q_value q_number nodes here k0 kv kn cyI sb lb eb gb nb ff ft fs fo uv un y_10 p1 H.size b0 c0 s0)) (cwV 3 hts gX4_gatherHeavyOfBoth_X2_gather rfl rfl rfl (by decide +kernel) ⟨Nat.le_of_ble_eq_true rfl, Nat.le_of_ble_eq_true rfl⟩) ⟨fun a U g mk q => by obtain ⟨q0, q1, qP, qK, qD⟩ := q; exact ⟨q0, q1, qP, va_K.moved (u := U) (U := U.calling g mk a) (Vm.Alike.refl U.vm) qK, qD⟩, kx_rc2 hKc hPc (q0 := 0) rfl, fun U hU hW => ⟨rfl, by rw [hU], by rw [hU]; exact hPc, va_K.moved hW.alike hKc, hDc.weaken (fun _ _ _ _ => trivial)⟩⟩ rfl rfl hl.1 rfl (lv_room (Nat.le_of_ble_eq_true rfl)) dX4_gatherHeavyOfBoth_49 ⟨Nat.le_of_ble_eq_true rfl, Nat.le_of_ble_eq_true rfl⟩) hS (fun q _ h => hFc q h) hFc (fun u t H1 locs ht hvm w_13 hB hz1 hk1 hS => ?_)
      obtain ⟨o_14, o_15, o_16, o_17, o_18⟩ := u
      dsimp only at w_13 hB
      obtain ⟨hP1, hK1, hD1⟩ := hB
      rw [ht] at hP1
      have hK1 := va_K.moved hvm.symm hK1
      obtain ⟨hP, hD⟩ := kx_joinM (w2 := [kx_4 m_ q_row q_t t_ h0 k0 w_ z_ slots old, kx_0 q_row q_cell len, kx_a q_cell cyI 160 f, kx_2 q_t q_row q_joined q_from q_to q_size q_lossOf q_lessBy q_value q_number nodes here, kx_a q_from cyI 319 ff, kx_a q_to cyI 319 ft, kx_a q_size cyI 319 fs, kx_a q_lossOf cyI 319 fo, kx_a q_value cyI 1914 uv, kx_a q_number cyI 1914 un, kx_3 h0 a_v a_n o_5 o_6 o_7, kx_a a_v cyI 12 o_8, kx_a a_n cyI 12 o_9, kx_3 k0 kv kn o_14 o_15 o_16, kx_a kv cyI 12 o_17, kx_a kn cyI 12 o_18]) hP hD hP1 hD1 hk1 hFc [false, false, false, true, true, true, true, true, true, true, false, false, false, true, true, true] hCc rfl
      clear hP1 hD1 hK1 hk1 hz1 hFc hDc hPc hKc hCc
      generalize H1 = H at hP hS ⊢
      have w_13 : 0 ≤ o_14.toInt ∧ o_14.toInt ≤ 12 := w_13
      refine lv_aload_n hx hb dX4_gatherHeavyOfBoth_52 rfl (lv_at hl 0 rfl) ?_
      refine va_get (D := (dC, dI)) (ci := 4) (v := .ref h0) (C := RX4) (T := TX4) (N := 9) hx hb hts hi_4 hown hK hP 0 rfl rfl 3 (by decide) hf_35 (fun _ h9 => h9) rfl dX4_gatherHeavyOfBoth_53 ?_
      refine lv_aload_n hx hb dX4_gatherHeavyOfBoth_56 rfl (lv_at hl 0 rfl) ?_
      refine va_get (D := (dC, dI)) (ci := 4) (v := .ref k0) (C := RX4) (T := TX4) (N := 9) hx hb hts hi_4 hown hK hP 0 rfl rfl 4 (by decide) hf_39 (fun _ h9 => h9) rfl dX4_gatherHeavyOfBoth_57 ?_
      obtain ⟨hPc, hDc, hFc, hCc⟩ := kx_preM (wc := [kx_3 h0 a_v a_n o_5 o_6 o_7, kx_a a_v cyI 12 o_8, kx_a a_n cyI 12 o_9, kx_3 k0 kv kn o_14 o_15 o_16, kx_a kv cyI 12 o_17, kx_a kn cyI 12 o_18]) hP hD hS hA [false, false, false, false, false, false, false, false, false, false, true, true, true, true, true, true] rfl
      have hKc := hK
      refine va_callv (va_runV (As := [.ref k0]) (rest := []) ⟨hx, hb, hml, hown, hts⟩ (kx_un (c_X3_join l dC dI h0 a_v a_n cyI o_5 o_6 o_7 o_8 o_9 k0 kv kn o_14 o_15 o_16 o_17 o_18 H.size w_4.1 w_4.2 w_13.1 w_13.2)) (cwV 1 hts gX4_gatherHeavyOfBoth_X3_join rfl rfl rfl (by decide +kernel) ⟨Nat.le_of_ble_eq_true rfl, Nat.le_of_ble_eq_true rfl⟩) ⟨fun a U g mk q => by obtain ⟨q0, q1, qP, qK, qD⟩ := q; exact ⟨q0, q1, qP, va_K.moved (u := U) (U := U.calling g mk a) (Vm.Alike.refl U.vm) qK, qD⟩, kx_rc3 hKc hPc (q0 := 0) rfl, fun U hU hW => ⟨rfl, by rw [hU], by rw [hU]; exact hPc, va_K.moved hW.alike hKc, hDc.weaken (fun _ _ _ _ => trivial)⟩⟩ rfl rfl hl.1 rfl (lv_room (Nat.le_of_ble_eq_true rfl)) dX4_gatherHeavyOfBoth_60 ⟨Nat.le_of_ble_eq_true rfl, Nat.le_of_ble_eq_true rfl⟩) hS (fun q _ h => hFc q h) hFc (fun u t H1 locs ht hvm w_19 hB hz1 hk1 hS => ?_)
      obtain ⟨o_20, o_21, o_22, o_23⟩ := u
      dsimp only at w_19 hB
      obtain ⟨hP1, hK1, hD1⟩ := hB
      rw [ht] at hP1
      have hK1 := va_K.moved hvm.symm hK1
      obtain ⟨hP, hD⟩ := kx_joinM (w2 := [kx_4 m_ q_row q_t t_ h0 k0 w_ z_ slots old, kx_0 q_row q_cell len, kx_a q_cell cyI 160 f, kx_2 q_t q_row q_joined q_from q_to q_size q_lossOf q_lessBy q_value q_number nodes here, kx_a q_from cyI 319 ff, kx_a q_to cyI 319 ft, kx_a q_size cyI 319 fs, kx_a q_lossOf cyI 319 fo, kx_a q_value cyI 1914 uv, kx_a q_number cyI 1914 un, kx_3 h0 a_v a_n o_20 o_21 o_7, kx_a a_v cyI 12 o_22, kx_a a_n cyI 12 o_23, kx_3 k0 kv kn o_14 o_15 o_16, kx_a kv cyI 12 o_17, kx_a kn cyI 12 o_18]) hP hD hP1 hD1 hk1 hFc [false, false, false, false, false, false, false, false, false, false, true, true, true, true, true, true] hCc rfl
      clear hP1 hD1 hK1 hk1 hz1 hFc hDc hPc hKc hCc
      generalize H1 = H at hP hS ⊢
      have w_19 : 0 ≤ o_20.toInt ∧ o_20.toInt ≤ 12 := w_19
      refine lv_aload_n hx hb dX4_gatherHeavyOfBoth_63 rfl (lv_at hl 0 rfl) ?_
      refine va_get (D := (dC, dI)) (ci := 4) (v := .ref h0) (C := RX4) (T := TX4) (N := 9) hx hb hts hi_4 hown hK hP 0 rfl rfl 3 (by decide) hf_35 (fun _ h9 => h9) rfl dX4_gatherHeavyOfBoth_64 ?_
      refine lv_aload_n hx hb dX4_gatherHeavyOfBoth_67 rfl (lv_at hl 0 rfl) ?_
      refine va_get (D := (dC, dI)) (ci := 4) (v := .int slots) (C := RX4) (T := TX4) (N := 9) hx hb hts hi_4 hown hK hP 0 rfl rfl 7 (by decide) hf_49 (fun _ h9 => h9) rfl dX4_gatherHeavyOfBoth_68 ?_
      obtain ⟨hPc, hDc, hFc, hCc⟩ := kx_preM (wc := [kx_3 h0 a_v a_n o_20 o_21 o_7, kx_a a_v cyI 12 o_22, kx_a a_n cyI 12 o_23]) hP hD hS hA [false, false, false, false, false, false, false, false, false, false, true, true, true, false, false, false] rfl
      have hKc := hK
      refine va_callv (va_runV (As := [.int slots]) (rest := []) ⟨hx, hb, hml, hown, hts⟩ (kx_un (c_X3_cancel l dC dI h0 a_v a_n cyI o_20 o_21 o_7 o_22 o_23 slots H.size w_19.1 w_19.2)) (cwV 1 hts gX4_gatherHeavyOfBoth_X3_cancel rfl rfl rfl (by decide +kernel) ⟨Nat.le_of_ble_eq_true rfl, Nat.le_of_ble_eq_true rfl⟩) ⟨fun a U g mk q => by obtain ⟨q0, q1, qP, qK, qD⟩ := q; exact ⟨q0, q1, qP, va_K.moved (u := U) (U := U.calling g mk a) (Vm.Alike.refl U.vm) qK, qD⟩, kx_rc3 hKc hPc (q0 := 0) rfl, fun U hU hW => ⟨rfl, by rw [hU], by rw [hU]; exact hPc, va_K.moved hW.alike hKc, hDc.weaken (fun _ _ _ _ => trivial)⟩⟩ rfl rfl hl.1 rfl (lv_room (Nat.le_of_ble_eq_true rfl)) dX4_gatherHeavyOfBoth_71 ⟨Nat.le_of_ble_eq_true rfl, Nat.le_of_ble_eq_true rfl⟩) hS (fun q _ h => hFc q h) hFc (fun u t H1 locs ht hvm w_24 hB hz1 hk1 hS => ?_)
      obtain ⟨o_25, o_26, o_27, o_28, o_29⟩ := u
      dsimp only at w_24 hB
      obtain ⟨hP1, hK1, hD1⟩ := hB
      rw [ht] at hP1
      have hK1 := va_K.moved hvm.symm hK1
      obtain ⟨hP, hD⟩ := kx_joinM (w2 := [kx_4 m_ q_row q_t t_ h0 k0 w_ z_ slots old, kx_0 q_row q_cell len, kx_a q_cell cyI 160 f, kx_2 q_t q_row q_joined q_from q_to q_size q_lossOf q_lessBy q_value q_number nodes here, kx_a q_from cyI 319 ff, kx_a q_to cyI 319 ft, kx_a q_size cyI 319 fs, kx_a q_lossOf cyI 319 fo, kx_a q_value cyI 1914 uv, kx_a q_number cyI 1914 un, kx_3 h0 a_v a_n o_25 o_26 o_27, kx_a a_v cyI 12 o_28, kx_a a_n cyI 12 o_29, kx_3 k0 kv kn o_14 o_15 o_16, kx_a kv cyI 12 o_17, kx_a kn cyI 12 o_18]) hP hD hP1 hD1 hk1 hFc [false, false, false, false, false, false, false, false, false, false, true, true, true, false, false, false] hCc rfl
      clear hP1 hD1 hK1 hk1 hz1 hFc hDc hPc hKc hCc
      generalize H1 = H at hP hS ⊢
      have w_24 : 0 ≤ o_25.toInt ∧ o_25.toInt ≤ o_20.toInt := w_24
      refine lv_iconst (v := 0) hx hb dX4_gatherHeavyOfBoth_74 (by decide) ?_
      refine lv_istore (lv' := [(8, .int 0), (0, .ref m_), (1, .ref q_t), (2, .int p0), (3, .int p1), (4, .int p2), (5, .int p3), (6, .int p4), (7, .int p5)]) hx hb dX4_gatherHeavyOfBoth_75 hl (by decide) rfl (fun ls hl => ?_)
      have LP1 : ∀ (n : Nat) (i : Int32) (wn : Nat → Int32), (0 ≤ i.toInt) → (o_25.toInt - i.toInt).toNat < n → ∀ (H : Heap) (locs : List Loc), va_P (dC, dI) vwCl [kx_4 m_ q_row q_t t_ h0 k0 w_ z_ slots old, kx_0 q_row q_cell len, kx_a q_cell cyI 160 f, kx_2 q_t q_row q_joined q_from q_to q_size q_lossOf q_lessBy q_value q_number nodes here, kx_a q_from cyI 319 ff, kx_a q_to cyI 319 ft, kx_a q_size cyI 319 fs, kx_a q_lossOf cyI 319 fo, kx_a q_value cyI 1914 uv, kx_a q_number cyI 1914 un, kx_3 h0 a_v a_n o_25 o_26 o_27, kx_a a_v cyI 12 o_28, kx_a a_n cyI 12 wn, kx_3 k0 kv kn o_14 o_15 o_16, kx_a kv cyI 12 o_17, kx_a kn cyI 12 o_18] H → va_D A [kx_4 m_ q_row q_t t_ h0 k0 w_ z_ slots old, kx_0 q_row q_cell len, kx_a q_cell cyI 160 f, kx_2 q_t q_row q_joined q_from q_to q_size q_lossOf q_lessBy q_value q_number nodes here, kx_a q_from cyI 319 ff, kx_a q_to cyI 319 ft, kx_a q_size cyI 319 fs, kx_a q_lossOf cyI 319 fo, kx_a q_value cyI 1914 uv, kx_a q_number cyI 1914 un, kx_3 h0 a_v a_n o_25 o_26 o_27, kx_a a_v cyI 12 o_28, kx_a a_n cyI 12 wn, kx_3 k0 kv kn o_14 o_15 o_16, kx_a kv cyI 12 o_17, kx_a kn cyI 12 o_18] → va_S A s.heap H locs → ∀ (ls : Array Slot), lv_has ls 10 [(8, .int i), (0, .ref m_), (1, .ref q_t), (2, .int p0), (3, .int p1), (4, .int p2), (5, .int p3), (6, .int p4), (7, .int p5)] → W p l e (headSpec wsX4_gatherHeavyOfBoth ({ frames := 4, cells := 0, slots := 0, locals := 180 })).room s m ([.ref m_, .ref q_t, .int p0, .int p1, .int p2, .int p3, .int p4, .int p5] : List Value).toArray below meth c H locs 0 0 (MQ below (va_Qv (fun u : Int32 × Int32 × Int32 × (Nat → Int32) × (Nat → Int32) × Int32 × Int32 × Int32 × (Nat → Int32) × (Nat → Int32) => 0 ≤ u.1.toInt ∧ u.1.toInt ≤ 12) (fun (u : Int32 × Int32 × Int32 × (Nat → Int32) × (Nat → Int32) × Int32 × Int32 × Int32 × (Nat → Int32) × (Nat → Int32)) (t : State) => va_P (dC, dI) vwCl [kx_4 m_ q_row q_t t_ h0 k0 w_ z_ slots old, kx_0 q_row q_cell len, kx_a q_cell cyI 160 f, kx_2 q_t q_row q_joined q_from q_to q_size q_lossOf q_lessBy q_value q_number nodes here, kx_a q_from cyI 319 ff, kx_a q_to cyI 319 ft, kx_a q_size cyI 319 fs, kx_a q_lossOf cyI 319 fo, kx_a q_value cyI 1914 uv, kx_a q_number cyI 1914 un, kx_3 h0 a_v a_n u.1 u.2.1 u.2.2.1, kx_a a_v cyI 12 u.2.2.2.1, kx_a a_n cyI 12 u.2.2.2.2.1, kx_3 k0 kv kn u.2.2.2.2.2.1 u.2.2.2.2.2.2.1 u.2.2.2.2.2.2.2.1, kx_a kv cyI 12 u.2.2.2.2.2.2.2.2.1, kx_a kn cyI 12 u.2.2.2.2.2.2.2.2.2] t.heap ∧ va_K (dC, dI) vwCl [(cyI, .int)] t ∧ va_D A [kx_4 m_ q_row q_t t_ h0 k0 w_ z_ slots old, kx_0 q_row q_cell len, kx_a q_cell cyI 160 f, kx_2 q_t q_row q_joined q_from q_to q_size q_lossOf q_lessBy q_value q_number nodes here, kx_a q_from cyI 319 ff, kx_a q_to cyI 319 ft, kx_a q_size cyI 319 fs, kx_a q_lossOf cyI 319 fo, kx_a q_value cyI 1914 uv, kx_a q_number cyI 1914 un, kx_3 h0 a_v a_n u.1 u.2.1 u.2.2.1, kx_a a_v cyI 12 u.2.2.2.1, kx_a a_n cyI 12 u.2.2.2.2.1, kx_3 k0 kv kn u.2.2.2.2.2.1 u.2.2.2.2.2.2.1 u.2.2.2.2.2.2.2.1, kx_a kv cyI 12 u.2.2.2.2.2.2.2.2.1, kx_a kn cyI 12 u.2.2.2.2.2.2.2.2.2]) A) ([.ref m_, .ref q_t, .int p0, .int p1, .int p2, .int p3, .int p4, .int p5] : List Value).toArray s 0 0 A) (F0 m 77 ls []) := by
        intro n
        induction n with
        | zero => intro i wn LP1_h0 hn; exact absurd hn (Nat.not_lt_zero _)
        | succ n ih1 =>
          intro i wn LP1_h0 hn1 H locs hP hD hS ls hl
          refine lv_iload hx hb dX4_gatherHeavyOfBoth_77 (lv_at hl 0 rfl) ?_
          refine lv_aload_n hx hb dX4_gatherHeavyOfBoth_79 rfl (lv_at hl 1 rfl) ?_
          refine va_get (D := (dC, dI)) (ci := 4) (v := .ref h0) (C := RX4) (T := TX4) (N := 9) hx hb hts hi_4 hown hK hP 0 rfl rfl 3 (by decide) hf_35 (fun _ h9 => h9) rfl dX4_gatherHeavyOfBoth_80 ?_
          refine va_get (D := (dC, dI)) (ci := 3) (v := .int o_25) (C := RX3) (T := TX3) (N := 5) hx hb hts hi_3 hown hK hP 10 rfl rfl 2 (by decide) hf_174 (fun _ h9 => h9) rfl dX4_gatherHeavyOfBoth_83 ?_
          refine lv_icmp_ge (tgt := 142) hx hb dX4_gatherHeavyOfBoth_86 (by decide) (fun c_30 => ?_) (fun c_30 => ?_)
          · have i_30 : o_25.toInt ≤ i.toInt := kc_le c_30
            refine lv_aload_n hx hb dX4_gatherHeavyOfBoth_142 rfl (lv_at hl 1 rfl) ?_
            refine va_get (D := (dC, dI)) (ci := 4) (v := .ref h0) (C := RX4) (T := TX4) (N := 9) hx hb hts hi_4 hown hK hP 0 rfl rfl 3 (by decide) hf_35 (fun _ h9 => h9) rfl dX4_gatherHeavyOfBoth_143 ?_
            refine lv_iload_n hx hb dX4_gatherHeavyOfBoth_146 rfl (lv_at hl 4 rfl) ?_
            refine lv_iload_n hx hb dX4_gatherHeavyOfBoth_147 rfl (lv_at hl 3 rfl) ?_
            refine lv_isub hx hb dX4_gatherHeavyOfBoth_148 ?_
            refine lv_topi (fun y_31 ey_31 => ?_)
            refine lv_iload hx hb dX4_gatherHeavyOfBoth_149 (lv_at hl 6 rfl) ?_
            refine lv_iadd hx hb dX4_gatherHeavyOfBoth_151 ?_
            refine lv_topi (fun y_32 ey_32 => ?_)
            refine lv_iload hx hb dX4_gatherHeavyOfBoth_152 (lv_at hl 5 rfl) ?_
            refine lv_isub hx hb dX4_gatherHeavyOfBoth_154 ?_
            refine lv_topi (fun y_33 ey_33 => ?_)
            refine lv_iload hx hb dX4_gatherHeavyOfBoth_155 (lv_at hl 7 rfl) ?_
            refine lv_iload hx hb dX4_gatherHeavyOfBoth_157 (lv_at hl 8 rfl) ?_
            obtain ⟨hPc, hDc, hFc, hCc⟩ := kx_preM (wc := [kx_3 h0 a_v a_n o_25 o_26 o_27, kx_a a_v cyI 12 o_28, kx_a a_n cyI 12 wn]) hP hD hS hA [false, false, false, false, false, false, false, false, false, false, true, true, true, false, false, false] rfl
            have hKc := hK
            refine va_callv (va_runV (As := [.int y_33, .int p4, .int p5]) (rest := []) ⟨hx, hb, hml, hown, hts⟩ (c_X3_keepHeavy l dC dI h0 a_v a_n cyI o_25 o_26 o_27 o_28 wn y_33 p4 p5 H.size w_24.1 (om_129 w_19.2 w_24.2)) (cwV 3 hts gX4_gatherHeavyOfBoth_X3_keepHeavy rfl rfl rfl (by decide +kernel) ⟨Nat.le_of_ble_eq_true rfl, Nat.le_of_ble_eq_true rfl⟩) ⟨fun a U g mk q => by obtain ⟨q0, q1, qP, qK, qD, qn0⟩ := q; exact ⟨q0, q1, qP, va_K.moved (u := U) (U := U.calling g mk a) (Vm.Alike.refl U.vm) qK, qD, va_Nw.same (u := U) (U := U.calling g mk a) rfl rfl qn0⟩, kx_rc3 hKc hPc (q0 := 0) rfl, fun U hU hW => ⟨rfl, by rw [hU], by rw [hU]; exact hPc, va_K.moved hW.alike hKc, hDc.weaken (fun _ _ _ _ => trivial), va_Nw.warmM hW hN0⟩⟩ rfl rfl hl.1 rfl (lv_room (Nat.le_of_ble_eq_true rfl)) dX4_gatherHeavyOfBoth_159 ⟨Nat.le_of_ble_eq_true rfl, Nat.le_of_ble_eq_true rfl⟩) hS (fun q _ h => hFc q h) hFc (fun u t H1 locs ht hvm w_34 hB hz1 hk1 hS => ?_)
            obtain ⟨o_35, o_36, o_37⟩ := u
            dsimp only at w_34 hB
            obtain ⟨hP1, hK1, hD1⟩ := hB
            rw [ht] at hP1
            have hK1 := va_K.moved hvm.symm hK1
            obtain ⟨hP, hD⟩ := kx_joinM (w2 := [kx_4 m_ q_row q_t t_ h0 k0 w_ z_ slots old, kx_0 q_row q_cell len, kx_a q_cell cyI 160 f, kx_2 q_t q_row q_joined q_from q_to q_size q_lossOf q_lessBy q_value q_number nodes here, kx_a q_from cyI 319 ff, kx_a q_to cyI 319 ft, kx_a q_size cyI 319 fs, kx_a q_lossOf cyI 319 fo, kx_a q_value cyI 1914 uv, kx_a q_number cyI 1914 un, kx_3 h0 a_v a_n o_35 o_26 o_27, kx_a a_v cyI 12 o_36, kx_a a_n cyI 12 o_37, kx_3 k0 kv kn o_14 o_15 o_16, kx_a kv cyI 12 o_17, kx_a kn cyI 12 o_18]) hP hD hP1 hD1 hk1 hFc [false, false, false, false, false, false, false, false, false, false, true, true, true, false, false, false] hCc rfl
            clear hP1 hD1 hK1 hk1 hz1 hFc hDc hPc hKc hCc
            generalize H1 = H at hP hS ⊢
            have w_34 : 0 ≤ o_35.toInt ∧ o_35.toInt ≤ o_25.toInt := w_34
            have hP9 := hP
            have hD9 := hD
            have hK9 := hK
            exact W.vret hx hb hr (hlocks := hlocks) (fun t ht hW => ⟨⟨(o_35, o_26, o_27, o_36, o_37, o_14, o_15, o_16, o_17, o_18), rfl, (by (try dsimp only); omega), by rw [ht]; exact hP9, va_K.moved hW.alike hK9, hD9⟩, hS.F ht⟩) hS.2.2 dX4_gatherHeavyOfBoth_162
          · have i_30 : i.toInt < o_25.toInt := kc_nle c_30
            refine lv_aload_n hx hb dX4_gatherHeavyOfBoth_89 rfl (lv_at hl 1 rfl) ?_
            refine va_get (D := (dC, dI)) (ci := 4) (v := .ref h0) (C := RX4) (T := TX4) (N := 9) hx hb hts hi_4 hown hK hP 0 rfl rfl 3 (by decide) hf_35 (fun _ h9 => h9) rfl dX4_gatherHeavyOfBoth_90 ?_
            refine va_get (D := (dC, dI)) (ci := 3) (v := .ref a_v) (C := RX3) (T := TX3) (N := 5) hx hb hts hi_3 hown hK hP 10 rfl rfl 0 (by decide) hf_133 (fun _ h9 => h9) rfl dX4_gatherHeavyOfBoth_93 ?_
            refine lv_iload hx hb dX4_gatherHeavyOfBoth_96 (lv_at hl 0 rfl) ?_
            refine va_iald hx hb hK hP 11 0 rfl rfl (ki_in (om_10 LP1_h0) (om_206 w_19.2 w_24.2 i_30)) dX4_gatherHeavyOfBoth_98 ?_
            refine lv_topi (fun y_38 ey_38 => ?_)
            have j_38 : y_38.toInt = (o_28 i.toNatClampNeg).toInt := congrArg Int32.toInt ey_38
            refine lv_istore (lv' := [(9, .int y_38), (8, .int i), (0, .ref m_), (1, .ref q_t), (2, .int p0), (3, .int p1), (4, .int p2), (5, .int p3), (6, .int p4), (7, .int p5)]) hx hb dX4_gatherHeavyOfBoth_99 hl (by decide) rfl (fun ls hl => ?_)
            refine lv_aload_n hx hb dX4_gatherHeavyOfBoth_101 rfl (lv_at hl 2 rfl) ?_
            refine va_get (D := (dC, dI)) (ci := 4) (v := .ref h0) (C := RX4) (T := TX4) (N := 9) hx hb hts hi_4 hown hK hP 0 rfl rfl 3 (by decide) hf_35 (fun _ h9 => h9) rfl dX4_gatherHeavyOfBoth_102 ?_
            refine va_get (D := (dC, dI)) (ci := 3) (v := .ref a_n) (C := RX3) (T := TX3) (N := 5) hx hb hts hi_3 hown hK hP 10 rfl rfl 1 (by decide) hf_136 (fun _ h9 => h9) rfl dX4_gatherHeavyOfBoth_105 ?_
            refine lv_iload hx hb dX4_gatherHeavyOfBoth_108 (lv_at hl 1 rfl) ?_
            refine lv_aload_n hx hb dX4_gatherHeavyOfBoth_110 rfl (lv_at hl 2 rfl) ?_
            refine va_get (D := (dC, dI)) (ci := 4) (v := .ref q_row) (C := RX4) (T := TX4) (N := 9) hx hb hts hi_4 hown hK hP 0 rfl rfl 0 (by decide) hf_12 (fun _ h9 => h9) rfl dX4_gatherHeavyOfBoth_111 ?_
            refine lv_iload hx hb dX4_gatherHeavyOfBoth_114 (lv_at hl 0 rfl) ?_
            refine lv_iload_n hx hb dX4_gatherHeavyOfBoth_116 rfl (lv_at hl 4 rfl) ?_
            refine lv_iload_n hx hb dX4_gatherHeavyOfBoth_117 rfl (lv_at hl 5 rfl) ?_
            have hPc := hP.sub (ws' := [kx_0 q_row q_cell len, kx_a q_cell cyI 160 f]) [1, 2] rfl
            have hKc := hK
            refine vp_callSi (W.runV (As := [.int y_38, .int p0, .int p1]) (rest := [.int i, .ref a_n]) ⟨hx, hb, hml, hown, hts⟩ (c_X0_oftenIn l dC dI q_row q_cell cyI len f y_38 p0 p1 d0 d1) (cwV 3 hts gX4_gatherHeavyOfBoth_X0_oftenIn rfl rfl rfl (by decide +kernel) ⟨Nat.le_of_ble_eq_true rfl, Nat.le_of_ble_eq_true rfl⟩) ⟨fun a U g mk q => by obtain ⟨q0, qP, qK⟩ := q; exact ⟨q0, qP, va_K.moved (u := U) (U := U.calling g mk a) (Vm.Alike.refl U.vm) qK⟩, kx_rc0 hKc hPc (q0 := 0) rfl, fun U hU hW => ⟨rfl, by rw [hU]; exact hPc, va_K.moved hW.alike hKc⟩⟩ rfl rfl hl.1 rfl (lv_room (Nat.le_of_ble_eq_true rfl)) dX4_gatherHeavyOfBoth_118 ⟨Nat.le_of_ble_eq_true rfl, Nat.le_of_ble_eq_true rfl⟩) (fun r_39 w_39 => ?_)
            have w_39 : r_39.toInt = (cnt f y_38 p0.toNatClampNeg (p1.toInt - p0.toInt).toNat : Int) := w_39
            refine lv_aload_n hx hb dX4_gatherHeavyOfBoth_121 rfl (lv_at hl 2 rfl) ?_
            refine va_get (D := (dC, dI)) (ci := 4) (v := .ref q_row) (C := RX4) (T := TX4) (N := 9) hx hb hts hi_4 hown hK hP 0 rfl rfl 0 (by decide) hf_12 (fun _ h9 => h9) rfl dX4_gatherHeavyOfBoth_122 ?_
            refine lv_iload hx hb dX4_gatherHeavyOfBoth_125 (lv_at hl 0 rfl) ?_
            refine lv_iload hx hb dX4_gatherHeavyOfBoth_127 (lv_at hl 6 rfl) ?_
            refine lv_iload hx hb dX4_gatherHeavyOfBoth_129 (lv_at hl 7 rfl) ?_
            have hPc := hP.sub (ws' := [kx_0 q_row q_cell len, kx_a q_cell cyI 160 f]) [1, 2] rfl
            have hKc := hK
            refine vp_callSi (W.runV (As := [.int y_38, .int p2, .int p3]) (rest := [.int r_39, .int i, .ref a_n]) ⟨hx, hb, hml, hown, hts⟩ (c_X0_oftenIn l dC dI q_row q_cell cyI len f y_38 p2 p3 d2 d3) (cwV 3 hts gX4_gatherHeavyOfBoth_X0_oftenIn rfl rfl rfl (by decide +kernel) ⟨Nat.le_of_ble_eq_true rfl, Nat.le_of_ble_eq_true rfl⟩) ⟨fun a U g mk q => by obtain ⟨q0, qP, qK⟩ := q; exact ⟨q0, qP, va_K.moved (u := U) (U := U.calling g mk a) (Vm.Alike.refl U.vm) qK⟩, kx_rc0 hKc hPc (q0 := 0) rfl, fun U hU hW => ⟨rfl, by rw [hU]; exact hPc, va_K.moved hW.alike hKc⟩⟩ rfl rfl hl.1 rfl (lv_room (Nat.le_of_ble_eq_true rfl)) dX4_gatherHeavyOfBoth_131 ⟨Nat.le_of_ble_eq_true rfl, Nat.le_of_ble_eq_true rfl⟩) (fun r_40 w_40 => ?_)
            have w_40 : r_40.toInt = (cnt f y_38 p2.toNatClampNeg (p3.toInt - p2.toInt).toNat : Int) := w_40
            refine lv_iadd hx hb dX4_gatherHeavyOfBoth_134 ?_
            refine lv_topi (fun y_41 ey_41 => ?_)
            refine va_iast hx hb hK hP hD hS 12 0 rfl rfl (ki_in (om_10 LP1_h0) (om_206 w_19.2 w_24.2 i_30)) dX4_gatherHeavyOfBoth_135 (fun H locs hP hD hS => ?_)
            obtain ⟨hP, hD⟩ := kx_re (w2 := [kx_4 m_ q_row q_t t_ h0 k0 w_ z_ slots old, kx_0 q_row q_cell len, kx_a q_cell cyI 160 f, kx_2 q_t q_row q_joined q_from q_to q_size q_lossOf q_lessBy q_value q_number nodes here, kx_a q_from cyI 319 ff, kx_a q_to cyI 319 ft, kx_a q_size cyI 319 fs, kx_a q_lossOf cyI 319 fo, kx_a q_value cyI 1914 uv, kx_a q_number cyI 1914 un, kx_3 h0 a_v a_n o_25 o_26 o_27, kx_a a_v cyI 12 o_28, kx_a a_n cyI 12 (upd wn i.toNatClampNeg y_41), kx_3 k0 kv kn o_14 o_15 o_16, kx_a kv cyI 12 o_17, kx_a kn cyI 12 o_18]) hP hD rfl
            obtain ⟨x_42, ex_42⟩ : ∃ y : Int32, y = i + 1 := ⟨_, rfl⟩
            have i_42 : x_42.toInt = i.toInt + 1 := ki_add ex_42 rfl rfl (om_13 LP1_h0) (om_207 w_19.2 w_24.2 i_30)
            refine lv_iinc (v := x_42) (lv' := [(8, .int x_42), (9, .int y_38), (0, .ref m_), (1, .ref q_t), (2, .int p0), (3, .int p1), (4, .int p2), (5, .int p3), (6, .int p4), (7, .int p5)]) hx hb dX4_gatherHeavyOfBoth_136 hl (k := 1) rfl (by rw [ex_42]; rfl) (by decide) rfl (fun ls hl => ?_)
            refine lv_goto (tgt := 77) hx hb dX4_gatherHeavyOfBoth_139 (by decide) ?_
            exact ih1 x_42 (upd wn i.toNatClampNeg y_41) (om_34 LP1_h0 i_42) (om_mu hn1 (om_5 i_42) (om_6 i_30)) _ _ hP hD hS ls (lv_sub hl [0, 2, 3, 4, 5, 6, 7, 8, 9] rfl)
      have k_43 : (0 : Int32).toInt = 0 := rfl
      exact LP1 ((o_25.toInt - 0 : Int).toNat + 1) 0 o_29 om_35 (Nat.lt_succ_self _) _ _ hP hD hS ls (lv_sub hl [0, 1, 2, 3, 4, 5, 6, 7, 8] rfl)
    · have i_12 : p0.toInt < p2.toInt := kc_nle c_12
      exfalso; omega
  · have i_3 : p0.toInt < p2.toInt := kc_nle c_3
    refine lv_iload_n hx hb dX4_gatherHeavyOfBoth_17 rfl (lv_at hl 3 rfl) ?_
    refine lv_goto (tgt := 23) hx hb dX4_gatherHeavyOfBoth_18 (by decide) ?_
    obtain ⟨hPc, hDc, hFc, hCc⟩ := kx_preM (wc := [kx_2 q_t q_row q_joined q_from q_to q_size q_lossOf q_lessBy q_value q_number nodes here, kx_a q_from cyI 319 ff, kx_a q_to cyI 319 ft, kx_a q_size cyI 319 fs, kx_a q_lossOf cyI 319 fo, kx_a q_value cyI 1914 uv, kx_a q_number cyI 1914 un, kx_3 h0 a_v a_n vs lo le, kx_a a_v cyI 12 fv, kx_a a_n cyI 12 fn]) hP hD hS hA [false, false, false, true, true, true, true, true, true, true, true, true, true, false, false, false] rfl
    have hKc := hK
    refine va_callv (va_runV (As := [.ref h0, .int y_1, .int p1]) (rest := []) ⟨hx, hb, hml, hown, hts⟩ (kx_un (c_X2_gather l dC dI q_t q_row q_joined q_from q_to q_size q_lossOf q_lessBy q_value q_number nodes here h0 a_v a_n cyI vs lo le fv fn ff ft fs fo uv un y_1 p1 s.heap.size b0 c0 s0)) (cwV 3 hts gX4_gatherHeavyOfBoth_X2_gather rfl rfl rfl (by decide +kernel) ⟨Nat.le_of_ble_eq_true rfl, Nat.le_of_ble_eq_true rfl⟩) ⟨fun a U g mk q => by obtain ⟨q0, q1, qP, qK, qD⟩ := q; exact ⟨q0, q1, qP, va_K.moved (u := U) (U := U.calling g mk a) (Vm.Alike.refl U.vm) qK, qD⟩, kx_rc2 hKc hPc (q0 := 0) rfl, fun U hU hW => ⟨rfl, by rw [hU], by rw [hU]; exact hPc, va_K.moved hW.alike hKc, hDc.weaken (fun _ _ _ _ => trivial)⟩⟩ rfl rfl hl.1 rfl (lv_room (Nat.le_of_ble_eq_true rfl)) dX4_gatherHeavyOfBoth_23 ⟨Nat.le_of_ble_eq_true rfl, Nat.le_of_ble_eq_true rfl⟩) hS (fun q _ h => hFc q h) hFc (fun u t H1 locs ht hvm w_44 hB hz1 hk1 hS => ?_)
    obtain ⟨o_45, o_46, o_47, o_48, o_49⟩ := u
    dsimp only at w_44 hB
    obtain ⟨hP1, hK1, hD1⟩ := hB
    rw [ht] at hP1
    have hK1 := va_K.moved hvm.symm hK1
    obtain ⟨hP, hD⟩ := kx_joinM (w2 := [kx_4 m_ q_row q_t t_ h0 k0 w_ z_ slots old, kx_0 q_row q_cell len, kx_a q_cell cyI 160 f, kx_2 q_t q_row q_joined q_from q_to q_size q_lossOf q_lessBy q_value q_number nodes here, kx_a q_from cyI 319 ff, kx_a q_to cyI 319 ft, kx_a q_size cyI 319 fs, kx_a q_lossOf cyI 319 fo, kx_a q_value cyI 1914 uv, kx_a q_number cyI 1914 un, kx_3 h0 a_v a_n o_45 o_46 o_47, kx_a a_v cyI 12 o_48, kx_a a_n cyI 12 o_49, kx_3 k0 kv kn sb lb eb, kx_a kv cyI 12 gb, kx_a kn cyI 12 nb]) hP hD hP1 hD1 hk1 hFc [false, false, false, true, true, true, true, true, true, true, true, true, true, false, false, false] hCc rfl
    clear hP1 hD1 hK1 hk1 hz1 hFc hDc hPc hKc hCc
    generalize H1 = H at hP hS ⊢
    have w_44 : 0 ≤ o_45.toInt ∧ o_45.toInt ≤ 12 := w_44
    refine lv_aload_n hx hb dX4_gatherHeavyOfBoth_26 rfl (lv_at hl 1 rfl) ?_
    refine lv_aload_n hx hb dX4_gatherHeavyOfBoth_27 rfl (lv_at hl 0 rfl) ?_
    refine va_get (D := (dC, dI)) (ci := 4) (v := .ref k0) (C := RX4) (T := TX4) (N := 9) hx hb hts hi_4 hown hK hP 0 rfl rfl 4 (by decide) hf_39 (fun _ h9 => h9) rfl dX4_gatherHeavyOfBoth_28 ?_
    refine lv_iload_n hx hb dX4_gatherHeavyOfBoth_31 rfl (lv_at hl 2 rfl) ?_
    refine lv_iload hx hb dX4_gatherHeavyOfBoth_32 (lv_at hl 4 rfl) ?_
    refine va_mmax hx hb (hml.trans hl.1.symm) hown hm_96 hms_max hz_math hmc_max (Nat.le_of_ble_eq_true rfl) (Nat.le_of_ble_eq_true rfl) (Nat.le_of_ble_eq_true rfl) (Nat.le_of_ble_eq_true rfl) dX4_gatherHeavyOfBoth_34 ?_
    refine lv_topi (fun y_50 ey_50 => ?_)
    have i_51 : (p0.toInt ≤ p2.toInt ∧ y_50.toInt = p2.toInt) ∨ (p2.toInt < p0.toInt ∧ y_50.toInt = p0.toInt) := ki_max ey_50 rfl rfl
    refine lv_iload_n hx hb dX4_gatherHeavyOfBoth_37 rfl (lv_at hl 2 rfl) ?_
    refine lv_iload hx hb dX4_gatherHeavyOfBoth_38 (lv_at hl 4 rfl) ?_
    refine lv_icmp_ge (tgt := 48) hx hb dX4_gatherHeavyOfBoth_40 (by decide) (fun c_52 => ?_) (fun c_52 => ?_)
    · have i_52 : p2.toInt ≤ p0.toInt := kc_le c_52
      exfalso; omega
    · have i_52 : p0.toInt < p2.toInt := kc_nle c_52
      refine lv_iload hx hb dX4_gatherHeavyOfBoth_43 (lv_at hl 5 rfl) ?_
      refine lv_goto (tgt := 49) hx hb dX4_gatherHeavyOfBoth_45 (by decide) ?_
      obtain ⟨hPc, hDc, hFc, hCc⟩ := kx_preM (wc := [kx_2 q_t q_row q_joined q_from q_to q_size q_lossOf q_lessBy q_value q_number nodes here, kx_a q_from cyI 319 ff, kx_a q_to cyI 319 ft, kx_a q_size cyI 319 fs, kx_a q_lossOf cyI 319 fo, kx_a q_value cyI 1914 uv, kx_a q_number cyI 1914 un, kx_3 k0 kv kn sb lb eb, kx_a kv cyI 12 gb, kx_a kn cyI 12 nb]) hP hD hS hA [false, false, false, true, true, true, true, true, true, true, false, false, false, true, true, true] rfl
      have hKc := hK
      refine va_callv (va_runV (As := [.ref k0, .int y_50, .int p3]) (rest := []) ⟨hx, hb, hml, hown, hts⟩ (kx_un (c_X2_gather l dC dI q_t q_row q_joined q_from q_to q_size q_lossOf q_lessBy q_value q_number nodes here k0 kv kn cyI sb lb eb gb nb ff ft fs fo uv un y_50 p3 H.size b0 c0 s0)) (cwV 3 hts gX4_gatherHeavyOfBoth_X2_gather rfl rfl rfl (by decide +kernel) ⟨Nat.le_of_ble_eq_true rfl, Nat.le_of_ble_eq_true rfl⟩) ⟨fun a U g mk q => by obtain ⟨q0, q1, qP, qK, qD⟩ := q; exact ⟨q0, q1, qP, va_K.moved (u := U) (U := U.calling g mk a) (Vm.Alike.refl U.vm) qK, qD⟩, kx_rc2 hKc hPc (q0 := 0) rfl, fun U hU hW => ⟨rfl, by rw [hU], by rw [hU]; exact hPc, va_K.moved hW.alike hKc, hDc.weaken (fun _ _ _ _ => trivial)⟩⟩ rfl rfl hl.1 rfl (lv_room (Nat.le_of_ble_eq_true rfl)) dX4_gatherHeavyOfBoth_49 ⟨Nat.le_of_ble_eq_true rfl, Nat.le_of_ble_eq_true rfl⟩) hS (fun q _ h => hFc q h) hFc (fun u t H1 locs ht hvm w_53 hB hz1 hk1 hS => ?_)
      obtain ⟨o_54, o_55, o_56, o_57, o_58⟩ := u
      dsimp only at w_53 hB
      obtain ⟨hP1, hK1, hD1⟩ := hB
      rw [ht] at hP1
      have hK1 := va_K.moved hvm.symm hK1
      obtain ⟨hP, hD⟩ := kx_joinM (w2 := [kx_4 m_ q_row q_t t_ h0 k0 w_ z_ slots old, kx_0 q_row q_cell len, kx_a q_cell cyI 160 f, kx_2 q_t q_row q_joined q_from q_to q_size q_lossOf q_lessBy q_value q_number nodes here, kx_a q_from cyI 319 ff, kx_a q_to cyI 319 ft, kx_a q_size cyI 319 fs, kx_a q_lossOf cyI 319 fo, kx_a q_value cyI 1914 uv, kx_a q_number cyI 1914 un, kx_3 h0 a_v a_n o_45 o_46 o_47, kx_a a_v cyI 12 o_48, kx_a a_n cyI 12 o_49, kx_3 k0 kv kn o_54 o_55 o_56, kx_a kv cyI 12 o_57, kx_a kn cyI 12 o_58]) hP hD hP1 hD1 hk1 hFc [false, false, false, true, true, true, true, true, true, true, false, false, false, true, true, true] hCc rfl
      clear hP1 hD1 hK1 hk1 hz1 hFc hDc hPc hKc hCc
      generalize H1 = H at hP hS ⊢
      have w_53 : 0 ≤ o_54.toInt ∧ o_54.toInt ≤ 12 := w_53
      refine lv_aload_n hx hb dX4_gatherHeavyOfBoth_52 rfl (lv_at hl 0 rfl) ?_
      refine va_get (D := (dC, dI)) (ci := 4) (v := .ref h0) (C := RX4) (T := TX4) (N := 9) hx hb hts hi_4 hown hK hP 0 rfl rfl 3 (by decide) hf_35 (fun _ h9 => h9) rfl dX4_gatherHeavyOfBoth_53 ?_
      refine lv_aload_n hx hb dX4_gatherHeavyOfBoth_56 rfl (lv_at hl 0 rfl) ?_
      refine va_get (D := (dC, dI)) (ci := 4) (v := .ref k0) (C := RX4) (T := TX4) (N := 9) hx hb hts hi_4 hown hK hP 0 rfl rfl 4 (by decide) hf_39 (fun _ h9 => h9) rfl dX4_gatherHeavyOfBoth_57 ?_
      obtain ⟨hPc, hDc, hFc, hCc⟩ := kx_preM (wc := [kx_3 h0 a_v a_n o_45 o_46 o_47, kx_a a_v cyI 12 o_48, kx_a a_n cyI 12 o_49, kx_3 k0 kv kn o_54 o_55 o_56, kx_a kv cyI 12 o_57, kx_a kn cyI 12 o_58]) hP hD hS hA [false, false, false, false, false, false, false, false, false, false, true, true, true, true, true, true] rfl
      have hKc := hK
      refine va_callv (va_runV (As := [.ref k0]) (rest := []) ⟨hx, hb, hml, hown, hts⟩ (kx_un (c_X3_join l dC dI h0 a_v a_n cyI o_45 o_46 o_47 o_48 o_49 k0 kv kn o_54 o_55 o_56 o_57 o_58 H.size w_44.1 w_44.2 w_53.1 w_53.2)) (cwV 1 hts gX4_gatherHeavyOfBoth_X3_join rfl rfl rfl (by decide +kernel) ⟨Nat.le_of_ble_eq_true rfl, Nat.le_of_ble_eq_true rfl⟩) ⟨fun a U g mk q => by obtain ⟨q0, q1, qP, qK, qD⟩ := q; exact ⟨q0, q1, qP, va_K.moved (u := U) (U := U.calling g mk a) (Vm.Alike.refl U.vm) qK, qD⟩, kx_rc3 hKc hPc (q0 := 0) rfl, fun U hU hW => ⟨rfl, by rw [hU], by rw [hU]; exact hPc, va_K.moved hW.alike hKc, hDc.weaken (fun _ _ _ _ => trivial)⟩⟩ rfl rfl hl.1 rfl (lv_room (Nat.le_of_ble_eq_true rfl)) dX4_gatherHeavyOfBoth_60 ⟨Nat.le_of_ble_eq_true rfl, Nat.le_of_ble_eq_true rfl⟩) hS (fun q _ h => hFc q h) hFc (fun u t H1 locs ht hvm w_59 hB hz1 hk1 hS => ?_)
      obtain ⟨o_60, o_61, o_62, o_63⟩ := u
      dsimp only at w_59 hB
      obtain ⟨hP1, hK1, hD1⟩ := hB
      rw [ht] at hP1
      have hK1 := va_K.moved hvm.symm hK1
      obtain ⟨hP, hD⟩ := kx_joinM (w2 := [kx_4 m_ q_row q_t t_ h0 k0 w_ z_ slots old, kx_0 q_row q_cell len, kx_a q_cell cyI 160 f, kx_2 q_t q_row q_joined q_from q_to q_size q_lossOf q_lessBy q_value q_number nodes here, kx_a q_from cyI 319 ff, kx_a q_to cyI 319 ft, kx_a q_size cyI 319 fs, kx_a q_lossOf cyI 319 fo, kx_a q_value cyI 1914 uv, kx_a q_number cyI 1914 un, kx_3 h0 a_v a_n o_60 o_61 o_47, kx_a a_v cyI 12 o_62, kx_a a_n cyI 12 o_63, kx_3 k0 kv kn o_54 o_55 o_56, kx_a kv cyI 12 o_57, kx_a kn cyI 12 o_58]) hP hD hP1 hD1 hk1 hFc [false, false, false, false, false, false, false, false, false, false, true, true, true, true, true, true] hCc rfl
      clear hP1 hD1 hK1 hk1 hz1 hFc hDc hPc hKc hCc
      generalize H1 = H at hP hS ⊢
      have w_59 : 0 ≤ o_60.toInt ∧ o_60.toInt ≤ 12 := w_59
      refine lv_aload_n hx hb dX4_gatherHeavyOfBoth_63 rfl (lv_at hl 0 rfl) ?_
      refine va_get (D := (dC, dI)) (ci := 4) (v := .ref h0) (C := RX4) (T := TX4) (N := 9) hx hb hts hi_4 hown hK hP 0 rfl rfl 3 (by decide) hf_35 (fun _ h9 => h9) rfl dX4_gatherHeavyOfBoth_64 ?_
      refine lv_aload_n hx hb dX4_gatherHeavyOfBoth_67 rfl (lv_at hl 0 rfl) ?_
      refine va_get (D := (dC, dI)) (ci := 4) (v := .int slots) (C := RX4) (T := TX4) (N := 9) hx hb hts hi_4 hown hK hP 0 rfl rfl 7 (by decide) hf_49 (fun _ h9 => h9) rfl dX4_gatherHeavyOfBoth_68 ?_
      obtain ⟨hPc, hDc, hFc, hCc⟩ := kx_preM (wc := [kx_3 h0 a_v a_n o_60 o_61 o_47, kx_a a_v cyI 12 o_62, kx_a a_n cyI 12 o_63]) hP hD hS hA [false, false, false, false, false, false, false, false, false, false, true, true, true, false, false, false] rfl
      have hKc := hK
      refine va_callv (va_runV (As := [.int slots]) (rest := []) ⟨hx, hb, hml, hown, hts⟩ (kx_un (c_X3_cancel l dC dI h0 a_v a_n cyI o_60 o_61 o_47 o_62 o_63 slots H.size w_59.1 w_59.2)) (cwV 1 hts gX4_gatherHeavyOfBoth_X3_cancel rfl rfl rfl (by decide +kernel) ⟨Nat.le_of_ble_eq_true rfl, Nat.le_of_ble_eq_true rfl⟩) ⟨fun a U g mk q => by obtain ⟨q0, q1, qP, qK, qD⟩ := q; exact ⟨q0, q1, qP, va_K.moved (u := U) (U := U.calling g mk a) (Vm.Alike.refl U.vm) qK, qD⟩, kx_rc3 hKc hPc (q0 := 0) rfl, fun U hU hW => ⟨rfl, by rw [hU], by rw [hU]; exact hPc, va_K.moved hW.alike hKc, hDc.weaken (fun _ _ _ _ => trivial)⟩⟩ rfl rfl hl.1 rfl (lv_room (Nat.le_of_ble_eq_true rfl)) dX4_gatherHeavyOfBoth_71 ⟨Nat.le_of_ble_eq_true rfl, Nat.le_of_ble_eq_true rfl⟩) hS (fun q _ h => hFc q h) hFc (fun u t H1 locs ht hvm w_64 hB hz1 hk1 hS => ?_)
      obtain ⟨o_65, o_66, o_67, o_68, o_69⟩ := u
      dsimp only at w_64 hB
      obtain ⟨hP1, hK1, hD1⟩ := hB
      rw [ht] at hP1
      have hK1 := va_K.moved hvm.symm hK1
      obtain ⟨hP, hD⟩ := kx_joinM (w2 := [kx_4 m_ q_row q_t t_ h0 k0 w_ z_ slots old, kx_0 q_row q_cell len, kx_a q_cell cyI 160 f, kx_2 q_t q_row q_joined q_from q_to q_size q_lossOf q_lessBy q_value q_number nodes here, kx_a q_from cyI 319 ff, kx_a q_to cyI 319 ft, kx_a q_size cyI 319 fs, kx_a q_lossOf cyI 319 fo, kx_a q_value cyI 1914 uv, kx_a q_number cyI 1914 un, kx_3 h0 a_v a_n o_65 o_66 o_67, kx_a a_v cyI 12 o_68, kx_a a_n cyI 12 o_69, kx_3 k0 kv kn o_54 o_55 o_56, kx_a kv cyI 12 o_57, kx_a kn cyI 12 o_58]) hP hD hP1 hD1 hk1 hFc [false, false, false, false, false, false, false, false, false, false, true, true, true, false, false, false] hCc rfl
      clear hP1 hD1 hK1 hk1 hz1 hFc hDc hPc hKc hCc
      generalize H1 = H at hP hS ⊢
      have w_64 : 0 ≤ o_65.toInt ∧ o_65.toInt ≤ o_60.toInt := w_64
      refine lv_iconst (v := 0) hx hb dX4_gatherHeavyOfBoth_74 (by decide) ?_
      refine lv_istore (lv' := [(8, .int 0), (0, .ref m_), (1, .ref q_t), (2, .int p0), (3, .int p1), (4, .int p2), (5, .int p3), (6, .int p4), (7, .int p5)]) hx hb dX4_gatherHeavyOfBoth_75 hl (by decide) rfl (fun ls hl => ?_)
      have LP2 : ∀ (n : Nat) (i : Int32) (wn : Nat → Int32), (0 ≤ i.toInt) → (o_65.toInt - i.toInt).toNat < n → ∀ (H : Heap) (locs : List Loc), va_P (dC, dI) vwCl [kx_4 m_ q_row q_t t_ h0 k0 w_ z_ slots old, kx_0 q_row q_cell len, kx_a q_cell cyI 160 f, kx_2 q_t q_row q_joined q_from q_to q_size q_lossOf q_lessBy q_value q_number nodes here, kx_a q_from cyI 319 ff, kx_a q_to cyI 319 ft, kx_a q_size cyI 319 fs, kx_a q_lossOf cyI 319 fo, kx_a q_value cyI 1914 uv, kx_a q_number cyI 1914 un, kx_3 h0 a_v a_n o_65 o_66 o_67, kx_a a_v cyI 12 o_68, kx_a a_n cyI 12 wn, kx_3 k0 kv kn o_54 o_55 o_56, kx_a kv cyI 12 o_57, kx_a kn cyI 12 o_58] H → va_D A [kx_4 m_ q_row q_t t_ h0 k0 w_ z_ slots old, kx_0 q_row q_cell len, kx_a q_cell cyI 160 f, kx_2 q_t q_row q_joined q_from q_to q_size q_lossOf q_lessBy q_value q_number nodes here, kx_a q_from cyI 319 ff, kx_a q_to cyI 319 ft, kx_a q_size cyI 319 fs, kx_a q_lossOf cyI 319 fo, kx_a q_value cyI 1914 uv, kx_a q_number cyI 1914 un, kx_3 h0 a_v a_n o_65 o_66 o_67, kx_a a_v cyI 12 o_68, kx_a a_n cyI 12 wn, kx_3 k0 kv kn o_54 o_55 o_56, kx_a kv cyI 12 o_57, kx_a kn cyI 12 o_58] → va_S A s.heap H locs → ∀ (ls : Array Slot), lv_has ls 10 [(8, .int i), (0, .ref m_), (1, .ref q_t), (2, .int p0), (3, .int p1), (4, .int p2), (5, .int p3), (6, .int p4), (7, .int p5)] → W p l e (headSpec wsX4_gatherHeavyOfBoth ({ frames := 4, cells := 0, slots := 0, locals := 180 })).room s m ([.ref m_, .ref q_t, .int p0, .int p1, .int p2, .int p3, .int p4, .int p5] : List Value).toArray below meth c H locs 0 0 (MQ below (va_Qv (fun u : Int32 × Int32 × Int32 × (Nat → Int32) × (Nat → Int32) × Int32 × Int32 × Int32 × (Nat → Int32) × (Nat → Int32) => 0 ≤ u.1.toInt ∧ u.1.toInt ≤ 12) (fun (u : Int32 × Int32 × Int32 × (Nat → Int32) × (Nat → Int32) × Int32 × Int32 × Int32 × (Nat → Int32) × (Nat → Int32)) (t : State) => va_P (dC, dI) vwCl [kx_4 m_ q_row q_t t_ h0 k0 w_ z_ slots old, kx_0 q_row q_cell len, kx_a q_cell cyI 160 f, kx_2 q_t q_row q_joined q_from q_to q_size q_lossOf q_lessBy q_value q_number nodes here, kx_a q_from cyI 319 ff, kx_a q_to cyI 319 ft, kx_a q_size cyI 319 fs, kx_a q_lossOf cyI 319 fo, kx_a q_value cyI 1914 uv, kx_a q_number cyI 1914 un, kx_3 h0 a_v a_n u.1 u.2.1 u.2.2.1, kx_a a_v cyI 12 u.2.2.2.1, kx_a a_n cyI 12 u.2.2.2.2.1, kx_3 k0 kv kn u.2.2.2.2.2.1 u.2.2.2.2.2.2.1 u.2.2.2.2.2.2.2.1, kx_a kv cyI 12 u.2.2.2.2.2.2.2.2.1, kx_a kn cyI 12 u.2.2.2.2.2.2.2.2.2] t.heap ∧ va_K (dC, dI) vwCl [(cyI, .int)] t ∧ va_D A [kx_4 m_ q_row q_t t_ h0 k0 w_ z_ slots old, kx_0 q_row q_cell len, kx_a q_cell cyI 160 f, kx_2 q_t q_row q_joined q_from q_to q_size q_lossOf q_lessBy q_value q_number nodes here, kx_a q_from cyI 319 ff, kx_a q_to cyI 319 ft, kx_a q_size cyI 319 fs, kx_a q_lossOf cyI 319 fo, kx_a q_value cyI 1914 uv, kx_a q_number cyI 1914 un, kx_3 h0 a_v a_n u.1 u.2.1 u.2.2.1, kx_a a_v cyI 12 u.2.2.2.1, kx_a a_n cyI 12 u.2.2.2.2.1, kx_3 k0 kv kn u.2.2.2.2.2.1 u.2.2.2.2.2.2.1 u.2.2.2.2.2.2.2.1, kx_a kv cyI 12 u.2.2.2.2.2.2.2.2.1, kx_a kn cyI 12 u.2.2.2.2.2.2.2.2.2]) A) ([.ref m_, .ref q_t, .int p0, .int p1, .int p2, .int p3, .int p4, .int p5] : List Value).toArray s 0 0 A) (F0 m 77 ls []) := by
        intro n
        induction n with
        | zero => intro i wn LP2_h0 hn; exact absurd hn (Nat.not_lt_zero _)
        | succ n ih2 =>
          intro i wn LP2_h0 hn2 H locs hP hD hS ls hl
          refine lv_iload hx hb dX4_gatherHeavyOfBoth_77 (lv_at hl 0 rfl) ?_
          refine lv_aload_n hx hb dX4_gatherHeavyOfBoth_79 rfl (lv_at hl 1 rfl) ?_
          refine va_get (D := (dC, dI)) (ci := 4) (v := .ref h0) (C := RX4) (T := TX4) (N := 9) hx hb hts hi_4 hown hK hP 0 rfl rfl 3 (by decide) hf_35 (fun _ h9 => h9) rfl dX4_gatherHeavyOfBoth_80 ?_
          refine va_get (D := (dC, dI)) (ci := 3) (v := .int o_65) (C := RX3) (T := TX3) (N := 5) hx hb hts hi_3 hown hK hP 10 rfl rfl 2 (by decide) hf_174 (fun _ h9 => h9) rfl dX4_gatherHeavyOfBoth_83 ?_
          refine lv_icmp_ge (tgt := 142) hx hb dX4_gatherHeavyOfBoth_86 (by decide) (fun c_70 => ?_) (fun c_70 => ?_)
          · have i_70 : o_65.toInt ≤ i.toInt := kc_le c_70
            refine lv_aload_n hx hb dX4_gatherHeavyOfBoth_142 rfl (lv_at hl 1 rfl) ?_
            refine va_get (D := (dC, dI)) (ci := 4) (v := .ref h0) (C := RX4) (T := TX4) (N := 9) hx hb hts hi_4 hown hK hP 0 rfl rfl 3 (by decide) hf_35 (fun _ h9 => h9) rfl dX4_gatherHeavyOfBoth_143 ?_
            refine lv_iload_n hx hb dX4_gatherHeavyOfBoth_146 rfl (lv_at hl 4 rfl) ?_
            refine lv_iload_n hx hb dX4_gatherHeavyOfBoth_147 rfl (lv_at hl 3 rfl) ?_
            refine lv_isub hx hb dX4_gatherHeavyOfBoth_148 ?_
            refine lv_topi (fun y_71 ey_71 => ?_)
            refine lv_iload hx hb dX4_gatherHeavyOfBoth_149 (lv_at hl 6 rfl) ?_
            refine lv_iadd hx hb dX4_gatherHeavyOfBoth_151 ?_
            refine lv_topi (fun y_72 ey_72 => ?_)
            refine lv_iload hx hb dX4_gatherHeavyOfBoth_152 (lv_at hl 5 rfl) ?_
            refine lv_isub hx hb dX4_gatherHeavyOfBoth_154 ?_
            refine lv_topi (fun y_73 ey_73 => ?_)
            refine lv_iload hx hb dX4_gatherHeavyOfBoth_155 (lv_at hl 7 rfl) ?_
            refine lv_iload hx hb dX4_gatherHeavyOfBoth_157 (lv_at hl 8 rfl) ?_
            obtain ⟨hPc, hDc, hFc, hCc⟩ := kx_preM (wc := [kx_3 h0 a_v a_n o_65 o_66 o_67, kx_a a_v cyI 12 o_68, kx_a a_n cyI 12 wn]) hP hD hS hA [false, false, false, false, false, false, false, false, false, false, true, true, true, false, false, false] rfl
            have hKc := hK
            refine va_callv (va_runV (As := [.int y_73, .int p4, .int p5]) (rest := []) ⟨hx, hb, hml, hown, hts⟩ (c_X3_keepHeavy l dC dI h0 a_v a_n cyI o_65 o_66 o_67 o_68 wn y_73 p4 p5 H.size w_64.1 (om_129 w_59.2 w_64.2)) (cwV 3 hts gX4_gatherHeavyOfBoth_X3_keepHeavy rfl rfl rfl (by decide +kernel) ⟨Nat.le_of_ble_eq_true rfl, Nat.le_of_ble_eq_true rfl⟩) ⟨fun a U g mk q => by obtain ⟨q0, q1, qP, qK, qD, qn0⟩ := q; exact ⟨q0, q1, qP, va_K.moved (u := U) (U := U.calling g mk a) (Vm.Alike.refl U.vm) qK, qD, va_Nw.same (u := U) (U := U.calling g mk a) rfl rfl qn0⟩, kx_rc3 hKc hPc (q0 := 0) rfl, fun U hU hW => ⟨rfl, by rw [hU], by rw [hU]; exact hPc, va_K.moved hW.alike hKc, hDc.weaken (fun _ _ _ _ => trivial), va_Nw.warmM hW hN0⟩⟩ rfl rfl hl.1 rfl (lv_room (Nat.le_of_ble_eq_true rfl)) dX4_gatherHeavyOfBoth_159 ⟨Nat.le_of_ble_eq_true rfl, Nat.le_of_ble_eq_true rfl⟩) hS (fun q _ h => hFc q h) hFc (fun u t H1 locs ht hvm w_74 hB hz1 hk1 hS => ?_)
            obtain ⟨o_75, o_76, o_77⟩ := u
            dsimp only at w_74 hB
            obtain ⟨hP1, hK1, hD1⟩ := hB
            rw [ht] at hP1
            have hK1 := va_K.moved hvm.symm hK1
            obtain ⟨hP, hD⟩ := kx_joinM (w2 := [kx_4 m_ q_row q_t t_ h0 k0 w_ z_ slots old, kx_0 q_row q_cell len, kx_a q_cell cyI 160 f, kx_2 q_t q_row q_joined q_from q_to q_size q_lossOf q_lessBy q_value q_number nodes here, kx_a q_from cyI 319 ff, kx_a q_to cyI 319 ft, kx_a q_size cyI 319 fs, kx_a q_lossOf cyI 319 fo, kx_a q_value cyI 1914 uv, kx_a q_number cyI 1914 un, kx_3 h0 a_v a_n o_75 o_66 o_67, kx_a a_v cyI 12 o_76, kx_a a_n cyI 12 o_77, kx_3 k0 kv kn o_54 o_55 o_56, kx_a kv cyI 12 o_57, kx_a kn cyI 12 o_58]) hP hD hP1 hD1 hk1 hFc [false, false, false, false, false, false, false, false, false, false, true, true, true, false, false, false] hCc rfl
            clear hP1 hD1 hK1 hk1 hz1 hFc hDc hPc hKc hCc
            generalize H1 = H at hP hS ⊢
            have w_74 : 0 ≤ o_75.toInt ∧ o_75.toInt ≤ o_65.toInt := w_74
            have hP9 := hP
            have hD9 := hD
            have hK9 := hK
            exact W.vret hx hb hr (hlocks := hlocks) (fun t ht hW => ⟨⟨(o_75, o_66, o_67, o_76, o_77, o_54, o_55, o_56, o_57, o_58), rfl, (by (try dsimp only); omega), by rw [ht]; exact hP9, va_K.moved hW.alike hK9, hD9⟩, hS.F ht⟩) hS.2.2 dX4_gatherHeavyOfBoth_162
          · have i_70 : i.toInt < o_65.toInt := kc_nle c_70
            refine lv_aload_n hx hb dX4_gatherHeavyOfBoth_89 rfl (lv_at hl 1 rfl) ?_
            refine va_get (D := (dC, dI)) (ci := 4) (v := .ref h0) (C := RX4) (T := TX4) (N := 9) hx hb hts hi_4 hown hK hP 0 rfl rfl 3 (by decide) hf_35 (fun _ h9 => h9) rfl dX4_gatherHeavyOfBoth_90 ?_
            refine va_get (D := (dC, dI)) (ci := 3) (v := .ref a_v) (C := RX3) (T := TX3) (N := 5) hx hb hts hi_3 hown hK hP 10 rfl rfl 0 (by decide) hf_133 (fun _ h9 => h9) rfl dX4_gatherHeavyOfBoth_93 ?_
            refine lv_iload hx hb dX4_gatherHeavyOfBoth_96 (lv_at hl 0 rfl) ?_
            refine va_iald hx hb hK hP 11 0 rfl rfl (ki_in (om_10 LP2_h0) (om_206 w_59.2 w_64.2 i_70)) dX4_gatherHeavyOfBoth_98 ?_
            refine lv_topi (fun y_78 ey_78 => ?_)
            have j_78 : y_78.toInt = (o_68 i.toNatClampNeg).toInt := congrArg Int32.toInt ey_78
            refine lv_istore (lv' := [(9, .int y_78), (8, .int i), (0, .ref m_), (1, .ref q_t), (2, .int p0), (3, .int p1), (4, .int p2), (5, .int p3), (6, .int p4), (7, .int p5)]) hx hb dX4_gatherHeavyOfBoth_99 hl (by decide) rfl (fun ls hl => ?_)
            refine lv_aload_n hx hb dX4_gatherHeavyOfBoth_101 rfl (lv_at hl 2 rfl) ?_
            refine va_get (D := (dC, dI)) (ci := 4) (v := .ref h0) (C := RX4) (T := TX4) (N := 9) hx hb hts hi_4 hown hK hP 0 rfl rfl 3 (by decide) hf_35 (fun _ h9 => h9) rfl dX4_gatherHeavyOfBoth_102 ?_
            refine va_get (D := (dC, dI)) (ci := 3) (v := .ref a_n) (C := RX3) (T := TX3) (N := 5) hx hb hts hi_3 hown hK hP 10 rfl rfl 1 (by decide) hf_136 (fun _ h9 => h9) rfl dX4_gatherHeavyOfBoth_105 ?_
            refine lv_iload hx hb dX4_gatherHeavyOfBoth_108 (lv_at hl 1 rfl) ?_
            refine lv_aload_n hx hb dX4_gatherHeavyOfBoth_110 rfl (lv_at hl 2 rfl) ?_
            refine va_get (D := (dC, dI)) (ci := 4) (v := .ref q_row) (C := RX4) (T := TX4) (N := 9) hx hb hts hi_4 hown hK hP 0 rfl rfl 0 (by decide) hf_12 (fun _ h9 => h9) rfl dX4_gatherHeavyOfBoth_111 ?_
            refine lv_iload hx hb dX4_gatherHeavyOfBoth_114 (lv_at hl 0 rfl) ?_
            refine lv_iload_n hx hb dX4_gatherHeavyOfBoth_116 rfl (lv_at hl 4 rfl) ?_
            refine lv_iload_n hx hb dX4_gatherHeavyOfBoth_117 rfl (lv_at hl 5 rfl) ?_
            have hPc := hP.sub (ws' := [kx_0 q_row q_cell len, kx_a q_cell cyI 160 f]) [1, 2] rfl
            have hKc := hK
            refine vp_callSi (W.runV (As := [.int y_78, .int p0, .int p1]) (rest := [.int i, .ref a_n]) ⟨hx, hb, hml, hown, hts⟩ (c_X0_oftenIn l dC dI q_row q_cell cyI len f y_78 p0 p1 d0 d1) (cwV 3 hts gX4_gatherHeavyOfBoth_X0_oftenIn rfl rfl rfl (by decide +kernel) ⟨Nat.le_of_ble_eq_true rfl, Nat.le_of_ble_eq_true rfl⟩) ⟨fun a U g mk q => by obtain ⟨q0, qP, qK⟩ := q; exact ⟨q0, qP, va_K.moved (u := U) (U := U.calling g mk a) (Vm.Alike.refl U.vm) qK⟩, kx_rc0 hKc hPc (q0 := 0) rfl, fun U hU hW => ⟨rfl, by rw [hU]; exact hPc, va_K.moved hW.alike hKc⟩⟩ rfl rfl hl.1 rfl (lv_room (Nat.le_of_ble_eq_true rfl)) dX4_gatherHeavyOfBoth_118 ⟨Nat.le_of_ble_eq_true rfl, Nat.le_of_ble_eq_true rfl⟩) (fun r_79 w_79 => ?_)
            have w_79 : r_79.toInt = (cnt f y_78 p0.toNatClampNeg (p1.toInt - p0.toInt).toNat : Int) := w_79
            refine lv_aload_n hx hb dX4_gatherHeavyOfBoth_121 rfl (lv_at hl 2 rfl) ?_
            refine va_get (D := (dC, dI)) (ci := 4) (v := .ref q_row) (C := RX4) (T := TX4) (N := 9) hx hb hts hi_4 hown hK hP 0 rfl rfl 0 (by decide) hf_12 (fun _ h9 => h9) rfl dX4_gatherHeavyOfBoth_122 ?_
            refine lv_iload hx hb dX4_gatherHeavyOfBoth_125 (lv_at hl 0 rfl) ?_
            refine lv_iload hx hb dX4_gatherHeavyOfBoth_127 (lv_at hl 6 rfl) ?_
            refine lv_iload hx hb dX4_gatherHeavyOfBoth_129 (lv_at hl 7 rfl) ?_
            have hPc := hP.sub (ws' := [kx_0 q_row q_cell len, kx_a q_cell cyI 160 f]) [1, 2] rfl
            have hKc := hK
            refine vp_callSi (W.runV (As := [.int y_78, .int p2, .int p3]) (rest := [.int r_79, .int i, .ref a_n]) ⟨hx, hb, hml, hown, hts⟩ (c_X0_oftenIn l dC dI q_row q_cell cyI len f y_78 p2 p3 d2 d3) (cwV 3 hts gX4_gatherHeavyOfBoth_X0_oftenIn rfl rfl rfl (by decide +kernel) ⟨Nat.le_of_ble_eq_true rfl, Nat.le_of_ble_eq_true rfl⟩) ⟨fun a U g mk q => by obtain ⟨q0, qP, qK⟩ := q; exact ⟨q0, qP, va_K.moved (u := U) (U := U.calling g mk a) (Vm.Alike.refl U.vm) qK⟩, kx_rc0 hKc hPc (q0 := 0) rfl, fun U hU hW => ⟨rfl, by rw [hU]; exact hPc, va_K.moved hW.alike hKc⟩⟩ rfl rfl hl.1 rfl (lv_room (Nat.le_of_ble_eq_true rfl)) dX4_gatherHeavyOfBoth_131 ⟨Nat.le_of_ble_eq_true rfl, Nat.le_of_ble_eq_true rfl⟩) (fun r_80 w_80 => ?_)
            have w_80 : r_80.toInt = (cnt f y_78 p2.toNatClampNeg (p3.toInt - p2.toInt).toNat : Int) := w_80
            refine lv_iadd hx hb dX4_gatherHeavyOfBoth_134 ?_
            refine lv_topi (fun y_81 ey_81 => ?_)
            refine va_iast hx hb hK hP hD hS 12 0 rfl rfl (ki_in (om_10 LP2_h0) (om_206 w_59.2 w_64.2 i_70)) dX4_gatherHeavyOfBoth_135 (fun H locs hP hD hS => ?_)
            obtain ⟨hP, hD⟩ := kx_re (w2 := [kx_4 m_ q_row q_t t_ h0 k0 w_ z_ slots old, kx_0 q_row q_cell len, kx_a q_cell cyI 160 f, kx_2 q_t q_row q_joined q_from q_to q_size q_lossOf q_lessBy q_value q_number nodes here, kx_a q_from cyI 319 ff, kx_a q_to cyI 319 ft, kx_a q_size cyI 319 fs, kx_a q_lossOf cyI 319 fo, kx_a q_value cyI 1914 uv, kx_a q_number cyI 1914 un, kx_3 h0 a_v a_n o_65 o_66 o_67, kx_a a_v cyI 12 o_68, kx_a a_n cyI 12 (upd wn i.toNatClampNeg y_81), kx_3 k0 kv kn o_54 o_55 o_56, kx_a kv cyI 12 o_57, kx_a kn cyI 12 o_58]) hP hD rfl
            obtain ⟨x_82, ex_82⟩ : ∃ y : Int32, y = i + 1 := ⟨_, rfl⟩
            have i_82 : x_82.toInt = i.toInt + 1 := ki_add ex_82 rfl rfl (om_13 LP2_h0) (om_207 w_59.2 w_64.2 i_70)
            refine lv_iinc (v := x_82) (lv' := [(8, .int x_82), (9, .int y_78), (0, .ref m_), (1, .ref q_t), (2, .int p0), (3, .int p1), (4, .int p2), (5, .int p3), (6, .int p4), (7, .int p5)]) hx hb dX4_gatherHeavyOfBoth_136 hl (k := 1) rfl (by rw [ex_82]; rfl) (by decide) rfl (fun ls hl => ?_)
            refine lv_goto (tgt := 77) hx hb dX4_gatherHeavyOfBoth_139 (by decide) ?_
            exact ih2 x_82 (upd wn i.toNatClampNeg y_81) (om_34 LP2_h0 i_82) (om_mu hn2 (om_5 i_82) (om_6 i_70)) _ _ hP hD hS ls (lv_sub hl [0, 2, 3, 4, 5, 6, 7, 8, 9] rfl)
      have k_83 : (0 : Int32).toInt = 0 := rfl
      exact LP2 ((o_65.toInt - 0 : Int).toNat + 1) 0 o_69 om_35 (Nat.lt_succ_self _) _ _ hP hD hS ls (lv_sub hl [0, 1, 2, 3, 4, 5, 6, 7, 8] rfl)

set_option maxHeartbeats 4000000 in
set_option maxRecDepth 100000 in
theorem c_X4_both (l : Launch) (dC : Nat → ClassId) (dI : Nat → Nat → Nat) (m_ : Nat) (q_row : Nat) (q_t : Nat) (t_ : Nat) (h0 : Nat) (k0 : Nat) (w_ : Nat) (z_ : Nat) (slots : Int32) (old : Int32) (q_joined : Nat) (q_from : Nat) (q_to : Nat) (q_size : Nat) (q_lossOf : Nat) (q_lessBy : Nat) (q_value : Nat) (q_number : Nat) (nodes : Int32) (here : Int32) (q_cell : Nat) (cyI : ClassId) (len : Int32) (f : Nat → Int32) (ff : Nat → Int32) (ft : Nat → Int32) (fs : Nat → Int32) (fo : Nat → Int32) (uv : Nat → Int32) (un : Nat → Int32) (fe : Nat → Int32) (j_v : Nat) (j_n : Nat) (js : Int32) (jl : Int32) (je : Int32) (jv : Nat → Int32) (jn : Nat → Int32) (a_v : Nat) (a_n : Nat) (vs : Int32) (lo : Int32) (le : Int32) (fv : Nat → Int32) (fn : Nat → Int32) (kv : Nat) (kn : Nat) (sb : Int32) (lb : Int32) (eb : Int32) (gb : Nat → Int32) (nb : Nat → Int32) (p0 : Int32) (p1 : Int32) (p2 : Int32) (p3 : Int32) (p4 : Int32) (p5 : Int32) (sz : Nat) (a0 : 0 ≤ len.toInt) (a1 : len.toInt ≤ 160) (s0 : sixes fs) (l0 : laidP old ff ft nodes len) : Met l yX4_both wsX4_both ({ frames := 6, cells := 0, slots := 0, locals := 270 }) (va_Pc [.ref m_, .int p0, .int p1, .int p2, .int p3, .int p4, .int p5] (fun U => U.heap.size = sz ∧ va_P (dC, dI) vwCl [kx_4 m_ q_row q_t t_ h0 k0 w_ z_ slots old, kx_2 q_t q_row q_joined q_from q_to q_size q_lossOf q_lessBy q_value q_number nodes here, kx_0 q_row q_cell len, kx_a q_cell cyI 160 f, kx_a q_from cyI 319 ff, kx_a q_to cyI 319 ft, kx_a q_size cyI 319 fs, kx_a q_lossOf cyI 319 fo, kx_a q_lessBy cyI 319 fe, kx_a q_value cyI 1914 uv, kx_a q_number cyI 1914 un, kx_3 q_joined j_v j_n js jl je, kx_a j_v cyI 12 jv, kx_a j_n cyI 12 jn, kx_3 h0 a_v a_n vs lo le, kx_a a_v cyI 12 fv, kx_a a_n cyI 12 fn, kx_3 k0 kv kn sb lb eb, kx_a kv cyI 12 gb, kx_a kn cyI 12 nb] U.heap ∧ va_K (dC, dI) vwCl [(cyI, .int)] U ∧ va_D (fun _ => True) [kx_4 m_ q_row q_t t_ h0 k0 w_ z_ slots old, kx_2 q_t q_row q_joined q_from q_to q_size q_lossOf q_lessBy q_value q_number nodes here, kx_0 q_row q_cell len, kx_a q_cell cyI 160 f, kx_a q_from cyI 319 ff, kx_a q_to cyI 319 ft, kx_a q_size cyI 319 fs, kx_a q_lossOf cyI 319 fo, kx_a q_lessBy cyI 319 fe, kx_a q_value cyI 1914 uv, kx_a q_number cyI 1914 un, kx_3 q_joined j_v j_n js jl je, kx_a j_v cyI 12 jv, kx_a j_n cyI 12 jn, kx_3 h0 a_v a_n vs lo le, kx_a a_v cyI 12 fv, kx_a a_n cyI 12 fn, kx_3 k0 kv kn sb lb eb, kx_a kv cyI 12 gb, kx_a kn cyI 12 nb] ∧ va_Nw (.methodLinkNest RX3 42 yX4_isHeavy RX4) U)) (va_Qi (fun (r : Int32) (u : Int32 × Int32 × Int32 × (Nat → Int32) × (Nat → Int32) × (Nat → Int32) × (Nat → Int32) × (Nat → Int32) × (Nat → Int32) × (Nat → Int32) × Int32 × Int32 × Int32 × (Nat → Int32) × (Nat → Int32) × Int32 × Int32 × Int32 × (Nat → Int32) × (Nat → Int32) × Int32 × Int32 × Int32 × (Nat → Int32) × (Nat → Int32)) => laidP u.1 u.2.2.2.1 u.2.2.2.2.1 u.2.1 len ∧ sixes u.2.2.2.2.2.1) (fun (u : Int32 × Int32 × Int32 × (Nat → Int32) × (Nat → Int32) × (Nat → Int32) × (Nat → Int32) × (Nat → Int32) × (Nat → Int32) × (Nat → Int32) × Int32 × Int32 × Int32 × (Nat → Int32) × (Nat → Int32) × Int32 × Int32 × Int32 × (Nat → Int32) × (Nat → Int32) × Int32 × Int32 × Int32 × (Nat → Int32) × (Nat → Int32)) (t : State) => va_P (dC, dI) vwCl [kx_4 m_ q_row q_t t_ h0 k0 w_ z_ slots u.1, kx_2 q_t q_row q_joined q_from q_to q_size q_lossOf q_lessBy q_value q_number u.2.1 u.2.2.1, kx_0 q_row q_cell len, kx_a q_cell cyI 160 f, kx_a q_from cyI 319 u.2.2.2.1, kx_a q_to cyI 319 u.2.2.2.2.1, kx_a q_size cyI 319 u.2.2.2.2.2.1, kx_a q_lossOf cyI 319 u.2.2.2.2.2.2.1, kx_a q_lessBy cyI 319 u.2.2.2.2.2.2.2.1, kx_a q_value cyI 1914 u.2.2.2.2.2.2.2.2.1, kx_a q_number cyI 1914 u.2.2.2.2.2.2.2.2.2.1, kx_3 q_joined j_v j_n u.2.2.2.2.2.2.2.2.2.2.1 u.2.2.2.2.2.2.2.2.2.2.2.1 u.2.2.2.2.2.2.2.2.2.2.2.2.1, kx_a j_v cyI 12 u.2.2.2.2.2.2.2.2.2.2.2.2.2.1, kx_a j_n cyI 12 u.2.2.2.2.2.2.2.2.2.2.2.2.2.2.1, kx_3 h0 a_v a_n u.2.2.2.2.2.2.2.2.2.2.2.2.2.2.2.1 u.2.2.2.2.2.2.2.2.2.2.2.2.2.2.2.2.1 u.2.2.2.2.2.2.2.2.2.2.2.2.2.2.2.2.2.1, kx_a a_v cyI 12 u.2.2.2.2.2.2.2.2.2.2.2.2.2.2.2.2.2.2.1, kx_a a_n cyI 12 u.2.2.2.2.2.2.2.2.2.2.2.2.2.2.2.2.2.2.2.1, kx_3 k0 kv kn u.2.2.2.2.2.2.2.2.2.2.2.2.2.2.2.2.2.2.2.2.1 u.2.2.2.2.2.2.2.2.2.2.2.2.2.2.2.2.2.2.2.2.2.1 u.2.2.2.2.2.2.2.2.2.2.2.2.2.2.2.2.2.2.2.2.2.2.1, kx_a kv cyI 12 u.2.2.2.2.2.2.2.2.2.2.2.2.2.2.2.2.2.2.2.2.2.2.2.1, kx_a kn cyI 12 u.2.2.2.2.2.2.2.2.2.2.2.2.2.2.2.2.2.2.2.2.2.2.2.2] t.heap ∧ va_K (dC, dI) vwCl [(cyI, .int)] t ∧ va_D (va_A [kx_4 m_ q_row q_t t_ h0 k0 w_ z_ slots old, kx_2 q_t q_row q_joined q_from q_to q_size q_lossOf q_lessBy q_value q_number nodes here, kx_0 q_row q_cell len, kx_a q_cell cyI 160 f, kx_a q_from cyI 319 ff, kx_a q_to cyI 319 ft, kx_a q_size cyI 319 fs, kx_a q_lossOf cyI 319 fo, kx_a q_lessBy cyI 319 fe, kx_a q_value cyI 1914 uv, kx_a q_number cyI 1914 un, kx_3 q_joined j_v j_n js jl je, kx_a j_v cyI 12 jv, kx_a j_n cyI 12 jn, kx_3 h0 a_v a_n vs lo le, kx_a a_v cyI 12 fv, kx_a a_n cyI 12 fn, kx_3 k0 kv kn sb lb eb, kx_a kv cyI 12 gb, kx_a kn cyI 12 nb] sz) [kx_4 m_ q_row q_t t_ h0 k0 w_ z_ slots u.1, kx_2 q_t q_row q_joined q_from q_to q_size q_lossOf q_lessBy q_value q_number u.2.1 u.2.2.1, kx_0 q_row q_cell len, kx_a q_cell cyI 160 f, kx_a q_from cyI 319 u.2.2.2.1, kx_a q_to cyI 319 u.2.2.2.2.1, kx_a q_size cyI 319 u.2.2.2.2.2.1, kx_a q_lossOf cyI 319 u.2.2.2.2.2.2.1, kx_a q_lessBy cyI 319 u.2.2.2.2.2.2.2.1, kx_a q_value cyI 1914 u.2.2.2.2.2.2.2.2.1, kx_a q_number cyI 1914 u.2.2.2.2.2.2.2.2.2.1, kx_3 q_joined j_v j_n u.2.2.2.2.2.2.2.2.2.2.1 u.2.2.2.2.2.2.2.2.2.2.2.1 u.2.2.2.2.2.2.2.2.2.2.2.2.1, kx_a j_v cyI 12 u.2.2.2.2.2.2.2.2.2.2.2.2.2.1, kx_a j_n cyI 12 u.2.2.2.2.2.2.2.2.2.2.2.2.2.2.1, kx_3 h0 a_v a_n u.2.2.2.2.2.2.2.2.2.2.2.2.2.2.2.1 u.2.2.2.2.2.2.2.2.2.2.2.2.2.2.2.2.1 u.2.2.2.2.2.2.2.2.2.2.2.2.2.2.2.2.2.1, kx_a a_v cyI 12 u.2.2.2.2.2.2.2.2.2.2.2.2.2.2.2.2.2.2.1, kx_a a_n cyI 12 u.2.2.2.2.2.2.2.2.2.2.2.2.2.2.2.2.2.2.2.1, kx_3 k0 kv kn u.2.2.2.2.2.2.2.2.2.2.2.2.2.2.2.2.2.2.2.2.1 u.2.2.2.2.2.2.2.2.2.2.2.2.2.2.2.2.2.2.2.2.2.1 u.2.2.2.2.2.2.2.2.2.2.2.2.2.2.2.2.2.2.2.2.2.2.1, kx_a kv cyI 12 u.2.2.2.2.2.2.2.2.2.2.2.2.2.2.2.2.2.2.2.2.2.2.2.1, kx_a kn cyI 12 u.2.2.2.2.2.2.2.2.2.2.2.2.2.2.2.2.2.2.2.2.2.2.2.2]) (va_A [kx_4 m_ q_row q_t t_ h0 k0 w_ z_ slots old, kx_2 q_t q_row q_joined q_from q_to q_size q_lossOf q_lessBy q_value q_number nodes here, kx_0 q_row q_cell len, kx_a q_cell cyI 160 f, kx_a q_from cyI 319 ff, kx_a q_to cyI 319 ft, kx_a q_size cyI 319 fs, kx_a q_lossOf cyI 319 fo, kx_a q_lessBy cyI 319 fe, kx_a q_value cyI 1914 uv, kx_a q_number cyI 1914 un, kx_3 q_joined j_v j_n js jl je, kx_a j_v cyI 12 jv, kx_a j_n cyI 12 jn, kx_3 h0 a_v a_n vs lo le, kx_a a_v cyI 12 fv, kx_a a_n cyI 12 fn, kx_3 k0 kv kn sb lb eb, kx_a kv cyI 12 gb, kx_a kn cyI 12 nb] sz)) 0 0 (va_A [kx_4 m_ q_row q_t t_ h0 k0 w_ z_ slots old, kx_2 q_t q_row q_joined q_from q_to q_size q_lossOf q_lessBy q_value q_number nodes here, kx_0 q_row q_cell len, kx_a q_cell cyI 160 f, kx_a q_from cyI 319 ff, kx_a q_to cyI 319 ft, kx_a q_size cyI 319 fs, kx_a q_lossOf cyI 319 fo, kx_a q_lessBy cyI 319 fe, kx_a q_value cyI 1914 uv, kx_a q_number cyI 1914 un, kx_3 q_joined j_v j_n js jl je, kx_a j_v cyI 12 jv, kx_a j_n cyI 12 jn, kx_3 h0 a_v a_n vs lo le, kx_a a_v cyI 12 fv, kx_a a_n cyI 12 fn, kx_3 k0 kv kn sb lb eb, kx_a kv cyI 12 gb, kx_a kn cyI 12 nb] sz) := by
  refine Met.ofW (cc := cX4_both) (maxL := 8) (ret := (some .int)) (by decide) rfl ?_
  intro p e s m args below meth c s₁ B hml hv
  obtain ⟨rfl, hsz, hP, hK, hD0, hN0⟩ := hv
  have hx := B.exec
  have hb := B.bytes
  have hr := B.returns
  have hts := atoms_spec (ws := wsX4_both) B.pre
  have hown : s.vm.findClass RX4 = some m.cls := findClass_of_methodNamed B.named
  have hlocks := B.notSynchronized
  subst hsz
  have hD := hD0.self (sz := s.heap.size)
  generalize hAe : va_A [kx_4 m_ q_row q_t t_ h0 k0 w_ z_ slots old, kx_2 q_t q_row q_joined q_from q_to q_size q_lossOf q_lessBy q_value q_number nodes here, kx_0 q_row q_cell len, kx_a q_cell cyI 160 f, kx_a q_from cyI 319 ff, kx_a q_to cyI 319 ft, kx_a q_size cyI 319 fs, kx_a q_lossOf cyI 319 fo, kx_a q_lessBy cyI 319 fe, kx_a q_value cyI 1914 uv, kx_a q_number cyI 1914 un, kx_3 q_joined j_v j_n js jl je, kx_a j_v cyI 12 jv, kx_a j_n cyI 12 jn, kx_3 h0 a_v a_n vs lo le, kx_a a_v cyI 12 fv, kx_a a_n cyI 12 fn, kx_3 k0 kv kn sb lb eb, kx_a kv cyI 12 gb, kx_a kn cyI 12 nb] s.heap.size = A at hD ⊢
  have hA : ∀ q : Nat, s.heap.size ≤ q → A q := fun q h => by rw [← hAe]; exact Or.inr h
  have hS : va_S A s.heap s.heap [] := va_S.rf
  have hP : va_P (dC, dI) vwCl [kx_4 m_ q_row q_t t_ h0 k0 w_ z_ slots old, kx_2 q_t q_row q_joined q_from q_to q_size q_lossOf q_lessBy q_value q_number nodes here, kx_0 q_row q_cell len, kx_a q_cell cyI 160 f, kx_a q_from cyI 319 ff, kx_a q_to cyI 319 ft, kx_a q_size cyI 319 fs, kx_a q_lossOf cyI 319 fo, kx_a q_lessBy cyI 319 fe, kx_a q_value cyI 1914 uv, kx_a q_number cyI 1914 un, kx_3 q_joined j_v j_n js jl je, kx_a j_v cyI 12 jv, kx_a j_n cyI 12 jn, kx_3 h0 a_v a_n vs lo le, kx_a a_v cyI 12 fv, kx_a a_n cyI 12 fn, kx_3 k0 kv kn sb lb eb, kx_a kv cyI 12 gb, kx_a kn cyI 12 nb] s.heap := hP
  have hl := lv_entry ([.ref m_, .int p0, .int p1, .int p2, .int p3, .int p4, .int p5]) (n := 8) (Nat.le_of_ble_eq_true rfl)
  rw [lg_entry_eq]
  generalize (lg_sl ([.ref m_, .int p0, .int p1, .int p2, .int p3, .int p4, .int p5]) ++ List.replicate (8 - (lg_sl ([.ref m_, .int p0, .int p1, .int p2, .int p3, .int p4, .int p5])).length) Slot.unset).toArray = ls at hl ⊢
  have hl : lv_has ls 8 [(0, .ref m_), (1, .int p0), (2, .int p1), (3, .int p2), (4, .int p3), (5, .int p4), (6, .int p5)] := hl
  have hf_35 := hts (.fieldLink RX4 35 "MajorityIndex" "votes" "LMajorityIndex$Votes;") (List.mem_of_getElem? (i := 1) rfl)
  have hi_4 : ∀ w ∈ u_ws RX4 TX4 9, w ∈ wsX4_both := fun w h => List.mem_cons_of_mem _ (List.mem_append_left _ (List.mem_append_left _ (List.mem_append_left _ (List.mem_append_right _ h))))
  have hf_174 := hts (.fieldLink RX4 174 "MajorityIndex$Votes" "size" "I") (List.mem_of_getElem? (i := 2) rfl)
  have hi_3 : ∀ w ∈ u_ws RX3 TX3 5, w ∈ wsX4_both := fun w h => List.mem_cons_of_mem _ (List.mem_append_left _ (List.mem_append_left _ (List.mem_append_right _ h)))
  refine lv_aload_n hx hb dX4_both_0 rfl (lv_at hl 0 rfl) ?_
  refine lv_iload_n hx hb dX4_both_1 rfl (lv_at hl 1 rfl) ?_
  refine lv_iload_n hx hb dX4_both_2 rfl (lv_at hl 2 rfl) ?_
  refine lv_iload_n hx hb dX4_both_3 rfl (lv_at hl 3 rfl) ?_
  refine lv_iload hx hb dX4_both_4 (lv_at hl 4 rfl) ?_
  refine lv_iload hx hb dX4_both_6 (lv_at hl 5 rfl) ?_
  refine lv_iload hx hb dX4_both_8 (lv_at hl 6 rfl) ?_
  have hPc := hP.sub (ws' := [kx_4 m_ q_row q_t t_ h0 k0 w_ z_ slots old, kx_0 q_row q_cell len, kx_a q_cell cyI 160 f]) [0, 2, 3] rfl
  have hKc := hK
  refine vp_callSi (W.runV (As := [.int p0, .int p1, .int p2, .int p3, .int p4, .int p5]) (rest := []) ⟨hx, hb, hml, hown, hts⟩ (c_X4_refusalOfBoth l dC dI m_ q_row q_t t_ h0 k0 w_ z_ slots old q_cell cyI len f p0 p1 p2 p3 p4 p5 a0 a1) (cwV 6 hts gX4_both_X4_refusalOfBoth rfl rfl rfl (by decide +kernel) ⟨Nat.le_of_ble_eq_true rfl, Nat.le_of_ble_eq_true rfl⟩) ⟨fun a U g mk q => by obtain ⟨q0, qP, qK⟩ := q; exact ⟨q0, qP, va_K.moved (u := U) (U := U.calling g mk a) (Vm.Alike.refl U.vm) qK⟩, kx_rc4 hKc hPc (q0 := 0) rfl, fun U hU hW => ⟨rfl, by rw [hU]; exact hPc, va_K.moved hW.alike hKc⟩⟩ rfl rfl hl.1 rfl (lv_room (Nat.le_of_ble_eq_true rfl)) dX4_both_10 ⟨Nat.le_of_ble_eq_true rfl, Nat.le_of_ble_eq_true rfl⟩) (fun r_1 w_1 => ?_)
  rcases w_1 with ⟨rfl, w_1⟩ | ⟨rfl, w_1⟩ | ⟨rfl, w_1⟩ | ⟨rfl, w_1⟩
  · have w_1 : (0 ≤ p0.toInt ∧ p0.toInt < p1.toInt ∧ p1.toInt ≤ len.toInt ∧ 0 ≤ p2.toInt ∧ p2.toInt < p3.toInt ∧ p3.toInt ≤ len.toInt) := w_1
    refine lv_istore (lv' := [(7, .int 0), (0, .ref m_), (1, .int p0), (2, .int p1), (3, .int p2), (4, .int p3), (5, .int p4), (6, .int p5)]) hx hb dX4_both_13 hl (by decide) rfl (fun ls hl => ?_)
    refine lv_iload hx hb dX4_both_15 (lv_at hl 0 rfl) ?_
    refine lv_if_eq (tgt := 23) hx hb dX4_both_17 (by decide) (fun c_2 => ?_) (fun c_2 => ?_)
    · refine lv_aload_n hx hb dX4_both_23 rfl (lv_at hl 1 rfl) ?_
      refine lv_aload_n hx hb dX4_both_24 rfl (lv_at hl 1 rfl) ?_
      obtain ⟨hPc, hDc, hFc, hCc⟩ := kx_preM (wc := [kx_4 m_ q_row q_t t_ h0 k0 w_ z_ slots old, kx_2 q_t q_row q_joined q_from q_to q_size q_lossOf q_lessBy q_value q_number nodes here, kx_0 q_row q_cell len, kx_a q_cell cyI 160 f, kx_a q_from cyI 319 ff, kx_a q_to cyI 319 ft, kx_a q_size cyI 319 fs, kx_a q_lossOf cyI 319 fo, kx_a q_lessBy cyI 319 fe, kx_a q_value cyI 1914 uv, kx_a q_number cyI 1914 un, kx_3 q_joined j_v j_n js jl je, kx_a j_v cyI 12 jv, kx_a j_n cyI 12 jn]) hP hD hS hA [true, true, true, true, true, true, true, true, true, true, true, true, true, true, false, false, false, false, false, false] rfl
      have hKc := hK
      refine va_callr (va_runV (As := []) (rest := [.ref m_]) ⟨hx, hb, hml, hown, hts⟩ (kx_un (c_X4_laidTree l dC dI m_ q_row q_t t_ h0 k0 w_ z_ slots old q_joined q_from q_to q_size q_lossOf q_lessBy q_value q_number nodes here q_cell cyI len f ff ft fs fo uv un fe j_v j_n js jl je jv jn s.heap.size a0 a1 s0 l0)) (cwV 0 hts gX4_both_X4_laidTree rfl rfl rfl (by decide +kernel) ⟨Nat.le_of_ble_eq_true rfl, Nat.le_of_ble_eq_true rfl⟩) ⟨fun a U g mk q => by obtain ⟨q0, q1, qP, qK, qD⟩ := q; exact ⟨q0, q1, qP, va_K.moved (u := U) (U := U.calling g mk a) (Vm.Alike.refl U.vm) qK, qD⟩, kx_rc4 hKc hPc (q0 := 0) rfl, fun U hU hW => ⟨rfl, by rw [hU], by rw [hU]; exact hPc, va_K.moved hW.alike hKc, hDc.weaken (fun _ _ _ _ => trivial)⟩⟩ rfl rfl hl.1 rfl (lv_room (Nat.le_of_ble_eq_true rfl)) dX4_both_25 ⟨Nat.le_of_ble_eq_true rfl, Nat.le_of_ble_eq_true rfl⟩) hS (fun q _ h => hFc q h) hFc (fun u ra t H1 locs ht hvm w_3 hB hz1 hk1 hS => ?_)
      obtain ⟨o_4, o_5, o_6, o_7, o_8, o_9, o_10, o_11, o_12, o_13, o_14, o_15, o_16, o_17, o_18⟩ := u
      dsimp only at w_3 hB
      obtain ⟨er, hP1, hK1, hD1⟩ := hB
      rw [ht] at hP1
      have hK1 := va_K.moved hvm.symm hK1
      obtain ⟨hP, hD⟩ := kx_joinM (w2 := [kx_4 m_ q_row q_t t_ h0 k0 w_ z_ slots o_4, kx_2 q_t q_row q_joined q_from q_to q_size q_lossOf q_lessBy q_value q_number o_5 o_6, kx_0 q_row q_cell len, kx_a q_cell cyI 160 f, kx_a q_from cyI 319 o_7, kx_a q_to cyI 319 o_8, kx_a q_size cyI 319 o_9, kx_a q_lossOf cyI 319 o_10, kx_a q_lessBy cyI 319 o_11, kx_a q_value cyI 1914 o_12, kx_a q_number cyI 1914 o_13, kx_3 q_joined j_v j_n o_14 o_15 o_16, kx_a j_v cyI 12 o_17, kx_a j_n cyI 12 o_18, kx_3 h0 a_v a_n vs lo le, kx_a a_v cyI 12 fv, kx_a a_n cyI 12 fn, kx_3 k0 kv kn sb lb eb, kx_a kv cyI 12 gb, kx_a kn cyI 12 nb]) hP hD hP1 hD1 hk1 hFc [true, true, true, true, true, true, true, true, true, true, true, true, true, true, false, false, false, false, false, false] hCc rfl
      clear hP1 hD1 hK1 hk1 hz1 hFc hDc hPc hKc hCc
      generalize H1 = H at hP hS ⊢
      have w_3 : o_4.toInt = 0 ∧ 0 ≤ o_5.toInt ∧ o_5.toInt ≤ 319 ∧ sixes o_9 ∧ treeOk o_7 o_8 o_5.toInt len.toInt := w_3
      rw [er]
      refine lv_iload_n hx hb dX4_both_28 rfl (lv_at hl 2 rfl) ?_
      refine lv_iload_n hx hb dX4_both_29 rfl (lv_at hl 3 rfl) ?_
      refine lv_iload_n hx hb dX4_both_30 rfl (lv_at hl 4 rfl) ?_
      refine lv_iload hx hb dX4_both_31 (lv_at hl 5 rfl) ?_
      refine lv_iload hx hb dX4_both_33 (lv_at hl 6 rfl) ?_
      refine lv_iload hx hb dX4_both_35 (lv_at hl 7 rfl) ?_
      obtain ⟨hPc, hDc, hFc, hCc⟩ := kx_pre (wc := [kx_4 m_ q_row q_t t_ h0 k0 w_ z_ slots o_4, kx_0 q_row q_cell len, kx_a q_cell cyI 160 f, kx_2 q_t q_row q_joined q_from q_to q_size q_lossOf q_lessBy q_value q_number o_5 o_6, kx_a q_from cyI 319 o_7, kx_a q_to cyI 319 o_8, kx_a q_size cyI 319 o_9, kx_a q_lossOf cyI 319 o_10, kx_a q_value cyI 1914 o_12, kx_a q_number cyI 1914 o_13, kx_3 h0 a_v a_n vs lo le, kx_a a_v cyI 12 fv, kx_a a_n cyI 12 fn, kx_3 k0 kv kn sb lb eb, kx_a kv cyI 12 gb, kx_a kn cyI 12 nb]) hP hD hS hA [0, 2, 3, 1, 4, 5, 6, 7, 9, 10, 14, 15, 16, 17, 18, 19] (by decide) rfl
      have hKc := hK
      refine va_callv (va_runV (As := [.ref q_t, .int p0, .int p1, .int p2, .int p3, .int p4, .int p5]) (rest := []) ⟨hx, hb, hml, hown, hts⟩ (c_X4_gatherHeavyOfBoth l dC dI m_ q_row q_t t_ h0 k0 w_ z_ slots o_4 q_joined q_from q_to q_size q_lossOf q_lessBy q_value q_number o_5 o_6 q_cell cyI len f o_7 o_8 o_9 o_10 o_12 o_13 a_v a_n cyI vs lo le fv fn kv kn sb lb eb gb nb p0 p1 p2 p3 p4 p5 H.size w_3.2.1 w_3.2.2.1 w_3.2.2.2.1 (om_10 w_1.1) (om_167 a1 w_1.2.2.1) (om_10 w_1.2.2.2.1) (om_167 a1 w_1.2.2.2.2.2)) (cwV 7 hts gX4_both_X4_gatherHeavyOfBoth rfl rfl rfl (by decide +kernel) ⟨Nat.le_of_ble_eq_true rfl, Nat.le_of_ble_eq_true rfl⟩) ⟨fun a U g mk q => by obtain ⟨q0, q1, qP, qK, qD, qn0⟩ := q; exact ⟨q0, q1, qP, va_K.moved (u := U) (U := U.calling g mk a) (Vm.Alike.refl U.vm) qK, qD, va_Nw.same (u := U) (U := U.calling g mk a) rfl rfl qn0⟩, kx_rc4 hKc hPc (q0 := 0) rfl, fun U hU hW => ⟨rfl, by rw [hU], by rw [hU]; exact hPc, va_K.moved hW.alike hKc, hDc.weaken (fun _ _ _ _ => trivial), va_Nw.warmM hW hN0⟩⟩ rfl rfl hl.1 rfl (lv_room (Nat.le_of_ble_eq_true rfl)) dX4_both_37 ⟨Nat.le_of_ble_eq_true rfl, Nat.le_of_ble_eq_true rfl⟩) hS (fun q _ h => hFc q h) hFc (fun u t H1 locs ht hvm w_19 hB hz1 hk1 hS => ?_)
      obtain ⟨o_20, o_21, o_22, o_23, o_24, o_25, o_26, o_27, o_28, o_29⟩ := u
      dsimp only at w_19 hB
      obtain ⟨hP1, hK1, hD1⟩ := hB
      rw [ht] at hP1
      have hK1 := va_K.moved hvm.symm hK1
      obtain ⟨hP, hD⟩ := kx_join (w2 := [kx_a q_lessBy cyI 319 o_11, kx_3 q_joined j_v j_n o_14 o_15 o_16, kx_a j_v cyI 12 o_17, kx_a j_n cyI 12 o_18, kx_4 m_ q_row q_t t_ h0 k0 w_ z_ slots o_4, kx_0 q_row q_cell len, kx_a q_cell cyI 160 f, kx_2 q_t q_row q_joined q_from q_to q_size q_lossOf q_lessBy q_value q_number o_5 o_6, kx_a q_from cyI 319 o_7, kx_a q_to cyI 319 o_8, kx_a q_size cyI 319 o_9, kx_a q_lossOf cyI 319 o_10, kx_a q_value cyI 1914 o_12, kx_a q_number cyI 1914 o_13, kx_3 h0 a_v a_n o_20 o_21 o_22, kx_a a_v cyI 12 o_23, kx_a a_n cyI 12 o_24, kx_3 k0 kv kn o_25 o_26 o_27, kx_a kv cyI 12 o_28, kx_a kn cyI 12 o_29]) hP hD hP1 hD1 hk1 hFc [0, 2, 3, 1, 4, 5, 6, 7, 9, 10, 14, 15, 16, 17, 18, 19] [8, 11, 12, 13] hCc rfl (by decide) (by decide)
      clear hP1 hD1 hK1 hk1 hz1 hFc hDc hPc hKc hCc
      generalize H1 = H at hP hS ⊢
      have w_19 : 0 ≤ o_20.toInt ∧ o_20.toInt ≤ 12 := w_19
      refine lv_aload_n hx hb dX4_both_40 rfl (lv_at hl 1 rfl) ?_
      refine va_get (D := (dC, dI)) (ci := 4) (v := .ref h0) (C := RX4) (T := TX4) (N := 9) hx hb hts hi_4 hown hK hP 4 rfl rfl 3 (by decide) hf_35 (fun _ h9 => h9) rfl dX4_both_41 ?_
      refine va_get (D := (dC, dI)) (ci := 3) (v := .int o_20) (C := RX3) (T := TX3) (N := 5) hx hb hts hi_3 hown hK hP 14 rfl rfl 2 (by decide) hf_174 (fun _ h9 => h9) rfl dX4_both_44 ?_
      obtain ⟨hP9, hD9⟩ := kx_sub (w2 := [kx_4 m_ q_row q_t t_ h0 k0 w_ z_ slots o_4, kx_2 q_t q_row q_joined q_from q_to q_size q_lossOf q_lessBy q_value q_number o_5 o_6, kx_0 q_row q_cell len, kx_a q_cell cyI 160 f, kx_a q_from cyI 319 o_7, kx_a q_to cyI 319 o_8, kx_a q_size cyI 319 o_9, kx_a q_lossOf cyI 319 o_10, kx_a q_lessBy cyI 319 o_11, kx_a q_value cyI 1914 o_12, kx_a q_number cyI 1914 o_13, kx_3 q_joined j_v j_n o_14 o_15 o_16, kx_a j_v cyI 12 o_17, kx_a j_n cyI 12 o_18, kx_3 h0 a_v a_n o_20 o_21 o_22, kx_a a_v cyI 12 o_23, kx_a a_n cyI 12 o_24, kx_3 k0 kv kn o_25 o_26 o_27, kx_a kv cyI 12 o_28, kx_a kn cyI 12 o_29]) hP hD [4, 7, 5, 6, 8, 9, 10, 11, 0, 12, 13, 1, 2, 3, 14, 15, 16, 17, 18, 19] (by decide) rfl
      have hK9 := hK
      exact W.iret (v := o_20) hx hb hr (hlocks := hlocks) (fun t ht hW => ⟨⟨o_20, (o_4, o_5, o_6, o_7, o_8, o_9, o_10, o_11, o_12, o_13, o_14, o_15, o_16, o_17, o_18, o_20, o_21, o_22, o_23, o_24, o_25, o_26, o_27, o_28, o_29), rfl, ⟨(fun _ => ⟨(by (try dsimp only); omega), (by (try dsimp only); omega), w_3.2.2.2.2⟩), w_3.2.2.2.1⟩, by rw [ht]; exact hP9, va_K.moved hW.alike hK9, hD9⟩, hS.F ht⟩) hS.2.2 dX4_both_47
    · exact absurd c_2 (by decide)
  · have w_1 : (0 : Int) ≤ 1 := w_1
    refine lv_istore (lv' := [(7, .int (-1)), (0, .ref m_), (1, .int p0), (2, .int p1), (3, .int p2), (4, .int p3), (5, .int p4), (6, .int p5)]) hx hb dX4_both_13 hl (by decide) rfl (fun ls hl => ?_)
    refine lv_iload hx hb dX4_both_15 (lv_at hl 0 rfl) ?_
    refine lv_if_eq (tgt := 23) hx hb dX4_both_17 (by decide) (fun c_30 => ?_) (fun c_30 => ?_)
    · exact absurd c_30 (by decide)
    · refine lv_iload hx hb dX4_both_20 (lv_at hl 0 rfl) ?_
      have hP9 := hP
      have hD9 := hD
      have hK9 := hK
      exact W.iret (v := (-1)) hx hb hr (hlocks := hlocks) (fun t ht hW => ⟨⟨(-1), (old, nodes, here, ff, ft, fs, fo, fe, uv, un, js, jl, je, jv, jn, vs, lo, le, fv, fn, sb, lb, eb, gb, nb), rfl, ⟨l0, s0⟩, by rw [ht]; exact hP9, va_K.moved hW.alike hK9, hD9⟩, hS.F ht⟩) hS.2.2 dX4_both_22
  · have w_1 : (0 : Int) ≤ 1 := w_1
    refine lv_istore (lv' := [(7, .int (-2)), (0, .ref m_), (1, .int p0), (2, .int p1), (3, .int p2), (4, .int p3), (5, .int p4), (6, .int p5)]) hx hb dX4_both_13 hl (by decide) rfl (fun ls hl => ?_)
    refine lv_iload hx hb dX4_both_15 (lv_at hl 0 rfl) ?_
    refine lv_if_eq (tgt := 23) hx hb dX4_both_17 (by decide) (fun c_31 => ?_) (fun c_31 => ?_)
    · exact absurd c_31 (by decide)
    · refine lv_iload hx hb dX4_both_20 (lv_at hl 0 rfl) ?_
      have hP9 := hP
      have hD9 := hD
      have hK9 := hK
      exact W.iret (v := (-2)) hx hb hr (hlocks := hlocks) (fun t ht hW => ⟨⟨(-2), (old, nodes, here, ff, ft, fs, fo, fe, uv, un, js, jl, je, jv, jn, vs, lo, le, fv, fn, sb, lb, eb, gb, nb), rfl, ⟨l0, s0⟩, by rw [ht]; exact hP9, va_K.moved hW.alike hK9, hD9⟩, hS.F ht⟩) hS.2.2 dX4_both_22
  · have w_1 : (0 : Int) ≤ 1 := w_1
    refine lv_istore (lv' := [(7, .int (-3)), (0, .ref m_), (1, .int p0), (2, .int p1), (3, .int p2), (4, .int p3), (5, .int p4), (6, .int p5)]) hx hb dX4_both_13 hl (by decide) rfl (fun ls hl => ?_)
    refine lv_iload hx hb dX4_both_15 (lv_at hl 0 rfl) ?_
    refine lv_if_eq (tgt := 23) hx hb dX4_both_17 (by decide) (fun c_32 => ?_) (fun c_32 => ?_)
    · exact absurd c_32 (by decide)
    · refine lv_iload hx hb dX4_both_20 (lv_at hl 0 rfl) ?_
      have hP9 := hP
      have hD9 := hD
      have hK9 := hK
      exact W.iret (v := (-3)) hx hb hr (hlocks := hlocks) (fun t ht hW => ⟨⟨(-3), (old, nodes, here, ff, ft, fs, fo, fe, uv, un, js, jl, je, jv, jn, vs, lo, le, fv, fn, sb, lb, eb, gb, nb), rfl, ⟨l0, s0⟩, by rw [ht]; exact hP9, va_K.moved hW.alike hK9, hD9⟩, hS.F ht⟩) hS.2.2 dX4_both_22

set_option maxHeartbeats 4000000 in
set_option maxRecDepth 100000 in
theorem c_X4_bothAt (l : Launch) (dC : Nat → ClassId) (dI : Nat → Nat → Nat) (m_ : Nat) (q_row : Nat) (q_t : Nat) (t_ : Nat) (h0 : Nat) (k0 : Nat) (w_ : Nat) (z_ : Nat) (slots : Int32) (old : Int32) (q_joined : Nat) (q_from : Nat) (q_to : Nat) (q_size : Nat) (q_lossOf : Nat) (q_lessBy : Nat) (q_value : Nat) (q_number : Nat) (nodes : Int32) (here : Int32) (q_cell : Nat) (cyI : ClassId) (len : Int32) (f : Nat → Int32) (ff : Nat → Int32) (ft : Nat → Int32) (fs : Nat → Int32) (fo : Nat → Int32) (uv : Nat → Int32) (un : Nat → Int32) (fe : Nat → Int32) (j_v : Nat) (j_n : Nat) (js : Int32) (jl : Int32) (je : Int32) (jv : Nat → Int32) (jn : Nat → Int32) (a_v : Nat) (a_n : Nat) (vs : Int32) (lo : Int32) (le : Int32) (fv : Nat → Int32) (fn : Nat → Int32) (kv : Nat) (kn : Nat) (sb : Int32) (lb : Int32) (eb : Int32) (gb : Nat → Int32) (nb : Nat → Int32) (p0 : Int32) (p1 : Int32) (p2 : Int32) (p3 : Int32) (p4 : Int32) (p5 : Int32) (p6 : Int32) (sz : Nat) (a0 : 0 ≤ len.toInt) (a1 : len.toInt ≤ 160) (s0 : sixes fs) (l0 : laidP old ff ft nodes len) : Met l yX4_bothAt wsX4_bothAt ({ frames := 6, cells := 0, slots := 0, locals := 270 }) (va_Pc [.ref m_, .int p0, .int p1, .int p2, .int p3, .int p4, .int p5, .int p6] (fun U => U.heap.size = sz ∧ va_P (dC, dI) vwCl [kx_4 m_ q_row q_t t_ h0 k0 w_ z_ slots old, kx_2 q_t q_row q_joined q_from q_to q_size q_lossOf q_lessBy q_value q_number nodes here, kx_0 q_row q_cell len, kx_a q_cell cyI 160 f, kx_a q_from cyI 319 ff, kx_a q_to cyI 319 ft, kx_a q_size cyI 319 fs, kx_a q_lossOf cyI 319 fo, kx_a q_lessBy cyI 319 fe, kx_a q_value cyI 1914 uv, kx_a q_number cyI 1914 un, kx_3 q_joined j_v j_n js jl je, kx_a j_v cyI 12 jv, kx_a j_n cyI 12 jn, kx_3 h0 a_v a_n vs lo le, kx_a a_v cyI 12 fv, kx_a a_n cyI 12 fn, kx_3 k0 kv kn sb lb eb, kx_a kv cyI 12 gb, kx_a kn cyI 12 nb] U.heap ∧ va_K (dC, dI) vwCl [(cyI, .int)] U ∧ va_D (fun _ => True) [kx_4 m_ q_row q_t t_ h0 k0 w_ z_ slots old, kx_2 q_t q_row q_joined q_from q_to q_size q_lossOf q_lessBy q_value q_number nodes here, kx_0 q_row q_cell len, kx_a q_cell cyI 160 f, kx_a q_from cyI 319 ff, kx_a q_to cyI 319 ft, kx_a q_size cyI 319 fs, kx_a q_lossOf cyI 319 fo, kx_a q_lessBy cyI 319 fe, kx_a q_value cyI 1914 uv, kx_a q_number cyI 1914 un, kx_3 q_joined j_v j_n js jl je, kx_a j_v cyI 12 jv, kx_a j_n cyI 12 jn, kx_3 h0 a_v a_n vs lo le, kx_a a_v cyI 12 fv, kx_a a_n cyI 12 fn, kx_3 k0 kv kn sb lb eb, kx_a kv cyI 12 gb, kx_a kn cyI 12 nb] ∧ va_Nw (.methodLinkNest RX3 42 yX4_isHeavy RX4) U)) (va_Qi (fun (r : Int32) (u : Int32 × Int32 × Int32 × (Nat → Int32) × (Nat → Int32) × (Nat → Int32) × (Nat → Int32) × (Nat → Int32) × (Nat → Int32) × (Nat → Int32) × Int32 × Int32 × Int32 × (Nat → Int32) × (Nat → Int32) × Int32 × Int32 × Int32 × (Nat → Int32) × (Nat → Int32) × Int32 × Int32 × Int32 × (Nat → Int32) × (Nat → Int32)) => laidP u.1 u.2.2.2.1 u.2.2.2.2.1 u.2.1 len ∧ sixes u.2.2.2.2.2.1) (fun (u : Int32 × Int32 × Int32 × (Nat → Int32) × (Nat → Int32) × (Nat → Int32) × (Nat → Int32) × (Nat → Int32) × (Nat → Int32) × (Nat → Int32) × Int32 × Int32 × Int32 × (Nat → Int32) × (Nat → Int32) × Int32 × Int32 × Int32 × (Nat → Int32) × (Nat → Int32) × Int32 × Int32 × Int32 × (Nat → Int32) × (Nat → Int32)) (t : State) => va_P (dC, dI) vwCl [kx_4 m_ q_row q_t t_ h0 k0 w_ z_ slots u.1, kx_2 q_t q_row q_joined q_from q_to q_size q_lossOf q_lessBy q_value q_number u.2.1 u.2.2.1, kx_0 q_row q_cell len, kx_a q_cell cyI 160 f, kx_a q_from cyI 319 u.2.2.2.1, kx_a q_to cyI 319 u.2.2.2.2.1, kx_a q_size cyI 319 u.2.2.2.2.2.1, kx_a q_lossOf cyI 319 u.2.2.2.2.2.2.1, kx_a q_lessBy cyI 319 u.2.2.2.2.2.2.2.1, kx_a q_value cyI 1914 u.2.2.2.2.2.2.2.2.1, kx_a q_number cyI 1914 u.2.2.2.2.2.2.2.2.2.1, kx_3 q_joined j_v j_n u.2.2.2.2.2.2.2.2.2.2.1 u.2.2.2.2.2.2.2.2.2.2.2.1 u.2.2.2.2.2.2.2.2.2.2.2.2.1, kx_a j_v cyI 12 u.2.2.2.2.2.2.2.2.2.2.2.2.2.1, kx_a j_n cyI 12 u.2.2.2.2.2.2.2.2.2.2.2.2.2.2.1, kx_3 h0 a_v a_n u.2.2.2.2.2.2.2.2.2.2.2.2.2.2.2.1 u.2.2.2.2.2.2.2.2.2.2.2.2.2.2.2.2.1 u.2.2.2.2.2.2.2.2.2.2.2.2.2.2.2.2.2.1, kx_a a_v cyI 12 u.2.2.2.2.2.2.2.2.2.2.2.2.2.2.2.2.2.2.1, kx_a a_n cyI 12 u.2.2.2.2.2.2.2.2.2.2.2.2.2.2.2.2.2.2.2.1, kx_3 k0 kv kn u.2.2.2.2.2.2.2.2.2.2.2.2.2.2.2.2.2.2.2.2.1 u.2.2.2.2.2.2.2.2.2.2.2.2.2.2.2.2.2.2.2.2.2.1 u.2.2.2.2.2.2.2.2.2.2.2.2.2.2.2.2.2.2.2.2.2.2.1, kx_a kv cyI 12 u.2.2.2.2.2.2.2.2.2.2.2.2.2.2.2.2.2.2.2.2.2.2.2.1, kx_a kn cyI 12 u.2.2.2.2.2.2.2.2.2.2.2.2.2.2.2.2.2.2.2.2.2.2.2.2] t.heap ∧ va_K (dC, dI) vwCl [(cyI, .int)] t ∧ va_D (va_A [kx_4 m_ q_row q_t t_ h0 k0 w_ z_ slots old, kx_2 q_t q_row q_joined q_from q_to q_size q_lossOf q_lessBy q_value q_number nodes here, kx_0 q_row q_cell len, kx_a q_cell cyI 160 f, kx_a q_from cyI 319 ff, kx_a q_to cyI 319 ft, kx_a q_size cyI 319 fs, kx_a q_lossOf cyI 319 fo, kx_a q_lessBy cyI 319 fe, kx_a q_value cyI 1914 uv, kx_a q_number cyI 1914 un, kx_3 q_joined j_v j_n js jl je, kx_a j_v cyI 12 jv, kx_a j_n cyI 12 jn, kx_3 h0 a_v a_n vs lo le, kx_a a_v cyI 12 fv, kx_a a_n cyI 12 fn, kx_3 k0 kv kn sb lb eb, kx_a kv cyI 12 gb, kx_a kn cyI 12 nb] sz) [kx_4 m_ q_row q_t t_ h0 k0 w_ z_ slots u.1, kx_2 q_t q_row q_joined q_from q_to q_size q_lossOf q_lessBy q_value q_number u.2.1 u.2.2.1, kx_0 q_row q_cell len, kx_a q_cell cyI 160 f, kx_a q_from cyI 319 u.2.2.2.1, kx_a q_to cyI 319 u.2.2.2.2.1, kx_a q_size cyI 319 u.2.2.2.2.2.1, kx_a q_lossOf cyI 319 u.2.2.2.2.2.2.1, kx_a q_lessBy cyI 319 u.2.2.2.2.2.2.2.1, kx_a q_value cyI 1914 u.2.2.2.2.2.2.2.2.1, kx_a q_number cyI 1914 u.2.2.2.2.2.2.2.2.2.1, kx_3 q_joined j_v j_n u.2.2.2.2.2.2.2.2.2.2.1 u.2.2.2.2.2.2.2.2.2.2.2.1 u.2.2.2.2.2.2.2.2.2.2.2.2.1, kx_a j_v cyI 12 u.2.2.2.2.2.2.2.2.2.2.2.2.2.1, kx_a j_n cyI 12 u.2.2.2.2.2.2.2.2.2.2.2.2.2.2.1, kx_3 h0 a_v a_n u.2.2.2.2.2.2.2.2.2.2.2.2.2.2.2.1 u.2.2.2.2.2.2.2.2.2.2.2.2.2.2.2.2.1 u.2.2.2.2.2.2.2.2.2.2.2.2.2.2.2.2.2.1, kx_a a_v cyI 12 u.2.2.2.2.2.2.2.2.2.2.2.2.2.2.2.2.2.2.1, kx_a a_n cyI 12 u.2.2.2.2.2.2.2.2.2.2.2.2.2.2.2.2.2.2.2.1, kx_3 k0 kv kn u.2.2.2.2.2.2.2.2.2.2.2.2.2.2.2.2.2.2.2.2.1 u.2.2.2.2.2.2.2.2.2.2.2.2.2.2.2.2.2.2.2.2.2.1 u.2.2.2.2.2.2.2.2.2.2.2.2.2.2.2.2.2.2.2.2.2.2.1, kx_a kv cyI 12 u.2.2.2.2.2.2.2.2.2.2.2.2.2.2.2.2.2.2.2.2.2.2.2.1, kx_a kn cyI 12 u.2.2.2.2.2.2.2.2.2.2.2.2.2.2.2.2.2.2.2.2.2.2.2.2]) (va_A [kx_4 m_ q_row q_t t_ h0 k0 w_ z_ slots old, kx_2 q_t q_row q_joined q_from q_to q_size q_lossOf q_lessBy q_value q_number nodes here, kx_0 q_row q_cell len, kx_a q_cell cyI 160 f, kx_a q_from cyI 319 ff, kx_a q_to cyI 319 ft, kx_a q_size cyI 319 fs, kx_a q_lossOf cyI 319 fo, kx_a q_lessBy cyI 319 fe, kx_a q_value cyI 1914 uv, kx_a q_number cyI 1914 un, kx_3 q_joined j_v j_n js jl je, kx_a j_v cyI 12 jv, kx_a j_n cyI 12 jn, kx_3 h0 a_v a_n vs lo le, kx_a a_v cyI 12 fv, kx_a a_n cyI 12 fn, kx_3 k0 kv kn sb lb eb, kx_a kv cyI 12 gb, kx_a kn cyI 12 nb] sz)) 0 0 (va_A [kx_4 m_ q_row q_t t_ h0 k0 w_ z_ slots old, kx_2 q_t q_row q_joined q_from q_to q_size q_lossOf q_lessBy q_value q_number nodes here, kx_0 q_row q_cell len, kx_a q_cell cyI 160 f, kx_a q_from cyI 319 ff, kx_a q_to cyI 319 ft, kx_a q_size cyI 319 fs, kx_a q_lossOf cyI 319 fo, kx_a q_lessBy cyI 319 fe, kx_a q_value cyI 1914 uv, kx_a q_number cyI 1914 un, kx_3 q_joined j_v j_n js jl je, kx_a j_v cyI 12 jv, kx_a j_n cyI 12 jn, kx_3 h0 a_v a_n vs lo le, kx_a a_v cyI 12 fv, kx_a a_n cyI 12 fn, kx_3 k0 kv kn sb lb eb, kx_a kv cyI 12 gb, kx_a kn cyI 12 nb] sz) := by
  refine Met.ofW (cc := cX4_bothAt) (maxL := 8) (ret := (some .int)) (by decide) rfl ?_
  intro p e s m args below meth c s₁ B hml hv
  obtain ⟨rfl, hsz, hP, hK, hD0, hN0⟩ := hv
  have hx := B.exec
  have hb := B.bytes
  have hr := B.returns
  have hts := atoms_spec (ws := wsX4_bothAt) B.pre
  have hown : s.vm.findClass RX4 = some m.cls := findClass_of_methodNamed B.named
  have hlocks := B.notSynchronized
  subst hsz
  have hD := hD0.self (sz := s.heap.size)
  generalize hAe : va_A [kx_4 m_ q_row q_t t_ h0 k0 w_ z_ slots old, kx_2 q_t q_row q_joined q_from q_to q_size q_lossOf q_lessBy q_value q_number nodes here, kx_0 q_row q_cell len, kx_a q_cell cyI 160 f, kx_a q_from cyI 319 ff, kx_a q_to cyI 319 ft, kx_a q_size cyI 319 fs, kx_a q_lossOf cyI 319 fo, kx_a q_lessBy cyI 319 fe, kx_a q_value cyI 1914 uv, kx_a q_number cyI 1914 un, kx_3 q_joined j_v j_n js jl je, kx_a j_v cyI 12 jv, kx_a j_n cyI 12 jn, kx_3 h0 a_v a_n vs lo le, kx_a a_v cyI 12 fv, kx_a a_n cyI 12 fn, kx_3 k0 kv kn sb lb eb, kx_a kv cyI 12 gb, kx_a kn cyI 12 nb] s.heap.size = A at hD ⊢
  have hA : ∀ q : Nat, s.heap.size ≤ q → A q := fun q h => by rw [← hAe]; exact Or.inr h
  have hS : va_S A s.heap s.heap [] := va_S.rf
  have hP : va_P (dC, dI) vwCl [kx_4 m_ q_row q_t t_ h0 k0 w_ z_ slots old, kx_2 q_t q_row q_joined q_from q_to q_size q_lossOf q_lessBy q_value q_number nodes here, kx_0 q_row q_cell len, kx_a q_cell cyI 160 f, kx_a q_from cyI 319 ff, kx_a q_to cyI 319 ft, kx_a q_size cyI 319 fs, kx_a q_lossOf cyI 319 fo, kx_a q_lessBy cyI 319 fe, kx_a q_value cyI 1914 uv, kx_a q_number cyI 1914 un, kx_3 q_joined j_v j_n js jl je, kx_a j_v cyI 12 jv, kx_a j_n cyI 12 jn, kx_3 h0 a_v a_n vs lo le, kx_a a_v cyI 12 fv, kx_a a_n cyI 12 fn, kx_3 k0 kv kn sb lb eb, kx_a kv cyI 12 gb, kx_a kn cyI 12 nb] s.heap := hP
  have hl := lv_entry ([.ref m_, .int p0, .int p1, .int p2, .int p3, .int p4, .int p5, .int p6]) (n := 8) (Nat.le_of_ble_eq_true rfl)
  rw [lg_entry_eq]
  generalize (lg_sl ([.ref m_, .int p0, .int p1, .int p2, .int p3, .int p4, .int p5, .int p6]) ++ List.replicate (8 - (lg_sl ([.ref m_, .int p0, .int p1, .int p2, .int p3, .int p4, .int p5, .int p6])).length) Slot.unset).toArray = ls at hl ⊢
  have hl : lv_has ls 8 [(0, .ref m_), (1, .int p0), (2, .int p1), (3, .int p2), (4, .int p3), (5, .int p4), (6, .int p5), (7, .int p6)] := hl
  have hk_102 := hts (.constant RX4 102 (-40000)) (List.mem_of_getElem? (i := 1) rfl)
  have hf_35 := hts (.fieldLink RX4 35 "MajorityIndex" "votes" "LMajorityIndex$Votes;") (List.mem_of_getElem? (i := 2) rfl)
  have hi_4 : ∀ w ∈ u_ws RX4 TX4 9, w ∈ wsX4_bothAt := fun w h => List.mem_cons_of_mem _ (List.mem_append_left _ (List.mem_append_left _ (List.mem_append_left _ (List.mem_append_right _ h))))
  have hf_174 := hts (.fieldLink RX4 174 "MajorityIndex$Votes" "size" "I") (List.mem_of_getElem? (i := 3) rfl)
  have hi_3 : ∀ w ∈ u_ws RX3 TX3 5, w ∈ wsX4_bothAt := fun w h => List.mem_cons_of_mem _ (List.mem_append_left _ (List.mem_append_left _ (List.mem_append_right _ h)))
  have hf_133 := hts (.fieldLink RX4 133 "MajorityIndex$Votes" "value" "[I") (List.mem_of_getElem? (i := 4) rfl)
  refine lv_iload hx hb dX4_bothAt_0 (lv_at hl 7 rfl) ?_
  refine lv_if_lt (tgt := 21) hx hb dX4_bothAt_2 (by decide) (fun c_1 => ?_) (fun c_1 => ?_)
  · have i_1 : p6.toInt < 0 := kc_lt c_1
    refine lv_ldc (v := (-40000)) hx hb hown hk_102 dX4_bothAt_21 ?_
    have hP9 := hP
    have hD9 := hD
    have hK9 := hK
    exact W.iret (v := (-40000)) hx hb hr (hlocks := hlocks) (fun t ht hW => ⟨⟨(-40000), (old, nodes, here, ff, ft, fs, fo, fe, uv, un, js, jl, je, jv, jn, vs, lo, le, fv, fn, sb, lb, eb, gb, nb), rfl, ⟨l0, s0⟩, by rw [ht]; exact hP9, va_K.moved hW.alike hK9, hD9⟩, hS.F ht⟩) hS.2.2 dX4_bothAt_23
  · have i_1 : 0 ≤ p6.toInt := kc_nlt c_1
    refine lv_aload_n hx hb dX4_bothAt_5 rfl (lv_at hl 0 rfl) ?_
    refine lv_iload_n hx hb dX4_bothAt_6 rfl (lv_at hl 1 rfl) ?_
    refine lv_iload_n hx hb dX4_bothAt_7 rfl (lv_at hl 2 rfl) ?_
    refine lv_iload_n hx hb dX4_bothAt_8 rfl (lv_at hl 3 rfl) ?_
    refine lv_iload hx hb dX4_bothAt_9 (lv_at hl 4 rfl) ?_
    refine lv_iload hx hb dX4_bothAt_11 (lv_at hl 5 rfl) ?_
    refine lv_iload hx hb dX4_bothAt_13 (lv_at hl 6 rfl) ?_
    have hPc := hP.sub (ws' := [kx_4 m_ q_row q_t t_ h0 k0 w_ z_ slots old, kx_0 q_row q_cell len, kx_a q_cell cyI 160 f]) [0, 2, 3] rfl
    have hKc := hK
    refine vp_callSi (W.runV (As := [.int p0, .int p1, .int p2, .int p3, .int p4, .int p5]) (rest := []) ⟨hx, hb, hml, hown, hts⟩ (c_X4_refusalOfBoth l dC dI m_ q_row q_t t_ h0 k0 w_ z_ slots old q_cell cyI len f p0 p1 p2 p3 p4 p5 a0 a1) (cwV 6 hts gX4_bothAt_X4_refusalOfBoth rfl rfl rfl (by decide +kernel) ⟨Nat.le_of_ble_eq_true rfl, Nat.le_of_ble_eq_true rfl⟩) ⟨fun a U g mk q => by obtain ⟨q0, qP, qK⟩ := q; exact ⟨q0, qP, va_K.moved (u := U) (U := U.calling g mk a) (Vm.Alike.refl U.vm) qK⟩, kx_rc4 hKc hPc (q0 := 0) rfl, fun U hU hW => ⟨rfl, by rw [hU]; exact hPc, va_K.moved hW.alike hKc⟩⟩ rfl rfl hl.1 rfl (lv_room (Nat.le_of_ble_eq_true rfl)) dX4_bothAt_15 ⟨Nat.le_of_ble_eq_true rfl, Nat.le_of_ble_eq_true rfl⟩) (fun r_2 w_2 => ?_)
    rcases w_2 with ⟨rfl, w_2⟩ | ⟨rfl, w_2⟩ | ⟨rfl, w_2⟩ | ⟨rfl, w_2⟩
    · have w_2 : (0 ≤ p0.toInt ∧ p0.toInt < p1.toInt ∧ p1.toInt ≤ len.toInt ∧ 0 ≤ p2.toInt ∧ p2.toInt < p3.toInt ∧ p3.toInt ≤ len.toInt) := w_2
      refine lv_if_eq (tgt := 24) hx hb dX4_bothAt_18 (by decide) (fun c_3 => ?_) (fun c_3 => ?_)
      · refine lv_aload_n hx hb dX4_bothAt_24 rfl (lv_at hl 0 rfl) ?_
        refine lv_aload_n hx hb dX4_bothAt_25 rfl (lv_at hl 0 rfl) ?_
        obtain ⟨hPc, hDc, hFc, hCc⟩ := kx_preM (wc := [kx_4 m_ q_row q_t t_ h0 k0 w_ z_ slots old, kx_2 q_t q_row q_joined q_from q_to q_size q_lossOf q_lessBy q_value q_number nodes here, kx_0 q_row q_cell len, kx_a q_cell cyI 160 f, kx_a q_from cyI 319 ff, kx_a q_to cyI 319 ft, kx_a q_size cyI 319 fs, kx_a q_lossOf cyI 319 fo, kx_a q_lessBy cyI 319 fe, kx_a q_value cyI 1914 uv, kx_a q_number cyI 1914 un, kx_3 q_joined j_v j_n js jl je, kx_a j_v cyI 12 jv, kx_a j_n cyI 12 jn]) hP hD hS hA [true, true, true, true, true, true, true, true, true, true, true, true, true, true, false, false, false, false, false, false] rfl
        have hKc := hK
        refine va_callr (va_runV (As := []) (rest := [.ref m_]) ⟨hx, hb, hml, hown, hts⟩ (kx_un (c_X4_laidTree l dC dI m_ q_row q_t t_ h0 k0 w_ z_ slots old q_joined q_from q_to q_size q_lossOf q_lessBy q_value q_number nodes here q_cell cyI len f ff ft fs fo uv un fe j_v j_n js jl je jv jn s.heap.size a0 a1 s0 l0)) (cwV 0 hts gX4_bothAt_X4_laidTree rfl rfl rfl (by decide +kernel) ⟨Nat.le_of_ble_eq_true rfl, Nat.le_of_ble_eq_true rfl⟩) ⟨fun a U g mk q => by obtain ⟨q0, q1, qP, qK, qD⟩ := q; exact ⟨q0, q1, qP, va_K.moved (u := U) (U := U.calling g mk a) (Vm.Alike.refl U.vm) qK, qD⟩, kx_rc4 hKc hPc (q0 := 0) rfl, fun U hU hW => ⟨rfl, by rw [hU], by rw [hU]; exact hPc, va_K.moved hW.alike hKc, hDc.weaken (fun _ _ _ _ => trivial)⟩⟩ rfl rfl hl.1 rfl (lv_room (Nat.le_of_ble_eq_true rfl)) dX4_bothAt_26 ⟨Nat.le_of_ble_eq_true rfl, Nat.le_of_ble_eq_true rfl⟩) hS (fun q _ h => hFc q h) hFc (fun u ra t H1 locs ht hvm w_4 hB hz1 hk1 hS => ?_)
        obtain ⟨o_5, o_6, o_7, o_8, o_9, o_10, o_11, o_12, o_13, o_14, o_15, o_16, o_17, o_18, o_19⟩ := u
        dsimp only at w_4 hB
        obtain ⟨er, hP1, hK1, hD1⟩ := hB
        rw [ht] at hP1
        have hK1 := va_K.moved hvm.symm hK1
        obtain ⟨hP, hD⟩ := kx_joinM (w2 := [kx_4 m_ q_row q_t t_ h0 k0 w_ z_ slots o_5, kx_2 q_t q_row q_joined q_from q_to q_size q_lossOf q_lessBy q_value q_number o_6 o_7, kx_0 q_row q_cell len, kx_a q_cell cyI 160 f, kx_a q_from cyI 319 o_8, kx_a q_to cyI 319 o_9, kx_a q_size cyI 319 o_10, kx_a q_lossOf cyI 319 o_11, kx_a q_lessBy cyI 319 o_12, kx_a q_value cyI 1914 o_13, kx_a q_number cyI 1914 o_14, kx_3 q_joined j_v j_n o_15 o_16 o_17, kx_a j_v cyI 12 o_18, kx_a j_n cyI 12 o_19, kx_3 h0 a_v a_n vs lo le, kx_a a_v cyI 12 fv, kx_a a_n cyI 12 fn, kx_3 k0 kv kn sb lb eb, kx_a kv cyI 12 gb, kx_a kn cyI 12 nb]) hP hD hP1 hD1 hk1 hFc [true, true, true, true, true, true, true, true, true, true, true, true, true, true, false, false, false, false, false, false] hCc rfl
        clear hP1 hD1 hK1 hk1 hz1 hFc hDc hPc hKc hCc
        generalize H1 = H at hP hS ⊢
        have w_4 : o_5.toInt = 0 ∧ 0 ≤ o_6.toInt ∧ o_6.toInt ≤ 319 ∧ sixes o_10 ∧ treeOk o_8 o_9 o_6.toInt len.toInt := w_4
        rw [er]
        refine lv_iload_n hx hb dX4_bothAt_29 rfl (lv_at hl 1 rfl) ?_
        refine lv_iload_n hx hb dX4_bothAt_30 rfl (lv_at hl 2 rfl) ?_
        refine lv_iload_n hx hb dX4_bothAt_31 rfl (lv_at hl 3 rfl) ?_
        refine lv_iload hx hb dX4_bothAt_32 (lv_at hl 4 rfl) ?_
        refine lv_iload hx hb dX4_bothAt_34 (lv_at hl 5 rfl) ?_
        refine lv_iload hx hb dX4_bothAt_36 (lv_at hl 6 rfl) ?_
        obtain ⟨hPc, hDc, hFc, hCc⟩ := kx_pre (wc := [kx_4 m_ q_row q_t t_ h0 k0 w_ z_ slots o_5, kx_0 q_row q_cell len, kx_a q_cell cyI 160 f, kx_2 q_t q_row q_joined q_from q_to q_size q_lossOf q_lessBy q_value q_number o_6 o_7, kx_a q_from cyI 319 o_8, kx_a q_to cyI 319 o_9, kx_a q_size cyI 319 o_10, kx_a q_lossOf cyI 319 o_11, kx_a q_value cyI 1914 o_13, kx_a q_number cyI 1914 o_14, kx_3 h0 a_v a_n vs lo le, kx_a a_v cyI 12 fv, kx_a a_n cyI 12 fn, kx_3 k0 kv kn sb lb eb, kx_a kv cyI 12 gb, kx_a kn cyI 12 nb]) hP hD hS hA [0, 2, 3, 1, 4, 5, 6, 7, 9, 10, 14, 15, 16, 17, 18, 19] (by decide) rfl
        have hKc := hK
        refine va_callv (va_runV (As := [.ref q_t, .int p0, .int p1, .int p2, .int p3, .int p4, .int p5]) (rest := []) ⟨hx, hb, hml, hown, hts⟩ (c_X4_gatherHeavyOfBoth l dC dI m_ q_row q_t t_ h0 k0 w_ z_ slots o_5 q_joined q_from q_to q_size q_lossOf q_lessBy q_value q_number o_6 o_7 q_cell cyI len f o_8 o_9 o_10 o_11 o_13 o_14 a_v a_n cyI vs lo le fv fn kv kn sb lb eb gb nb p0 p1 p2 p3 p4 p5 H.size w_4.2.1 w_4.2.2.1 w_4.2.2.2.1 (om_10 w_2.1) (om_167 a1 w_2.2.2.1) (om_10 w_2.2.2.2.1) (om_167 a1 w_2.2.2.2.2.2)) (cwV 7 hts gX4_bothAt_X4_gatherHeavyOfBoth rfl rfl rfl (by decide +kernel) ⟨Nat.le_of_ble_eq_true rfl, Nat.le_of_ble_eq_true rfl⟩) ⟨fun a U g mk q => by obtain ⟨q0, q1, qP, qK, qD, qn0⟩ := q; exact ⟨q0, q1, qP, va_K.moved (u := U) (U := U.calling g mk a) (Vm.Alike.refl U.vm) qK, qD, va_Nw.same (u := U) (U := U.calling g mk a) rfl rfl qn0⟩, kx_rc4 hKc hPc (q0 := 0) rfl, fun U hU hW => ⟨rfl, by rw [hU], by rw [hU]; exact hPc, va_K.moved hW.alike hKc, hDc.weaken (fun _ _ _ _ => trivial), va_Nw.warmM hW hN0⟩⟩ rfl rfl hl.1 rfl (lv_room (Nat.le_of_ble_eq_true rfl)) dX4_bothAt_38 ⟨Nat.le_of_ble_eq_true rfl, Nat.le_of_ble_eq_true rfl⟩) hS (fun q _ h => hFc q h) hFc (fun u t H1 locs ht hvm w_20 hB hz1 hk1 hS => ?_)
        obtain ⟨o_21, o_22, o_23, o_24, o_25, o_26, o_27, o_28, o_29, o_30⟩ := u
        dsimp only at w_20 hB
        obtain ⟨hP1, hK1, hD1⟩ := hB
        rw [ht] at hP1
        have hK1 := va_K.moved hvm.symm hK1
        obtain ⟨hP, hD⟩ := kx_join (w2 := [kx_a q_lessBy cyI 319 o_12, kx_3 q_joined j_v j_n o_15 o_16 o_17, kx_a j_v cyI 12 o_18, kx_a j_n cyI 12 o_19, kx_4 m_ q_row q_t t_ h0 k0 w_ z_ slots o_5, kx_0 q_row q_cell len, kx_a q_cell cyI 160 f, kx_2 q_t q_row q_joined q_from q_to q_size q_lossOf q_lessBy q_value q_number o_6 o_7, kx_a q_from cyI 319 o_8, kx_a q_to cyI 319 o_9, kx_a q_size cyI 319 o_10, kx_a q_lossOf cyI 319 o_11, kx_a q_value cyI 1914 o_13, kx_a q_number cyI 1914 o_14, kx_3 h0 a_v a_n o_21 o_22 o_23, kx_a a_v cyI 12 o_24, kx_a a_n cyI 12 o_25, kx_3 k0 kv kn o_26 o_27 o_28, kx_a kv cyI 12 o_29, kx_a kn cyI 12 o_30]) hP hD hP1 hD1 hk1 hFc [0, 2, 3, 1, 4, 5, 6, 7, 9, 10, 14, 15, 16, 17, 18, 19] [8, 11, 12, 13] hCc rfl (by decide) (by decide)
        clear hP1 hD1 hK1 hk1 hz1 hFc hDc hPc hKc hCc
        generalize H1 = H at hP hS ⊢
        have w_20 : 0 ≤ o_21.toInt ∧ o_21.toInt ≤ 12 := w_20
        refine lv_iload hx hb dX4_bothAt_41 (lv_at hl 7 rfl) ?_
        refine lv_aload_n hx hb dX4_bothAt_43 rfl (lv_at hl 0 rfl) ?_
        refine va_get (D := (dC, dI)) (ci := 4) (v := .ref h0) (C := RX4) (T := TX4) (N := 9) hx hb hts hi_4 hown hK hP 4 rfl rfl 3 (by decide) hf_35 (fun _ h9 => h9) rfl dX4_bothAt_44 ?_
        refine va_get (D := (dC, dI)) (ci := 3) (v := .int o_21) (C := RX3) (T := TX3) (N := 5) hx hb hts hi_3 hown hK hP 14 rfl rfl 2 (by decide) hf_174 (fun _ h9 => h9) rfl dX4_bothAt_47 ?_
        refine lv_icmp_ge (tgt := 66) hx hb dX4_bothAt_50 (by decide) (fun c_31 => ?_) (fun c_31 => ?_)
        · have i_31 : o_21.toInt ≤ p6.toInt := kc_le c_31
          refine lv_ldc (v := (-40000)) hx hb hown hk_102 dX4_bothAt_66 ?_
          obtain ⟨hP9, hD9⟩ := kx_sub (w2 := [kx_4 m_ q_row q_t t_ h0 k0 w_ z_ slots o_5, kx_2 q_t q_row q_joined q_from q_to q_size q_lossOf q_lessBy q_value q_number o_6 o_7, kx_0 q_row q_cell len, kx_a q_cell cyI 160 f, kx_a q_from cyI 319 o_8, kx_a q_to cyI 319 o_9, kx_a q_size cyI 319 o_10, kx_a q_lossOf cyI 319 o_11, kx_a q_lessBy cyI 319 o_12, kx_a q_value cyI 1914 o_13, kx_a q_number cyI 1914 o_14, kx_3 q_joined j_v j_n o_15 o_16 o_17, kx_a j_v cyI 12 o_18, kx_a j_n cyI 12 o_19, kx_3 h0 a_v a_n o_21 o_22 o_23, kx_a a_v cyI 12 o_24, kx_a a_n cyI 12 o_25, kx_3 k0 kv kn o_26 o_27 o_28, kx_a kv cyI 12 o_29, kx_a kn cyI 12 o_30]) hP hD [4, 7, 5, 6, 8, 9, 10, 11, 0, 12, 13, 1, 2, 3, 14, 15, 16, 17, 18, 19] (by decide) rfl
          have hK9 := hK
          exact W.iret (v := (-40000)) hx hb hr (hlocks := hlocks) (fun t ht hW => ⟨⟨(-40000), (o_5, o_6, o_7, o_8, o_9, o_10, o_11, o_12, o_13, o_14, o_15, o_16, o_17, o_18, o_19, o_21, o_22, o_23, o_24, o_25, o_26, o_27, o_28, o_29, o_30), rfl, ⟨(fun _ => ⟨(by (try dsimp only); omega), (by (try dsimp only); omega), w_4.2.2.2.2⟩), w_4.2.2.2.1⟩, by rw [ht]; exact hP9, va_K.moved hW.alike hK9, hD9⟩, hS.F ht⟩) hS.2.2 dX4_bothAt_68
        · have i_31 : p6.toInt < o_21.toInt := kc_nle c_31
          refine lv_aload_n hx hb dX4_bothAt_53 rfl (lv_at hl 0 rfl) ?_
          refine va_get (D := (dC, dI)) (ci := 4) (v := .ref h0) (C := RX4) (T := TX4) (N := 9) hx hb hts hi_4 hown hK hP 4 rfl rfl 3 (by decide) hf_35 (fun _ h9 => h9) rfl dX4_bothAt_54 ?_
          refine va_get (D := (dC, dI)) (ci := 3) (v := .ref a_v) (C := RX3) (T := TX3) (N := 5) hx hb hts hi_3 hown hK hP 14 rfl rfl 0 (by decide) hf_133 (fun _ h9 => h9) rfl dX4_bothAt_57 ?_
          refine lv_iload hx hb dX4_bothAt_60 (lv_at hl 7 rfl) ?_
          refine va_iald hx hb hK hP 15 0 rfl rfl (ki_in (om_10 i_1) (om_32 w_20.2 i_31)) dX4_bothAt_62 ?_
          refine lv_topi (fun y_32 ey_32 => ?_)
          have j_32 : y_32.toInt = (o_24 p6.toNatClampNeg).toInt := congrArg Int32.toInt ey_32
          refine lv_goto (tgt := 68) hx hb dX4_bothAt_63 (by decide) ?_
          obtain ⟨hP9, hD9⟩ := kx_sub (w2 := [kx_4 m_ q_row q_t t_ h0 k0 w_ z_ slots o_5, kx_2 q_t q_row q_joined q_from q_to q_size q_lossOf q_lessBy q_value q_number o_6 o_7, kx_0 q_row q_cell len, kx_a q_cell cyI 160 f, kx_a q_from cyI 319 o_8, kx_a q_to cyI 319 o_9, kx_a q_size cyI 319 o_10, kx_a q_lossOf cyI 319 o_11, kx_a q_lessBy cyI 319 o_12, kx_a q_value cyI 1914 o_13, kx_a q_number cyI 1914 o_14, kx_3 q_joined j_v j_n o_15 o_16 o_17, kx_a j_v cyI 12 o_18, kx_a j_n cyI 12 o_19, kx_3 h0 a_v a_n o_21 o_22 o_23, kx_a a_v cyI 12 o_24, kx_a a_n cyI 12 o_25, kx_3 k0 kv kn o_26 o_27 o_28, kx_a kv cyI 12 o_29, kx_a kn cyI 12 o_30]) hP hD [4, 7, 5, 6, 8, 9, 10, 11, 0, 12, 13, 1, 2, 3, 14, 15, 16, 17, 18, 19] (by decide) rfl
          have hK9 := hK
          exact W.iret (v := y_32) hx hb hr (hlocks := hlocks) (fun t ht hW => ⟨⟨y_32, (o_5, o_6, o_7, o_8, o_9, o_10, o_11, o_12, o_13, o_14, o_15, o_16, o_17, o_18, o_19, o_21, o_22, o_23, o_24, o_25, o_26, o_27, o_28, o_29, o_30), rfl, ⟨(fun _ => ⟨(by (try dsimp only); omega), (by (try dsimp only); omega), w_4.2.2.2.2⟩), w_4.2.2.2.1⟩, by rw [ht]; exact hP9, va_K.moved hW.alike hK9, hD9⟩, hS.F ht⟩) hS.2.2 dX4_bothAt_68
      · exact absurd c_3 (by decide)
    · have w_2 : (0 : Int) ≤ 1 := w_2
      refine lv_if_eq (tgt := 24) hx hb dX4_bothAt_18 (by decide) (fun c_33 => ?_) (fun c_33 => ?_)
      · exact absurd c_33 (by decide)
      · refine lv_ldc (v := (-40000)) hx hb hown hk_102 dX4_bothAt_21 ?_
        have hP9 := hP
        have hD9 := hD
        have hK9 := hK
        exact W.iret (v := (-40000)) hx hb hr (hlocks := hlocks) (fun t ht hW => ⟨⟨(-40000), (old, nodes, here, ff, ft, fs, fo, fe, uv, un, js, jl, je, jv, jn, vs, lo, le, fv, fn, sb, lb, eb, gb, nb), rfl, ⟨l0, s0⟩, by rw [ht]; exact hP9, va_K.moved hW.alike hK9, hD9⟩, hS.F ht⟩) hS.2.2 dX4_bothAt_23
    · have w_2 : (0 : Int) ≤ 1 := w_2
      refine lv_if_eq (tgt := 24) hx hb dX4_bothAt_18 (by decide) (fun c_34 => ?_) (fun c_34 => ?_)
      · exact absurd c_34 (by decide)
      · refine lv_ldc (v := (-40000)) hx hb hown hk_102 dX4_bothAt_21 ?_
        have hP9 := hP
        have hD9 := hD
        have hK9 := hK
        exact W.iret (v := (-40000)) hx hb hr (hlocks := hlocks) (fun t ht hW => ⟨⟨(-40000), (old, nodes, here, ff, ft, fs, fo, fe, uv, un, js, jl, je, jv, jn, vs, lo, le, fv, fn, sb, lb, eb, gb, nb), rfl, ⟨l0, s0⟩, by rw [ht]; exact hP9, va_K.moved hW.alike hK9, hD9⟩, hS.F ht⟩) hS.2.2 dX4_bothAt_23
    · have w_2 : (0 : Int) ≤ 1 := w_2
      refine lv_if_eq (tgt := 24) hx hb dX4_bothAt_18 (by decide) (fun c_35 => ?_) (fun c_35 => ?_)
      · exact absurd c_35 (by decide)
      · refine lv_ldc (v := (-40000)) hx hb hown hk_102 dX4_bothAt_21 ?_
        have hP9 := hP
        have hD9 := hD
        have hK9 := hK
        exact W.iret (v := (-40000)) hx hb hr (hlocks := hlocks) (fun t ht hW => ⟨⟨(-40000), (old, nodes, here, ff, ft, fs, fo, fe, uv, un, js, jl, je, jv, jn, vs, lo, le, fv, fn, sb, lb, eb, gb, nb), rfl, ⟨l0, s0⟩, by rw [ht]; exact hP9, va_K.moved hW.alike hK9, hD9⟩, hS.F ht⟩) hS.2.2 dX4_bothAt_23

set_option maxHeartbeats 4000000 in
set_option maxRecDepth 100000 in
theorem c_X4_rootTotalWith (l : Launch) (dC : Nat → ClassId) (dI : Nat → Nat → Nat) (m_ : Nat) (q_row : Nat) (q_t : Nat) (t_ : Nat) (h0 : Nat) (k0 : Nat) (w_ : Nat) (z_ : Nat) (slots : Int32) (old : Int32) (q_joined : Nat) (q_from : Nat) (q_to : Nat) (q_size : Nat) (q_lossOf : Nat) (q_lessBy : Nat) (q_value : Nat) (q_number : Nat) (nodes : Int32) (here : Int32) (q_cell : Nat) (cyI : ClassId) (len : Int32) (f : Nat → Int32) (ff : Nat → Int32) (ft : Nat → Int32) (fs : Nat → Int32) (fo : Nat → Int32) (uv : Nat → Int32) (un : Nat → Int32) (fe : Nat → Int32) (j_v : Nat) (j_n : Nat) (js : Int32) (jl : Int32) (je : Int32) (jv : Nat → Int32) (jn : Nat → Int32) (a_v : Nat) (a_n : Nat) (vs : Int32) (lo : Int32) (le : Int32) (fv : Nat → Int32) (fn : Nat → Int32) (p0 : Int32) (p1 : Int32) (sz : Nat) (b0 : 0 ≤ nodes.toInt) (c0 : nodes.toInt ≤ 319) (c1 : len.toInt ≤ 160) (s0 : sixes fs) (t0 : treeOk ff ft nodes.toInt len.toInt) (d0 : 0 ≤ p0.toInt) (d1 : p0.toInt < 160) : kx_MQ l (dC, dI) yX4_rootTotalWith wsX4_rootTotalWith ({ frames := 5, cells := 0, slots := 0, locals := 225 }) [.ref m_, .ref q_t, .int p0, .int p1] [kx_4 m_ q_row q_t t_ h0 k0 w_ z_ slots old, kx_2 q_t q_row q_joined q_from q_to q_size q_lossOf q_lessBy q_value q_number nodes here, kx_0 q_row q_cell len, kx_a q_cell cyI 160 f, kx_a q_from cyI 319 ff, kx_a q_to cyI 319 ft, kx_a q_size cyI 319 fs, kx_a q_lossOf cyI 319 fo, kx_a q_lessBy cyI 319 fe, kx_a q_value cyI 1914 uv, kx_a q_number cyI 1914 un, kx_3 q_joined j_v j_n js jl je, kx_a j_v cyI 12 jv, kx_a j_n cyI 12 jn, kx_3 h0 a_v a_n vs lo le, kx_a a_v cyI 12 fv, kx_a a_n cyI 12 fn] [(cyI, .int)] sz (fun A => va_Qi (fun (r : Int32) (u : (Nat → Int32) × (Nat → Int32) × (Nat → Int32) × (Nat → Int32) × (Nat → Int32) × (Nat → Int32) × Int32 × Int32 × Int32 × (Nat → Int32) × (Nat → Int32) × Int32 × Int32 × Int32 × (Nat → Int32) × (Nat → Int32)) => u.1 = f ∧ sixes u.2.1) (fun (u : (Nat → Int32) × (Nat → Int32) × (Nat → Int32) × (Nat → Int32) × (Nat → Int32) × (Nat → Int32) × Int32 × Int32 × Int32 × (Nat → Int32) × (Nat → Int32) × Int32 × Int32 × Int32 × (Nat → Int32) × (Nat → Int32)) (t : State) => va_P (dC, dI) vwCl [kx_4 m_ q_row q_t t_ h0 k0 w_ z_ slots old, kx_2 q_t q_row q_joined q_from q_to q_size q_lossOf q_lessBy q_value q_number nodes here, kx_0 q_row q_cell len, kx_a q_cell cyI 160 u.1, kx_a q_from cyI 319 ff, kx_a q_to cyI 319 ft, kx_a q_size cyI 319 u.2.1, kx_a q_lossOf cyI 319 u.2.2.1, kx_a q_lessBy cyI 319 u.2.2.2.1, kx_a q_value cyI 1914 u.2.2.2.2.1, kx_a q_number cyI 1914 u.2.2.2.2.2.1, kx_3 q_joined j_v j_n u.2.2.2.2.2.2.1 u.2.2.2.2.2.2.2.1 u.2.2.2.2.2.2.2.2.1, kx_a j_v cyI 12 u.2.2.2.2.2.2.2.2.2.1, kx_a j_n cyI 12 u.2.2.2.2.2.2.2.2.2.2.1, kx_3 h0 a_v a_n u.2.2.2.2.2.2.2.2.2.2.2.1 u.2.2.2.2.2.2.2.2.2.2.2.2.1 u.2.2.2.2.2.2.2.2.2.2.2.2.2.1, kx_a a_v cyI 12 u.2.2.2.2.2.2.2.2.2.2.2.2.2.2.1, kx_a a_n cyI 12 u.2.2.2.2.2.2.2.2.2.2.2.2.2.2.2] t.heap ∧ va_K (dC, dI) vwCl [(cyI, .int)] t ∧ va_D A [kx_4 m_ q_row q_t t_ h0 k0 w_ z_ slots old, kx_2 q_t q_row q_joined q_from q_to q_size q_lossOf q_lessBy q_value q_number nodes here, kx_0 q_row q_cell len, kx_a q_cell cyI 160 u.1, kx_a q_from cyI 319 ff, kx_a q_to cyI 319 ft, kx_a q_size cyI 319 u.2.1, kx_a q_lossOf cyI 319 u.2.2.1, kx_a q_lessBy cyI 319 u.2.2.2.1, kx_a q_value cyI 1914 u.2.2.2.2.1, kx_a q_number cyI 1914 u.2.2.2.2.2.1, kx_3 q_joined j_v j_n u.2.2.2.2.2.2.1 u.2.2.2.2.2.2.2.1 u.2.2.2.2.2.2.2.2.1, kx_a j_v cyI 12 u.2.2.2.2.2.2.2.2.2.1, kx_a j_n cyI 12 u.2.2.2.2.2.2.2.2.2.2.1, kx_3 h0 a_v a_n u.2.2.2.2.2.2.2.2.2.2.2.1 u.2.2.2.2.2.2.2.2.2.2.2.2.1 u.2.2.2.2.2.2.2.2.2.2.2.2.2.1, kx_a a_v cyI 12 u.2.2.2.2.2.2.2.2.2.2.2.2.2.2.1, kx_a a_n cyI 12 u.2.2.2.2.2.2.2.2.2.2.2.2.2.2.2]) A) := by
  refine kx_stQ (ws := wsX4_rootTotalWith) (cc := cX4_rootTotalWith) (maxL := 6) (ret := (some .int)) (by decide) rfl (Nat.le_of_ble_eq_true rfl) ?_
  intro p e s m below meth c A ls hx hb hr hlocks hts hown hml hA hS hP hK hD hl
  have hown : s.vm.findClass RX4 = some m.cls := hown
  have hl : lv_has ls 6 [(0, .ref m_), (1, .ref q_t), (2, .int p0), (3, .int p1)] := hl
  have hf_12 := hts (.fieldLink RX4 12 "MajorityIndex" "row" "LMajorityIndex$Row;") (List.mem_of_getElem? (i := 1) rfl)
  have hi_4 : ∀ w ∈ u_ws RX4 TX4 9, w ∈ wsX4_rootTotalWith := fun w h => List.mem_cons_of_mem _ (List.mem_append_left _ (List.mem_append_left _ (List.mem_append_left _ (List.mem_append_right _ h))))
  have hf_110 := hts (.fieldLink RX4 110 "MajorityIndex$Row" "cell" "[I") (List.mem_of_getElem? (i := 2) rfl)
  have hi_0 : ∀ w ∈ u_ws RX0 TX0 2, w ∈ wsX4_rootTotalWith := fun w h => List.mem_cons_of_mem _ (List.mem_append_left _ (List.mem_append_left _ (List.mem_append_right _ h)))
  have hf_35 := hts (.fieldLink RX4 35 "MajorityIndex" "votes" "LMajorityIndex$Votes;") (List.mem_of_getElem? (i := 3) rfl)
  refine lv_aload_n hx hb dX4_rootTotalWith_0 rfl (lv_at hl 0 rfl) ?_
  refine va_get (D := (dC, dI)) (ci := 4) (v := .ref q_row) (C := RX4) (T := TX4) (N := 9) hx hb hts hi_4 hown hK hP 0 rfl rfl 0 (by decide) hf_12 (fun _ h9 => h9) rfl dX4_rootTotalWith_1 ?_
  refine va_get (D := (dC, dI)) (ci := 0) (v := .ref q_cell) (C := RX0) (T := TX0) (N := 2) hx hb hts hi_0 hown hK hP 2 rfl rfl 0 (by decide) hf_110 (fun _ h9 => h9) rfl dX4_rootTotalWith_4 ?_
  refine lv_iload_n hx hb dX4_rootTotalWith_7 rfl (lv_at hl 2 rfl) ?_
  refine va_iald hx hb hK hP 3 0 rfl rfl (ki_in (om_10 d0) (om_12 d1)) dX4_rootTotalWith_8 ?_
  refine lv_topi (fun y_1 ey_1 => ?_)
  have j_1 : y_1.toInt = (f p0.toNatClampNeg).toInt := congrArg Int32.toInt ey_1
  refine lv_istore (lv' := [(4, .int y_1), (0, .ref m_), (1, .ref q_t), (2, .int p0), (3, .int p1)]) hx hb dX4_rootTotalWith_9 hl (by decide) rfl (fun ls hl => ?_)
  refine lv_aload_n hx hb dX4_rootTotalWith_11 rfl (lv_at hl 1 rfl) ?_
  refine va_get (D := (dC, dI)) (ci := 4) (v := .ref q_row) (C := RX4) (T := TX4) (N := 9) hx hb hts hi_4 hown hK hP 0 rfl rfl 0 (by decide) hf_12 (fun _ h9 => h9) rfl dX4_rootTotalWith_12 ?_
  refine va_get (D := (dC, dI)) (ci := 0) (v := .ref q_cell) (C := RX0) (T := TX0) (N := 2) hx hb hts hi_0 hown hK hP 2 rfl rfl 0 (by decide) hf_110 (fun _ h9 => h9) rfl dX4_rootTotalWith_15 ?_
  refine lv_iload_n hx hb dX4_rootTotalWith_18 rfl (lv_at hl 3 rfl) ?_
  refine lv_iload_n hx hb dX4_rootTotalWith_19 rfl (lv_at hl 4 rfl) ?_
  refine va_iast hx hb hK hP hD hS 3 0 rfl rfl (ki_in (om_10 d0) (om_12 d1)) dX4_rootTotalWith_20 (fun H locs hP hD hS => ?_)
  obtain ⟨hP, hD⟩ := kx_re (w2 := [kx_4 m_ q_row q_t t_ h0 k0 w_ z_ slots old, kx_2 q_t q_row q_joined q_from q_to q_size q_lossOf q_lessBy q_value q_number nodes here, kx_0 q_row q_cell len, kx_a q_cell cyI 160 (upd f p0.toNatClampNeg p1), kx_a q_from cyI 319 ff, kx_a q_to cyI 319 ft, kx_a q_size cyI 319 fs, kx_a q_lossOf cyI 319 fo, kx_a q_lessBy cyI 319 fe, kx_a q_value cyI 1914 uv, kx_a q_number cyI 1914 un, kx_3 q_joined j_v j_n js jl je, kx_a j_v cyI 12 jv, kx_a j_n cyI 12 jn, kx_3 h0 a_v a_n vs lo le, kx_a a_v cyI 12 fv, kx_a a_n cyI 12 fn]) hP hD rfl
  refine lv_aload_n hx hb dX4_rootTotalWith_21 rfl (lv_at hl 2 rfl) ?_
  refine lv_iload_n hx hb dX4_rootTotalWith_22 rfl (lv_at hl 3 rfl) ?_
  refine lv_iload_n hx hb dX4_rootTotalWith_23 rfl (lv_at hl 3 rfl) ?_
  refine lv_iconst (v := 1) hx hb dX4_rootTotalWith_24 (by decide) ?_
  refine lv_iadd hx hb dX4_rootTotalWith_25 ?_
  refine lv_topi (fun y_2 ey_2 => ?_)
  have i_2 : y_2.toInt = p0.toInt + 1 := ki_add ey_2 rfl rfl (om_13 d0) (om_14 d1)
  obtain ⟨hPc, hDc, hFc, hCc⟩ := kx_preM (wc := [kx_2 q_t q_row q_joined q_from q_to q_size q_lossOf q_lessBy q_value q_number nodes here, kx_0 q_row q_cell len, kx_a q_cell cyI 160 (upd f p0.toNatClampNeg p1), kx_a q_from cyI 319 ff, kx_a q_to cyI 319 ft, kx_a q_size cyI 319 fs, kx_a q_lossOf cyI 319 fo, kx_a q_lessBy cyI 319 fe, kx_a q_value cyI 1914 uv, kx_a q_number cyI 1914 un, kx_3 q_joined j_v j_n js jl je, kx_a j_v cyI 12 jv, kx_a j_n cyI 12 jn]) hP hD hS hA [false, true, true, true, true, true, true, true, true, true, true, true, true, true, false, false, false] rfl
  have hKc := hK
  refine va_calli (va_runV (As := [.int p0, .int y_2]) (rest := []) ⟨hx, hb, hml, hown, hts⟩ (kx_un (c_X2_renew l dC dI q_t q_row q_joined q_from q_to q_size q_lossOf q_lessBy q_value q_number nodes here q_cell cyI len (upd f p0.toNatClampNeg p1) ff ft fs fo uv un fe j_v j_n js jl je jv jn p0 y_2 H.size b0 c0 c1 s0 t0)) (cwV 2 hts gX4_rootTotalWith_X2_renew rfl rfl rfl (by decide +kernel) ⟨Nat.le_of_ble_eq_true rfl, Nat.le_of_ble_eq_true rfl⟩) ⟨fun a U g mk q => by obtain ⟨q0, q1, qP, qK, qD⟩ := q; exact ⟨q0, q1, qP, va_K.moved (u := U) (U := U.calling g mk a) (Vm.Alike.refl U.vm) qK, qD⟩, kx_rc2 hKc hPc (q0 := 0) rfl, fun U hU hW => ⟨rfl, by rw [hU], by rw [hU]; exact hPc, va_K.moved hW.alike hKc, hDc.weaken (fun _ _ _ _ => trivial)⟩⟩ rfl rfl hl.1 rfl (lv_room (Nat.le_of_ble_eq_true rfl)) dX4_rootTotalWith_26 ⟨Nat.le_of_ble_eq_true rfl, Nat.le_of_ble_eq_true rfl⟩) hS (fun q _ h => hFc q h) hFc (fun r_3 u t H1 locs ht hvm w_3 hB hz1 hk1 hS => ?_)
  obtain ⟨o_4, o_5, o_6, o_7, o_8, o_9, o_10, o_11, o_12, o_13⟩ := u
  dsimp only at w_3 hB
  obtain ⟨hP1, hK1, hD1⟩ := hB
  rw [ht] at hP1
  have hK1 := va_K.moved hvm.symm hK1
  obtain ⟨hP, hD⟩ := kx_joinM (w2 := [kx_4 m_ q_row q_t t_ h0 k0 w_ z_ slots old, kx_2 q_t q_row q_joined q_from q_to q_size q_lossOf q_lessBy q_value q_number nodes here, kx_0 q_row q_cell len, kx_a q_cell cyI 160 (upd f p0.toNatClampNeg p1), kx_a q_from cyI 319 ff, kx_a q_to cyI 319 ft, kx_a q_size cyI 319 o_4, kx_a q_lossOf cyI 319 o_5, kx_a q_lessBy cyI 319 o_6, kx_a q_value cyI 1914 o_7, kx_a q_number cyI 1914 o_8, kx_3 q_joined j_v j_n o_9 o_10 o_11, kx_a j_v cyI 12 o_12, kx_a j_n cyI 12 o_13, kx_3 h0 a_v a_n vs lo le, kx_a a_v cyI 12 fv, kx_a a_n cyI 12 fn]) hP hD hP1 hD1 hk1 hFc [false, true, true, true, true, true, true, true, true, true, true, true, true, true, false, false, false] hCc rfl
  clear hP1 hD1 hK1 hk1 hz1 hFc hDc hPc hKc hCc
  generalize H1 = H at hP hS ⊢
  have w_3 : sixes o_4 := w_3
  refine lv_pop hx hb dX4_rootTotalWith_29 rfl ?_
  refine lv_aload_n hx hb dX4_rootTotalWith_30 rfl (lv_at hl 2 rfl) ?_
  refine lv_aload_n hx hb dX4_rootTotalWith_31 rfl (lv_at hl 1 rfl) ?_
  refine va_get (D := (dC, dI)) (ci := 4) (v := .ref h0) (C := RX4) (T := TX4) (N := 9) hx hb hts hi_4 hown hK hP 0 rfl rfl 3 (by decide) hf_35 (fun _ h9 => h9) rfl dX4_rootTotalWith_32 ?_
  refine lv_iconst (v := 0) hx hb dX4_rootTotalWith_35 (by decide) ?_
  have k_0 : (0 : Int32).toInt = 0 := rfl
  obtain ⟨hPc, hDc, hFc, hCc⟩ := kx_preM (wc := [kx_2 q_t q_row q_joined q_from q_to q_size q_lossOf q_lessBy q_value q_number nodes here, kx_a q_size cyI 319 o_4, kx_a q_lossOf cyI 319 o_5, kx_a q_value cyI 1914 o_7, kx_a q_number cyI 1914 o_8, kx_3 h0 a_v a_n vs lo le, kx_a a_v cyI 12 fv, kx_a a_n cyI 12 fn]) hP hD hS hA [false, true, false, false, false, false, true, true, false, true, true, false, false, false, true, true, true] rfl
  have hKc := hK
  have k_14 : (0 : Int32).toInt = 0 := rfl
  refine va_callv (va_runV (As := [.ref h0, .int 0]) (rest := []) ⟨hx, hb, hml, hown, hts⟩ (kx_un (c_X2_copyTo l dC dI q_t q_row q_joined q_from q_to q_size q_lossOf q_lessBy q_value q_number nodes here h0 a_v a_n cyI vs lo le fv fn o_4 o_5 o_7 o_8 0 H.size om_35 om_208 w_3)) (cwV 2 hts gX4_rootTotalWith_X2_copyTo rfl rfl rfl (by decide +kernel) ⟨Nat.le_of_ble_eq_true rfl, Nat.le_of_ble_eq_true rfl⟩) ⟨fun a U g mk q => by obtain ⟨q0, q1, qP, qK, qD⟩ := q; exact ⟨q0, q1, qP, va_K.moved (u := U) (U := U.calling g mk a) (Vm.Alike.refl U.vm) qK, qD⟩, kx_rc2 hKc hPc (q0 := 0) rfl, fun U hU hW => ⟨rfl, by rw [hU], by rw [hU]; exact hPc, va_K.moved hW.alike hKc, hDc.weaken (fun _ _ _ _ => trivial)⟩⟩ rfl rfl hl.1 rfl (lv_room (Nat.le_of_ble_eq_true rfl)) dX4_rootTotalWith_36 ⟨Nat.le_of_ble_eq_true rfl, Nat.le_of_ble_eq_true rfl⟩) hS (fun q _ h => hFc q h) hFc (fun u t H1 locs ht hvm w_15 hB hz1 hk1 hS => ?_)
  obtain ⟨o_16, o_17, o_18, o_19⟩ := u
  dsimp only at w_15 hB
  obtain ⟨hP1, hK1, hD1⟩ := hB
  rw [ht] at hP1
  have hK1 := va_K.moved hvm.symm hK1
  obtain ⟨hP, hD⟩ := kx_joinM (w2 := [kx_4 m_ q_row q_t t_ h0 k0 w_ z_ slots old, kx_2 q_t q_row q_joined q_from q_to q_size q_lossOf q_lessBy q_value q_number nodes here, kx_0 q_row q_cell len, kx_a q_cell cyI 160 (upd f p0.toNatClampNeg p1), kx_a q_from cyI 319 ff, kx_a q_to cyI 319 ft, kx_a q_size cyI 319 o_4, kx_a q_lossOf cyI 319 o_5, kx_a q_lessBy cyI 319 o_6, kx_a q_value cyI 1914 o_7, kx_a q_number cyI 1914 o_8, kx_3 q_joined j_v j_n o_9 o_10 o_11, kx_a j_v cyI 12 o_12, kx_a j_n cyI 12 o_13, kx_3 h0 a_v a_n o_16 o_17 0, kx_a a_v cyI 12 o_18, kx_a a_n cyI 12 o_19]) hP hD hP1 hD1 hk1 hFc [false, true, false, false, false, false, true, true, false, true, true, false, false, false, true, true, true] hCc rfl
  clear hP1 hD1 hK1 hk1 hz1 hFc hDc hPc hKc hCc
  generalize H1 = H at hP hS ⊢
  have w_15 : 0 ≤ o_16.toInt ∧ o_16.toInt ≤ 12 := w_15
  refine lv_aload_n hx hb dX4_rootTotalWith_39 rfl (lv_at hl 1 rfl) ?_
  refine va_get (D := (dC, dI)) (ci := 4) (v := .ref h0) (C := RX4) (T := TX4) (N := 9) hx hb hts hi_4 hown hK hP 0 rfl rfl 3 (by decide) hf_35 (fun _ h9 => h9) rfl dX4_rootTotalWith_40 ?_
  have hPc := kx_selP (ws' := [kx_3 h0 a_v a_n o_16 o_17 0, kx_a a_v cyI 12 o_18, kx_a a_n cyI 12 o_19]) hP [false, false, false, false, false, false, false, false, false, false, false, false, false, false, true, true, true] rfl
  have hKc := hK
  refine vp_callSi (W.runV (As := []) (rest := []) ⟨hx, hb, hml, hown, hts⟩ (c_X3_total l dC dI h0 a_v a_n cyI o_16 o_17 0 o_18 o_19 w_15.1 w_15.2) (cwV 0 hts gX4_rootTotalWith_X3_total rfl rfl rfl (by decide +kernel) ⟨Nat.le_of_ble_eq_true rfl, Nat.le_of_ble_eq_true rfl⟩) ⟨fun a U g mk q => by obtain ⟨q0, qP, qK⟩ := q; exact ⟨q0, qP, va_K.moved (u := U) (U := U.calling g mk a) (Vm.Alike.refl U.vm) qK⟩, kx_rc3 hKc hPc (q0 := 0) rfl, fun U hU hW => ⟨rfl, by rw [hU]; exact hPc, va_K.moved hW.alike hKc⟩⟩ rfl rfl hl.1 rfl (lv_room (Nat.le_of_ble_eq_true rfl)) dX4_rootTotalWith_43 ⟨Nat.le_of_ble_eq_true rfl, Nat.le_of_ble_eq_true rfl⟩) (fun r_20 w_20 => ?_)
  refine lv_istore (lv' := [(5, .int r_20), (4, .int y_1), (0, .ref m_), (1, .ref q_t), (2, .int p0), (3, .int p1)]) hx hb dX4_rootTotalWith_46 hl (by decide) rfl (fun ls hl => ?_)
  refine lv_aload_n hx hb dX4_rootTotalWith_48 rfl (lv_at hl 2 rfl) ?_
  refine va_get (D := (dC, dI)) (ci := 4) (v := .ref q_row) (C := RX4) (T := TX4) (N := 9) hx hb hts hi_4 hown hK hP 0 rfl rfl 0 (by decide) hf_12 (fun _ h9 => h9) rfl dX4_rootTotalWith_49 ?_
  refine va_get (D := (dC, dI)) (ci := 0) (v := .ref q_cell) (C := RX0) (T := TX0) (N := 2) hx hb hts hi_0 hown hK hP 2 rfl rfl 0 (by decide) hf_110 (fun _ h9 => h9) rfl dX4_rootTotalWith_52 ?_
  refine lv_iload_n hx hb dX4_rootTotalWith_55 rfl (lv_at hl 4 rfl) ?_
  refine lv_iload hx hb dX4_rootTotalWith_56 (lv_at hl 1 rfl) ?_
  refine va_iast hx hb hK hP hD hS 3 0 rfl rfl (ki_in (om_10 d0) (om_12 d1)) dX4_rootTotalWith_58 (fun H locs hP hD hS => ?_)
  obtain ⟨hP, hD⟩ := kx_re (w2 := [kx_4 m_ q_row q_t t_ h0 k0 w_ z_ slots old, kx_2 q_t q_row q_joined q_from q_to q_size q_lossOf q_lessBy q_value q_number nodes here, kx_0 q_row q_cell len, kx_a q_cell cyI 160 (upd (upd f p0.toNatClampNeg p1) p0.toNatClampNeg y_1), kx_a q_from cyI 319 ff, kx_a q_to cyI 319 ft, kx_a q_size cyI 319 o_4, kx_a q_lossOf cyI 319 o_5, kx_a q_lessBy cyI 319 o_6, kx_a q_value cyI 1914 o_7, kx_a q_number cyI 1914 o_8, kx_3 q_joined j_v j_n o_9 o_10 o_11, kx_a j_v cyI 12 o_12, kx_a j_n cyI 12 o_13, kx_3 h0 a_v a_n o_16 o_17 0, kx_a a_v cyI 12 o_18, kx_a a_n cyI 12 o_19]) hP hD rfl
  refine lv_aload_n hx hb dX4_rootTotalWith_59 rfl (lv_at hl 3 rfl) ?_
  refine lv_iload_n hx hb dX4_rootTotalWith_60 rfl (lv_at hl 4 rfl) ?_
  refine lv_iload_n hx hb dX4_rootTotalWith_61 rfl (lv_at hl 4 rfl) ?_
  refine lv_iconst (v := 1) hx hb dX4_rootTotalWith_62 (by decide) ?_
  refine lv_iadd hx hb dX4_rootTotalWith_63 ?_
  refine lv_topi (fun y_21 ey_21 => ?_)
  have i_21 : y_21.toInt = p0.toInt + 1 := ki_add ey_21 rfl rfl (om_13 d0) (om_14 d1)
  obtain ⟨hPc, hDc, hFc, hCc⟩ := kx_preM (wc := [kx_2 q_t q_row q_joined q_from q_to q_size q_lossOf q_lessBy q_value q_number nodes here, kx_0 q_row q_cell len, kx_a q_cell cyI 160 (upd (upd f p0.toNatClampNeg p1) p0.toNatClampNeg y_1), kx_a q_from cyI 319 ff, kx_a q_to cyI 319 ft, kx_a q_size cyI 319 o_4, kx_a q_lossOf cyI 319 o_5, kx_a q_lessBy cyI 319 o_6, kx_a q_value cyI 1914 o_7, kx_a q_number cyI 1914 o_8, kx_3 q_joined j_v j_n o_9 o_10 o_11, kx_a j_v cyI 12 o_12, kx_a j_n cyI 12 o_13]) hP hD hS hA [false, true, true, true, true, true, true, true, true, true, true, true, true, true, false, false, false] rfl
  have hKc := hK
  refine va_calli (va_runV (As := [.int p0, .int y_21]) (rest := []) ⟨hx, hb, hml, hown, hts⟩ (kx_un (c_X2_renew l dC dI q_t q_row q_joined q_from q_to q_size q_lossOf q_lessBy q_value q_number nodes here q_cell cyI len (upd (upd f p0.toNatClampNeg p1) p0.toNatClampNeg y_1) ff ft o_4 o_5 o_7 o_8 o_6 j_v j_n o_9 o_10 o_11 o_12 o_13 p0 y_21 H.size b0 c0 c1 w_3 t0)) (cwV 2 hts gX4_rootTotalWith_X2_renew rfl rfl rfl (by decide +kernel) ⟨Nat.le_of_ble_eq_true rfl, Nat.le_of_ble_eq_true rfl⟩) ⟨fun a U g mk q => by obtain ⟨q0, q1, qP, qK, qD⟩ := q; exact ⟨q0, q1, qP, va_K.moved (u := U) (U := U.calling g mk a) (Vm.Alike.refl U.vm) qK, qD⟩, kx_rc2 hKc hPc (q0 := 0) rfl, fun U hU hW => ⟨rfl, by rw [hU], by rw [hU]; exact hPc, va_K.moved hW.alike hKc, hDc.weaken (fun _ _ _ _ => trivial)⟩⟩ rfl rfl hl.1 rfl (lv_room (Nat.le_of_ble_eq_true rfl)) dX4_rootTotalWith_64 ⟨Nat.le_of_ble_eq_true rfl, Nat.le_of_ble_eq_true rfl⟩) hS (fun q _ h => hFc q h) hFc (fun r_22 u t H1 locs ht hvm w_22 hB hz1 hk1 hS => ?_)
  obtain ⟨o_23, o_24, o_25, o_26, o_27, o_28, o_29, o_30, o_31, o_32⟩ := u
  dsimp only at w_22 hB
  obtain ⟨hP1, hK1, hD1⟩ := hB
  rw [ht] at hP1
  have hK1 := va_K.moved hvm.symm hK1
  obtain ⟨hP, hD⟩ := kx_joinM (w2 := [kx_4 m_ q_row q_t t_ h0 k0 w_ z_ slots old, kx_2 q_t q_row q_joined q_from q_to q_size q_lossOf q_lessBy q_value q_number nodes here, kx_0 q_row q_cell len, kx_a q_cell cyI 160 (upd (upd f p0.toNatClampNeg p1) p0.toNatClampNeg y_1), kx_a q_from cyI 319 ff, kx_a q_to cyI 319 ft, kx_a q_size cyI 319 o_23, kx_a q_lossOf cyI 319 o_24, kx_a q_lessBy cyI 319 o_25, kx_a q_value cyI 1914 o_26, kx_a q_number cyI 1914 o_27, kx_3 q_joined j_v j_n o_28 o_29 o_30, kx_a j_v cyI 12 o_31, kx_a j_n cyI 12 o_32, kx_3 h0 a_v a_n o_16 o_17 0, kx_a a_v cyI 12 o_18, kx_a a_n cyI 12 o_19]) hP hD hP1 hD1 hk1 hFc [false, true, true, true, true, true, true, true, true, true, true, true, true, true, false, false, false] hCc rfl
  clear hP1 hD1 hK1 hk1 hz1 hFc hDc hPc hKc hCc
  generalize H1 = H at hP hS ⊢
  have w_22 : sixes o_23 := w_22
  refine lv_pop hx hb dX4_rootTotalWith_67 rfl ?_
  refine lv_iload hx hb dX4_rootTotalWith_68 (lv_at hl 0 rfl) ?_
  have hP9 := hP
  have hD9 := hD
  have hK9 := hK
  exact W.iret (v := r_20) hx hb hr (hlocks := hlocks) (fun t ht hW => ⟨⟨r_20, ((upd (upd f p0.toNatClampNeg p1) p0.toNatClampNeg y_1), o_23, o_24, o_25, o_26, o_27, o_28, o_29, o_30, o_31, o_32, o_16, o_17, 0, o_18, o_19), rfl, ⟨(by (try dsimp only); rw [ey_1]; exact upd_back _ _ _), w_22⟩, by rw [ht]; exact hP9, va_K.moved hW.alike hK9, hD9⟩, hS.F ht⟩) hS.2.2 dX4_rootTotalWith_70

set_option maxHeartbeats 4000000 in
set_option maxRecDepth 100000 in
theorem c_X4_swings (l : Launch) (dC : Nat → ClassId) (dI : Nat → Nat → Nat) (m_ : Nat) (q_row : Nat) (q_t : Nat) (t_ : Nat) (h0 : Nat) (k0 : Nat) (w_ : Nat) (z_ : Nat) (slots : Int32) (old : Int32) (q_joined : Nat) (q_from : Nat) (q_to : Nat) (q_size : Nat) (q_lossOf : Nat) (q_lessBy : Nat) (q_value : Nat) (q_number : Nat) (nodes : Int32) (here : Int32) (q_cell : Nat) (cyI : ClassId) (len : Int32) (f : Nat → Int32) (ff : Nat → Int32) (ft : Nat → Int32) (fs : Nat → Int32) (fo : Nat → Int32) (uv : Nat → Int32) (un : Nat → Int32) (fe : Nat → Int32) (j_v : Nat) (j_n : Nat) (js : Int32) (jl : Int32) (je : Int32) (jv : Nat → Int32) (jn : Nat → Int32) (a_v : Nat) (a_n : Nat) (vs : Int32) (lo : Int32) (le : Int32) (fv : Nat → Int32) (fn : Nat → Int32) (p0 : Int32) (p1 : Int32) (p2 : Int32) (p3 : Int32) (sz : Nat) (a0 : 0 ≤ len.toInt) (a1 : len.toInt ≤ 160) (s0 : sixes fs) (l0 : laidP old ff ft nodes len) : kx_MQ l (dC, dI) yX4_swings wsX4_swings ({ frames := 6, cells := 0, slots := 0, locals := 270 }) [.ref m_, .int p0, .int p1, .int p2, .int p3] [kx_4 m_ q_row q_t t_ h0 k0 w_ z_ slots old, kx_2 q_t q_row q_joined q_from q_to q_size q_lossOf q_lessBy q_value q_number nodes here, kx_0 q_row q_cell len, kx_a q_cell cyI 160 f, kx_a q_from cyI 319 ff, kx_a q_to cyI 319 ft, kx_a q_size cyI 319 fs, kx_a q_lossOf cyI 319 fo, kx_a q_lessBy cyI 319 fe, kx_a q_value cyI 1914 uv, kx_a q_number cyI 1914 un, kx_3 q_joined j_v j_n js jl je, kx_a j_v cyI 12 jv, kx_a j_n cyI 12 jn, kx_3 h0 a_v a_n vs lo le, kx_a a_v cyI 12 fv, kx_a a_n cyI 12 fn] [(cyI, .int)] sz (fun A => va_Qi (fun (r : Int32) (u : Int32 × Int32 × Int32 × (Nat → Int32) × (Nat → Int32) × (Nat → Int32) × (Nat → Int32) × (Nat → Int32) × (Nat → Int32) × (Nat → Int32) × Int32 × Int32 × Int32 × (Nat → Int32) × (Nat → Int32) × Int32 × Int32 × Int32 × (Nat → Int32) × (Nat → Int32) × (Nat → Int32)) => laidP u.1 u.2.2.2.1 u.2.2.2.2.1 u.2.1 len ∧ sixes u.2.2.2.2.2.1 ∧ u.2.2.2.2.2.2.2.2.2.2.2.2.2.2.2.2.2.2.2.2 = f) (fun (u : Int32 × Int32 × Int32 × (Nat → Int32) × (Nat → Int32) × (Nat → Int32) × (Nat → Int32) × (Nat → Int32) × (Nat → Int32) × (Nat → Int32) × Int32 × Int32 × Int32 × (Nat → Int32) × (Nat → Int32) × Int32 × Int32 × Int32 × (Nat → Int32) × (Nat → Int32) × (Nat → Int32)) (t : State) => va_P (dC, dI) vwCl [kx_4 m_ q_row q_t t_ h0 k0 w_ z_ slots u.1, kx_2 q_t q_row q_joined q_from q_to q_size q_lossOf q_lessBy q_value q_number u.2.1 u.2.2.1, kx_0 q_row q_cell len, kx_a q_cell cyI 160 u.2.2.2.2.2.2.2.2.2.2.2.2.2.2.2.2.2.2.2.2, kx_a q_from cyI 319 u.2.2.2.1, kx_a q_to cyI 319 u.2.2.2.2.1, kx_a q_size cyI 319 u.2.2.2.2.2.1, kx_a q_lossOf cyI 319 u.2.2.2.2.2.2.1, kx_a q_lessBy cyI 319 u.2.2.2.2.2.2.2.1, kx_a q_value cyI 1914 u.2.2.2.2.2.2.2.2.1, kx_a q_number cyI 1914 u.2.2.2.2.2.2.2.2.2.1, kx_3 q_joined j_v j_n u.2.2.2.2.2.2.2.2.2.2.1 u.2.2.2.2.2.2.2.2.2.2.2.1 u.2.2.2.2.2.2.2.2.2.2.2.2.1, kx_a j_v cyI 12 u.2.2.2.2.2.2.2.2.2.2.2.2.2.1, kx_a j_n cyI 12 u.2.2.2.2.2.2.2.2.2.2.2.2.2.2.1, kx_3 h0 a_v a_n u.2.2.2.2.2.2.2.2.2.2.2.2.2.2.2.1 u.2.2.2.2.2.2.2.2.2.2.2.2.2.2.2.2.1 u.2.2.2.2.2.2.2.2.2.2.2.2.2.2.2.2.2.1, kx_a a_v cyI 12 u.2.2.2.2.2.2.2.2.2.2.2.2.2.2.2.2.2.2.1, kx_a a_n cyI 12 u.2.2.2.2.2.2.2.2.2.2.2.2.2.2.2.2.2.2.2.1] t.heap ∧ va_K (dC, dI) vwCl [(cyI, .int)] t ∧ va_D A [kx_4 m_ q_row q_t t_ h0 k0 w_ z_ slots u.1, kx_2 q_t q_row q_joined q_from q_to q_size q_lossOf q_lessBy q_value q_number u.2.1 u.2.2.1, kx_0 q_row q_cell len, kx_a q_cell cyI 160 u.2.2.2.2.2.2.2.2.2.2.2.2.2.2.2.2.2.2.2.2, kx_a q_from cyI 319 u.2.2.2.1, kx_a q_to cyI 319 u.2.2.2.2.1, kx_a q_size cyI 319 u.2.2.2.2.2.1, kx_a q_lossOf cyI 319 u.2.2.2.2.2.2.1, kx_a q_lessBy cyI 319 u.2.2.2.2.2.2.2.1, kx_a q_value cyI 1914 u.2.2.2.2.2.2.2.2.1, kx_a q_number cyI 1914 u.2.2.2.2.2.2.2.2.2.1, kx_3 q_joined j_v j_n u.2.2.2.2.2.2.2.2.2.2.1 u.2.2.2.2.2.2.2.2.2.2.2.1 u.2.2.2.2.2.2.2.2.2.2.2.2.1, kx_a j_v cyI 12 u.2.2.2.2.2.2.2.2.2.2.2.2.2.1, kx_a j_n cyI 12 u.2.2.2.2.2.2.2.2.2.2.2.2.2.2.1, kx_3 h0 a_v a_n u.2.2.2.2.2.2.2.2.2.2.2.2.2.2.2.1 u.2.2.2.2.2.2.2.2.2.2.2.2.2.2.2.2.1 u.2.2.2.2.2.2.2.2.2.2.2.2.2.2.2.2.2.1, kx_a a_v cyI 12 u.2.2.2.2.2.2.2.2.2.2.2.2.2.2.2.2.2.2.1, kx_a a_n cyI 12 u.2.2.2.2.2.2.2.2.2.2.2.2.2.2.2.2.2.2.2.1]) A) := by
  refine kx_stQ (ws := wsX4_swings) (cc := cX4_swings) (maxL := 10) (ret := (some .int)) (by decide) rfl (Nat.le_of_ble_eq_true rfl) ?_
  intro p e s m below meth c A ls hx hb hr hlocks hts hown hml hA hS hP hK hD hl
  have hown : s.vm.findClass RX4 = some m.cls := hown
  have hl : lv_has ls 10 [(0, .ref m_), (1, .int p0), (2, .int p1), (3, .int p2), (4, .int p3)] := hl
  have hf_12 := hts (.fieldLink RX4 12 "MajorityIndex" "row" "LMajorityIndex$Row;") (List.mem_of_getElem? (i := 1) rfl)
  have hi_4 : ∀ w ∈ u_ws RX4 TX4 9, w ∈ wsX4_swings := fun w h => List.mem_cons_of_mem _ (List.mem_append_left _ (List.mem_append_left _ (List.mem_append_left _ (List.mem_append_right _ h))))
  refine lv_aload_n hx hb dX4_swings_0 rfl (lv_at hl 0 rfl) ?_
  refine va_get (D := (dC, dI)) (ci := 4) (v := .ref q_row) (C := RX4) (T := TX4) (N := 9) hx hb hts hi_4 hown hK hP 0 rfl rfl 0 (by decide) hf_12 (fun _ h9 => h9) rfl dX4_swings_1 ?_
  refine lv_iload_n hx hb dX4_swings_4 rfl (lv_at hl 1 rfl) ?_
  refine lv_iload_n hx hb dX4_swings_5 rfl (lv_at hl 2 rfl) ?_
  have hPc := hP.sub (ws' := [kx_0 q_row q_cell len]) [2] rfl
  have hKc := hK.sub (tys' := []) [] rfl
  refine vp_callSi (W.runV (As := [.int p0, .int p1]) (rest := []) ⟨hx, hb, hml, hown, hts⟩ (c_X0_hasRange l dC dI q_row q_cell len p0 p1) (cwV 2 hts gX4_swings_X0_hasRange rfl rfl rfl (by decide +kernel) ⟨Nat.le_of_ble_eq_true rfl, Nat.le_of_ble_eq_true rfl⟩) ⟨fun a U g mk q => by obtain ⟨q0, qP, qK⟩ := q; exact ⟨q0, qP, va_K.moved (u := U) (U := U.calling g mk a) (Vm.Alike.refl U.vm) qK⟩, kx_rc0 hKc hPc (q0 := 0) rfl, fun U hU hW => ⟨rfl, by rw [hU]; exact hPc, va_K.moved hW.alike hKc⟩⟩ rfl rfl hl.1 rfl (lv_room (Nat.le_of_ble_eq_true rfl)) dX4_swings_6 ⟨Nat.le_of_ble_eq_true rfl, Nat.le_of_ble_eq_true rfl⟩) (fun r_1 w_1 => ?_)
  rcases w_1 with ⟨rfl, w_1⟩ | ⟨rfl, w_1⟩
  · have w_1 : (0 ≤ p0.toInt ∧ p0.toInt < p1.toInt ∧ p1.toInt ≤ len.toInt) := w_1
    refine lv_if_eq (tgt := 38) hx hb dX4_swings_9 (by decide) (fun c_2 => ?_) (fun c_2 => ?_)
    · exact absurd c_2 (by decide)
    · refine lv_iload_n hx hb dX4_swings_12 rfl (lv_at hl 2 rfl) ?_
      refine lv_iload_n hx hb dX4_swings_13 rfl (lv_at hl 1 rfl) ?_
      refine lv_isub hx hb dX4_swings_14 ?_
      refine lv_topi (fun y_3 ey_3 => ?_)
      have i_3 : y_3.toInt = p1.toInt - p0.toInt := ki_sub ey_3 rfl rfl (om_168 w_1.2.1) (om_169 a1 w_1.1 w_1.2.2)
      refine lv_bipush (v := 40) hx hb dX4_swings_15 (by decide) ?_
      refine lv_icmp_gt (tgt := 38) hx hb dX4_swings_17 (by decide) (fun c_4 => ?_) (fun c_4 => ?_)
      · have i_4 : 40 < y_3.toInt := kc_lt c_4
        refine lv_iconst (v := (-1)) hx hb dX4_swings_38 (by decide) ?_
        have hP9 := hP
        have hD9 := hD
        have hK9 := hK
        exact W.iret (v := (-1)) hx hb hr (hlocks := hlocks) (fun t ht hW => ⟨⟨(-1), (old, nodes, here, ff, ft, fs, fo, fe, uv, un, js, jl, je, jv, jn, vs, lo, le, fv, fn, f), rfl, ⟨l0, s0, rfl⟩, by rw [ht]; exact hP9, va_K.moved hW.alike hK9, hD9⟩, hS.F ht⟩) hS.2.2 dX4_swings_39
      · have i_4 : y_3.toInt ≤ 40 := kc_nlt c_4
        refine lv_iload_n hx hb dX4_swings_20 rfl (lv_at hl 3 rfl) ?_
        have hPc := hP.sub (ws' := []) [] rfl
        have hKc := hK.sub (tys' := []) [] rfl
        refine vp_callSi (W.runS (As := [.int p2]) (rest := []) ⟨hx, hb, hml, hown, hts⟩ (c_X4_isValue l dC dI p2) (va_cwS 1 hts gX4_swings_X4_isValue rfl rfl rfl (by decide +kernel) ⟨Nat.le_of_ble_eq_true rfl, Nat.le_of_ble_eq_true rfl⟩) ⟨fun a U g mk q => by obtain ⟨q0, qP, qK⟩ := q; exact ⟨q0, qP, va_K.moved (u := U) (U := U.calling g mk a) (Vm.Alike.refl U.vm) qK⟩, fun U hU hW => ⟨rfl, by rw [hU]; exact hPc, va_K.moved hW.alike hKc⟩⟩ rfl rfl hl.1 rfl (lv_room (Nat.le_of_ble_eq_true rfl)) dX4_swings_21 ⟨Nat.le_of_ble_eq_true rfl, Nat.le_of_ble_eq_true rfl⟩) (fun r_5 w_5 => ?_)
        rcases w_5 with ⟨rfl, w_5⟩ | ⟨rfl, w_5⟩
        · have w_5 : (-32768 ≤ p2.toInt ∧ p2.toInt ≤ 32767) := w_5
          refine lv_if_eq (tgt := 38) hx hb dX4_swings_24 (by decide) (fun c_6 => ?_) (fun c_6 => ?_)
          · exact absurd c_6 (by decide)
          · refine lv_iload hx hb dX4_swings_27 (lv_at hl 4 rfl) ?_
            refine lv_if_lt (tgt := 38) hx hb dX4_swings_29 (by decide) (fun c_7 => ?_) (fun c_7 => ?_)
            · have i_7 : p3.toInt < 0 := kc_lt c_7
              refine lv_iconst (v := (-1)) hx hb dX4_swings_38 (by decide) ?_
              have hP9 := hP
              have hD9 := hD
              have hK9 := hK
              exact W.iret (v := (-1)) hx hb hr (hlocks := hlocks) (fun t ht hW => ⟨⟨(-1), (old, nodes, here, ff, ft, fs, fo, fe, uv, un, js, jl, je, jv, jn, vs, lo, le, fv, fn, f), rfl, ⟨l0, s0, rfl⟩, by rw [ht]; exact hP9, va_K.moved hW.alike hK9, hD9⟩, hS.F ht⟩) hS.2.2 dX4_swings_39
            · have i_7 : 0 ≤ p3.toInt := kc_nlt c_7
              refine lv_iload hx hb dX4_swings_32 (lv_at hl 4 rfl) ?_
              refine lv_iconst (v := 1) hx hb dX4_swings_34 (by decide) ?_
              refine lv_icmp_le (tgt := 40) hx hb dX4_swings_35 (by decide) (fun c_8 => ?_) (fun c_8 => ?_)
              · have i_8 : p3.toInt ≤ 1 := kc_le c_8
                refine lv_aload_n hx hb dX4_swings_40 rfl (lv_at hl 0 rfl) ?_
                obtain ⟨hPc, hDc, hFc, hCc⟩ := kx_preM (wc := [kx_4 m_ q_row q_t t_ h0 k0 w_ z_ slots old, kx_2 q_t q_row q_joined q_from q_to q_size q_lossOf q_lessBy q_value q_number nodes here, kx_0 q_row q_cell len, kx_a q_cell cyI 160 f, kx_a q_from cyI 319 ff, kx_a q_to cyI 319 ft, kx_a q_size cyI 319 fs, kx_a q_lossOf cyI 319 fo, kx_a q_lessBy cyI 319 fe, kx_a q_value cyI 1914 uv, kx_a q_number cyI 1914 un, kx_3 q_joined j_v j_n js jl je, kx_a j_v cyI 12 jv, kx_a j_n cyI 12 jn]) hP hD hS hA [true, true, true, true, true, true, true, true, true, true, true, true, true, true, false, false, false] rfl
                have hKc := hK
                refine va_callr (va_runV (As := []) (rest := []) ⟨hx, hb, hml, hown, hts⟩ (kx_un (c_X4_laidTree l dC dI m_ q_row q_t t_ h0 k0 w_ z_ slots old q_joined q_from q_to q_size q_lossOf q_lessBy q_value q_number nodes here q_cell cyI len f ff ft fs fo uv un fe j_v j_n js jl je jv jn s.heap.size a0 a1 s0 l0)) (cwV 0 hts gX4_swings_X4_laidTree rfl rfl rfl (by decide +kernel) ⟨Nat.le_of_ble_eq_true rfl, Nat.le_of_ble_eq_true rfl⟩) ⟨fun a U g mk q => by obtain ⟨q0, q1, qP, qK, qD⟩ := q; exact ⟨q0, q1, qP, va_K.moved (u := U) (U := U.calling g mk a) (Vm.Alike.refl U.vm) qK, qD⟩, kx_rc4 hKc hPc (q0 := 0) rfl, fun U hU hW => ⟨rfl, by rw [hU], by rw [hU]; exact hPc, va_K.moved hW.alike hKc, hDc.weaken (fun _ _ _ _ => trivial)⟩⟩ rfl rfl hl.1 rfl (lv_room (Nat.le_of_ble_eq_true rfl)) dX4_swings_41 ⟨Nat.le_of_ble_eq_true rfl, Nat.le_of_ble_eq_true rfl⟩) hS (fun q _ h => hFc q h) hFc (fun u ra t H1 locs ht hvm w_9 hB hz1 hk1 hS => ?_)
                obtain ⟨o_10, o_11, o_12, o_13, o_14, o_15, o_16, o_17, o_18, o_19, o_20, o_21, o_22, o_23, o_24⟩ := u
                dsimp only at w_9 hB
                obtain ⟨er, hP1, hK1, hD1⟩ := hB
                rw [ht] at hP1
                have hK1 := va_K.moved hvm.symm hK1
                obtain ⟨hP, hD⟩ := kx_joinM (w2 := [kx_4 m_ q_row q_t t_ h0 k0 w_ z_ slots o_10, kx_2 q_t q_row q_joined q_from q_to q_size q_lossOf q_lessBy q_value q_number o_11 o_12, kx_0 q_row q_cell len, kx_a q_cell cyI 160 f, kx_a q_from cyI 319 o_13, kx_a q_to cyI 319 o_14, kx_a q_size cyI 319 o_15, kx_a q_lossOf cyI 319 o_16, kx_a q_lessBy cyI 319 o_17, kx_a q_value cyI 1914 o_18, kx_a q_number cyI 1914 o_19, kx_3 q_joined j_v j_n o_20 o_21 o_22, kx_a j_v cyI 12 o_23, kx_a j_n cyI 12 o_24, kx_3 h0 a_v a_n vs lo le, kx_a a_v cyI 12 fv, kx_a a_n cyI 12 fn]) hP hD hP1 hD1 hk1 hFc [true, true, true, true, true, true, true, true, true, true, true, true, true, true, false, false, false] hCc rfl
                clear hP1 hD1 hK1 hk1 hz1 hFc hDc hPc hKc hCc
                generalize H1 = H at hP hS ⊢
                have w_9 : o_10.toInt = 0 ∧ 0 ≤ o_11.toInt ∧ o_11.toInt ≤ 319 ∧ sixes o_15 ∧ treeOk o_13 o_14 o_11.toInt len.toInt := w_9
                rw [er]
                refine lv_astore (lv' := [(5, .ref q_t), (0, .ref m_), (1, .int p0), (2, .int p1), (3, .int p2), (4, .int p3)]) hx hb dX4_swings_44 hl (by decide) rfl (fun ls hl => ?_)
                refine lv_iconst (v := (-1)) hx hb dX4_swings_46 (by decide) ?_
                refine lv_istore (lv' := [(6, .int (-1)), (5, .ref q_t), (0, .ref m_), (1, .int p0), (2, .int p1), (3, .int p2), (4, .int p3)]) hx hb dX4_swings_47 hl (by decide) rfl (fun ls hl => ?_)
                refine lv_iconst (v := (-1)) hx hb dX4_swings_49 (by decide) ?_
                refine lv_istore (lv' := [(7, .int (-1)), (6, .int (-1)), (5, .ref q_t), (0, .ref m_), (1, .int p0), (2, .int p1), (3, .int p2), (4, .int p3)]) hx hb dX4_swings_50 hl (by decide) rfl (fun ls hl => ?_)
                refine lv_iload_n hx hb dX4_swings_52 rfl (lv_at hl 4 rfl) ?_
                refine lv_istore (lv' := [(8, .int p0), (7, .int (-1)), (6, .int (-1)), (5, .ref q_t), (0, .ref m_), (1, .int p0), (2, .int p1), (3, .int p2), (4, .int p3)]) hx hb dX4_swings_53 hl (by decide) rfl (fun ls hl => ?_)
                have LP1 : ∀ (n : Nat) (i : Int32) (bp : Int32) (bt : Int32) (gc : Nat → Int32) (g_s : Nat → Int32) (g_o : Nat → Int32) (g_e : Nat → Int32) (g_v : Nat → Int32) (g_n : Nat → Int32) (g_js : Int32) (g_jl : Int32) (g_je : Int32) (g_jv : Nat → Int32) (g_jn : Nat → Int32) (g_vs : Int32) (g_vl : Int32) (g_ve : Int32) (g_vv : Nat → Int32) (g_vn : Nat → Int32), (p0.toInt ≤ i.toInt) → (sixes g_s) → (gc = f) → (p1.toInt - i.toInt).toNat < n → ∀ (H : Heap) (locs : List Loc), va_P (dC, dI) vwCl [kx_4 m_ q_row q_t t_ h0 k0 w_ z_ slots o_10, kx_2 q_t q_row q_joined q_from q_to q_size q_lossOf q_lessBy q_value q_number o_11 o_12, kx_0 q_row q_cell len, kx_a q_cell cyI 160 gc, kx_a q_from cyI 319 o_13, kx_a q_to cyI 319 o_14, kx_a q_size cyI 319 g_s, kx_a q_lossOf cyI 319 g_o, kx_a q_lessBy cyI 319 g_e, kx_a q_value cyI 1914 g_v, kx_a q_number cyI 1914 g_n, kx_3 q_joined j_v j_n g_js g_jl g_je, kx_a j_v cyI 12 g_jv, kx_a j_n cyI 12 g_jn, kx_3 h0 a_v a_n g_vs g_vl g_ve, kx_a a_v cyI 12 g_vv, kx_a a_n cyI 12 g_vn] H → va_D A [kx_4 m_ q_row q_t t_ h0 k0 w_ z_ slots o_10, kx_2 q_t q_row q_joined q_from q_to q_size q_lossOf q_lessBy q_value q_number o_11 o_12, kx_0 q_row q_cell len, kx_a q_cell cyI 160 gc, kx_a q_from cyI 319 o_13, kx_a q_to cyI 319 o_14, kx_a q_size cyI 319 g_s, kx_a q_lossOf cyI 319 g_o, kx_a q_lessBy cyI 319 g_e, kx_a q_value cyI 1914 g_v, kx_a q_number cyI 1914 g_n, kx_3 q_joined j_v j_n g_js g_jl g_je, kx_a j_v cyI 12 g_jv, kx_a j_n cyI 12 g_jn, kx_3 h0 a_v a_n g_vs g_vl g_ve, kx_a a_v cyI 12 g_vv, kx_a a_n cyI 12 g_vn] → va_S A s.heap H locs → ∀ (ls : Array Slot), lv_has ls 10 [(8, .int i), (7, .int bt), (6, .int bp), (5, .ref q_t), (0, .ref m_), (1, .int p0), (2, .int p1), (3, .int p2), (4, .int p3)] → W p l e (headSpec wsX4_swings ({ frames := 6, cells := 0, slots := 0, locals := 270 })).room s m ([.ref m_, .int p0, .int p1, .int p2, .int p3] : List Value).toArray below meth c H locs 0 0 (MQ below (va_Qi (fun (r : Int32) (u : Int32 × Int32 × Int32 × (Nat → Int32) × (Nat → Int32) × (Nat → Int32) × (Nat → Int32) × (Nat → Int32) × (Nat → Int32) × (Nat → Int32) × Int32 × Int32 × Int32 × (Nat → Int32) × (Nat → Int32) × Int32 × Int32 × Int32 × (Nat → Int32) × (Nat → Int32) × (Nat → Int32)) => laidP u.1 u.2.2.2.1 u.2.2.2.2.1 u.2.1 len ∧ sixes u.2.2.2.2.2.1 ∧ u.2.2.2.2.2.2.2.2.2.2.2.2.2.2.2.2.2.2.2.2 = f) (fun (u : Int32 × Int32 × Int32 × (Nat → Int32) × (Nat → Int32) × (Nat → Int32) × (Nat → Int32) × (Nat → Int32) × (Nat → Int32) × (Nat → Int32) × Int32 × Int32 × Int32 × (Nat → Int32) × (Nat → Int32) × Int32 × Int32 × Int32 × (Nat → Int32) × (Nat → Int32) × (Nat → Int32)) (t : State) => va_P (dC, dI) vwCl [kx_4 m_ q_row q_t t_ h0 k0 w_ z_ slots u.1, kx_2 q_t q_row q_joined q_from q_to q_size q_lossOf q_lessBy q_value q_number u.2.1 u.2.2.1, kx_0 q_row q_cell len, kx_a q_cell cyI 160 u.2.2.2.2.2.2.2.2.2.2.2.2.2.2.2.2.2.2.2.2, kx_a q_from cyI 319 u.2.2.2.1, kx_a q_to cyI 319 u.2.2.2.2.1, kx_a q_size cyI 319 u.2.2.2.2.2.1, kx_a q_lossOf cyI 319 u.2.2.2.2.2.2.1, kx_a q_lessBy cyI 319 u.2.2.2.2.2.2.2.1, kx_a q_value cyI 1914 u.2.2.2.2.2.2.2.2.1, kx_a q_number cyI 1914 u.2.2.2.2.2.2.2.2.2.1, kx_3 q_joined j_v j_n u.2.2.2.2.2.2.2.2.2.2.1 u.2.2.2.2.2.2.2.2.2.2.2.1 u.2.2.2.2.2.2.2.2.2.2.2.2.1, kx_a j_v cyI 12 u.2.2.2.2.2.2.2.2.2.2.2.2.2.1, kx_a j_n cyI 12 u.2.2.2.2.2.2.2.2.2.2.2.2.2.2.1, kx_3 h0 a_v a_n u.2.2.2.2.2.2.2.2.2.2.2.2.2.2.2.1 u.2.2.2.2.2.2.2.2.2.2.2.2.2.2.2.2.1 u.2.2.2.2.2.2.2.2.2.2.2.2.2.2.2.2.2.1, kx_a a_v cyI 12 u.2.2.2.2.2.2.2.2.2.2.2.2.2.2.2.2.2.2.1, kx_a a_n cyI 12 u.2.2.2.2.2.2.2.2.2.2.2.2.2.2.2.2.2.2.2.1] t.heap ∧ va_K (dC, dI) vwCl [(cyI, .int)] t ∧ va_D A [kx_4 m_ q_row q_t t_ h0 k0 w_ z_ slots u.1, kx_2 q_t q_row q_joined q_from q_to q_size q_lossOf q_lessBy q_value q_number u.2.1 u.2.2.1, kx_0 q_row q_cell len, kx_a q_cell cyI 160 u.2.2.2.2.2.2.2.2.2.2.2.2.2.2.2.2.2.2.2.2, kx_a q_from cyI 319 u.2.2.2.1, kx_a q_to cyI 319 u.2.2.2.2.1, kx_a q_size cyI 319 u.2.2.2.2.2.1, kx_a q_lossOf cyI 319 u.2.2.2.2.2.2.1, kx_a q_lessBy cyI 319 u.2.2.2.2.2.2.2.1, kx_a q_value cyI 1914 u.2.2.2.2.2.2.2.2.1, kx_a q_number cyI 1914 u.2.2.2.2.2.2.2.2.2.1, kx_3 q_joined j_v j_n u.2.2.2.2.2.2.2.2.2.2.1 u.2.2.2.2.2.2.2.2.2.2.2.1 u.2.2.2.2.2.2.2.2.2.2.2.2.1, kx_a j_v cyI 12 u.2.2.2.2.2.2.2.2.2.2.2.2.2.1, kx_a j_n cyI 12 u.2.2.2.2.2.2.2.2.2.2.2.2.2.2.1, kx_3 h0 a_v a_n u.2.2.2.2.2.2.2.2.2.2.2.2.2.2.2.1 u.2.2.2.2.2.2.2.2.2.2.2.2.2.2.2.2.1 u.2.2.2.2.2.2.2.2.2.2.2.2.2.2.2.2.2.1, kx_a a_v cyI 12 u.2.2.2.2.2.2.2.2.2.2.2.2.2.2.2.2.2.2.1, kx_a a_n cyI 12 u.2.2.2.2.2.2.2.2.2.2.2.2.2.2.2.2.2.2.2.1]) A) ([.ref m_, .int p0, .int p1, .int p2, .int p3] : List Value).toArray s 0 0 A) (F0 m 55 ls []) := by
                  intro n
                  induction n with
                  | zero => intro i bp bt gc g_s g_o g_e g_v g_n g_js g_jl g_je g_jv g_jn g_vs g_vl g_ve g_vv g_vn LP1_h0 LP1_h1 LP1_h2 hn; exact absurd hn (Nat.not_lt_zero _)
                  | succ n ih1 =>
                    intro i bp bt gc g_s g_o g_e g_v g_n g_js g_jl g_je g_jv g_jn g_vs g_vl g_ve g_vv g_vn LP1_h0 LP1_h1 LP1_h2 hn1 H locs hP hD hS ls hl
                    refine lv_iload hx hb dX4_swings_55 (lv_at hl 0 rfl) ?_
                    refine lv_iload_n hx hb dX4_swings_57 rfl (lv_at hl 6 rfl) ?_
                    refine lv_icmp_ge (tgt := 93) hx hb dX4_swings_58 (by decide) (fun c_25 => ?_) (fun c_25 => ?_)
                    · have i_25 : p1.toInt ≤ i.toInt := kc_le c_25
                      refine lv_iload hx hb dX4_swings_93 (lv_at hl 8 rfl) ?_
                      refine lv_if_ne (tgt := 103) hx hb dX4_swings_95 (by decide) (fun c_26 => ?_) (fun c_26 => ?_)
                      · have i_26 : ¬ p3.toInt = 0 := kc_ne c_26
                        refine lv_iload hx hb dX4_swings_103 (lv_at hl 1 rfl) ?_
                        have hP9 := hP
                        have hD9 := hD
                        have hK9 := hK
                        exact W.iret (v := bt) hx hb hr (hlocks := hlocks) (fun t ht hW => ⟨⟨bt, (o_10, o_11, o_12, o_13, o_14, g_s, g_o, g_e, g_v, g_n, g_js, g_jl, g_je, g_jv, g_jn, g_vs, g_vl, g_ve, g_vv, g_vn, gc), rfl, ⟨(fun _ => ⟨(by (try dsimp only); omega), (by (try dsimp only); omega), w_9.2.2.2.2⟩), LP1_h1, LP1_h2⟩, by rw [ht]; exact hP9, va_K.moved hW.alike hK9, hD9⟩, hS.F ht⟩) hS.2.2 dX4_swings_105
                      · have i_26 : p3.toInt = 0 := kc_eq c_26
                        refine lv_iload hx hb dX4_swings_98 (lv_at hl 2 rfl) ?_
                        refine lv_goto (tgt := 105) hx hb dX4_swings_100 (by decide) ?_
                        have hP9 := hP
                        have hD9 := hD
                        have hK9 := hK
                        exact W.iret (v := bp) hx hb hr (hlocks := hlocks) (fun t ht hW => ⟨⟨bp, (o_10, o_11, o_12, o_13, o_14, g_s, g_o, g_e, g_v, g_n, g_js, g_jl, g_je, g_jv, g_jn, g_vs, g_vl, g_ve, g_vv, g_vn, gc), rfl, ⟨(fun _ => ⟨(by (try dsimp only); omega), (by (try dsimp only); omega), w_9.2.2.2.2⟩), LP1_h1, LP1_h2⟩, by rw [ht]; exact hP9, va_K.moved hW.alike hK9, hD9⟩, hS.F ht⟩) hS.2.2 dX4_swings_105
                    · have i_25 : i.toInt < p1.toInt := kc_nle c_25
                      refine lv_aload_n hx hb dX4_swings_61 rfl (lv_at hl 4 rfl) ?_
                      refine lv_aload hx hb dX4_swings_62 (lv_at hl 3 rfl) ?_
                      refine lv_iload hx hb dX4_swings_64 (lv_at hl 0 rfl) ?_
                      refine lv_iload_n hx hb dX4_swings_66 rfl (lv_at hl 7 rfl) ?_
                      have hPc := hP
                      have hKc := hK
                      have hDc := hD
                      have hFc := kx_free hD hS hA
                      refine va_calli (va_runV (As := [.ref q_t, .int i, .int p2]) (rest := []) ⟨hx, hb, hml, hown, hts⟩ (kx_un (c_X4_rootTotalWith l dC dI m_ q_row q_t t_ h0 k0 w_ z_ slots o_10 q_joined q_from q_to q_size q_lossOf q_lessBy q_value q_number o_11 o_12 q_cell cyI len gc o_13 o_14 g_s g_o g_v g_n g_e j_v j_n g_js g_jl g_je g_jv g_jn a_v a_n g_vs g_vl g_ve g_vv g_vn i p2 H.size w_9.2.1 w_9.2.2.1 a1 LP1_h1 w_9.2.2.2.2 (om_0 w_1.1 LP1_h0) (om_209 a1 w_1.2.2 i_25))) (cwV 3 hts gX4_swings_X4_rootTotalWith rfl rfl rfl (by decide +kernel) ⟨Nat.le_of_ble_eq_true rfl, Nat.le_of_ble_eq_true rfl⟩) ⟨fun a U g mk q => by obtain ⟨q0, q1, qP, qK, qD⟩ := q; exact ⟨q0, q1, qP, va_K.moved (u := U) (U := U.calling g mk a) (Vm.Alike.refl U.vm) qK, qD⟩, kx_rc4 hKc hPc (q0 := 0) rfl, fun U hU hW => ⟨rfl, by rw [hU], by rw [hU]; exact hPc, va_K.moved hW.alike hKc, hDc.weaken (fun _ _ _ _ => trivial)⟩⟩ rfl rfl hl.1 rfl (lv_room (Nat.le_of_ble_eq_true rfl)) dX4_swings_67 ⟨Nat.le_of_ble_eq_true rfl, Nat.le_of_ble_eq_true rfl⟩) hS (fun q _ h => hFc q h) hFc (fun r_27 u t H1 locs ht hvm w_27 hB hz1 hk1 hS => ?_)
                      obtain ⟨o_28, o_29, o_30, o_31, o_32, o_33, o_34, o_35, o_36, o_37, o_38, o_39, o_40, o_41, o_42, o_43⟩ := u
                      dsimp only at w_27 hB
                      obtain ⟨hP1, hK1, hD1⟩ := hB
                      rw [ht] at hP1
                      have hK1 := va_K.moved hvm.symm hK1
                      have hD := hD1.weaken (fun _ q _ h => hFc q.1 h)
                      have hP := hP1
                      clear hP1 hD1 hK1 hk1 hz1 hFc hDc hPc hKc
                      generalize H1 = H at hP hS ⊢
                      have w_27 : o_28 = gc ∧ sixes o_29 := w_27
                      refine lv_istore (lv' := [(9, .int r_27), (8, .int i), (7, .int bt), (6, .int bp), (5, .ref q_t), (0, .ref m_), (1, .int p0), (2, .int p1), (3, .int p2), (4, .int p3)]) hx hb dX4_swings_70 hl (by decide) rfl (fun ls hl => ?_)
                      refine lv_iload hx hb dX4_swings_72 (lv_at hl 0 rfl) ?_
                      refine lv_iload hx hb dX4_swings_74 (lv_at hl 2 rfl) ?_
                      refine lv_icmp_le (tgt := 87) hx hb dX4_swings_76 (by decide) (fun c_44 => ?_) (fun c_44 => ?_)
                      · have i_44 : r_27.toInt ≤ bt.toInt := kc_le c_44
                        obtain ⟨x_45, ex_45⟩ : ∃ y : Int32, y = i + 1 := ⟨_, rfl⟩
                        have i_45 : x_45.toInt = i.toInt + 1 := ki_add ex_45 rfl rfl (om_2 w_1.1 LP1_h0) (om_172 a1 w_1.2.2 i_25)
                        refine lv_iinc (v := x_45) (lv' := [(8, .int x_45), (9, .int r_27), (7, .int bt), (6, .int bp), (5, .ref q_t), (0, .ref m_), (1, .int p0), (2, .int p1), (3, .int p2), (4, .int p3)]) hx hb dX4_swings_87 hl (k := 1) rfl (by rw [ex_45]; rfl) (by decide) rfl (fun ls hl => ?_)
                        refine lv_goto (tgt := 55) hx hb dX4_swings_90 (by decide) ?_
                        exact ih1 x_45 bp bt o_28 o_29 o_30 o_31 o_32 o_33 o_34 o_35 o_36 o_37 o_38 o_39 o_40 o_41 o_42 o_43 (om_4 LP1_h0 i_45) w_27.2 (w_27.1.trans LP1_h2) (om_mu hn1 (om_5 i_45) (om_6 i_25)) _ _ hP hD hS ls (lv_sub hl [0, 2, 3, 4, 5, 6, 7, 8, 9] rfl)
                      · have i_44 : bt.toInt < r_27.toInt := kc_nle c_44
                        refine lv_iload hx hb dX4_swings_79 (lv_at hl 1 rfl) ?_
                        refine lv_istore (lv' := [(6, .int i), (9, .int r_27), (8, .int i), (7, .int bt), (5, .ref q_t), (0, .ref m_), (1, .int p0), (2, .int p1), (3, .int p2), (4, .int p3)]) hx hb dX4_swings_81 hl (by decide) rfl (fun ls hl => ?_)
                        refine lv_iload hx hb dX4_swings_83 (lv_at hl 1 rfl) ?_
                        refine lv_istore (lv' := [(7, .int r_27), (6, .int i), (9, .int r_27), (8, .int i), (5, .ref q_t), (0, .ref m_), (1, .int p0), (2, .int p1), (3, .int p2), (4, .int p3)]) hx hb dX4_swings_85 hl (by decide) rfl (fun ls hl => ?_)
                        obtain ⟨x_46, ex_46⟩ : ∃ y : Int32, y = i + 1 := ⟨_, rfl⟩
                        have i_46 : x_46.toInt = i.toInt + 1 := ki_add ex_46 rfl rfl (om_2 w_1.1 LP1_h0) (om_172 a1 w_1.2.2 i_25)
                        refine lv_iinc (v := x_46) (lv' := [(8, .int x_46), (7, .int r_27), (6, .int i), (9, .int r_27), (5, .ref q_t), (0, .ref m_), (1, .int p0), (2, .int p1), (3, .int p2), (4, .int p3)]) hx hb dX4_swings_87 hl (k := 3) rfl (by rw [ex_46]; rfl) (by decide) rfl (fun ls hl => ?_)
                        refine lv_goto (tgt := 55) hx hb dX4_swings_90 (by decide) ?_
                        exact ih1 x_46 i r_27 o_28 o_29 o_30 o_31 o_32 o_33 o_34 o_35 o_36 o_37 o_38 o_39 o_40 o_41 o_42 o_43 (om_4 LP1_h0 i_46) w_27.2 (w_27.1.trans LP1_h2) (om_mu hn1 (om_5 i_46) (om_6 i_25)) _ _ hP hD hS ls (lv_sub hl [0, 1, 2, 4, 5, 6, 7, 8, 9] rfl)
                have k_47 : ((-1) : Int32).toInt = -1 := rfl
                have k_48 : ((-1) : Int32).toInt = -1 := rfl
                exact LP1 ((p1.toInt - p0.toInt : Int).toNat + 1) p0 (-1) (-1) f o_15 o_16 o_17 o_18 o_19 o_20 o_21 o_22 o_23 o_24 vs lo le fv fn om_7 w_9.2.2.2.1 rfl (Nat.lt_succ_self _) _ _ hP hD hS ls (lv_sub hl [0, 1, 2, 3, 4, 5, 6, 7, 8] rfl)
              · have i_8 : 1 < p3.toInt := kc_nle c_8
                refine lv_iconst (v := (-1)) hx hb dX4_swings_38 (by decide) ?_
                have hP9 := hP
                have hD9 := hD
                have hK9 := hK
                exact W.iret (v := (-1)) hx hb hr (hlocks := hlocks) (fun t ht hW => ⟨⟨(-1), (old, nodes, here, ff, ft, fs, fo, fe, uv, un, js, jl, je, jv, jn, vs, lo, le, fv, fn, f), rfl, ⟨l0, s0, rfl⟩, by rw [ht]; exact hP9, va_K.moved hW.alike hK9, hD9⟩, hS.F ht⟩) hS.2.2 dX4_swings_39
        · have w_5 : (p2.toInt < -32768 ∨ 32767 < p2.toInt) := w_5
          refine lv_if_eq (tgt := 38) hx hb dX4_swings_24 (by decide) (fun c_49 => ?_) (fun c_49 => ?_)
          · refine lv_iconst (v := (-1)) hx hb dX4_swings_38 (by decide) ?_
            have hP9 := hP
            have hD9 := hD
            have hK9 := hK
            exact W.iret (v := (-1)) hx hb hr (hlocks := hlocks) (fun t ht hW => ⟨⟨(-1), (old, nodes, here, ff, ft, fs, fo, fe, uv, un, js, jl, je, jv, jn, vs, lo, le, fv, fn, f), rfl, ⟨l0, s0, rfl⟩, by rw [ht]; exact hP9, va_K.moved hW.alike hK9, hD9⟩, hS.F ht⟩) hS.2.2 dX4_swings_39
          · exact absurd c_49 (by decide)
  · have w_1 : (p0.toInt < 0 ∨ p1.toInt ≤ p0.toInt ∨ len.toInt < p1.toInt) := w_1
    refine lv_if_eq (tgt := 38) hx hb dX4_swings_9 (by decide) (fun c_50 => ?_) (fun c_50 => ?_)
    · refine lv_iconst (v := (-1)) hx hb dX4_swings_38 (by decide) ?_
      have hP9 := hP
      have hD9 := hD
      have hK9 := hK
      exact W.iret (v := (-1)) hx hb hr (hlocks := hlocks) (fun t ht hW => ⟨⟨(-1), (old, nodes, here, ff, ft, fs, fo, fe, uv, un, js, jl, je, jv, jn, vs, lo, le, fv, fn, f), rfl, ⟨l0, s0, rfl⟩, by rw [ht]; exact hP9, va_K.moved hW.alike hK9, hD9⟩, hS.F ht⟩) hS.2.2 dX4_swings_39
    · exact absurd c_50 (by decide)

set_option maxHeartbeats 4000000 in
set_option maxRecDepth 100000 in
theorem c_X4_told (l : Launch) (dC : Nat → ClassId) (dI : Nat → Nat → Nat) (m_ : Nat) (q_row : Nat) (q_t : Nat) (t_ : Nat) (h0 : Nat) (k0 : Nat) (w_ : Nat) (z_ : Nat) (slots : Int32) (old : Int32) (q_joined : Nat) (q_from : Nat) (q_to : Nat) (q_size : Nat) (q_lossOf : Nat) (q_lessBy : Nat) (q_value : Nat) (q_number : Nat) (nodes : Int32) (here : Int32) (q_cell : Nat) (cyI : ClassId) (len : Int32) (f : Nat → Int32) (ff : Nat → Int32) (ft : Nat → Int32) (fs : Nat → Int32) (fo : Nat → Int32) (uv : Nat → Int32) (un : Nat → Int32) (fe : Nat → Int32) (j_v : Nat) (j_n : Nat) (js : Int32) (jl : Int32) (je : Int32) (jv : Nat → Int32) (jn : Nat → Int32) (p0 : Int32) (sz : Nat) (a0 : 0 ≤ len.toInt) (a1 : len.toInt ≤ 160) (s0 : sixes fs) (l0 : laidP old ff ft nodes len) : Met l yX4_told wsX4_told ({ frames := 6, cells := 0, slots := 0, locals := 270 }) (va_Pc [.ref m_, .int p0] (fun U => U.heap.size = sz ∧ va_P (dC, dI) vwCl [kx_4 m_ q_row q_t t_ h0 k0 w_ z_ slots old, kx_2 q_t q_row q_joined q_from q_to q_size q_lossOf q_lessBy q_value q_number nodes here, kx_0 q_row q_cell len, kx_a q_cell cyI 160 f, kx_a q_from cyI 319 ff, kx_a q_to cyI 319 ft, kx_a q_size cyI 319 fs, kx_a q_lossOf cyI 319 fo, kx_a q_lessBy cyI 319 fe, kx_a q_value cyI 1914 uv, kx_a q_number cyI 1914 un, kx_3 q_joined j_v j_n js jl je, kx_a j_v cyI 12 jv, kx_a j_n cyI 12 jn] U.heap ∧ va_K (dC, dI) vwCl [(cyI, .int)] U ∧ va_D (fun _ => True) [kx_4 m_ q_row q_t t_ h0 k0 w_ z_ slots old, kx_2 q_t q_row q_joined q_from q_to q_size q_lossOf q_lessBy q_value q_number nodes here, kx_0 q_row q_cell len, kx_a q_cell cyI 160 f, kx_a q_from cyI 319 ff, kx_a q_to cyI 319 ft, kx_a q_size cyI 319 fs, kx_a q_lossOf cyI 319 fo, kx_a q_lessBy cyI 319 fe, kx_a q_value cyI 1914 uv, kx_a q_number cyI 1914 un, kx_3 q_joined j_v j_n js jl je, kx_a j_v cyI 12 jv, kx_a j_n cyI 12 jn] ∧ va_Nw (.methodLinkNest RX0 28 yX4_isHeavy RX4) U)) (va_Qi (fun (r : Int32) (u : Int32 × Int32 × Int32 × (Nat → Int32) × (Nat → Int32) × (Nat → Int32) × (Nat → Int32) × (Nat → Int32) × (Nat → Int32) × (Nat → Int32) × Int32 × Int32 × Int32 × (Nat → Int32) × (Nat → Int32)) => laidP u.1 u.2.2.2.1 u.2.2.2.2.1 u.2.1 len ∧ sixes u.2.2.2.2.2.1) (fun (u : Int32 × Int32 × Int32 × (Nat → Int32) × (Nat → Int32) × (Nat → Int32) × (Nat → Int32) × (Nat → Int32) × (Nat → Int32) × (Nat → Int32) × Int32 × Int32 × Int32 × (Nat → Int32) × (Nat → Int32)) (t : State) => va_P (dC, dI) vwCl [kx_4 m_ q_row q_t t_ h0 k0 w_ z_ slots u.1, kx_2 q_t q_row q_joined q_from q_to q_size q_lossOf q_lessBy q_value q_number u.2.1 u.2.2.1, kx_0 q_row q_cell len, kx_a q_cell cyI 160 f, kx_a q_from cyI 319 u.2.2.2.1, kx_a q_to cyI 319 u.2.2.2.2.1, kx_a q_size cyI 319 u.2.2.2.2.2.1, kx_a q_lossOf cyI 319 u.2.2.2.2.2.2.1, kx_a q_lessBy cyI 319 u.2.2.2.2.2.2.2.1, kx_a q_value cyI 1914 u.2.2.2.2.2.2.2.2.1, kx_a q_number cyI 1914 u.2.2.2.2.2.2.2.2.2.1, kx_3 q_joined j_v j_n u.2.2.2.2.2.2.2.2.2.2.1 u.2.2.2.2.2.2.2.2.2.2.2.1 u.2.2.2.2.2.2.2.2.2.2.2.2.1, kx_a j_v cyI 12 u.2.2.2.2.2.2.2.2.2.2.2.2.2.1, kx_a j_n cyI 12 u.2.2.2.2.2.2.2.2.2.2.2.2.2.2] t.heap ∧ va_K (dC, dI) vwCl [(cyI, .int)] t ∧ va_D (va_A [kx_4 m_ q_row q_t t_ h0 k0 w_ z_ slots old, kx_2 q_t q_row q_joined q_from q_to q_size q_lossOf q_lessBy q_value q_number nodes here, kx_0 q_row q_cell len, kx_a q_cell cyI 160 f, kx_a q_from cyI 319 ff, kx_a q_to cyI 319 ft, kx_a q_size cyI 319 fs, kx_a q_lossOf cyI 319 fo, kx_a q_lessBy cyI 319 fe, kx_a q_value cyI 1914 uv, kx_a q_number cyI 1914 un, kx_3 q_joined j_v j_n js jl je, kx_a j_v cyI 12 jv, kx_a j_n cyI 12 jn] sz) [kx_4 m_ q_row q_t t_ h0 k0 w_ z_ slots u.1, kx_2 q_t q_row q_joined q_from q_to q_size q_lossOf q_lessBy q_value q_number u.2.1 u.2.2.1, kx_0 q_row q_cell len, kx_a q_cell cyI 160 f, kx_a q_from cyI 319 u.2.2.2.1, kx_a q_to cyI 319 u.2.2.2.2.1, kx_a q_size cyI 319 u.2.2.2.2.2.1, kx_a q_lossOf cyI 319 u.2.2.2.2.2.2.1, kx_a q_lessBy cyI 319 u.2.2.2.2.2.2.2.1, kx_a q_value cyI 1914 u.2.2.2.2.2.2.2.2.1, kx_a q_number cyI 1914 u.2.2.2.2.2.2.2.2.2.1, kx_3 q_joined j_v j_n u.2.2.2.2.2.2.2.2.2.2.1 u.2.2.2.2.2.2.2.2.2.2.2.1 u.2.2.2.2.2.2.2.2.2.2.2.2.1, kx_a j_v cyI 12 u.2.2.2.2.2.2.2.2.2.2.2.2.2.1, kx_a j_n cyI 12 u.2.2.2.2.2.2.2.2.2.2.2.2.2.2]) (va_A [kx_4 m_ q_row q_t t_ h0 k0 w_ z_ slots old, kx_2 q_t q_row q_joined q_from q_to q_size q_lossOf q_lessBy q_value q_number nodes here, kx_0 q_row q_cell len, kx_a q_cell cyI 160 f, kx_a q_from cyI 319 ff, kx_a q_to cyI 319 ft, kx_a q_size cyI 319 fs, kx_a q_lossOf cyI 319 fo, kx_a q_lessBy cyI 319 fe, kx_a q_value cyI 1914 uv, kx_a q_number cyI 1914 un, kx_3 q_joined j_v j_n js jl je, kx_a j_v cyI 12 jv, kx_a j_n cyI 12 jn] sz)) 0 0 (va_A [kx_4 m_ q_row q_t t_ h0 k0 w_ z_ slots old, kx_2 q_t q_row q_joined q_from q_to q_size q_lossOf q_lessBy q_value q_number nodes here, kx_0 q_row q_cell len, kx_a q_cell cyI 160 f, kx_a q_from cyI 319 ff, kx_a q_to cyI 319 ft, kx_a q_size cyI 319 fs, kx_a q_lossOf cyI 319 fo, kx_a q_lessBy cyI 319 fe, kx_a q_value cyI 1914 uv, kx_a q_number cyI 1914 un, kx_3 q_joined j_v j_n js jl je, kx_a j_v cyI 12 jv, kx_a j_n cyI 12 jn] sz) := by
  refine Met.ofW (cc := cX4_told) (maxL := 2) (ret := (some .int)) (by decide) rfl ?_
  intro p e s m args below meth c s₁ B hml hv
  obtain ⟨rfl, hsz, hP, hK, hD0, hN0⟩ := hv
  have hx := B.exec
  have hb := B.bytes
  have hr := B.returns
  have hts := atoms_spec (ws := wsX4_told) B.pre
  have hown : s.vm.findClass RX4 = some m.cls := findClass_of_methodNamed B.named
  have hlocks := B.notSynchronized
  subst hsz
  have hD := hD0.self (sz := s.heap.size)
  generalize hAe : va_A [kx_4 m_ q_row q_t t_ h0 k0 w_ z_ slots old, kx_2 q_t q_row q_joined q_from q_to q_size q_lossOf q_lessBy q_value q_number nodes here, kx_0 q_row q_cell len, kx_a q_cell cyI 160 f, kx_a q_from cyI 319 ff, kx_a q_to cyI 319 ft, kx_a q_size cyI 319 fs, kx_a q_lossOf cyI 319 fo, kx_a q_lessBy cyI 319 fe, kx_a q_value cyI 1914 uv, kx_a q_number cyI 1914 un, kx_3 q_joined j_v j_n js jl je, kx_a j_v cyI 12 jv, kx_a j_n cyI 12 jn] s.heap.size = A at hD ⊢
  have hA : ∀ q : Nat, s.heap.size ≤ q → A q := fun q h => by rw [← hAe]; exact Or.inr h
  have hS : va_S A s.heap s.heap [] := va_S.rf
  have hP : va_P (dC, dI) vwCl [kx_4 m_ q_row q_t t_ h0 k0 w_ z_ slots old, kx_2 q_t q_row q_joined q_from q_to q_size q_lossOf q_lessBy q_value q_number nodes here, kx_0 q_row q_cell len, kx_a q_cell cyI 160 f, kx_a q_from cyI 319 ff, kx_a q_to cyI 319 ft, kx_a q_size cyI 319 fs, kx_a q_lossOf cyI 319 fo, kx_a q_lessBy cyI 319 fe, kx_a q_value cyI 1914 uv, kx_a q_number cyI 1914 un, kx_3 q_joined j_v j_n js jl je, kx_a j_v cyI 12 jv, kx_a j_n cyI 12 jn] s.heap := hP
  have hl := lv_entry ([.ref m_, .int p0]) (n := 2) (Nat.le_of_ble_eq_true rfl)
  rw [lg_entry_eq]
  generalize (lg_sl ([.ref m_, .int p0]) ++ List.replicate (2 - (lg_sl ([.ref m_, .int p0])).length) Slot.unset).toArray = ls at hl ⊢
  have hl : lv_has ls 2 [(0, .ref m_), (1, .int p0)] := hl
  have hf_12 := hts (.fieldLink RX4 12 "MajorityIndex" "row" "LMajorityIndex$Row;") (List.mem_of_getElem? (i := 1) rfl)
  have hi_4 : ∀ w ∈ u_ws RX4 TX4 9, w ∈ wsX4_told := fun w h => List.mem_cons_of_mem _ (List.mem_append_left _ (List.mem_append_left _ (List.mem_append_left _ (List.mem_append_right _ h))))
  have hf_57 := hts (.fieldLink RX4 57 "MajorityIndex$Row" "length" "I") (List.mem_of_getElem? (i := 2) rfl)
  have hi_0 : ∀ w ∈ u_ws RX0 TX0 2, w ∈ wsX4_told := fun w h => List.mem_cons_of_mem _ (List.mem_append_left _ (List.mem_append_left _ (List.mem_append_right _ h)))
  have hf_49 := hts (.fieldLink RX4 49 "MajorityIndex" "slotsNow" "I") (List.mem_of_getElem? (i := 3) rfl)
  have hf_163 := hts (.fieldLink RX4 163 "MajorityIndex$Tree" "nodes" "I") (List.mem_of_getElem? (i := 4) rfl)
  have hi_2 : ∀ w ∈ u_ws RX2 TX2 11, w ∈ wsX4_told := fun w h => List.mem_cons_of_mem _ (List.mem_append_left _ (List.mem_append_right _ h))
  have hf_139 := hts (.fieldLink RX4 139 "MajorityIndex$Tree" "lossOf" "[I") (List.mem_of_getElem? (i := 5) rfl)
  refine lv_iload_n hx hb dX4_told_0 rfl (lv_at hl 1 rfl) ?_
  by_cases s_1 : p0.toInt = 0
  · refine lv_tableIn (tgt := 44) (off := 43) hx hb dX4_told_1 (om_161 s_1) (om_210 s_1) (by rw [s_1]; rfl) (by decide) ?_
    refine lv_aload_n hx hb dX4_told_44 rfl (lv_at hl 0 rfl) ?_
    refine va_get (D := (dC, dI)) (ci := 4) (v := .ref q_row) (C := RX4) (T := TX4) (N := 9) hx hb hts hi_4 hown hK hP 0 rfl rfl 0 (by decide) hf_12 (fun _ h9 => h9) rfl dX4_told_45 ?_
    refine va_get (D := (dC, dI)) (ci := 0) (v := .int len) (C := RX0) (T := TX0) (N := 2) hx hb hts hi_0 hown hK hP 2 rfl rfl 1 (by decide) hf_57 (fun _ h9 => h9) rfl dX4_told_48 ?_
    have hP9 := hP
    have hD9 := hD
    have hK9 := hK
    exact W.iret (v := len) hx hb hr (hlocks := hlocks) (fun t ht hW => ⟨⟨len, (old, nodes, here, ff, ft, fs, fo, fe, uv, un, js, jl, je, jv, jn), rfl, ⟨l0, s0⟩, by rw [ht]; exact hP9, va_K.moved hW.alike hK9, hD9⟩, hS.F ht⟩) hS.2.2 dX4_told_51
  by_cases s_2 : p0.toInt = 1
  · refine lv_tableIn (tgt := 52) (off := 51) hx hb dX4_told_1 (om_163 s_2) (om_211 s_2) (by rw [s_2]; rfl) (by decide) ?_
    refine lv_aload_n hx hb dX4_told_52 rfl (lv_at hl 0 rfl) ?_
    refine va_get (D := (dC, dI)) (ci := 4) (v := .int slots) (C := RX4) (T := TX4) (N := 9) hx hb hts hi_4 hown hK hP 0 rfl rfl 7 (by decide) hf_49 (fun _ h9 => h9) rfl dX4_told_53 ?_
    have hP9 := hP
    have hD9 := hD
    have hK9 := hK
    exact W.iret (v := slots) hx hb hr (hlocks := hlocks) (fun t ht hW => ⟨⟨slots, (old, nodes, here, ff, ft, fs, fo, fe, uv, un, js, jl, je, jv, jn), rfl, ⟨l0, s0⟩, by rw [ht]; exact hP9, va_K.moved hW.alike hK9, hD9⟩, hS.F ht⟩) hS.2.2 dX4_told_56
  by_cases s_3 : p0.toInt = 2
  · refine lv_tableIn (tgt := 57) (off := 56) hx hb dX4_told_1 (om_165 s_3) (om_212 s_3) (by rw [s_3]; rfl) (by decide) ?_
    refine lv_aload_n hx hb dX4_told_57 rfl (lv_at hl 0 rfl) ?_
    have hPc := hP
    have hKc := hK
    have hDc := hD
    have hFc := kx_free hD hS hA
    refine va_callr (va_runV (As := []) (rest := []) ⟨hx, hb, hml, hown, hts⟩ (kx_un (c_X4_laidTree l dC dI m_ q_row q_t t_ h0 k0 w_ z_ slots old q_joined q_from q_to q_size q_lossOf q_lessBy q_value q_number nodes here q_cell cyI len f ff ft fs fo uv un fe j_v j_n js jl je jv jn s.heap.size a0 a1 s0 l0)) (cwV 0 hts gX4_told_X4_laidTree rfl rfl rfl (by decide +kernel) ⟨Nat.le_of_ble_eq_true rfl, Nat.le_of_ble_eq_true rfl⟩) ⟨fun a U g mk q => by obtain ⟨q0, q1, qP, qK, qD⟩ := q; exact ⟨q0, q1, qP, va_K.moved (u := U) (U := U.calling g mk a) (Vm.Alike.refl U.vm) qK, qD⟩, kx_rc4 hKc hPc (q0 := 0) rfl, fun U hU hW => ⟨rfl, by rw [hU], by rw [hU]; exact hPc, va_K.moved hW.alike hKc, hDc.weaken (fun _ _ _ _ => trivial)⟩⟩ rfl rfl hl.1 rfl (lv_room (Nat.le_of_ble_eq_true rfl)) dX4_told_58 ⟨Nat.le_of_ble_eq_true rfl, Nat.le_of_ble_eq_true rfl⟩) hS (fun q _ h => hFc q h) hFc (fun u ra t H1 locs ht hvm w_4 hB hz1 hk1 hS => ?_)
    obtain ⟨o_5, o_6, o_7, o_8, o_9, o_10, o_11, o_12, o_13, o_14, o_15, o_16, o_17, o_18, o_19⟩ := u
    dsimp only at w_4 hB
    obtain ⟨er, hP1, hK1, hD1⟩ := hB
    rw [ht] at hP1
    have hK1 := va_K.moved hvm.symm hK1
    have hD := hD1.weaken (fun _ q _ h => hFc q.1 h)
    have hP := hP1
    clear hP1 hD1 hK1 hk1 hz1 hFc hDc hPc hKc
    generalize H1 = H at hP hS ⊢
    have w_4 : o_5.toInt = 0 ∧ 0 ≤ o_6.toInt ∧ o_6.toInt ≤ 319 ∧ sixes o_10 ∧ treeOk o_8 o_9 o_6.toInt len.toInt := w_4
    rw [er]
    refine va_get (D := (dC, dI)) (ci := 2) (v := .int o_6) (C := RX2) (T := TX2) (N := 11) hx hb hts hi_2 hown hK hP 1 rfl rfl 9 (by decide) hf_163 (fun _ h9 => h9) rfl dX4_told_61 ?_
    have hP9 := hP
    have hD9 := hD
    have hK9 := hK
    exact W.iret (v := o_6) hx hb hr (hlocks := hlocks) (fun t ht hW => ⟨⟨o_6, (o_5, o_6, o_7, o_8, o_9, o_10, o_11, o_12, o_13, o_14, o_15, o_16, o_17, o_18, o_19), rfl, ⟨(fun _ => ⟨(by (try dsimp only); omega), (by (try dsimp only); omega), w_4.2.2.2.2⟩), w_4.2.2.2.1⟩, by rw [ht]; exact hP9, va_K.moved hW.alike hK9, hD9⟩, hS.F ht⟩) hS.2.2 dX4_told_64
  by_cases s_20 : p0.toInt = 3
  · refine lv_tableIn (tgt := 65) (off := 64) hx hb dX4_told_1 (om_213 s_20) (om_214 s_20) (by rw [s_20]; rfl) (by decide) ?_
    refine lv_aload_n hx hb dX4_told_65 rfl (lv_at hl 0 rfl) ?_
    have hPc := hP
    have hKc := hK
    have hDc := hD
    have hFc := kx_free hD hS hA
    refine va_callr (va_runV (As := []) (rest := []) ⟨hx, hb, hml, hown, hts⟩ (kx_un (c_X4_laidTree l dC dI m_ q_row q_t t_ h0 k0 w_ z_ slots old q_joined q_from q_to q_size q_lossOf q_lessBy q_value q_number nodes here q_cell cyI len f ff ft fs fo uv un fe j_v j_n js jl je jv jn s.heap.size a0 a1 s0 l0)) (cwV 0 hts gX4_told_X4_laidTree rfl rfl rfl (by decide +kernel) ⟨Nat.le_of_ble_eq_true rfl, Nat.le_of_ble_eq_true rfl⟩) ⟨fun a U g mk q => by obtain ⟨q0, q1, qP, qK, qD⟩ := q; exact ⟨q0, q1, qP, va_K.moved (u := U) (U := U.calling g mk a) (Vm.Alike.refl U.vm) qK, qD⟩, kx_rc4 hKc hPc (q0 := 0) rfl, fun U hU hW => ⟨rfl, by rw [hU], by rw [hU]; exact hPc, va_K.moved hW.alike hKc, hDc.weaken (fun _ _ _ _ => trivial)⟩⟩ rfl rfl hl.1 rfl (lv_room (Nat.le_of_ble_eq_true rfl)) dX4_told_66 ⟨Nat.le_of_ble_eq_true rfl, Nat.le_of_ble_eq_true rfl⟩) hS (fun q _ h => hFc q h) hFc (fun u ra t H1 locs ht hvm w_21 hB hz1 hk1 hS => ?_)
    obtain ⟨o_22, o_23, o_24, o_25, o_26, o_27, o_28, o_29, o_30, o_31, o_32, o_33, o_34, o_35, o_36⟩ := u
    dsimp only at w_21 hB
    obtain ⟨er, hP1, hK1, hD1⟩ := hB
    rw [ht] at hP1
    have hK1 := va_K.moved hvm.symm hK1
    have hD := hD1.weaken (fun _ q _ h => hFc q.1 h)
    have hP := hP1
    clear hP1 hD1 hK1 hk1 hz1 hFc hDc hPc hKc
    generalize H1 = H at hP hS ⊢
    have w_21 : o_22.toInt = 0 ∧ 0 ≤ o_23.toInt ∧ o_23.toInt ≤ 319 ∧ sixes o_27 ∧ treeOk o_25 o_26 o_23.toInt len.toInt := w_21
    rw [er]
    have hPc := hP.sub (ws' := [kx_2 q_t q_row q_joined q_from q_to q_size q_lossOf q_lessBy q_value q_number o_23 o_24, kx_0 q_row q_cell len, kx_a q_cell cyI 160 f, kx_a q_from cyI 319 o_25, kx_a q_to cyI 319 o_26]) [1, 2, 3, 4, 5] rfl
    have hKc := hK
    refine vp_callSi (W.runV (As := []) (rest := []) ⟨hx, hb, hml, hown, hts⟩ (c_X2_nodesWithMajority l dC dI q_t q_row q_joined q_from q_to q_size q_lossOf q_lessBy q_value q_number o_23 o_24 q_cell cyI len f o_25 o_26 w_21.2.1 w_21.2.2.1 a1 w_21.2.2.2.2) (cwV 0 hts gX4_told_X2_nodesWithMajority rfl rfl rfl (by decide +kernel) ⟨Nat.le_of_ble_eq_true rfl, Nat.le_of_ble_eq_true rfl⟩) ⟨fun a U g mk q => by obtain ⟨q0, qP, qK, qn0⟩ := q; exact ⟨q0, qP, va_K.moved (u := U) (U := U.calling g mk a) (Vm.Alike.refl U.vm) qK, va_Nw.same (u := U) (U := U.calling g mk a) rfl rfl qn0⟩, kx_rc2 hKc hPc (q0 := 0) rfl, fun U hU hW => ⟨rfl, by rw [hU]; exact hPc, va_K.moved hW.alike hKc, va_Nw.warmM hW hN0⟩⟩ rfl rfl hl.1 rfl (lv_room (Nat.le_of_ble_eq_true rfl)) dX4_told_69 ⟨Nat.le_of_ble_eq_true rfl, Nat.le_of_ble_eq_true rfl⟩) (fun r_37 w_37 => ?_)
    have hP9 := hP
    have hD9 := hD
    have hK9 := hK
    exact W.iret (v := r_37) hx hb hr (hlocks := hlocks) (fun t ht hW => ⟨⟨r_37, (o_22, o_23, o_24, o_25, o_26, o_27, o_28, o_29, o_30, o_31, o_32, o_33, o_34, o_35, o_36), rfl, ⟨(fun _ => ⟨(by (try dsimp only); omega), (by (try dsimp only); omega), w_21.2.2.2.2⟩), w_21.2.2.2.1⟩, by rw [ht]; exact hP9, va_K.moved hW.alike hK9, hD9⟩, hS.F ht⟩) hS.2.2 dX4_told_72
  by_cases s_38 : p0.toInt = 4
  · refine lv_tableIn (tgt := 73) (off := 72) hx hb dX4_told_1 (om_215 s_38) (om_216 s_38) (by rw [s_38]; rfl) (by decide) ?_
    refine lv_aload_n hx hb dX4_told_73 rfl (lv_at hl 0 rfl) ?_
    have hPc := hP
    have hKc := hK
    have hDc := hD
    have hFc := kx_free hD hS hA
    refine va_callr (va_runV (As := []) (rest := []) ⟨hx, hb, hml, hown, hts⟩ (kx_un (c_X4_laidTree l dC dI m_ q_row q_t t_ h0 k0 w_ z_ slots old q_joined q_from q_to q_size q_lossOf q_lessBy q_value q_number nodes here q_cell cyI len f ff ft fs fo uv un fe j_v j_n js jl je jv jn s.heap.size a0 a1 s0 l0)) (cwV 0 hts gX4_told_X4_laidTree rfl rfl rfl (by decide +kernel) ⟨Nat.le_of_ble_eq_true rfl, Nat.le_of_ble_eq_true rfl⟩) ⟨fun a U g mk q => by obtain ⟨q0, q1, qP, qK, qD⟩ := q; exact ⟨q0, q1, qP, va_K.moved (u := U) (U := U.calling g mk a) (Vm.Alike.refl U.vm) qK, qD⟩, kx_rc4 hKc hPc (q0 := 0) rfl, fun U hU hW => ⟨rfl, by rw [hU], by rw [hU]; exact hPc, va_K.moved hW.alike hKc, hDc.weaken (fun _ _ _ _ => trivial)⟩⟩ rfl rfl hl.1 rfl (lv_room (Nat.le_of_ble_eq_true rfl)) dX4_told_74 ⟨Nat.le_of_ble_eq_true rfl, Nat.le_of_ble_eq_true rfl⟩) hS (fun q _ h => hFc q h) hFc (fun u ra t H1 locs ht hvm w_39 hB hz1 hk1 hS => ?_)
    obtain ⟨o_40, o_41, o_42, o_43, o_44, o_45, o_46, o_47, o_48, o_49, o_50, o_51, o_52, o_53, o_54⟩ := u
    dsimp only at w_39 hB
    obtain ⟨er, hP1, hK1, hD1⟩ := hB
    rw [ht] at hP1
    have hK1 := va_K.moved hvm.symm hK1
    have hD := hD1.weaken (fun _ q _ h => hFc q.1 h)
    have hP := hP1
    clear hP1 hD1 hK1 hk1 hz1 hFc hDc hPc hKc
    generalize H1 = H at hP hS ⊢
    have w_39 : o_40.toInt = 0 ∧ 0 ≤ o_41.toInt ∧ o_41.toInt ≤ 319 ∧ sixes o_45 ∧ treeOk o_43 o_44 o_41.toInt len.toInt := w_39
    rw [er]
    have hPc := hP.sub (ws' := [kx_2 q_t q_row q_joined q_from q_to q_size q_lossOf q_lessBy q_value q_number o_41 o_42, kx_0 q_row q_cell len]) [1, 2] rfl
    have hKc := hK.sub (tys' := []) [] rfl
    refine vp_callSi (W.runV (As := []) (rest := []) ⟨hx, hb, hml, hown, hts⟩ (c_X2_deepest l dC dI q_t q_row q_joined q_from q_to q_size q_lossOf q_lessBy q_value q_number o_41 o_42 q_cell len a0 a1) (cwV 0 hts gX4_told_X2_deepest rfl rfl rfl (by decide +kernel) ⟨Nat.le_of_ble_eq_true rfl, Nat.le_of_ble_eq_true rfl⟩) ⟨fun a U g mk q => by obtain ⟨q0, qP, qK⟩ := q; exact ⟨q0, qP, va_K.moved (u := U) (U := U.calling g mk a) (Vm.Alike.refl U.vm) qK⟩, kx_rc2 hKc hPc (q0 := 0) rfl, fun U hU hW => ⟨rfl, by rw [hU]; exact hPc, va_K.moved hW.alike hKc⟩⟩ rfl rfl hl.1 rfl (lv_room (Nat.le_of_ble_eq_true rfl)) dX4_told_77 ⟨Nat.le_of_ble_eq_true rfl, Nat.le_of_ble_eq_true rfl⟩) (fun r_55 w_55 => ?_)
    have hP9 := hP
    have hD9 := hD
    have hK9 := hK
    exact W.iret (v := r_55) hx hb hr (hlocks := hlocks) (fun t ht hW => ⟨⟨r_55, (o_40, o_41, o_42, o_43, o_44, o_45, o_46, o_47, o_48, o_49, o_50, o_51, o_52, o_53, o_54), rfl, ⟨(fun _ => ⟨(by (try dsimp only); omega), (by (try dsimp only); omega), w_39.2.2.2.2⟩), w_39.2.2.2.1⟩, by rw [ht]; exact hP9, va_K.moved hW.alike hK9, hD9⟩, hS.F ht⟩) hS.2.2 dX4_told_80
  by_cases s_56 : p0.toInt = 5
  · refine lv_tableIn (tgt := 81) (off := 80) hx hb dX4_told_1 (om_217 s_56) (om_218 s_56) (by rw [s_56]; rfl) (by decide) ?_
    refine lv_aload_n hx hb dX4_told_81 rfl (lv_at hl 0 rfl) ?_
    refine va_get (D := (dC, dI)) (ci := 4) (v := .ref q_row) (C := RX4) (T := TX4) (N := 9) hx hb hts hi_4 hown hK hP 0 rfl rfl 0 (by decide) hf_12 (fun _ h9 => h9) rfl dX4_told_82 ?_
    refine va_get (D := (dC, dI)) (ci := 0) (v := .int len) (C := RX0) (T := TX0) (N := 2) hx hb hts hi_0 hown hK hP 2 rfl rfl 1 (by decide) hf_57 (fun _ h9 => h9) rfl dX4_told_85 ?_
    refine lv_if_ne (tgt := 95) hx hb dX4_told_88 (by decide) (fun c_57 => ?_) (fun c_57 => ?_)
    · have i_57 : ¬ len.toInt = 0 := kc_ne c_57
      refine lv_aload_n hx hb dX4_told_95 rfl (lv_at hl 0 rfl) ?_
      have hPc := hP
      have hKc := hK
      have hDc := hD
      have hFc := kx_free hD hS hA
      refine va_callr (va_runV (As := []) (rest := []) ⟨hx, hb, hml, hown, hts⟩ (kx_un (c_X4_laidTree l dC dI m_ q_row q_t t_ h0 k0 w_ z_ slots old q_joined q_from q_to q_size q_lossOf q_lessBy q_value q_number nodes here q_cell cyI len f ff ft fs fo uv un fe j_v j_n js jl je jv jn s.heap.size a0 a1 s0 l0)) (cwV 0 hts gX4_told_X4_laidTree rfl rfl rfl (by decide +kernel) ⟨Nat.le_of_ble_eq_true rfl, Nat.le_of_ble_eq_true rfl⟩) ⟨fun a U g mk q => by obtain ⟨q0, q1, qP, qK, qD⟩ := q; exact ⟨q0, q1, qP, va_K.moved (u := U) (U := U.calling g mk a) (Vm.Alike.refl U.vm) qK, qD⟩, kx_rc4 hKc hPc (q0 := 0) rfl, fun U hU hW => ⟨rfl, by rw [hU], by rw [hU]; exact hPc, va_K.moved hW.alike hKc, hDc.weaken (fun _ _ _ _ => trivial)⟩⟩ rfl rfl hl.1 rfl (lv_room (Nat.le_of_ble_eq_true rfl)) dX4_told_96 ⟨Nat.le_of_ble_eq_true rfl, Nat.le_of_ble_eq_true rfl⟩) hS (fun q _ h => hFc q h) hFc (fun u ra t H1 locs ht hvm w_58 hB hz1 hk1 hS => ?_)
      obtain ⟨o_59, o_60, o_61, o_62, o_63, o_64, o_65, o_66, o_67, o_68, o_69, o_70, o_71, o_72, o_73⟩ := u
      dsimp only at w_58 hB
      obtain ⟨er, hP1, hK1, hD1⟩ := hB
      rw [ht] at hP1
      have hK1 := va_K.moved hvm.symm hK1
      have hD := hD1.weaken (fun _ q _ h => hFc q.1 h)
      have hP := hP1
      clear hP1 hD1 hK1 hk1 hz1 hFc hDc hPc hKc
      generalize H1 = H at hP hS ⊢
      have w_58 : o_59.toInt = 0 ∧ 0 ≤ o_60.toInt ∧ o_60.toInt ≤ 319 ∧ sixes o_64 ∧ treeOk o_62 o_63 o_60.toInt len.toInt := w_58
      rw [er]
      refine va_get (D := (dC, dI)) (ci := 2) (v := .ref q_lossOf) (C := RX2) (T := TX2) (N := 11) hx hb hts hi_2 hown hK hP 1 rfl rfl 5 (by decide) hf_139 (fun _ h9 => h9) rfl dX4_told_99 ?_
      refine lv_iconst (v := 0) hx hb dX4_told_102 (by decide) ?_
      refine va_iald hx hb hK hP 7 0 rfl rfl (ki_inl (by decide)) dX4_told_103 ?_
      refine lv_topi (fun y_74 ey_74 => ?_)
      have j_74 : y_74.toInt = (o_65 (0 : Int32).toNatClampNeg).toInt := congrArg Int32.toInt ey_74
      have hP9 := hP
      have hD9 := hD
      have hK9 := hK
      exact W.iret (v := y_74) hx hb hr (hlocks := hlocks) (fun t ht hW => ⟨⟨y_74, (o_59, o_60, o_61, o_62, o_63, o_64, o_65, o_66, o_67, o_68, o_69, o_70, o_71, o_72, o_73), rfl, ⟨(fun _ => ⟨(by (try dsimp only); omega), (by (try dsimp only); omega), w_58.2.2.2.2⟩), w_58.2.2.2.1⟩, by rw [ht]; exact hP9, va_K.moved hW.alike hK9, hD9⟩, hS.F ht⟩) hS.2.2 dX4_told_104
    · have i_57 : len.toInt = 0 := kc_eq c_57
      refine lv_iconst (v := 0) hx hb dX4_told_91 (by decide) ?_
      refine lv_goto (tgt := 104) hx hb dX4_told_92 (by decide) ?_
      have hP9 := hP
      have hD9 := hD
      have hK9 := hK
      exact W.iret (v := 0) hx hb hr (hlocks := hlocks) (fun t ht hW => ⟨⟨0, (old, nodes, here, ff, ft, fs, fo, fe, uv, un, js, jl, je, jv, jn), rfl, ⟨l0, s0⟩, by rw [ht]; exact hP9, va_K.moved hW.alike hK9, hD9⟩, hS.F ht⟩) hS.2.2 dX4_told_104
  by_cases s_75 : p0.toInt = 6
  · refine lv_tableIn (tgt := 105) (off := 104) hx hb dX4_told_1 (om_219 s_75) (om_220 s_75) (by rw [s_75]; rfl) (by decide) ?_
    refine lv_aload_n hx hb dX4_told_105 rfl (lv_at hl 0 rfl) ?_
    have hPc := hP
    have hKc := hK
    have hDc := hD
    have hFc := kx_free hD hS hA
    refine va_callr (va_runV (As := []) (rest := []) ⟨hx, hb, hml, hown, hts⟩ (kx_un (c_X4_laidTree l dC dI m_ q_row q_t t_ h0 k0 w_ z_ slots old q_joined q_from q_to q_size q_lossOf q_lessBy q_value q_number nodes here q_cell cyI len f ff ft fs fo uv un fe j_v j_n js jl je jv jn s.heap.size a0 a1 s0 l0)) (cwV 0 hts gX4_told_X4_laidTree rfl rfl rfl (by decide +kernel) ⟨Nat.le_of_ble_eq_true rfl, Nat.le_of_ble_eq_true rfl⟩) ⟨fun a U g mk q => by obtain ⟨q0, q1, qP, qK, qD⟩ := q; exact ⟨q0, q1, qP, va_K.moved (u := U) (U := U.calling g mk a) (Vm.Alike.refl U.vm) qK, qD⟩, kx_rc4 hKc hPc (q0 := 0) rfl, fun U hU hW => ⟨rfl, by rw [hU], by rw [hU]; exact hPc, va_K.moved hW.alike hKc, hDc.weaken (fun _ _ _ _ => trivial)⟩⟩ rfl rfl hl.1 rfl (lv_room (Nat.le_of_ble_eq_true rfl)) dX4_told_106 ⟨Nat.le_of_ble_eq_true rfl, Nat.le_of_ble_eq_true rfl⟩) hS (fun q _ h => hFc q h) hFc (fun u ra t H1 locs ht hvm w_76 hB hz1 hk1 hS => ?_)
    obtain ⟨o_77, o_78, o_79, o_80, o_81, o_82, o_83, o_84, o_85, o_86, o_87, o_88, o_89, o_90, o_91⟩ := u
    dsimp only at w_76 hB
    obtain ⟨er, hP1, hK1, hD1⟩ := hB
    rw [ht] at hP1
    have hK1 := va_K.moved hvm.symm hK1
    have hD := hD1.weaken (fun _ q _ h => hFc q.1 h)
    have hP := hP1
    clear hP1 hD1 hK1 hk1 hz1 hFc hDc hPc hKc
    generalize H1 = H at hP hS ⊢
    have w_76 : o_77.toInt = 0 ∧ 0 ≤ o_78.toInt ∧ o_78.toInt ≤ 319 ∧ sixes o_82 ∧ treeOk o_80 o_81 o_78.toInt len.toInt := w_76
    rw [er]
    have hPc := hP.sub (ws' := [kx_2 q_t q_row q_joined q_from q_to q_size q_lossOf q_lessBy q_value q_number o_78 o_79, kx_a q_lossOf cyI 319 o_83]) [1, 7] rfl
    have hKc := hK
    refine vp_callSi (W.runV (As := []) (rest := []) ⟨hx, hb, hml, hown, hts⟩ (c_X2_allLosses l dC dI q_t q_row q_joined q_from q_to q_size q_lossOf q_lessBy q_value q_number o_78 o_79 cyI o_83 w_76.2.1 w_76.2.2.1) (cwV 0 hts gX4_told_X2_allLosses rfl rfl rfl (by decide +kernel) ⟨Nat.le_of_ble_eq_true rfl, Nat.le_of_ble_eq_true rfl⟩) ⟨fun a U g mk q => by obtain ⟨q0, qP, qK⟩ := q; exact ⟨q0, qP, va_K.moved (u := U) (U := U.calling g mk a) (Vm.Alike.refl U.vm) qK⟩, kx_rc2 hKc hPc (q0 := 0) rfl, fun U hU hW => ⟨rfl, by rw [hU]; exact hPc, va_K.moved hW.alike hKc⟩⟩ rfl rfl hl.1 rfl (lv_room (Nat.le_of_ble_eq_true rfl)) dX4_told_109 ⟨Nat.le_of_ble_eq_true rfl, Nat.le_of_ble_eq_true rfl⟩) (fun r_92 w_92 => ?_)
    have hP9 := hP
    have hD9 := hD
    have hK9 := hK
    exact W.iret (v := r_92) hx hb hr (hlocks := hlocks) (fun t ht hW => ⟨⟨r_92, (o_77, o_78, o_79, o_80, o_81, o_82, o_83, o_84, o_85, o_86, o_87, o_88, o_89, o_90, o_91), rfl, ⟨(fun _ => ⟨(by (try dsimp only); omega), (by (try dsimp only); omega), w_76.2.2.2.2⟩), w_76.2.2.2.1⟩, by rw [ht]; exact hP9, va_K.moved hW.alike hK9, hD9⟩, hS.F ht⟩) hS.2.2 dX4_told_112
  refine lv_tableOut (tgt := 113) hx hb dX4_told_1 (by omega) (by decide) ?_
  refine lv_iconst (v := (-1)) hx hb dX4_told_113 (by decide) ?_
  have hP9 := hP
  have hD9 := hD
  have hK9 := hK
  exact W.iret (v := (-1)) hx hb hr (hlocks := hlocks) (fun t ht hW => ⟨⟨(-1), (old, nodes, here, ff, ft, fs, fo, fe, uv, un, js, jl, je, jv, jn), rfl, ⟨l0, s0⟩, by rw [ht]; exact hP9, va_K.moved hW.alike hK9, hD9⟩, hS.F ht⟩) hS.2.2 dX4_told_114



theorem nmX5 : ∀ a, a < 30 → ∀ b, b < 30 → a ≠ b → (TX5 a).2.1 ≠ (TX5 b).2.1 := by decide +kernel
theorem tyX5_ok : ∀ k, k < 30 → parseFieldDescriptor (TX5 k).2.2.1 = some (tyX5 k) := by decide +kernel
abbrev cX5_within : ByteArray := prog_7_method_3_code
def yX5_within : MethodName := ⟨RX5, "within", "(III)Z"⟩
abbrev cX5_isValue : ByteArray := prog_7_method_4_code
def yX5_isValue : MethodName := ⟨RX5, "isValue", "(I)Z"⟩
abbrev cX5_isPlace : ByteArray := prog_7_method_5_code
def yX5_isPlace : MethodName := ⟨RX5, "isPlace", "(I)Z"⟩
abbrev cX5_isRange : ByteArray := prog_7_method_6_code
def yX5_isRange : MethodName := ⟨RX5, "isRange", "(II)Z"⟩
abbrev cX5_isShare : ByteArray := prog_7_method_7_code
def yX5_isShare : MethodName := ⟨RX5, "isShare", "(II)Z"⟩
abbrev cX5_feed : ByteArray := prog_7_method_20_code
def yX5_feed : MethodName := ⟨RX5, "feed", "(II)I"⟩
abbrev cX5_end : ByteArray := prog_7_method_21_code
def yX5_end : MethodName := ⟨RX5, "end", "(I)I"⟩
abbrev cX5_slots : ByteArray := prog_7_method_22_code
def yX5_slots : MethodName := ⟨RX5, "slots", "(I)I"⟩
abbrev cX5_insert : ByteArray := prog_7_method_30_code
def yX5_insert : MethodName := ⟨RX5, "insert", "(II)I"⟩
abbrev cX5_remove : ByteArray := prog_7_method_31_code
def yX5_remove : MethodName := ⟨RX5, "remove", "(I)I"⟩
abbrev cX5_at : ByteArray := prog_7_method_32_code
def yX5_at : MethodName := ⟨RX5, "at", "(I)I"⟩
abbrev cX5_count : ByteArray := prog_7_method_34_code
def yX5_count : MethodName := ⟨RX5, "count", "(III)I"⟩
abbrev cX5_place : ByteArray := prog_7_method_35_code
def yX5_place : MethodName := ⟨RX5, "place", "(II)I"⟩
abbrev cX5_values : ByteArray := prog_7_method_36_code
def yX5_values : MethodName := ⟨RX5, "values", "()I"⟩
abbrev cX5_isEnough : ByteArray := prog_7_method_55_code
def yX5_isEnough : MethodName := ⟨RX5, "isEnough", "(II)Z"⟩
abbrev cX5_majorityOf : ByteArray := prog_7_method_60_code
def yX5_majorityOf : MethodName := ⟨RX5, "majorityOf", "(II)I"⟩
abbrev cX5_majority : ByteArray := prog_7_method_61_code
def yX5_majority : MethodName := ⟨RX5, "majority", "(II)I"⟩
abbrev cX5_margin : ByteArray := prog_7_method_62_code
def yX5_margin : MethodName := ⟨RX5, "margin", "(III)I"⟩
abbrev cX5_longest : ByteArray := prog_7_method_65_code
def yX5_longest : MethodName := ⟨RX5, "longest", "(IIII)I"⟩
abbrev cX5_cut : ByteArray := prog_7_method_68_code
def yX5_cut : MethodName := ⟨RX5, "cut", "(II)I"⟩
abbrev cX5_would : ByteArray := prog_7_method_78_code
def yX5_would : MethodName := ⟨RX5, "would", "(IIII)I"⟩
def wsX5_within : List Cond := .code yX5_within cX5_within 3 (some .boolean) :: ([])
def wsX5_isValue : List Cond := .code yX5_isValue cX5_isValue 1 (some .boolean) :: ([.methodLink RX5 80 yX5_within, .static yX5_within, .initialized RX5, .code yX5_within cX5_within 3 (some .boolean)])
def wsX5_isPlace : List Cond := .code yX5_isPlace cX5_isPlace 2 (some .boolean) :: ([.fieldLink RX5 84 "MajorityIndexModel" "n" "I", .methodLink RX5 80 yX5_within, .static yX5_within, .initialized RX5, .code yX5_within cX5_within 3 (some .boolean)] ++ wsX50)
def wsX5_isRange : List Cond := .code yX5_isRange cX5_isRange 3 (some .boolean) :: ([.fieldLink RX5 84 "MajorityIndexModel" "n" "I"] ++ wsX50)
def wsX5_isShare : List Cond := .code yX5_isShare cX5_isShare 2 (some .boolean) :: ([.methodLink RX5 80 yX5_within, .static yX5_within, .initialized RX5, .code yX5_within cX5_within 3 (some .boolean)])
def wsX5_feed : List Cond := .code yX5_feed cX5_feed 3 (some .int) :: ([.fieldLink RX5 77 "MajorityIndexModel" "thrown" "I", .fieldLink RX5 84 "MajorityIndexModel" "n" "I", .fieldLink RX5 7 "MajorityIndexModel" "row" "[I"] ++ wsX50)
def wsX5_end : List Cond := .code yX5_end cX5_end 2 (some .int) :: ([.fieldLink RX5 77 "MajorityIndexModel" "thrown" "I", .fieldLink RX5 84 "MajorityIndexModel" "n" "I", .methodLink RX5 80 yX5_within, .static yX5_within, .initialized RX5, .code yX5_within cX5_within 3 (some .boolean)] ++ wsX50)
def wsX5_slots : List Cond := .code yX5_slots cX5_slots 3 (some .int) :: ([.fieldLink RX5 77 "MajorityIndexModel" "thrown" "I", .fieldLink RX5 13 "MajorityIndexModel" "slots" "I", .methodLink RX5 80 yX5_within, .static yX5_within, .initialized RX5, .code yX5_within cX5_within 3 (some .boolean)] ++ wsX50)
def wsX5_insert : List Cond := .code yX5_insert cX5_insert 4 (some .int) :: ([.fieldLink RX5 77 "MajorityIndexModel" "thrown" "I", .fieldLink RX5 84 "MajorityIndexModel" "n" "I", .fieldLink RX5 7 "MajorityIndexModel" "row" "[I", .methodLink RX5 80 yX5_within, .static yX5_within, .initialized RX5, .code yX5_within cX5_within 3 (some .boolean), .methodLink RX5 132 yX5_isValue, .static yX5_isValue, .code yX5_isValue cX5_isValue 1 (some .boolean)] ++ wsX50)
def wsX5_remove : List Cond := .code yX5_remove cX5_remove 4 (some .int) :: ([.fieldLink RX5 77 "MajorityIndexModel" "thrown" "I", .constant RX5 148 (-40000), .fieldLink RX5 7 "MajorityIndexModel" "row" "[I", .fieldLink RX5 84 "MajorityIndexModel" "n" "I", .methodLink RX5 128 yX5_isPlace, .instanceMethod yX5_isPlace, .selects RX5 yX5_isPlace yX5_isPlace, .initialized RX5, .code yX5_isPlace cX5_isPlace 2 (some .boolean), .methodLink RX5 80 yX5_within, .static yX5_within, .code yX5_within cX5_within 3 (some .boolean)] ++ wsX50)
def wsX5_at : List Cond := .code yX5_at cX5_at 2 (some .int) :: ([.fieldLink RX5 77 "MajorityIndexModel" "thrown" "I", .fieldLink RX5 7 "MajorityIndexModel" "row" "[I", .methodLink RX5 128 yX5_isPlace, .instanceMethod yX5_isPlace, .selects RX5 yX5_isPlace yX5_isPlace, .initialized RX5, .code yX5_isPlace cX5_isPlace 2 (some .boolean), .fieldLink RX5 84 "MajorityIndexModel" "n" "I", .methodLink RX5 80 yX5_within, .static yX5_within, .code yX5_within cX5_within 3 (some .boolean)] ++ wsX50)
def wsX5_count : List Cond := .code yX5_count cX5_count 4 (some .int) :: ([.fieldLink RX5 77 "MajorityIndexModel" "thrown" "I", .methodLink RX5 132 yX5_isValue, .static yX5_isValue, .initialized RX5, .code yX5_isValue cX5_isValue 1 (some .boolean), .methodLink RX5 80 yX5_within, .static yX5_within, .code yX5_within cX5_within 3 (some .boolean), .methodLink RX5 142 yX5_isRange, .instanceMethod yX5_isRange, .selects RX5 yX5_isRange yX5_isRange, .code yX5_isRange cX5_isRange 3 (some .boolean), .fieldLink RX5 84 "MajorityIndexModel" "n" "I", .methodLink RX5 149 yX5_times, .instanceMethod yX5_times, .selects RX5 yX5_times yX5_times, .code yX5_times cX5_times 6 (some .int), .fieldLink RX5 7 "MajorityIndexModel" "row" "[I"] ++ wsX50)
def wsX5_place : List Cond := .code yX5_place cX5_place 5 (some .int) :: ([.fieldLink RX5 77 "MajorityIndexModel" "thrown" "I", .fieldLink RX5 84 "MajorityIndexModel" "n" "I", .fieldLink RX5 7 "MajorityIndexModel" "row" "[I"] ++ wsX50)
def wsX5_values : List Cond := .code yX5_values cX5_values 3 (some .int) :: ([.fieldLink RX5 77 "MajorityIndexModel" "thrown" "I", .fieldLink RX5 84 "MajorityIndexModel" "n" "I", .fieldLink RX5 7 "MajorityIndexModel" "row" "[I", .methodLink RX5 149 yX5_times, .instanceMethod yX5_times, .selects RX5 yX5_times yX5_times, .initialized RX5, .code yX5_times cX5_times 6 (some .int)] ++ wsX50)
def wsX5_isEnough : List Cond := .code yX5_isEnough cX5_isEnough 3 (some .boolean) :: ([.fieldLink RX5 13 "MajorityIndexModel" "slots" "I"] ++ wsX50)
def wsX5_majorityOf : List Cond := .code yX5_majorityOf cX5_majorityOf 4 (some .int) :: ([.fieldLink RX5 7 "MajorityIndexModel" "row" "[I", .constant RX5 148 (-40000), .methodLink RX5 149 yX5_times, .instanceMethod yX5_times, .selects RX5 yX5_times yX5_times, .initialized RX5, .code yX5_times cX5_times 6 (some .int)] ++ wsX50)
def wsX5_majority : List Cond := .code yX5_majority cX5_majority 3 (some .int) :: ([.fieldLink RX5 77 "MajorityIndexModel" "thrown" "I", .constant RX5 148 (-40000), .methodLink RX5 142 yX5_isRange, .instanceMethod yX5_isRange, .selects RX5 yX5_isRange yX5_isRange, .initialized RX5, .code yX5_isRange cX5_isRange 3 (some .boolean), .fieldLink RX5 84 "MajorityIndexModel" "n" "I", .methodLink RX5 194 yX5_majorityOf, .instanceMethod yX5_majorityOf, .selects RX5 yX5_majorityOf yX5_majorityOf, .code yX5_majorityOf cX5_majorityOf 4 (some .int), .fieldLink RX5 7 "MajorityIndexModel" "row" "[I", .methodLink RX5 149 yX5_times, .instanceMethod yX5_times, .selects RX5 yX5_times yX5_times, .code yX5_times cX5_times 6 (some .int)] ++ wsX50)
def wsX5_margin : List Cond := .code yX5_margin cX5_margin 4 (some .int) :: ([.fieldLink RX5 77 "MajorityIndexModel" "thrown" "I", .constant RX5 148 (-40000), .methodLink RX5 132 yX5_isValue, .static yX5_isValue, .initialized RX5, .code yX5_isValue cX5_isValue 1 (some .boolean), .methodLink RX5 80 yX5_within, .static yX5_within, .code yX5_within cX5_within 3 (some .boolean), .methodLink RX5 142 yX5_isRange, .instanceMethod yX5_isRange, .selects RX5 yX5_isRange yX5_isRange, .code yX5_isRange cX5_isRange 3 (some .boolean), .fieldLink RX5 84 "MajorityIndexModel" "n" "I", .methodLink RX5 149 yX5_times, .instanceMethod yX5_times, .selects RX5 yX5_times yX5_times, .code yX5_times cX5_times 6 (some .int), .fieldLink RX5 7 "MajorityIndexModel" "row" "[I"] ++ wsX50)
def wsX5_longest : List Cond := .code yX5_longest cX5_longest 10 (some .int) :: ([.fieldLink RX5 77 "MajorityIndexModel" "thrown" "I", .fieldLink RX5 84 "MajorityIndexModel" "n" "I", .fieldLink RX5 7 "MajorityIndexModel" "row" "[I", .methodLink RX5 132 yX5_isValue, .static yX5_isValue, .initialized RX5, .code yX5_isValue cX5_isValue 1 (some .boolean), .methodLink RX5 80 yX5_within, .static yX5_within, .code yX5_within cX5_within 3 (some .boolean), .methodLink RX5 184 yX5_isShare, .static yX5_isShare, .code yX5_isShare cX5_isShare 2 (some .boolean)] ++ wsX50)
def wsX5_cut : List Cond := .code yX5_cut cX5_cut 6 (some .int) :: ([.fieldLink RX5 77 "MajorityIndexModel" "thrown" "I", .constant RX5 148 (-40000), .methodLink RX5 142 yX5_isRange, .instanceMethod yX5_isRange, .selects RX5 yX5_isRange yX5_isRange, .initialized RX5, .code yX5_isRange cX5_isRange 3 (some .boolean), .fieldLink RX5 84 "MajorityIndexModel" "n" "I", .methodLink RX5 194 yX5_majorityOf, .instanceMethod yX5_majorityOf, .selects RX5 yX5_majorityOf yX5_majorityOf, .code yX5_majorityOf cX5_majorityOf 4 (some .int), .fieldLink RX5 7 "MajorityIndexModel" "row" "[I", .methodLink RX5 149 yX5_times, .instanceMethod yX5_times, .selects RX5 yX5_times yX5_times, .code yX5_times cX5_times 6 (some .int)] ++ wsX50)
def wsX5_would_r1 : List Cond := [Cond.fieldLink RX5 77 "MajorityIndexModel" "thrown" "I", Cond.constant RX5 148 (-40000), Cond.fieldLink RX5 7 "MajorityIndexModel" "row" "[I", Cond.methodLink RX5 128 yX5_isPlace, Cond.instanceMethod yX5_isPlace, Cond.selects RX5 yX5_isPlace yX5_isPlace, Cond.initialized RX5, Cond.code yX5_isPlace cX5_isPlace 2 (some .boolean), Cond.fieldLink RX5 84 "MajorityIndexModel" "n" "I", Cond.methodLink RX5 80 yX5_within, Cond.static yX5_within, Cond.code yX5_within cX5_within 3 (some .boolean), Cond.methodLink RX5 132 yX5_isValue, Cond.static yX5_isValue, Cond.code yX5_isValue cX5_isValue 1 (some .boolean), Cond.methodLink RX5 142 yX5_isRange, Cond.instanceMethod yX5_isRange, Cond.selects RX5 yX5_isRange yX5_isRange, Cond.code yX5_isRange cX5_isRange 3 (some .boolean), Cond.methodLink RX5 194 yX5_majorityOf, Cond.instanceMethod yX5_majorityOf, Cond.selects RX5 yX5_majorityOf yX5_majorityOf, Cond.code yX5_majorityOf cX5_majorityOf 4 (some .int), Cond.methodLink RX5 149 yX5_times]
def wsX5_would_r2 : List Cond := [Cond.instanceMethod yX5_times, Cond.selects RX5 yX5_times yX5_times, Cond.code yX5_times cX5_times 6 (some .int)]
def wsX5_would : List Cond := .code yX5_would cX5_would 7 (some .int) :: ((wsX5_would_r1 ++ wsX5_would_r2) ++ wsX50)
def dt_cX5_within_0 : List (Nat × Nat × Nat × Nat) := [(0, 26, 0, 0), (1, 27, 0, 0), (2, 161, 2, 12), (5, 26, 0, 0), (6, 28, 0, 0), (7, 163, 2, 7), (10, 4, 0, 0), (11, 167, 2, 4), (14, 3, 0, 0), (15, 172, 0, 0)]
theorem da_cX5_within_0 : fw dt_cX5_within_0 0 cX5_within.data.toList = true := by decide +kernel
theorem dX5_within_0 : decode cX5_within 0 = .ok (.iload_n 0, 1) := fo_26 (fw_get da_cX5_within_0 0 rfl)
theorem dX5_within_1 : decode cX5_within 1 = .ok (.iload_n 1, 1) := fo_27 (fw_get da_cX5_within_0 1 rfl)
theorem dX5_within_2 : decode cX5_within 2 = .ok (.if_icmp .lt 12, 3) := fo_161 (fw_get da_cX5_within_0 2 rfl) (by decide +kernel)
theorem dX5_within_5 : decode cX5_within 5 = .ok (.iload_n 0, 1) := fo_26 (fw_get da_cX5_within_0 3 rfl)
theorem dX5_within_6 : decode cX5_within 6 = .ok (.iload_n 2, 1) := fo_28 (fw_get da_cX5_within_0 4 rfl)
theorem dX5_within_7 : decode cX5_within 7 = .ok (.if_icmp .gt 7, 3) := fo_163 (fw_get da_cX5_within_0 5 rfl) (by decide +kernel)
theorem dX5_within_10 : decode cX5_within 10 = .ok (.iconst 1, 1) := fo_4 (fw_get da_cX5_within_0 6 rfl)
theorem dX5_within_11 : decode cX5_within 11 = .ok (.goto 4, 3) := fo_167 (fw_get da_cX5_within_0 7 rfl) (by decide +kernel)
theorem dX5_within_14 : decode cX5_within 14 = .ok (.iconst 0, 1) := fo_3 (fw_get da_cX5_within_0 8 rfl)
theorem dX5_within_15 : decode cX5_within 15 = .ok (.ireturn, 1) := fo_172 (fw_get da_cX5_within_0 9 rfl)
set_option maxRecDepth 20000 in
theorem ggX5_isValue_X5_within : GoodIn wsX5_isValue wsX5_within := goodIn_r _ [4] rfl (by decide +kernel)
set_option maxRecDepth 20000 in
theorem gX5_isValue_X5_within : GoodIn wsX5_isValue (va_wsS RX5 80 yX5_within wsX5_within) := goodIn_app (goodIn_r _ [1, 2, 3] rfl (by decide +kernel)) ggX5_isValue_X5_within
def dt_cX5_isValue_0 : List (Nat × Nat × Nat × Nat) := [(0, 26, 0, 0), (1, 17, 2, 32768), (4, 17, 2, 32767), (7, 184, 2, 80), (10, 172, 0, 0)]
theorem da_cX5_isValue_0 : fw dt_cX5_isValue_0 0 cX5_isValue.data.toList = true := by decide +kernel
theorem dX5_isValue_0 : decode cX5_isValue 0 = .ok (.iload_n 0, 1) := fo_26 (fw_get da_cX5_isValue_0 0 rfl)
theorem dX5_isValue_1 : decode cX5_isValue 1 = .ok (.sipush (-32768), 3) := fo_17 (fw_get da_cX5_isValue_0 1 rfl) (by decide +kernel)
theorem dX5_isValue_4 : decode cX5_isValue 4 = .ok (.sipush 32767, 3) := fo_17 (fw_get da_cX5_isValue_0 2 rfl) (by decide +kernel)
theorem dX5_isValue_7 : decode cX5_isValue 7 = .ok (.invokestatic 80, 3) := fo_184 (fw_get da_cX5_isValue_0 3 rfl)
theorem dX5_isValue_10 : decode cX5_isValue 10 = .ok (.ireturn, 1) := fo_172 (fw_get da_cX5_isValue_0 4 rfl)
set_option maxRecDepth 20000 in
theorem ggX5_isPlace_X5_within : GoodIn wsX5_isPlace wsX5_within := goodIn_r _ [5] rfl (by decide +kernel)
set_option maxRecDepth 20000 in
theorem gX5_isPlace_X5_within : GoodIn wsX5_isPlace (va_wsS RX5 80 yX5_within wsX5_within) := goodIn_app (goodIn_r _ [2, 3, 4] rfl (by decide +kernel)) ggX5_isPlace_X5_within
def dt_cX5_isPlace_0 : List (Nat × Nat × Nat × Nat) := [(0, 27, 0, 0), (1, 3, 0, 0), (2, 42, 0, 0), (3, 180, 2, 84), (6, 4, 0, 0), (7, 100, 0, 0), (8, 184, 2, 80), (11, 172, 0, 0)]
theorem da_cX5_isPlace_0 : fw dt_cX5_isPlace_0 0 cX5_isPlace.data.toList = true := by decide +kernel
theorem dX5_isPlace_0 : decode cX5_isPlace 0 = .ok (.iload_n 1, 1) := fo_27 (fw_get da_cX5_isPlace_0 0 rfl)
theorem dX5_isPlace_1 : decode cX5_isPlace 1 = .ok (.iconst 0, 1) := fo_3 (fw_get da_cX5_isPlace_0 1 rfl)
theorem dX5_isPlace_2 : decode cX5_isPlace 2 = .ok (.aload_n 0, 1) := fo_42 (fw_get da_cX5_isPlace_0 2 rfl)
theorem dX5_isPlace_3 : decode cX5_isPlace 3 = .ok (.getfield 84, 3) := fo_180 (fw_get da_cX5_isPlace_0 3 rfl)
theorem dX5_isPlace_6 : decode cX5_isPlace 6 = .ok (.iconst 1, 1) := fo_4 (fw_get da_cX5_isPlace_0 4 rfl)
theorem dX5_isPlace_7 : decode cX5_isPlace 7 = .ok (.isub, 1) := fo_100 (fw_get da_cX5_isPlace_0 5 rfl)
theorem dX5_isPlace_8 : decode cX5_isPlace 8 = .ok (.invokestatic 80, 3) := fo_184 (fw_get da_cX5_isPlace_0 6 rfl)
theorem dX5_isPlace_11 : decode cX5_isPlace 11 = .ok (.ireturn, 1) := fo_172 (fw_get da_cX5_isPlace_0 7 rfl)
def dt_cX5_isRange_0 : List (Nat × Nat × Nat × Nat) := [(0, 27, 0, 0), (1, 155, 2, 20), (4, 27, 0, 0), (5, 28, 0, 0), (6, 162, 2, 15), (9, 28, 0, 0), (10, 42, 0, 0), (11, 180, 2, 84), (14, 163, 2, 7), (17, 4, 0, 0), (18, 167, 2, 4), (21, 3, 0, 0), (22, 172, 0, 0)]
theorem da_cX5_isRange_0 : fw dt_cX5_isRange_0 0 cX5_isRange.data.toList = true := by decide +kernel
theorem dX5_isRange_0 : decode cX5_isRange 0 = .ok (.iload_n 1, 1) := fo_27 (fw_get da_cX5_isRange_0 0 rfl)
theorem dX5_isRange_1 : decode cX5_isRange 1 = .ok (.ifCond .lt 20, 3) := fo_155 (fw_get da_cX5_isRange_0 1 rfl) (by decide +kernel)
theorem dX5_isRange_4 : decode cX5_isRange 4 = .ok (.iload_n 1, 1) := fo_27 (fw_get da_cX5_isRange_0 2 rfl)
theorem dX5_isRange_5 : decode cX5_isRange 5 = .ok (.iload_n 2, 1) := fo_28 (fw_get da_cX5_isRange_0 3 rfl)
theorem dX5_isRange_6 : decode cX5_isRange 6 = .ok (.if_icmp .ge 15, 3) := fo_162 (fw_get da_cX5_isRange_0 4 rfl) (by decide +kernel)
theorem dX5_isRange_9 : decode cX5_isRange 9 = .ok (.iload_n 2, 1) := fo_28 (fw_get da_cX5_isRange_0 5 rfl)
theorem dX5_isRange_10 : decode cX5_isRange 10 = .ok (.aload_n 0, 1) := fo_42 (fw_get da_cX5_isRange_0 6 rfl)
theorem dX5_isRange_11 : decode cX5_isRange 11 = .ok (.getfield 84, 3) := fo_180 (fw_get da_cX5_isRange_0 7 rfl)
theorem dX5_isRange_14 : decode cX5_isRange 14 = .ok (.if_icmp .gt 7, 3) := fo_163 (fw_get da_cX5_isRange_0 8 rfl) (by decide +kernel)
theorem dX5_isRange_17 : decode cX5_isRange 17 = .ok (.iconst 1, 1) := fo_4 (fw_get da_cX5_isRange_0 9 rfl)
theorem dX5_isRange_18 : decode cX5_isRange 18 = .ok (.goto 4, 3) := fo_167 (fw_get da_cX5_isRange_0 10 rfl) (by decide +kernel)
theorem dX5_isRange_21 : decode cX5_isRange 21 = .ok (.iconst 0, 1) := fo_3 (fw_get da_cX5_isRange_0 11 rfl)
theorem dX5_isRange_22 : decode cX5_isRange 22 = .ok (.ireturn, 1) := fo_172 (fw_get da_cX5_isRange_0 12 rfl)
set_option maxRecDepth 20000 in
theorem ggX5_isShare_X5_within : GoodIn wsX5_isShare wsX5_within := goodIn_r _ [4] rfl (by decide +kernel)
set_option maxRecDepth 20000 in
theorem gX5_isShare_X5_within : GoodIn wsX5_isShare (va_wsS RX5 80 yX5_within wsX5_within) := goodIn_app (goodIn_r _ [1, 2, 3] rfl (by decide +kernel)) ggX5_isShare_X5_within
def dt_cX5_isShare_0 : List (Nat × Nat × Nat × Nat) := [(0, 26, 0, 0), (1, 4, 0, 0), (2, 17, 2, 999), (5, 184, 2, 80), (8, 153, 2, 18), (11, 27, 0, 0), (12, 26, 0, 0), (13, 17, 2, 999), (16, 184, 2, 80), (19, 153, 2, 7), (22, 4, 0, 0), (23, 167, 2, 4), (26, 3, 0, 0), (27, 172, 0, 0)]
theorem da_cX5_isShare_0 : fw dt_cX5_isShare_0 0 cX5_isShare.data.toList = true := by decide +kernel
theorem dX5_isShare_0 : decode cX5_isShare 0 = .ok (.iload_n 0, 1) := fo_26 (fw_get da_cX5_isShare_0 0 rfl)
theorem dX5_isShare_1 : decode cX5_isShare 1 = .ok (.iconst 1, 1) := fo_4 (fw_get da_cX5_isShare_0 1 rfl)
theorem dX5_isShare_2 : decode cX5_isShare 2 = .ok (.sipush 999, 3) := fo_17 (fw_get da_cX5_isShare_0 2 rfl) (by decide +kernel)
theorem dX5_isShare_5 : decode cX5_isShare 5 = .ok (.invokestatic 80, 3) := fo_184 (fw_get da_cX5_isShare_0 3 rfl)
theorem dX5_isShare_8 : decode cX5_isShare 8 = .ok (.ifCond .eq 18, 3) := fo_153 (fw_get da_cX5_isShare_0 4 rfl) (by decide +kernel)
theorem dX5_isShare_11 : decode cX5_isShare 11 = .ok (.iload_n 1, 1) := fo_27 (fw_get da_cX5_isShare_0 5 rfl)
theorem dX5_isShare_12 : decode cX5_isShare 12 = .ok (.iload_n 0, 1) := fo_26 (fw_get da_cX5_isShare_0 6 rfl)
theorem dX5_isShare_13 : decode cX5_isShare 13 = .ok (.sipush 999, 3) := fo_17 (fw_get da_cX5_isShare_0 7 rfl) (by decide +kernel)
theorem dX5_isShare_16 : decode cX5_isShare 16 = .ok (.invokestatic 80, 3) := fo_184 (fw_get da_cX5_isShare_0 8 rfl)
theorem dX5_isShare_19 : decode cX5_isShare 19 = .ok (.ifCond .eq 7, 3) := fo_153 (fw_get da_cX5_isShare_0 9 rfl) (by decide +kernel)
theorem dX5_isShare_22 : decode cX5_isShare 22 = .ok (.iconst 1, 1) := fo_4 (fw_get da_cX5_isShare_0 10 rfl)
theorem dX5_isShare_23 : decode cX5_isShare 23 = .ok (.goto 4, 3) := fo_167 (fw_get da_cX5_isShare_0 11 rfl) (by decide +kernel)
theorem dX5_isShare_26 : decode cX5_isShare 26 = .ok (.iconst 0, 1) := fo_3 (fw_get da_cX5_isShare_0 12 rfl)
theorem dX5_isShare_27 : decode cX5_isShare 27 = .ok (.ireturn, 1) := fo_172 (fw_get da_cX5_isShare_0 13 rfl)
def dt_cX5_feed_0 : List (Nat × Nat × Nat × Nat) := [(0, 42, 0, 0), (1, 3, 0, 0), (2, 181, 2, 77), (5, 42, 0, 0), (6, 180, 2, 84), (9, 7, 0, 0), (10, 96, 0, 0), (11, 17, 2, 160), (14, 164, 2, 5), (17, 2, 0, 0), (18, 172, 0, 0), (19, 42, 0, 0), (20, 180, 2, 7), (23, 42, 0, 0), (24, 180, 2, 84), (27, 27, 0, 0), (28, 16, 1, 16), (30, 122, 0, 0), (31, 147, 0, 0), (32, 79, 0, 0)]
theorem da_cX5_feed_0 : fw dt_cX5_feed_0 0 cX5_feed.data.toList = true := by decide +kernel
theorem dX5_feed_0 : decode cX5_feed 0 = .ok (.aload_n 0, 1) := fo_42 (fw_get da_cX5_feed_0 0 rfl)
theorem dX5_feed_1 : decode cX5_feed 1 = .ok (.iconst 0, 1) := fo_3 (fw_get da_cX5_feed_0 1 rfl)
theorem dX5_feed_2 : decode cX5_feed 2 = .ok (.putfield 77, 3) := fo_181 (fw_get da_cX5_feed_0 2 rfl)
theorem dX5_feed_5 : decode cX5_feed 5 = .ok (.aload_n 0, 1) := fo_42 (fw_get da_cX5_feed_0 3 rfl)
theorem dX5_feed_6 : decode cX5_feed 6 = .ok (.getfield 84, 3) := fo_180 (fw_get da_cX5_feed_0 4 rfl)
theorem dX5_feed_9 : decode cX5_feed 9 = .ok (.iconst 4, 1) := fo_7 (fw_get da_cX5_feed_0 5 rfl)
theorem dX5_feed_10 : decode cX5_feed 10 = .ok (.iadd, 1) := fo_96 (fw_get da_cX5_feed_0 6 rfl)
theorem dX5_feed_11 : decode cX5_feed 11 = .ok (.sipush 160, 3) := fo_17 (fw_get da_cX5_feed_0 7 rfl) (by decide +kernel)
theorem dX5_feed_14 : decode cX5_feed 14 = .ok (.if_icmp .le 5, 3) := fo_164 (fw_get da_cX5_feed_0 8 rfl) (by decide +kernel)
theorem dX5_feed_17 : decode cX5_feed 17 = .ok (.iconst (-1), 1) := fo_2 (fw_get da_cX5_feed_0 9 rfl)
theorem dX5_feed_18 : decode cX5_feed 18 = .ok (.ireturn, 1) := fo_172 (fw_get da_cX5_feed_0 10 rfl)
theorem dX5_feed_19 : decode cX5_feed 19 = .ok (.aload_n 0, 1) := fo_42 (fw_get da_cX5_feed_0 11 rfl)
theorem dX5_feed_20 : decode cX5_feed 20 = .ok (.getfield 7, 3) := fo_180 (fw_get da_cX5_feed_0 12 rfl)
theorem dX5_feed_23 : decode cX5_feed 23 = .ok (.aload_n 0, 1) := fo_42 (fw_get da_cX5_feed_0 13 rfl)
theorem dX5_feed_24 : decode cX5_feed 24 = .ok (.getfield 84, 3) := fo_180 (fw_get da_cX5_feed_0 14 rfl)
theorem dX5_feed_27 : decode cX5_feed 27 = .ok (.iload_n 1, 1) := fo_27 (fw_get da_cX5_feed_0 15 rfl)
theorem dX5_feed_28 : decode cX5_feed 28 = .ok (.bipush 16, 2) := fo_16 (fw_get da_cX5_feed_0 16 rfl) (by decide +kernel)
theorem dX5_feed_30 : decode cX5_feed 30 = .ok (.ishr, 1) := fo_122 (fw_get da_cX5_feed_0 17 rfl)
theorem dX5_feed_31 : decode cX5_feed 31 = .ok (.i2s, 1) := fo_147 (fw_get da_cX5_feed_0 18 rfl)
theorem dX5_feed_32 : decode cX5_feed 32 = .ok (.iastore, 1) := fo_79 (fw_get da_cX5_feed_0 19 rfl)
def dt_cX5_feed_1 : List (Nat × Nat × Nat × Nat) := [(33, 42, 0, 0), (34, 180, 2, 7), (37, 42, 0, 0), (38, 180, 2, 84), (41, 4, 0, 0), (42, 96, 0, 0), (43, 27, 0, 0), (44, 147, 0, 0), (45, 79, 0, 0), (46, 42, 0, 0), (47, 180, 2, 7), (50, 42, 0, 0), (51, 180, 2, 84), (54, 5, 0, 0), (55, 96, 0, 0), (56, 28, 0, 0), (57, 16, 1, 16), (59, 122, 0, 0), (60, 147, 0, 0), (61, 79, 0, 0)]
theorem da_cX5_feed_1 : fw dt_cX5_feed_1 0 cX5_feed.data.toList = true := by decide +kernel
theorem dX5_feed_33 : decode cX5_feed 33 = .ok (.aload_n 0, 1) := fo_42 (fw_get da_cX5_feed_1 0 rfl)
theorem dX5_feed_34 : decode cX5_feed 34 = .ok (.getfield 7, 3) := fo_180 (fw_get da_cX5_feed_1 1 rfl)
theorem dX5_feed_37 : decode cX5_feed 37 = .ok (.aload_n 0, 1) := fo_42 (fw_get da_cX5_feed_1 2 rfl)
theorem dX5_feed_38 : decode cX5_feed 38 = .ok (.getfield 84, 3) := fo_180 (fw_get da_cX5_feed_1 3 rfl)
theorem dX5_feed_41 : decode cX5_feed 41 = .ok (.iconst 1, 1) := fo_4 (fw_get da_cX5_feed_1 4 rfl)
theorem dX5_feed_42 : decode cX5_feed 42 = .ok (.iadd, 1) := fo_96 (fw_get da_cX5_feed_1 5 rfl)
theorem dX5_feed_43 : decode cX5_feed 43 = .ok (.iload_n 1, 1) := fo_27 (fw_get da_cX5_feed_1 6 rfl)
theorem dX5_feed_44 : decode cX5_feed 44 = .ok (.i2s, 1) := fo_147 (fw_get da_cX5_feed_1 7 rfl)
theorem dX5_feed_45 : decode cX5_feed 45 = .ok (.iastore, 1) := fo_79 (fw_get da_cX5_feed_1 8 rfl)
theorem dX5_feed_46 : decode cX5_feed 46 = .ok (.aload_n 0, 1) := fo_42 (fw_get da_cX5_feed_1 9 rfl)
theorem dX5_feed_47 : decode cX5_feed 47 = .ok (.getfield 7, 3) := fo_180 (fw_get da_cX5_feed_1 10 rfl)
theorem dX5_feed_50 : decode cX5_feed 50 = .ok (.aload_n 0, 1) := fo_42 (fw_get da_cX5_feed_1 11 rfl)
theorem dX5_feed_51 : decode cX5_feed 51 = .ok (.getfield 84, 3) := fo_180 (fw_get da_cX5_feed_1 12 rfl)
theorem dX5_feed_54 : decode cX5_feed 54 = .ok (.iconst 2, 1) := fo_5 (fw_get da_cX5_feed_1 13 rfl)
theorem dX5_feed_55 : decode cX5_feed 55 = .ok (.iadd, 1) := fo_96 (fw_get da_cX5_feed_1 14 rfl)
theorem dX5_feed_56 : decode cX5_feed 56 = .ok (.iload_n 2, 1) := fo_28 (fw_get da_cX5_feed_1 15 rfl)
theorem dX5_feed_57 : decode cX5_feed 57 = .ok (.bipush 16, 2) := fo_16 (fw_get da_cX5_feed_1 16 rfl) (by decide +kernel)
theorem dX5_feed_59 : decode cX5_feed 59 = .ok (.ishr, 1) := fo_122 (fw_get da_cX5_feed_1 17 rfl)
theorem dX5_feed_60 : decode cX5_feed 60 = .ok (.i2s, 1) := fo_147 (fw_get da_cX5_feed_1 18 rfl)
theorem dX5_feed_61 : decode cX5_feed 61 = .ok (.iastore, 1) := fo_79 (fw_get da_cX5_feed_1 19 rfl)
def dt_cX5_feed_2 : List (Nat × Nat × Nat × Nat) := [(62, 42, 0, 0), (63, 180, 2, 7), (66, 42, 0, 0), (67, 180, 2, 84), (70, 6, 0, 0), (71, 96, 0, 0), (72, 28, 0, 0), (73, 147, 0, 0), (74, 79, 0, 0), (75, 42, 0, 0), (76, 89, 0, 0), (77, 180, 2, 84), (80, 7, 0, 0), (81, 96, 0, 0), (82, 181, 2, 84), (85, 42, 0, 0), (86, 180, 2, 84), (89, 172, 0, 0)]
theorem da_cX5_feed_2 : fw dt_cX5_feed_2 0 cX5_feed.data.toList = true := by decide +kernel
theorem dX5_feed_62 : decode cX5_feed 62 = .ok (.aload_n 0, 1) := fo_42 (fw_get da_cX5_feed_2 0 rfl)
theorem dX5_feed_63 : decode cX5_feed 63 = .ok (.getfield 7, 3) := fo_180 (fw_get da_cX5_feed_2 1 rfl)
theorem dX5_feed_66 : decode cX5_feed 66 = .ok (.aload_n 0, 1) := fo_42 (fw_get da_cX5_feed_2 2 rfl)
theorem dX5_feed_67 : decode cX5_feed 67 = .ok (.getfield 84, 3) := fo_180 (fw_get da_cX5_feed_2 3 rfl)
theorem dX5_feed_70 : decode cX5_feed 70 = .ok (.iconst 3, 1) := fo_6 (fw_get da_cX5_feed_2 4 rfl)
theorem dX5_feed_71 : decode cX5_feed 71 = .ok (.iadd, 1) := fo_96 (fw_get da_cX5_feed_2 5 rfl)
theorem dX5_feed_72 : decode cX5_feed 72 = .ok (.iload_n 2, 1) := fo_28 (fw_get da_cX5_feed_2 6 rfl)
theorem dX5_feed_73 : decode cX5_feed 73 = .ok (.i2s, 1) := fo_147 (fw_get da_cX5_feed_2 7 rfl)
theorem dX5_feed_74 : decode cX5_feed 74 = .ok (.iastore, 1) := fo_79 (fw_get da_cX5_feed_2 8 rfl)
theorem dX5_feed_75 : decode cX5_feed 75 = .ok (.aload_n 0, 1) := fo_42 (fw_get da_cX5_feed_2 9 rfl)
theorem dX5_feed_76 : decode cX5_feed 76 = .ok (.dup, 1) := fo_89 (fw_get da_cX5_feed_2 10 rfl)
theorem dX5_feed_77 : decode cX5_feed 77 = .ok (.getfield 84, 3) := fo_180 (fw_get da_cX5_feed_2 11 rfl)
theorem dX5_feed_80 : decode cX5_feed 80 = .ok (.iconst 4, 1) := fo_7 (fw_get da_cX5_feed_2 12 rfl)
theorem dX5_feed_81 : decode cX5_feed 81 = .ok (.iadd, 1) := fo_96 (fw_get da_cX5_feed_2 13 rfl)
theorem dX5_feed_82 : decode cX5_feed 82 = .ok (.putfield 84, 3) := fo_181 (fw_get da_cX5_feed_2 14 rfl)
theorem dX5_feed_85 : decode cX5_feed 85 = .ok (.aload_n 0, 1) := fo_42 (fw_get da_cX5_feed_2 15 rfl)
theorem dX5_feed_86 : decode cX5_feed 86 = .ok (.getfield 84, 3) := fo_180 (fw_get da_cX5_feed_2 16 rfl)
theorem dX5_feed_89 : decode cX5_feed 89 = .ok (.ireturn, 1) := fo_172 (fw_get da_cX5_feed_2 17 rfl)
set_option maxRecDepth 20000 in
theorem ggX5_end_X5_within : GoodIn wsX5_end wsX5_within := goodIn_r _ [6] rfl (by decide +kernel)
set_option maxRecDepth 20000 in
theorem gX5_end_X5_within : GoodIn wsX5_end (va_wsS RX5 80 yX5_within wsX5_within) := goodIn_app (goodIn_r _ [3, 4, 5] rfl (by decide +kernel)) ggX5_end_X5_within
def dt_cX5_end_0 : List (Nat × Nat × Nat × Nat) := [(0, 42, 0, 0), (1, 3, 0, 0), (2, 181, 2, 77), (5, 27, 0, 0), (6, 3, 0, 0), (7, 42, 0, 0), (8, 180, 2, 84), (11, 184, 2, 80), (14, 154, 2, 5), (17, 2, 0, 0), (18, 172, 0, 0), (19, 42, 0, 0), (20, 27, 0, 0), (21, 181, 2, 84), (24, 42, 0, 0), (25, 180, 2, 84), (28, 172, 0, 0)]
theorem da_cX5_end_0 : fw dt_cX5_end_0 0 cX5_end.data.toList = true := by decide +kernel
theorem dX5_end_0 : decode cX5_end 0 = .ok (.aload_n 0, 1) := fo_42 (fw_get da_cX5_end_0 0 rfl)
theorem dX5_end_1 : decode cX5_end 1 = .ok (.iconst 0, 1) := fo_3 (fw_get da_cX5_end_0 1 rfl)
theorem dX5_end_2 : decode cX5_end 2 = .ok (.putfield 77, 3) := fo_181 (fw_get da_cX5_end_0 2 rfl)
theorem dX5_end_5 : decode cX5_end 5 = .ok (.iload_n 1, 1) := fo_27 (fw_get da_cX5_end_0 3 rfl)
theorem dX5_end_6 : decode cX5_end 6 = .ok (.iconst 0, 1) := fo_3 (fw_get da_cX5_end_0 4 rfl)
theorem dX5_end_7 : decode cX5_end 7 = .ok (.aload_n 0, 1) := fo_42 (fw_get da_cX5_end_0 5 rfl)
theorem dX5_end_8 : decode cX5_end 8 = .ok (.getfield 84, 3) := fo_180 (fw_get da_cX5_end_0 6 rfl)
theorem dX5_end_11 : decode cX5_end 11 = .ok (.invokestatic 80, 3) := fo_184 (fw_get da_cX5_end_0 7 rfl)
theorem dX5_end_14 : decode cX5_end 14 = .ok (.ifCond .ne 5, 3) := fo_154 (fw_get da_cX5_end_0 8 rfl) (by decide +kernel)
theorem dX5_end_17 : decode cX5_end 17 = .ok (.iconst (-1), 1) := fo_2 (fw_get da_cX5_end_0 9 rfl)
theorem dX5_end_18 : decode cX5_end 18 = .ok (.ireturn, 1) := fo_172 (fw_get da_cX5_end_0 10 rfl)
theorem dX5_end_19 : decode cX5_end 19 = .ok (.aload_n 0, 1) := fo_42 (fw_get da_cX5_end_0 11 rfl)
theorem dX5_end_20 : decode cX5_end 20 = .ok (.iload_n 1, 1) := fo_27 (fw_get da_cX5_end_0 12 rfl)
theorem dX5_end_21 : decode cX5_end 21 = .ok (.putfield 84, 3) := fo_181 (fw_get da_cX5_end_0 13 rfl)
theorem dX5_end_24 : decode cX5_end 24 = .ok (.aload_n 0, 1) := fo_42 (fw_get da_cX5_end_0 14 rfl)
theorem dX5_end_25 : decode cX5_end 25 = .ok (.getfield 84, 3) := fo_180 (fw_get da_cX5_end_0 15 rfl)
theorem dX5_end_28 : decode cX5_end 28 = .ok (.ireturn, 1) := fo_172 (fw_get da_cX5_end_0 16 rfl)
set_option maxRecDepth 20000 in
theorem ggX5_slots_X5_within : GoodIn wsX5_slots wsX5_within := goodIn_r _ [6] rfl (by decide +kernel)
set_option maxRecDepth 20000 in
theorem gX5_slots_X5_within : GoodIn wsX5_slots (va_wsS RX5 80 yX5_within wsX5_within) := goodIn_app (goodIn_r _ [3, 4, 5] rfl (by decide +kernel)) ggX5_slots_X5_within
def dt_cX5_slots_0 : List (Nat × Nat × Nat × Nat) := [(0, 42, 0, 0), (1, 3, 0, 0), (2, 181, 2, 77), (5, 27, 0, 0), (6, 4, 0, 0), (7, 16, 1, 6), (9, 184, 2, 80), (12, 154, 2, 5), (15, 2, 0, 0), (16, 172, 0, 0), (17, 42, 0, 0), (18, 180, 2, 13), (21, 61, 0, 0), (22, 42, 0, 0), (23, 27, 0, 0), (24, 181, 2, 13), (27, 28, 0, 0), (28, 172, 0, 0)]
theorem da_cX5_slots_0 : fw dt_cX5_slots_0 0 cX5_slots.data.toList = true := by decide +kernel
theorem dX5_slots_0 : decode cX5_slots 0 = .ok (.aload_n 0, 1) := fo_42 (fw_get da_cX5_slots_0 0 rfl)
theorem dX5_slots_1 : decode cX5_slots 1 = .ok (.iconst 0, 1) := fo_3 (fw_get da_cX5_slots_0 1 rfl)
theorem dX5_slots_2 : decode cX5_slots 2 = .ok (.putfield 77, 3) := fo_181 (fw_get da_cX5_slots_0 2 rfl)
theorem dX5_slots_5 : decode cX5_slots 5 = .ok (.iload_n 1, 1) := fo_27 (fw_get da_cX5_slots_0 3 rfl)
theorem dX5_slots_6 : decode cX5_slots 6 = .ok (.iconst 1, 1) := fo_4 (fw_get da_cX5_slots_0 4 rfl)
theorem dX5_slots_7 : decode cX5_slots 7 = .ok (.bipush 6, 2) := fo_16 (fw_get da_cX5_slots_0 5 rfl) (by decide +kernel)
theorem dX5_slots_9 : decode cX5_slots 9 = .ok (.invokestatic 80, 3) := fo_184 (fw_get da_cX5_slots_0 6 rfl)
theorem dX5_slots_12 : decode cX5_slots 12 = .ok (.ifCond .ne 5, 3) := fo_154 (fw_get da_cX5_slots_0 7 rfl) (by decide +kernel)
theorem dX5_slots_15 : decode cX5_slots 15 = .ok (.iconst (-1), 1) := fo_2 (fw_get da_cX5_slots_0 8 rfl)
theorem dX5_slots_16 : decode cX5_slots 16 = .ok (.ireturn, 1) := fo_172 (fw_get da_cX5_slots_0 9 rfl)
theorem dX5_slots_17 : decode cX5_slots 17 = .ok (.aload_n 0, 1) := fo_42 (fw_get da_cX5_slots_0 10 rfl)
theorem dX5_slots_18 : decode cX5_slots 18 = .ok (.getfield 13, 3) := fo_180 (fw_get da_cX5_slots_0 11 rfl)
theorem dX5_slots_21 : decode cX5_slots 21 = .ok (.istore_n 2, 1) := fo_61 (fw_get da_cX5_slots_0 12 rfl)
theorem dX5_slots_22 : decode cX5_slots 22 = .ok (.aload_n 0, 1) := fo_42 (fw_get da_cX5_slots_0 13 rfl)
theorem dX5_slots_23 : decode cX5_slots 23 = .ok (.iload_n 1, 1) := fo_27 (fw_get da_cX5_slots_0 14 rfl)
theorem dX5_slots_24 : decode cX5_slots 24 = .ok (.putfield 13, 3) := fo_181 (fw_get da_cX5_slots_0 15 rfl)
theorem dX5_slots_27 : decode cX5_slots 27 = .ok (.iload_n 2, 1) := fo_28 (fw_get da_cX5_slots_0 16 rfl)
theorem dX5_slots_28 : decode cX5_slots 28 = .ok (.ireturn, 1) := fo_172 (fw_get da_cX5_slots_0 17 rfl)
set_option maxRecDepth 20000 in
theorem ggX5_insert_X5_within : GoodIn wsX5_insert wsX5_within := goodIn_r _ [7] rfl (by decide +kernel)
set_option maxRecDepth 20000 in
theorem gX5_insert_X5_within : GoodIn wsX5_insert (va_wsS RX5 80 yX5_within wsX5_within) := goodIn_app (goodIn_r _ [4, 5, 6] rfl (by decide +kernel)) ggX5_insert_X5_within
set_option maxRecDepth 20000 in
theorem ggX5_insert_X5_isValue : GoodIn wsX5_insert wsX5_isValue := goodIn_r _ [10, 4, 5, 6, 7] rfl (by decide +kernel)
set_option maxRecDepth 20000 in
theorem gX5_insert_X5_isValue : GoodIn wsX5_insert (va_wsS RX5 132 yX5_isValue wsX5_isValue) := goodIn_app (goodIn_r _ [8, 9, 6] rfl (by decide +kernel)) ggX5_insert_X5_isValue
def dt_cX5_insert_0 : List (Nat × Nat × Nat × Nat) := [(0, 42, 0, 0), (1, 3, 0, 0), (2, 181, 2, 77), (5, 27, 0, 0), (6, 3, 0, 0), (7, 42, 0, 0), (8, 180, 2, 84), (11, 184, 2, 80), (14, 153, 2, 20), (17, 28, 0, 0), (18, 184, 2, 132), (21, 153, 2, 13), (24, 42, 0, 0), (25, 180, 2, 84), (28, 17, 2, 160), (31, 160, 2, 5), (34, 2, 0, 0), (35, 172, 0, 0), (36, 42, 0, 0), (37, 180, 2, 84)]
theorem da_cX5_insert_0 : fw dt_cX5_insert_0 0 cX5_insert.data.toList = true := by decide +kernel
theorem dX5_insert_0 : decode cX5_insert 0 = .ok (.aload_n 0, 1) := fo_42 (fw_get da_cX5_insert_0 0 rfl)
theorem dX5_insert_1 : decode cX5_insert 1 = .ok (.iconst 0, 1) := fo_3 (fw_get da_cX5_insert_0 1 rfl)
theorem dX5_insert_2 : decode cX5_insert 2 = .ok (.putfield 77, 3) := fo_181 (fw_get da_cX5_insert_0 2 rfl)
theorem dX5_insert_5 : decode cX5_insert 5 = .ok (.iload_n 1, 1) := fo_27 (fw_get da_cX5_insert_0 3 rfl)
theorem dX5_insert_6 : decode cX5_insert 6 = .ok (.iconst 0, 1) := fo_3 (fw_get da_cX5_insert_0 4 rfl)
theorem dX5_insert_7 : decode cX5_insert 7 = .ok (.aload_n 0, 1) := fo_42 (fw_get da_cX5_insert_0 5 rfl)
theorem dX5_insert_8 : decode cX5_insert 8 = .ok (.getfield 84, 3) := fo_180 (fw_get da_cX5_insert_0 6 rfl)
theorem dX5_insert_11 : decode cX5_insert 11 = .ok (.invokestatic 80, 3) := fo_184 (fw_get da_cX5_insert_0 7 rfl)
theorem dX5_insert_14 : decode cX5_insert 14 = .ok (.ifCond .eq 20, 3) := fo_153 (fw_get da_cX5_insert_0 8 rfl) (by decide +kernel)
theorem dX5_insert_17 : decode cX5_insert 17 = .ok (.iload_n 2, 1) := fo_28 (fw_get da_cX5_insert_0 9 rfl)
theorem dX5_insert_18 : decode cX5_insert 18 = .ok (.invokestatic 132, 3) := fo_184 (fw_get da_cX5_insert_0 10 rfl)
theorem dX5_insert_21 : decode cX5_insert 21 = .ok (.ifCond .eq 13, 3) := fo_153 (fw_get da_cX5_insert_0 11 rfl) (by decide +kernel)
theorem dX5_insert_24 : decode cX5_insert 24 = .ok (.aload_n 0, 1) := fo_42 (fw_get da_cX5_insert_0 12 rfl)
theorem dX5_insert_25 : decode cX5_insert 25 = .ok (.getfield 84, 3) := fo_180 (fw_get da_cX5_insert_0 13 rfl)
theorem dX5_insert_28 : decode cX5_insert 28 = .ok (.sipush 160, 3) := fo_17 (fw_get da_cX5_insert_0 14 rfl) (by decide +kernel)
theorem dX5_insert_31 : decode cX5_insert 31 = .ok (.if_icmp .ne 5, 3) := fo_160 (fw_get da_cX5_insert_0 15 rfl) (by decide +kernel)
theorem dX5_insert_34 : decode cX5_insert 34 = .ok (.iconst (-1), 1) := fo_2 (fw_get da_cX5_insert_0 16 rfl)
theorem dX5_insert_35 : decode cX5_insert 35 = .ok (.ireturn, 1) := fo_172 (fw_get da_cX5_insert_0 17 rfl)
theorem dX5_insert_36 : decode cX5_insert 36 = .ok (.aload_n 0, 1) := fo_42 (fw_get da_cX5_insert_0 18 rfl)
theorem dX5_insert_37 : decode cX5_insert 37 = .ok (.getfield 84, 3) := fo_180 (fw_get da_cX5_insert_0 19 rfl)
def dt_cX5_insert_1 : List (Nat × Nat × Nat × Nat) := [(40, 62, 0, 0), (41, 29, 0, 0), (42, 27, 0, 0), (43, 164, 2, 23), (46, 42, 0, 0), (47, 180, 2, 7), (50, 29, 0, 0), (51, 42, 0, 0), (52, 180, 2, 7), (55, 29, 0, 0), (56, 4, 0, 0), (57, 100, 0, 0), (58, 46, 0, 0), (59, 79, 0, 0), (60, 132, 2, 1023), (63, 167, 2, 65514), (66, 42, 0, 0), (67, 180, 2, 7), (70, 27, 0, 0), (71, 28, 0, 0)]
theorem da_cX5_insert_1 : fw dt_cX5_insert_1 0 cX5_insert.data.toList = true := by decide +kernel
theorem dX5_insert_40 : decode cX5_insert 40 = .ok (.istore_n 3, 1) := fo_62 (fw_get da_cX5_insert_1 0 rfl)
theorem dX5_insert_41 : decode cX5_insert 41 = .ok (.iload_n 3, 1) := fo_29 (fw_get da_cX5_insert_1 1 rfl)
theorem dX5_insert_42 : decode cX5_insert 42 = .ok (.iload_n 1, 1) := fo_27 (fw_get da_cX5_insert_1 2 rfl)
theorem dX5_insert_43 : decode cX5_insert 43 = .ok (.if_icmp .le 23, 3) := fo_164 (fw_get da_cX5_insert_1 3 rfl) (by decide +kernel)
theorem dX5_insert_46 : decode cX5_insert 46 = .ok (.aload_n 0, 1) := fo_42 (fw_get da_cX5_insert_1 4 rfl)
theorem dX5_insert_47 : decode cX5_insert 47 = .ok (.getfield 7, 3) := fo_180 (fw_get da_cX5_insert_1 5 rfl)
theorem dX5_insert_50 : decode cX5_insert 50 = .ok (.iload_n 3, 1) := fo_29 (fw_get da_cX5_insert_1 6 rfl)
theorem dX5_insert_51 : decode cX5_insert 51 = .ok (.aload_n 0, 1) := fo_42 (fw_get da_cX5_insert_1 7 rfl)
theorem dX5_insert_52 : decode cX5_insert 52 = .ok (.getfield 7, 3) := fo_180 (fw_get da_cX5_insert_1 8 rfl)
theorem dX5_insert_55 : decode cX5_insert 55 = .ok (.iload_n 3, 1) := fo_29 (fw_get da_cX5_insert_1 9 rfl)
theorem dX5_insert_56 : decode cX5_insert 56 = .ok (.iconst 1, 1) := fo_4 (fw_get da_cX5_insert_1 10 rfl)
theorem dX5_insert_57 : decode cX5_insert 57 = .ok (.isub, 1) := fo_100 (fw_get da_cX5_insert_1 11 rfl)
theorem dX5_insert_58 : decode cX5_insert 58 = .ok (.iaload, 1) := fo_46 (fw_get da_cX5_insert_1 12 rfl)
theorem dX5_insert_59 : decode cX5_insert 59 = .ok (.iastore, 1) := fo_79 (fw_get da_cX5_insert_1 13 rfl)
theorem dX5_insert_60 : decode cX5_insert 60 = .ok (.iinc 3 (-1), 3) := fo_132 (fw_get da_cX5_insert_1 14 rfl) rfl (by decide +kernel)
theorem dX5_insert_63 : decode cX5_insert 63 = .ok (.goto (-22), 3) := fo_167 (fw_get da_cX5_insert_1 15 rfl) (by decide +kernel)
theorem dX5_insert_66 : decode cX5_insert 66 = .ok (.aload_n 0, 1) := fo_42 (fw_get da_cX5_insert_1 16 rfl)
theorem dX5_insert_67 : decode cX5_insert 67 = .ok (.getfield 7, 3) := fo_180 (fw_get da_cX5_insert_1 17 rfl)
theorem dX5_insert_70 : decode cX5_insert 70 = .ok (.iload_n 1, 1) := fo_27 (fw_get da_cX5_insert_1 18 rfl)
theorem dX5_insert_71 : decode cX5_insert 71 = .ok (.iload_n 2, 1) := fo_28 (fw_get da_cX5_insert_1 19 rfl)
def dt_cX5_insert_2 : List (Nat × Nat × Nat × Nat) := [(72, 79, 0, 0), (73, 42, 0, 0), (74, 89, 0, 0), (75, 180, 2, 84), (78, 4, 0, 0), (79, 96, 0, 0), (80, 181, 2, 84), (83, 42, 0, 0), (84, 180, 2, 84), (87, 172, 0, 0)]
theorem da_cX5_insert_2 : fw dt_cX5_insert_2 0 cX5_insert.data.toList = true := by decide +kernel
theorem dX5_insert_72 : decode cX5_insert 72 = .ok (.iastore, 1) := fo_79 (fw_get da_cX5_insert_2 0 rfl)
theorem dX5_insert_73 : decode cX5_insert 73 = .ok (.aload_n 0, 1) := fo_42 (fw_get da_cX5_insert_2 1 rfl)
theorem dX5_insert_74 : decode cX5_insert 74 = .ok (.dup, 1) := fo_89 (fw_get da_cX5_insert_2 2 rfl)
theorem dX5_insert_75 : decode cX5_insert 75 = .ok (.getfield 84, 3) := fo_180 (fw_get da_cX5_insert_2 3 rfl)
theorem dX5_insert_78 : decode cX5_insert 78 = .ok (.iconst 1, 1) := fo_4 (fw_get da_cX5_insert_2 4 rfl)
theorem dX5_insert_79 : decode cX5_insert 79 = .ok (.iadd, 1) := fo_96 (fw_get da_cX5_insert_2 5 rfl)
theorem dX5_insert_80 : decode cX5_insert 80 = .ok (.putfield 84, 3) := fo_181 (fw_get da_cX5_insert_2 6 rfl)
theorem dX5_insert_83 : decode cX5_insert 83 = .ok (.aload_n 0, 1) := fo_42 (fw_get da_cX5_insert_2 7 rfl)
theorem dX5_insert_84 : decode cX5_insert 84 = .ok (.getfield 84, 3) := fo_180 (fw_get da_cX5_insert_2 8 rfl)
theorem dX5_insert_87 : decode cX5_insert 87 = .ok (.ireturn, 1) := fo_172 (fw_get da_cX5_insert_2 9 rfl)
set_option maxRecDepth 20000 in
theorem ggX5_remove_X5_isPlace : GoodIn wsX5_remove wsX5_isPlace := goodIn_r _ [9, 4, 10, 11, 8, 12, 13, 14, 15, 16, 17, 18, 19, 20, 21, 22, 23, 24, 25, 26, 27, 28, 29, 30, 31, 32, 33, 34, 35, 36, 37, 38, 39, 40, 41, 42] rfl (by decide +kernel)
set_option maxRecDepth 20000 in
theorem gX5_remove_X5_isPlace : GoodIn wsX5_remove (wsV RX5 128 RX5 yX5_isPlace wsX5_isPlace) := goodIn_app (goodIn_r _ [5, 6, 7, 8] rfl (by decide +kernel)) ggX5_remove_X5_isPlace
def dt_cX5_remove_0 : List (Nat × Nat × Nat × Nat) := [(0, 42, 0, 0), (1, 3, 0, 0), (2, 181, 2, 77), (5, 42, 0, 0), (6, 27, 0, 0), (7, 182, 2, 128), (10, 154, 2, 6), (13, 18, 1, 148), (15, 172, 0, 0), (16, 42, 0, 0), (17, 180, 2, 7), (20, 27, 0, 0), (21, 46, 0, 0), (22, 61, 0, 0), (23, 42, 0, 0), (24, 89, 0, 0), (25, 180, 2, 84), (28, 4, 0, 0), (29, 100, 0, 0), (30, 181, 2, 84)]
theorem da_cX5_remove_0 : fw dt_cX5_remove_0 0 cX5_remove.data.toList = true := by decide +kernel
theorem dX5_remove_0 : decode cX5_remove 0 = .ok (.aload_n 0, 1) := fo_42 (fw_get da_cX5_remove_0 0 rfl)
theorem dX5_remove_1 : decode cX5_remove 1 = .ok (.iconst 0, 1) := fo_3 (fw_get da_cX5_remove_0 1 rfl)
theorem dX5_remove_2 : decode cX5_remove 2 = .ok (.putfield 77, 3) := fo_181 (fw_get da_cX5_remove_0 2 rfl)
theorem dX5_remove_5 : decode cX5_remove 5 = .ok (.aload_n 0, 1) := fo_42 (fw_get da_cX5_remove_0 3 rfl)
theorem dX5_remove_6 : decode cX5_remove 6 = .ok (.iload_n 1, 1) := fo_27 (fw_get da_cX5_remove_0 4 rfl)
theorem dX5_remove_7 : decode cX5_remove 7 = .ok (.invokevirtual 128, 3) := fo_182 (fw_get da_cX5_remove_0 5 rfl)
theorem dX5_remove_10 : decode cX5_remove 10 = .ok (.ifCond .ne 6, 3) := fo_154 (fw_get da_cX5_remove_0 6 rfl) (by decide +kernel)
theorem dX5_remove_13 : decode cX5_remove 13 = .ok (.ldc 148, 2) := fo_18 (fw_get da_cX5_remove_0 7 rfl)
theorem dX5_remove_15 : decode cX5_remove 15 = .ok (.ireturn, 1) := fo_172 (fw_get da_cX5_remove_0 8 rfl)
theorem dX5_remove_16 : decode cX5_remove 16 = .ok (.aload_n 0, 1) := fo_42 (fw_get da_cX5_remove_0 9 rfl)
theorem dX5_remove_17 : decode cX5_remove 17 = .ok (.getfield 7, 3) := fo_180 (fw_get da_cX5_remove_0 10 rfl)
theorem dX5_remove_20 : decode cX5_remove 20 = .ok (.iload_n 1, 1) := fo_27 (fw_get da_cX5_remove_0 11 rfl)
theorem dX5_remove_21 : decode cX5_remove 21 = .ok (.iaload, 1) := fo_46 (fw_get da_cX5_remove_0 12 rfl)
theorem dX5_remove_22 : decode cX5_remove 22 = .ok (.istore_n 2, 1) := fo_61 (fw_get da_cX5_remove_0 13 rfl)
theorem dX5_remove_23 : decode cX5_remove 23 = .ok (.aload_n 0, 1) := fo_42 (fw_get da_cX5_remove_0 14 rfl)
theorem dX5_remove_24 : decode cX5_remove 24 = .ok (.dup, 1) := fo_89 (fw_get da_cX5_remove_0 15 rfl)
theorem dX5_remove_25 : decode cX5_remove 25 = .ok (.getfield 84, 3) := fo_180 (fw_get da_cX5_remove_0 16 rfl)
theorem dX5_remove_28 : decode cX5_remove 28 = .ok (.iconst 1, 1) := fo_4 (fw_get da_cX5_remove_0 17 rfl)
theorem dX5_remove_29 : decode cX5_remove 29 = .ok (.isub, 1) := fo_100 (fw_get da_cX5_remove_0 18 rfl)
theorem dX5_remove_30 : decode cX5_remove 30 = .ok (.putfield 84, 3) := fo_181 (fw_get da_cX5_remove_0 19 rfl)
def dt_cX5_remove_1 : List (Nat × Nat × Nat × Nat) := [(33, 27, 0, 0), (34, 62, 0, 0), (35, 29, 0, 0), (36, 42, 0, 0), (37, 180, 2, 84), (40, 162, 2, 23), (43, 42, 0, 0), (44, 180, 2, 7), (47, 29, 0, 0), (48, 42, 0, 0), (49, 180, 2, 7), (52, 29, 0, 0), (53, 4, 0, 0), (54, 96, 0, 0), (55, 46, 0, 0), (56, 79, 0, 0), (57, 132, 2, 769), (60, 167, 2, 65511), (63, 28, 0, 0), (64, 172, 0, 0)]
theorem da_cX5_remove_1 : fw dt_cX5_remove_1 0 cX5_remove.data.toList = true := by decide +kernel
theorem dX5_remove_33 : decode cX5_remove 33 = .ok (.iload_n 1, 1) := fo_27 (fw_get da_cX5_remove_1 0 rfl)
theorem dX5_remove_34 : decode cX5_remove 34 = .ok (.istore_n 3, 1) := fo_62 (fw_get da_cX5_remove_1 1 rfl)
theorem dX5_remove_35 : decode cX5_remove 35 = .ok (.iload_n 3, 1) := fo_29 (fw_get da_cX5_remove_1 2 rfl)
theorem dX5_remove_36 : decode cX5_remove 36 = .ok (.aload_n 0, 1) := fo_42 (fw_get da_cX5_remove_1 3 rfl)
theorem dX5_remove_37 : decode cX5_remove 37 = .ok (.getfield 84, 3) := fo_180 (fw_get da_cX5_remove_1 4 rfl)
theorem dX5_remove_40 : decode cX5_remove 40 = .ok (.if_icmp .ge 23, 3) := fo_162 (fw_get da_cX5_remove_1 5 rfl) (by decide +kernel)
theorem dX5_remove_43 : decode cX5_remove 43 = .ok (.aload_n 0, 1) := fo_42 (fw_get da_cX5_remove_1 6 rfl)
theorem dX5_remove_44 : decode cX5_remove 44 = .ok (.getfield 7, 3) := fo_180 (fw_get da_cX5_remove_1 7 rfl)
theorem dX5_remove_47 : decode cX5_remove 47 = .ok (.iload_n 3, 1) := fo_29 (fw_get da_cX5_remove_1 8 rfl)
theorem dX5_remove_48 : decode cX5_remove 48 = .ok (.aload_n 0, 1) := fo_42 (fw_get da_cX5_remove_1 9 rfl)
theorem dX5_remove_49 : decode cX5_remove 49 = .ok (.getfield 7, 3) := fo_180 (fw_get da_cX5_remove_1 10 rfl)
theorem dX5_remove_52 : decode cX5_remove 52 = .ok (.iload_n 3, 1) := fo_29 (fw_get da_cX5_remove_1 11 rfl)
theorem dX5_remove_53 : decode cX5_remove 53 = .ok (.iconst 1, 1) := fo_4 (fw_get da_cX5_remove_1 12 rfl)
theorem dX5_remove_54 : decode cX5_remove 54 = .ok (.iadd, 1) := fo_96 (fw_get da_cX5_remove_1 13 rfl)
theorem dX5_remove_55 : decode cX5_remove 55 = .ok (.iaload, 1) := fo_46 (fw_get da_cX5_remove_1 14 rfl)
theorem dX5_remove_56 : decode cX5_remove 56 = .ok (.iastore, 1) := fo_79 (fw_get da_cX5_remove_1 15 rfl)
theorem dX5_remove_57 : decode cX5_remove 57 = .ok (.iinc 3 1, 3) := fo_132 (fw_get da_cX5_remove_1 16 rfl) rfl (by decide +kernel)
theorem dX5_remove_60 : decode cX5_remove 60 = .ok (.goto (-25), 3) := fo_167 (fw_get da_cX5_remove_1 17 rfl) (by decide +kernel)
theorem dX5_remove_63 : decode cX5_remove 63 = .ok (.iload_n 2, 1) := fo_28 (fw_get da_cX5_remove_1 18 rfl)
theorem dX5_remove_64 : decode cX5_remove 64 = .ok (.ireturn, 1) := fo_172 (fw_get da_cX5_remove_1 19 rfl)
set_option maxRecDepth 20000 in
theorem ggX5_at_X5_isPlace : GoodIn wsX5_at wsX5_isPlace := goodIn_r _ [7, 8, 9, 10, 6, 11, 12, 13, 14, 15, 16, 17, 18, 19, 20, 21, 22, 23, 24, 25, 26, 27, 28, 29, 30, 31, 32, 33, 34, 35, 36, 37, 38, 39, 40, 41] rfl (by decide +kernel)
set_option maxRecDepth 20000 in
theorem gX5_at_X5_isPlace : GoodIn wsX5_at (wsV RX5 128 RX5 yX5_isPlace wsX5_isPlace) := goodIn_app (goodIn_r _ [3, 4, 5, 6] rfl (by decide +kernel)) ggX5_at_X5_isPlace
def dt_cX5_at_0 : List (Nat × Nat × Nat × Nat) := [(0, 42, 0, 0), (1, 42, 0, 0), (2, 27, 0, 0), (3, 182, 2, 128), (6, 153, 2, 7), (9, 3, 0, 0), (10, 167, 2, 4), (13, 4, 0, 0), (14, 181, 2, 77), (17, 42, 0, 0), (18, 180, 2, 77), (21, 154, 2, 12), (24, 42, 0, 0), (25, 180, 2, 7), (28, 27, 0, 0), (29, 46, 0, 0), (30, 167, 2, 4), (33, 3, 0, 0), (34, 172, 0, 0)]
theorem da_cX5_at_0 : fw dt_cX5_at_0 0 cX5_at.data.toList = true := by decide +kernel
theorem dX5_at_0 : decode cX5_at 0 = .ok (.aload_n 0, 1) := fo_42 (fw_get da_cX5_at_0 0 rfl)
theorem dX5_at_1 : decode cX5_at 1 = .ok (.aload_n 0, 1) := fo_42 (fw_get da_cX5_at_0 1 rfl)
theorem dX5_at_2 : decode cX5_at 2 = .ok (.iload_n 1, 1) := fo_27 (fw_get da_cX5_at_0 2 rfl)
theorem dX5_at_3 : decode cX5_at 3 = .ok (.invokevirtual 128, 3) := fo_182 (fw_get da_cX5_at_0 3 rfl)
theorem dX5_at_6 : decode cX5_at 6 = .ok (.ifCond .eq 7, 3) := fo_153 (fw_get da_cX5_at_0 4 rfl) (by decide +kernel)
theorem dX5_at_9 : decode cX5_at 9 = .ok (.iconst 0, 1) := fo_3 (fw_get da_cX5_at_0 5 rfl)
theorem dX5_at_10 : decode cX5_at 10 = .ok (.goto 4, 3) := fo_167 (fw_get da_cX5_at_0 6 rfl) (by decide +kernel)
theorem dX5_at_13 : decode cX5_at 13 = .ok (.iconst 1, 1) := fo_4 (fw_get da_cX5_at_0 7 rfl)
theorem dX5_at_14 : decode cX5_at 14 = .ok (.putfield 77, 3) := fo_181 (fw_get da_cX5_at_0 8 rfl)
theorem dX5_at_17 : decode cX5_at 17 = .ok (.aload_n 0, 1) := fo_42 (fw_get da_cX5_at_0 9 rfl)
theorem dX5_at_18 : decode cX5_at 18 = .ok (.getfield 77, 3) := fo_180 (fw_get da_cX5_at_0 10 rfl)
theorem dX5_at_21 : decode cX5_at 21 = .ok (.ifCond .ne 12, 3) := fo_154 (fw_get da_cX5_at_0 11 rfl) (by decide +kernel)
theorem dX5_at_24 : decode cX5_at 24 = .ok (.aload_n 0, 1) := fo_42 (fw_get da_cX5_at_0 12 rfl)
theorem dX5_at_25 : decode cX5_at 25 = .ok (.getfield 7, 3) := fo_180 (fw_get da_cX5_at_0 13 rfl)
theorem dX5_at_28 : decode cX5_at 28 = .ok (.iload_n 1, 1) := fo_27 (fw_get da_cX5_at_0 14 rfl)
theorem dX5_at_29 : decode cX5_at 29 = .ok (.iaload, 1) := fo_46 (fw_get da_cX5_at_0 15 rfl)
theorem dX5_at_30 : decode cX5_at 30 = .ok (.goto 4, 3) := fo_167 (fw_get da_cX5_at_0 16 rfl) (by decide +kernel)
theorem dX5_at_33 : decode cX5_at 33 = .ok (.iconst 0, 1) := fo_3 (fw_get da_cX5_at_0 17 rfl)
theorem dX5_at_34 : decode cX5_at 34 = .ok (.ireturn, 1) := fo_172 (fw_get da_cX5_at_0 18 rfl)
set_option maxRecDepth 20000 in
theorem ggX5_count_X5_isValue : GoodIn wsX5_count wsX5_isValue := goodIn_r _ [5, 6, 7, 4, 8] rfl (by decide +kernel)
set_option maxRecDepth 20000 in
theorem gX5_count_X5_isValue : GoodIn wsX5_count (va_wsS RX5 132 yX5_isValue wsX5_isValue) := goodIn_app (goodIn_r _ [2, 3, 4] rfl (by decide +kernel)) ggX5_count_X5_isValue
set_option maxRecDepth 20000 in
theorem ggX5_count_X5_isRange : GoodIn wsX5_count wsX5_isRange := goodIn_r _ [12, 13, 19, 20, 21, 22, 23, 24, 25, 26, 27, 28, 29, 30, 31, 32, 33, 34, 35, 36, 37, 38, 39, 40, 41, 42, 43, 44, 45, 46, 47, 48] rfl (by decide +kernel)
set_option maxRecDepth 20000 in
theorem gX5_count_X5_isRange : GoodIn wsX5_count (wsV RX5 142 RX5 yX5_isRange wsX5_isRange) := goodIn_app (goodIn_r _ [9, 10, 11, 4] rfl (by decide +kernel)) ggX5_count_X5_isRange
set_option maxRecDepth 20000 in
theorem ggX5_count_X5_times : GoodIn wsX5_count wsX5_times := goodIn_r _ [17, 18, 19, 20, 21, 22, 23, 24, 25, 26, 27, 28, 29, 30, 31, 32, 33, 34, 35, 36, 37, 38, 39, 40, 41, 42, 43, 44, 45, 46, 47, 48] rfl (by decide +kernel)
set_option maxRecDepth 20000 in
theorem gX5_count_X5_times : GoodIn wsX5_count (wsV RX5 149 RX5 yX5_times wsX5_times) := goodIn_app (goodIn_r _ [14, 15, 16, 4] rfl (by decide +kernel)) ggX5_count_X5_times
def dt_cX5_count_0 : List (Nat × Nat × Nat × Nat) := [(0, 42, 0, 0), (1, 3, 0, 0), (2, 181, 2, 77), (5, 27, 0, 0), (6, 184, 2, 132), (9, 153, 2, 22), (12, 42, 0, 0), (13, 28, 0, 0), (14, 29, 0, 0), (15, 182, 2, 142), (18, 153, 2, 13), (21, 42, 0, 0), (22, 27, 0, 0), (23, 28, 0, 0), (24, 29, 0, 0), (25, 182, 2, 149), (28, 167, 2, 4), (31, 2, 0, 0), (32, 172, 0, 0)]
theorem da_cX5_count_0 : fw dt_cX5_count_0 0 cX5_count.data.toList = true := by decide +kernel
theorem dX5_count_0 : decode cX5_count 0 = .ok (.aload_n 0, 1) := fo_42 (fw_get da_cX5_count_0 0 rfl)
theorem dX5_count_1 : decode cX5_count 1 = .ok (.iconst 0, 1) := fo_3 (fw_get da_cX5_count_0 1 rfl)
theorem dX5_count_2 : decode cX5_count 2 = .ok (.putfield 77, 3) := fo_181 (fw_get da_cX5_count_0 2 rfl)
theorem dX5_count_5 : decode cX5_count 5 = .ok (.iload_n 1, 1) := fo_27 (fw_get da_cX5_count_0 3 rfl)
theorem dX5_count_6 : decode cX5_count 6 = .ok (.invokestatic 132, 3) := fo_184 (fw_get da_cX5_count_0 4 rfl)
theorem dX5_count_9 : decode cX5_count 9 = .ok (.ifCond .eq 22, 3) := fo_153 (fw_get da_cX5_count_0 5 rfl) (by decide +kernel)
theorem dX5_count_12 : decode cX5_count 12 = .ok (.aload_n 0, 1) := fo_42 (fw_get da_cX5_count_0 6 rfl)
theorem dX5_count_13 : decode cX5_count 13 = .ok (.iload_n 2, 1) := fo_28 (fw_get da_cX5_count_0 7 rfl)
theorem dX5_count_14 : decode cX5_count 14 = .ok (.iload_n 3, 1) := fo_29 (fw_get da_cX5_count_0 8 rfl)
theorem dX5_count_15 : decode cX5_count 15 = .ok (.invokevirtual 142, 3) := fo_182 (fw_get da_cX5_count_0 9 rfl)
theorem dX5_count_18 : decode cX5_count 18 = .ok (.ifCond .eq 13, 3) := fo_153 (fw_get da_cX5_count_0 10 rfl) (by decide +kernel)
theorem dX5_count_21 : decode cX5_count 21 = .ok (.aload_n 0, 1) := fo_42 (fw_get da_cX5_count_0 11 rfl)
theorem dX5_count_22 : decode cX5_count 22 = .ok (.iload_n 1, 1) := fo_27 (fw_get da_cX5_count_0 12 rfl)
theorem dX5_count_23 : decode cX5_count 23 = .ok (.iload_n 2, 1) := fo_28 (fw_get da_cX5_count_0 13 rfl)
theorem dX5_count_24 : decode cX5_count 24 = .ok (.iload_n 3, 1) := fo_29 (fw_get da_cX5_count_0 14 rfl)
theorem dX5_count_25 : decode cX5_count 25 = .ok (.invokevirtual 149, 3) := fo_182 (fw_get da_cX5_count_0 15 rfl)
theorem dX5_count_28 : decode cX5_count 28 = .ok (.goto 4, 3) := fo_167 (fw_get da_cX5_count_0 16 rfl) (by decide +kernel)
theorem dX5_count_31 : decode cX5_count 31 = .ok (.iconst (-1), 1) := fo_2 (fw_get da_cX5_count_0 17 rfl)
theorem dX5_count_32 : decode cX5_count 32 = .ok (.ireturn, 1) := fo_172 (fw_get da_cX5_count_0 18 rfl)
def dt_cX5_place_0 : List (Nat × Nat × Nat × Nat) := [(0, 42, 0, 0), (1, 3, 0, 0), (2, 181, 2, 77), (5, 28, 0, 0), (6, 62, 0, 0), (7, 3, 0, 0), (8, 54, 1, 4), (10, 21, 1, 4), (12, 42, 0, 0), (13, 180, 2, 84), (16, 162, 2, 37), (19, 28, 0, 0), (20, 155, 2, 33), (23, 42, 0, 0), (24, 180, 2, 7), (27, 21, 1, 4), (29, 46, 0, 0), (30, 27, 0, 0), (31, 159, 2, 6), (34, 167, 2, 13)]
theorem da_cX5_place_0 : fw dt_cX5_place_0 0 cX5_place.data.toList = true := by decide +kernel
theorem dX5_place_0 : decode cX5_place 0 = .ok (.aload_n 0, 1) := fo_42 (fw_get da_cX5_place_0 0 rfl)
theorem dX5_place_1 : decode cX5_place 1 = .ok (.iconst 0, 1) := fo_3 (fw_get da_cX5_place_0 1 rfl)
theorem dX5_place_2 : decode cX5_place 2 = .ok (.putfield 77, 3) := fo_181 (fw_get da_cX5_place_0 2 rfl)
theorem dX5_place_5 : decode cX5_place 5 = .ok (.iload_n 2, 1) := fo_28 (fw_get da_cX5_place_0 3 rfl)
theorem dX5_place_6 : decode cX5_place 6 = .ok (.istore_n 3, 1) := fo_62 (fw_get da_cX5_place_0 4 rfl)
theorem dX5_place_7 : decode cX5_place 7 = .ok (.iconst 0, 1) := fo_3 (fw_get da_cX5_place_0 5 rfl)
theorem dX5_place_8 : decode cX5_place 8 = .ok (.istore 4, 2) := fo_54 (fw_get da_cX5_place_0 6 rfl)
theorem dX5_place_10 : decode cX5_place 10 = .ok (.iload 4, 2) := fo_21 (fw_get da_cX5_place_0 7 rfl)
theorem dX5_place_12 : decode cX5_place 12 = .ok (.aload_n 0, 1) := fo_42 (fw_get da_cX5_place_0 8 rfl)
theorem dX5_place_13 : decode cX5_place 13 = .ok (.getfield 84, 3) := fo_180 (fw_get da_cX5_place_0 9 rfl)
theorem dX5_place_16 : decode cX5_place 16 = .ok (.if_icmp .ge 37, 3) := fo_162 (fw_get da_cX5_place_0 10 rfl) (by decide +kernel)
theorem dX5_place_19 : decode cX5_place 19 = .ok (.iload_n 2, 1) := fo_28 (fw_get da_cX5_place_0 11 rfl)
theorem dX5_place_20 : decode cX5_place 20 = .ok (.ifCond .lt 33, 3) := fo_155 (fw_get da_cX5_place_0 12 rfl) (by decide +kernel)
theorem dX5_place_23 : decode cX5_place 23 = .ok (.aload_n 0, 1) := fo_42 (fw_get da_cX5_place_0 13 rfl)
theorem dX5_place_24 : decode cX5_place 24 = .ok (.getfield 7, 3) := fo_180 (fw_get da_cX5_place_0 14 rfl)
theorem dX5_place_27 : decode cX5_place 27 = .ok (.iload 4, 2) := fo_21 (fw_get da_cX5_place_0 15 rfl)
theorem dX5_place_29 : decode cX5_place 29 = .ok (.iaload, 1) := fo_46 (fw_get da_cX5_place_0 16 rfl)
theorem dX5_place_30 : decode cX5_place 30 = .ok (.iload_n 1, 1) := fo_27 (fw_get da_cX5_place_0 17 rfl)
theorem dX5_place_31 : decode cX5_place 31 = .ok (.if_icmp .eq 6, 3) := fo_159 (fw_get da_cX5_place_0 18 rfl) (by decide +kernel)
theorem dX5_place_34 : decode cX5_place 34 = .ok (.goto 13, 3) := fo_167 (fw_get da_cX5_place_0 19 rfl) (by decide +kernel)
def dt_cX5_place_1 : List (Nat × Nat × Nat × Nat) := [(37, 29, 0, 0), (38, 154, 2, 6), (41, 21, 1, 4), (43, 172, 0, 0), (44, 132, 2, 1023), (47, 132, 2, 1025), (50, 167, 2, 65496), (53, 2, 0, 0), (54, 172, 0, 0)]
theorem da_cX5_place_1 : fw dt_cX5_place_1 0 cX5_place.data.toList = true := by decide +kernel
theorem dX5_place_37 : decode cX5_place 37 = .ok (.iload_n 3, 1) := fo_29 (fw_get da_cX5_place_1 0 rfl)
theorem dX5_place_38 : decode cX5_place 38 = .ok (.ifCond .ne 6, 3) := fo_154 (fw_get da_cX5_place_1 1 rfl) (by decide +kernel)
theorem dX5_place_41 : decode cX5_place 41 = .ok (.iload 4, 2) := fo_21 (fw_get da_cX5_place_1 2 rfl)
theorem dX5_place_43 : decode cX5_place 43 = .ok (.ireturn, 1) := fo_172 (fw_get da_cX5_place_1 3 rfl)
theorem dX5_place_44 : decode cX5_place 44 = .ok (.iinc 3 (-1), 3) := fo_132 (fw_get da_cX5_place_1 4 rfl) rfl (by decide +kernel)
theorem dX5_place_47 : decode cX5_place 47 = .ok (.iinc 4 1, 3) := fo_132 (fw_get da_cX5_place_1 5 rfl) rfl (by decide +kernel)
theorem dX5_place_50 : decode cX5_place 50 = .ok (.goto (-40), 3) := fo_167 (fw_get da_cX5_place_1 6 rfl) (by decide +kernel)
theorem dX5_place_53 : decode cX5_place 53 = .ok (.iconst (-1), 1) := fo_2 (fw_get da_cX5_place_1 7 rfl)
theorem dX5_place_54 : decode cX5_place 54 = .ok (.ireturn, 1) := fo_172 (fw_get da_cX5_place_1 8 rfl)
set_option maxRecDepth 20000 in
theorem ggX5_values_X5_times : GoodIn wsX5_values wsX5_times := goodIn_r _ [8, 3, 9, 10, 11, 12, 13, 14, 15, 16, 17, 18, 19, 20, 21, 22, 23, 24, 25, 26, 27, 28, 29, 30, 31, 32, 33, 34, 35, 36, 37, 38] rfl (by decide +kernel)
set_option maxRecDepth 20000 in
theorem gX5_values_X5_times : GoodIn wsX5_values (wsV RX5 149 RX5 yX5_times wsX5_times) := goodIn_app (goodIn_r _ [4, 5, 6, 7] rfl (by decide +kernel)) ggX5_values_X5_times
def dt_cX5_values_0 : List (Nat × Nat × Nat × Nat) := [(0, 42, 0, 0), (1, 3, 0, 0), (2, 181, 2, 77), (5, 3, 0, 0), (6, 60, 0, 0), (7, 3, 0, 0), (8, 61, 0, 0), (9, 28, 0, 0), (10, 42, 0, 0), (11, 180, 2, 84), (14, 162, 2, 27), (17, 42, 0, 0), (18, 42, 0, 0), (19, 180, 2, 7), (22, 28, 0, 0), (23, 46, 0, 0), (24, 3, 0, 0), (25, 28, 0, 0), (26, 182, 2, 149), (29, 154, 2, 6)]
theorem da_cX5_values_0 : fw dt_cX5_values_0 0 cX5_values.data.toList = true := by decide +kernel
theorem dX5_values_0 : decode cX5_values 0 = .ok (.aload_n 0, 1) := fo_42 (fw_get da_cX5_values_0 0 rfl)
theorem dX5_values_1 : decode cX5_values 1 = .ok (.iconst 0, 1) := fo_3 (fw_get da_cX5_values_0 1 rfl)
theorem dX5_values_2 : decode cX5_values 2 = .ok (.putfield 77, 3) := fo_181 (fw_get da_cX5_values_0 2 rfl)
theorem dX5_values_5 : decode cX5_values 5 = .ok (.iconst 0, 1) := fo_3 (fw_get da_cX5_values_0 3 rfl)
theorem dX5_values_6 : decode cX5_values 6 = .ok (.istore_n 1, 1) := fo_60 (fw_get da_cX5_values_0 4 rfl)
theorem dX5_values_7 : decode cX5_values 7 = .ok (.iconst 0, 1) := fo_3 (fw_get da_cX5_values_0 5 rfl)
theorem dX5_values_8 : decode cX5_values 8 = .ok (.istore_n 2, 1) := fo_61 (fw_get da_cX5_values_0 6 rfl)
theorem dX5_values_9 : decode cX5_values 9 = .ok (.iload_n 2, 1) := fo_28 (fw_get da_cX5_values_0 7 rfl)
theorem dX5_values_10 : decode cX5_values 10 = .ok (.aload_n 0, 1) := fo_42 (fw_get da_cX5_values_0 8 rfl)
theorem dX5_values_11 : decode cX5_values 11 = .ok (.getfield 84, 3) := fo_180 (fw_get da_cX5_values_0 9 rfl)
theorem dX5_values_14 : decode cX5_values 14 = .ok (.if_icmp .ge 27, 3) := fo_162 (fw_get da_cX5_values_0 10 rfl) (by decide +kernel)
theorem dX5_values_17 : decode cX5_values 17 = .ok (.aload_n 0, 1) := fo_42 (fw_get da_cX5_values_0 11 rfl)
theorem dX5_values_18 : decode cX5_values 18 = .ok (.aload_n 0, 1) := fo_42 (fw_get da_cX5_values_0 12 rfl)
theorem dX5_values_19 : decode cX5_values 19 = .ok (.getfield 7, 3) := fo_180 (fw_get da_cX5_values_0 13 rfl)
theorem dX5_values_22 : decode cX5_values 22 = .ok (.iload_n 2, 1) := fo_28 (fw_get da_cX5_values_0 14 rfl)
theorem dX5_values_23 : decode cX5_values 23 = .ok (.iaload, 1) := fo_46 (fw_get da_cX5_values_0 15 rfl)
theorem dX5_values_24 : decode cX5_values 24 = .ok (.iconst 0, 1) := fo_3 (fw_get da_cX5_values_0 16 rfl)
theorem dX5_values_25 : decode cX5_values 25 = .ok (.iload_n 2, 1) := fo_28 (fw_get da_cX5_values_0 17 rfl)
theorem dX5_values_26 : decode cX5_values 26 = .ok (.invokevirtual 149, 3) := fo_182 (fw_get da_cX5_values_0 18 rfl)
theorem dX5_values_29 : decode cX5_values 29 = .ok (.ifCond .ne 6, 3) := fo_154 (fw_get da_cX5_values_0 19 rfl) (by decide +kernel)
def dt_cX5_values_1 : List (Nat × Nat × Nat × Nat) := [(32, 132, 2, 257), (35, 132, 2, 513), (38, 167, 2, 65507), (41, 27, 0, 0), (42, 172, 0, 0)]
theorem da_cX5_values_1 : fw dt_cX5_values_1 0 cX5_values.data.toList = true := by decide +kernel
theorem dX5_values_32 : decode cX5_values 32 = .ok (.iinc 1 1, 3) := fo_132 (fw_get da_cX5_values_1 0 rfl) rfl (by decide +kernel)
theorem dX5_values_35 : decode cX5_values 35 = .ok (.iinc 2 1, 3) := fo_132 (fw_get da_cX5_values_1 1 rfl) rfl (by decide +kernel)
theorem dX5_values_38 : decode cX5_values 38 = .ok (.goto (-29), 3) := fo_167 (fw_get da_cX5_values_1 2 rfl) (by decide +kernel)
theorem dX5_values_41 : decode cX5_values 41 = .ok (.iload_n 1, 1) := fo_27 (fw_get da_cX5_values_1 3 rfl)
theorem dX5_values_42 : decode cX5_values 42 = .ok (.ireturn, 1) := fo_172 (fw_get da_cX5_values_1 4 rfl)
def dt_cX5_isEnough_0 : List (Nat × Nat × Nat × Nat) := [(0, 27, 0, 0), (1, 42, 0, 0), (2, 180, 2, 13), (5, 4, 0, 0), (6, 96, 0, 0), (7, 104, 0, 0), (8, 28, 0, 0), (9, 161, 2, 7), (12, 4, 0, 0), (13, 167, 2, 4), (16, 3, 0, 0), (17, 172, 0, 0)]
theorem da_cX5_isEnough_0 : fw dt_cX5_isEnough_0 0 cX5_isEnough.data.toList = true := by decide +kernel
theorem dX5_isEnough_0 : decode cX5_isEnough 0 = .ok (.iload_n 1, 1) := fo_27 (fw_get da_cX5_isEnough_0 0 rfl)
theorem dX5_isEnough_1 : decode cX5_isEnough 1 = .ok (.aload_n 0, 1) := fo_42 (fw_get da_cX5_isEnough_0 1 rfl)
theorem dX5_isEnough_2 : decode cX5_isEnough 2 = .ok (.getfield 13, 3) := fo_180 (fw_get da_cX5_isEnough_0 2 rfl)
theorem dX5_isEnough_5 : decode cX5_isEnough 5 = .ok (.iconst 1, 1) := fo_4 (fw_get da_cX5_isEnough_0 3 rfl)
theorem dX5_isEnough_6 : decode cX5_isEnough 6 = .ok (.iadd, 1) := fo_96 (fw_get da_cX5_isEnough_0 4 rfl)
theorem dX5_isEnough_7 : decode cX5_isEnough 7 = .ok (.imul, 1) := fo_104 (fw_get da_cX5_isEnough_0 5 rfl)
theorem dX5_isEnough_8 : decode cX5_isEnough 8 = .ok (.iload_n 2, 1) := fo_28 (fw_get da_cX5_isEnough_0 6 rfl)
theorem dX5_isEnough_9 : decode cX5_isEnough 9 = .ok (.if_icmp .lt 7, 3) := fo_161 (fw_get da_cX5_isEnough_0 7 rfl) (by decide +kernel)
theorem dX5_isEnough_12 : decode cX5_isEnough 12 = .ok (.iconst 1, 1) := fo_4 (fw_get da_cX5_isEnough_0 8 rfl)
theorem dX5_isEnough_13 : decode cX5_isEnough 13 = .ok (.goto 4, 3) := fo_167 (fw_get da_cX5_isEnough_0 9 rfl) (by decide +kernel)
theorem dX5_isEnough_16 : decode cX5_isEnough 16 = .ok (.iconst 0, 1) := fo_3 (fw_get da_cX5_isEnough_0 10 rfl)
theorem dX5_isEnough_17 : decode cX5_isEnough 17 = .ok (.ireturn, 1) := fo_172 (fw_get da_cX5_isEnough_0 11 rfl)
set_option maxRecDepth 20000 in
theorem ggX5_majorityOf_X5_times : GoodIn wsX5_majorityOf wsX5_times := goodIn_r _ [7, 1, 8, 9, 10, 11, 12, 13, 14, 15, 16, 17, 18, 19, 20, 21, 22, 23, 24, 25, 26, 27, 28, 29, 30, 31, 32, 33, 34, 35, 36, 37] rfl (by decide +kernel)
set_option maxRecDepth 20000 in
theorem gX5_majorityOf_X5_times : GoodIn wsX5_majorityOf (wsV RX5 149 RX5 yX5_times wsX5_times) := goodIn_app (goodIn_r _ [3, 4, 5, 6] rfl (by decide +kernel)) ggX5_majorityOf_X5_times
def dt_cX5_majorityOf_0 : List (Nat × Nat × Nat × Nat) := [(0, 27, 0, 0), (1, 62, 0, 0), (2, 29, 0, 0), (3, 28, 0, 0), (4, 162, 2, 36), (7, 5, 0, 0), (8, 42, 0, 0), (9, 42, 0, 0), (10, 180, 2, 7), (13, 29, 0, 0), (14, 46, 0, 0), (15, 27, 0, 0), (16, 28, 0, 0), (17, 182, 2, 149), (20, 104, 0, 0), (21, 28, 0, 0), (22, 27, 0, 0), (23, 100, 0, 0), (24, 164, 2, 10), (27, 42, 0, 0)]
theorem da_cX5_majorityOf_0 : fw dt_cX5_majorityOf_0 0 cX5_majorityOf.data.toList = true := by decide +kernel
theorem dX5_majorityOf_0 : decode cX5_majorityOf 0 = .ok (.iload_n 1, 1) := fo_27 (fw_get da_cX5_majorityOf_0 0 rfl)
theorem dX5_majorityOf_1 : decode cX5_majorityOf 1 = .ok (.istore_n 3, 1) := fo_62 (fw_get da_cX5_majorityOf_0 1 rfl)
theorem dX5_majorityOf_2 : decode cX5_majorityOf 2 = .ok (.iload_n 3, 1) := fo_29 (fw_get da_cX5_majorityOf_0 2 rfl)
theorem dX5_majorityOf_3 : decode cX5_majorityOf 3 = .ok (.iload_n 2, 1) := fo_28 (fw_get da_cX5_majorityOf_0 3 rfl)
theorem dX5_majorityOf_4 : decode cX5_majorityOf 4 = .ok (.if_icmp .ge 36, 3) := fo_162 (fw_get da_cX5_majorityOf_0 4 rfl) (by decide +kernel)
theorem dX5_majorityOf_7 : decode cX5_majorityOf 7 = .ok (.iconst 2, 1) := fo_5 (fw_get da_cX5_majorityOf_0 5 rfl)
theorem dX5_majorityOf_8 : decode cX5_majorityOf 8 = .ok (.aload_n 0, 1) := fo_42 (fw_get da_cX5_majorityOf_0 6 rfl)
theorem dX5_majorityOf_9 : decode cX5_majorityOf 9 = .ok (.aload_n 0, 1) := fo_42 (fw_get da_cX5_majorityOf_0 7 rfl)
theorem dX5_majorityOf_10 : decode cX5_majorityOf 10 = .ok (.getfield 7, 3) := fo_180 (fw_get da_cX5_majorityOf_0 8 rfl)
theorem dX5_majorityOf_13 : decode cX5_majorityOf 13 = .ok (.iload_n 3, 1) := fo_29 (fw_get da_cX5_majorityOf_0 9 rfl)
theorem dX5_majorityOf_14 : decode cX5_majorityOf 14 = .ok (.iaload, 1) := fo_46 (fw_get da_cX5_majorityOf_0 10 rfl)
theorem dX5_majorityOf_15 : decode cX5_majorityOf 15 = .ok (.iload_n 1, 1) := fo_27 (fw_get da_cX5_majorityOf_0 11 rfl)
theorem dX5_majorityOf_16 : decode cX5_majorityOf 16 = .ok (.iload_n 2, 1) := fo_28 (fw_get da_cX5_majorityOf_0 12 rfl)
theorem dX5_majorityOf_17 : decode cX5_majorityOf 17 = .ok (.invokevirtual 149, 3) := fo_182 (fw_get da_cX5_majorityOf_0 13 rfl)
theorem dX5_majorityOf_20 : decode cX5_majorityOf 20 = .ok (.imul, 1) := fo_104 (fw_get da_cX5_majorityOf_0 14 rfl)
theorem dX5_majorityOf_21 : decode cX5_majorityOf 21 = .ok (.iload_n 2, 1) := fo_28 (fw_get da_cX5_majorityOf_0 15 rfl)
theorem dX5_majorityOf_22 : decode cX5_majorityOf 22 = .ok (.iload_n 1, 1) := fo_27 (fw_get da_cX5_majorityOf_0 16 rfl)
theorem dX5_majorityOf_23 : decode cX5_majorityOf 23 = .ok (.isub, 1) := fo_100 (fw_get da_cX5_majorityOf_0 17 rfl)
theorem dX5_majorityOf_24 : decode cX5_majorityOf 24 = .ok (.if_icmp .le 10, 3) := fo_164 (fw_get da_cX5_majorityOf_0 18 rfl) (by decide +kernel)
theorem dX5_majorityOf_27 : decode cX5_majorityOf 27 = .ok (.aload_n 0, 1) := fo_42 (fw_get da_cX5_majorityOf_0 19 rfl)
def dt_cX5_majorityOf_1 : List (Nat × Nat × Nat × Nat) := [(28, 180, 2, 7), (31, 29, 0, 0), (32, 46, 0, 0), (33, 172, 0, 0), (34, 132, 2, 769), (37, 167, 2, 65501), (40, 18, 1, 148), (42, 172, 0, 0)]
theorem da_cX5_majorityOf_1 : fw dt_cX5_majorityOf_1 0 cX5_majorityOf.data.toList = true := by decide +kernel
theorem dX5_majorityOf_28 : decode cX5_majorityOf 28 = .ok (.getfield 7, 3) := fo_180 (fw_get da_cX5_majorityOf_1 0 rfl)
theorem dX5_majorityOf_31 : decode cX5_majorityOf 31 = .ok (.iload_n 3, 1) := fo_29 (fw_get da_cX5_majorityOf_1 1 rfl)
theorem dX5_majorityOf_32 : decode cX5_majorityOf 32 = .ok (.iaload, 1) := fo_46 (fw_get da_cX5_majorityOf_1 2 rfl)
theorem dX5_majorityOf_33 : decode cX5_majorityOf 33 = .ok (.ireturn, 1) := fo_172 (fw_get da_cX5_majorityOf_1 3 rfl)
theorem dX5_majorityOf_34 : decode cX5_majorityOf 34 = .ok (.iinc 3 1, 3) := fo_132 (fw_get da_cX5_majorityOf_1 4 rfl) rfl (by decide +kernel)
theorem dX5_majorityOf_37 : decode cX5_majorityOf 37 = .ok (.goto (-35), 3) := fo_167 (fw_get da_cX5_majorityOf_1 5 rfl) (by decide +kernel)
theorem dX5_majorityOf_40 : decode cX5_majorityOf 40 = .ok (.ldc 148, 2) := fo_18 (fw_get da_cX5_majorityOf_1 6 rfl)
theorem dX5_majorityOf_42 : decode cX5_majorityOf 42 = .ok (.ireturn, 1) := fo_172 (fw_get da_cX5_majorityOf_1 7 rfl)
set_option maxRecDepth 20000 in
theorem ggX5_majority_X5_isRange : GoodIn wsX5_majority wsX5_isRange := goodIn_r _ [7, 8, 18, 19, 20, 21, 22, 23, 24, 25, 26, 27, 28, 29, 30, 31, 32, 33, 34, 35, 36, 37, 38, 39, 40, 41, 42, 43, 44, 45, 46, 47] rfl (by decide +kernel)
set_option maxRecDepth 20000 in
theorem gX5_majority_X5_isRange : GoodIn wsX5_majority (wsV RX5 142 RX5 yX5_isRange wsX5_isRange) := goodIn_app (goodIn_r _ [3, 4, 5, 6] rfl (by decide +kernel)) ggX5_majority_X5_isRange
set_option maxRecDepth 20000 in
theorem ggX5_majority_X5_majorityOf : GoodIn wsX5_majority wsX5_majorityOf := goodIn_r _ [12, 13, 2, 14, 15, 16, 6, 17, 18, 19, 20, 21, 22, 23, 24, 25, 26, 27, 28, 29, 30, 31, 32, 33, 34, 35, 36, 37, 38, 39, 40, 41, 42, 43, 44, 45, 46, 47] rfl (by decide +kernel)
set_option maxRecDepth 20000 in
theorem gX5_majority_X5_majorityOf : GoodIn wsX5_majority (wsV RX5 194 RX5 yX5_majorityOf wsX5_majorityOf) := goodIn_app (goodIn_r _ [9, 10, 11, 6] rfl (by decide +kernel)) ggX5_majority_X5_majorityOf
def dt_cX5_majority_0 : List (Nat × Nat × Nat × Nat) := [(0, 42, 0, 0), (1, 3, 0, 0), (2, 181, 2, 77), (5, 42, 0, 0), (6, 27, 0, 0), (7, 28, 0, 0), (8, 182, 2, 142), (11, 153, 2, 12), (14, 42, 0, 0), (15, 27, 0, 0), (16, 28, 0, 0), (17, 182, 2, 194), (20, 167, 2, 5), (23, 18, 1, 148), (25, 172, 0, 0)]
theorem da_cX5_majority_0 : fw dt_cX5_majority_0 0 cX5_majority.data.toList = true := by decide +kernel
theorem dX5_majority_0 : decode cX5_majority 0 = .ok (.aload_n 0, 1) := fo_42 (fw_get da_cX5_majority_0 0 rfl)
theorem dX5_majority_1 : decode cX5_majority 1 = .ok (.iconst 0, 1) := fo_3 (fw_get da_cX5_majority_0 1 rfl)
theorem dX5_majority_2 : decode cX5_majority 2 = .ok (.putfield 77, 3) := fo_181 (fw_get da_cX5_majority_0 2 rfl)
theorem dX5_majority_5 : decode cX5_majority 5 = .ok (.aload_n 0, 1) := fo_42 (fw_get da_cX5_majority_0 3 rfl)
theorem dX5_majority_6 : decode cX5_majority 6 = .ok (.iload_n 1, 1) := fo_27 (fw_get da_cX5_majority_0 4 rfl)
theorem dX5_majority_7 : decode cX5_majority 7 = .ok (.iload_n 2, 1) := fo_28 (fw_get da_cX5_majority_0 5 rfl)
theorem dX5_majority_8 : decode cX5_majority 8 = .ok (.invokevirtual 142, 3) := fo_182 (fw_get da_cX5_majority_0 6 rfl)
theorem dX5_majority_11 : decode cX5_majority 11 = .ok (.ifCond .eq 12, 3) := fo_153 (fw_get da_cX5_majority_0 7 rfl) (by decide +kernel)
theorem dX5_majority_14 : decode cX5_majority 14 = .ok (.aload_n 0, 1) := fo_42 (fw_get da_cX5_majority_0 8 rfl)
theorem dX5_majority_15 : decode cX5_majority 15 = .ok (.iload_n 1, 1) := fo_27 (fw_get da_cX5_majority_0 9 rfl)
theorem dX5_majority_16 : decode cX5_majority 16 = .ok (.iload_n 2, 1) := fo_28 (fw_get da_cX5_majority_0 10 rfl)
theorem dX5_majority_17 : decode cX5_majority 17 = .ok (.invokevirtual 194, 3) := fo_182 (fw_get da_cX5_majority_0 11 rfl)
theorem dX5_majority_20 : decode cX5_majority 20 = .ok (.goto 5, 3) := fo_167 (fw_get da_cX5_majority_0 12 rfl) (by decide +kernel)
theorem dX5_majority_23 : decode cX5_majority 23 = .ok (.ldc 148, 2) := fo_18 (fw_get da_cX5_majority_0 13 rfl)
theorem dX5_majority_25 : decode cX5_majority 25 = .ok (.ireturn, 1) := fo_172 (fw_get da_cX5_majority_0 14 rfl)
set_option maxRecDepth 20000 in
theorem ggX5_margin_X5_isValue : GoodIn wsX5_margin wsX5_isValue := goodIn_r _ [6, 7, 8, 5, 9] rfl (by decide +kernel)
set_option maxRecDepth 20000 in
theorem gX5_margin_X5_isValue : GoodIn wsX5_margin (va_wsS RX5 132 yX5_isValue wsX5_isValue) := goodIn_app (goodIn_r _ [3, 4, 5] rfl (by decide +kernel)) ggX5_margin_X5_isValue
set_option maxRecDepth 20000 in
theorem ggX5_margin_X5_isRange : GoodIn wsX5_margin wsX5_isRange := goodIn_r _ [13, 14, 20, 21, 22, 23, 24, 25, 26, 27, 28, 29, 30, 31, 32, 33, 34, 35, 36, 37, 38, 39, 40, 41, 42, 43, 44, 45, 46, 47, 48, 49] rfl (by decide +kernel)
set_option maxRecDepth 20000 in
theorem gX5_margin_X5_isRange : GoodIn wsX5_margin (wsV RX5 142 RX5 yX5_isRange wsX5_isRange) := goodIn_app (goodIn_r _ [10, 11, 12, 5] rfl (by decide +kernel)) ggX5_margin_X5_isRange
set_option maxRecDepth 20000 in
theorem ggX5_margin_X5_times : GoodIn wsX5_margin wsX5_times := goodIn_r _ [18, 19, 20, 21, 22, 23, 24, 25, 26, 27, 28, 29, 30, 31, 32, 33, 34, 35, 36, 37, 38, 39, 40, 41, 42, 43, 44, 45, 46, 47, 48, 49] rfl (by decide +kernel)
set_option maxRecDepth 20000 in
theorem gX5_margin_X5_times : GoodIn wsX5_margin (wsV RX5 149 RX5 yX5_times wsX5_times) := goodIn_app (goodIn_r _ [15, 16, 17, 5] rfl (by decide +kernel)) ggX5_margin_X5_times
def dt_cX5_margin_0 : List (Nat × Nat × Nat × Nat) := [(0, 42, 0, 0), (1, 3, 0, 0), (2, 181, 2, 77), (5, 27, 0, 0), (6, 184, 2, 132), (9, 153, 2, 28), (12, 42, 0, 0), (13, 28, 0, 0), (14, 29, 0, 0), (15, 182, 2, 142), (18, 153, 2, 19), (21, 5, 0, 0), (22, 42, 0, 0), (23, 27, 0, 0), (24, 28, 0, 0), (25, 29, 0, 0), (26, 182, 2, 149), (29, 104, 0, 0), (30, 29, 0, 0), (31, 28, 0, 0)]
theorem da_cX5_margin_0 : fw dt_cX5_margin_0 0 cX5_margin.data.toList = true := by decide +kernel
theorem dX5_margin_0 : decode cX5_margin 0 = .ok (.aload_n 0, 1) := fo_42 (fw_get da_cX5_margin_0 0 rfl)
theorem dX5_margin_1 : decode cX5_margin 1 = .ok (.iconst 0, 1) := fo_3 (fw_get da_cX5_margin_0 1 rfl)
theorem dX5_margin_2 : decode cX5_margin 2 = .ok (.putfield 77, 3) := fo_181 (fw_get da_cX5_margin_0 2 rfl)
theorem dX5_margin_5 : decode cX5_margin 5 = .ok (.iload_n 1, 1) := fo_27 (fw_get da_cX5_margin_0 3 rfl)
theorem dX5_margin_6 : decode cX5_margin 6 = .ok (.invokestatic 132, 3) := fo_184 (fw_get da_cX5_margin_0 4 rfl)
theorem dX5_margin_9 : decode cX5_margin 9 = .ok (.ifCond .eq 28, 3) := fo_153 (fw_get da_cX5_margin_0 5 rfl) (by decide +kernel)
theorem dX5_margin_12 : decode cX5_margin 12 = .ok (.aload_n 0, 1) := fo_42 (fw_get da_cX5_margin_0 6 rfl)
theorem dX5_margin_13 : decode cX5_margin 13 = .ok (.iload_n 2, 1) := fo_28 (fw_get da_cX5_margin_0 7 rfl)
theorem dX5_margin_14 : decode cX5_margin 14 = .ok (.iload_n 3, 1) := fo_29 (fw_get da_cX5_margin_0 8 rfl)
theorem dX5_margin_15 : decode cX5_margin 15 = .ok (.invokevirtual 142, 3) := fo_182 (fw_get da_cX5_margin_0 9 rfl)
theorem dX5_margin_18 : decode cX5_margin 18 = .ok (.ifCond .eq 19, 3) := fo_153 (fw_get da_cX5_margin_0 10 rfl) (by decide +kernel)
theorem dX5_margin_21 : decode cX5_margin 21 = .ok (.iconst 2, 1) := fo_5 (fw_get da_cX5_margin_0 11 rfl)
theorem dX5_margin_22 : decode cX5_margin 22 = .ok (.aload_n 0, 1) := fo_42 (fw_get da_cX5_margin_0 12 rfl)
theorem dX5_margin_23 : decode cX5_margin 23 = .ok (.iload_n 1, 1) := fo_27 (fw_get da_cX5_margin_0 13 rfl)
theorem dX5_margin_24 : decode cX5_margin 24 = .ok (.iload_n 2, 1) := fo_28 (fw_get da_cX5_margin_0 14 rfl)
theorem dX5_margin_25 : decode cX5_margin 25 = .ok (.iload_n 3, 1) := fo_29 (fw_get da_cX5_margin_0 15 rfl)
theorem dX5_margin_26 : decode cX5_margin 26 = .ok (.invokevirtual 149, 3) := fo_182 (fw_get da_cX5_margin_0 16 rfl)
theorem dX5_margin_29 : decode cX5_margin 29 = .ok (.imul, 1) := fo_104 (fw_get da_cX5_margin_0 17 rfl)
theorem dX5_margin_30 : decode cX5_margin 30 = .ok (.iload_n 3, 1) := fo_29 (fw_get da_cX5_margin_0 18 rfl)
theorem dX5_margin_31 : decode cX5_margin 31 = .ok (.iload_n 2, 1) := fo_28 (fw_get da_cX5_margin_0 19 rfl)
def dt_cX5_margin_1 : List (Nat × Nat × Nat × Nat) := [(32, 100, 0, 0), (33, 100, 0, 0), (34, 167, 2, 5), (37, 18, 1, 148), (39, 172, 0, 0)]
theorem da_cX5_margin_1 : fw dt_cX5_margin_1 0 cX5_margin.data.toList = true := by decide +kernel
theorem dX5_margin_32 : decode cX5_margin 32 = .ok (.isub, 1) := fo_100 (fw_get da_cX5_margin_1 0 rfl)
theorem dX5_margin_33 : decode cX5_margin 33 = .ok (.isub, 1) := fo_100 (fw_get da_cX5_margin_1 1 rfl)
theorem dX5_margin_34 : decode cX5_margin 34 = .ok (.goto 5, 3) := fo_167 (fw_get da_cX5_margin_1 2 rfl) (by decide +kernel)
theorem dX5_margin_37 : decode cX5_margin 37 = .ok (.ldc 148, 2) := fo_18 (fw_get da_cX5_margin_1 3 rfl)
theorem dX5_margin_39 : decode cX5_margin 39 = .ok (.ireturn, 1) := fo_172 (fw_get da_cX5_margin_1 4 rfl)
set_option maxRecDepth 20000 in
theorem ggX5_longest_X5_isValue : GoodIn wsX5_longest wsX5_isValue := goodIn_r _ [7, 8, 9, 6, 10] rfl (by decide +kernel)
set_option maxRecDepth 20000 in
theorem gX5_longest_X5_isValue : GoodIn wsX5_longest (va_wsS RX5 132 yX5_isValue wsX5_isValue) := goodIn_app (goodIn_r _ [4, 5, 6] rfl (by decide +kernel)) ggX5_longest_X5_isValue
set_option maxRecDepth 20000 in
theorem ggX5_longest_X5_isShare : GoodIn wsX5_longest wsX5_isShare := goodIn_r _ [13, 8, 9, 6, 10] rfl (by decide +kernel)
set_option maxRecDepth 20000 in
theorem gX5_longest_X5_isShare : GoodIn wsX5_longest (va_wsS RX5 184 yX5_isShare wsX5_isShare) := goodIn_app (goodIn_r _ [11, 12, 6] rfl (by decide +kernel)) ggX5_longest_X5_isShare
set_option maxRecDepth 20000 in
theorem ggX5_longest_X5_within : GoodIn wsX5_longest wsX5_within := goodIn_r _ [10] rfl (by decide +kernel)
set_option maxRecDepth 20000 in
theorem gX5_longest_X5_within : GoodIn wsX5_longest (va_wsS RX5 80 yX5_within wsX5_within) := goodIn_app (goodIn_r _ [8, 9, 6] rfl (by decide +kernel)) ggX5_longest_X5_within
def dt_cX5_longest_0 : List (Nat × Nat × Nat × Nat) := [(0, 42, 0, 0), (1, 3, 0, 0), (2, 181, 2, 77), (5, 27, 0, 0), (6, 184, 2, 132), (9, 153, 2, 21), (12, 28, 0, 0), (13, 29, 0, 0), (14, 184, 2, 184), (17, 153, 2, 13), (20, 21, 1, 4), (22, 3, 0, 0), (23, 4, 0, 0), (24, 184, 2, 80), (27, 154, 2, 5), (30, 2, 0, 0), (31, 172, 0, 0), (32, 2, 0, 0), (33, 54, 1, 5), (35, 2, 0, 0)]
theorem da_cX5_longest_0 : fw dt_cX5_longest_0 0 cX5_longest.data.toList = true := by decide +kernel
theorem dX5_longest_0 : decode cX5_longest 0 = .ok (.aload_n 0, 1) := fo_42 (fw_get da_cX5_longest_0 0 rfl)
theorem dX5_longest_1 : decode cX5_longest 1 = .ok (.iconst 0, 1) := fo_3 (fw_get da_cX5_longest_0 1 rfl)
theorem dX5_longest_2 : decode cX5_longest 2 = .ok (.putfield 77, 3) := fo_181 (fw_get da_cX5_longest_0 2 rfl)
theorem dX5_longest_5 : decode cX5_longest 5 = .ok (.iload_n 1, 1) := fo_27 (fw_get da_cX5_longest_0 3 rfl)
theorem dX5_longest_6 : decode cX5_longest 6 = .ok (.invokestatic 132, 3) := fo_184 (fw_get da_cX5_longest_0 4 rfl)
theorem dX5_longest_9 : decode cX5_longest 9 = .ok (.ifCond .eq 21, 3) := fo_153 (fw_get da_cX5_longest_0 5 rfl) (by decide +kernel)
theorem dX5_longest_12 : decode cX5_longest 12 = .ok (.iload_n 2, 1) := fo_28 (fw_get da_cX5_longest_0 6 rfl)
theorem dX5_longest_13 : decode cX5_longest 13 = .ok (.iload_n 3, 1) := fo_29 (fw_get da_cX5_longest_0 7 rfl)
theorem dX5_longest_14 : decode cX5_longest 14 = .ok (.invokestatic 184, 3) := fo_184 (fw_get da_cX5_longest_0 8 rfl)
theorem dX5_longest_17 : decode cX5_longest 17 = .ok (.ifCond .eq 13, 3) := fo_153 (fw_get da_cX5_longest_0 9 rfl) (by decide +kernel)
theorem dX5_longest_20 : decode cX5_longest 20 = .ok (.iload 4, 2) := fo_21 (fw_get da_cX5_longest_0 10 rfl)
theorem dX5_longest_22 : decode cX5_longest 22 = .ok (.iconst 0, 1) := fo_3 (fw_get da_cX5_longest_0 11 rfl)
theorem dX5_longest_23 : decode cX5_longest 23 = .ok (.iconst 1, 1) := fo_4 (fw_get da_cX5_longest_0 12 rfl)
theorem dX5_longest_24 : decode cX5_longest 24 = .ok (.invokestatic 80, 3) := fo_184 (fw_get da_cX5_longest_0 13 rfl)
theorem dX5_longest_27 : decode cX5_longest 27 = .ok (.ifCond .ne 5, 3) := fo_154 (fw_get da_cX5_longest_0 14 rfl) (by decide +kernel)
theorem dX5_longest_30 : decode cX5_longest 30 = .ok (.iconst (-1), 1) := fo_2 (fw_get da_cX5_longest_0 15 rfl)
theorem dX5_longest_31 : decode cX5_longest 31 = .ok (.ireturn, 1) := fo_172 (fw_get da_cX5_longest_0 16 rfl)
theorem dX5_longest_32 : decode cX5_longest 32 = .ok (.iconst (-1), 1) := fo_2 (fw_get da_cX5_longest_0 17 rfl)
theorem dX5_longest_33 : decode cX5_longest 33 = .ok (.istore 5, 2) := fo_54 (fw_get da_cX5_longest_0 18 rfl)
theorem dX5_longest_35 : decode cX5_longest 35 = .ok (.iconst (-1), 1) := fo_2 (fw_get da_cX5_longest_0 19 rfl)
def dt_cX5_longest_1 : List (Nat × Nat × Nat × Nat) := [(36, 54, 1, 6), (38, 3, 0, 0), (39, 54, 1, 7), (41, 21, 1, 7), (43, 42, 0, 0), (44, 180, 2, 84), (47, 162, 2, 92), (50, 3, 0, 0), (51, 54, 1, 8), (53, 21, 1, 7), (55, 4, 0, 0), (56, 96, 0, 0), (57, 54, 1, 9), (59, 21, 1, 9), (61, 42, 0, 0), (62, 180, 2, 84), (65, 163, 2, 68), (68, 42, 0, 0), (69, 180, 2, 7), (72, 21, 1, 9)]
theorem da_cX5_longest_1 : fw dt_cX5_longest_1 0 cX5_longest.data.toList = true := by decide +kernel
theorem dX5_longest_36 : decode cX5_longest 36 = .ok (.istore 6, 2) := fo_54 (fw_get da_cX5_longest_1 0 rfl)
theorem dX5_longest_38 : decode cX5_longest 38 = .ok (.iconst 0, 1) := fo_3 (fw_get da_cX5_longest_1 1 rfl)
theorem dX5_longest_39 : decode cX5_longest 39 = .ok (.istore 7, 2) := fo_54 (fw_get da_cX5_longest_1 2 rfl)
theorem dX5_longest_41 : decode cX5_longest 41 = .ok (.iload 7, 2) := fo_21 (fw_get da_cX5_longest_1 3 rfl)
theorem dX5_longest_43 : decode cX5_longest 43 = .ok (.aload_n 0, 1) := fo_42 (fw_get da_cX5_longest_1 4 rfl)
theorem dX5_longest_44 : decode cX5_longest 44 = .ok (.getfield 84, 3) := fo_180 (fw_get da_cX5_longest_1 5 rfl)
theorem dX5_longest_47 : decode cX5_longest 47 = .ok (.if_icmp .ge 92, 3) := fo_162 (fw_get da_cX5_longest_1 6 rfl) (by decide +kernel)
theorem dX5_longest_50 : decode cX5_longest 50 = .ok (.iconst 0, 1) := fo_3 (fw_get da_cX5_longest_1 7 rfl)
theorem dX5_longest_51 : decode cX5_longest 51 = .ok (.istore 8, 2) := fo_54 (fw_get da_cX5_longest_1 8 rfl)
theorem dX5_longest_53 : decode cX5_longest 53 = .ok (.iload 7, 2) := fo_21 (fw_get da_cX5_longest_1 9 rfl)
theorem dX5_longest_55 : decode cX5_longest 55 = .ok (.iconst 1, 1) := fo_4 (fw_get da_cX5_longest_1 10 rfl)
theorem dX5_longest_56 : decode cX5_longest 56 = .ok (.iadd, 1) := fo_96 (fw_get da_cX5_longest_1 11 rfl)
theorem dX5_longest_57 : decode cX5_longest 57 = .ok (.istore 9, 2) := fo_54 (fw_get da_cX5_longest_1 12 rfl)
theorem dX5_longest_59 : decode cX5_longest 59 = .ok (.iload 9, 2) := fo_21 (fw_get da_cX5_longest_1 13 rfl)
theorem dX5_longest_61 : decode cX5_longest 61 = .ok (.aload_n 0, 1) := fo_42 (fw_get da_cX5_longest_1 14 rfl)
theorem dX5_longest_62 : decode cX5_longest 62 = .ok (.getfield 84, 3) := fo_180 (fw_get da_cX5_longest_1 15 rfl)
theorem dX5_longest_65 : decode cX5_longest 65 = .ok (.if_icmp .gt 68, 3) := fo_163 (fw_get da_cX5_longest_1 16 rfl) (by decide +kernel)
theorem dX5_longest_68 : decode cX5_longest 68 = .ok (.aload_n 0, 1) := fo_42 (fw_get da_cX5_longest_1 17 rfl)
theorem dX5_longest_69 : decode cX5_longest 69 = .ok (.getfield 7, 3) := fo_180 (fw_get da_cX5_longest_1 18 rfl)
theorem dX5_longest_72 : decode cX5_longest 72 = .ok (.iload 9, 2) := fo_21 (fw_get da_cX5_longest_1 19 rfl)
def dt_cX5_longest_2 : List (Nat × Nat × Nat × Nat) := [(74, 4, 0, 0), (75, 100, 0, 0), (76, 46, 0, 0), (77, 27, 0, 0), (78, 160, 2, 6), (81, 132, 2, 2049), (84, 21, 1, 8), (86, 29, 0, 0), (87, 104, 0, 0), (88, 28, 0, 0), (89, 21, 1, 9), (91, 21, 1, 7), (93, 100, 0, 0), (94, 104, 0, 0), (95, 164, 2, 32), (98, 21, 1, 5), (100, 155, 2, 19), (103, 21, 1, 9), (105, 21, 1, 7), (107, 100, 0, 0)]
theorem da_cX5_longest_2 : fw dt_cX5_longest_2 0 cX5_longest.data.toList = true := by decide +kernel
theorem dX5_longest_74 : decode cX5_longest 74 = .ok (.iconst 1, 1) := fo_4 (fw_get da_cX5_longest_2 0 rfl)
theorem dX5_longest_75 : decode cX5_longest 75 = .ok (.isub, 1) := fo_100 (fw_get da_cX5_longest_2 1 rfl)
theorem dX5_longest_76 : decode cX5_longest 76 = .ok (.iaload, 1) := fo_46 (fw_get da_cX5_longest_2 2 rfl)
theorem dX5_longest_77 : decode cX5_longest 77 = .ok (.iload_n 1, 1) := fo_27 (fw_get da_cX5_longest_2 3 rfl)
theorem dX5_longest_78 : decode cX5_longest 78 = .ok (.if_icmp .ne 6, 3) := fo_160 (fw_get da_cX5_longest_2 4 rfl) (by decide +kernel)
theorem dX5_longest_81 : decode cX5_longest 81 = .ok (.iinc 8 1, 3) := fo_132 (fw_get da_cX5_longest_2 5 rfl) rfl (by decide +kernel)
theorem dX5_longest_84 : decode cX5_longest 84 = .ok (.iload 8, 2) := fo_21 (fw_get da_cX5_longest_2 6 rfl)
theorem dX5_longest_86 : decode cX5_longest 86 = .ok (.iload_n 3, 1) := fo_29 (fw_get da_cX5_longest_2 7 rfl)
theorem dX5_longest_87 : decode cX5_longest 87 = .ok (.imul, 1) := fo_104 (fw_get da_cX5_longest_2 8 rfl)
theorem dX5_longest_88 : decode cX5_longest 88 = .ok (.iload_n 2, 1) := fo_28 (fw_get da_cX5_longest_2 9 rfl)
theorem dX5_longest_89 : decode cX5_longest 89 = .ok (.iload 9, 2) := fo_21 (fw_get da_cX5_longest_2 10 rfl)
theorem dX5_longest_91 : decode cX5_longest 91 = .ok (.iload 7, 2) := fo_21 (fw_get da_cX5_longest_2 11 rfl)
theorem dX5_longest_93 : decode cX5_longest 93 = .ok (.isub, 1) := fo_100 (fw_get da_cX5_longest_2 12 rfl)
theorem dX5_longest_94 : decode cX5_longest 94 = .ok (.imul, 1) := fo_104 (fw_get da_cX5_longest_2 13 rfl)
theorem dX5_longest_95 : decode cX5_longest 95 = .ok (.if_icmp .le 32, 3) := fo_164 (fw_get da_cX5_longest_2 14 rfl) (by decide +kernel)
theorem dX5_longest_98 : decode cX5_longest 98 = .ok (.iload 5, 2) := fo_21 (fw_get da_cX5_longest_2 15 rfl)
theorem dX5_longest_100 : decode cX5_longest 100 = .ok (.ifCond .lt 19, 3) := fo_155 (fw_get da_cX5_longest_2 16 rfl) (by decide +kernel)
theorem dX5_longest_103 : decode cX5_longest 103 = .ok (.iload 9, 2) := fo_21 (fw_get da_cX5_longest_2 17 rfl)
theorem dX5_longest_105 : decode cX5_longest 105 = .ok (.iload 7, 2) := fo_21 (fw_get da_cX5_longest_2 18 rfl)
theorem dX5_longest_107 : decode cX5_longest 107 = .ok (.isub, 1) := fo_100 (fw_get da_cX5_longest_2 19 rfl)
def dt_cX5_longest_3 : List (Nat × Nat × Nat × Nat) := [(108, 21, 1, 6), (110, 21, 1, 5), (112, 100, 0, 0), (113, 163, 2, 6), (116, 167, 2, 11), (119, 21, 1, 7), (121, 54, 1, 5), (123, 21, 1, 9), (125, 54, 1, 6), (127, 132, 2, 2305), (130, 167, 2, 65465), (133, 132, 2, 1793), (136, 167, 2, 65441), (139, 21, 1, 4), (141, 154, 2, 8), (144, 21, 1, 5), (146, 167, 2, 5), (149, 21, 1, 6), (151, 172, 0, 0)]
theorem da_cX5_longest_3 : fw dt_cX5_longest_3 0 cX5_longest.data.toList = true := by decide +kernel
theorem dX5_longest_108 : decode cX5_longest 108 = .ok (.iload 6, 2) := fo_21 (fw_get da_cX5_longest_3 0 rfl)
theorem dX5_longest_110 : decode cX5_longest 110 = .ok (.iload 5, 2) := fo_21 (fw_get da_cX5_longest_3 1 rfl)
theorem dX5_longest_112 : decode cX5_longest 112 = .ok (.isub, 1) := fo_100 (fw_get da_cX5_longest_3 2 rfl)
theorem dX5_longest_113 : decode cX5_longest 113 = .ok (.if_icmp .gt 6, 3) := fo_163 (fw_get da_cX5_longest_3 3 rfl) (by decide +kernel)
theorem dX5_longest_116 : decode cX5_longest 116 = .ok (.goto 11, 3) := fo_167 (fw_get da_cX5_longest_3 4 rfl) (by decide +kernel)
theorem dX5_longest_119 : decode cX5_longest 119 = .ok (.iload 7, 2) := fo_21 (fw_get da_cX5_longest_3 5 rfl)
theorem dX5_longest_121 : decode cX5_longest 121 = .ok (.istore 5, 2) := fo_54 (fw_get da_cX5_longest_3 6 rfl)
theorem dX5_longest_123 : decode cX5_longest 123 = .ok (.iload 9, 2) := fo_21 (fw_get da_cX5_longest_3 7 rfl)
theorem dX5_longest_125 : decode cX5_longest 125 = .ok (.istore 6, 2) := fo_54 (fw_get da_cX5_longest_3 8 rfl)
theorem dX5_longest_127 : decode cX5_longest 127 = .ok (.iinc 9 1, 3) := fo_132 (fw_get da_cX5_longest_3 9 rfl) rfl (by decide +kernel)
theorem dX5_longest_130 : decode cX5_longest 130 = .ok (.goto (-71), 3) := fo_167 (fw_get da_cX5_longest_3 10 rfl) (by decide +kernel)
theorem dX5_longest_133 : decode cX5_longest 133 = .ok (.iinc 7 1, 3) := fo_132 (fw_get da_cX5_longest_3 11 rfl) rfl (by decide +kernel)
theorem dX5_longest_136 : decode cX5_longest 136 = .ok (.goto (-95), 3) := fo_167 (fw_get da_cX5_longest_3 12 rfl) (by decide +kernel)
theorem dX5_longest_139 : decode cX5_longest 139 = .ok (.iload 4, 2) := fo_21 (fw_get da_cX5_longest_3 13 rfl)
theorem dX5_longest_141 : decode cX5_longest 141 = .ok (.ifCond .ne 8, 3) := fo_154 (fw_get da_cX5_longest_3 14 rfl) (by decide +kernel)
theorem dX5_longest_144 : decode cX5_longest 144 = .ok (.iload 5, 2) := fo_21 (fw_get da_cX5_longest_3 15 rfl)
theorem dX5_longest_146 : decode cX5_longest 146 = .ok (.goto 5, 3) := fo_167 (fw_get da_cX5_longest_3 16 rfl) (by decide +kernel)
theorem dX5_longest_149 : decode cX5_longest 149 = .ok (.iload 6, 2) := fo_21 (fw_get da_cX5_longest_3 17 rfl)
theorem dX5_longest_151 : decode cX5_longest 151 = .ok (.ireturn, 1) := fo_172 (fw_get da_cX5_longest_3 18 rfl)
set_option maxRecDepth 20000 in
theorem ggX5_cut_X5_isRange : GoodIn wsX5_cut wsX5_isRange := goodIn_r _ [7, 8, 18, 19, 20, 21, 22, 23, 24, 25, 26, 27, 28, 29, 30, 31, 32, 33, 34, 35, 36, 37, 38, 39, 40, 41, 42, 43, 44, 45, 46, 47] rfl (by decide +kernel)
set_option maxRecDepth 20000 in
theorem gX5_cut_X5_isRange : GoodIn wsX5_cut (wsV RX5 142 RX5 yX5_isRange wsX5_isRange) := goodIn_app (goodIn_r _ [3, 4, 5, 6] rfl (by decide +kernel)) ggX5_cut_X5_isRange
set_option maxRecDepth 20000 in
theorem ggX5_cut_X5_majorityOf : GoodIn wsX5_cut wsX5_majorityOf := goodIn_r _ [12, 13, 2, 14, 15, 16, 6, 17, 18, 19, 20, 21, 22, 23, 24, 25, 26, 27, 28, 29, 30, 31, 32, 33, 34, 35, 36, 37, 38, 39, 40, 41, 42, 43, 44, 45, 46, 47] rfl (by decide +kernel)
set_option maxRecDepth 20000 in
theorem gX5_cut_X5_majorityOf : GoodIn wsX5_cut (wsV RX5 194 RX5 yX5_majorityOf wsX5_majorityOf) := goodIn_app (goodIn_r _ [9, 10, 11, 6] rfl (by decide +kernel)) ggX5_cut_X5_majorityOf
def dt_cX5_cut_0 : List (Nat × Nat × Nat × Nat) := [(0, 42, 0, 0), (1, 3, 0, 0), (2, 181, 2, 77), (5, 42, 0, 0), (6, 27, 0, 0), (7, 28, 0, 0), (8, 182, 2, 142), (11, 154, 2, 5), (14, 2, 0, 0), (15, 172, 0, 0), (16, 27, 0, 0), (17, 4, 0, 0), (18, 96, 0, 0), (19, 62, 0, 0), (20, 29, 0, 0), (21, 28, 0, 0), (22, 162, 2, 48), (25, 42, 0, 0), (26, 27, 0, 0), (27, 29, 0, 0)]
theorem da_cX5_cut_0 : fw dt_cX5_cut_0 0 cX5_cut.data.toList = true := by decide +kernel
theorem dX5_cut_0 : decode cX5_cut 0 = .ok (.aload_n 0, 1) := fo_42 (fw_get da_cX5_cut_0 0 rfl)
theorem dX5_cut_1 : decode cX5_cut 1 = .ok (.iconst 0, 1) := fo_3 (fw_get da_cX5_cut_0 1 rfl)
theorem dX5_cut_2 : decode cX5_cut 2 = .ok (.putfield 77, 3) := fo_181 (fw_get da_cX5_cut_0 2 rfl)
theorem dX5_cut_5 : decode cX5_cut 5 = .ok (.aload_n 0, 1) := fo_42 (fw_get da_cX5_cut_0 3 rfl)
theorem dX5_cut_6 : decode cX5_cut 6 = .ok (.iload_n 1, 1) := fo_27 (fw_get da_cX5_cut_0 4 rfl)
theorem dX5_cut_7 : decode cX5_cut 7 = .ok (.iload_n 2, 1) := fo_28 (fw_get da_cX5_cut_0 5 rfl)
theorem dX5_cut_8 : decode cX5_cut 8 = .ok (.invokevirtual 142, 3) := fo_182 (fw_get da_cX5_cut_0 6 rfl)
theorem dX5_cut_11 : decode cX5_cut 11 = .ok (.ifCond .ne 5, 3) := fo_154 (fw_get da_cX5_cut_0 7 rfl) (by decide +kernel)
theorem dX5_cut_14 : decode cX5_cut 14 = .ok (.iconst (-1), 1) := fo_2 (fw_get da_cX5_cut_0 8 rfl)
theorem dX5_cut_15 : decode cX5_cut 15 = .ok (.ireturn, 1) := fo_172 (fw_get da_cX5_cut_0 9 rfl)
theorem dX5_cut_16 : decode cX5_cut 16 = .ok (.iload_n 1, 1) := fo_27 (fw_get da_cX5_cut_0 10 rfl)
theorem dX5_cut_17 : decode cX5_cut 17 = .ok (.iconst 1, 1) := fo_4 (fw_get da_cX5_cut_0 11 rfl)
theorem dX5_cut_18 : decode cX5_cut 18 = .ok (.iadd, 1) := fo_96 (fw_get da_cX5_cut_0 12 rfl)
theorem dX5_cut_19 : decode cX5_cut 19 = .ok (.istore_n 3, 1) := fo_62 (fw_get da_cX5_cut_0 13 rfl)
theorem dX5_cut_20 : decode cX5_cut 20 = .ok (.iload_n 3, 1) := fo_29 (fw_get da_cX5_cut_0 14 rfl)
theorem dX5_cut_21 : decode cX5_cut 21 = .ok (.iload_n 2, 1) := fo_28 (fw_get da_cX5_cut_0 15 rfl)
theorem dX5_cut_22 : decode cX5_cut 22 = .ok (.if_icmp .ge 48, 3) := fo_162 (fw_get da_cX5_cut_0 16 rfl) (by decide +kernel)
theorem dX5_cut_25 : decode cX5_cut 25 = .ok (.aload_n 0, 1) := fo_42 (fw_get da_cX5_cut_0 17 rfl)
theorem dX5_cut_26 : decode cX5_cut 26 = .ok (.iload_n 1, 1) := fo_27 (fw_get da_cX5_cut_0 18 rfl)
theorem dX5_cut_27 : decode cX5_cut 27 = .ok (.iload_n 3, 1) := fo_29 (fw_get da_cX5_cut_0 19 rfl)
def dt_cX5_cut_1 : List (Nat × Nat × Nat × Nat) := [(28, 182, 2, 194), (31, 54, 1, 4), (33, 42, 0, 0), (34, 29, 0, 0), (35, 28, 0, 0), (36, 182, 2, 194), (39, 54, 1, 5), (41, 21, 1, 4), (43, 18, 1, 148), (45, 159, 2, 19), (48, 21, 1, 5), (50, 18, 1, 148), (52, 159, 2, 12), (55, 21, 1, 4), (57, 21, 1, 5), (59, 159, 2, 5), (62, 29, 0, 0), (63, 172, 0, 0), (64, 132, 2, 769), (67, 167, 2, 65489)]
theorem da_cX5_cut_1 : fw dt_cX5_cut_1 0 cX5_cut.data.toList = true := by decide +kernel
theorem dX5_cut_28 : decode cX5_cut 28 = .ok (.invokevirtual 194, 3) := fo_182 (fw_get da_cX5_cut_1 0 rfl)
theorem dX5_cut_31 : decode cX5_cut 31 = .ok (.istore 4, 2) := fo_54 (fw_get da_cX5_cut_1 1 rfl)
theorem dX5_cut_33 : decode cX5_cut 33 = .ok (.aload_n 0, 1) := fo_42 (fw_get da_cX5_cut_1 2 rfl)
theorem dX5_cut_34 : decode cX5_cut 34 = .ok (.iload_n 3, 1) := fo_29 (fw_get da_cX5_cut_1 3 rfl)
theorem dX5_cut_35 : decode cX5_cut 35 = .ok (.iload_n 2, 1) := fo_28 (fw_get da_cX5_cut_1 4 rfl)
theorem dX5_cut_36 : decode cX5_cut 36 = .ok (.invokevirtual 194, 3) := fo_182 (fw_get da_cX5_cut_1 5 rfl)
theorem dX5_cut_39 : decode cX5_cut 39 = .ok (.istore 5, 2) := fo_54 (fw_get da_cX5_cut_1 6 rfl)
theorem dX5_cut_41 : decode cX5_cut 41 = .ok (.iload 4, 2) := fo_21 (fw_get da_cX5_cut_1 7 rfl)
theorem dX5_cut_43 : decode cX5_cut 43 = .ok (.ldc 148, 2) := fo_18 (fw_get da_cX5_cut_1 8 rfl)
theorem dX5_cut_45 : decode cX5_cut 45 = .ok (.if_icmp .eq 19, 3) := fo_159 (fw_get da_cX5_cut_1 9 rfl) (by decide +kernel)
theorem dX5_cut_48 : decode cX5_cut 48 = .ok (.iload 5, 2) := fo_21 (fw_get da_cX5_cut_1 10 rfl)
theorem dX5_cut_50 : decode cX5_cut 50 = .ok (.ldc 148, 2) := fo_18 (fw_get da_cX5_cut_1 11 rfl)
theorem dX5_cut_52 : decode cX5_cut 52 = .ok (.if_icmp .eq 12, 3) := fo_159 (fw_get da_cX5_cut_1 12 rfl) (by decide +kernel)
theorem dX5_cut_55 : decode cX5_cut 55 = .ok (.iload 4, 2) := fo_21 (fw_get da_cX5_cut_1 13 rfl)
theorem dX5_cut_57 : decode cX5_cut 57 = .ok (.iload 5, 2) := fo_21 (fw_get da_cX5_cut_1 14 rfl)
theorem dX5_cut_59 : decode cX5_cut 59 = .ok (.if_icmp .eq 5, 3) := fo_159 (fw_get da_cX5_cut_1 15 rfl) (by decide +kernel)
theorem dX5_cut_62 : decode cX5_cut 62 = .ok (.iload_n 3, 1) := fo_29 (fw_get da_cX5_cut_1 16 rfl)
theorem dX5_cut_63 : decode cX5_cut 63 = .ok (.ireturn, 1) := fo_172 (fw_get da_cX5_cut_1 17 rfl)
theorem dX5_cut_64 : decode cX5_cut 64 = .ok (.iinc 3 1, 3) := fo_132 (fw_get da_cX5_cut_1 18 rfl) rfl (by decide +kernel)
theorem dX5_cut_67 : decode cX5_cut 67 = .ok (.goto (-47), 3) := fo_167 (fw_get da_cX5_cut_1 19 rfl) (by decide +kernel)
def dt_cX5_cut_2 : List (Nat × Nat × Nat × Nat) := [(70, 2, 0, 0), (71, 172, 0, 0)]
theorem da_cX5_cut_2 : fw dt_cX5_cut_2 0 cX5_cut.data.toList = true := by decide +kernel
theorem dX5_cut_70 : decode cX5_cut 70 = .ok (.iconst (-1), 1) := fo_2 (fw_get da_cX5_cut_2 0 rfl)
theorem dX5_cut_71 : decode cX5_cut 71 = .ok (.ireturn, 1) := fo_172 (fw_get da_cX5_cut_2 1 rfl)
theorem mi_wsX5_would_wsX5_would_r1 : ∀ w ∈ wsX5_would_r1, w ∈ wsX5_would := fun _ h => (List.mem_cons_of_mem _ (List.mem_append_left _ (List.mem_append_left _ h)))
theorem mi_wsX5_would_wsX50 : ∀ w ∈ wsX50, w ∈ wsX5_would := fun _ h => (List.mem_cons_of_mem _ (List.mem_append_right _ h))
set_option maxRecDepth 20000 in
theorem ggX5_would_X5_isPlace : GoodIn wsX5_would wsX5_isPlace := goodIn_m _ [(wsX5_would_r1, [false, false, false, false, false, false, false, true, true, true, true]), (wsX5_would_r1, [false, false, false, false, false, false, true, false, false, false, false, true]), (wsX50, [true, true, true, true, true, true, true, true, true, true, true, true, true, true, true, true, true, true, true, true, true, true, true, true, true, true, true, true, true, true])] (gm_c mi_wsX5_would_wsX5_would_r1 (gm_c mi_wsX5_would_wsX5_would_r1 (gm_c mi_wsX5_would_wsX50 gm_n))) rfl (by decide +kernel)
set_option maxRecDepth 20000 in
theorem gX5_would_X5_isPlace : GoodIn wsX5_would (wsV RX5 128 RX5 yX5_isPlace wsX5_isPlace) := goodIn_app (goodIn_m _ [(wsX5_would_r1, [false, false, false, true, true, true, true])] (gm_c mi_wsX5_would_wsX5_would_r1 gm_n) rfl (by decide +kernel)) ggX5_would_X5_isPlace
set_option maxRecDepth 20000 in
theorem ggX5_would_X5_isValue : GoodIn wsX5_would wsX5_isValue := goodIn_m _ [(wsX5_would_r1, [false, false, false, false, false, false, false, false, false, false, false, false, false, false, true]), (wsX5_would_r1, [false, false, false, false, false, false, false, false, false, true, true]), (wsX5_would_r1, [false, false, false, false, false, false, true, false, false, false, false, true])] (gm_c mi_wsX5_would_wsX5_would_r1 (gm_c mi_wsX5_would_wsX5_would_r1 (gm_c mi_wsX5_would_wsX5_would_r1 gm_n))) rfl (by decide +kernel)
set_option maxRecDepth 20000 in
theorem gX5_would_X5_isValue : GoodIn wsX5_would (va_wsS RX5 132 yX5_isValue wsX5_isValue) := goodIn_app (goodIn_m _ [(wsX5_would_r1, [false, false, false, false, false, false, false, false, false, false, false, false, true, true]), (wsX5_would_r1, [false, false, false, false, false, false, true])] (gm_c mi_wsX5_would_wsX5_would_r1 (gm_c mi_wsX5_would_wsX5_would_r1 gm_n)) rfl (by decide +kernel)) ggX5_would_X5_isValue
set_option maxRecDepth 20000 in
theorem ggX5_would_X5_isRange : GoodIn wsX5_would wsX5_isRange := goodIn_m _ [(wsX5_would_r1, [false, false, false, false, false, false, false, false, false, false, false, false, false, false, false, false, false, false, true]), (wsX5_would_r1, [false, false, false, false, false, false, false, false, true]), (wsX50, [true, true, true, true, true, true, true, true, true, true, true, true, true, true, true, true, true, true, true, true, true, true, true, true, true, true, true, true, true, true])] (gm_c mi_wsX5_would_wsX5_would_r1 (gm_c mi_wsX5_would_wsX5_would_r1 (gm_c mi_wsX5_would_wsX50 gm_n))) rfl (by decide +kernel)
set_option maxRecDepth 20000 in
theorem gX5_would_X5_isRange : GoodIn wsX5_would (wsV RX5 142 RX5 yX5_isRange wsX5_isRange) := goodIn_app (goodIn_m _ [(wsX5_would_r1, [false, false, false, false, false, false, false, false, false, false, false, false, false, false, false, true, true, true]), (wsX5_would_r1, [false, false, false, false, false, false, true])] (gm_c mi_wsX5_would_wsX5_would_r1 (gm_c mi_wsX5_would_wsX5_would_r1 gm_n)) rfl (by decide +kernel)) ggX5_would_X5_isRange
theorem mi_wsX5_would_wsX5_would_r2 : ∀ w ∈ wsX5_would_r2, w ∈ wsX5_would := fun _ h => (List.mem_cons_of_mem _ (List.mem_append_left _ (List.mem_append_right _ h)))
set_option maxRecDepth 20000 in
theorem ggX5_would_X5_majorityOf : GoodIn wsX5_would wsX5_majorityOf := goodIn_m _ [(wsX5_would_r1, [false, false, false, false, false, false, false, false, false, false, false, false, false, false, false, false, false, false, false, false, false, false, true]), (wsX5_would_r1, [false, false, true]), (wsX5_would_r1, [false, true, false, false, false, false, false, false, false, false, false, false, false, false, false, false, false, false, false, false, false, false, false, true]), (wsX5_would_r2, [true, true]), (wsX5_would_r1, [false, false, false, false, false, false, true]), (wsX5_would_r2, [false, false, true]), (wsX50, [true, true, true, true, true, true, true, true, true, true, true, true, true, true, true, true, true, true, true, true, true, true, true, true, true, true, true, true, true, true])] (gm_c mi_wsX5_would_wsX5_would_r1 (gm_c mi_wsX5_would_wsX5_would_r1 (gm_c mi_wsX5_would_wsX5_would_r1 (gm_c mi_wsX5_would_wsX5_would_r2 (gm_c mi_wsX5_would_wsX5_would_r1 (gm_c mi_wsX5_would_wsX5_would_r2 (gm_c mi_wsX5_would_wsX50 gm_n))))))) rfl (by decide +kernel)
set_option maxRecDepth 20000 in
theorem gX5_would_X5_majorityOf : GoodIn wsX5_would (wsV RX5 194 RX5 yX5_majorityOf wsX5_majorityOf) := goodIn_app (goodIn_m _ [(wsX5_would_r1, [false, false, false, false, false, false, false, false, false, false, false, false, false, false, false, false, false, false, false, true, true, true]), (wsX5_would_r1, [false, false, false, false, false, false, true])] (gm_c mi_wsX5_would_wsX5_would_r1 (gm_c mi_wsX5_would_wsX5_would_r1 gm_n)) rfl (by decide +kernel)) ggX5_would_X5_majorityOf
def dt_cX5_would_0 : List (Nat × Nat × Nat × Nat) := [(0, 42, 0, 0), (1, 3, 0, 0), (2, 181, 2, 77), (5, 42, 0, 0), (6, 27, 0, 0), (7, 182, 2, 128), (10, 153, 2, 20), (13, 28, 0, 0), (14, 184, 2, 132), (17, 153, 2, 13), (20, 42, 0, 0), (21, 29, 0, 0), (22, 21, 1, 4), (24, 182, 2, 142), (27, 154, 2, 6), (30, 18, 1, 148), (32, 172, 0, 0), (33, 42, 0, 0), (34, 180, 2, 7), (37, 27, 0, 0)]
theorem da_cX5_would_0 : fw dt_cX5_would_0 0 cX5_would.data.toList = true := by decide +kernel
theorem dX5_would_0 : decode cX5_would 0 = .ok (.aload_n 0, 1) := fo_42 (fw_get da_cX5_would_0 0 rfl)
theorem dX5_would_1 : decode cX5_would 1 = .ok (.iconst 0, 1) := fo_3 (fw_get da_cX5_would_0 1 rfl)
theorem dX5_would_2 : decode cX5_would 2 = .ok (.putfield 77, 3) := fo_181 (fw_get da_cX5_would_0 2 rfl)
theorem dX5_would_5 : decode cX5_would 5 = .ok (.aload_n 0, 1) := fo_42 (fw_get da_cX5_would_0 3 rfl)
theorem dX5_would_6 : decode cX5_would 6 = .ok (.iload_n 1, 1) := fo_27 (fw_get da_cX5_would_0 4 rfl)
theorem dX5_would_7 : decode cX5_would 7 = .ok (.invokevirtual 128, 3) := fo_182 (fw_get da_cX5_would_0 5 rfl)
theorem dX5_would_10 : decode cX5_would 10 = .ok (.ifCond .eq 20, 3) := fo_153 (fw_get da_cX5_would_0 6 rfl) (by decide +kernel)
theorem dX5_would_13 : decode cX5_would 13 = .ok (.iload_n 2, 1) := fo_28 (fw_get da_cX5_would_0 7 rfl)
theorem dX5_would_14 : decode cX5_would 14 = .ok (.invokestatic 132, 3) := fo_184 (fw_get da_cX5_would_0 8 rfl)
theorem dX5_would_17 : decode cX5_would 17 = .ok (.ifCond .eq 13, 3) := fo_153 (fw_get da_cX5_would_0 9 rfl) (by decide +kernel)
theorem dX5_would_20 : decode cX5_would 20 = .ok (.aload_n 0, 1) := fo_42 (fw_get da_cX5_would_0 10 rfl)
theorem dX5_would_21 : decode cX5_would 21 = .ok (.iload_n 3, 1) := fo_29 (fw_get da_cX5_would_0 11 rfl)
theorem dX5_would_22 : decode cX5_would 22 = .ok (.iload 4, 2) := fo_21 (fw_get da_cX5_would_0 12 rfl)
theorem dX5_would_24 : decode cX5_would 24 = .ok (.invokevirtual 142, 3) := fo_182 (fw_get da_cX5_would_0 13 rfl)
theorem dX5_would_27 : decode cX5_would 27 = .ok (.ifCond .ne 6, 3) := fo_154 (fw_get da_cX5_would_0 14 rfl) (by decide +kernel)
theorem dX5_would_30 : decode cX5_would 30 = .ok (.ldc 148, 2) := fo_18 (fw_get da_cX5_would_0 15 rfl)
theorem dX5_would_32 : decode cX5_would 32 = .ok (.ireturn, 1) := fo_172 (fw_get da_cX5_would_0 16 rfl)
theorem dX5_would_33 : decode cX5_would 33 = .ok (.aload_n 0, 1) := fo_42 (fw_get da_cX5_would_0 17 rfl)
theorem dX5_would_34 : decode cX5_would 34 = .ok (.getfield 7, 3) := fo_180 (fw_get da_cX5_would_0 18 rfl)
theorem dX5_would_37 : decode cX5_would 37 = .ok (.iload_n 1, 1) := fo_27 (fw_get da_cX5_would_0 19 rfl)
def dt_cX5_would_1 : List (Nat × Nat × Nat × Nat) := [(38, 46, 0, 0), (39, 54, 1, 5), (41, 42, 0, 0), (42, 180, 2, 7), (45, 27, 0, 0), (46, 28, 0, 0), (47, 79, 0, 0), (48, 42, 0, 0), (49, 29, 0, 0), (50, 21, 1, 4), (52, 182, 2, 194), (55, 54, 1, 6), (57, 42, 0, 0), (58, 180, 2, 7), (61, 27, 0, 0), (62, 21, 1, 5), (64, 79, 0, 0), (65, 21, 1, 6), (67, 172, 0, 0)]
theorem da_cX5_would_1 : fw dt_cX5_would_1 0 cX5_would.data.toList = true := by decide +kernel
theorem dX5_would_38 : decode cX5_would 38 = .ok (.iaload, 1) := fo_46 (fw_get da_cX5_would_1 0 rfl)
theorem dX5_would_39 : decode cX5_would 39 = .ok (.istore 5, 2) := fo_54 (fw_get da_cX5_would_1 1 rfl)
theorem dX5_would_41 : decode cX5_would 41 = .ok (.aload_n 0, 1) := fo_42 (fw_get da_cX5_would_1 2 rfl)
theorem dX5_would_42 : decode cX5_would 42 = .ok (.getfield 7, 3) := fo_180 (fw_get da_cX5_would_1 3 rfl)
theorem dX5_would_45 : decode cX5_would 45 = .ok (.iload_n 1, 1) := fo_27 (fw_get da_cX5_would_1 4 rfl)
theorem dX5_would_46 : decode cX5_would 46 = .ok (.iload_n 2, 1) := fo_28 (fw_get da_cX5_would_1 5 rfl)
theorem dX5_would_47 : decode cX5_would 47 = .ok (.iastore, 1) := fo_79 (fw_get da_cX5_would_1 6 rfl)
theorem dX5_would_48 : decode cX5_would 48 = .ok (.aload_n 0, 1) := fo_42 (fw_get da_cX5_would_1 7 rfl)
theorem dX5_would_49 : decode cX5_would 49 = .ok (.iload_n 3, 1) := fo_29 (fw_get da_cX5_would_1 8 rfl)
theorem dX5_would_50 : decode cX5_would 50 = .ok (.iload 4, 2) := fo_21 (fw_get da_cX5_would_1 9 rfl)
theorem dX5_would_52 : decode cX5_would 52 = .ok (.invokevirtual 194, 3) := fo_182 (fw_get da_cX5_would_1 10 rfl)
theorem dX5_would_55 : decode cX5_would 55 = .ok (.istore 6, 2) := fo_54 (fw_get da_cX5_would_1 11 rfl)
theorem dX5_would_57 : decode cX5_would 57 = .ok (.aload_n 0, 1) := fo_42 (fw_get da_cX5_would_1 12 rfl)
theorem dX5_would_58 : decode cX5_would 58 = .ok (.getfield 7, 3) := fo_180 (fw_get da_cX5_would_1 13 rfl)
theorem dX5_would_61 : decode cX5_would 61 = .ok (.iload_n 1, 1) := fo_27 (fw_get da_cX5_would_1 14 rfl)
theorem dX5_would_62 : decode cX5_would 62 = .ok (.iload 5, 2) := fo_21 (fw_get da_cX5_would_1 15 rfl)
theorem dX5_would_64 : decode cX5_would 64 = .ok (.iastore, 1) := fo_79 (fw_get da_cX5_would_1 16 rfl)
theorem dX5_would_65 : decode cX5_would 65 = .ok (.iload 6, 2) := fo_21 (fw_get da_cX5_would_1 17 rfl)
theorem dX5_would_67 : decode cX5_would 67 = .ok (.ireturn, 1) := fo_172 (fw_get da_cX5_would_1 18 rfl)

