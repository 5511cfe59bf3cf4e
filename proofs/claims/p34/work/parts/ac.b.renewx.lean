set_option maxHeartbeats 4000000 in
set_option maxRecDepth 100000 in
theorem c_X2_renew_x (l : Launch) (dC : Nat → ClassId) (dI : Nat → Nat → Nat) (q_t : Nat) (q_row : Nat) (q_joined : Nat) (q_from : Nat) (q_to : Nat) (q_size : Nat) (q_lossOf : Nat) (q_lessBy : Nat) (q_value : Nat) (q_number : Nat) (nodes : Int32) (here : Int32) (q_cell : Nat) (cyI : ClassId) (len : Int32) (f : Nat → Int32) (ff : Nat → Int32) (ft : Nat → Int32) (fs : Nat → Int32) (fo : Nat → Int32) (uv : Nat → Int32) (un : Nat → Int32) (fe : Nat → Int32) (j_v : Nat) (j_n : Nat) (js : Int32) (jl : Int32) (je : Int32) (jv : Nat → Int32) (jn : Nat → Int32) (p0 : Int32) (p1 : Int32) (sz : Nat) (b0 : 0 ≤ nodes.toInt) (c0 : nodes.toInt ≤ 319) (c1 : len.toInt ≤ 160) (s0 : sixes fs) (t0 : treeOk ff ft nodes.toInt len.toInt) (k0 : 1 ≤ here.toInt) (k1 : here.toInt ≤ 6) (hcr : mj_cr ff ft nodes.toInt) (hOld : ∀ k : Nat, (k : Int) < nodes.toInt → ¬ mj_hit ff ft p0.toInt p1.toInt k → mj_ok here.toNatClampNeg f ff ft fs fo fe uv un k) : kx_MQ l (dC, dI) yX2_renew wsX2_renew ({ frames := 4, cells := 0, slots := 0, locals := 180 }) [.ref q_t, .int p0, .int p1] [kx_2 q_t q_row q_joined q_from q_to q_size q_lossOf q_lessBy q_value q_number nodes here, kx_0 q_row q_cell len, kx_a q_cell cyI 160 f, kx_a q_from cyI 319 ff, kx_a q_to cyI 319 ft, kx_a q_size cyI 319 fs, kx_a q_lossOf cyI 319 fo, kx_a q_lessBy cyI 319 fe, kx_a q_value cyI 1914 uv, kx_a q_number cyI 1914 un, kx_3 q_joined j_v j_n js jl je, kx_a j_v cyI 12 jv, kx_a j_n cyI 12 jn] [(cyI, .int)] sz (fun A => va_Qi (fun (r : Int32) (u : (Nat → Int32) × (Nat → Int32) × (Nat → Int32) × (Nat → Int32) × (Nat → Int32) × Int32 × Int32 × Int32 × (Nat → Int32) × (Nat → Int32)) => sixes u.1 ∧ ∀ k : Nat, (k : Int) < nodes.toInt → mj_ok here.toNatClampNeg f ff ft u.1 u.2.1 u.2.2.1 u.2.2.2.1 u.2.2.2.2.1 k) (fun (u : (Nat → Int32) × (Nat → Int32) × (Nat → Int32) × (Nat → Int32) × (Nat → Int32) × Int32 × Int32 × Int32 × (Nat → Int32) × (Nat → Int32)) (t : State) => va_P (dC, dI) vwCl [kx_2 q_t q_row q_joined q_from q_to q_size q_lossOf q_lessBy q_value q_number nodes here, kx_0 q_row q_cell len, kx_a q_cell cyI 160 f, kx_a q_from cyI 319 ff, kx_a q_to cyI 319 ft, kx_a q_size cyI 319 u.1, kx_a q_lossOf cyI 319 u.2.1, kx_a q_lessBy cyI 319 u.2.2.1, kx_a q_value cyI 1914 u.2.2.2.1, kx_a q_number cyI 1914 u.2.2.2.2.1, kx_3 q_joined j_v j_n u.2.2.2.2.2.1 u.2.2.2.2.2.2.1 u.2.2.2.2.2.2.2.1, kx_a j_v cyI 12 u.2.2.2.2.2.2.2.2.1, kx_a j_n cyI 12 u.2.2.2.2.2.2.2.2.2] t.heap ∧ va_K (dC, dI) vwCl [(cyI, .int)] t ∧ va_D A [kx_2 q_t q_row q_joined q_from q_to q_size q_lossOf q_lessBy q_value q_number nodes here, kx_0 q_row q_cell len, kx_a q_cell cyI 160 f, kx_a q_from cyI 319 ff, kx_a q_to cyI 319 ft, kx_a q_size cyI 319 u.1, kx_a q_lossOf cyI 319 u.2.1, kx_a q_lessBy cyI 319 u.2.2.1, kx_a q_value cyI 1914 u.2.2.2.1, kx_a q_number cyI 1914 u.2.2.2.2.1, kx_3 q_joined j_v j_n u.2.2.2.2.2.1 u.2.2.2.2.2.2.1 u.2.2.2.2.2.2.2.1, kx_a j_v cyI 12 u.2.2.2.2.2.2.2.2.1, kx_a j_n cyI 12 u.2.2.2.2.2.2.2.2.2]) A) := by
  refine kx_stQ (ws := wsX2_renew) (cc := cX2_renew) (maxL := 5) (ret := (some .int)) (by decide) rfl (Nat.le_of_ble_eq_true rfl) ?_
  intro p e s m below meth c A ls hx hb hr hlocks hts hown hml hA hS hP hK hD hl
  have hown : s.vm.findClass RX2 = some m.cls := hown
  have hl : lv_has ls 5 [(0, .ref q_t), (1, .int p0), (2, .int p1)] := hl
  have hf_50 := hts (.fieldLink RX2 50 "MajorityIndex$Tree" "nodes" "I") (List.mem_of_getElem? (i := 1) rfl)
  have hi_2 : ∀ w ∈ u_ws RX2 TX2 11, w ∈ wsX2_renew := fun w h => List.mem_cons_of_mem _ (List.mem_append_left _ (List.mem_append_left _ (List.mem_append_right _ h)))
  have hf_18 := hts (.fieldLink RX2 18 "MajorityIndex$Tree" "from" "[I") (List.mem_of_getElem? (i := 2) rfl)
  have hf_22 := hts (.fieldLink RX2 22 "MajorityIndex$Tree" "to" "[I") (List.mem_of_getElem? (i := 3) rfl)
  refine lv_iconst (v := 0) hx hb dX2_renew_0 (by decide) ?_
  refine lv_istore_n (lv' := [(3, .int 0), (0, .ref q_t), (1, .int p0), (2, .int p1)]) hx hb dX2_renew_1 rfl hl (by decide) rfl (fun ls hl => ?_)
  refine lv_aload_n hx hb dX2_renew_2 rfl (lv_at hl 1 rfl) ?_
  refine va_get (D := (dC, dI)) (ci := 2) (v := .int nodes) (C := RX2) (T := TX2) (N := 11) hx hb hts hi_2 hown hK hP 0 rfl rfl 9 (by decide) hf_50 (fun _ h9 => h9) rfl dX2_renew_3 ?_
  refine lv_iconst (v := 1) hx hb dX2_renew_6 (by decide) ?_
  refine lv_isub hx hb dX2_renew_7 ?_
  refine lv_topi (fun y_1 ey_1 => ?_)
  have i_1 : y_1.toInt = nodes.toInt - 1 := ki_sub ey_1 rfl rfl (om_113 b0) (om_114 c0)
  refine lv_istore (lv' := [(4, .int y_1), (3, .int 0), (0, .ref q_t), (1, .int p0), (2, .int p1)]) hx hb dX2_renew_8 hl (by decide) rfl (fun ls hl => ?_)
  have LP1 : ∀ (n : Nat) (oth : Int32) (i : Int32) (ks : Nat → Int32) (ko : Nat → Int32) (ke : Nat → Int32) (kv : Nat → Int32) (kn : Nat → Int32) (kj : Int32) (kl : Int32) (kb : Int32) (kjv : Nat → Int32) (kjn : Nat → Int32), (i.toInt < nodes.toInt) → (-1 ≤ i.toInt) → (mj_rn here.toNatClampNeg f ff ft fs fo fe uv un ks ko ke kv kn p0.toInt p1.toInt nodes.toInt (i.toInt + 1).toNat) → (sixes ks) → (i.toInt + 1).toNat < n → ∀ (H : Heap) (locs : List Loc), va_P (dC, dI) vwCl [kx_2 q_t q_row q_joined q_from q_to q_size q_lossOf q_lessBy q_value q_number nodes here, kx_0 q_row q_cell len, kx_a q_cell cyI 160 f, kx_a q_from cyI 319 ff, kx_a q_to cyI 319 ft, kx_a q_size cyI 319 ks, kx_a q_lossOf cyI 319 ko, kx_a q_lessBy cyI 319 ke, kx_a q_value cyI 1914 kv, kx_a q_number cyI 1914 kn, kx_3 q_joined j_v j_n kj kl kb, kx_a j_v cyI 12 kjv, kx_a j_n cyI 12 kjn] H → va_D A [kx_2 q_t q_row q_joined q_from q_to q_size q_lossOf q_lessBy q_value q_number nodes here, kx_0 q_row q_cell len, kx_a q_cell cyI 160 f, kx_a q_from cyI 319 ff, kx_a q_to cyI 319 ft, kx_a q_size cyI 319 ks, kx_a q_lossOf cyI 319 ko, kx_a q_lessBy cyI 319 ke, kx_a q_value cyI 1914 kv, kx_a q_number cyI 1914 kn, kx_3 q_joined j_v j_n kj kl kb, kx_a j_v cyI 12 kjv, kx_a j_n cyI 12 kjn] → va_S A s.heap H locs → ∀ (ls : Array Slot), lv_has ls 5 [(4, .int i), (3, .int oth), (0, .ref q_t), (1, .int p0), (2, .int p1)] → W p l e (headSpec wsX2_renew ({ frames := 4, cells := 0, slots := 0, locals := 180 })).room s m ([.ref q_t, .int p0, .int p1] : List Value).toArray below meth c H locs 0 0 (MQ below (va_Qi (fun (r : Int32) (u : (Nat → Int32) × (Nat → Int32) × (Nat → Int32) × (Nat → Int32) × (Nat → Int32) × Int32 × Int32 × Int32 × (Nat → Int32) × (Nat → Int32)) => sixes u.1 ∧ ∀ k : Nat, (k : Int) < nodes.toInt → mj_ok here.toNatClampNeg f ff ft u.1 u.2.1 u.2.2.1 u.2.2.2.1 u.2.2.2.2.1 k) (fun (u : (Nat → Int32) × (Nat → Int32) × (Nat → Int32) × (Nat → Int32) × (Nat → Int32) × Int32 × Int32 × Int32 × (Nat → Int32) × (Nat → Int32)) (t : State) => va_P (dC, dI) vwCl [kx_2 q_t q_row q_joined q_from q_to q_size q_lossOf q_lessBy q_value q_number nodes here, kx_0 q_row q_cell len, kx_a q_cell cyI 160 f, kx_a q_from cyI 319 ff, kx_a q_to cyI 319 ft, kx_a q_size cyI 319 u.1, kx_a q_lossOf cyI 319 u.2.1, kx_a q_lessBy cyI 319 u.2.2.1, kx_a q_value cyI 1914 u.2.2.2.1, kx_a q_number cyI 1914 u.2.2.2.2.1, kx_3 q_joined j_v j_n u.2.2.2.2.2.1 u.2.2.2.2.2.2.1 u.2.2.2.2.2.2.2.1, kx_a j_v cyI 12 u.2.2.2.2.2.2.2.2.1, kx_a j_n cyI 12 u.2.2.2.2.2.2.2.2.2] t.heap ∧ va_K (dC, dI) vwCl [(cyI, .int)] t ∧ va_D A [kx_2 q_t q_row q_joined q_from q_to q_size q_lossOf q_lessBy q_value q_number nodes here, kx_0 q_row q_cell len, kx_a q_cell cyI 160 f, kx_a q_from cyI 319 ff, kx_a q_to cyI 319 ft, kx_a q_size cyI 319 u.1, kx_a q_lossOf cyI 319 u.2.1, kx_a q_lessBy cyI 319 u.2.2.1, kx_a q_value cyI 1914 u.2.2.2.1, kx_a q_number cyI 1914 u.2.2.2.2.1, kx_3 q_joined j_v j_n u.2.2.2.2.2.1 u.2.2.2.2.2.2.1 u.2.2.2.2.2.2.2.1, kx_a j_v cyI 12 u.2.2.2.2.2.2.2.2.1, kx_a j_n cyI 12 u.2.2.2.2.2.2.2.2.2]) A) ([.ref q_t, .int p0, .int p1] : List Value).toArray s 0 0 A) (F0 m 10 ls []) := by
    intro n
    induction n with
    | zero => intro oth i ks ko ke kv kn kj kl kb kjv kjn LP1_h0 LP1_h1 LP1_h2 LP1_h3 hn; exact absurd hn (Nat.not_lt_zero _)
    | succ n ih1 =>
      intro oth i ks ko ke kv kn kj kl kb kjv kjn LP1_h0 LP1_h1 LP1_h2 LP1_h3 hn1 H locs hP hD hS ls hl
      refine lv_iload hx hb dX2_renew_10 (lv_at hl 0 rfl) ?_
      refine lv_if_lt (tgt := 67) hx hb dX2_renew_12 (by decide) (fun c_2 => ?_) (fun c_2 => ?_)
      · have i_2 : i.toInt < 0 := kc_lt c_2
        refine lv_iload_n hx hb dX2_renew_67 rfl (lv_at hl 1 rfl) ?_
        have hP9 := hP
        have hD9 := hD
        have hK9 := hK
        exact W.iret (v := oth) hx hb hr (hlocks := hlocks) (fun t ht hW => ⟨⟨oth, (ks, ko, ke, kv, kn, kj, kl, kb, kjv, kjn), rfl, ⟨LP1_h3, fun k hk => LP1_h2.1 k (by (try dsimp only); omega) hk⟩, by rw [ht]; exact hP9, va_K.moved hW.alike hK9, hD9⟩, hS.F ht⟩) hS.2.2 dX2_renew_68
      · have i_2 : 0 ≤ i.toInt := kc_nlt c_2
        have n_i := ki_nat i rfl (om_10 i_2)
        have n_h := ki_nat here rfl (om_51 k0)
        have hti := t0 i.toNatClampNeg (by omega)
        unfold okAt at hti
        refine lv_aload_n hx hb dX2_renew_15 rfl (lv_at hl 2 rfl) ?_
        refine va_get (D := (dC, dI)) (ci := 2) (v := .ref q_from) (C := RX2) (T := TX2) (N := 11) hx hb hts hi_2 hown hK hP 0 rfl rfl 2 (by decide) hf_18 (fun _ h9 => h9) rfl dX2_renew_16 ?_
        refine lv_iload hx hb dX2_renew_19 (lv_at hl 0 rfl) ?_
        refine va_iald hx hb hK hP 3 0 rfl rfl (ki_in (om_10 i_2) (om_115 c0 LP1_h0)) dX2_renew_21 ?_
        refine lv_topi (fun y_3 ey_3 => ?_)
        have j_3 : y_3.toInt = (ff i.toNatClampNeg).toInt := congrArg Int32.toInt ey_3
        refine lv_iload_n hx hb dX2_renew_22 rfl (lv_at hl 4 rfl) ?_
        refine lv_icmp_ge (tgt := 61) hx hb dX2_renew_23 (by decide) (fun c_4 => ?_) (fun c_4 => ?_)
        · have i_4 : p1.toInt ≤ y_3.toInt := kc_le c_4
          obtain ⟨x_5, ex_5⟩ : ∃ y : Int32, y = i + (-1) := ⟨_, rfl⟩
          have i_5 : x_5.toInt = i.toInt + (-1) := ki_add ex_5 rfl rfl (om_116 i_2) (om_117 c0 LP1_h0)
          refine lv_iinc (v := x_5) (lv' := [(4, .int x_5), (3, .int oth), (0, .ref q_t), (1, .int p0), (2, .int p1)]) hx hb dX2_renew_61 hl (k := 0) rfl (by rw [ex_5]; rfl) (by decide) rfl (fun ls hl => ?_)
          refine lv_goto (tgt := 10) hx hb dX2_renew_64 (by decide) ?_
          exact ih1 oth x_5 ks ko ke kv kn kj kl kb kjv kjn (om_118 LP1_h0 i_5) (om_119 i_2 i_5) (by rw [show (x_5.toInt + 1).toNat = i.toNatClampNeg by omega]; exact mj_rn_skip LP1_h2 t0 hOld (by omega) (by omega) (fun h => by unfold mj_hit at h; omega)) LP1_h3 (om_mu hn1 (om_120 i_5) (om_121 i_2)) _ _ hP hD hS ls (lv_sub hl [0, 1, 2, 3, 4] rfl)
        · have i_4 : y_3.toInt < p1.toInt := kc_nle c_4
          refine lv_iload_n hx hb dX2_renew_26 rfl (lv_at hl 3 rfl) ?_
          refine lv_aload_n hx hb dX2_renew_27 rfl (lv_at hl 2 rfl) ?_
          refine va_get (D := (dC, dI)) (ci := 2) (v := .ref q_to) (C := RX2) (T := TX2) (N := 11) hx hb hts hi_2 hown hK hP 0 rfl rfl 3 (by decide) hf_22 (fun _ h9 => h9) rfl dX2_renew_28 ?_
          refine lv_iload hx hb dX2_renew_31 (lv_at hl 0 rfl) ?_
          refine va_iald hx hb hK hP 4 0 rfl rfl (ki_in (om_10 i_2) (om_115 c0 LP1_h0)) dX2_renew_33 ?_
          refine lv_topi (fun y_6 ey_6 => ?_)
          have j_6 : y_6.toInt = (ft i.toNatClampNeg).toInt := congrArg Int32.toInt ey_6
          refine lv_icmp_ge (tgt := 61) hx hb dX2_renew_34 (by decide) (fun c_7 => ?_) (fun c_7 => ?_)
          · have i_7 : y_6.toInt ≤ p0.toInt := kc_le c_7
            obtain ⟨x_8, ex_8⟩ : ∃ y : Int32, y = i + (-1) := ⟨_, rfl⟩
            have i_8 : x_8.toInt = i.toInt + (-1) := ki_add ex_8 rfl rfl (om_116 i_2) (om_117 c0 LP1_h0)
            refine lv_iinc (v := x_8) (lv' := [(4, .int x_8), (3, .int oth), (0, .ref q_t), (1, .int p0), (2, .int p1)]) hx hb dX2_renew_61 hl (k := 0) rfl (by rw [ex_8]; rfl) (by decide) rfl (fun ls hl => ?_)
            refine lv_goto (tgt := 10) hx hb dX2_renew_64 (by decide) ?_
            exact ih1 oth x_8 ks ko ke kv kn kj kl kb kjv kjn (om_118 LP1_h0 i_8) (om_119 i_2 i_8) (by rw [show (x_8.toInt + 1).toNat = i.toNatClampNeg by omega]; exact mj_rn_skip LP1_h2 t0 hOld (by omega) (by omega) (fun h => by unfold mj_hit at h; omega)) LP1_h3 (om_mu hn1 (om_120 i_8) (om_121 i_2)) _ _ hP hD hS ls (lv_sub hl [0, 1, 2, 3, 4] rfl)
          · have i_7 : p0.toInt < y_6.toInt := kc_nle c_7
            have hch := mj_ch_of (K := here.toNatClampNeg) (f := f) (fs := ks) (fo := ko) (fe := ke) (uv := kv) (un := kn) t0 hcr (k := i.toNatClampNeg) (by omega) (fun j h1 h2 => LP1_h2.1 j (by omega) h2)
            refine lv_aload_n hx hb dX2_renew_37 rfl (lv_at hl 2 rfl) ?_
            refine lv_iload hx hb dX2_renew_38 (lv_at hl 0 rfl) ?_
            obtain ⟨hPc, hDc, hFc, hCc⟩ := kx_preM (wc := [kx_2 q_t q_row q_joined q_from q_to q_size q_lossOf q_lessBy q_value q_number nodes here, kx_0 q_row q_cell len, kx_a q_cell cyI 160 f, kx_a q_from cyI 319 ff, kx_a q_to cyI 319 ft, kx_a q_size cyI 319 ks, kx_a q_lossOf cyI 319 ko, kx_a q_value cyI 1914 kv, kx_a q_number cyI 1914 kn, kx_3 q_joined j_v j_n kj kl kb, kx_a j_v cyI 12 kjv, kx_a j_n cyI 12 kjn]) hP hD hS hA [true, true, true, true, true, true, true, false, true, true, true, true, true] rfl
            have hKc := hK
            refine va_callv (va_runV (As := [.int i]) (rest := []) ⟨hx, hb, hml, hown, hts⟩ (kx_un (c_X2_putTogether_x l dC dI q_t q_row q_joined q_from q_to q_size q_lossOf q_lessBy q_value q_number nodes here q_cell cyI len f ff ft ks ko kv kn ke j_v j_n kj kl kb kjv kjn i H.size i_2 LP1_h0 c0 c1 t0 k0 k1 hch)) (cwV 1 hts gX2_renew_X2_putTogether rfl rfl rfl (by decide +kernel) ⟨Nat.le_of_ble_eq_true rfl, Nat.le_of_ble_eq_true rfl⟩) ⟨fun a U g mk q => by obtain ⟨q0, q1, qP, qK, qD⟩ := q; exact ⟨q0, q1, qP, va_K.moved (u := U) (U := U.calling g mk a) (Vm.Alike.refl U.vm) qK, qD⟩, kx_rc2 hKc hPc (q0 := 0) rfl, fun U hU hW => ⟨rfl, by rw [hU], by rw [hU]; exact hPc, va_K.moved hW.alike hKc, hDc.weaken (fun _ _ _ _ => trivial)⟩⟩ rfl rfl hl.1 rfl (lv_room (Nat.le_of_ble_eq_true rfl)) dX2_renew_40 ⟨Nat.le_of_ble_eq_true rfl, Nat.le_of_ble_eq_true rfl⟩) hS (fun q _ h => hFc q h) hFc (fun u t H1 locs ht hvm w_9 hB hz1 hk1 hS => ?_)
            obtain ⟨o_10, o_11, o_12, o_13, o_14, o_15⟩ := u
            dsimp only at w_9 hB
            obtain ⟨hP1, hK1, hD1⟩ := hB
            rw [ht] at hP1
            have hK1 := va_K.moved hvm.symm hK1
            obtain ⟨hP, hD⟩ := kx_joinM (w2 := [kx_2 q_t q_row q_joined q_from q_to q_size q_lossOf q_lessBy q_value q_number nodes here, kx_0 q_row q_cell len, kx_a q_cell cyI 160 f, kx_a q_from cyI 319 ff, kx_a q_to cyI 319 ft, kx_a q_size cyI 319 ks, kx_a q_lossOf cyI 319 ko, kx_a q_lessBy cyI 319 ke, kx_a q_value cyI 1914 kv, kx_a q_number cyI 1914 kn, kx_3 q_joined j_v j_n o_10 o_11 o_12, kx_a j_v cyI 12 o_13, kx_a j_n cyI 12 o_14]) hP hD hP1 hD1 hk1 hFc [true, true, true, true, true, true, true, false, true, true, true, true, true] hCc rfl
            clear hP1 hD1 hK1 hk1 hz1 hFc hDc hPc hKc hCc
            generalize H1 = H at hP hS ⊢
            have w_9 : mj_jn here.toNatClampNeg f ff ft ks ko ke kv kn i.toNatClampNeg o_15 o_11 o_12 ∧ mj_vs o_13 o_14 0 o_10.toNatClampNeg o_15 ∧ mj_srt o_13 o_14 0 o_10.toNatClampNeg ∧ 0 ≤ o_10.toInt ∧ o_10.toInt ≤ here.toInt := w_9
            refine lv_aload_n hx hb dX2_renew_43 rfl (lv_at hl 2 rfl) ?_
            refine lv_iload hx hb dX2_renew_44 (lv_at hl 0 rfl) ?_
            have hPc := kx_selP (ws' := [kx_2 q_t q_row q_joined q_from q_to q_size q_lossOf q_lessBy q_value q_number nodes here, kx_a q_size cyI 319 ks, kx_a q_lossOf cyI 319 ko, kx_a q_value cyI 1914 kv, kx_a q_number cyI 1914 kn, kx_3 q_joined j_v j_n o_10 o_11 o_12, kx_a j_v cyI 12 o_13, kx_a j_n cyI 12 o_14]) hP [true, false, false, false, false, true, true, false, true, true, true, true, true] rfl
            have hKc := hK
            refine vp_callSi (W.runV (As := [.int i]) (rest := []) ⟨hx, hb, hml, hown, hts⟩ (c_X2_isJoined_x l dC dI q_t q_row q_joined q_from q_to q_size q_lossOf q_lessBy q_value q_number nodes here cyI ks ko kv kn j_v j_n o_10 o_11 o_12 o_13 o_14 i i_2 (om_122 c0 LP1_h0) w_9.2.2.2.1 (om_346 k1 w_9.2.2.2.2)) (cwV 1 hts gX2_renew_X2_isJoined rfl rfl rfl (by decide +kernel) ⟨Nat.le_of_ble_eq_true rfl, Nat.le_of_ble_eq_true rfl⟩) ⟨fun a U g mk q => by obtain ⟨q0, qP, qK⟩ := q; exact ⟨q0, qP, va_K.moved (u := U) (U := U.calling g mk a) (Vm.Alike.refl U.vm) qK⟩, kx_rc2 hKc hPc (q0 := 0) rfl, fun U hU hW => ⟨rfl, by rw [hU]; exact hPc, va_K.moved hW.alike hKc⟩⟩ rfl rfl hl.1 rfl (lv_room (Nat.le_of_ble_eq_true rfl)) dX2_renew_46 ⟨Nat.le_of_ble_eq_true rfl, Nat.le_of_ble_eq_true rfl⟩) (fun r_16 w_16 => ?_)
            rcases w_16 with ⟨rfl, w_16⟩ | ⟨rfl, w_16⟩
            · have w_16 : mj_sj ks ko kv kn i.toNatClampNeg o_10 o_11 o_13 o_14 := w_16
              refine lv_if_ne (tgt := 55) hx hb dX2_renew_49 (by decide) (fun c_17 => ?_) (fun c_17 => ?_)
              · refine lv_aload_n hx hb dX2_renew_55 rfl (lv_at hl 2 rfl) ?_
                refine lv_iload hx hb dX2_renew_56 (lv_at hl 0 rfl) ?_
                obtain ⟨hPc, hDc, hFc, hCc⟩ := kx_preM (wc := [kx_2 q_t q_row q_joined q_from q_to q_size q_lossOf q_lessBy q_value q_number nodes here, kx_a q_size cyI 319 ks, kx_a q_lossOf cyI 319 ko, kx_a q_lessBy cyI 319 ke, kx_a q_value cyI 1914 kv, kx_a q_number cyI 1914 kn, kx_3 q_joined j_v j_n o_10 o_11 o_12, kx_a j_v cyI 12 o_13, kx_a j_n cyI 12 o_14]) hP hD hS hA [true, false, false, false, false, true, true, true, true, true, true, true, true] rfl
                have hKc := hK
                refine va_callv (va_runV (As := [.int i]) (rest := []) ⟨hx, hb, hml, hown, hts⟩ (kx_un (c_X2_keepJoined_x l dC dI q_t q_row q_joined q_from q_to q_size q_lossOf q_lessBy q_value q_number nodes here cyI ks ko kv kn ke j_v j_n o_10 o_11 o_12 o_13 o_14 i H.size i_2 (om_122 c0 LP1_h0) w_9.2.2.2.1 (om_346 k1 w_9.2.2.2.2))) (cwV 1 hts gX2_renew_X2_keepJoined rfl rfl rfl (by decide +kernel) ⟨Nat.le_of_ble_eq_true rfl, Nat.le_of_ble_eq_true rfl⟩) ⟨fun a U g mk q => by obtain ⟨q0, q1, qP, qK, qD⟩ := q; exact ⟨q0, q1, qP, va_K.moved (u := U) (U := U.calling g mk a) (Vm.Alike.refl U.vm) qK, qD⟩, kx_rc2 hKc hPc (q0 := 0) rfl, fun U hU hW => ⟨rfl, by rw [hU], by rw [hU]; exact hPc, va_K.moved hW.alike hKc, hDc.weaken (fun _ _ _ _ => trivial)⟩⟩ rfl rfl hl.1 rfl (lv_room (Nat.le_of_ble_eq_true rfl)) dX2_renew_58 ⟨Nat.le_of_ble_eq_true rfl, Nat.le_of_ble_eq_true rfl⟩) hS (fun q _ h => hFc q h) hFc (fun u t H1 locs ht hvm w_18 hB hz1 hk1 hS => ?_)
                obtain ⟨o_19, o_20, o_21, o_22, o_23⟩ := u
                dsimp only at w_18 hB
                obtain ⟨hP1, hK1, hD1⟩ := hB
                rw [ht] at hP1
                have hK1 := va_K.moved hvm.symm hK1
                obtain ⟨hP, hD⟩ := kx_joinM (w2 := [kx_2 q_t q_row q_joined q_from q_to q_size q_lossOf q_lessBy q_value q_number nodes here, kx_0 q_row q_cell len, kx_a q_cell cyI 160 f, kx_a q_from cyI 319 ff, kx_a q_to cyI 319 ft, kx_a q_size cyI 319 o_19, kx_a q_lossOf cyI 319 o_20, kx_a q_lessBy cyI 319 o_21, kx_a q_value cyI 1914 o_22, kx_a q_number cyI 1914 o_23, kx_3 q_joined j_v j_n o_10 o_11 o_12, kx_a j_v cyI 12 o_13, kx_a j_n cyI 12 o_14]) hP hD hP1 hD1 hk1 hFc [true, false, false, false, false, true, true, true, true, true, true, true, true] hCc rfl
                clear hP1 hD1 hK1 hk1 hz1 hFc hDc hPc hKc hCc
                generalize H1 = H at hP hS ⊢
                have w_18 : o_19 = upd ks i.toNatClampNeg o_10 ∧ o_20 = upd ko i.toNatClampNeg o_11 ∧ o_21 = upd ke i.toNatClampNeg o_12 ∧ mj_kp o_13 o_14 kv kn o_22 o_23 i.toNatClampNeg o_10.toNatClampNeg := w_18
                obtain ⟨x_24, ex_24⟩ : ∃ y : Int32, y = i + (-1) := ⟨_, rfl⟩
                have i_24 : x_24.toInt = i.toInt + (-1) := ki_add ex_24 rfl rfl (om_116 i_2) (om_117 c0 LP1_h0)
                refine lv_iinc (v := x_24) (lv' := [(4, .int x_24), (3, .int oth), (0, .ref q_t), (1, .int p0), (2, .int p1)]) hx hb dX2_renew_61 hl (k := 0) rfl (by rw [ex_24]; rfl) (by decide) rfl (fun ls hl => ?_)
                refine lv_goto (tgt := 10) hx hb dX2_renew_64 (by decide) ?_
                have okk := mj_jn_ok w_9.1 (by omega) (by omega) w_9.2.1 w_9.2.2.1 (by omega) (by omega) (by omega) w_18.1 w_18.2.1 w_18.2.2.1 w_18.2.2.2.1 w_18.2.2.2.2
                exact ih1 oth x_24 o_19 o_20 o_21 o_22 o_23 o_10 o_11 o_12 o_13 o_14 (om_118 LP1_h0 i_24) (om_119 i_2 i_24) (by rw [show (x_24.toInt + 1).toNat = i.toNatClampNeg by omega]; exact mj_rn_put LP1_h2 (by omega) (by unfold mj_hit; omega) okk w_18.1 w_18.2.1 w_18.2.2.1 w_18.2.2.2.2) (by rw [w_18.1]; exact sixes_upd LP1_h3 (by omega) (by omega)) (om_mu hn1 (om_120 i_24) (om_121 i_2)) _ _ hP hD hS ls (lv_sub hl [0, 1, 2, 3, 4] rfl)
              · exact absurd c_17 (by decide)
            · have w_16 : ¬ mj_sj ks ko kv kn i.toNatClampNeg o_10 o_11 o_13 o_14 := w_16
              refine lv_if_ne (tgt := 55) hx hb dX2_renew_49 (by decide) (fun c_25 => ?_) (fun c_25 => ?_)
              · exact absurd c_25 (by decide)
              · obtain ⟨x_26, ex_26⟩ : ∃ y : Int32, y = oth + 1 := ⟨_, rfl⟩
                refine lv_iinc (v := x_26) (lv' := [(3, .int x_26), (4, .int i), (0, .ref q_t), (1, .int p0), (2, .int p1)]) hx hb dX2_renew_52 hl (k := 1) rfl (by rw [ex_26]; rfl) (by decide) rfl (fun ls hl => ?_)
                refine lv_aload_n hx hb dX2_renew_55 rfl (lv_at hl 2 rfl) ?_
                refine lv_iload hx hb dX2_renew_56 (lv_at hl 1 rfl) ?_
                obtain ⟨hPc, hDc, hFc, hCc⟩ := kx_preM (wc := [kx_2 q_t q_row q_joined q_from q_to q_size q_lossOf q_lessBy q_value q_number nodes here, kx_a q_size cyI 319 ks, kx_a q_lossOf cyI 319 ko, kx_a q_lessBy cyI 319 ke, kx_a q_value cyI 1914 kv, kx_a q_number cyI 1914 kn, kx_3 q_joined j_v j_n o_10 o_11 o_12, kx_a j_v cyI 12 o_13, kx_a j_n cyI 12 o_14]) hP hD hS hA [true, false, false, false, false, true, true, true, true, true, true, true, true] rfl
                have hKc := hK
                refine va_callv (va_runV (As := [.int i]) (rest := []) ⟨hx, hb, hml, hown, hts⟩ (kx_un (c_X2_keepJoined_x l dC dI q_t q_row q_joined q_from q_to q_size q_lossOf q_lessBy q_value q_number nodes here cyI ks ko kv kn ke j_v j_n o_10 o_11 o_12 o_13 o_14 i H.size i_2 (om_122 c0 LP1_h0) w_9.2.2.2.1 (om_346 k1 w_9.2.2.2.2))) (cwV 1 hts gX2_renew_X2_keepJoined rfl rfl rfl (by decide +kernel) ⟨Nat.le_of_ble_eq_true rfl, Nat.le_of_ble_eq_true rfl⟩) ⟨fun a U g mk q => by obtain ⟨q0, q1, qP, qK, qD⟩ := q; exact ⟨q0, q1, qP, va_K.moved (u := U) (U := U.calling g mk a) (Vm.Alike.refl U.vm) qK, qD⟩, kx_rc2 hKc hPc (q0 := 0) rfl, fun U hU hW => ⟨rfl, by rw [hU], by rw [hU]; exact hPc, va_K.moved hW.alike hKc, hDc.weaken (fun _ _ _ _ => trivial)⟩⟩ rfl rfl hl.1 rfl (lv_room (Nat.le_of_ble_eq_true rfl)) dX2_renew_58 ⟨Nat.le_of_ble_eq_true rfl, Nat.le_of_ble_eq_true rfl⟩) hS (fun q _ h => hFc q h) hFc (fun u t H1 locs ht hvm w_27 hB hz1 hk1 hS => ?_)
                obtain ⟨o_28, o_29, o_30, o_31, o_32⟩ := u
                dsimp only at w_27 hB
                obtain ⟨hP1, hK1, hD1⟩ := hB
                rw [ht] at hP1
                have hK1 := va_K.moved hvm.symm hK1
                obtain ⟨hP, hD⟩ := kx_joinM (w2 := [kx_2 q_t q_row q_joined q_from q_to q_size q_lossOf q_lessBy q_value q_number nodes here, kx_0 q_row q_cell len, kx_a q_cell cyI 160 f, kx_a q_from cyI 319 ff, kx_a q_to cyI 319 ft, kx_a q_size cyI 319 o_28, kx_a q_lossOf cyI 319 o_29, kx_a q_lessBy cyI 319 o_30, kx_a q_value cyI 1914 o_31, kx_a q_number cyI 1914 o_32, kx_3 q_joined j_v j_n o_10 o_11 o_12, kx_a j_v cyI 12 o_13, kx_a j_n cyI 12 o_14]) hP hD hP1 hD1 hk1 hFc [true, false, false, false, false, true, true, true, true, true, true, true, true] hCc rfl
                clear hP1 hD1 hK1 hk1 hz1 hFc hDc hPc hKc hCc
                generalize H1 = H at hP hS ⊢
                have w_27 : o_28 = upd ks i.toNatClampNeg o_10 ∧ o_29 = upd ko i.toNatClampNeg o_11 ∧ o_30 = upd ke i.toNatClampNeg o_12 ∧ mj_kp o_13 o_14 kv kn o_31 o_32 i.toNatClampNeg o_10.toNatClampNeg := w_27
                obtain ⟨x_33, ex_33⟩ : ∃ y : Int32, y = i + (-1) := ⟨_, rfl⟩
                have i_33 : x_33.toInt = i.toInt + (-1) := ki_add ex_33 rfl rfl (om_116 i_2) (om_117 c0 LP1_h0)
                refine lv_iinc (v := x_33) (lv' := [(4, .int x_33), (3, .int x_26), (0, .ref q_t), (1, .int p0), (2, .int p1)]) hx hb dX2_renew_61 hl (k := 1) rfl (by rw [ex_33]; rfl) (by decide) rfl (fun ls hl => ?_)
                refine lv_goto (tgt := 10) hx hb dX2_renew_64 (by decide) ?_
                have okk := mj_jn_ok w_9.1 (by omega) (by omega) w_9.2.1 w_9.2.2.1 (by omega) (by omega) (by omega) w_27.1 w_27.2.1 w_27.2.2.1 w_27.2.2.2.1 w_27.2.2.2.2
                exact ih1 x_26 x_33 o_28 o_29 o_30 o_31 o_32 o_10 o_11 o_12 o_13 o_14 (om_118 LP1_h0 i_33) (om_119 i_2 i_33) (by rw [show (x_33.toInt + 1).toNat = i.toNatClampNeg by omega]; exact mj_rn_put LP1_h2 (by omega) (by unfold mj_hit; omega) okk w_27.1 w_27.2.1 w_27.2.2.1 w_27.2.2.2.2) (by rw [w_27.1]; exact sixes_upd LP1_h3 (by omega) (by omega)) (om_mu hn1 (om_120 i_33) (om_121 i_2)) _ _ hP hD hS ls (lv_sub hl [0, 1, 2, 3, 4] rfl)
  have k_34 : (0 : Int32).toInt = 0 := rfl
  exact LP1 ((y_1.toInt + 1 : Int).toNat + 1) 0 y_1 fs fo fe uv un js jl je jv jn (om_123 i_1) (om_124 b0 i_1) (mj_rn_0 _ _ _ _ _ _ _ _ _ _ _ (by omega)) s0 (Nat.lt_succ_self _) _ _ hP hD hS ls (lv_sub hl [0, 1, 2, 3, 4] rfl)

set_option maxHeartbeats 4000000 in
set_option maxRecDepth 100000 in
theorem c_X2_layRanges_x (l : Launch) (dC : Nat → ClassId) (dI : Nat → Nat → Nat) (q_t : Nat) (q_row : Nat) (q_joined : Nat) (q_from : Nat) (q_to : Nat) (q_size : Nat) (q_lossOf : Nat) (q_lessBy : Nat) (q_value : Nat) (q_number : Nat) (nodes : Int32) (here : Int32) (q_cell : Nat) (cyI : ClassId) (len : Int32) (ff : Nat → Int32) (ft : Nat → Int32) (sz : Nat) (a0 : 0 ≤ len.toInt) (a1 : len.toInt ≤ 160) : kx_MQ l (dC, dI) yX2_layRanges wsX2_layRanges ({ frames := 2, cells := 0, slots := 0, locals := 90 }) [.ref q_t] [kx_2 q_t q_row q_joined q_from q_to q_size q_lossOf q_lessBy q_value q_number nodes here, kx_0 q_row q_cell len, kx_a q_from cyI 319 ff, kx_a q_to cyI 319 ft] [(cyI, .int)] sz (fun A => va_Qv (fun u : Int32 × (Nat → Int32) × (Nat → Int32) => ((len.toInt = 0 ∧ u.1.toInt = 0) ∨ (0 < len.toInt ∧ u.1.toInt = 2 * len.toInt - 1)) ∧ treeOk u.2.1 u.2.2 u.1.toInt len.toInt ∧ mj_cr u.2.1 u.2.2 u.1.toInt ∧ mj_rt u.2.1 u.2.2 len.toInt) (fun (u : Int32 × (Nat → Int32) × (Nat → Int32)) (t : State) => va_P (dC, dI) vwCl [kx_2 q_t q_row q_joined q_from q_to q_size q_lossOf q_lessBy q_value q_number u.1 here, kx_0 q_row q_cell len, kx_a q_from cyI 319 u.2.1, kx_a q_to cyI 319 u.2.2] t.heap ∧ va_K (dC, dI) vwCl [(cyI, .int)] t ∧ va_D A [kx_2 q_t q_row q_joined q_from q_to q_size q_lossOf q_lessBy q_value q_number u.1 here, kx_0 q_row q_cell len, kx_a q_from cyI 319 u.2.1, kx_a q_to cyI 319 u.2.2]) A) := by
  refine kx_stQ (ws := wsX2_layRanges) (cc := cX2_layRanges) (maxL := 2) (ret := none) (by decide) rfl (Nat.le_of_ble_eq_true rfl) ?_
  intro p e s m below meth c A ls hx hb hr hlocks hts hown hml hA hS hP hK hD hl
  have hown : s.vm.findClass RX2 = some m.cls := hown
  have hl : lv_has ls 2 [(0, .ref q_t)] := hl
  have hf_40 := hts (.fieldLink RX2 40 "MajorityIndex$Tree" "row" "LMajorityIndex$Row;") (List.mem_of_getElem? (i := 1) rfl)
  have hi_2 : ∀ w ∈ u_ws RX2 TX2 11, w ∈ wsX2_layRanges := fun w h => List.mem_cons_of_mem _ (List.mem_append_left _ (List.mem_append_right _ h))
  have hf_44 := hts (.fieldLink RX2 44 "MajorityIndex$Row" "length" "I") (List.mem_of_getElem? (i := 2) rfl)
  have hi_0 : ∀ w ∈ u_ws RX0 TX0 2, w ∈ wsX2_layRanges := fun w h => List.mem_cons_of_mem _ (List.mem_append_right _ h)
  have hf_50 := hts (.fieldLink RX2 50 "MajorityIndex$Tree" "nodes" "I") (List.mem_of_getElem? (i := 3) rfl)
  have hf_18 := hts (.fieldLink RX2 18 "MajorityIndex$Tree" "from" "[I") (List.mem_of_getElem? (i := 4) rfl)
  have hf_22 := hts (.fieldLink RX2 22 "MajorityIndex$Tree" "to" "[I") (List.mem_of_getElem? (i := 5) rfl)
  refine lv_aload_n hx hb dX2_layRanges_0 rfl (lv_at hl 0 rfl) ?_
  refine lv_aload_n hx hb dX2_layRanges_1 rfl (lv_at hl 0 rfl) ?_
  refine va_get (D := (dC, dI)) (ci := 2) (v := .ref q_row) (C := RX2) (T := TX2) (N := 11) hx hb hts hi_2 hown hK hP 0 rfl rfl 0 (by decide) hf_40 (fun _ h9 => h9) rfl dX2_layRanges_2 ?_
  refine va_get (D := (dC, dI)) (ci := 0) (v := .int len) (C := RX0) (T := TX0) (N := 2) hx hb hts hi_0 hown hK hP 1 rfl rfl 1 (by decide) hf_44 (fun _ h9 => h9) rfl dX2_layRanges_5 ?_
  refine lv_if_ne (tgt := 15) hx hb dX2_layRanges_8 (by decide) (fun c_1 => ?_) (fun c_1 => ?_)
  · have i_1 : ¬ len.toInt = 0 := kc_ne c_1
    refine lv_iconst (v := 2) hx hb dX2_layRanges_15 (by decide) ?_
    refine lv_aload_n hx hb dX2_layRanges_16 rfl (lv_at hl 0 rfl) ?_
    refine va_get (D := (dC, dI)) (ci := 2) (v := .ref q_row) (C := RX2) (T := TX2) (N := 11) hx hb hts hi_2 hown hK hP 0 rfl rfl 0 (by decide) hf_40 (fun _ h9 => h9) rfl dX2_layRanges_17 ?_
    refine va_get (D := (dC, dI)) (ci := 0) (v := .int len) (C := RX0) (T := TX0) (N := 2) hx hb hts hi_0 hown hK hP 1 rfl rfl 1 (by decide) hf_44 (fun _ h9 => h9) rfl dX2_layRanges_20 ?_
    refine lv_imul hx hb dX2_layRanges_23 ?_
    refine lv_topi (fun y_2 ey_2 => ?_)
    have i_2 : y_2.toInt = 2 * len.toInt := ki_mul ey_2 rfl rfl (om_75 a0) (om_76 a1)
    refine lv_iconst (v := 1) hx hb dX2_layRanges_24 (by decide) ?_
    refine lv_isub hx hb dX2_layRanges_25 ?_
    refine lv_topi (fun y_3 ey_3 => ?_)
    have i_3 : y_3.toInt = y_2.toInt - 1 := ki_sub ey_3 rfl rfl (om_77 a0 i_2) (om_78 a1 i_2)
    refine va_put (D := (dC, dI)) (ci := 2) (v := .int y_3) (ty := .int) (C := RX2) (T := TX2) (N := 11) hx hb hts hi_2 tyX2 tyX2_ok nmX2 hown hK hP hD hS 0 rfl rfl 9 (by decide) hf_50 (fun _ h9 => h9) rfl (by decide +kernel) rfl rfl (Nat.le_of_ble_eq_true rfl) dX2_layRanges_26 (fun H locs hP hD hS => ?_)
    obtain ⟨hP, hD⟩ := kx_re (w2 := [kx_2 q_t q_row q_joined q_from q_to q_size q_lossOf q_lessBy q_value q_number y_3 here, kx_0 q_row q_cell len, kx_a q_from cyI 319 ff, kx_a q_to cyI 319 ft]) hP hD rfl
    refine lv_aload_n hx hb dX2_layRanges_29 rfl (lv_at hl 0 rfl) ?_
    refine va_get (D := (dC, dI)) (ci := 2) (v := .ref q_from) (C := RX2) (T := TX2) (N := 11) hx hb hts hi_2 hown hK hP 0 rfl rfl 2 (by decide) hf_18 (fun _ h9 => h9) rfl dX2_layRanges_30 ?_
    refine lv_iconst (v := 0) hx hb dX2_layRanges_33 (by decide) ?_
    refine lv_iconst (v := 0) hx hb dX2_layRanges_34 (by decide) ?_
    refine va_iast hx hb hK hP hD hS 2 0 rfl rfl (ki_inl (by decide)) dX2_layRanges_35 (fun H locs hP hD hS => ?_)
    obtain ⟨hP, hD⟩ := kx_re (w2 := [kx_2 q_t q_row q_joined q_from q_to q_size q_lossOf q_lessBy q_value q_number y_3 here, kx_0 q_row q_cell len, kx_a q_from cyI 319 (upd ff (0 : Int32).toNatClampNeg 0), kx_a q_to cyI 319 ft]) hP hD rfl
    refine lv_aload_n hx hb dX2_layRanges_36 rfl (lv_at hl 0 rfl) ?_
    refine va_get (D := (dC, dI)) (ci := 2) (v := .ref q_to) (C := RX2) (T := TX2) (N := 11) hx hb hts hi_2 hown hK hP 0 rfl rfl 3 (by decide) hf_22 (fun _ h9 => h9) rfl dX2_layRanges_37 ?_
    refine lv_iconst (v := 0) hx hb dX2_layRanges_40 (by decide) ?_
    refine lv_aload_n hx hb dX2_layRanges_41 rfl (lv_at hl 0 rfl) ?_
    refine va_get (D := (dC, dI)) (ci := 2) (v := .ref q_row) (C := RX2) (T := TX2) (N := 11) hx hb hts hi_2 hown hK hP 0 rfl rfl 0 (by decide) hf_40 (fun _ h9 => h9) rfl dX2_layRanges_42 ?_
    refine va_get (D := (dC, dI)) (ci := 0) (v := .int len) (C := RX0) (T := TX0) (N := 2) hx hb hts hi_0 hown hK hP 1 rfl rfl 1 (by decide) hf_44 (fun _ h9 => h9) rfl dX2_layRanges_45 ?_
    refine va_iast hx hb hK hP hD hS 3 0 rfl rfl (ki_inl (by decide)) dX2_layRanges_48 (fun H locs hP hD hS => ?_)
    obtain ⟨hP, hD⟩ := kx_re (w2 := [kx_2 q_t q_row q_joined q_from q_to q_size q_lossOf q_lessBy q_value q_number y_3 here, kx_0 q_row q_cell len, kx_a q_from cyI 319 (upd ff (0 : Int32).toNatClampNeg 0), kx_a q_to cyI 319 (upd ft (0 : Int32).toNatClampNeg len)]) hP hD rfl
    refine lv_iconst (v := 0) hx hb dX2_layRanges_49 (by decide) ?_
    refine lv_istore_n (lv' := [(1, .int 0), (0, .ref q_t)]) hx hb dX2_layRanges_50 rfl hl (by decide) rfl (fun ls hl => ?_)
    have hpd : ∃ cc : Nat, pend (upd ff (0 : Int32).toNatClampNeg 0) (upd ft (0 : Int32).toNatClampNeg len) y_3.toInt len.toInt cc (0 : Int32).toNatClampNeg := by
      have z0 : (0 : Int32).toNatClampNeg = 0 := rfl
      have z1 : (0 : Int32).toInt = 0 := rfl
      have u1 : upd ff 0 0 0 = 0 := by unfold upd; rw [if_pos rfl]
      have u2 : upd ft 0 len 0 = len := by unfold upd; rw [if_pos rfl]
      refine ⟨1, ⟨?_, ?_⟩⟩
      · unfold okAt; rw [z0, u1, u2, z1]; omega
      · show ((_ : Nat) : Int) = _; rw [z0, u1, u2, z1]; omega
    have LP1 : ∀ (n : Nat) (i : Int32) (gf : Nat → Int32) (gt : Nat → Int32), (0 ≤ i.toInt) → (∀ k : Nat, k < i.toNatClampNeg → okAt gf gt y_3.toInt len.toInt k) → (∃ cc : Nat, pend gf gt y_3.toInt len.toInt cc i.toNatClampNeg) → ((gf, gt) = mj_lit (upd ff (0 : Int32).toNatClampNeg 0) (upd ft (0 : Int32).toNatClampNeg len) 0 i.toNatClampNeg) → (i.toInt ≤ y_3.toInt) → (y_3.toInt - i.toInt).toNat < n → ∀ (H : Heap) (locs : List Loc), va_P (dC, dI) vwCl [kx_2 q_t q_row q_joined q_from q_to q_size q_lossOf q_lessBy q_value q_number y_3 here, kx_0 q_row q_cell len, kx_a q_from cyI 319 gf, kx_a q_to cyI 319 gt] H → va_D A [kx_2 q_t q_row q_joined q_from q_to q_size q_lossOf q_lessBy q_value q_number y_3 here, kx_0 q_row q_cell len, kx_a q_from cyI 319 gf, kx_a q_to cyI 319 gt] → va_S A s.heap H locs → ∀ (ls : Array Slot), lv_has ls 2 [(1, .int i), (0, .ref q_t)] → W p l e (headSpec wsX2_layRanges ({ frames := 2, cells := 0, slots := 0, locals := 90 })).room s m ([.ref q_t] : List Value).toArray below meth c H locs 0 0 (MQ below (va_Qv (fun u : Int32 × (Nat → Int32) × (Nat → Int32) => ((len.toInt = 0 ∧ u.1.toInt = 0) ∨ (0 < len.toInt ∧ u.1.toInt = 2 * len.toInt - 1)) ∧ treeOk u.2.1 u.2.2 u.1.toInt len.toInt ∧ mj_cr u.2.1 u.2.2 u.1.toInt ∧ mj_rt u.2.1 u.2.2 len.toInt) (fun (u : Int32 × (Nat → Int32) × (Nat → Int32)) (t : State) => va_P (dC, dI) vwCl [kx_2 q_t q_row q_joined q_from q_to q_size q_lossOf q_lessBy q_value q_number u.1 here, kx_0 q_row q_cell len, kx_a q_from cyI 319 u.2.1, kx_a q_to cyI 319 u.2.2] t.heap ∧ va_K (dC, dI) vwCl [(cyI, .int)] t ∧ va_D A [kx_2 q_t q_row q_joined q_from q_to q_size q_lossOf q_lessBy q_value q_number u.1 here, kx_0 q_row q_cell len, kx_a q_from cyI 319 u.2.1, kx_a q_to cyI 319 u.2.2]) A) ([.ref q_t] : List Value).toArray s 0 0 A) (F0 m 51 ls []) := by
      intro n
      induction n with
      | zero => intro i gf gt LP1_h0 LP1_h1 LP1_h2 LP1_h3 LP1_h4 hn; exact absurd hn (Nat.not_lt_zero _)
      | succ n ih1 =>
        intro i gf gt LP1_h0 LP1_h1 LP1_h2 LP1_h3 LP1_h4 hn1 H locs hP hD hS ls hl
        obtain ⟨cc, hcc⟩ := LP1_h2
        have n_i := ki_nat i rfl (by omega)
        refine lv_iload_n hx hb dX2_layRanges_51 rfl (lv_at hl 0 rfl) ?_
        refine lv_aload_n hx hb dX2_layRanges_52 rfl (lv_at hl 1 rfl) ?_
        refine va_get (D := (dC, dI)) (ci := 2) (v := .int y_3) (C := RX2) (T := TX2) (N := 11) hx hb hts hi_2 hown hK hP 0 rfl rfl 9 (by decide) hf_50 (fun _ h9 => h9) rfl dX2_layRanges_53 ?_
        refine lv_icmp_ge (tgt := 87) hx hb dX2_layRanges_56 (by decide) (fun c_4 => ?_) (fun c_4 => ?_)
        · have i_4 : y_3.toInt ≤ i.toInt := kc_le c_4
          have hP9 := hP
          have hD9 := hD
          have hK9 := hK
          have n_len := ki_nat len rfl (om_10 a0)
          have u1 : upd ff (0 : Int32).toNatClampNeg 0 0 = 0 := rfl
          have u2 : upd ft (0 : Int32).toNatClampNeg len 0 = len := rfl
          have hRO := mj_lit_R 8 0 0 len.toNatClampNeg (upd ff (0 : Int32).toNatClampNeg 0) (upd ft (0 : Int32).toNatClampNeg len) (by rw [u1]; rfl) (by rw [u2]; omega) (by omega) (by omega) (show len.toNatClampNeg - 0 ≤ 256 by omega)
          have n_i9 := ki_nat i rfl (by omega)
          rw [show 2 * (len.toNatClampNeg - 0) - 1 = i.toNatClampNeg by omega, ← LP1_h3] at hRO
          have hR := hRO.1
          have hO := hRO.2 0 (by omega)
          dsimp only at hO
          have k_z : (0 : Int32).toInt = 0 := rfl
          exact W.vret hx hb hr (hlocks := hlocks) (fun t ht hW => ⟨⟨(y_3, gf, gt), rfl, ⟨Or.inr ⟨by omega, by (try dsimp only); omega⟩, (fun k hk => LP1_h1 k (by (try dsimp only at hk); omega)), mj_R_cr hR (by omega) (by (try dsimp only); omega), fun _ => ⟨by (try dsimp only); rw [hO.1, u1]; exact k_z, by (try dsimp only); rw [hO.2, u2]⟩⟩, by rw [ht]; exact hP9, va_K.moved hW.alike hK9, hD9⟩, hS.F ht⟩) hS.2.2 dX2_layRanges_87
        · have i_4 : i.toInt < y_3.toInt := kc_nle c_4
          obtain ⟨c9, rfl⟩ : ∃ c9, cc = c9 + 1 := by
            cases cc with
            | zero => exact absurd (show (i.toNatClampNeg : Int) = _ from hcc) (by omega)
            | succ c => exact ⟨c, rfl⟩
          have hok := hcc.1
          unfold okAt at hok
          refine lv_aload_n hx hb dX2_layRanges_59 rfl (lv_at hl 1 rfl) ?_
          refine va_get (D := (dC, dI)) (ci := 2) (v := .ref q_to) (C := RX2) (T := TX2) (N := 11) hx hb hts hi_2 hown hK hP 0 rfl rfl 3 (by decide) hf_22 (fun _ h9 => h9) rfl dX2_layRanges_60 ?_
          refine lv_iload_n hx hb dX2_layRanges_63 rfl (lv_at hl 0 rfl) ?_
          refine va_iald hx hb hK hP 3 0 rfl rfl (ki_in (om_10 LP1_h0) (om_79 a1 i_2 i_3 i_4)) dX2_layRanges_64 ?_
          refine lv_topi (fun y_5 ey_5 => ?_)
          have j_5 : y_5.toInt = (gt i.toNatClampNeg).toInt := congrArg Int32.toInt ey_5
          refine lv_aload_n hx hb dX2_layRanges_65 rfl (lv_at hl 1 rfl) ?_
          refine va_get (D := (dC, dI)) (ci := 2) (v := .ref q_from) (C := RX2) (T := TX2) (N := 11) hx hb hts hi_2 hown hK hP 0 rfl rfl 2 (by decide) hf_18 (fun _ h9 => h9) rfl dX2_layRanges_66 ?_
          refine lv_iload_n hx hb dX2_layRanges_69 rfl (lv_at hl 0 rfl) ?_
          refine va_iald hx hb hK hP 2 0 rfl rfl (ki_in (om_10 LP1_h0) (om_79 a1 i_2 i_3 i_4)) dX2_layRanges_70 ?_
          refine lv_topi (fun y_6 ey_6 => ?_)
          have j_6 : y_6.toInt = (gf i.toNatClampNeg).toInt := congrArg Int32.toInt ey_6
          refine lv_isub hx hb dX2_layRanges_71 ?_
          refine lv_topi (fun y_7 ey_7 => ?_)
          have i_7 : y_7.toInt = y_5.toInt - y_6.toInt := ki_sub ey_7 rfl rfl (by omega) (by omega)
          refine lv_iconst (v := 1) hx hb dX2_layRanges_72 (by decide) ?_
          refine lv_icmp_le (tgt := 81) hx hb dX2_layRanges_73 (by decide) (fun c_8 => ?_) (fun c_8 => ?_)
          · have i_8 : y_7.toInt ≤ 1 := kc_le c_8
            obtain ⟨x_9, ex_9⟩ : ∃ y : Int32, y = i + 1 := ⟨_, rfl⟩
            have i_9 : x_9.toInt = i.toInt + 1 := ki_add ex_9 rfl rfl (om_13 LP1_h0) (om_504 a1 i_2 i_3 LP1_h4)
            refine lv_iinc (v := x_9) (lv' := [(1, .int x_9), (0, .ref q_t)]) hx hb dX2_layRanges_81 hl (k := 0) rfl (by rw [ex_9]; rfl) (by decide) rfl (fun ls hl => ?_)
            refine lv_goto (tgt := 51) hx hb dX2_layRanges_84 (by decide) ?_
            have n_x := ki_nat x_9 rfl (by omega)
            have q_x : x_9.toNatClampNeg = i.toNatClampNeg + 1 := by omega
            have q_l : mj_lit (upd ff (0 : Int32).toNatClampNeg 0) (upd ft (0 : Int32).toNatClampNeg len) 0 (i.toNatClampNeg + 1) = mj_l1 gf gt i.toNatClampNeg := by
              show mj_l1 (mj_lit _ _ 0 i.toNatClampNeg).1 (mj_lit _ _ 0 i.toNatClampNeg).2 (0 + i.toNatClampNeg) = _
              rw [← LP1_h3, Nat.zero_add]
            exact ih1 x_9 gf gt (om_34 LP1_h0 i_9) (fun k hk => (if h9 : k < i.toNatClampNeg then LP1_h1 k h9 else (by rw [show k = i.toNatClampNeg by omega]; exact hcc.1))) ⟨c9, by rw [q_x]; exact pend_leaf hcc (by omega)⟩ (by rw [q_x, q_l]; unfold mj_l1; rw [if_neg (by omega)]) (om_54 i_4 i_9) (om_mu hn1 (om_5 i_9) (om_6 i_4)) _ _ hP hD hS ls (lv_sub hl [0, 1] rfl)
          · have i_8 : 1 < y_7.toInt := kc_nle c_8
            refine lv_aload_n hx hb dX2_layRanges_76 rfl (lv_at hl 1 rfl) ?_
            refine lv_iload_n hx hb dX2_layRanges_77 rfl (lv_at hl 0 rfl) ?_
            obtain ⟨hPc, hDc, hFc, hCc⟩ := kx_preM (wc := [kx_2 q_t q_row q_joined q_from q_to q_size q_lossOf q_lessBy q_value q_number y_3 here, kx_a q_from cyI 319 gf, kx_a q_to cyI 319 gt]) hP hD hS hA [true, false, true, true] rfl
            have hKc := hK
            refine va_callv (va_runV (As := [.int i]) (rest := []) ⟨hx, hb, hml, hown, hts⟩ (kx_un (c_X2_layBelow l dC dI q_t q_row q_joined q_from q_to q_size q_lossOf q_lessBy q_value q_number y_3 here cyI gf gt i H.size LP1_h0 (om_81 a1 i_2 i_3 i_4) (by omega) (om_82 j_5 j_6 i_7 i_8) (by omega) (by omega))) (cwV 1 hts gX2_layRanges_X2_layBelow rfl rfl rfl (by decide +kernel) ⟨Nat.le_of_ble_eq_true rfl, Nat.le_of_ble_eq_true rfl⟩) ⟨fun a U g mk q => by obtain ⟨q0, q1, qP, qK, qD⟩ := q; exact ⟨q0, q1, qP, va_K.moved (u := U) (U := U.calling g mk a) (Vm.Alike.refl U.vm) qK, qD⟩, kx_rc2 hKc hPc (q0 := 0) rfl, fun U hU hW => ⟨rfl, by rw [hU], by rw [hU]; exact hPc, va_K.moved hW.alike hKc, hDc.weaken (fun _ _ _ _ => trivial)⟩⟩ rfl rfl hl.1 rfl (lv_room (Nat.le_of_ble_eq_true rfl)) dX2_layRanges_78 ⟨Nat.le_of_ble_eq_true rfl, Nat.le_of_ble_eq_true rfl⟩) hS (fun q _ h => hFc q h) hFc (fun u t H1 locs ht hvm w_10 hB hz1 hk1 hS => ?_)
            obtain ⟨o_11, o_12, o_13, o_14⟩ := u
            dsimp only at w_10 hB
            obtain ⟨hP1, hK1, hD1⟩ := hB
            rw [ht] at hP1
            have hK1 := va_K.moved hvm.symm hK1
            obtain ⟨hP, hD⟩ := kx_joinM (w2 := [kx_2 q_t q_row q_joined q_from q_to q_size q_lossOf q_lessBy q_value q_number y_3 here, kx_0 q_row q_cell len, kx_a q_from cyI 319 o_13, kx_a q_to cyI 319 o_14]) hP hD hP1 hD1 hk1 hFc [true, false, true, true] hCc rfl
            clear hP1 hD1 hK1 hk1 hz1 hFc hDc hPc hKc hCc
            generalize H1 = H at hP hS ⊢
            have w_10 : o_11.toInt = ((gf i.toNatClampNeg).toInt + (gt i.toNatClampNeg).toInt) / 2 ∧ o_12.toInt = i.toInt + 2 * (((gf i.toNatClampNeg).toInt + (gt i.toNatClampNeg).toInt) / 2 - (gf i.toNatClampNeg).toInt) ∧ o_13 = upd (upd gf (i.toNatClampNeg + 1) (gf i.toNatClampNeg)) o_12.toNatClampNeg o_11 ∧ o_14 = upd (upd gt (i.toNatClampNeg + 1) o_11) o_12.toNatClampNeg (gt i.toNatClampNeg) := w_10
            obtain ⟨x_15, ex_15⟩ : ∃ y : Int32, y = i + 1 := ⟨_, rfl⟩
            have i_15 : x_15.toInt = i.toInt + 1 := ki_add ex_15 rfl rfl (om_13 LP1_h0) (om_504 a1 i_2 i_3 LP1_h4)
            refine lv_iinc (v := x_15) (lv' := [(1, .int x_15), (0, .ref q_t)]) hx hb dX2_layRanges_81 hl (k := 0) rfl (by rw [ex_15]; rfl) (by decide) rfl (fun ls hl => ?_)
            refine lv_goto (tgt := 51) hx hb dX2_layRanges_84 (by decide) ?_
            have n_x := ki_nat x_15 rfl (by omega)
            have q_x : x_15.toNatClampNeg = i.toNatClampNeg + 1 := by omega
            have n_r := ki_nat o_12 rfl (by omega)
            have hsp := pend_split (r := o_12.toNatClampNeg) (md := o_11) hcc rfl rfl (by omega) (by omega) (by omega) w_10.2.2.1 w_10.2.2.2
            have q_l : mj_lit (upd ff (0 : Int32).toNatClampNeg 0) (upd ft (0 : Int32).toNatClampNeg len) 0 (i.toNatClampNeg + 1) = mj_l1 gf gt i.toNatClampNeg := by
              show mj_l1 (mj_lit _ _ 0 i.toNatClampNeg).1 (mj_lit _ _ 0 i.toNatClampNeg).2 (0 + i.toNatClampNeg) = _
              rw [← LP1_h3, Nat.zero_add]
            have q_m : o_11 = Int32.ofInt (((gf i.toNatClampNeg).toInt + (gt i.toNatClampNeg).toInt) / 2) := by rw [← w_10.1, Int32.ofInt_toInt]
            have q_r : o_12.toNatClampNeg = i.toNatClampNeg + 2 * (((gf i.toNatClampNeg).toInt + (gt i.toNatClampNeg).toInt) / 2 - (gf i.toNatClampNeg).toInt).toNat := by omega
            exact ih1 x_15 o_13 o_14 (om_34 LP1_h0 i_15) (fun k hk => hsp.2 k (by omega) (if h9 : k < i.toNatClampNeg then LP1_h1 k h9 else (by rw [show k = i.toNatClampNeg by omega]; exact hcc.1))) ⟨c9 + 2, by rw [q_x]; exact hsp.1⟩ (by rw [q_x, q_l, w_10.2.2.1, w_10.2.2.2, q_r, q_m]; unfold mj_l1; rw [if_pos (by omega)]) (om_54 i_4 i_15) (om_mu hn1 (om_5 i_15) (om_6 i_4)) _ _ hP hD hS ls (lv_sub hl [0, 1] rfl)
    have k_16 : (0 : Int32).toInt = 0 := rfl
    exact LP1 ((y_3.toInt - 0 : Int).toNat + 1) 0 (upd ff (0 : Int32).toNatClampNeg 0) (upd ft (0 : Int32).toNatClampNeg len) om_35 (fun k hk => absurd hk (Nat.not_lt_zero k)) hpd rfl (by omega) (Nat.lt_succ_self _) _ _ hP hD hS ls (lv_sub hl [0, 1] rfl)
  · have i_1 : len.toInt = 0 := kc_eq c_1
    refine lv_iconst (v := 0) hx hb dX2_layRanges_11 (by decide) ?_
    refine lv_goto (tgt := 26) hx hb dX2_layRanges_12 (by decide) ?_
    refine va_put (D := (dC, dI)) (ci := 2) (v := .int 0) (ty := .int) (C := RX2) (T := TX2) (N := 11) hx hb hts hi_2 tyX2 tyX2_ok nmX2 hown hK hP hD hS 0 rfl rfl 9 (by decide) hf_50 (fun _ h9 => h9) rfl (by decide +kernel) rfl rfl (Nat.le_of_ble_eq_true rfl) dX2_layRanges_26 (fun H locs hP hD hS => ?_)
    obtain ⟨hP, hD⟩ := kx_re (w2 := [kx_2 q_t q_row q_joined q_from q_to q_size q_lossOf q_lessBy q_value q_number 0 here, kx_0 q_row q_cell len, kx_a q_from cyI 319 ff, kx_a q_to cyI 319 ft]) hP hD rfl
    refine lv_aload_n hx hb dX2_layRanges_29 rfl (lv_at hl 0 rfl) ?_
    refine va_get (D := (dC, dI)) (ci := 2) (v := .ref q_from) (C := RX2) (T := TX2) (N := 11) hx hb hts hi_2 hown hK hP 0 rfl rfl 2 (by decide) hf_18 (fun _ h9 => h9) rfl dX2_layRanges_30 ?_
    refine lv_iconst (v := 0) hx hb dX2_layRanges_33 (by decide) ?_
    refine lv_iconst (v := 0) hx hb dX2_layRanges_34 (by decide) ?_
    refine va_iast hx hb hK hP hD hS 2 0 rfl rfl (ki_inl (by decide)) dX2_layRanges_35 (fun H locs hP hD hS => ?_)
    obtain ⟨hP, hD⟩ := kx_re (w2 := [kx_2 q_t q_row q_joined q_from q_to q_size q_lossOf q_lessBy q_value q_number 0 here, kx_0 q_row q_cell len, kx_a q_from cyI 319 (upd ff (0 : Int32).toNatClampNeg 0), kx_a q_to cyI 319 ft]) hP hD rfl
    refine lv_aload_n hx hb dX2_layRanges_36 rfl (lv_at hl 0 rfl) ?_
    refine va_get (D := (dC, dI)) (ci := 2) (v := .ref q_to) (C := RX2) (T := TX2) (N := 11) hx hb hts hi_2 hown hK hP 0 rfl rfl 3 (by decide) hf_22 (fun _ h9 => h9) rfl dX2_layRanges_37 ?_
    refine lv_iconst (v := 0) hx hb dX2_layRanges_40 (by decide) ?_
    refine lv_aload_n hx hb dX2_layRanges_41 rfl (lv_at hl 0 rfl) ?_
    refine va_get (D := (dC, dI)) (ci := 2) (v := .ref q_row) (C := RX2) (T := TX2) (N := 11) hx hb hts hi_2 hown hK hP 0 rfl rfl 0 (by decide) hf_40 (fun _ h9 => h9) rfl dX2_layRanges_42 ?_
    refine va_get (D := (dC, dI)) (ci := 0) (v := .int len) (C := RX0) (T := TX0) (N := 2) hx hb hts hi_0 hown hK hP 1 rfl rfl 1 (by decide) hf_44 (fun _ h9 => h9) rfl dX2_layRanges_45 ?_
    refine va_iast hx hb hK hP hD hS 3 0 rfl rfl (ki_inl (by decide)) dX2_layRanges_48 (fun H locs hP hD hS => ?_)
    obtain ⟨hP, hD⟩ := kx_re (w2 := [kx_2 q_t q_row q_joined q_from q_to q_size q_lossOf q_lessBy q_value q_number 0 here, kx_0 q_row q_cell len, kx_a q_from cyI 319 (upd ff (0 : Int32).toNatClampNeg 0), kx_a q_to cyI 319 (upd ft (0 : Int32).toNatClampNeg len)]) hP hD rfl
    refine lv_iconst (v := 0) hx hb dX2_layRanges_49 (by decide) ?_
    refine lv_istore_n (lv' := [(1, .int 0), (0, .ref q_t)]) hx hb dX2_layRanges_50 rfl hl (by decide) rfl (fun ls hl => ?_)
    refine lv_iload_n hx hb dX2_layRanges_51 rfl (lv_at hl 0 rfl) ?_
    refine lv_aload_n hx hb dX2_layRanges_52 rfl (lv_at hl 1 rfl) ?_
    refine va_get (D := (dC, dI)) (ci := 2) (v := .int 0) (C := RX2) (T := TX2) (N := 11) hx hb hts hi_2 hown hK hP 0 rfl rfl 9 (by decide) hf_50 (fun _ h9 => h9) rfl dX2_layRanges_53 ?_
    refine lv_icmp_ge (tgt := 87) hx hb dX2_layRanges_56 (by decide) (fun c_17 => ?_) (fun c_17 => ?_)
    · have hP9 := hP
      have hD9 := hD
      have hK9 := hK
      have k_z : (0 : Int32).toInt = 0 := rfl
      exact W.vret hx hb hr (hlocks := hlocks) (fun t ht hW => ⟨⟨(0, (upd ff (0 : Int32).toNatClampNeg 0), (upd ft (0 : Int32).toNatClampNeg len)), rfl, ⟨Or.inl ⟨by omega, rfl⟩, (fun k hk => absurd hk (by (try dsimp only); omega)), (fun k hk => absurd hk (by (try dsimp only); omega)), fun h => absurd h (by omega)⟩, by rw [ht]; exact hP9, va_K.moved hW.alike hK9, hD9⟩, hS.F ht⟩) hS.2.2 dX2_layRanges_87
    · exact absurd c_17 (by decide)



theorem mj_ask_yes {ff ft g : Nat → Int32} {nd l r : Int} {n : Nat} {none x : Int} {y : Int32} (h : mj_first (fun k => (ff k).toInt = l ∧ (ft k).toInt = r) 0 n none x) (hn : (n : Int) = nd) (hx : ¬ x = none) (hy : y = g x.toNat) : mj_ask ff ft g nd l r y := by
  rcases h with ⟨m, -, b, c, d, e⟩ | ⟨a, -⟩
  · refine Or.inl ⟨m, by omega, c.1, c.2, fun j hj => e j (Nat.zero_le j) hj, ?_⟩
    rw [hy, d]
    rfl
  · exact absurd a hx
theorem mj_ask_no {ff ft g : Nat → Int32} {nd l r : Int} {n : Nat} {none x : Int} (h : mj_first (fun k => (ff k).toInt = l ∧ (ft k).toInt = r) 0 n none x) (hn : (n : Int) = nd) (h0 : none < 0) (hx : x = none) : mj_ask ff ft g nd l r (-2) := by
  rcases h with ⟨m, a, b, c, d, e⟩ | ⟨-, b⟩
  · omega
  · exact Or.inr ⟨fun j hj => b j (Nat.zero_le j) (by omega), rfl⟩

set_option maxHeartbeats 4000000 in
set_option maxRecDepth 100000 in
theorem c_X4_laidTree_x (l : Launch) (dC : Nat → ClassId) (dI : Nat → Nat → Nat) (m_ : Nat) (q_row : Nat) (q_t : Nat) (t_ : Nat) (h0 : Nat) (k0 : Nat) (w_ : Nat) (z_ : Nat) (slots : Int32) (old : Int32) (q_joined : Nat) (q_from : Nat) (q_to : Nat) (q_size : Nat) (q_lossOf : Nat) (q_lessBy : Nat) (q_value : Nat) (q_number : Nat) (nodes : Int32) (here : Int32) (q_cell : Nat) (cyI : ClassId) (len : Int32) (f : Nat → Int32) (ff : Nat → Int32) (ft : Nat → Int32) (fs : Nat → Int32) (fo : Nat → Int32) (uv : Nat → Int32) (un : Nat → Int32) (fe : Nat → Int32) (j_v : Nat) (j_n : Nat) (js : Int32) (jl : Int32) (je : Int32) (jv : Nat → Int32) (jn : Nat → Int32) (sz : Nat) (a0 : 0 ≤ len.toInt) (a1 : len.toInt ≤ 160) (s0 : sixes fs) (sl0 : 1 ≤ slots.toInt) (sl1 : slots.toInt ≤ 6) (l0 : laidX old slots here f ff ft fs fo fe uv un nodes len) : kx_MQ l (dC, dI) yX4_laidTree wsX4_laidTree ({ frames := 5, cells := 0, slots := 0, locals := 225 }) [.ref m_] [kx_4 m_ q_row q_t t_ h0 k0 w_ z_ slots old, kx_2 q_t q_row q_joined q_from q_to q_size q_lossOf q_lessBy q_value q_number nodes here, kx_0 q_row q_cell len, kx_a q_cell cyI 160 f, kx_a q_from cyI 319 ff, kx_a q_to cyI 319 ft, kx_a q_size cyI 319 fs, kx_a q_lossOf cyI 319 fo, kx_a q_lessBy cyI 319 fe, kx_a q_value cyI 1914 uv, kx_a q_number cyI 1914 un, kx_3 q_joined j_v j_n js jl je, kx_a j_v cyI 12 jv, kx_a j_n cyI 12 jn] [(cyI, .int)] sz (fun A => va_Qr (fun u : Int32 × Int32 × Int32 × (Nat → Int32) × (Nat → Int32) × (Nat → Int32) × (Nat → Int32) × (Nat → Int32) × (Nat → Int32) × (Nat → Int32) × Int32 × Int32 × Int32 × (Nat → Int32) × (Nat → Int32) => u.1.toInt = 0 ∧ u.2.2.1 = slots ∧ sixes u.2.2.2.2.2.1 ∧ mj_C slots.toNatClampNeg f u.2.2.2.1 u.2.2.2.2.1 u.2.2.2.2.2.1 u.2.2.2.2.2.2.1 u.2.2.2.2.2.2.2.1 u.2.2.2.2.2.2.2.2.1 u.2.2.2.2.2.2.2.2.2.1 u.2.1.toInt len.toInt ∧ 0 ≤ u.2.1.toInt ∧ u.2.1.toInt ≤ 319 ∧ treeOk u.2.2.2.1 u.2.2.2.2.1 u.2.1.toInt len.toInt) (fun (u : Int32 × Int32 × Int32 × (Nat → Int32) × (Nat → Int32) × (Nat → Int32) × (Nat → Int32) × (Nat → Int32) × (Nat → Int32) × (Nat → Int32) × Int32 × Int32 × Int32 × (Nat → Int32) × (Nat → Int32)) (ra : Nat) (t : State) => ra = q_t ∧ va_P (dC, dI) vwCl [kx_4 m_ q_row q_t t_ h0 k0 w_ z_ slots u.1, kx_2 q_t q_row q_joined q_from q_to q_size q_lossOf q_lessBy q_value q_number u.2.1 u.2.2.1, kx_0 q_row q_cell len, kx_a q_cell cyI 160 f, kx_a q_from cyI 319 u.2.2.2.1, kx_a q_to cyI 319 u.2.2.2.2.1, kx_a q_size cyI 319 u.2.2.2.2.2.1, kx_a q_lossOf cyI 319 u.2.2.2.2.2.2.1, kx_a q_lessBy cyI 319 u.2.2.2.2.2.2.2.1, kx_a q_value cyI 1914 u.2.2.2.2.2.2.2.2.1, kx_a q_number cyI 1914 u.2.2.2.2.2.2.2.2.2.1, kx_3 q_joined j_v j_n u.2.2.2.2.2.2.2.2.2.2.1 u.2.2.2.2.2.2.2.2.2.2.2.1 u.2.2.2.2.2.2.2.2.2.2.2.2.1, kx_a j_v cyI 12 u.2.2.2.2.2.2.2.2.2.2.2.2.2.1, kx_a j_n cyI 12 u.2.2.2.2.2.2.2.2.2.2.2.2.2.2] t.heap ∧ va_K (dC, dI) vwCl [(cyI, .int)] t ∧ va_D A [kx_4 m_ q_row q_t t_ h0 k0 w_ z_ slots u.1, kx_2 q_t q_row q_joined q_from q_to q_size q_lossOf q_lessBy q_value q_number u.2.1 u.2.2.1, kx_0 q_row q_cell len, kx_a q_cell cyI 160 f, kx_a q_from cyI 319 u.2.2.2.1, kx_a q_to cyI 319 u.2.2.2.2.1, kx_a q_size cyI 319 u.2.2.2.2.2.1, kx_a q_lossOf cyI 319 u.2.2.2.2.2.2.1, kx_a q_lessBy cyI 319 u.2.2.2.2.2.2.2.1, kx_a q_value cyI 1914 u.2.2.2.2.2.2.2.2.1, kx_a q_number cyI 1914 u.2.2.2.2.2.2.2.2.2.1, kx_3 q_joined j_v j_n u.2.2.2.2.2.2.2.2.2.2.1 u.2.2.2.2.2.2.2.2.2.2.2.1 u.2.2.2.2.2.2.2.2.2.2.2.2.1, kx_a j_v cyI 12 u.2.2.2.2.2.2.2.2.2.2.2.2.2.1, kx_a j_n cyI 12 u.2.2.2.2.2.2.2.2.2.2.2.2.2.2]) A) := by
  refine kx_stQ (ws := wsX4_laidTree) (cc := cX4_laidTree) (maxL := 1) (ret := (some (.object "MajorityIndex$Tree"))) (by decide) rfl (Nat.le_of_ble_eq_true rfl) ?_
  intro p e s m below meth c A ls hx hb hr hlocks hts hown hml hA hS hP hK hD hl
  have hown : s.vm.findClass RX4 = some m.cls := hown
  have hl : lv_has ls 1 [(0, .ref m_)] := hl
  have hf_53 := hts (.fieldLink RX4 53 "MajorityIndex" "treeIsOld" "Z") (List.mem_of_getElem? (i := 1) rfl)
  have hi_4 : ∀ w ∈ u_ws RX4 TX4 9, w ∈ wsX4_laidTree := fun w h => List.mem_cons_of_mem _ (List.mem_append_left _ (List.mem_append_left _ (List.mem_append_left _ (List.mem_append_right _ h))))
  have hf_21 := hts (.fieldLink RX4 21 "MajorityIndex" "tree" "LMajorityIndex$Tree;") (List.mem_of_getElem? (i := 2) rfl)
  have hf_49 := hts (.fieldLink RX4 49 "MajorityIndex" "slotsNow" "I") (List.mem_of_getElem? (i := 3) rfl)
  have hf_204 := hts (.fieldLink RX4 204 "MajorityIndex$Tree" "slotsHere" "I") (List.mem_of_getElem? (i := 4) rfl)
  have hi_2 : ∀ w ∈ u_ws RX2 TX2 11, w ∈ wsX4_laidTree := fun w h => List.mem_cons_of_mem _ (List.mem_append_left _ (List.mem_append_left _ (List.mem_append_right _ h)))
  have hf_12 := hts (.fieldLink RX4 12 "MajorityIndex" "row" "LMajorityIndex$Row;") (List.mem_of_getElem? (i := 5) rfl)
  have hf_57 := hts (.fieldLink RX4 57 "MajorityIndex$Row" "length" "I") (List.mem_of_getElem? (i := 6) rfl)
  have hi_0 : ∀ w ∈ u_ws RX0 TX0 2, w ∈ wsX4_laidTree := fun w h => List.mem_cons_of_mem _ (List.mem_append_left _ (List.mem_append_right _ h))
  refine lv_aload_n hx hb dX4_laidTree_0 rfl (lv_at hl 0 rfl) ?_
  refine va_get (D := (dC, dI)) (ci := 4) (v := .int old) (C := RX4) (T := TX4) (N := 9) hx hb hts hi_4 hown hK hP 0 rfl rfl 8 (by decide) hf_53 (fun _ h9 => h9) rfl dX4_laidTree_1 ?_
  refine lv_if_eq (tgt := 46) hx hb dX4_laidTree_4 (by decide) (fun c_1 => ?_) (fun c_1 => ?_)
  · have i_1 : old.toInt = 0 := kc_eq c_1
    refine lv_aload_n hx hb dX4_laidTree_46 rfl (lv_at hl 0 rfl) ?_
    refine va_get (D := (dC, dI)) (ci := 4) (v := .ref q_t) (C := RX4) (T := TX4) (N := 9) hx hb hts hi_4 hown hK hP 0 rfl rfl 1 (by decide) hf_21 (fun _ h9 => h9) rfl dX4_laidTree_47 ?_
    have hP9 := hP
    have hD9 := hD
    have hK9 := hK
    have h_l := l0 (by omega)
    exact W.aret hx hb hr (Or.inl ⟨_, rfl⟩) (Or.inr ⟨_, rfl⟩) (hlocks := hlocks) (fun t ht hW => ⟨⟨(old, nodes, here, ff, ft, fs, fo, fe, uv, un, js, jl, je, jv, jn), q_t, rfl, ⟨(by (try dsimp only); omega), h_l.1, s0, h_l.2, h_l.2.1, h_l.2.2.1, h_l.2.2.2.2.1⟩, rfl, by rw [ht]; exact hP9, va_K.moved hW.alike hK9, hD9⟩, hS.F ht⟩) hS.2.2 dX4_laidTree_50
  · have i_1 : ¬ old.toInt = 0 := kc_ne c_1
    refine lv_aload_n hx hb dX4_laidTree_7 rfl (lv_at hl 0 rfl) ?_
    refine va_get (D := (dC, dI)) (ci := 4) (v := .ref q_t) (C := RX4) (T := TX4) (N := 9) hx hb hts hi_4 hown hK hP 0 rfl rfl 1 (by decide) hf_21 (fun _ h9 => h9) rfl dX4_laidTree_8 ?_
    obtain ⟨hPc, hDc, hFc, hCc⟩ := kx_preM (wc := [kx_2 q_t q_row q_joined q_from q_to q_size q_lossOf q_lessBy q_value q_number nodes here, kx_0 q_row q_cell len, kx_a q_from cyI 319 ff, kx_a q_to cyI 319 ft]) hP hD hS hA [false, true, true, false, true, true, false, false, false, false, false, false, false, false] rfl
    have hKc := hK
    refine va_callv (va_runV (As := []) (rest := []) ⟨hx, hb, hml, hown, hts⟩ (kx_un (c_X2_layRanges_x l dC dI q_t q_row q_joined q_from q_to q_size q_lossOf q_lessBy q_value q_number nodes here q_cell cyI len ff ft s.heap.size a0 a1)) (cwV 0 hts gX4_laidTree_X2_layRanges rfl rfl rfl (by decide +kernel) ⟨Nat.le_of_ble_eq_true rfl, Nat.le_of_ble_eq_true rfl⟩) ⟨fun a U g mk q => by obtain ⟨q0, q1, qP, qK, qD⟩ := q; exact ⟨q0, q1, qP, va_K.moved (u := U) (U := U.calling g mk a) (Vm.Alike.refl U.vm) qK, qD⟩, kx_rc2 hKc hPc (q0 := 0) rfl, fun U hU hW => ⟨rfl, by rw [hU], by rw [hU]; exact hPc, va_K.moved hW.alike hKc, hDc.weaken (fun _ _ _ _ => trivial)⟩⟩ rfl rfl hl.1 rfl (lv_room (Nat.le_of_ble_eq_true rfl)) dX4_laidTree_11 ⟨Nat.le_of_ble_eq_true rfl, Nat.le_of_ble_eq_true rfl⟩) hS (fun q _ h => hFc q h) hFc (fun u t H1 locs ht hvm w_2 hB hz1 hk1 hS => ?_)
    obtain ⟨o_3, o_4, o_5⟩ := u
    dsimp only at w_2 hB
    obtain ⟨hP1, hK1, hD1⟩ := hB
    rw [ht] at hP1
    have hK1 := va_K.moved hvm.symm hK1
    obtain ⟨hP, hD⟩ := kx_joinM (w2 := [kx_4 m_ q_row q_t t_ h0 k0 w_ z_ slots old, kx_2 q_t q_row q_joined q_from q_to q_size q_lossOf q_lessBy q_value q_number o_3 here, kx_0 q_row q_cell len, kx_a q_cell cyI 160 f, kx_a q_from cyI 319 o_4, kx_a q_to cyI 319 o_5, kx_a q_size cyI 319 fs, kx_a q_lossOf cyI 319 fo, kx_a q_lessBy cyI 319 fe, kx_a q_value cyI 1914 uv, kx_a q_number cyI 1914 un, kx_3 q_joined j_v j_n js jl je, kx_a j_v cyI 12 jv, kx_a j_n cyI 12 jn]) hP hD hP1 hD1 hk1 hFc [false, true, true, false, true, true, false, false, false, false, false, false, false, false] hCc rfl
    clear hP1 hD1 hK1 hk1 hz1 hFc hDc hPc hKc hCc
    generalize H1 = H at hP hS ⊢
    have w_2 : ((len.toInt = 0 ∧ o_3.toInt = 0) ∨ (0 < len.toInt ∧ o_3.toInt = 2 * len.toInt - 1)) ∧ treeOk o_4 o_5 o_3.toInt len.toInt ∧ mj_cr o_4 o_5 o_3.toInt ∧ mj_rt o_4 o_5 len.toInt := w_2
    refine lv_aload_n hx hb dX4_laidTree_14 rfl (lv_at hl 0 rfl) ?_
    refine va_get (D := (dC, dI)) (ci := 4) (v := .ref q_t) (C := RX4) (T := TX4) (N := 9) hx hb hts hi_4 hown hK hP 0 rfl rfl 1 (by decide) hf_21 (fun _ h9 => h9) rfl dX4_laidTree_15 ?_
    refine lv_aload_n hx hb dX4_laidTree_18 rfl (lv_at hl 0 rfl) ?_
    refine va_get (D := (dC, dI)) (ci := 4) (v := .int slots) (C := RX4) (T := TX4) (N := 9) hx hb hts hi_4 hown hK hP 0 rfl rfl 7 (by decide) hf_49 (fun _ h9 => h9) rfl dX4_laidTree_19 ?_
    refine va_put (D := (dC, dI)) (ci := 2) (v := .int slots) (ty := .int) (C := RX2) (T := TX2) (N := 11) hx hb hts hi_2 tyX2 tyX2_ok nmX2 hown hK hP hD hS 1 rfl rfl 10 (by decide) hf_204 (fun _ h9 => h9) rfl (by decide +kernel) rfl rfl (Nat.le_of_ble_eq_true rfl) dX4_laidTree_22 (fun H locs hP hD hS => ?_)
    obtain ⟨hP, hD⟩ := kx_re (w2 := [kx_4 m_ q_row q_t t_ h0 k0 w_ z_ slots old, kx_2 q_t q_row q_joined q_from q_to q_size q_lossOf q_lessBy q_value q_number o_3 slots, kx_0 q_row q_cell len, kx_a q_cell cyI 160 f, kx_a q_from cyI 319 o_4, kx_a q_to cyI 319 o_5, kx_a q_size cyI 319 fs, kx_a q_lossOf cyI 319 fo, kx_a q_lessBy cyI 319 fe, kx_a q_value cyI 1914 uv, kx_a q_number cyI 1914 un, kx_3 q_joined j_v j_n js jl je, kx_a j_v cyI 12 jv, kx_a j_n cyI 12 jn]) hP hD rfl
    refine lv_aload_n hx hb dX4_laidTree_25 rfl (lv_at hl 0 rfl) ?_
    refine va_get (D := (dC, dI)) (ci := 4) (v := .ref q_t) (C := RX4) (T := TX4) (N := 9) hx hb hts hi_4 hown hK hP 0 rfl rfl 1 (by decide) hf_21 (fun _ h9 => h9) rfl dX4_laidTree_26 ?_
    refine lv_iconst (v := 0) hx hb dX4_laidTree_29 (by decide) ?_
    refine lv_aload_n hx hb dX4_laidTree_30 rfl (lv_at hl 0 rfl) ?_
    refine va_get (D := (dC, dI)) (ci := 4) (v := .ref q_row) (C := RX4) (T := TX4) (N := 9) hx hb hts hi_4 hown hK hP 0 rfl rfl 0 (by decide) hf_12 (fun _ h9 => h9) rfl dX4_laidTree_31 ?_
    refine va_get (D := (dC, dI)) (ci := 0) (v := .int len) (C := RX0) (T := TX0) (N := 2) hx hb hts hi_0 hown hK hP 2 rfl rfl 1 (by decide) hf_57 (fun _ h9 => h9) rfl dX4_laidTree_34 ?_
    obtain ⟨hPc, hDc, hFc, hCc⟩ := kx_preM (wc := [kx_2 q_t q_row q_joined q_from q_to q_size q_lossOf q_lessBy q_value q_number o_3 slots, kx_0 q_row q_cell len, kx_a q_cell cyI 160 f, kx_a q_from cyI 319 o_4, kx_a q_to cyI 319 o_5, kx_a q_size cyI 319 fs, kx_a q_lossOf cyI 319 fo, kx_a q_lessBy cyI 319 fe, kx_a q_value cyI 1914 uv, kx_a q_number cyI 1914 un, kx_3 q_joined j_v j_n js jl je, kx_a j_v cyI 12 jv, kx_a j_n cyI 12 jn]) hP hD hS hA [false, true, true, true, true, true, true, true, true, true, true, true, true, true] rfl
    have hKc := hK
    have k_6 : (0 : Int32).toInt = 0 := rfl
    refine va_calli (va_runV (As := [.int 0, .int len]) (rest := []) ⟨hx, hb, hml, hown, hts⟩ (kx_un (c_X2_renew_x l dC dI q_t q_row q_joined q_from q_to q_size q_lossOf q_lessBy q_value q_number o_3 slots q_cell cyI len f o_4 o_5 fs fo uv un fe j_v j_n js jl je jv jn 0 len H.size (by omega) (by omega) a1 s0 w_2.2.1 sl0 sl1 w_2.2.2.1 (fun k hk hn => absurd (show mj_hit _ _ _ _ _ from ⟨by have := w_2.2.1 k hk; unfold okAt at this; omega, by have := w_2.2.1 k hk; unfold okAt at this; omega⟩) hn))) (cwV 2 hts gX4_laidTree_X2_renew rfl rfl rfl (by decide +kernel) ⟨Nat.le_of_ble_eq_true rfl, Nat.le_of_ble_eq_true rfl⟩) ⟨fun a U g mk q => by obtain ⟨q0, q1, qP, qK, qD⟩ := q; exact ⟨q0, q1, qP, va_K.moved (u := U) (U := U.calling g mk a) (Vm.Alike.refl U.vm) qK, qD⟩, kx_rc2 hKc hPc (q0 := 0) rfl, fun U hU hW => ⟨rfl, by rw [hU], by rw [hU]; exact hPc, va_K.moved hW.alike hKc, hDc.weaken (fun _ _ _ _ => trivial)⟩⟩ rfl rfl hl.1 rfl (lv_room (Nat.le_of_ble_eq_true rfl)) dX4_laidTree_37 ⟨Nat.le_of_ble_eq_true rfl, Nat.le_of_ble_eq_true rfl⟩) hS (fun q _ h => hFc q h) hFc (fun r_7 u t H1 locs ht hvm w_7 hB hz1 hk1 hS => ?_)
    obtain ⟨o_8, o_9, o_10, o_11, o_12, o_13, o_14, o_15, o_16, o_17⟩ := u
    dsimp only at w_7 hB
    obtain ⟨hP1, hK1, hD1⟩ := hB
    rw [ht] at hP1
    have hK1 := va_K.moved hvm.symm hK1
    obtain ⟨hP, hD⟩ := kx_joinM (w2 := [kx_4 m_ q_row q_t t_ h0 k0 w_ z_ slots old, kx_2 q_t q_row q_joined q_from q_to q_size q_lossOf q_lessBy q_value q_number o_3 slots, kx_0 q_row q_cell len, kx_a q_cell cyI 160 f, kx_a q_from cyI 319 o_4, kx_a q_to cyI 319 o_5, kx_a q_size cyI 319 o_8, kx_a q_lossOf cyI 319 o_9, kx_a q_lessBy cyI 319 o_10, kx_a q_value cyI 1914 o_11, kx_a q_number cyI 1914 o_12, kx_3 q_joined j_v j_n o_13 o_14 o_15, kx_a j_v cyI 12 o_16, kx_a j_n cyI 12 o_17]) hP hD hP1 hD1 hk1 hFc [false, true, true, true, true, true, true, true, true, true, true, true, true, true] hCc rfl
    clear hP1 hD1 hK1 hk1 hz1 hFc hDc hPc hKc hCc
    generalize H1 = H at hP hS ⊢
    have w_7 : sixes o_8 ∧ ∀ k : Nat, (k : Int) < o_3.toInt → mj_ok slots.toNatClampNeg f o_4 o_5 o_8 o_9 o_10 o_11 o_12 k := w_7
    refine lv_pop hx hb dX4_laidTree_40 rfl ?_
    refine lv_aload_n hx hb dX4_laidTree_41 rfl (lv_at hl 0 rfl) ?_
    refine lv_iconst (v := 0) hx hb dX4_laidTree_42 (by decide) ?_
    refine va_put (D := (dC, dI)) (ci := 4) (v := .int 0) (ty := .boolean) (C := RX4) (T := TX4) (N := 9) hx hb hts hi_4 tyX4 tyX4_ok nmX4 hown hK hP hD hS 0 rfl rfl 8 (by decide) hf_53 (fun _ h9 => h9) rfl (by decide +kernel) (by decide) (by decide) (Nat.le_of_ble_eq_true rfl) dX4_laidTree_43 (fun H locs hP hD hS => ?_)
    obtain ⟨hP, hD⟩ := kx_re (w2 := [kx_4 m_ q_row q_t t_ h0 k0 w_ z_ slots 0, kx_2 q_t q_row q_joined q_from q_to q_size q_lossOf q_lessBy q_value q_number o_3 slots, kx_0 q_row q_cell len, kx_a q_cell cyI 160 f, kx_a q_from cyI 319 o_4, kx_a q_to cyI 319 o_5, kx_a q_size cyI 319 o_8, kx_a q_lossOf cyI 319 o_9, kx_a q_lessBy cyI 319 o_10, kx_a q_value cyI 1914 o_11, kx_a q_number cyI 1914 o_12, kx_3 q_joined j_v j_n o_13 o_14 o_15, kx_a j_v cyI 12 o_16, kx_a j_n cyI 12 o_17]) hP hD rfl
    refine lv_aload_n hx hb dX4_laidTree_46 rfl (lv_at hl 0 rfl) ?_
    refine va_get (D := (dC, dI)) (ci := 4) (v := .ref q_t) (C := RX4) (T := TX4) (N := 9) hx hb hts hi_4 hown hK hP 0 rfl rfl 1 (by decide) hf_21 (fun _ h9 => h9) rfl dX4_laidTree_47 ?_
    have hP9 := hP
    have hD9 := hD
    have hK9 := hK
    exact W.aret hx hb hr (Or.inl ⟨_, rfl⟩) (Or.inr ⟨_, rfl⟩) (hlocks := hlocks) (fun t ht hW => ⟨⟨(0, o_3, slots, o_4, o_5, o_8, o_9, o_10, o_11, o_12, o_13, o_14, o_15, o_16, o_17), q_t, rfl, ⟨rfl, rfl, w_7.1, ⟨(by (try dsimp only); omega), (by (try dsimp only); omega), (by (try dsimp only); omega), w_2.2.1, w_2.2.2.1, w_2.2.2.2, w_7.2⟩, (by (try dsimp only); omega), (by (try dsimp only); omega), w_2.2.1⟩, rfl, by rw [ht]; exact hP9, va_K.moved hW.alike hK9, hD9⟩, hS.F ht⟩) hS.2.2 dX4_laidTree_50

set_option maxHeartbeats 4000000 in
set_option maxRecDepth 100000 in
theorem c_X2_find_x (l : Launch) (dC : Nat → ClassId) (dI : Nat → Nat → Nat) (q_t : Nat) (q_row : Nat) (q_joined : Nat) (q_from : Nat) (q_to : Nat) (q_size : Nat) (q_lossOf : Nat) (q_lessBy : Nat) (q_value : Nat) (q_number : Nat) (nodes : Int32) (here : Int32) (cyI : ClassId) (ff : Nat → Int32) (ft : Nat → Int32) (p0 : Int32) (p1 : Int32) (b0 : 0 ≤ nodes.toInt) (c0 : nodes.toInt ≤ 319) : Met l yX2_find wsX2_find ({ frames := 0, cells := 0, slots := 0, locals := 0 }) (va_Pc [.ref q_t, .int p0, .int p1] (fun U => va_P (dC, dI) vwCl [kx_2 q_t q_row q_joined q_from q_to q_size q_lossOf q_lessBy q_value q_number nodes here, kx_a q_from cyI 319 ff, kx_a q_to cyI 319 ft] U.heap ∧ va_K (dC, dI) vwCl [(cyI, .int)] U)) (vp_Si (fun r : Int32 => mj_first (fun k => (ff k).toInt = p0.toInt ∧ (ft k).toInt = p1.toInt) 0 nodes.toNatClampNeg (-1) r.toInt ∧ (r.toInt = -1 ∨ (0 ≤ r.toInt ∧ r.toInt < nodes.toInt)))) 0 0 (fun _ => False) := by
  refine kx_stS (ws := wsX2_find) (cc := cX2_find) (maxL := 4) (ret := (some .int)) (by decide) rfl (Nat.le_of_ble_eq_true rfl) ?_
  intro p e s m below meth c ls hx hb hr hlocks hts hown hml hP hK hl
  have hown : s.vm.findClass RX2 = some m.cls := hown
  have hl : lv_has ls 4 [(0, .ref q_t), (1, .int p0), (2, .int p1)] := hl
  have hf_50 := hts (.fieldLink RX2 50 "MajorityIndex$Tree" "nodes" "I") (List.mem_of_getElem? (i := 1) rfl)
  have hi_2 : ∀ w ∈ u_ws RX2 TX2 11, w ∈ wsX2_find := fun w h => List.mem_cons_of_mem _ (List.mem_append_right _ h)
  have hf_18 := hts (.fieldLink RX2 18 "MajorityIndex$Tree" "from" "[I") (List.mem_of_getElem? (i := 2) rfl)
  have hf_22 := hts (.fieldLink RX2 22 "MajorityIndex$Tree" "to" "[I") (List.mem_of_getElem? (i := 3) rfl)
  have n_nd := ki_nat nodes rfl (om_10 b0)
  refine lv_iconst (v := 0) hx hb dX2_find_0 (by decide) ?_
  refine lv_istore_n (lv' := [(3, .int 0), (0, .ref q_t), (1, .int p0), (2, .int p1)]) hx hb dX2_find_1 rfl hl (by decide) rfl (fun ls hl => ?_)
  have LP1 : ∀ (n : Nat) (i : Int32), (0 ≤ i.toInt) → (∀ k : Nat, 0 ≤ k → k < i.toNatClampNeg → ¬ ((ff k).toInt = p0.toInt ∧ (ft k).toInt = p1.toInt)) → (i.toInt ≤ nodes.toInt) → (nodes.toInt - i.toInt).toNat < n → ∀ (ls : Array Slot), lv_has ls 4 [(3, .int i), (0, .ref q_t), (1, .int p0), (2, .int p1)] → W p l e (headSpec wsX2_find ({ frames := 0, cells := 0, slots := 0, locals := 0 })).room s m ([.ref q_t, .int p0, .int p1] : List Value).toArray below meth c s.heap [] 0 0 (MQ below (vp_Si (fun r : Int32 => mj_first (fun k => (ff k).toInt = p0.toInt ∧ (ft k).toInt = p1.toInt) 0 nodes.toNatClampNeg (-1) r.toInt ∧ (r.toInt = -1 ∨ (0 ≤ r.toInt ∧ r.toInt < nodes.toInt)))) ([.ref q_t, .int p0, .int p1] : List Value).toArray s 0 0 (fun _ => False)) (F0 m 2 ls []) := by
    intro n
    induction n with
    | zero => intro i LP1_h0 LP1_h1 LP1_h2 hn; exact absurd hn (Nat.not_lt_zero _)
    | succ n ih1 =>
      intro i LP1_h0 LP1_h1 LP1_h2 hn1 ls hl
      have n_i := ki_nat i rfl (om_10 LP1_h0)
      refine lv_iload_n hx hb dX2_find_2 rfl (lv_at hl 0 rfl) ?_
      refine lv_aload_n hx hb dX2_find_3 rfl (lv_at hl 1 rfl) ?_
      refine va_get (D := (dC, dI)) (ci := 2) (v := .int nodes) (C := RX2) (T := TX2) (N := 11) hx hb hts hi_2 hown hK hP 0 rfl rfl 9 (by decide) hf_50 (fun _ h9 => h9) rfl dX2_find_4 ?_
      refine lv_icmp_ge (tgt := 38) hx hb dX2_find_7 (by decide) (fun c_1 => ?_) (fun c_1 => ?_)
      · have i_1 : nodes.toInt ≤ i.toInt := kc_le c_1
        refine lv_iconst (v := (-1)) hx hb dX2_find_38 (by decide) ?_
        have k_n : (-1 : Int32).toInt = -1 := rfl
        exact W.iret (v := (-1)) hx hb hr (hlocks := hlocks) (fun t ht hW => ⟨(-1), rfl, ⟨Or.inr ⟨rfl, fun k h1 hk => LP1_h1 k h1 (by (try dsimp only); omega)⟩, (by (try dsimp only); omega)⟩, ht⟩) (fun q hq => by cases hq) dX2_find_39
      · have i_1 : i.toInt < nodes.toInt := kc_nle c_1
        refine lv_aload_n hx hb dX2_find_10 rfl (lv_at hl 1 rfl) ?_
        refine va_get (D := (dC, dI)) (ci := 2) (v := .ref q_from) (C := RX2) (T := TX2) (N := 11) hx hb hts hi_2 hown hK hP 0 rfl rfl 2 (by decide) hf_18 (fun _ h9 => h9) rfl dX2_find_11 ?_
        refine lv_iload_n hx hb dX2_find_14 rfl (lv_at hl 0 rfl) ?_
        refine va_iald hx hb hK hP 1 0 rfl rfl (ki_in (om_10 LP1_h0) (om_115 c0 i_1)) dX2_find_15 ?_
        refine lv_topi (fun y_2 ey_2 => ?_)
        have j_2 : y_2.toInt = (ff i.toNatClampNeg).toInt := congrArg Int32.toInt ey_2
        refine lv_iload_n hx hb dX2_find_16 rfl (lv_at hl 2 rfl) ?_
        refine lv_icmp_ne (tgt := 32) hx hb dX2_find_17 (by decide) (fun c_3 => ?_) (fun c_3 => ?_)
        · have i_3 : ¬ y_2.toInt = p0.toInt := kc_ne c_3
          obtain ⟨x_4, ex_4⟩ : ∃ y : Int32, y = i + 1 := ⟨_, rfl⟩
          have i_4 : x_4.toInt = i.toInt + 1 := ki_add ex_4 rfl rfl (om_13 LP1_h0) (om_370 c0 LP1_h2)
          refine lv_iinc (v := x_4) (lv' := [(3, .int x_4), (0, .ref q_t), (1, .int p0), (2, .int p1)]) hx hb dX2_find_32 hl (k := 0) rfl (by rw [ex_4]; rfl) (by decide) rfl (fun ls hl => ?_)
          refine lv_goto (tgt := 2) hx hb dX2_find_35 (by decide) ?_
          have n_5 := ki_nat x_4 rfl (om_34 LP1_h0 i_4)
          exact ih1 x_4 (om_34 LP1_h0 i_4) (fun k _ hk => if h9 : k < i.toNatClampNeg then LP1_h1 k (Nat.zero_le k) h9 else (by rw [show k = i.toNatClampNeg by omega]; exact fun h => by omega)) (om_54 i_1 i_4) (om_mu hn1 (om_5 i_4) (om_6 i_1)) ls (lv_sub hl [0, 1, 2, 3] rfl)
        · have i_3 : y_2.toInt = p0.toInt := kc_eq c_3
          refine lv_aload_n hx hb dX2_find_20 rfl (lv_at hl 1 rfl) ?_
          refine va_get (D := (dC, dI)) (ci := 2) (v := .ref q_to) (C := RX2) (T := TX2) (N := 11) hx hb hts hi_2 hown hK hP 0 rfl rfl 3 (by decide) hf_22 (fun _ h9 => h9) rfl dX2_find_21 ?_
          refine lv_iload_n hx hb dX2_find_24 rfl (lv_at hl 0 rfl) ?_
          refine va_iald hx hb hK hP 2 0 rfl rfl (ki_in (om_10 LP1_h0) (om_115 c0 i_1)) dX2_find_25 ?_
          refine lv_topi (fun y_6 ey_6 => ?_)
          have j_6 : y_6.toInt = (ft i.toNatClampNeg).toInt := congrArg Int32.toInt ey_6
          refine lv_iload_n hx hb dX2_find_26 rfl (lv_at hl 3 rfl) ?_
          refine lv_icmp_ne (tgt := 32) hx hb dX2_find_27 (by decide) (fun c_7 => ?_) (fun c_7 => ?_)
          · have i_7 : ¬ y_6.toInt = p1.toInt := kc_ne c_7
            obtain ⟨x_8, ex_8⟩ : ∃ y : Int32, y = i + 1 := ⟨_, rfl⟩
            have i_8 : x_8.toInt = i.toInt + 1 := ki_add ex_8 rfl rfl (om_13 LP1_h0) (om_370 c0 LP1_h2)
            refine lv_iinc (v := x_8) (lv' := [(3, .int x_8), (0, .ref q_t), (1, .int p0), (2, .int p1)]) hx hb dX2_find_32 hl (k := 0) rfl (by rw [ex_8]; rfl) (by decide) rfl (fun ls hl => ?_)
            refine lv_goto (tgt := 2) hx hb dX2_find_35 (by decide) ?_
            have n_9 := ki_nat x_8 rfl (om_34 LP1_h0 i_8)
            exact ih1 x_8 (om_34 LP1_h0 i_8) (fun k _ hk => if h9 : k < i.toNatClampNeg then LP1_h1 k (Nat.zero_le k) h9 else (by rw [show k = i.toNatClampNeg by omega]; exact fun h => by omega)) (om_54 i_1 i_8) (om_mu hn1 (om_5 i_8) (om_6 i_1)) ls (lv_sub hl [0, 1, 2, 3] rfl)
          · have i_7 : y_6.toInt = p1.toInt := kc_eq c_7
            refine lv_iload_n hx hb dX2_find_30 rfl (lv_at hl 0 rfl) ?_
            exact W.iret (v := i) hx hb hr (hlocks := hlocks) (fun t ht hW => ⟨i, rfl, ⟨Or.inl ⟨i.toNatClampNeg, Nat.zero_le _, (by (try dsimp only); omega), ⟨(by (try dsimp only); omega), (by (try dsimp only); omega)⟩, (by (try dsimp only); omega), fun k h1 hk => LP1_h1 k h1 hk⟩, (by (try dsimp only); omega)⟩, ht⟩) (fun q hq => by cases hq) dX2_find_31
  have k_10 : (0 : Int32).toInt = 0 := rfl
  exact LP1 ((nodes.toInt - 0 : Int).toNat + 1) 0 om_35 (fun k _ hk => absurd hk (Nat.not_lt_zero k)) (om_10 b0) (Nat.lt_succ_self _) ls (lv_sub hl [0, 1, 2, 3] rfl)

set_option maxHeartbeats 4000000 in
set_option maxRecDepth 100000 in
theorem c_X4_node_x (l : Launch) (dC : Nat → ClassId) (dI : Nat → Nat → Nat) (m_ : Nat) (q_row : Nat) (q_t : Nat) (t_ : Nat) (h0 : Nat) (k0 : Nat) (w_ : Nat) (z_ : Nat) (slots : Int32) (old : Int32) (q_joined : Nat) (q_from : Nat) (q_to : Nat) (q_size : Nat) (q_lossOf : Nat) (q_lessBy : Nat) (q_value : Nat) (q_number : Nat) (nodes : Int32) (here : Int32) (q_cell : Nat) (cyI : ClassId) (len : Int32) (f : Nat → Int32) (ff : Nat → Int32) (ft : Nat → Int32) (fs : Nat → Int32) (fo : Nat → Int32) (uv : Nat → Int32) (un : Nat → Int32) (fe : Nat → Int32) (j_v : Nat) (j_n : Nat) (js : Int32) (jl : Int32) (je : Int32) (jv : Nat → Int32) (jn : Nat → Int32) (p0 : Int32) (p1 : Int32) (sz : Nat) (a0 : 0 ≤ len.toInt) (a1 : len.toInt ≤ 160) (s0 : sixes fs) (sl0 : 1 ≤ slots.toInt) (sl1 : slots.toInt ≤ 6) (l0 : laidX old slots here f ff ft fs fo fe uv un nodes len) : kx_MQ l (dC, dI) yX4_node wsX4_node ({ frames := 6, cells := 0, slots := 0, locals := 270 }) [.ref m_, .int p0, .int p1] [kx_4 m_ q_row q_t t_ h0 k0 w_ z_ slots old, kx_2 q_t q_row q_joined q_from q_to q_size q_lossOf q_lessBy q_value q_number nodes here, kx_0 q_row q_cell len, kx_a q_cell cyI 160 f, kx_a q_from cyI 319 ff, kx_a q_to cyI 319 ft, kx_a q_size cyI 319 fs, kx_a q_lossOf cyI 319 fo, kx_a q_lessBy cyI 319 fe, kx_a q_value cyI 1914 uv, kx_a q_number cyI 1914 un, kx_3 q_joined j_v j_n js jl je, kx_a j_v cyI 12 jv, kx_a j_n cyI 12 jn] [(cyI, .int)] sz (fun A => va_Qi (fun (r : Int32) (u : Int32 × Int32 × Int32 × (Nat → Int32) × (Nat → Int32) × (Nat → Int32) × (Nat → Int32) × (Nat → Int32) × (Nat → Int32) × (Nat → Int32) × Int32 × Int32 × Int32 × (Nat → Int32) × (Nat → Int32)) => (((0 ≤ p0.toInt ∧ p0.toInt < p1.toInt ∧ p1.toInt ≤ len.toInt) ∧ u.1.toInt = 0 ∧ mj_ask u.2.2.2.1 u.2.2.2.2.1 u.2.2.2.2.2.1 u.2.1.toInt p0.toInt p1.toInt r) ∨ ((p0.toInt < 0 ∨ p1.toInt ≤ p0.toInt ∨ len.toInt < p1.toInt) ∧ r = -1)) ∧ laidX u.1 slots u.2.2.1 f u.2.2.2.1 u.2.2.2.2.1 u.2.2.2.2.2.1 u.2.2.2.2.2.2.1 u.2.2.2.2.2.2.2.1 u.2.2.2.2.2.2.2.2.1 u.2.2.2.2.2.2.2.2.2.1 u.2.1 len ∧ sixes u.2.2.2.2.2.1) (fun (u : Int32 × Int32 × Int32 × (Nat → Int32) × (Nat → Int32) × (Nat → Int32) × (Nat → Int32) × (Nat → Int32) × (Nat → Int32) × (Nat → Int32) × Int32 × Int32 × Int32 × (Nat → Int32) × (Nat → Int32)) (t : State) => va_P (dC, dI) vwCl [kx_4 m_ q_row q_t t_ h0 k0 w_ z_ slots u.1, kx_2 q_t q_row q_joined q_from q_to q_size q_lossOf q_lessBy q_value q_number u.2.1 u.2.2.1, kx_0 q_row q_cell len, kx_a q_cell cyI 160 f, kx_a q_from cyI 319 u.2.2.2.1, kx_a q_to cyI 319 u.2.2.2.2.1, kx_a q_size cyI 319 u.2.2.2.2.2.1, kx_a q_lossOf cyI 319 u.2.2.2.2.2.2.1, kx_a q_lessBy cyI 319 u.2.2.2.2.2.2.2.1, kx_a q_value cyI 1914 u.2.2.2.2.2.2.2.2.1, kx_a q_number cyI 1914 u.2.2.2.2.2.2.2.2.2.1, kx_3 q_joined j_v j_n u.2.2.2.2.2.2.2.2.2.2.1 u.2.2.2.2.2.2.2.2.2.2.2.1 u.2.2.2.2.2.2.2.2.2.2.2.2.1, kx_a j_v cyI 12 u.2.2.2.2.2.2.2.2.2.2.2.2.2.1, kx_a j_n cyI 12 u.2.2.2.2.2.2.2.2.2.2.2.2.2.2] t.heap ∧ va_K (dC, dI) vwCl [(cyI, .int)] t ∧ va_D A [kx_4 m_ q_row q_t t_ h0 k0 w_ z_ slots u.1, kx_2 q_t q_row q_joined q_from q_to q_size q_lossOf q_lessBy q_value q_number u.2.1 u.2.2.1, kx_0 q_row q_cell len, kx_a q_cell cyI 160 f, kx_a q_from cyI 319 u.2.2.2.1, kx_a q_to cyI 319 u.2.2.2.2.1, kx_a q_size cyI 319 u.2.2.2.2.2.1, kx_a q_lossOf cyI 319 u.2.2.2.2.2.2.1, kx_a q_lessBy cyI 319 u.2.2.2.2.2.2.2.1, kx_a q_value cyI 1914 u.2.2.2.2.2.2.2.2.1, kx_a q_number cyI 1914 u.2.2.2.2.2.2.2.2.2.1, kx_3 q_joined j_v j_n u.2.2.2.2.2.2.2.2.2.2.1 u.2.2.2.2.2.2.2.2.2.2.2.1 u.2.2.2.2.2.2.2.2.2.2.2.2.1, kx_a j_v cyI 12 u.2.2.2.2.2.2.2.2.2.2.2.2.2.1, kx_a j_n cyI 12 u.2.2.2.2.2.2.2.2.2.2.2.2.2.2]) A) := by
  refine kx_stQ (ws := wsX4_node) (cc := cX4_node) (maxL := 5) (ret := (some .int)) (by decide) rfl (Nat.le_of_ble_eq_true rfl) ?_
  intro p e s m below meth c A ls hx hb hr hlocks hts hown hml hA hS hP hK hD hl
  have hown : s.vm.findClass RX4 = some m.cls := hown
  have hl : lv_has ls 5 [(0, .ref m_), (1, .int p0), (2, .int p1)] := hl
  have hf_12 := hts (.fieldLink RX4 12 "MajorityIndex" "row" "LMajorityIndex$Row;") (List.mem_of_getElem? (i := 1) rfl)
  have hi_4 : ∀ w ∈ u_ws RX4 TX4 9, w ∈ wsX4_node := fun w h => List.mem_cons_of_mem _ (List.mem_append_left _ (List.mem_append_left _ (List.mem_append_left _ (List.mem_append_right _ h))))
  have hf_126 := hts (.fieldLink RX4 126 "MajorityIndex$Tree" "size" "[I") (List.mem_of_getElem? (i := 2) rfl)
  have hi_2 : ∀ w ∈ u_ws RX2 TX2 11, w ∈ wsX4_node := fun w h => List.mem_cons_of_mem _ (List.mem_append_left _ (List.mem_append_left _ (List.mem_append_right _ h)))
  refine lv_aload_n hx hb dX4_node_0 rfl (lv_at hl 0 rfl) ?_
  refine va_get (D := (dC, dI)) (ci := 4) (v := .ref q_row) (C := RX4) (T := TX4) (N := 9) hx hb hts hi_4 hown hK hP 0 rfl rfl 0 (by decide) hf_12 (fun _ h9 => h9) rfl dX4_node_1 ?_
  refine lv_iload_n hx hb dX4_node_4 rfl (lv_at hl 1 rfl) ?_
  refine lv_iload_n hx hb dX4_node_5 rfl (lv_at hl 2 rfl) ?_
  have hPc := hP.sub (ws' := [kx_0 q_row q_cell len]) [2] rfl
  have hKc := hK.sub (tys' := []) [] rfl
  refine vp_callSi (W.runV (As := [.int p0, .int p1]) (rest := []) ⟨hx, hb, hml, hown, hts⟩ (c_X0_hasRange l dC dI q_row q_cell len p0 p1) (cwV 2 hts gX4_node_X0_hasRange rfl rfl rfl (by decide +kernel) ⟨Nat.le_of_ble_eq_true rfl, Nat.le_of_ble_eq_true rfl⟩) ⟨fun a U g mk q => by obtain ⟨q0, qP, qK⟩ := q; exact ⟨q0, qP, va_K.moved (u := U) (U := U.calling g mk a) (Vm.Alike.refl U.vm) qK⟩, kx_rc0 hKc hPc (q0 := 0) rfl, fun U hU hW => ⟨rfl, by rw [hU]; exact hPc, va_K.moved hW.alike hKc⟩⟩ rfl rfl hl.1 rfl (lv_room (Nat.le_of_ble_eq_true rfl)) dX4_node_6 ⟨Nat.le_of_ble_eq_true rfl, Nat.le_of_ble_eq_true rfl⟩) (fun r_1 w_1 => ?_)
  rcases w_1 with ⟨rfl, w_1⟩ | ⟨rfl, w_1⟩
  · have w_1 : (0 ≤ p0.toInt ∧ p0.toInt < p1.toInt ∧ p1.toInt ≤ len.toInt) := w_1
    refine lv_if_ne (tgt := 14) hx hb dX4_node_9 (by decide) (fun c_2 => ?_) (fun c_2 => ?_)
    · refine lv_aload_n hx hb dX4_node_14 rfl (lv_at hl 0 rfl) ?_
      have hPc := hP
      have hKc := hK
      have hDc := hD
      have hFc := kx_free hD hS hA
      refine va_callr (va_runV (As := []) (rest := []) ⟨hx, hb, hml, hown, hts⟩ (kx_un (c_X4_laidTree_x l dC dI m_ q_row q_t t_ h0 k0 w_ z_ slots old q_joined q_from q_to q_size q_lossOf q_lessBy q_value q_number nodes here q_cell cyI len f ff ft fs fo uv un fe j_v j_n js jl je jv jn s.heap.size a0 a1 s0 sl0 sl1 l0)) (cwV 0 hts gX4_node_X4_laidTree rfl rfl rfl (by decide +kernel) ⟨Nat.le_of_ble_eq_true rfl, Nat.le_of_ble_eq_true rfl⟩) ⟨fun a U g mk q => by obtain ⟨q0, q1, qP, qK, qD⟩ := q; exact ⟨q0, q1, qP, va_K.moved (u := U) (U := U.calling g mk a) (Vm.Alike.refl U.vm) qK, qD⟩, kx_rc4 hKc hPc (q0 := 0) rfl, fun U hU hW => ⟨rfl, by rw [hU], by rw [hU]; exact hPc, va_K.moved hW.alike hKc, hDc.weaken (fun _ _ _ _ => trivial)⟩⟩ rfl rfl hl.1 rfl (lv_room (Nat.le_of_ble_eq_true rfl)) dX4_node_15 ⟨Nat.le_of_ble_eq_true rfl, Nat.le_of_ble_eq_true rfl⟩) hS (fun q _ h => hFc q h) hFc (fun u ra t H1 locs ht hvm w_3 hB hz1 hk1 hS => ?_)
      obtain ⟨o_4, o_5, o_6, o_7, o_8, o_9, o_10, o_11, o_12, o_13, o_14, o_15, o_16, o_17, o_18⟩ := u
      dsimp only at w_3 hB
      obtain ⟨er, hP1, hK1, hD1⟩ := hB
      rw [ht] at hP1
      have hK1 := va_K.moved hvm.symm hK1
      have hD := hD1.weaken (fun _ q _ h => hFc q.1 h)
      have hP := hP1
      clear hP1 hD1 hK1 hk1 hz1 hFc hDc hPc hKc
      generalize H1 = H at hP hS ⊢
      have w_3 : o_4.toInt = 0 ∧ o_6 = slots ∧ sixes o_9 ∧ mj_C slots.toNatClampNeg f o_7 o_8 o_9 o_10 o_11 o_12 o_13 o_5.toInt len.toInt ∧ 0 ≤ o_5.toInt ∧ o_5.toInt ≤ 319 ∧ treeOk o_7 o_8 o_5.toInt len.toInt := w_3
      rw [er]
      refine lv_astore_n (lv' := [(3, .ref q_t), (0, .ref m_), (1, .int p0), (2, .int p1)]) hx hb dX4_node_18 rfl hl (by decide) rfl (fun ls hl => ?_)
      refine lv_aload_n hx hb dX4_node_19 rfl (lv_at hl 0 rfl) ?_
      refine lv_iload_n hx hb dX4_node_20 rfl (lv_at hl 2 rfl) ?_
      refine lv_iload_n hx hb dX4_node_21 rfl (lv_at hl 3 rfl) ?_
      have hPc := hP.sub (ws' := [kx_2 q_t q_row q_joined q_from q_to q_size q_lossOf q_lessBy q_value q_number o_5 o_6, kx_a q_from cyI 319 o_7, kx_a q_to cyI 319 o_8]) [1, 4, 5] rfl
      have hKc := hK
      refine vp_callSi (W.runV (As := [.int p0, .int p1]) (rest := []) ⟨hx, hb, hml, hown, hts⟩ (c_X2_find_x l dC dI q_t q_row q_joined q_from q_to q_size q_lossOf q_lessBy q_value q_number o_5 o_6 cyI o_7 o_8 p0 p1 w_3.2.2.2.2.1 w_3.2.2.2.2.2.1) (cwV 2 hts gX4_node_X2_find rfl rfl rfl (by decide +kernel) ⟨Nat.le_of_ble_eq_true rfl, Nat.le_of_ble_eq_true rfl⟩) ⟨fun a U g mk q => by obtain ⟨q0, qP, qK⟩ := q; exact ⟨q0, qP, va_K.moved (u := U) (U := U.calling g mk a) (Vm.Alike.refl U.vm) qK⟩, kx_rc2 hKc hPc (q0 := 0) rfl, fun U hU hW => ⟨rfl, by rw [hU]; exact hPc, va_K.moved hW.alike hKc⟩⟩ rfl rfl hl.1 rfl (lv_room (Nat.le_of_ble_eq_true rfl)) dX4_node_22 ⟨Nat.le_of_ble_eq_true rfl, Nat.le_of_ble_eq_true rfl⟩) (fun r_19 w_19 => ?_)
      have w_19 : mj_first (fun k => (o_7 k).toInt = p0.toInt ∧ (o_8 k).toInt = p1.toInt) 0 o_5.toNatClampNeg (-1) r_19.toInt ∧ (r_19.toInt = -1 ∨ (0 ≤ r_19.toInt ∧ r_19.toInt < o_5.toInt)) := w_19
      refine lv_istore (lv' := [(4, .int r_19), (3, .ref q_t), (0, .ref m_), (1, .int p0), (2, .int p1)]) hx hb dX4_node_25 hl (by decide) rfl (fun ls hl => ?_)
      refine lv_iload hx hb dX4_node_27 (lv_at hl 0 rfl) ?_
      refine lv_iconst (v := (-1)) hx hb dX4_node_29 (by decide) ?_
      refine lv_icmp_ne (tgt := 38) hx hb dX4_node_30 (by decide) (fun c_20 => ?_) (fun c_20 => ?_)
      · have i_20 : ¬ r_19.toInt = (-1) := kc_ne c_20
        refine lv_aload_n hx hb dX4_node_38 rfl (lv_at hl 1 rfl) ?_
        refine va_get (D := (dC, dI)) (ci := 2) (v := .ref q_size) (C := RX2) (T := TX2) (N := 11) hx hb hts hi_2 hown hK hP 1 rfl rfl 4 (by decide) hf_126 (fun _ h9 => h9) rfl dX4_node_39 ?_
        refine lv_iload hx hb dX4_node_42 (lv_at hl 0 rfl) ?_
        refine va_iald hx hb hK hP 6 0 rfl rfl (ki_in (by omega) (by omega)) dX4_node_44 ?_
        refine lv_topi (fun y_21 ey_21 => ?_)
        have j_21 : y_21.toInt = (o_9 r_19.toNatClampNeg).toInt := congrArg Int32.toInt ey_21
        have hP9 := hP
        have hD9 := hD
        have hK9 := hK
        have n_nd := ki_nat o_5 rfl (by omega)
        exact W.iret (v := y_21) hx hb hr (hlocks := hlocks) (fun t ht hW => ⟨⟨y_21, (o_4, o_5, o_6, o_7, o_8, o_9, o_10, o_11, o_12, o_13, o_14, o_15, o_16, o_17, o_18), rfl, ⟨Or.inl ⟨(by (try dsimp only); omega), w_3.1, mj_ask_yes w_19.1 n_nd (by omega) ey_21⟩, (fun _ => ⟨w_3.2.1, w_3.2.2.2.1⟩), w_3.2.2.1⟩, by rw [ht]; exact hP9, va_K.moved hW.alike hK9, hD9⟩, hS.F ht⟩) hS.2.2 dX4_node_45
      · have i_20 : r_19.toInt = (-1) := kc_eq c_20
        refine lv_bipush (v := (-2)) hx hb dX4_node_33 (by decide) ?_
        refine lv_goto (tgt := 45) hx hb dX4_node_35 (by decide) ?_
        have hP9 := hP
        have hD9 := hD
        have hK9 := hK
        have n_nd := ki_nat o_5 rfl (by omega)
        exact W.iret (v := (-2)) hx hb hr (hlocks := hlocks) (fun t ht hW => ⟨⟨(-2), (o_4, o_5, o_6, o_7, o_8, o_9, o_10, o_11, o_12, o_13, o_14, o_15, o_16, o_17, o_18), rfl, ⟨Or.inl ⟨(by (try dsimp only); omega), w_3.1, mj_ask_no w_19.1 n_nd (by omega) (by omega)⟩, (fun _ => ⟨w_3.2.1, w_3.2.2.2.1⟩), w_3.2.2.1⟩, by rw [ht]; exact hP9, va_K.moved hW.alike hK9, hD9⟩, hS.F ht⟩) hS.2.2 dX4_node_45
    · exact absurd c_2 (by decide)
  · have w_1 : (p0.toInt < 0 ∨ p1.toInt ≤ p0.toInt ∨ len.toInt < p1.toInt) := w_1
    refine lv_if_ne (tgt := 14) hx hb dX4_node_9 (by decide) (fun c_22 => ?_) (fun c_22 => ?_)
    · exact absurd c_22 (by decide)
    · refine lv_iconst (v := (-1)) hx hb dX4_node_12 (by decide) ?_
      have hP9 := hP
      have hD9 := hD
      have hK9 := hK
      exact W.iret (v := (-1)) hx hb hr (hlocks := hlocks) (fun t ht hW => ⟨⟨(-1), (old, nodes, here, ff, ft, fs, fo, fe, uv, un, js, jl, je, jv, jn), rfl, ⟨Or.inr ⟨(by (try dsimp only); omega), rfl⟩, l0, s0⟩, by rw [ht]; exact hP9, va_K.moved hW.alike hK9, hD9⟩, hS.F ht⟩) hS.2.2 dX4_node_13

set_option maxHeartbeats 4000000 in
set_option maxRecDepth 100000 in
theorem c_X4_loss_x (l : Launch) (dC : Nat → ClassId) (dI : Nat → Nat → Nat) (m_ : Nat) (q_row : Nat) (q_t : Nat) (t_ : Nat) (h0 : Nat) (k0 : Nat) (w_ : Nat) (z_ : Nat) (slots : Int32) (old : Int32) (q_joined : Nat) (q_from : Nat) (q_to : Nat) (q_size : Nat) (q_lossOf : Nat) (q_lessBy : Nat) (q_value : Nat) (q_number : Nat) (nodes : Int32) (here : Int32) (q_cell : Nat) (cyI : ClassId) (len : Int32) (f : Nat → Int32) (ff : Nat → Int32) (ft : Nat → Int32) (fs : Nat → Int32) (fo : Nat → Int32) (uv : Nat → Int32) (un : Nat → Int32) (fe : Nat → Int32) (j_v : Nat) (j_n : Nat) (js : Int32) (jl : Int32) (je : Int32) (jv : Nat → Int32) (jn : Nat → Int32) (p0 : Int32) (p1 : Int32) (sz : Nat) (a0 : 0 ≤ len.toInt) (a1 : len.toInt ≤ 160) (s0 : sixes fs) (sl0 : 1 ≤ slots.toInt) (sl1 : slots.toInt ≤ 6) (l0 : laidX old slots here f ff ft fs fo fe uv un nodes len) : kx_MQ l (dC, dI) yX4_loss wsX4_loss ({ frames := 6, cells := 0, slots := 0, locals := 270 }) [.ref m_, .int p0, .int p1] [kx_4 m_ q_row q_t t_ h0 k0 w_ z_ slots old, kx_2 q_t q_row q_joined q_from q_to q_size q_lossOf q_lessBy q_value q_number nodes here, kx_0 q_row q_cell len, kx_a q_cell cyI 160 f, kx_a q_from cyI 319 ff, kx_a q_to cyI 319 ft, kx_a q_size cyI 319 fs, kx_a q_lossOf cyI 319 fo, kx_a q_lessBy cyI 319 fe, kx_a q_value cyI 1914 uv, kx_a q_number cyI 1914 un, kx_3 q_joined j_v j_n js jl je, kx_a j_v cyI 12 jv, kx_a j_n cyI 12 jn] [(cyI, .int)] sz (fun A => va_Qi (fun (r : Int32) (u : Int32 × Int32 × Int32 × (Nat → Int32) × (Nat → Int32) × (Nat → Int32) × (Nat → Int32) × (Nat → Int32) × (Nat → Int32) × (Nat → Int32) × Int32 × Int32 × Int32 × (Nat → Int32) × (Nat → Int32)) => (((0 ≤ p0.toInt ∧ p0.toInt < p1.toInt ∧ p1.toInt ≤ len.toInt) ∧ u.1.toInt = 0 ∧ mj_ask u.2.2.2.1 u.2.2.2.2.1 u.2.2.2.2.2.2.1 u.2.1.toInt p0.toInt p1.toInt r) ∨ ((p0.toInt < 0 ∨ p1.toInt ≤ p0.toInt ∨ len.toInt < p1.toInt) ∧ r = -1)) ∧ laidX u.1 slots u.2.2.1 f u.2.2.2.1 u.2.2.2.2.1 u.2.2.2.2.2.1 u.2.2.2.2.2.2.1 u.2.2.2.2.2.2.2.1 u.2.2.2.2.2.2.2.2.1 u.2.2.2.2.2.2.2.2.2.1 u.2.1 len ∧ sixes u.2.2.2.2.2.1) (fun (u : Int32 × Int32 × Int32 × (Nat → Int32) × (Nat → Int32) × (Nat → Int32) × (Nat → Int32) × (Nat → Int32) × (Nat → Int32) × (Nat → Int32) × Int32 × Int32 × Int32 × (Nat → Int32) × (Nat → Int32)) (t : State) => va_P (dC, dI) vwCl [kx_4 m_ q_row q_t t_ h0 k0 w_ z_ slots u.1, kx_2 q_t q_row q_joined q_from q_to q_size q_lossOf q_lessBy q_value q_number u.2.1 u.2.2.1, kx_0 q_row q_cell len, kx_a q_cell cyI 160 f, kx_a q_from cyI 319 u.2.2.2.1, kx_a q_to cyI 319 u.2.2.2.2.1, kx_a q_size cyI 319 u.2.2.2.2.2.1, kx_a q_lossOf cyI 319 u.2.2.2.2.2.2.1, kx_a q_lessBy cyI 319 u.2.2.2.2.2.2.2.1, kx_a q_value cyI 1914 u.2.2.2.2.2.2.2.2.1, kx_a q_number cyI 1914 u.2.2.2.2.2.2.2.2.2.1, kx_3 q_joined j_v j_n u.2.2.2.2.2.2.2.2.2.2.1 u.2.2.2.2.2.2.2.2.2.2.2.1 u.2.2.2.2.2.2.2.2.2.2.2.2.1, kx_a j_v cyI 12 u.2.2.2.2.2.2.2.2.2.2.2.2.2.1, kx_a j_n cyI 12 u.2.2.2.2.2.2.2.2.2.2.2.2.2.2] t.heap ∧ va_K (dC, dI) vwCl [(cyI, .int)] t ∧ va_D A [kx_4 m_ q_row q_t t_ h0 k0 w_ z_ slots u.1, kx_2 q_t q_row q_joined q_from q_to q_size q_lossOf q_lessBy q_value q_number u.2.1 u.2.2.1, kx_0 q_row q_cell len, kx_a q_cell cyI 160 f, kx_a q_from cyI 319 u.2.2.2.1, kx_a q_to cyI 319 u.2.2.2.2.1, kx_a q_size cyI 319 u.2.2.2.2.2.1, kx_a q_lossOf cyI 319 u.2.2.2.2.2.2.1, kx_a q_lessBy cyI 319 u.2.2.2.2.2.2.2.1, kx_a q_value cyI 1914 u.2.2.2.2.2.2.2.2.1, kx_a q_number cyI 1914 u.2.2.2.2.2.2.2.2.2.1, kx_3 q_joined j_v j_n u.2.2.2.2.2.2.2.2.2.2.1 u.2.2.2.2.2.2.2.2.2.2.2.1 u.2.2.2.2.2.2.2.2.2.2.2.2.1, kx_a j_v cyI 12 u.2.2.2.2.2.2.2.2.2.2.2.2.2.1, kx_a j_n cyI 12 u.2.2.2.2.2.2.2.2.2.2.2.2.2.2]) A) := by
  refine kx_stQ (ws := wsX4_loss) (cc := cX4_loss) (maxL := 5) (ret := (some .int)) (by decide) rfl (Nat.le_of_ble_eq_true rfl) ?_
  intro p e s m below meth c A ls hx hb hr hlocks hts hown hml hA hS hP hK hD hl
  have hown : s.vm.findClass RX4 = some m.cls := hown
  have hl : lv_has ls 5 [(0, .ref m_), (1, .int p0), (2, .int p1)] := hl
  have hf_12 := hts (.fieldLink RX4 12 "MajorityIndex" "row" "LMajorityIndex$Row;") (List.mem_of_getElem? (i := 1) rfl)
  have hi_4 : ∀ w ∈ u_ws RX4 TX4 9, w ∈ wsX4_loss := fun w h => List.mem_cons_of_mem _ (List.mem_append_left _ (List.mem_append_left _ (List.mem_append_left _ (List.mem_append_right _ h))))
  have hf_139 := hts (.fieldLink RX4 139 "MajorityIndex$Tree" "lossOf" "[I") (List.mem_of_getElem? (i := 2) rfl)
  have hi_2 : ∀ w ∈ u_ws RX2 TX2 11, w ∈ wsX4_loss := fun w h => List.mem_cons_of_mem _ (List.mem_append_left _ (List.mem_append_left _ (List.mem_append_right _ h)))
  refine lv_aload_n hx hb dX4_loss_0 rfl (lv_at hl 0 rfl) ?_
  refine va_get (D := (dC, dI)) (ci := 4) (v := .ref q_row) (C := RX4) (T := TX4) (N := 9) hx hb hts hi_4 hown hK hP 0 rfl rfl 0 (by decide) hf_12 (fun _ h9 => h9) rfl dX4_loss_1 ?_
  refine lv_iload_n hx hb dX4_loss_4 rfl (lv_at hl 1 rfl) ?_
  refine lv_iload_n hx hb dX4_loss_5 rfl (lv_at hl 2 rfl) ?_
  have hPc := hP.sub (ws' := [kx_0 q_row q_cell len]) [2] rfl
  have hKc := hK.sub (tys' := []) [] rfl
  refine vp_callSi (W.runV (As := [.int p0, .int p1]) (rest := []) ⟨hx, hb, hml, hown, hts⟩ (c_X0_hasRange l dC dI q_row q_cell len p0 p1) (cwV 2 hts gX4_loss_X0_hasRange rfl rfl rfl (by decide +kernel) ⟨Nat.le_of_ble_eq_true rfl, Nat.le_of_ble_eq_true rfl⟩) ⟨fun a U g mk q => by obtain ⟨q0, qP, qK⟩ := q; exact ⟨q0, qP, va_K.moved (u := U) (U := U.calling g mk a) (Vm.Alike.refl U.vm) qK⟩, kx_rc0 hKc hPc (q0 := 0) rfl, fun U hU hW => ⟨rfl, by rw [hU]; exact hPc, va_K.moved hW.alike hKc⟩⟩ rfl rfl hl.1 rfl (lv_room (Nat.le_of_ble_eq_true rfl)) dX4_loss_6 ⟨Nat.le_of_ble_eq_true rfl, Nat.le_of_ble_eq_true rfl⟩) (fun r_1 w_1 => ?_)
  rcases w_1 with ⟨rfl, w_1⟩ | ⟨rfl, w_1⟩
  · have w_1 : (0 ≤ p0.toInt ∧ p0.toInt < p1.toInt ∧ p1.toInt ≤ len.toInt) := w_1
    refine lv_if_ne (tgt := 14) hx hb dX4_loss_9 (by decide) (fun c_2 => ?_) (fun c_2 => ?_)
    · refine lv_aload_n hx hb dX4_loss_14 rfl (lv_at hl 0 rfl) ?_
      have hPc := hP
      have hKc := hK
      have hDc := hD
      have hFc := kx_free hD hS hA
      refine va_callr (va_runV (As := []) (rest := []) ⟨hx, hb, hml, hown, hts⟩ (kx_un (c_X4_laidTree_x l dC dI m_ q_row q_t t_ h0 k0 w_ z_ slots old q_joined q_from q_to q_size q_lossOf q_lessBy q_value q_number nodes here q_cell cyI len f ff ft fs fo uv un fe j_v j_n js jl je jv jn s.heap.size a0 a1 s0 sl0 sl1 l0)) (cwV 0 hts gX4_loss_X4_laidTree rfl rfl rfl (by decide +kernel) ⟨Nat.le_of_ble_eq_true rfl, Nat.le_of_ble_eq_true rfl⟩) ⟨fun a U g mk q => by obtain ⟨q0, q1, qP, qK, qD⟩ := q; exact ⟨q0, q1, qP, va_K.moved (u := U) (U := U.calling g mk a) (Vm.Alike.refl U.vm) qK, qD⟩, kx_rc4 hKc hPc (q0 := 0) rfl, fun U hU hW => ⟨rfl, by rw [hU], by rw [hU]; exact hPc, va_K.moved hW.alike hKc, hDc.weaken (fun _ _ _ _ => trivial)⟩⟩ rfl rfl hl.1 rfl (lv_room (Nat.le_of_ble_eq_true rfl)) dX4_loss_15 ⟨Nat.le_of_ble_eq_true rfl, Nat.le_of_ble_eq_true rfl⟩) hS (fun q _ h => hFc q h) hFc (fun u ra t H1 locs ht hvm w_3 hB hz1 hk1 hS => ?_)
      obtain ⟨o_4, o_5, o_6, o_7, o_8, o_9, o_10, o_11, o_12, o_13, o_14, o_15, o_16, o_17, o_18⟩ := u
      dsimp only at w_3 hB
      obtain ⟨er, hP1, hK1, hD1⟩ := hB
      rw [ht] at hP1
      have hK1 := va_K.moved hvm.symm hK1
      have hD := hD1.weaken (fun _ q _ h => hFc q.1 h)
      have hP := hP1
      clear hP1 hD1 hK1 hk1 hz1 hFc hDc hPc hKc
      generalize H1 = H at hP hS ⊢
      have w_3 : o_4.toInt = 0 ∧ o_6 = slots ∧ sixes o_9 ∧ mj_C slots.toNatClampNeg f o_7 o_8 o_9 o_10 o_11 o_12 o_13 o_5.toInt len.toInt ∧ 0 ≤ o_5.toInt ∧ o_5.toInt ≤ 319 ∧ treeOk o_7 o_8 o_5.toInt len.toInt := w_3
      rw [er]
      refine lv_astore_n (lv' := [(3, .ref q_t), (0, .ref m_), (1, .int p0), (2, .int p1)]) hx hb dX4_loss_18 rfl hl (by decide) rfl (fun ls hl => ?_)
      refine lv_aload_n hx hb dX4_loss_19 rfl (lv_at hl 0 rfl) ?_
      refine lv_iload_n hx hb dX4_loss_20 rfl (lv_at hl 2 rfl) ?_
      refine lv_iload_n hx hb dX4_loss_21 rfl (lv_at hl 3 rfl) ?_
      have hPc := hP.sub (ws' := [kx_2 q_t q_row q_joined q_from q_to q_size q_lossOf q_lessBy q_value q_number o_5 o_6, kx_a q_from cyI 319 o_7, kx_a q_to cyI 319 o_8]) [1, 4, 5] rfl
      have hKc := hK
      refine vp_callSi (W.runV (As := [.int p0, .int p1]) (rest := []) ⟨hx, hb, hml, hown, hts⟩ (c_X2_find_x l dC dI q_t q_row q_joined q_from q_to q_size q_lossOf q_lessBy q_value q_number o_5 o_6 cyI o_7 o_8 p0 p1 w_3.2.2.2.2.1 w_3.2.2.2.2.2.1) (cwV 2 hts gX4_loss_X2_find rfl rfl rfl (by decide +kernel) ⟨Nat.le_of_ble_eq_true rfl, Nat.le_of_ble_eq_true rfl⟩) ⟨fun a U g mk q => by obtain ⟨q0, qP, qK⟩ := q; exact ⟨q0, qP, va_K.moved (u := U) (U := U.calling g mk a) (Vm.Alike.refl U.vm) qK⟩, kx_rc2 hKc hPc (q0 := 0) rfl, fun U hU hW => ⟨rfl, by rw [hU]; exact hPc, va_K.moved hW.alike hKc⟩⟩ rfl rfl hl.1 rfl (lv_room (Nat.le_of_ble_eq_true rfl)) dX4_loss_22 ⟨Nat.le_of_ble_eq_true rfl, Nat.le_of_ble_eq_true rfl⟩) (fun r_19 w_19 => ?_)
      have w_19 : mj_first (fun k => (o_7 k).toInt = p0.toInt ∧ (o_8 k).toInt = p1.toInt) 0 o_5.toNatClampNeg (-1) r_19.toInt ∧ (r_19.toInt = -1 ∨ (0 ≤ r_19.toInt ∧ r_19.toInt < o_5.toInt)) := w_19
      refine lv_istore (lv' := [(4, .int r_19), (3, .ref q_t), (0, .ref m_), (1, .int p0), (2, .int p1)]) hx hb dX4_loss_25 hl (by decide) rfl (fun ls hl => ?_)
      refine lv_iload hx hb dX4_loss_27 (lv_at hl 0 rfl) ?_
      refine lv_iconst (v := (-1)) hx hb dX4_loss_29 (by decide) ?_
      refine lv_icmp_ne (tgt := 38) hx hb dX4_loss_30 (by decide) (fun c_20 => ?_) (fun c_20 => ?_)
      · have i_20 : ¬ r_19.toInt = (-1) := kc_ne c_20
        refine lv_aload_n hx hb dX4_loss_38 rfl (lv_at hl 1 rfl) ?_
        refine va_get (D := (dC, dI)) (ci := 2) (v := .ref q_lossOf) (C := RX2) (T := TX2) (N := 11) hx hb hts hi_2 hown hK hP 1 rfl rfl 5 (by decide) hf_139 (fun _ h9 => h9) rfl dX4_loss_39 ?_
        refine lv_iload hx hb dX4_loss_42 (lv_at hl 0 rfl) ?_
        refine va_iald hx hb hK hP 7 0 rfl rfl (ki_in (by omega) (by omega)) dX4_loss_44 ?_
        refine lv_topi (fun y_21 ey_21 => ?_)
        have j_21 : y_21.toInt = (o_10 r_19.toNatClampNeg).toInt := congrArg Int32.toInt ey_21
        have hP9 := hP
        have hD9 := hD
        have hK9 := hK
        have n_nd := ki_nat o_5 rfl (by omega)
        exact W.iret (v := y_21) hx hb hr (hlocks := hlocks) (fun t ht hW => ⟨⟨y_21, (o_4, o_5, o_6, o_7, o_8, o_9, o_10, o_11, o_12, o_13, o_14, o_15, o_16, o_17, o_18), rfl, ⟨Or.inl ⟨(by (try dsimp only); omega), w_3.1, mj_ask_yes w_19.1 n_nd (by omega) ey_21⟩, (fun _ => ⟨w_3.2.1, w_3.2.2.2.1⟩), w_3.2.2.1⟩, by rw [ht]; exact hP9, va_K.moved hW.alike hK9, hD9⟩, hS.F ht⟩) hS.2.2 dX4_loss_45
      · have i_20 : r_19.toInt = (-1) := kc_eq c_20
        refine lv_bipush (v := (-2)) hx hb dX4_loss_33 (by decide) ?_
        refine lv_goto (tgt := 45) hx hb dX4_loss_35 (by decide) ?_
        have hP9 := hP
        have hD9 := hD
        have hK9 := hK
        have n_nd := ki_nat o_5 rfl (by omega)
        exact W.iret (v := (-2)) hx hb hr (hlocks := hlocks) (fun t ht hW => ⟨⟨(-2), (o_4, o_5, o_6, o_7, o_8, o_9, o_10, o_11, o_12, o_13, o_14, o_15, o_16, o_17, o_18), rfl, ⟨Or.inl ⟨(by (try dsimp only); omega), w_3.1, mj_ask_no w_19.1 n_nd (by omega) (by omega)⟩, (fun _ => ⟨w_3.2.1, w_3.2.2.2.1⟩), w_3.2.2.1⟩, by rw [ht]; exact hP9, va_K.moved hW.alike hK9, hD9⟩, hS.F ht⟩) hS.2.2 dX4_loss_45
    · exact absurd c_2 (by decide)
  · have w_1 : (p0.toInt < 0 ∨ p1.toInt ≤ p0.toInt ∨ len.toInt < p1.toInt) := w_1
    refine lv_if_ne (tgt := 14) hx hb dX4_loss_9 (by decide) (fun c_22 => ?_) (fun c_22 => ?_)
    · exact absurd c_22 (by decide)
    · refine lv_iconst (v := (-1)) hx hb dX4_loss_12 (by decide) ?_
      have hP9 := hP
      have hD9 := hD
      have hK9 := hK
      exact W.iret (v := (-1)) hx hb hr (hlocks := hlocks) (fun t ht hW => ⟨⟨(-1), (old, nodes, here, ff, ft, fs, fo, fe, uv, un, js, jl, je, jv, jn), rfl, ⟨Or.inr ⟨(by (try dsimp only); omega), rfl⟩, l0, s0⟩, by rw [ht]; exact hP9, va_K.moved hW.alike hK9, hD9⟩, hS.F ht⟩) hS.2.2 dX4_loss_13

set_option maxHeartbeats 4000000 in
set_option maxRecDepth 100000 in
theorem c_X4_cancelled_x (l : Launch) (dC : Nat → ClassId) (dI : Nat → Nat → Nat) (m_ : Nat) (q_row : Nat) (q_t : Nat) (t_ : Nat) (h0 : Nat) (k0 : Nat) (w_ : Nat) (z_ : Nat) (slots : Int32) (old : Int32) (q_joined : Nat) (q_from : Nat) (q_to : Nat) (q_size : Nat) (q_lossOf : Nat) (q_lessBy : Nat) (q_value : Nat) (q_number : Nat) (nodes : Int32) (here : Int32) (q_cell : Nat) (cyI : ClassId) (len : Int32) (f : Nat → Int32) (ff : Nat → Int32) (ft : Nat → Int32) (fs : Nat → Int32) (fo : Nat → Int32) (uv : Nat → Int32) (un : Nat → Int32) (fe : Nat → Int32) (j_v : Nat) (j_n : Nat) (js : Int32) (jl : Int32) (je : Int32) (jv : Nat → Int32) (jn : Nat → Int32) (p0 : Int32) (p1 : Int32) (sz : Nat) (a0 : 0 ≤ len.toInt) (a1 : len.toInt ≤ 160) (s0 : sixes fs) (sl0 : 1 ≤ slots.toInt) (sl1 : slots.toInt ≤ 6) (l0 : laidX old slots here f ff ft fs fo fe uv un nodes len) : kx_MQ l (dC, dI) yX4_cancelled wsX4_cancelled ({ frames := 6, cells := 0, slots := 0, locals := 270 }) [.ref m_, .int p0, .int p1] [kx_4 m_ q_row q_t t_ h0 k0 w_ z_ slots old, kx_2 q_t q_row q_joined q_from q_to q_size q_lossOf q_lessBy q_value q_number nodes here, kx_0 q_row q_cell len, kx_a q_cell cyI 160 f, kx_a q_from cyI 319 ff, kx_a q_to cyI 319 ft, kx_a q_size cyI 319 fs, kx_a q_lossOf cyI 319 fo, kx_a q_lessBy cyI 319 fe, kx_a q_value cyI 1914 uv, kx_a q_number cyI 1914 un, kx_3 q_joined j_v j_n js jl je, kx_a j_v cyI 12 jv, kx_a j_n cyI 12 jn] [(cyI, .int)] sz (fun A => va_Qi (fun (r : Int32) (u : Int32 × Int32 × Int32 × (Nat → Int32) × (Nat → Int32) × (Nat → Int32) × (Nat → Int32) × (Nat → Int32) × (Nat → Int32) × (Nat → Int32) × Int32 × Int32 × Int32 × (Nat → Int32) × (Nat → Int32)) => (((0 ≤ p0.toInt ∧ p0.toInt < p1.toInt ∧ p1.toInt ≤ len.toInt) ∧ u.1.toInt = 0 ∧ mj_ask u.2.2.2.1 u.2.2.2.2.1 u.2.2.2.2.2.2.2.1 u.2.1.toInt p0.toInt p1.toInt r) ∨ ((p0.toInt < 0 ∨ p1.toInt ≤ p0.toInt ∨ len.toInt < p1.toInt) ∧ r = -1)) ∧ laidX u.1 slots u.2.2.1 f u.2.2.2.1 u.2.2.2.2.1 u.2.2.2.2.2.1 u.2.2.2.2.2.2.1 u.2.2.2.2.2.2.2.1 u.2.2.2.2.2.2.2.2.1 u.2.2.2.2.2.2.2.2.2.1 u.2.1 len ∧ sixes u.2.2.2.2.2.1) (fun (u : Int32 × Int32 × Int32 × (Nat → Int32) × (Nat → Int32) × (Nat → Int32) × (Nat → Int32) × (Nat → Int32) × (Nat → Int32) × (Nat → Int32) × Int32 × Int32 × Int32 × (Nat → Int32) × (Nat → Int32)) (t : State) => va_P (dC, dI) vwCl [kx_4 m_ q_row q_t t_ h0 k0 w_ z_ slots u.1, kx_2 q_t q_row q_joined q_from q_to q_size q_lossOf q_lessBy q_value q_number u.2.1 u.2.2.1, kx_0 q_row q_cell len, kx_a q_cell cyI 160 f, kx_a q_from cyI 319 u.2.2.2.1, kx_a q_to cyI 319 u.2.2.2.2.1, kx_a q_size cyI 319 u.2.2.2.2.2.1, kx_a q_lossOf cyI 319 u.2.2.2.2.2.2.1, kx_a q_lessBy cyI 319 u.2.2.2.2.2.2.2.1, kx_a q_value cyI 1914 u.2.2.2.2.2.2.2.2.1, kx_a q_number cyI 1914 u.2.2.2.2.2.2.2.2.2.1, kx_3 q_joined j_v j_n u.2.2.2.2.2.2.2.2.2.2.1 u.2.2.2.2.2.2.2.2.2.2.2.1 u.2.2.2.2.2.2.2.2.2.2.2.2.1, kx_a j_v cyI 12 u.2.2.2.2.2.2.2.2.2.2.2.2.2.1, kx_a j_n cyI 12 u.2.2.2.2.2.2.2.2.2.2.2.2.2.2] t.heap ∧ va_K (dC, dI) vwCl [(cyI, .int)] t ∧ va_D A [kx_4 m_ q_row q_t t_ h0 k0 w_ z_ slots u.1, kx_2 q_t q_row q_joined q_from q_to q_size q_lossOf q_lessBy q_value q_number u.2.1 u.2.2.1, kx_0 q_row q_cell len, kx_a q_cell cyI 160 f, kx_a q_from cyI 319 u.2.2.2.1, kx_a q_to cyI 319 u.2.2.2.2.1, kx_a q_size cyI 319 u.2.2.2.2.2.1, kx_a q_lossOf cyI 319 u.2.2.2.2.2.2.1, kx_a q_lessBy cyI 319 u.2.2.2.2.2.2.2.1, kx_a q_value cyI 1914 u.2.2.2.2.2.2.2.2.1, kx_a q_number cyI 1914 u.2.2.2.2.2.2.2.2.2.1, kx_3 q_joined j_v j_n u.2.2.2.2.2.2.2.2.2.2.1 u.2.2.2.2.2.2.2.2.2.2.2.1 u.2.2.2.2.2.2.2.2.2.2.2.2.1, kx_a j_v cyI 12 u.2.2.2.2.2.2.2.2.2.2.2.2.2.1, kx_a j_n cyI 12 u.2.2.2.2.2.2.2.2.2.2.2.2.2.2]) A) := by
  refine kx_stQ (ws := wsX4_cancelled) (cc := cX4_cancelled) (maxL := 5) (ret := (some .int)) (by decide) rfl (Nat.le_of_ble_eq_true rfl) ?_
  intro p e s m below meth c A ls hx hb hr hlocks hts hown hml hA hS hP hK hD hl
  have hown : s.vm.findClass RX4 = some m.cls := hown
  have hl : lv_has ls 5 [(0, .ref m_), (1, .int p0), (2, .int p1)] := hl
  have hf_12 := hts (.fieldLink RX4 12 "MajorityIndex" "row" "LMajorityIndex$Row;") (List.mem_of_getElem? (i := 1) rfl)
  have hi_4 : ∀ w ∈ u_ws RX4 TX4 9, w ∈ wsX4_cancelled := fun w h => List.mem_cons_of_mem _ (List.mem_append_left _ (List.mem_append_left _ (List.mem_append_left _ (List.mem_append_right _ h))))
  have hf_142 := hts (.fieldLink RX4 142 "MajorityIndex$Tree" "lessBy" "[I") (List.mem_of_getElem? (i := 2) rfl)
  have hi_2 : ∀ w ∈ u_ws RX2 TX2 11, w ∈ wsX4_cancelled := fun w h => List.mem_cons_of_mem _ (List.mem_append_left _ (List.mem_append_left _ (List.mem_append_right _ h)))
  refine lv_aload_n hx hb dX4_cancelled_0 rfl (lv_at hl 0 rfl) ?_
  refine va_get (D := (dC, dI)) (ci := 4) (v := .ref q_row) (C := RX4) (T := TX4) (N := 9) hx hb hts hi_4 hown hK hP 0 rfl rfl 0 (by decide) hf_12 (fun _ h9 => h9) rfl dX4_cancelled_1 ?_
  refine lv_iload_n hx hb dX4_cancelled_4 rfl (lv_at hl 1 rfl) ?_
  refine lv_iload_n hx hb dX4_cancelled_5 rfl (lv_at hl 2 rfl) ?_
  have hPc := hP.sub (ws' := [kx_0 q_row q_cell len]) [2] rfl
  have hKc := hK.sub (tys' := []) [] rfl
  refine vp_callSi (W.runV (As := [.int p0, .int p1]) (rest := []) ⟨hx, hb, hml, hown, hts⟩ (c_X0_hasRange l dC dI q_row q_cell len p0 p1) (cwV 2 hts gX4_cancelled_X0_hasRange rfl rfl rfl (by decide +kernel) ⟨Nat.le_of_ble_eq_true rfl, Nat.le_of_ble_eq_true rfl⟩) ⟨fun a U g mk q => by obtain ⟨q0, qP, qK⟩ := q; exact ⟨q0, qP, va_K.moved (u := U) (U := U.calling g mk a) (Vm.Alike.refl U.vm) qK⟩, kx_rc0 hKc hPc (q0 := 0) rfl, fun U hU hW => ⟨rfl, by rw [hU]; exact hPc, va_K.moved hW.alike hKc⟩⟩ rfl rfl hl.1 rfl (lv_room (Nat.le_of_ble_eq_true rfl)) dX4_cancelled_6 ⟨Nat.le_of_ble_eq_true rfl, Nat.le_of_ble_eq_true rfl⟩) (fun r_1 w_1 => ?_)
  rcases w_1 with ⟨rfl, w_1⟩ | ⟨rfl, w_1⟩
  · have w_1 : (0 ≤ p0.toInt ∧ p0.toInt < p1.toInt ∧ p1.toInt ≤ len.toInt) := w_1
    refine lv_if_ne (tgt := 14) hx hb dX4_cancelled_9 (by decide) (fun c_2 => ?_) (fun c_2 => ?_)
    · refine lv_aload_n hx hb dX4_cancelled_14 rfl (lv_at hl 0 rfl) ?_
      have hPc := hP
      have hKc := hK
      have hDc := hD
      have hFc := kx_free hD hS hA
      refine va_callr (va_runV (As := []) (rest := []) ⟨hx, hb, hml, hown, hts⟩ (kx_un (c_X4_laidTree_x l dC dI m_ q_row q_t t_ h0 k0 w_ z_ slots old q_joined q_from q_to q_size q_lossOf q_lessBy q_value q_number nodes here q_cell cyI len f ff ft fs fo uv un fe j_v j_n js jl je jv jn s.heap.size a0 a1 s0 sl0 sl1 l0)) (cwV 0 hts gX4_cancelled_X4_laidTree rfl rfl rfl (by decide +kernel) ⟨Nat.le_of_ble_eq_true rfl, Nat.le_of_ble_eq_true rfl⟩) ⟨fun a U g mk q => by obtain ⟨q0, q1, qP, qK, qD⟩ := q; exact ⟨q0, q1, qP, va_K.moved (u := U) (U := U.calling g mk a) (Vm.Alike.refl U.vm) qK, qD⟩, kx_rc4 hKc hPc (q0 := 0) rfl, fun U hU hW => ⟨rfl, by rw [hU], by rw [hU]; exact hPc, va_K.moved hW.alike hKc, hDc.weaken (fun _ _ _ _ => trivial)⟩⟩ rfl rfl hl.1 rfl (lv_room (Nat.le_of_ble_eq_true rfl)) dX4_cancelled_15 ⟨Nat.le_of_ble_eq_true rfl, Nat.le_of_ble_eq_true rfl⟩) hS (fun q _ h => hFc q h) hFc (fun u ra t H1 locs ht hvm w_3 hB hz1 hk1 hS => ?_)
      obtain ⟨o_4, o_5, o_6, o_7, o_8, o_9, o_10, o_11, o_12, o_13, o_14, o_15, o_16, o_17, o_18⟩ := u
      dsimp only at w_3 hB
      obtain ⟨er, hP1, hK1, hD1⟩ := hB
      rw [ht] at hP1
      have hK1 := va_K.moved hvm.symm hK1
      have hD := hD1.weaken (fun _ q _ h => hFc q.1 h)
      have hP := hP1
      clear hP1 hD1 hK1 hk1 hz1 hFc hDc hPc hKc
      generalize H1 = H at hP hS ⊢
      have w_3 : o_4.toInt = 0 ∧ o_6 = slots ∧ sixes o_9 ∧ mj_C slots.toNatClampNeg f o_7 o_8 o_9 o_10 o_11 o_12 o_13 o_5.toInt len.toInt ∧ 0 ≤ o_5.toInt ∧ o_5.toInt ≤ 319 ∧ treeOk o_7 o_8 o_5.toInt len.toInt := w_3
      rw [er]
      refine lv_astore_n (lv' := [(3, .ref q_t), (0, .ref m_), (1, .int p0), (2, .int p1)]) hx hb dX4_cancelled_18 rfl hl (by decide) rfl (fun ls hl => ?_)
      refine lv_aload_n hx hb dX4_cancelled_19 rfl (lv_at hl 0 rfl) ?_
      refine lv_iload_n hx hb dX4_cancelled_20 rfl (lv_at hl 2 rfl) ?_
      refine lv_iload_n hx hb dX4_cancelled_21 rfl (lv_at hl 3 rfl) ?_
      have hPc := hP.sub (ws' := [kx_2 q_t q_row q_joined q_from q_to q_size q_lossOf q_lessBy q_value q_number o_5 o_6, kx_a q_from cyI 319 o_7, kx_a q_to cyI 319 o_8]) [1, 4, 5] rfl
      have hKc := hK
      refine vp_callSi (W.runV (As := [.int p0, .int p1]) (rest := []) ⟨hx, hb, hml, hown, hts⟩ (c_X2_find_x l dC dI q_t q_row q_joined q_from q_to q_size q_lossOf q_lessBy q_value q_number o_5 o_6 cyI o_7 o_8 p0 p1 w_3.2.2.2.2.1 w_3.2.2.2.2.2.1) (cwV 2 hts gX4_cancelled_X2_find rfl rfl rfl (by decide +kernel) ⟨Nat.le_of_ble_eq_true rfl, Nat.le_of_ble_eq_true rfl⟩) ⟨fun a U g mk q => by obtain ⟨q0, qP, qK⟩ := q; exact ⟨q0, qP, va_K.moved (u := U) (U := U.calling g mk a) (Vm.Alike.refl U.vm) qK⟩, kx_rc2 hKc hPc (q0 := 0) rfl, fun U hU hW => ⟨rfl, by rw [hU]; exact hPc, va_K.moved hW.alike hKc⟩⟩ rfl rfl hl.1 rfl (lv_room (Nat.le_of_ble_eq_true rfl)) dX4_cancelled_22 ⟨Nat.le_of_ble_eq_true rfl, Nat.le_of_ble_eq_true rfl⟩) (fun r_19 w_19 => ?_)
      have w_19 : mj_first (fun k => (o_7 k).toInt = p0.toInt ∧ (o_8 k).toInt = p1.toInt) 0 o_5.toNatClampNeg (-1) r_19.toInt ∧ (r_19.toInt = -1 ∨ (0 ≤ r_19.toInt ∧ r_19.toInt < o_5.toInt)) := w_19
      refine lv_istore (lv' := [(4, .int r_19), (3, .ref q_t), (0, .ref m_), (1, .int p0), (2, .int p1)]) hx hb dX4_cancelled_25 hl (by decide) rfl (fun ls hl => ?_)
      refine lv_iload hx hb dX4_cancelled_27 (lv_at hl 0 rfl) ?_
      refine lv_iconst (v := (-1)) hx hb dX4_cancelled_29 (by decide) ?_
      refine lv_icmp_ne (tgt := 38) hx hb dX4_cancelled_30 (by decide) (fun c_20 => ?_) (fun c_20 => ?_)
      · have i_20 : ¬ r_19.toInt = (-1) := kc_ne c_20
        refine lv_aload_n hx hb dX4_cancelled_38 rfl (lv_at hl 1 rfl) ?_
        refine va_get (D := (dC, dI)) (ci := 2) (v := .ref q_lessBy) (C := RX2) (T := TX2) (N := 11) hx hb hts hi_2 hown hK hP 1 rfl rfl 6 (by decide) hf_142 (fun _ h9 => h9) rfl dX4_cancelled_39 ?_
        refine lv_iload hx hb dX4_cancelled_42 (lv_at hl 0 rfl) ?_
        refine va_iald hx hb hK hP 8 0 rfl rfl (ki_in (by omega) (by omega)) dX4_cancelled_44 ?_
        refine lv_topi (fun y_21 ey_21 => ?_)
        have j_21 : y_21.toInt = (o_11 r_19.toNatClampNeg).toInt := congrArg Int32.toInt ey_21
        have hP9 := hP
        have hD9 := hD
        have hK9 := hK
        have n_nd := ki_nat o_5 rfl (by omega)
        exact W.iret (v := y_21) hx hb hr (hlocks := hlocks) (fun t ht hW => ⟨⟨y_21, (o_4, o_5, o_6, o_7, o_8, o_9, o_10, o_11, o_12, o_13, o_14, o_15, o_16, o_17, o_18), rfl, ⟨Or.inl ⟨(by (try dsimp only); omega), w_3.1, mj_ask_yes w_19.1 n_nd (by omega) ey_21⟩, (fun _ => ⟨w_3.2.1, w_3.2.2.2.1⟩), w_3.2.2.1⟩, by rw [ht]; exact hP9, va_K.moved hW.alike hK9, hD9⟩, hS.F ht⟩) hS.2.2 dX4_cancelled_45
      · have i_20 : r_19.toInt = (-1) := kc_eq c_20
        refine lv_bipush (v := (-2)) hx hb dX4_cancelled_33 (by decide) ?_
        refine lv_goto (tgt := 45) hx hb dX4_cancelled_35 (by decide) ?_
        have hP9 := hP
        have hD9 := hD
        have hK9 := hK
        have n_nd := ki_nat o_5 rfl (by omega)
        exact W.iret (v := (-2)) hx hb hr (hlocks := hlocks) (fun t ht hW => ⟨⟨(-2), (o_4, o_5, o_6, o_7, o_8, o_9, o_10, o_11, o_12, o_13, o_14, o_15, o_16, o_17, o_18), rfl, ⟨Or.inl ⟨(by (try dsimp only); omega), w_3.1, mj_ask_no w_19.1 n_nd (by omega) (by omega)⟩, (fun _ => ⟨w_3.2.1, w_3.2.2.2.1⟩), w_3.2.2.1⟩, by rw [ht]; exact hP9, va_K.moved hW.alike hK9, hD9⟩, hS.F ht⟩) hS.2.2 dX4_cancelled_45
    · exact absurd c_2 (by decide)
  · have w_1 : (p0.toInt < 0 ∨ p1.toInt ≤ p0.toInt ∨ len.toInt < p1.toInt) := w_1
    refine lv_if_ne (tgt := 14) hx hb dX4_cancelled_9 (by decide) (fun c_22 => ?_) (fun c_22 => ?_)
    · exact absurd c_22 (by decide)
    · refine lv_iconst (v := (-1)) hx hb dX4_cancelled_12 (by decide) ?_
      have hP9 := hP
      have hD9 := hD
      have hK9 := hK
      exact W.iret (v := (-1)) hx hb hr (hlocks := hlocks) (fun t ht hW => ⟨⟨(-1), (old, nodes, here, ff, ft, fs, fo, fe, uv, un, js, jl, je, jv, jn), rfl, ⟨Or.inr ⟨(by (try dsimp only); omega), rfl⟩, l0, s0⟩, by rw [ht]; exact hP9, va_K.moved hW.alike hK9, hD9⟩, hS.F ht⟩) hS.2.2 dX4_cancelled_13



/-! the summary of a range, of the class -/
theorem mj_ok_vs {K : Nat} {f ff ft fs fo fe uv un : Nat → Int32} {nd n : Int} {k : Nat} (h : mj_ok K f ff ft fs fo fe uv un k) (ht : treeOk ff ft nd n) (hk : (k : Int) < nd) (hn : n ≤ 160) : 0 ≤ (fs k).toInt ∧ (fs k).toInt ≤ 6 ∧ (fs k).toInt ≤ (K : Int) ∧ ∃ μ : Int32 → Int, mj_vs uv un (6 * k) (fs k).toNatClampNeg μ ∧ mj_srt uv un (6 * k) (fs k).toNatClampNeg ∧ ∀ v : Int32, 0 ≤ μ v ∧ μ v ≤ 160 := by
  obtain ⟨d, μ, L, c, t⟩ := h
  obtain ⟨a1, a2, a3, a4⟩ := ht k hk
  have n1 := ki_nat (ff k) rfl a1
  have n2 := ki_nat (ft k) rfl (by omega)
  have b := mj_T_nd t
  refine ⟨b.2.2.1, b.2.2.2.1, b.2.2.2.2.1, μ, b.2.2.2.2.2.2.2.1, b.2.2.2.2.2.2.2.2, fun v => ?_⟩
  have := mj_T_le _ _ _ _ _ _ _ t v
  omega
def mj_GA (K : Nat) (ff ft fs fo uv un : Nat → Int32) (l r : Int) (j : Nat) (vs lo : Int32) (fv fn : Nat → Int32) : Prop := ∃ (μ : Int32 → Int) (L : Int32), mj_H K ff ft fs fo uv un l r j μ L ∧ mj_vs fv fn 0 vs.toNatClampNeg μ ∧ mj_srt fv fn 0 vs.toNatClampNeg ∧ 0 ≤ vs.toInt ∧ vs.toInt ≤ (K : Int) ∧ lo = L ∧ ∀ v : Int32, 0 ≤ μ v ∧ μ v ≤ 160 * (j : Int)
theorem mj_GA_0 (K : Nat) (ff ft fs fo uv un : Nat → Int32) (l r : Int) (fv fn : Nat → Int32) {j : Nat} (h : j = 0) : mj_GA K ff ft fs fo uv un l r j 0 0 fv fn := by
  subst h
  refine ⟨mj_z, 0, ⟨rfl, rfl⟩, mj_vs_zero fv fn 0, mj_srt_1 _ _ (Nat.zero_le 1), by decide, ?_, rfl, fun v => ?_⟩
  · show (0 : Int) ≤ (K : Int)
    omega
  · show (0 : Int) ≤ 0 ∧ (0 : Int) ≤ _
    omega
theorem mj_GA_step {K : Nat} {ff ft fs fo uv un fv fn : Nat → Int32} {l r : Int} {j j2 k : Nat} {mua mub mu : Int32 → Int} {L0 c lo lo1 lo2 vs2 : Int32} (hH : mj_H K ff ft fs fo uv un l r j mua L0) (hk : k < 320) (hp : mj_isp ff ft l r k) (hq : mj_pq ff ft l r k = j) (b0 : 0 ≤ (fs k).toInt) (b6 : (fs k).toInt ≤ 6) (hv : mj_vs uv un (6 * k) (fs k).toNatClampNeg mub) (tg : mj_can K (fun w => mua w + mub w) mu c) (e0 : lo = L0) (e1 : lo1 = lo + fo k) (e2 : lo2 = lo1 + c) (v3 : mj_vs fv fn 0 vs2.toNatClampNeg mu) (s3 : mj_srt fv fn 0 vs2.toNatClampNeg) (c0 : 0 ≤ vs2.toInt) (cK : vs2.toInt ≤ (K : Int)) (ha : ∀ v : Int32, 0 ≤ mua v ∧ mua v ≤ 160 * (j : Int)) (hb : ∀ v : Int32, 0 ≤ mub v ∧ mub v ≤ 160) (ej : j2 = j + 1) : mj_GA K ff ft fs fo uv un l r j2 vs2 lo2 fv fn := by
  subst ej
  have tg2 := mj_can_tog tg (fun v => rfl)
  refine ⟨mu, lo2, ⟨k, mua, L0, c, mub, hk, hH, hp, hq, hv, b0, b6, tg2, by rw [e2, e1, e0]⟩, v3, s3, c0, cK, rfl, fun v => ?_⟩
  have h1 := mj_tog_le tg2 (fun w => (ha w).1) (fun w => (hb w).1) v
  have h2 := ha v
  have h3 := hb v
  omega
theorem mj_vs_map {V N : Nat → Int32} {o m : Nat} {μ ν : Int32 → Int} (h : mj_vs V N o m μ) (h2 : mj_vs V N o m ν) : μ = ν := funext fun v => (mj_pm_full h v).symm.trans (mj_pm_full h2 v)
theorem mj_pbq_yes {nl nr : Nat → Int32} {l r : Int} {k k2 : Nat} (hp : mj_isp nl nr l r k) (e : k2 = k + 1) : mj_pb nl nr l r k2 = (nr k).toInt ∧ mj_pq nl nr l r k2 = mj_pq nl nr l r k + 1 := by
  subst e
  have h : (nl k).toInt = mj_pb nl nr l r k ∧ (nr k).toInt ≤ r := hp
  simp only [mj_pb, mj_pq]
  rw [if_pos h, if_pos h]
  exact ⟨rfl, rfl⟩
theorem mj_pbq_no {nl nr : Nat → Int32} {l r : Int} {k k2 : Nat} (hp : ¬ mj_isp nl nr l r k) (e : k2 = k + 1) : mj_pb nl nr l r k2 = mj_pb nl nr l r k ∧ mj_pq nl nr l r k2 = mj_pq nl nr l r k := by
  subst e
  have h : ¬ ((nl k).toInt = mj_pb nl nr l r k ∧ (nr k).toInt ≤ r) := hp
  simp only [mj_pb, mj_pq]
  rw [if_neg h, if_neg h]
  exact ⟨rfl, rfl⟩

set_option maxHeartbeats 4000000 in
set_option maxRecDepth 100000 in
theorem c_X2_gather_x (l : Launch) (dC : Nat → ClassId) (dI : Nat → Nat → Nat) (q_t : Nat) (q_row : Nat) (q_joined : Nat) (q_from : Nat) (q_to : Nat) (q_size : Nat) (q_lossOf : Nat) (q_lessBy : Nat) (q_value : Nat) (q_number : Nat) (nodes : Int32) (here : Int32) (h0 : Nat) (a_v : Nat) (a_n : Nat) (cyI : ClassId) (vs : Int32) (lo : Int32) (le : Int32) (fv : Nat → Int32) (fn : Nat → Int32) (len : Int32) (f : Nat → Int32) (ff : Nat → Int32) (ft : Nat → Int32) (fs : Nat → Int32) (fo : Nat → Int32) (uv : Nat → Int32) (un : Nat → Int32) (fe : Nat → Int32) (p0 : Int32) (p1 : Int32) (sz : Nat) (b0 : 0 ≤ nodes.toInt) (c0 : nodes.toInt ≤ 319) (s0 : sixes fs) (c1 : len.toInt ≤ 160) (k0 : 1 ≤ here.toInt) (k1 : here.toInt ≤ 6) (t0 : treeOk ff ft nodes.toInt len.toInt) (hok : ∀ k : Nat, (k : Int) < nodes.toInt → mj_ok here.toNatClampNeg f ff ft fs fo fe uv un k) : kx_MQ l (dC, dI) yX2_gather wsX2_gather ({ frames := 3, cells := 0, slots := 0, locals := 135 }) [.ref q_t, .ref h0, .int p0, .int p1] [kx_2 q_t q_row q_joined q_from q_to q_size q_lossOf q_lessBy q_value q_number nodes here, kx_a q_from cyI 319 ff, kx_a q_to cyI 319 ft, kx_a q_size cyI 319 fs, kx_a q_lossOf cyI 319 fo, kx_a q_value cyI 1914 uv, kx_a q_number cyI 1914 un, kx_3 h0 a_v a_n vs lo le, kx_a a_v cyI 12 fv, kx_a a_n cyI 12 fn] [(cyI, .int)] sz (fun A => va_Qv (fun u : Int32 × Int32 × Int32 × (Nat → Int32) × (Nat → Int32) => mj_GA here.toNatClampNeg ff ft fs fo uv un p0.toInt p1.toInt (mj_pq ff ft p0.toInt p1.toInt nodes.toNatClampNeg) u.1 u.2.1 u.2.2.2.1 u.2.2.2.2 ∧ 0 ≤ u.1.toInt ∧ u.1.toInt ≤ here.toInt) (fun (u : Int32 × Int32 × Int32 × (Nat → Int32) × (Nat → Int32)) (t : State) => va_P (dC, dI) vwCl [kx_2 q_t q_row q_joined q_from q_to q_size q_lossOf q_lessBy q_value q_number nodes here, kx_a q_from cyI 319 ff, kx_a q_to cyI 319 ft, kx_a q_size cyI 319 fs, kx_a q_lossOf cyI 319 fo, kx_a q_value cyI 1914 uv, kx_a q_number cyI 1914 un, kx_3 h0 a_v a_n u.1 u.2.1 u.2.2.1, kx_a a_v cyI 12 u.2.2.2.1, kx_a a_n cyI 12 u.2.2.2.2] t.heap ∧ va_K (dC, dI) vwCl [(cyI, .int)] t ∧ va_D A [kx_2 q_t q_row q_joined q_from q_to q_size q_lossOf q_lessBy q_value q_number nodes here, kx_a q_from cyI 319 ff, kx_a q_to cyI 319 ft, kx_a q_size cyI 319 fs, kx_a q_lossOf cyI 319 fo, kx_a q_value cyI 1914 uv, kx_a q_number cyI 1914 un, kx_3 h0 a_v a_n u.1 u.2.1 u.2.2.1, kx_a a_v cyI 12 u.2.2.2.1, kx_a a_n cyI 12 u.2.2.2.2]) A) := by
  refine kx_stQ (ws := wsX2_gather) (cc := cX2_gather) (maxL := 6) (ret := none) (by decide) rfl (Nat.le_of_ble_eq_true rfl) ?_
  intro p e s m below meth c A ls hx hb hr hlocks hts hown hml hA hS hP hK hD hl
  have hown : s.vm.findClass RX2 = some m.cls := hown
  have hl : lv_has ls 6 [(0, .ref q_t), (1, .ref h0), (2, .int p0), (3, .int p1)] := hl
  have hf_50 := hts (.fieldLink RX2 50 "MajorityIndex$Tree" "nodes" "I") (List.mem_of_getElem? (i := 1) rfl)
  have hi_2 : ∀ w ∈ u_ws RX2 TX2 11, w ∈ wsX2_gather := fun w h => List.mem_cons_of_mem _ (List.mem_append_left _ (List.mem_append_right _ h))
  have hf_22 := hts (.fieldLink RX2 22 "MajorityIndex$Tree" "to" "[I") (List.mem_of_getElem? (i := 2) rfl)
  have hf_85 := hts (.fieldLink RX2 85 "MajorityIndex$Tree" "slotsHere" "I") (List.mem_of_getElem? (i := 3) rfl)
  have n_nd := ki_nat nodes rfl (om_10 b0)
  have n_h := ki_nat here rfl (om_51 k0)
  refine lv_aload_n hx hb dX2_gather_0 rfl (lv_at hl 1 rfl) ?_
  obtain ⟨hPc, hDc, hFc, hCc⟩ := kx_preM (wc := [kx_3 h0 a_v a_n vs lo le]) hP hD hS hA [false, false, false, false, false, false, false, true, false, false] rfl
  have hKc := hK.sub (tys' := []) [] rfl
  refine va_callv (va_runV (As := []) (rest := []) ⟨hx, hb, hml, hown, hts⟩ (kx_un (c_X3_clear l dC dI h0 a_v a_n vs lo le s.heap.size)) (cwV 0 hts gX2_gather_X3_clear rfl rfl rfl (by decide +kernel) ⟨Nat.le_of_ble_eq_true rfl, Nat.le_of_ble_eq_true rfl⟩) ⟨fun a U g mk q => by obtain ⟨q0, q1, qP, qK, qD⟩ := q; exact ⟨q0, q1, qP, va_K.moved (u := U) (U := U.calling g mk a) (Vm.Alike.refl U.vm) qK, qD⟩, kx_rc3 hKc hPc (q0 := 0) rfl, fun U hU hW => ⟨rfl, by rw [hU], by rw [hU]; exact hPc, va_K.moved hW.alike hKc, hDc.weaken (fun _ _ _ _ => trivial)⟩⟩ rfl rfl hl.1 rfl (lv_room (Nat.le_of_ble_eq_true rfl)) dX2_gather_1 ⟨Nat.le_of_ble_eq_true rfl, Nat.le_of_ble_eq_true rfl⟩) hS (fun q _ h => hFc q h) hFc (fun u t H1 locs ht hvm w_1 hB hz1 hk1 hS => ?_)
  obtain ⟨hP1, hK1, hD1⟩ := hB
  rw [ht] at hP1
  have hK1 := va_K.moved hvm.symm hK1
  obtain ⟨hP, hD⟩ := kx_joinM (w2 := [kx_2 q_t q_row q_joined q_from q_to q_size q_lossOf q_lessBy q_value q_number nodes here, kx_a q_from cyI 319 ff, kx_a q_to cyI 319 ft, kx_a q_size cyI 319 fs, kx_a q_lossOf cyI 319 fo, kx_a q_value cyI 1914 uv, kx_a q_number cyI 1914 un, kx_3 h0 a_v a_n 0 0 0, kx_a a_v cyI 12 fv, kx_a a_n cyI 12 fn]) hP hD hP1 hD1 hk1 hFc [false, false, false, false, false, false, false, true, false, false] hCc rfl
  clear hP1 hD1 hK1 hk1 hz1 hFc hDc hPc hKc hCc
  generalize H1 = H at hP hS ⊢
  refine lv_iload_n hx hb dX2_gather_4 rfl (lv_at hl 2 rfl) ?_
  refine lv_istore (lv' := [(4, .int p0), (0, .ref q_t), (1, .ref h0), (2, .int p0), (3, .int p1)]) hx hb dX2_gather_5 hl (by decide) rfl (fun ls hl => ?_)
  refine lv_iconst (v := 0) hx hb dX2_gather_7 (by decide) ?_
  refine lv_istore (lv' := [(5, .int 0), (4, .int p0), (0, .ref q_t), (1, .ref h0), (2, .int p0), (3, .int p1)]) hx hb dX2_gather_8 hl (by decide) rfl (fun ls hl => ?_)
  have LP1 : ∀ (n : Nat) (i : Int32) (nxt : Int32) (zz : Int32) (zl : Int32) (zb : Int32) (yv : Nat → Int32) (yn : Nat → Int32), (0 ≤ i.toInt) → (i.toInt ≤ nodes.toInt) → (nxt.toInt = mj_pb ff ft p0.toInt p1.toInt i.toNatClampNeg) → (mj_GA here.toNatClampNeg ff ft fs fo uv un p0.toInt p1.toInt (mj_pq ff ft p0.toInt p1.toInt i.toNatClampNeg) zz zl yv yn) → (0 ≤ zz.toInt) → (zz.toInt ≤ 6) → (nodes.toInt - i.toInt).toNat < n → ∀ (H : Heap) (locs : List Loc), va_P (dC, dI) vwCl [kx_2 q_t q_row q_joined q_from q_to q_size q_lossOf q_lessBy q_value q_number nodes here, kx_a q_from cyI 319 ff, kx_a q_to cyI 319 ft, kx_a q_size cyI 319 fs, kx_a q_lossOf cyI 319 fo, kx_a q_value cyI 1914 uv, kx_a q_number cyI 1914 un, kx_3 h0 a_v a_n zz zl zb, kx_a a_v cyI 12 yv, kx_a a_n cyI 12 yn] H → va_D A [kx_2 q_t q_row q_joined q_from q_to q_size q_lossOf q_lessBy q_value q_number nodes here, kx_a q_from cyI 319 ff, kx_a q_to cyI 319 ft, kx_a q_size cyI 319 fs, kx_a q_lossOf cyI 319 fo, kx_a q_value cyI 1914 uv, kx_a q_number cyI 1914 un, kx_3 h0 a_v a_n zz zl zb, kx_a a_v cyI 12 yv, kx_a a_n cyI 12 yn] → va_S A s.heap H locs → ∀ (ls : Array Slot), lv_has ls 6 [(5, .int i), (4, .int nxt), (0, .ref q_t), (1, .ref h0), (2, .int p0), (3, .int p1)] → W p l e (headSpec wsX2_gather ({ frames := 3, cells := 0, slots := 0, locals := 135 })).room s m ([.ref q_t, .ref h0, .int p0, .int p1] : List Value).toArray below meth c H locs 0 0 (MQ below (va_Qv (fun u : Int32 × Int32 × Int32 × (Nat → Int32) × (Nat → Int32) => mj_GA here.toNatClampNeg ff ft fs fo uv un p0.toInt p1.toInt (mj_pq ff ft p0.toInt p1.toInt nodes.toNatClampNeg) u.1 u.2.1 u.2.2.2.1 u.2.2.2.2 ∧ 0 ≤ u.1.toInt ∧ u.1.toInt ≤ here.toInt) (fun (u : Int32 × Int32 × Int32 × (Nat → Int32) × (Nat → Int32)) (t : State) => va_P (dC, dI) vwCl [kx_2 q_t q_row q_joined q_from q_to q_size q_lossOf q_lessBy q_value q_number nodes here, kx_a q_from cyI 319 ff, kx_a q_to cyI 319 ft, kx_a q_size cyI 319 fs, kx_a q_lossOf cyI 319 fo, kx_a q_value cyI 1914 uv, kx_a q_number cyI 1914 un, kx_3 h0 a_v a_n u.1 u.2.1 u.2.2.1, kx_a a_v cyI 12 u.2.2.2.1, kx_a a_n cyI 12 u.2.2.2.2] t.heap ∧ va_K (dC, dI) vwCl [(cyI, .int)] t ∧ va_D A [kx_2 q_t q_row q_joined q_from q_to q_size q_lossOf q_lessBy q_value q_number nodes here, kx_a q_from cyI 319 ff, kx_a q_to cyI 319 ft, kx_a q_size cyI 319 fs, kx_a q_lossOf cyI 319 fo, kx_a q_value cyI 1914 uv, kx_a q_number cyI 1914 un, kx_3 h0 a_v a_n u.1 u.2.1 u.2.2.1, kx_a a_v cyI 12 u.2.2.2.1, kx_a a_n cyI 12 u.2.2.2.2]) A) ([.ref q_t, .ref h0, .int p0, .int p1] : List Value).toArray s 0 0 A) (F0 m 10 ls []) := by
    intro n
    induction n with
    | zero => intro i nxt zz zl zb yv yn LP1_h0 LP1_h1 LP1_h2 LP1_h3 LP1_h4 LP1_h5 hn; exact absurd hn (Nat.not_lt_zero _)
    | succ n ih1 =>
      intro i nxt zz zl zb yv yn LP1_h0 LP1_h1 LP1_h2 LP1_h3 LP1_h4 LP1_h5 hn1 H locs hP hD hS ls hl
      have n_i := ki_nat i rfl (om_10 LP1_h0)
      refine lv_iload hx hb dX2_gather_10 (lv_at hl 0 rfl) ?_
      refine lv_aload_n hx hb dX2_gather_12 rfl (lv_at hl 2 rfl) ?_
      refine va_get (D := (dC, dI)) (ci := 2) (v := .int nodes) (C := RX2) (T := TX2) (N := 11) hx hb hts hi_2 hown hK hP 0 rfl rfl 9 (by decide) hf_50 (fun _ h9 => h9) rfl dX2_gather_13 ?_
      refine lv_icmp_ge (tgt := 61) hx hb dX2_gather_16 (by decide) (fun c_2 => ?_) (fun c_2 => ?_)
      · have i_2 : nodes.toInt ≤ i.toInt := kc_le c_2
        have hP9 := hP
        have hD9 := hD
        have hK9 := hK
        have q_i : i.toNatClampNeg = nodes.toNatClampNeg := by omega
        have h_g := LP1_h3
        rw [q_i] at h_g
        have h_k : zz.toInt ≤ here.toInt := by obtain ⟨_, _, _, _, _, _, h9, _⟩ := h_g; omega
        exact W.vret hx hb hr (hlocks := hlocks) (fun t ht hW => ⟨⟨(zz, zl, zb, yv, yn), rfl, ⟨h_g, (by (try dsimp only); omega), (by (try dsimp only); omega)⟩, by rw [ht]; exact hP9, va_K.moved hW.alike hK9, hD9⟩, hS.F ht⟩) hS.2.2 dX2_gather_61
      · have i_2 : i.toInt < nodes.toInt := kc_nle c_2
        refine lv_aload_n hx hb dX2_gather_19 rfl (lv_at hl 2 rfl) ?_
        refine lv_iload hx hb dX2_gather_20 (lv_at hl 0 rfl) ?_
        refine lv_iload hx hb dX2_gather_22 (lv_at hl 1 rfl) ?_
        refine lv_iload_n hx hb dX2_gather_24 rfl (lv_at hl 5 rfl) ?_
        have hPc := hP.sub (ws' := [kx_2 q_t q_row q_joined q_from q_to q_size q_lossOf q_lessBy q_value q_number nodes here, kx_a q_from cyI 319 ff, kx_a q_to cyI 319 ft]) [0, 1, 2] rfl
        have hKc := hK
        refine vp_callSi (W.runV (As := [.int i, .int nxt, .int p1]) (rest := []) ⟨hx, hb, hml, hown, hts⟩ (c_X2_isPart l dC dI q_t q_row q_joined q_from q_to q_size q_lossOf q_lessBy q_value q_number nodes here cyI ff ft i nxt p1 LP1_h0 (om_122 c0 i_2)) (cwV 3 hts gX2_gather_X2_isPart rfl rfl rfl (by decide +kernel) ⟨Nat.le_of_ble_eq_true rfl, Nat.le_of_ble_eq_true rfl⟩) ⟨fun a U g mk q => by obtain ⟨q0, qP, qK⟩ := q; exact ⟨q0, qP, va_K.moved (u := U) (U := U.calling g mk a) (Vm.Alike.refl U.vm) qK⟩, kx_rc2 hKc hPc (q0 := 0) rfl, fun U hU hW => ⟨rfl, by rw [hU]; exact hPc, va_K.moved hW.alike hKc⟩⟩ rfl rfl hl.1 rfl (lv_room (Nat.le_of_ble_eq_true rfl)) dX2_gather_25 ⟨Nat.le_of_ble_eq_true rfl, Nat.le_of_ble_eq_true rfl⟩) (fun r_3 w_3 => ?_)
        rcases w_3 with ⟨rfl, w_3⟩ | ⟨rfl, w_3⟩
        · have w_3 : ((ff i.toNatClampNeg).toInt = nxt.toInt ∧ (ft i.toNatClampNeg).toInt ≤ p1.toInt) := w_3
          refine lv_if_eq (tgt := 55) hx hb dX2_gather_28 (by decide) (fun c_4 => ?_) (fun c_4 => ?_)
          · exact absurd c_4 (by decide)
          · refine lv_aload_n hx hb dX2_gather_31 rfl (lv_at hl 2 rfl) ?_
            refine va_get (D := (dC, dI)) (ci := 2) (v := .ref q_to) (C := RX2) (T := TX2) (N := 11) hx hb hts hi_2 hown hK hP 0 rfl rfl 3 (by decide) hf_22 (fun _ h9 => h9) rfl dX2_gather_32 ?_
            refine lv_iload hx hb dX2_gather_35 (lv_at hl 0 rfl) ?_
            refine va_iald hx hb hK hP 2 0 rfl rfl (ki_in (om_10 LP1_h0) (om_115 c0 i_2)) dX2_gather_37 ?_
            refine lv_topi (fun y_5 ey_5 => ?_)
            have j_5 : y_5.toInt = (ft i.toNatClampNeg).toInt := congrArg Int32.toInt ey_5
            refine lv_istore (lv' := [(4, .int y_5), (5, .int i), (0, .ref q_t), (1, .ref h0), (2, .int p0), (3, .int p1)]) hx hb dX2_gather_38 hl (by decide) rfl (fun ls hl => ?_)
            refine lv_aload_n hx hb dX2_gather_40 rfl (lv_at hl 2 rfl) ?_
            refine lv_aload_n hx hb dX2_gather_41 rfl (lv_at hl 3 rfl) ?_
            refine lv_iload hx hb dX2_gather_42 (lv_at hl 1 rfl) ?_
            obtain ⟨mua, L0, hH, hva, hsa, c0, cK, eL, hba⟩ := LP1_h3
            obtain ⟨w0, w6, wK, mub, hvb, hsb, hbb⟩ := mj_ok_vs (hok i.toNatClampNeg (by omega)) t0 (by omega) c1
            have hpq := mj_pq_le ff ft p0.toInt p1.toInt i.toNatClampNeg
            obtain ⟨hPc, hDc, hFc, hCc⟩ := kx_preM (wc := [kx_2 q_t q_row q_joined q_from q_to q_size q_lossOf q_lessBy q_value q_number nodes here, kx_a q_size cyI 319 fs, kx_a q_lossOf cyI 319 fo, kx_a q_value cyI 1914 uv, kx_a q_number cyI 1914 un, kx_3 h0 a_v a_n zz zl zb, kx_a a_v cyI 12 yv, kx_a a_n cyI 12 yn]) hP hD hS hA [true, false, false, true, true, true, true, true, true, true] rfl
            have hKc := hK
            refine va_callv (va_runV (As := [.ref h0, .int i]) (rest := []) ⟨hx, hb, hml, hown, hts⟩ (kx_un (c_X2_joinNode_x l dC dI q_t q_row q_joined q_from q_to q_size q_lossOf q_lessBy q_value q_number nodes here h0 a_v a_n cyI zz zl zb yv yn fs fo uv un mua mub i H.size (by omega) (by omega) (by omega) (by omega) w0 w6 hva hvb (fun v => by have h1 := hba v; have h2 := hbb v; omega))) (cwV 2 hts gX2_gather_X2_joinNode rfl rfl rfl (by decide +kernel) ⟨Nat.le_of_ble_eq_true rfl, Nat.le_of_ble_eq_true rfl⟩) ⟨fun a U g mk q => by obtain ⟨q0, q1, qP, qK, qD⟩ := q; exact ⟨q0, q1, qP, va_K.moved (u := U) (U := U.calling g mk a) (Vm.Alike.refl U.vm) qK, qD⟩, kx_rc2 hKc hPc (q0 := 0) rfl, fun U hU hW => ⟨rfl, by rw [hU], by rw [hU]; exact hPc, va_K.moved hW.alike hKc, hDc.weaken (fun _ _ _ _ => trivial)⟩⟩ rfl rfl hl.1 rfl (lv_room (Nat.le_of_ble_eq_true rfl)) dX2_gather_44 ⟨Nat.le_of_ble_eq_true rfl, Nat.le_of_ble_eq_true rfl⟩) hS (fun q _ h => hFc q h) hFc (fun u t H1 locs ht hvm w_6 hB hz1 hk1 hS => ?_)
            obtain ⟨o_7, o_8, o_9, o_10⟩ := u
            dsimp only at w_6 hB
            obtain ⟨hP1, hK1, hD1⟩ := hB
            rw [ht] at hP1
            have hK1 := va_K.moved hvm.symm hK1
            obtain ⟨hP, hD⟩ := kx_joinM (w2 := [kx_2 q_t q_row q_joined q_from q_to q_size q_lossOf q_lessBy q_value q_number nodes here, kx_a q_from cyI 319 ff, kx_a q_to cyI 319 ft, kx_a q_size cyI 319 fs, kx_a q_lossOf cyI 319 fo, kx_a q_value cyI 1914 uv, kx_a q_number cyI 1914 un, kx_3 h0 a_v a_n o_7 o_8 zb, kx_a a_v cyI 12 o_9, kx_a a_n cyI 12 o_10]) hP hD hP1 hD1 hk1 hFc [true, false, false, true, true, true, true, true, true, true] hCc rfl
            clear hP1 hD1 hK1 hk1 hz1 hFc hDc hPc hKc hCc
            generalize H1 = H at hP hS ⊢
            have w_6 : mj_vs o_9 o_10 0 o_7.toNatClampNeg (fun w => mua w + mub w) ∧ o_8 = zl + fo i.toNatClampNeg ∧ 0 ≤ o_7.toInt ∧ o_7.toInt ≤ zz.toInt + (fs i.toNatClampNeg).toInt := w_6
            refine lv_aload_n hx hb dX2_gather_47 rfl (lv_at hl 3 rfl) ?_
            refine lv_aload_n hx hb dX2_gather_48 rfl (lv_at hl 2 rfl) ?_
            refine va_get (D := (dC, dI)) (ci := 2) (v := .int here) (C := RX2) (T := TX2) (N := 11) hx hb hts hi_2 hown hK hP 0 rfl rfl 10 (by decide) hf_85 (fun _ h9 => h9) rfl dX2_gather_49 ?_
            obtain ⟨hPc, hDc, hFc, hCc⟩ := kx_preM (wc := [kx_3 h0 a_v a_n o_7 o_8 zb, kx_a a_v cyI 12 o_9, kx_a a_n cyI 12 o_10]) hP hD hS hA [false, false, false, false, false, false, false, true, true, true] rfl
            have hKc := hK
            refine va_callv (va_runV (As := [.int here]) (rest := []) ⟨hx, hb, hml, hown, hts⟩ (kx_un (c_X3_cancel_x l dC dI h0 a_v a_n cyI o_7 o_8 zb o_9 o_10 (fun w => mua w + mub w) here H.size (by omega) (by omega) (by omega) (by omega) w_6.1 (fun v => by have h1 := hba v; have h2 := hbb v; (try dsimp only); omega))) (cwV 1 hts gX2_gather_X3_cancel rfl rfl rfl (by decide +kernel) ⟨Nat.le_of_ble_eq_true rfl, Nat.le_of_ble_eq_true rfl⟩) ⟨fun a U g mk q => by obtain ⟨q0, q1, qP, qK, qD⟩ := q; exact ⟨q0, q1, qP, va_K.moved (u := U) (U := U.calling g mk a) (Vm.Alike.refl U.vm) qK, qD⟩, kx_rc3 hKc hPc (q0 := 0) rfl, fun U hU hW => ⟨rfl, by rw [hU], by rw [hU]; exact hPc, va_K.moved hW.alike hKc, hDc.weaken (fun _ _ _ _ => trivial)⟩⟩ rfl rfl hl.1 rfl (lv_room (Nat.le_of_ble_eq_true rfl)) dX2_gather_52 ⟨Nat.le_of_ble_eq_true rfl, Nat.le_of_ble_eq_true rfl⟩) hS (fun q _ h => hFc q h) hFc (fun u t H1 locs ht hvm w_11 hB hz1 hk1 hS => ?_)
            obtain ⟨o_12, o_13, o_14, o_15, o_16, o_17⟩ := u
            dsimp only at w_11 hB
            obtain ⟨hP1, hK1, hD1⟩ := hB
            rw [ht] at hP1
            have hK1 := va_K.moved hvm.symm hK1
            obtain ⟨hP, hD⟩ := kx_joinM (w2 := [kx_2 q_t q_row q_joined q_from q_to q_size q_lossOf q_lessBy q_value q_number nodes here, kx_a q_from cyI 319 ff, kx_a q_to cyI 319 ft, kx_a q_size cyI 319 fs, kx_a q_lossOf cyI 319 fo, kx_a q_value cyI 1914 uv, kx_a q_number cyI 1914 un, kx_3 h0 a_v a_n o_12 o_13 o_14, kx_a a_v cyI 12 o_15, kx_a a_n cyI 12 o_16]) hP hD hP1 hD1 hk1 hFc [false, false, false, false, false, false, false, true, true, true] hCc rfl
            clear hP1 hD1 hK1 hk1 hz1 hFc hDc hPc hKc hCc
            generalize H1 = H at hP hS ⊢
            have w_11 : mj_can here.toNatClampNeg (fun w => mua w + mub w) o_17 o_14 ∧ o_13 = o_8 + o_14 ∧ 0 ≤ o_12.toInt ∧ o_12.toInt ≤ here.toInt ∧ mj_vs o_15 o_16 0 o_12.toNatClampNeg o_17 ∧ mj_srt o_15 o_16 0 o_12.toNatClampNeg ∧ 0 ≤ o_14.toInt := w_11
            obtain ⟨x_18, ex_18⟩ : ∃ y : Int32, y = i + 1 := ⟨_, rfl⟩
            have i_18 : x_18.toInt = i.toInt + 1 := ki_add ex_18 rfl rfl (om_13 LP1_h0) (by omega)
            refine lv_iinc (v := x_18) (lv' := [(5, .int x_18), (4, .int y_5), (0, .ref q_t), (1, .ref h0), (2, .int p0), (3, .int p1)]) hx hb dX2_gather_55 hl (k := 1) rfl (by rw [ex_18]; rfl) (by decide) rfl (fun ls hl => ?_)
            refine lv_goto (tgt := 10) hx hb dX2_gather_58 (by decide) ?_
            have n_19 := ki_nat x_18 rfl (om_34 LP1_h0 i_18)
            have isp : mj_isp ff ft p0.toInt p1.toInt i.toNatClampNeg := by unfold mj_isp; omega
            have st2 : mj_pb ff ft p0.toInt p1.toInt x_18.toNatClampNeg = (ft i.toNatClampNeg).toInt ∧ mj_pq ff ft p0.toInt p1.toInt x_18.toNatClampNeg = mj_pq ff ft p0.toInt p1.toInt i.toNatClampNeg + 1 := mj_pbq_yes isp (by omega)
            exact ih1 x_18 y_5 o_12 o_13 o_14 o_15 o_16 (om_34 LP1_h0 i_18) (om_54 i_2 i_18) (by rw [st2.1]; omega) (mj_GA_step hH (by omega) isp rfl w0 w6 hvb w_11.1 eL w_6.2.1 w_11.2.1 w_11.2.2.2.2.1 w_11.2.2.2.2.2.1 (by omega) (by omega) hba hbb st2.2) (om_10 w_11.2.2.1) (om_346 k1 w_11.2.2.2.1) (om_mu hn1 (om_5 i_18) (om_6 i_2)) _ _ hP hD hS ls (lv_sub hl [0, 1, 2, 3, 4, 5] rfl)
        · have w_3 : (¬ (ff i.toNatClampNeg).toInt = nxt.toInt ∨ p1.toInt < (ft i.toNatClampNeg).toInt) := w_3
          refine lv_if_eq (tgt := 55) hx hb dX2_gather_28 (by decide) (fun c_20 => ?_) (fun c_20 => ?_)
          · obtain ⟨x_21, ex_21⟩ : ∃ y : Int32, y = i + 1 := ⟨_, rfl⟩
            have i_21 : x_21.toInt = i.toInt + 1 := ki_add ex_21 rfl rfl (om_13 LP1_h0) (om_370 c0 LP1_h1)
            refine lv_iinc (v := x_21) (lv' := [(5, .int x_21), (4, .int nxt), (0, .ref q_t), (1, .ref h0), (2, .int p0), (3, .int p1)]) hx hb dX2_gather_55 hl (k := 0) rfl (by rw [ex_21]; rfl) (by decide) rfl (fun ls hl => ?_)
            refine lv_goto (tgt := 10) hx hb dX2_gather_58 (by decide) ?_
            have n_22 := ki_nat x_21 rfl (om_34 LP1_h0 i_21)
            have st2 : mj_pb ff ft p0.toInt p1.toInt x_21.toNatClampNeg = mj_pb ff ft p0.toInt p1.toInt i.toNatClampNeg ∧ mj_pq ff ft p0.toInt p1.toInt x_21.toNatClampNeg = mj_pq ff ft p0.toInt p1.toInt i.toNatClampNeg := mj_pbq_no (fun h => by unfold mj_isp at h; omega) (by omega)
            exact ih1 x_21 nxt zz zl zb yv yn (om_34 LP1_h0 i_21) (om_54 i_2 i_21) (by rw [st2.1]; omega) (by rw [st2.2]; exact LP1_h3) (om_10 LP1_h4) (om_344 LP1_h5) (om_mu hn1 (om_5 i_21) (om_6 i_2)) _ _ hP hD hS ls (lv_sub hl [0, 1, 2, 3, 4, 5] rfl)
          · exact absurd c_20 (by decide)
  have k_23 : (0 : Int32).toInt = 0 := rfl
  have k_24 : (0 : Int32).toInt = 0 := rfl
  have k_25 : (0 : Int32).toInt = 0 := rfl
  have k_26 : (0 : Int32).toInt = 0 := rfl
  exact LP1 ((nodes.toInt - 0 : Int).toNat + 1) 0 p0 0 0 0 fv fn om_35 (om_10 b0) rfl (mj_GA_0 _ _ _ _ _ _ _ _ _ _ _ rfl) om_35 om_368 (Nat.lt_succ_self _) _ _ hP hD hS ls (lv_sub hl [0, 1, 2, 3, 4, 5] rfl)



abbrev cL_law : ByteArray := code


def dt_cL_law_0 : List (Nat × Nat × Nat × Nat) := [(0, 187, 2, 8), (3, 89, 0, 0), (4, 183, 2, 26), (7, 76, 0, 0), (8, 187, 2, 27), (11, 89, 0, 0), (12, 183, 2, 29), (15, 77, 0, 0), (16, 4, 0, 0)]
theorem da_cL_law_0 : fw dt_cL_law_0 0 cL_law.data.toList = true := by decide +kernel
theorem dL_law_0 : decode cL_law 0 = .ok (.new 8, 3) := fo_187 (fw_get da_cL_law_0 0 rfl)
theorem dL_law_3 : decode cL_law 3 = .ok (.dup, 1) := fo_89 (fw_get da_cL_law_0 1 rfl)
theorem dL_law_4 : decode cL_law 4 = .ok (.invokespecial 26, 3) := fo_183 (fw_get da_cL_law_0 2 rfl)
theorem dL_law_7 : decode cL_law 7 = .ok (.astore_n 1, 1) := fo_76 (fw_get da_cL_law_0 3 rfl)
theorem dL_law_8 : decode cL_law 8 = .ok (.new 27, 3) := fo_187 (fw_get da_cL_law_0 4 rfl)
theorem dL_law_11 : decode cL_law 11 = .ok (.dup, 1) := fo_89 (fw_get da_cL_law_0 5 rfl)
theorem dL_law_12 : decode cL_law 12 = .ok (.invokespecial 29, 3) := fo_183 (fw_get da_cL_law_0 6 rfl)
theorem dL_law_15 : decode cL_law 15 = .ok (.astore_n 2, 1) := fo_77 (fw_get da_cL_law_0 7 rfl)
theorem dL_law_16 : decode cL_law 16 = .ok (.iconst 1, 1) := fo_4 (fw_get da_cL_law_0 8 rfl)
theorem dL_law_17 : decode cL_law 17 = .ok (.newarray .long, 2) := by decide +kernel
def dt_cL_law_1 : List (Nat × Nat × Nat × Nat) := [(19, 78, 0, 0), (20, 3, 0, 0), (21, 54, 1, 4), (23, 21, 1, 4), (25, 42, 0, 0), (26, 190, 0, 0), (27, 16, 1, 8), (29, 100, 0, 0), (30, 163, 2, 2264), (33, 42, 0, 0), (34, 21, 1, 4), (36, 46, 0, 0), (37, 16, 1, 63), (39, 126, 0, 0)]
theorem da_cL_law_1 : fw dt_cL_law_1 0 cL_law.data.toList = true := by decide +kernel
theorem dL_law_19 : decode cL_law 19 = .ok (.astore_n 3, 1) := fo_78 (fw_get da_cL_law_1 0 rfl)
theorem dL_law_20 : decode cL_law 20 = .ok (.iconst 0, 1) := fo_3 (fw_get da_cL_law_1 1 rfl)
theorem dL_law_21 : decode cL_law 21 = .ok (.istore 4, 2) := fo_54 (fw_get da_cL_law_1 2 rfl)
theorem dL_law_23 : decode cL_law 23 = .ok (.iload 4, 2) := fo_21 (fw_get da_cL_law_1 3 rfl)
theorem dL_law_25 : decode cL_law 25 = .ok (.aload_n 0, 1) := fo_42 (fw_get da_cL_law_1 4 rfl)
theorem dL_law_26 : decode cL_law 26 = .ok (.arraylength, 1) := fo_190 (fw_get da_cL_law_1 5 rfl)
theorem dL_law_27 : decode cL_law 27 = .ok (.bipush 8, 2) := fo_16 (fw_get da_cL_law_1 6 rfl) (by decide +kernel)
theorem dL_law_29 : decode cL_law 29 = .ok (.isub, 1) := fo_100 (fw_get da_cL_law_1 7 rfl)
theorem dL_law_30 : decode cL_law 30 = .ok (.if_icmp .gt 2264, 3) := fo_163 (fw_get da_cL_law_1 8 rfl) (by decide +kernel)
theorem dL_law_33 : decode cL_law 33 = .ok (.aload_n 0, 1) := fo_42 (fw_get da_cL_law_1 9 rfl)
theorem dL_law_34 : decode cL_law 34 = .ok (.iload 4, 2) := fo_21 (fw_get da_cL_law_1 10 rfl)
theorem dL_law_36 : decode cL_law 36 = .ok (.iaload, 1) := fo_46 (fw_get da_cL_law_1 11 rfl)
theorem dL_law_37 : decode cL_law 37 = .ok (.bipush 63, 2) := fo_16 (fw_get da_cL_law_1 12 rfl) (by decide +kernel)
theorem dL_law_39 : decode cL_law 39 = .ok (.iand, 1) := fo_126 (fw_get da_cL_law_1 13 rfl)
theorem dL_law_40 : decode cL_law 40 = .ok (.tableswitch 2248 0 43 #[192, 229, 254, 279, 316, 365, 402, 439, 476, 501, 529, 578, 615, 628, 665, 729, 766, 803, 852, 877, 914, 975, 1024, 1088, 1137, 1174, 1235, 1325, 1386, 1447, 1484, 1533, 1620, 1721, 1782, 1807, 1844, 1881, 1894, 1955, 2028, 2101, 2162, 2223], 192) := by decide +kernel
def dt_cL_law_2 : List (Nat × Nat × Nat × Nat) := [(232, 43, 0, 0), (233, 42, 0, 0), (234, 21, 1, 4), (236, 4, 0, 0), (237, 96, 0, 0), (238, 46, 0, 0), (239, 42, 0, 0), (240, 21, 1, 4), (242, 5, 0, 0), (243, 96, 0, 0), (244, 46, 0, 0), (245, 182, 2, 30), (248, 87, 0, 0), (249, 44, 0, 0), (250, 42, 0, 0), (251, 21, 1, 4), (253, 4, 0, 0), (254, 96, 0, 0), (255, 46, 0, 0), (256, 42, 0, 0)]
theorem da_cL_law_2 : fw dt_cL_law_2 0 cL_law.data.toList = true := by decide +kernel
theorem dL_law_232 : decode cL_law 232 = .ok (.aload_n 1, 1) := fo_43 (fw_get da_cL_law_2 0 rfl)
theorem dL_law_233 : decode cL_law 233 = .ok (.aload_n 0, 1) := fo_42 (fw_get da_cL_law_2 1 rfl)
theorem dL_law_234 : decode cL_law 234 = .ok (.iload 4, 2) := fo_21 (fw_get da_cL_law_2 2 rfl)
theorem dL_law_236 : decode cL_law 236 = .ok (.iconst 1, 1) := fo_4 (fw_get da_cL_law_2 3 rfl)
theorem dL_law_237 : decode cL_law 237 = .ok (.iadd, 1) := fo_96 (fw_get da_cL_law_2 4 rfl)
theorem dL_law_238 : decode cL_law 238 = .ok (.iaload, 1) := fo_46 (fw_get da_cL_law_2 5 rfl)
theorem dL_law_239 : decode cL_law 239 = .ok (.aload_n 0, 1) := fo_42 (fw_get da_cL_law_2 6 rfl)
theorem dL_law_240 : decode cL_law 240 = .ok (.iload 4, 2) := fo_21 (fw_get da_cL_law_2 7 rfl)
theorem dL_law_242 : decode cL_law 242 = .ok (.iconst 2, 1) := fo_5 (fw_get da_cL_law_2 8 rfl)
theorem dL_law_243 : decode cL_law 243 = .ok (.iadd, 1) := fo_96 (fw_get da_cL_law_2 9 rfl)
theorem dL_law_244 : decode cL_law 244 = .ok (.iaload, 1) := fo_46 (fw_get da_cL_law_2 10 rfl)
theorem dL_law_245 : decode cL_law 245 = .ok (.invokevirtual 30, 3) := fo_182 (fw_get da_cL_law_2 11 rfl)
theorem dL_law_248 : decode cL_law 248 = .ok (.pop, 1) := fo_87 (fw_get da_cL_law_2 12 rfl)
theorem dL_law_249 : decode cL_law 249 = .ok (.aload_n 2, 1) := fo_44 (fw_get da_cL_law_2 13 rfl)
theorem dL_law_250 : decode cL_law 250 = .ok (.aload_n 0, 1) := fo_42 (fw_get da_cL_law_2 14 rfl)
theorem dL_law_251 : decode cL_law 251 = .ok (.iload 4, 2) := fo_21 (fw_get da_cL_law_2 15 rfl)
theorem dL_law_253 : decode cL_law 253 = .ok (.iconst 1, 1) := fo_4 (fw_get da_cL_law_2 16 rfl)
theorem dL_law_254 : decode cL_law 254 = .ok (.iadd, 1) := fo_96 (fw_get da_cL_law_2 17 rfl)
theorem dL_law_255 : decode cL_law 255 = .ok (.iaload, 1) := fo_46 (fw_get da_cL_law_2 18 rfl)
theorem dL_law_256 : decode cL_law 256 = .ok (.aload_n 0, 1) := fo_42 (fw_get da_cL_law_2 19 rfl)
def dt_cL_law_3 : List (Nat × Nat × Nat × Nat) := [(257, 21, 1, 4), (259, 5, 0, 0), (260, 96, 0, 0), (261, 46, 0, 0), (262, 182, 2, 34), (265, 87, 0, 0), (266, 167, 2, 2022), (269, 43, 0, 0), (270, 42, 0, 0), (271, 21, 1, 4), (273, 4, 0, 0), (274, 96, 0, 0), (275, 46, 0, 0), (276, 182, 2, 35), (279, 87, 0, 0), (280, 44, 0, 0), (281, 42, 0, 0), (282, 21, 1, 4), (284, 4, 0, 0), (285, 96, 0, 0)]
theorem da_cL_law_3 : fw dt_cL_law_3 0 cL_law.data.toList = true := by decide +kernel
theorem dL_law_257 : decode cL_law 257 = .ok (.iload 4, 2) := fo_21 (fw_get da_cL_law_3 0 rfl)
theorem dL_law_259 : decode cL_law 259 = .ok (.iconst 2, 1) := fo_5 (fw_get da_cL_law_3 1 rfl)
theorem dL_law_260 : decode cL_law 260 = .ok (.iadd, 1) := fo_96 (fw_get da_cL_law_3 2 rfl)
theorem dL_law_261 : decode cL_law 261 = .ok (.iaload, 1) := fo_46 (fw_get da_cL_law_3 3 rfl)
theorem dL_law_262 : decode cL_law 262 = .ok (.invokevirtual 34, 3) := fo_182 (fw_get da_cL_law_3 4 rfl)
theorem dL_law_265 : decode cL_law 265 = .ok (.pop, 1) := fo_87 (fw_get da_cL_law_3 5 rfl)
theorem dL_law_266 : decode cL_law 266 = .ok (.goto 2022, 3) := fo_167 (fw_get da_cL_law_3 6 rfl) (by decide +kernel)
theorem dL_law_269 : decode cL_law 269 = .ok (.aload_n 1, 1) := fo_43 (fw_get da_cL_law_3 7 rfl)
theorem dL_law_270 : decode cL_law 270 = .ok (.aload_n 0, 1) := fo_42 (fw_get da_cL_law_3 8 rfl)
theorem dL_law_271 : decode cL_law 271 = .ok (.iload 4, 2) := fo_21 (fw_get da_cL_law_3 9 rfl)
theorem dL_law_273 : decode cL_law 273 = .ok (.iconst 1, 1) := fo_4 (fw_get da_cL_law_3 10 rfl)
theorem dL_law_274 : decode cL_law 274 = .ok (.iadd, 1) := fo_96 (fw_get da_cL_law_3 11 rfl)
theorem dL_law_275 : decode cL_law 275 = .ok (.iaload, 1) := fo_46 (fw_get da_cL_law_3 12 rfl)
theorem dL_law_276 : decode cL_law 276 = .ok (.invokevirtual 35, 3) := fo_182 (fw_get da_cL_law_3 13 rfl)
theorem dL_law_279 : decode cL_law 279 = .ok (.pop, 1) := fo_87 (fw_get da_cL_law_3 14 rfl)
theorem dL_law_280 : decode cL_law 280 = .ok (.aload_n 2, 1) := fo_44 (fw_get da_cL_law_3 15 rfl)
theorem dL_law_281 : decode cL_law 281 = .ok (.aload_n 0, 1) := fo_42 (fw_get da_cL_law_3 16 rfl)
theorem dL_law_282 : decode cL_law 282 = .ok (.iload 4, 2) := fo_21 (fw_get da_cL_law_3 17 rfl)
theorem dL_law_284 : decode cL_law 284 = .ok (.iconst 1, 1) := fo_4 (fw_get da_cL_law_3 18 rfl)
theorem dL_law_285 : decode cL_law 285 = .ok (.iadd, 1) := fo_96 (fw_get da_cL_law_3 19 rfl)
def dt_cL_law_4 : List (Nat × Nat × Nat × Nat) := [(286, 46, 0, 0), (287, 182, 2, 38), (290, 87, 0, 0), (291, 167, 2, 1997), (294, 43, 0, 0), (295, 42, 0, 0), (296, 21, 1, 4), (298, 4, 0, 0), (299, 96, 0, 0), (300, 46, 0, 0), (301, 182, 2, 39), (304, 87, 0, 0), (305, 44, 0, 0), (306, 42, 0, 0), (307, 21, 1, 4), (309, 4, 0, 0), (310, 96, 0, 0), (311, 46, 0, 0), (312, 182, 2, 42), (315, 87, 0, 0)]
theorem da_cL_law_4 : fw dt_cL_law_4 0 cL_law.data.toList = true := by decide +kernel
theorem dL_law_286 : decode cL_law 286 = .ok (.iaload, 1) := fo_46 (fw_get da_cL_law_4 0 rfl)
theorem dL_law_287 : decode cL_law 287 = .ok (.invokevirtual 38, 3) := fo_182 (fw_get da_cL_law_4 1 rfl)
theorem dL_law_290 : decode cL_law 290 = .ok (.pop, 1) := fo_87 (fw_get da_cL_law_4 2 rfl)
theorem dL_law_291 : decode cL_law 291 = .ok (.goto 1997, 3) := fo_167 (fw_get da_cL_law_4 3 rfl) (by decide +kernel)
theorem dL_law_294 : decode cL_law 294 = .ok (.aload_n 1, 1) := fo_43 (fw_get da_cL_law_4 4 rfl)
theorem dL_law_295 : decode cL_law 295 = .ok (.aload_n 0, 1) := fo_42 (fw_get da_cL_law_4 5 rfl)
theorem dL_law_296 : decode cL_law 296 = .ok (.iload 4, 2) := fo_21 (fw_get da_cL_law_4 6 rfl)
theorem dL_law_298 : decode cL_law 298 = .ok (.iconst 1, 1) := fo_4 (fw_get da_cL_law_4 7 rfl)
theorem dL_law_299 : decode cL_law 299 = .ok (.iadd, 1) := fo_96 (fw_get da_cL_law_4 8 rfl)
theorem dL_law_300 : decode cL_law 300 = .ok (.iaload, 1) := fo_46 (fw_get da_cL_law_4 9 rfl)
theorem dL_law_301 : decode cL_law 301 = .ok (.invokevirtual 39, 3) := fo_182 (fw_get da_cL_law_4 10 rfl)
theorem dL_law_304 : decode cL_law 304 = .ok (.pop, 1) := fo_87 (fw_get da_cL_law_4 11 rfl)
theorem dL_law_305 : decode cL_law 305 = .ok (.aload_n 2, 1) := fo_44 (fw_get da_cL_law_4 12 rfl)
theorem dL_law_306 : decode cL_law 306 = .ok (.aload_n 0, 1) := fo_42 (fw_get da_cL_law_4 13 rfl)
theorem dL_law_307 : decode cL_law 307 = .ok (.iload 4, 2) := fo_21 (fw_get da_cL_law_4 14 rfl)
theorem dL_law_309 : decode cL_law 309 = .ok (.iconst 1, 1) := fo_4 (fw_get da_cL_law_4 15 rfl)
theorem dL_law_310 : decode cL_law 310 = .ok (.iadd, 1) := fo_96 (fw_get da_cL_law_4 16 rfl)
theorem dL_law_311 : decode cL_law 311 = .ok (.iaload, 1) := fo_46 (fw_get da_cL_law_4 17 rfl)
theorem dL_law_312 : decode cL_law 312 = .ok (.invokevirtual 42, 3) := fo_182 (fw_get da_cL_law_4 18 rfl)
theorem dL_law_315 : decode cL_law 315 = .ok (.pop, 1) := fo_87 (fw_get da_cL_law_4 19 rfl)
def dt_cL_law_5 : List (Nat × Nat × Nat × Nat) := [(316, 167, 2, 1972), (319, 43, 0, 0), (320, 42, 0, 0), (321, 21, 1, 4), (323, 4, 0, 0), (324, 96, 0, 0), (325, 46, 0, 0), (326, 42, 0, 0), (327, 21, 1, 4), (329, 5, 0, 0), (330, 96, 0, 0), (331, 46, 0, 0), (332, 182, 2, 43), (335, 87, 0, 0), (336, 44, 0, 0), (337, 42, 0, 0), (338, 21, 1, 4), (340, 4, 0, 0), (341, 96, 0, 0), (342, 46, 0, 0)]
theorem da_cL_law_5 : fw dt_cL_law_5 0 cL_law.data.toList = true := by decide +kernel
theorem dL_law_316 : decode cL_law 316 = .ok (.goto 1972, 3) := fo_167 (fw_get da_cL_law_5 0 rfl) (by decide +kernel)
theorem dL_law_319 : decode cL_law 319 = .ok (.aload_n 1, 1) := fo_43 (fw_get da_cL_law_5 1 rfl)
theorem dL_law_320 : decode cL_law 320 = .ok (.aload_n 0, 1) := fo_42 (fw_get da_cL_law_5 2 rfl)
theorem dL_law_321 : decode cL_law 321 = .ok (.iload 4, 2) := fo_21 (fw_get da_cL_law_5 3 rfl)
theorem dL_law_323 : decode cL_law 323 = .ok (.iconst 1, 1) := fo_4 (fw_get da_cL_law_5 4 rfl)
theorem dL_law_324 : decode cL_law 324 = .ok (.iadd, 1) := fo_96 (fw_get da_cL_law_5 5 rfl)
theorem dL_law_325 : decode cL_law 325 = .ok (.iaload, 1) := fo_46 (fw_get da_cL_law_5 6 rfl)
theorem dL_law_326 : decode cL_law 326 = .ok (.aload_n 0, 1) := fo_42 (fw_get da_cL_law_5 7 rfl)
theorem dL_law_327 : decode cL_law 327 = .ok (.iload 4, 2) := fo_21 (fw_get da_cL_law_5 8 rfl)
theorem dL_law_329 : decode cL_law 329 = .ok (.iconst 2, 1) := fo_5 (fw_get da_cL_law_5 9 rfl)
theorem dL_law_330 : decode cL_law 330 = .ok (.iadd, 1) := fo_96 (fw_get da_cL_law_5 10 rfl)
theorem dL_law_331 : decode cL_law 331 = .ok (.iaload, 1) := fo_46 (fw_get da_cL_law_5 11 rfl)
theorem dL_law_332 : decode cL_law 332 = .ok (.invokevirtual 43, 3) := fo_182 (fw_get da_cL_law_5 12 rfl)
theorem dL_law_335 : decode cL_law 335 = .ok (.pop, 1) := fo_87 (fw_get da_cL_law_5 13 rfl)
theorem dL_law_336 : decode cL_law 336 = .ok (.aload_n 2, 1) := fo_44 (fw_get da_cL_law_5 14 rfl)
theorem dL_law_337 : decode cL_law 337 = .ok (.aload_n 0, 1) := fo_42 (fw_get da_cL_law_5 15 rfl)
theorem dL_law_338 : decode cL_law 338 = .ok (.iload 4, 2) := fo_21 (fw_get da_cL_law_5 16 rfl)
theorem dL_law_340 : decode cL_law 340 = .ok (.iconst 1, 1) := fo_4 (fw_get da_cL_law_5 17 rfl)
theorem dL_law_341 : decode cL_law 341 = .ok (.iadd, 1) := fo_96 (fw_get da_cL_law_5 18 rfl)
theorem dL_law_342 : decode cL_law 342 = .ok (.iaload, 1) := fo_46 (fw_get da_cL_law_5 19 rfl)
def dt_cL_law_6 : List (Nat × Nat × Nat × Nat) := [(343, 42, 0, 0), (344, 21, 1, 4), (346, 5, 0, 0), (347, 96, 0, 0), (348, 46, 0, 0), (349, 182, 2, 46), (352, 87, 0, 0), (353, 167, 2, 1935), (356, 43, 0, 0), (357, 42, 0, 0), (358, 21, 1, 4), (360, 4, 0, 0), (361, 96, 0, 0), (362, 46, 0, 0), (363, 42, 0, 0), (364, 21, 1, 4), (366, 5, 0, 0), (367, 96, 0, 0), (368, 46, 0, 0), (369, 42, 0, 0)]
theorem da_cL_law_6 : fw dt_cL_law_6 0 cL_law.data.toList = true := by decide +kernel
theorem dL_law_343 : decode cL_law 343 = .ok (.aload_n 0, 1) := fo_42 (fw_get da_cL_law_6 0 rfl)
theorem dL_law_344 : decode cL_law 344 = .ok (.iload 4, 2) := fo_21 (fw_get da_cL_law_6 1 rfl)
theorem dL_law_346 : decode cL_law 346 = .ok (.iconst 2, 1) := fo_5 (fw_get da_cL_law_6 2 rfl)
theorem dL_law_347 : decode cL_law 347 = .ok (.iadd, 1) := fo_96 (fw_get da_cL_law_6 3 rfl)
theorem dL_law_348 : decode cL_law 348 = .ok (.iaload, 1) := fo_46 (fw_get da_cL_law_6 4 rfl)
theorem dL_law_349 : decode cL_law 349 = .ok (.invokevirtual 46, 3) := fo_182 (fw_get da_cL_law_6 5 rfl)
theorem dL_law_352 : decode cL_law 352 = .ok (.pop, 1) := fo_87 (fw_get da_cL_law_6 6 rfl)
theorem dL_law_353 : decode cL_law 353 = .ok (.goto 1935, 3) := fo_167 (fw_get da_cL_law_6 7 rfl) (by decide +kernel)
theorem dL_law_356 : decode cL_law 356 = .ok (.aload_n 1, 1) := fo_43 (fw_get da_cL_law_6 8 rfl)
theorem dL_law_357 : decode cL_law 357 = .ok (.aload_n 0, 1) := fo_42 (fw_get da_cL_law_6 9 rfl)
theorem dL_law_358 : decode cL_law 358 = .ok (.iload 4, 2) := fo_21 (fw_get da_cL_law_6 10 rfl)
theorem dL_law_360 : decode cL_law 360 = .ok (.iconst 1, 1) := fo_4 (fw_get da_cL_law_6 11 rfl)
theorem dL_law_361 : decode cL_law 361 = .ok (.iadd, 1) := fo_96 (fw_get da_cL_law_6 12 rfl)
theorem dL_law_362 : decode cL_law 362 = .ok (.iaload, 1) := fo_46 (fw_get da_cL_law_6 13 rfl)
theorem dL_law_363 : decode cL_law 363 = .ok (.aload_n 0, 1) := fo_42 (fw_get da_cL_law_6 14 rfl)
theorem dL_law_364 : decode cL_law 364 = .ok (.iload 4, 2) := fo_21 (fw_get da_cL_law_6 15 rfl)
theorem dL_law_366 : decode cL_law 366 = .ok (.iconst 2, 1) := fo_5 (fw_get da_cL_law_6 16 rfl)
theorem dL_law_367 : decode cL_law 367 = .ok (.iadd, 1) := fo_96 (fw_get da_cL_law_6 17 rfl)
theorem dL_law_368 : decode cL_law 368 = .ok (.iaload, 1) := fo_46 (fw_get da_cL_law_6 18 rfl)
theorem dL_law_369 : decode cL_law 369 = .ok (.aload_n 0, 1) := fo_42 (fw_get da_cL_law_6 19 rfl)
def dt_cL_law_7 : List (Nat × Nat × Nat × Nat) := [(370, 21, 1, 4), (372, 6, 0, 0), (373, 96, 0, 0), (374, 46, 0, 0), (375, 182, 2, 47), (378, 87, 0, 0), (379, 44, 0, 0), (380, 42, 0, 0), (381, 21, 1, 4), (383, 4, 0, 0), (384, 96, 0, 0), (385, 46, 0, 0), (386, 42, 0, 0), (387, 21, 1, 4), (389, 5, 0, 0), (390, 96, 0, 0), (391, 46, 0, 0), (392, 42, 0, 0), (393, 21, 1, 4), (395, 6, 0, 0)]
theorem da_cL_law_7 : fw dt_cL_law_7 0 cL_law.data.toList = true := by decide +kernel
theorem dL_law_370 : decode cL_law 370 = .ok (.iload 4, 2) := fo_21 (fw_get da_cL_law_7 0 rfl)
theorem dL_law_372 : decode cL_law 372 = .ok (.iconst 3, 1) := fo_6 (fw_get da_cL_law_7 1 rfl)
theorem dL_law_373 : decode cL_law 373 = .ok (.iadd, 1) := fo_96 (fw_get da_cL_law_7 2 rfl)
theorem dL_law_374 : decode cL_law 374 = .ok (.iaload, 1) := fo_46 (fw_get da_cL_law_7 3 rfl)
theorem dL_law_375 : decode cL_law 375 = .ok (.invokevirtual 47, 3) := fo_182 (fw_get da_cL_law_7 4 rfl)
theorem dL_law_378 : decode cL_law 378 = .ok (.pop, 1) := fo_87 (fw_get da_cL_law_7 5 rfl)
theorem dL_law_379 : decode cL_law 379 = .ok (.aload_n 2, 1) := fo_44 (fw_get da_cL_law_7 6 rfl)
theorem dL_law_380 : decode cL_law 380 = .ok (.aload_n 0, 1) := fo_42 (fw_get da_cL_law_7 7 rfl)
theorem dL_law_381 : decode cL_law 381 = .ok (.iload 4, 2) := fo_21 (fw_get da_cL_law_7 8 rfl)
theorem dL_law_383 : decode cL_law 383 = .ok (.iconst 1, 1) := fo_4 (fw_get da_cL_law_7 9 rfl)
theorem dL_law_384 : decode cL_law 384 = .ok (.iadd, 1) := fo_96 (fw_get da_cL_law_7 10 rfl)
theorem dL_law_385 : decode cL_law 385 = .ok (.iaload, 1) := fo_46 (fw_get da_cL_law_7 11 rfl)
theorem dL_law_386 : decode cL_law 386 = .ok (.aload_n 0, 1) := fo_42 (fw_get da_cL_law_7 12 rfl)
theorem dL_law_387 : decode cL_law 387 = .ok (.iload 4, 2) := fo_21 (fw_get da_cL_law_7 13 rfl)
theorem dL_law_389 : decode cL_law 389 = .ok (.iconst 2, 1) := fo_5 (fw_get da_cL_law_7 14 rfl)
theorem dL_law_390 : decode cL_law 390 = .ok (.iadd, 1) := fo_96 (fw_get da_cL_law_7 15 rfl)
theorem dL_law_391 : decode cL_law 391 = .ok (.iaload, 1) := fo_46 (fw_get da_cL_law_7 16 rfl)
theorem dL_law_392 : decode cL_law 392 = .ok (.aload_n 0, 1) := fo_42 (fw_get da_cL_law_7 17 rfl)
theorem dL_law_393 : decode cL_law 393 = .ok (.iload 4, 2) := fo_21 (fw_get da_cL_law_7 18 rfl)
theorem dL_law_395 : decode cL_law 395 = .ok (.iconst 3, 1) := fo_6 (fw_get da_cL_law_7 19 rfl)
def dt_cL_law_8 : List (Nat × Nat × Nat × Nat) := [(396, 96, 0, 0), (397, 46, 0, 0), (398, 182, 2, 51), (401, 87, 0, 0), (402, 167, 2, 1886)]
theorem da_cL_law_8 : fw dt_cL_law_8 0 cL_law.data.toList = true := by decide +kernel
theorem dL_law_396 : decode cL_law 396 = .ok (.iadd, 1) := fo_96 (fw_get da_cL_law_8 0 rfl)
theorem dL_law_397 : decode cL_law 397 = .ok (.iaload, 1) := fo_46 (fw_get da_cL_law_8 1 rfl)
theorem dL_law_398 : decode cL_law 398 = .ok (.invokevirtual 51, 3) := fo_182 (fw_get da_cL_law_8 2 rfl)
theorem dL_law_401 : decode cL_law 401 = .ok (.pop, 1) := fo_87 (fw_get da_cL_law_8 3 rfl)
theorem dL_law_402 : decode cL_law 402 = .ok (.goto 1886, 3) := fo_167 (fw_get da_cL_law_8 4 rfl) (by decide +kernel)


def dt_cL_law_9 : List (Nat × Nat × Nat × Nat) := [(405, 43, 0, 0), (406, 42, 0, 0), (407, 21, 1, 4), (409, 4, 0, 0), (410, 96, 0, 0), (411, 46, 0, 0), (412, 42, 0, 0), (413, 21, 1, 4), (415, 5, 0, 0), (416, 96, 0, 0), (417, 46, 0, 0), (418, 182, 2, 52), (421, 87, 0, 0), (422, 44, 0, 0), (423, 42, 0, 0), (424, 21, 1, 4), (426, 4, 0, 0), (427, 96, 0, 0), (428, 46, 0, 0), (429, 42, 0, 0)]
theorem da_cL_law_9 : fw dt_cL_law_9 0 cL_law.data.toList = true := by decide +kernel
theorem dL_law_405 : decode cL_law 405 = .ok (.aload_n 1, 1) := fo_43 (fw_get da_cL_law_9 0 rfl)
theorem dL_law_406 : decode cL_law 406 = .ok (.aload_n 0, 1) := fo_42 (fw_get da_cL_law_9 1 rfl)
theorem dL_law_407 : decode cL_law 407 = .ok (.iload 4, 2) := fo_21 (fw_get da_cL_law_9 2 rfl)
theorem dL_law_409 : decode cL_law 409 = .ok (.iconst 1, 1) := fo_4 (fw_get da_cL_law_9 3 rfl)
theorem dL_law_410 : decode cL_law 410 = .ok (.iadd, 1) := fo_96 (fw_get da_cL_law_9 4 rfl)
theorem dL_law_411 : decode cL_law 411 = .ok (.iaload, 1) := fo_46 (fw_get da_cL_law_9 5 rfl)
theorem dL_law_412 : decode cL_law 412 = .ok (.aload_n 0, 1) := fo_42 (fw_get da_cL_law_9 6 rfl)
theorem dL_law_413 : decode cL_law 413 = .ok (.iload 4, 2) := fo_21 (fw_get da_cL_law_9 7 rfl)
theorem dL_law_415 : decode cL_law 415 = .ok (.iconst 2, 1) := fo_5 (fw_get da_cL_law_9 8 rfl)
theorem dL_law_416 : decode cL_law 416 = .ok (.iadd, 1) := fo_96 (fw_get da_cL_law_9 9 rfl)
theorem dL_law_417 : decode cL_law 417 = .ok (.iaload, 1) := fo_46 (fw_get da_cL_law_9 10 rfl)
theorem dL_law_418 : decode cL_law 418 = .ok (.invokevirtual 52, 3) := fo_182 (fw_get da_cL_law_9 11 rfl)
theorem dL_law_421 : decode cL_law 421 = .ok (.pop, 1) := fo_87 (fw_get da_cL_law_9 12 rfl)
theorem dL_law_422 : decode cL_law 422 = .ok (.aload_n 2, 1) := fo_44 (fw_get da_cL_law_9 13 rfl)
theorem dL_law_423 : decode cL_law 423 = .ok (.aload_n 0, 1) := fo_42 (fw_get da_cL_law_9 14 rfl)
theorem dL_law_424 : decode cL_law 424 = .ok (.iload 4, 2) := fo_21 (fw_get da_cL_law_9 15 rfl)
theorem dL_law_426 : decode cL_law 426 = .ok (.iconst 1, 1) := fo_4 (fw_get da_cL_law_9 16 rfl)
theorem dL_law_427 : decode cL_law 427 = .ok (.iadd, 1) := fo_96 (fw_get da_cL_law_9 17 rfl)
theorem dL_law_428 : decode cL_law 428 = .ok (.iaload, 1) := fo_46 (fw_get da_cL_law_9 18 rfl)
theorem dL_law_429 : decode cL_law 429 = .ok (.aload_n 0, 1) := fo_42 (fw_get da_cL_law_9 19 rfl)
def dt_cL_law_10 : List (Nat × Nat × Nat × Nat) := [(430, 21, 1, 4), (432, 5, 0, 0), (433, 96, 0, 0), (434, 46, 0, 0), (435, 182, 2, 55), (438, 87, 0, 0), (439, 167, 2, 1849), (442, 43, 0, 0), (443, 42, 0, 0), (444, 21, 1, 4), (446, 4, 0, 0), (447, 96, 0, 0), (448, 46, 0, 0), (449, 42, 0, 0), (450, 21, 1, 4), (452, 5, 0, 0), (453, 96, 0, 0), (454, 46, 0, 0), (455, 182, 2, 56), (458, 87, 0, 0)]
theorem da_cL_law_10 : fw dt_cL_law_10 0 cL_law.data.toList = true := by decide +kernel
theorem dL_law_430 : decode cL_law 430 = .ok (.iload 4, 2) := fo_21 (fw_get da_cL_law_10 0 rfl)
theorem dL_law_432 : decode cL_law 432 = .ok (.iconst 2, 1) := fo_5 (fw_get da_cL_law_10 1 rfl)
theorem dL_law_433 : decode cL_law 433 = .ok (.iadd, 1) := fo_96 (fw_get da_cL_law_10 2 rfl)
theorem dL_law_434 : decode cL_law 434 = .ok (.iaload, 1) := fo_46 (fw_get da_cL_law_10 3 rfl)
theorem dL_law_435 : decode cL_law 435 = .ok (.invokevirtual 55, 3) := fo_182 (fw_get da_cL_law_10 4 rfl)
theorem dL_law_438 : decode cL_law 438 = .ok (.pop, 1) := fo_87 (fw_get da_cL_law_10 5 rfl)
theorem dL_law_439 : decode cL_law 439 = .ok (.goto 1849, 3) := fo_167 (fw_get da_cL_law_10 6 rfl) (by decide +kernel)
theorem dL_law_442 : decode cL_law 442 = .ok (.aload_n 1, 1) := fo_43 (fw_get da_cL_law_10 7 rfl)
theorem dL_law_443 : decode cL_law 443 = .ok (.aload_n 0, 1) := fo_42 (fw_get da_cL_law_10 8 rfl)
theorem dL_law_444 : decode cL_law 444 = .ok (.iload 4, 2) := fo_21 (fw_get da_cL_law_10 9 rfl)
theorem dL_law_446 : decode cL_law 446 = .ok (.iconst 1, 1) := fo_4 (fw_get da_cL_law_10 10 rfl)
theorem dL_law_447 : decode cL_law 447 = .ok (.iadd, 1) := fo_96 (fw_get da_cL_law_10 11 rfl)
theorem dL_law_448 : decode cL_law 448 = .ok (.iaload, 1) := fo_46 (fw_get da_cL_law_10 12 rfl)
theorem dL_law_449 : decode cL_law 449 = .ok (.aload_n 0, 1) := fo_42 (fw_get da_cL_law_10 13 rfl)
theorem dL_law_450 : decode cL_law 450 = .ok (.iload 4, 2) := fo_21 (fw_get da_cL_law_10 14 rfl)
theorem dL_law_452 : decode cL_law 452 = .ok (.iconst 2, 1) := fo_5 (fw_get da_cL_law_10 15 rfl)
theorem dL_law_453 : decode cL_law 453 = .ok (.iadd, 1) := fo_96 (fw_get da_cL_law_10 16 rfl)
theorem dL_law_454 : decode cL_law 454 = .ok (.iaload, 1) := fo_46 (fw_get da_cL_law_10 17 rfl)
theorem dL_law_455 : decode cL_law 455 = .ok (.invokevirtual 56, 3) := fo_182 (fw_get da_cL_law_10 18 rfl)
theorem dL_law_458 : decode cL_law 458 = .ok (.pop, 1) := fo_87 (fw_get da_cL_law_10 19 rfl)
def dt_cL_law_11 : List (Nat × Nat × Nat × Nat) := [(459, 44, 0, 0), (460, 42, 0, 0), (461, 21, 1, 4), (463, 4, 0, 0), (464, 96, 0, 0), (465, 46, 0, 0), (466, 42, 0, 0), (467, 21, 1, 4), (469, 5, 0, 0), (470, 96, 0, 0), (471, 46, 0, 0), (472, 182, 2, 59), (475, 87, 0, 0), (476, 167, 2, 1812), (479, 43, 0, 0), (480, 42, 0, 0), (481, 21, 1, 4), (483, 4, 0, 0), (484, 96, 0, 0), (485, 46, 0, 0)]
theorem da_cL_law_11 : fw dt_cL_law_11 0 cL_law.data.toList = true := by decide +kernel
theorem dL_law_459 : decode cL_law 459 = .ok (.aload_n 2, 1) := fo_44 (fw_get da_cL_law_11 0 rfl)
theorem dL_law_460 : decode cL_law 460 = .ok (.aload_n 0, 1) := fo_42 (fw_get da_cL_law_11 1 rfl)
theorem dL_law_461 : decode cL_law 461 = .ok (.iload 4, 2) := fo_21 (fw_get da_cL_law_11 2 rfl)
theorem dL_law_463 : decode cL_law 463 = .ok (.iconst 1, 1) := fo_4 (fw_get da_cL_law_11 3 rfl)
theorem dL_law_464 : decode cL_law 464 = .ok (.iadd, 1) := fo_96 (fw_get da_cL_law_11 4 rfl)
theorem dL_law_465 : decode cL_law 465 = .ok (.iaload, 1) := fo_46 (fw_get da_cL_law_11 5 rfl)
theorem dL_law_466 : decode cL_law 466 = .ok (.aload_n 0, 1) := fo_42 (fw_get da_cL_law_11 6 rfl)
theorem dL_law_467 : decode cL_law 467 = .ok (.iload 4, 2) := fo_21 (fw_get da_cL_law_11 7 rfl)
theorem dL_law_469 : decode cL_law 469 = .ok (.iconst 2, 1) := fo_5 (fw_get da_cL_law_11 8 rfl)
theorem dL_law_470 : decode cL_law 470 = .ok (.iadd, 1) := fo_96 (fw_get da_cL_law_11 9 rfl)
theorem dL_law_471 : decode cL_law 471 = .ok (.iaload, 1) := fo_46 (fw_get da_cL_law_11 10 rfl)
theorem dL_law_472 : decode cL_law 472 = .ok (.invokevirtual 59, 3) := fo_182 (fw_get da_cL_law_11 11 rfl)
theorem dL_law_475 : decode cL_law 475 = .ok (.pop, 1) := fo_87 (fw_get da_cL_law_11 12 rfl)
theorem dL_law_476 : decode cL_law 476 = .ok (.goto 1812, 3) := fo_167 (fw_get da_cL_law_11 13 rfl) (by decide +kernel)
theorem dL_law_479 : decode cL_law 479 = .ok (.aload_n 1, 1) := fo_43 (fw_get da_cL_law_11 14 rfl)
theorem dL_law_480 : decode cL_law 480 = .ok (.aload_n 0, 1) := fo_42 (fw_get da_cL_law_11 15 rfl)
theorem dL_law_481 : decode cL_law 481 = .ok (.iload 4, 2) := fo_21 (fw_get da_cL_law_11 16 rfl)
theorem dL_law_483 : decode cL_law 483 = .ok (.iconst 1, 1) := fo_4 (fw_get da_cL_law_11 17 rfl)
theorem dL_law_484 : decode cL_law 484 = .ok (.iadd, 1) := fo_96 (fw_get da_cL_law_11 18 rfl)
theorem dL_law_485 : decode cL_law 485 = .ok (.iaload, 1) := fo_46 (fw_get da_cL_law_11 19 rfl)
def dt_cL_law_12 : List (Nat × Nat × Nat × Nat) := [(486, 42, 0, 0), (487, 21, 1, 4), (489, 5, 0, 0), (490, 96, 0, 0), (491, 46, 0, 0), (492, 182, 2, 60), (495, 87, 0, 0), (496, 44, 0, 0), (497, 42, 0, 0), (498, 21, 1, 4), (500, 4, 0, 0), (501, 96, 0, 0), (502, 46, 0, 0), (503, 42, 0, 0), (504, 21, 1, 4), (506, 5, 0, 0), (507, 96, 0, 0), (508, 46, 0, 0), (509, 182, 2, 63), (512, 87, 0, 0)]
theorem da_cL_law_12 : fw dt_cL_law_12 0 cL_law.data.toList = true := by decide +kernel
theorem dL_law_486 : decode cL_law 486 = .ok (.aload_n 0, 1) := fo_42 (fw_get da_cL_law_12 0 rfl)
theorem dL_law_487 : decode cL_law 487 = .ok (.iload 4, 2) := fo_21 (fw_get da_cL_law_12 1 rfl)
theorem dL_law_489 : decode cL_law 489 = .ok (.iconst 2, 1) := fo_5 (fw_get da_cL_law_12 2 rfl)
theorem dL_law_490 : decode cL_law 490 = .ok (.iadd, 1) := fo_96 (fw_get da_cL_law_12 3 rfl)
theorem dL_law_491 : decode cL_law 491 = .ok (.iaload, 1) := fo_46 (fw_get da_cL_law_12 4 rfl)
theorem dL_law_492 : decode cL_law 492 = .ok (.invokevirtual 60, 3) := fo_182 (fw_get da_cL_law_12 5 rfl)
theorem dL_law_495 : decode cL_law 495 = .ok (.pop, 1) := fo_87 (fw_get da_cL_law_12 6 rfl)
theorem dL_law_496 : decode cL_law 496 = .ok (.aload_n 2, 1) := fo_44 (fw_get da_cL_law_12 7 rfl)
theorem dL_law_497 : decode cL_law 497 = .ok (.aload_n 0, 1) := fo_42 (fw_get da_cL_law_12 8 rfl)
theorem dL_law_498 : decode cL_law 498 = .ok (.iload 4, 2) := fo_21 (fw_get da_cL_law_12 9 rfl)
theorem dL_law_500 : decode cL_law 500 = .ok (.iconst 1, 1) := fo_4 (fw_get da_cL_law_12 10 rfl)
theorem dL_law_501 : decode cL_law 501 = .ok (.iadd, 1) := fo_96 (fw_get da_cL_law_12 11 rfl)
theorem dL_law_502 : decode cL_law 502 = .ok (.iaload, 1) := fo_46 (fw_get da_cL_law_12 12 rfl)
theorem dL_law_503 : decode cL_law 503 = .ok (.aload_n 0, 1) := fo_42 (fw_get da_cL_law_12 13 rfl)
theorem dL_law_504 : decode cL_law 504 = .ok (.iload 4, 2) := fo_21 (fw_get da_cL_law_12 14 rfl)
theorem dL_law_506 : decode cL_law 506 = .ok (.iconst 2, 1) := fo_5 (fw_get da_cL_law_12 15 rfl)
theorem dL_law_507 : decode cL_law 507 = .ok (.iadd, 1) := fo_96 (fw_get da_cL_law_12 16 rfl)
theorem dL_law_508 : decode cL_law 508 = .ok (.iaload, 1) := fo_46 (fw_get da_cL_law_12 17 rfl)
theorem dL_law_509 : decode cL_law 509 = .ok (.invokevirtual 63, 3) := fo_182 (fw_get da_cL_law_12 18 rfl)
theorem dL_law_512 : decode cL_law 512 = .ok (.pop, 1) := fo_87 (fw_get da_cL_law_12 19 rfl)
def dt_cL_law_13 : List (Nat × Nat × Nat × Nat) := [(513, 167, 2, 1775), (516, 43, 0, 0), (517, 42, 0, 0), (518, 21, 1, 4), (520, 4, 0, 0), (521, 96, 0, 0), (522, 46, 0, 0), (523, 182, 2, 64), (526, 87, 0, 0), (527, 44, 0, 0), (528, 42, 0, 0), (529, 21, 1, 4), (531, 4, 0, 0), (532, 96, 0, 0), (533, 46, 0, 0), (534, 182, 2, 67), (537, 87, 0, 0), (538, 167, 2, 1750), (541, 43, 0, 0), (542, 42, 0, 0)]
theorem da_cL_law_13 : fw dt_cL_law_13 0 cL_law.data.toList = true := by decide +kernel
theorem dL_law_513 : decode cL_law 513 = .ok (.goto 1775, 3) := fo_167 (fw_get da_cL_law_13 0 rfl) (by decide +kernel)
theorem dL_law_516 : decode cL_law 516 = .ok (.aload_n 1, 1) := fo_43 (fw_get da_cL_law_13 1 rfl)
theorem dL_law_517 : decode cL_law 517 = .ok (.aload_n 0, 1) := fo_42 (fw_get da_cL_law_13 2 rfl)
theorem dL_law_518 : decode cL_law 518 = .ok (.iload 4, 2) := fo_21 (fw_get da_cL_law_13 3 rfl)
theorem dL_law_520 : decode cL_law 520 = .ok (.iconst 1, 1) := fo_4 (fw_get da_cL_law_13 4 rfl)
theorem dL_law_521 : decode cL_law 521 = .ok (.iadd, 1) := fo_96 (fw_get da_cL_law_13 5 rfl)
theorem dL_law_522 : decode cL_law 522 = .ok (.iaload, 1) := fo_46 (fw_get da_cL_law_13 6 rfl)
theorem dL_law_523 : decode cL_law 523 = .ok (.invokevirtual 64, 3) := fo_182 (fw_get da_cL_law_13 7 rfl)
theorem dL_law_526 : decode cL_law 526 = .ok (.pop, 1) := fo_87 (fw_get da_cL_law_13 8 rfl)
theorem dL_law_527 : decode cL_law 527 = .ok (.aload_n 2, 1) := fo_44 (fw_get da_cL_law_13 9 rfl)
theorem dL_law_528 : decode cL_law 528 = .ok (.aload_n 0, 1) := fo_42 (fw_get da_cL_law_13 10 rfl)
theorem dL_law_529 : decode cL_law 529 = .ok (.iload 4, 2) := fo_21 (fw_get da_cL_law_13 11 rfl)
theorem dL_law_531 : decode cL_law 531 = .ok (.iconst 1, 1) := fo_4 (fw_get da_cL_law_13 12 rfl)
theorem dL_law_532 : decode cL_law 532 = .ok (.iadd, 1) := fo_96 (fw_get da_cL_law_13 13 rfl)
theorem dL_law_533 : decode cL_law 533 = .ok (.iaload, 1) := fo_46 (fw_get da_cL_law_13 14 rfl)
theorem dL_law_534 : decode cL_law 534 = .ok (.invokevirtual 67, 3) := fo_182 (fw_get da_cL_law_13 15 rfl)
theorem dL_law_537 : decode cL_law 537 = .ok (.pop, 1) := fo_87 (fw_get da_cL_law_13 16 rfl)
theorem dL_law_538 : decode cL_law 538 = .ok (.goto 1750, 3) := fo_167 (fw_get da_cL_law_13 17 rfl) (by decide +kernel)
theorem dL_law_541 : decode cL_law 541 = .ok (.aload_n 1, 1) := fo_43 (fw_get da_cL_law_13 18 rfl)
theorem dL_law_542 : decode cL_law 542 = .ok (.aload_n 0, 1) := fo_42 (fw_get da_cL_law_13 19 rfl)
def dt_cL_law_14 : List (Nat × Nat × Nat × Nat) := [(543, 21, 1, 4), (545, 4, 0, 0), (546, 96, 0, 0), (547, 46, 0, 0), (548, 45, 0, 0), (549, 184, 2, 68), (552, 54, 1, 5), (554, 44, 0, 0), (555, 42, 0, 0), (556, 21, 1, 4), (558, 4, 0, 0), (559, 96, 0, 0), (560, 46, 0, 0), (561, 182, 2, 73), (564, 54, 1, 6), (566, 167, 2, 1722), (569, 43, 0, 0), (570, 42, 0, 0), (571, 21, 1, 4), (573, 4, 0, 0)]
theorem da_cL_law_14 : fw dt_cL_law_14 0 cL_law.data.toList = true := by decide +kernel
theorem dL_law_543 : decode cL_law 543 = .ok (.iload 4, 2) := fo_21 (fw_get da_cL_law_14 0 rfl)
theorem dL_law_545 : decode cL_law 545 = .ok (.iconst 1, 1) := fo_4 (fw_get da_cL_law_14 1 rfl)
theorem dL_law_546 : decode cL_law 546 = .ok (.iadd, 1) := fo_96 (fw_get da_cL_law_14 2 rfl)
theorem dL_law_547 : decode cL_law 547 = .ok (.iaload, 1) := fo_46 (fw_get da_cL_law_14 3 rfl)
theorem dL_law_548 : decode cL_law 548 = .ok (.aload_n 3, 1) := fo_45 (fw_get da_cL_law_14 4 rfl)
theorem dL_law_549 : decode cL_law 549 = .ok (.invokestatic 68, 3) := fo_184 (fw_get da_cL_law_14 5 rfl)
theorem dL_law_552 : decode cL_law 552 = .ok (.istore 5, 2) := fo_54 (fw_get da_cL_law_14 6 rfl)
theorem dL_law_554 : decode cL_law 554 = .ok (.aload_n 2, 1) := fo_44 (fw_get da_cL_law_14 7 rfl)
theorem dL_law_555 : decode cL_law 555 = .ok (.aload_n 0, 1) := fo_42 (fw_get da_cL_law_14 8 rfl)
theorem dL_law_556 : decode cL_law 556 = .ok (.iload 4, 2) := fo_21 (fw_get da_cL_law_14 9 rfl)
theorem dL_law_558 : decode cL_law 558 = .ok (.iconst 1, 1) := fo_4 (fw_get da_cL_law_14 10 rfl)
theorem dL_law_559 : decode cL_law 559 = .ok (.iadd, 1) := fo_96 (fw_get da_cL_law_14 11 rfl)
theorem dL_law_560 : decode cL_law 560 = .ok (.iaload, 1) := fo_46 (fw_get da_cL_law_14 12 rfl)
theorem dL_law_561 : decode cL_law 561 = .ok (.invokevirtual 73, 3) := fo_182 (fw_get da_cL_law_14 13 rfl)
theorem dL_law_564 : decode cL_law 564 = .ok (.istore 6, 2) := fo_54 (fw_get da_cL_law_14 14 rfl)
theorem dL_law_566 : decode cL_law 566 = .ok (.goto 1722, 3) := fo_167 (fw_get da_cL_law_14 15 rfl) (by decide +kernel)
theorem dL_law_569 : decode cL_law 569 = .ok (.aload_n 1, 1) := fo_43 (fw_get da_cL_law_14 16 rfl)
theorem dL_law_570 : decode cL_law 570 = .ok (.aload_n 0, 1) := fo_42 (fw_get da_cL_law_14 17 rfl)
theorem dL_law_571 : decode cL_law 571 = .ok (.iload 4, 2) := fo_21 (fw_get da_cL_law_14 18 rfl)
theorem dL_law_573 : decode cL_law 573 = .ok (.iconst 1, 1) := fo_4 (fw_get da_cL_law_14 19 rfl)
def dt_cL_law_15 : List (Nat × Nat × Nat × Nat) := [(574, 96, 0, 0), (575, 46, 0, 0), (576, 42, 0, 0), (577, 21, 1, 4), (579, 5, 0, 0), (580, 96, 0, 0), (581, 46, 0, 0), (582, 42, 0, 0), (583, 21, 1, 4), (585, 6, 0, 0), (586, 96, 0, 0), (587, 46, 0, 0), (588, 182, 2, 74), (591, 87, 0, 0), (592, 44, 0, 0), (593, 42, 0, 0), (594, 21, 1, 4), (596, 4, 0, 0), (597, 96, 0, 0), (598, 46, 0, 0)]
theorem da_cL_law_15 : fw dt_cL_law_15 0 cL_law.data.toList = true := by decide +kernel
theorem dL_law_574 : decode cL_law 574 = .ok (.iadd, 1) := fo_96 (fw_get da_cL_law_15 0 rfl)
theorem dL_law_575 : decode cL_law 575 = .ok (.iaload, 1) := fo_46 (fw_get da_cL_law_15 1 rfl)
theorem dL_law_576 : decode cL_law 576 = .ok (.aload_n 0, 1) := fo_42 (fw_get da_cL_law_15 2 rfl)
theorem dL_law_577 : decode cL_law 577 = .ok (.iload 4, 2) := fo_21 (fw_get da_cL_law_15 3 rfl)
theorem dL_law_579 : decode cL_law 579 = .ok (.iconst 2, 1) := fo_5 (fw_get da_cL_law_15 4 rfl)
theorem dL_law_580 : decode cL_law 580 = .ok (.iadd, 1) := fo_96 (fw_get da_cL_law_15 5 rfl)
theorem dL_law_581 : decode cL_law 581 = .ok (.iaload, 1) := fo_46 (fw_get da_cL_law_15 6 rfl)
theorem dL_law_582 : decode cL_law 582 = .ok (.aload_n 0, 1) := fo_42 (fw_get da_cL_law_15 7 rfl)
theorem dL_law_583 : decode cL_law 583 = .ok (.iload 4, 2) := fo_21 (fw_get da_cL_law_15 8 rfl)
theorem dL_law_585 : decode cL_law 585 = .ok (.iconst 3, 1) := fo_6 (fw_get da_cL_law_15 9 rfl)
theorem dL_law_586 : decode cL_law 586 = .ok (.iadd, 1) := fo_96 (fw_get da_cL_law_15 10 rfl)
theorem dL_law_587 : decode cL_law 587 = .ok (.iaload, 1) := fo_46 (fw_get da_cL_law_15 11 rfl)
theorem dL_law_588 : decode cL_law 588 = .ok (.invokevirtual 74, 3) := fo_182 (fw_get da_cL_law_15 12 rfl)
theorem dL_law_591 : decode cL_law 591 = .ok (.pop, 1) := fo_87 (fw_get da_cL_law_15 13 rfl)
theorem dL_law_592 : decode cL_law 592 = .ok (.aload_n 2, 1) := fo_44 (fw_get da_cL_law_15 14 rfl)
theorem dL_law_593 : decode cL_law 593 = .ok (.aload_n 0, 1) := fo_42 (fw_get da_cL_law_15 15 rfl)
theorem dL_law_594 : decode cL_law 594 = .ok (.iload 4, 2) := fo_21 (fw_get da_cL_law_15 16 rfl)
theorem dL_law_596 : decode cL_law 596 = .ok (.iconst 1, 1) := fo_4 (fw_get da_cL_law_15 17 rfl)
theorem dL_law_597 : decode cL_law 597 = .ok (.iadd, 1) := fo_96 (fw_get da_cL_law_15 18 rfl)
theorem dL_law_598 : decode cL_law 598 = .ok (.iaload, 1) := fo_46 (fw_get da_cL_law_15 19 rfl)
def dt_cL_law_16 : List (Nat × Nat × Nat × Nat) := [(599, 42, 0, 0), (600, 21, 1, 4), (602, 5, 0, 0), (603, 96, 0, 0), (604, 46, 0, 0), (605, 42, 0, 0), (606, 21, 1, 4), (608, 6, 0, 0), (609, 96, 0, 0), (610, 46, 0, 0)]
theorem da_cL_law_16 : fw dt_cL_law_16 0 cL_law.data.toList = true := by decide +kernel
theorem dL_law_599 : decode cL_law 599 = .ok (.aload_n 0, 1) := fo_42 (fw_get da_cL_law_16 0 rfl)
theorem dL_law_600 : decode cL_law 600 = .ok (.iload 4, 2) := fo_21 (fw_get da_cL_law_16 1 rfl)
theorem dL_law_602 : decode cL_law 602 = .ok (.iconst 2, 1) := fo_5 (fw_get da_cL_law_16 2 rfl)
theorem dL_law_603 : decode cL_law 603 = .ok (.iadd, 1) := fo_96 (fw_get da_cL_law_16 3 rfl)
theorem dL_law_604 : decode cL_law 604 = .ok (.iaload, 1) := fo_46 (fw_get da_cL_law_16 4 rfl)
theorem dL_law_605 : decode cL_law 605 = .ok (.aload_n 0, 1) := fo_42 (fw_get da_cL_law_16 5 rfl)
theorem dL_law_606 : decode cL_law 606 = .ok (.iload 4, 2) := fo_21 (fw_get da_cL_law_16 6 rfl)
theorem dL_law_608 : decode cL_law 608 = .ok (.iconst 3, 1) := fo_6 (fw_get da_cL_law_16 7 rfl)
theorem dL_law_609 : decode cL_law 609 = .ok (.iadd, 1) := fo_96 (fw_get da_cL_law_16 8 rfl)
theorem dL_law_610 : decode cL_law 610 = .ok (.iaload, 1) := fo_46 (fw_get da_cL_law_16 9 rfl)


def dt_cL_law_17 : List (Nat × Nat × Nat × Nat) := [(611, 182, 2, 77), (614, 87, 0, 0), (615, 167, 2, 1673), (618, 43, 0, 0), (619, 42, 0, 0), (620, 21, 1, 4), (622, 4, 0, 0), (623, 96, 0, 0), (624, 46, 0, 0), (625, 42, 0, 0), (626, 21, 1, 4), (628, 5, 0, 0), (629, 96, 0, 0), (630, 46, 0, 0), (631, 182, 2, 78), (634, 87, 0, 0), (635, 44, 0, 0), (636, 42, 0, 0), (637, 21, 1, 4), (639, 4, 0, 0)]
theorem da_cL_law_17 : fw dt_cL_law_17 0 cL_law.data.toList = true := by decide +kernel
theorem dL_law_611 : decode cL_law 611 = .ok (.invokevirtual 77, 3) := fo_182 (fw_get da_cL_law_17 0 rfl)
theorem dL_law_614 : decode cL_law 614 = .ok (.pop, 1) := fo_87 (fw_get da_cL_law_17 1 rfl)
theorem dL_law_615 : decode cL_law 615 = .ok (.goto 1673, 3) := fo_167 (fw_get da_cL_law_17 2 rfl) (by decide +kernel)
theorem dL_law_618 : decode cL_law 618 = .ok (.aload_n 1, 1) := fo_43 (fw_get da_cL_law_17 3 rfl)
theorem dL_law_619 : decode cL_law 619 = .ok (.aload_n 0, 1) := fo_42 (fw_get da_cL_law_17 4 rfl)
theorem dL_law_620 : decode cL_law 620 = .ok (.iload 4, 2) := fo_21 (fw_get da_cL_law_17 5 rfl)
theorem dL_law_622 : decode cL_law 622 = .ok (.iconst 1, 1) := fo_4 (fw_get da_cL_law_17 6 rfl)
theorem dL_law_623 : decode cL_law 623 = .ok (.iadd, 1) := fo_96 (fw_get da_cL_law_17 7 rfl)
theorem dL_law_624 : decode cL_law 624 = .ok (.iaload, 1) := fo_46 (fw_get da_cL_law_17 8 rfl)
theorem dL_law_625 : decode cL_law 625 = .ok (.aload_n 0, 1) := fo_42 (fw_get da_cL_law_17 9 rfl)
theorem dL_law_626 : decode cL_law 626 = .ok (.iload 4, 2) := fo_21 (fw_get da_cL_law_17 10 rfl)
theorem dL_law_628 : decode cL_law 628 = .ok (.iconst 2, 1) := fo_5 (fw_get da_cL_law_17 11 rfl)
theorem dL_law_629 : decode cL_law 629 = .ok (.iadd, 1) := fo_96 (fw_get da_cL_law_17 12 rfl)
theorem dL_law_630 : decode cL_law 630 = .ok (.iaload, 1) := fo_46 (fw_get da_cL_law_17 13 rfl)
theorem dL_law_631 : decode cL_law 631 = .ok (.invokevirtual 78, 3) := fo_182 (fw_get da_cL_law_17 14 rfl)
theorem dL_law_634 : decode cL_law 634 = .ok (.pop, 1) := fo_87 (fw_get da_cL_law_17 15 rfl)
theorem dL_law_635 : decode cL_law 635 = .ok (.aload_n 2, 1) := fo_44 (fw_get da_cL_law_17 16 rfl)
theorem dL_law_636 : decode cL_law 636 = .ok (.aload_n 0, 1) := fo_42 (fw_get da_cL_law_17 17 rfl)
theorem dL_law_637 : decode cL_law 637 = .ok (.iload 4, 2) := fo_21 (fw_get da_cL_law_17 18 rfl)
theorem dL_law_639 : decode cL_law 639 = .ok (.iconst 1, 1) := fo_4 (fw_get da_cL_law_17 19 rfl)
def dt_cL_law_18 : List (Nat × Nat × Nat × Nat) := [(640, 96, 0, 0), (641, 46, 0, 0), (642, 42, 0, 0), (643, 21, 1, 4), (645, 5, 0, 0), (646, 96, 0, 0), (647, 46, 0, 0), (648, 182, 2, 81), (651, 87, 0, 0), (652, 167, 2, 1636), (655, 43, 0, 0), (656, 182, 2, 82), (659, 87, 0, 0), (660, 44, 0, 0), (661, 182, 2, 86), (664, 87, 0, 0), (665, 167, 2, 1623), (668, 43, 0, 0), (669, 42, 0, 0), (670, 21, 1, 4)]
theorem da_cL_law_18 : fw dt_cL_law_18 0 cL_law.data.toList = true := by decide +kernel
theorem dL_law_640 : decode cL_law 640 = .ok (.iadd, 1) := fo_96 (fw_get da_cL_law_18 0 rfl)
theorem dL_law_641 : decode cL_law 641 = .ok (.iaload, 1) := fo_46 (fw_get da_cL_law_18 1 rfl)
theorem dL_law_642 : decode cL_law 642 = .ok (.aload_n 0, 1) := fo_42 (fw_get da_cL_law_18 2 rfl)
theorem dL_law_643 : decode cL_law 643 = .ok (.iload 4, 2) := fo_21 (fw_get da_cL_law_18 3 rfl)
theorem dL_law_645 : decode cL_law 645 = .ok (.iconst 2, 1) := fo_5 (fw_get da_cL_law_18 4 rfl)
theorem dL_law_646 : decode cL_law 646 = .ok (.iadd, 1) := fo_96 (fw_get da_cL_law_18 5 rfl)
theorem dL_law_647 : decode cL_law 647 = .ok (.iaload, 1) := fo_46 (fw_get da_cL_law_18 6 rfl)
theorem dL_law_648 : decode cL_law 648 = .ok (.invokevirtual 81, 3) := fo_182 (fw_get da_cL_law_18 7 rfl)
theorem dL_law_651 : decode cL_law 651 = .ok (.pop, 1) := fo_87 (fw_get da_cL_law_18 8 rfl)
theorem dL_law_652 : decode cL_law 652 = .ok (.goto 1636, 3) := fo_167 (fw_get da_cL_law_18 9 rfl) (by decide +kernel)
theorem dL_law_655 : decode cL_law 655 = .ok (.aload_n 1, 1) := fo_43 (fw_get da_cL_law_18 10 rfl)
theorem dL_law_656 : decode cL_law 656 = .ok (.invokevirtual 82, 3) := fo_182 (fw_get da_cL_law_18 11 rfl)
theorem dL_law_659 : decode cL_law 659 = .ok (.pop, 1) := fo_87 (fw_get da_cL_law_18 12 rfl)
theorem dL_law_660 : decode cL_law 660 = .ok (.aload_n 2, 1) := fo_44 (fw_get da_cL_law_18 13 rfl)
theorem dL_law_661 : decode cL_law 661 = .ok (.invokevirtual 86, 3) := fo_182 (fw_get da_cL_law_18 14 rfl)
theorem dL_law_664 : decode cL_law 664 = .ok (.pop, 1) := fo_87 (fw_get da_cL_law_18 15 rfl)
theorem dL_law_665 : decode cL_law 665 = .ok (.goto 1623, 3) := fo_167 (fw_get da_cL_law_18 16 rfl) (by decide +kernel)
theorem dL_law_668 : decode cL_law 668 = .ok (.aload_n 1, 1) := fo_43 (fw_get da_cL_law_18 17 rfl)
theorem dL_law_669 : decode cL_law 669 = .ok (.aload_n 0, 1) := fo_42 (fw_get da_cL_law_18 18 rfl)
theorem dL_law_670 : decode cL_law 670 = .ok (.iload 4, 2) := fo_21 (fw_get da_cL_law_18 19 rfl)
def dt_cL_law_19 : List (Nat × Nat × Nat × Nat) := [(672, 4, 0, 0), (673, 96, 0, 0), (674, 46, 0, 0), (675, 42, 0, 0), (676, 21, 1, 4), (678, 5, 0, 0), (679, 96, 0, 0), (680, 46, 0, 0), (681, 182, 2, 87), (684, 87, 0, 0), (685, 44, 0, 0), (686, 42, 0, 0), (687, 21, 1, 4), (689, 4, 0, 0), (690, 96, 0, 0), (691, 46, 0, 0), (692, 42, 0, 0), (693, 21, 1, 4), (695, 5, 0, 0), (696, 96, 0, 0)]
theorem da_cL_law_19 : fw dt_cL_law_19 0 cL_law.data.toList = true := by decide +kernel
theorem dL_law_672 : decode cL_law 672 = .ok (.iconst 1, 1) := fo_4 (fw_get da_cL_law_19 0 rfl)
theorem dL_law_673 : decode cL_law 673 = .ok (.iadd, 1) := fo_96 (fw_get da_cL_law_19 1 rfl)
theorem dL_law_674 : decode cL_law 674 = .ok (.iaload, 1) := fo_46 (fw_get da_cL_law_19 2 rfl)
theorem dL_law_675 : decode cL_law 675 = .ok (.aload_n 0, 1) := fo_42 (fw_get da_cL_law_19 3 rfl)
theorem dL_law_676 : decode cL_law 676 = .ok (.iload 4, 2) := fo_21 (fw_get da_cL_law_19 4 rfl)
theorem dL_law_678 : decode cL_law 678 = .ok (.iconst 2, 1) := fo_5 (fw_get da_cL_law_19 5 rfl)
theorem dL_law_679 : decode cL_law 679 = .ok (.iadd, 1) := fo_96 (fw_get da_cL_law_19 6 rfl)
theorem dL_law_680 : decode cL_law 680 = .ok (.iaload, 1) := fo_46 (fw_get da_cL_law_19 7 rfl)
theorem dL_law_681 : decode cL_law 681 = .ok (.invokevirtual 87, 3) := fo_182 (fw_get da_cL_law_19 8 rfl)
theorem dL_law_684 : decode cL_law 684 = .ok (.pop, 1) := fo_87 (fw_get da_cL_law_19 9 rfl)
theorem dL_law_685 : decode cL_law 685 = .ok (.aload_n 2, 1) := fo_44 (fw_get da_cL_law_19 10 rfl)
theorem dL_law_686 : decode cL_law 686 = .ok (.aload_n 0, 1) := fo_42 (fw_get da_cL_law_19 11 rfl)
theorem dL_law_687 : decode cL_law 687 = .ok (.iload 4, 2) := fo_21 (fw_get da_cL_law_19 12 rfl)
theorem dL_law_689 : decode cL_law 689 = .ok (.iconst 1, 1) := fo_4 (fw_get da_cL_law_19 13 rfl)
theorem dL_law_690 : decode cL_law 690 = .ok (.iadd, 1) := fo_96 (fw_get da_cL_law_19 14 rfl)
theorem dL_law_691 : decode cL_law 691 = .ok (.iaload, 1) := fo_46 (fw_get da_cL_law_19 15 rfl)
theorem dL_law_692 : decode cL_law 692 = .ok (.aload_n 0, 1) := fo_42 (fw_get da_cL_law_19 16 rfl)
theorem dL_law_693 : decode cL_law 693 = .ok (.iload 4, 2) := fo_21 (fw_get da_cL_law_19 17 rfl)
theorem dL_law_695 : decode cL_law 695 = .ok (.iconst 2, 1) := fo_5 (fw_get da_cL_law_19 18 rfl)
theorem dL_law_696 : decode cL_law 696 = .ok (.iadd, 1) := fo_96 (fw_get da_cL_law_19 19 rfl)
def dt_cL_law_20 : List (Nat × Nat × Nat × Nat) := [(697, 46, 0, 0), (698, 182, 2, 90), (701, 87, 0, 0), (702, 167, 2, 1586), (705, 43, 0, 0), (706, 42, 0, 0), (707, 21, 1, 4), (709, 4, 0, 0), (710, 96, 0, 0), (711, 46, 0, 0), (712, 42, 0, 0), (713, 21, 1, 4), (715, 5, 0, 0), (716, 96, 0, 0), (717, 46, 0, 0), (718, 42, 0, 0), (719, 21, 1, 4), (721, 6, 0, 0), (722, 96, 0, 0), (723, 46, 0, 0)]
theorem da_cL_law_20 : fw dt_cL_law_20 0 cL_law.data.toList = true := by decide +kernel
theorem dL_law_697 : decode cL_law 697 = .ok (.iaload, 1) := fo_46 (fw_get da_cL_law_20 0 rfl)
theorem dL_law_698 : decode cL_law 698 = .ok (.invokevirtual 90, 3) := fo_182 (fw_get da_cL_law_20 1 rfl)
theorem dL_law_701 : decode cL_law 701 = .ok (.pop, 1) := fo_87 (fw_get da_cL_law_20 2 rfl)
theorem dL_law_702 : decode cL_law 702 = .ok (.goto 1586, 3) := fo_167 (fw_get da_cL_law_20 3 rfl) (by decide +kernel)
theorem dL_law_705 : decode cL_law 705 = .ok (.aload_n 1, 1) := fo_43 (fw_get da_cL_law_20 4 rfl)
theorem dL_law_706 : decode cL_law 706 = .ok (.aload_n 0, 1) := fo_42 (fw_get da_cL_law_20 5 rfl)
theorem dL_law_707 : decode cL_law 707 = .ok (.iload 4, 2) := fo_21 (fw_get da_cL_law_20 6 rfl)
theorem dL_law_709 : decode cL_law 709 = .ok (.iconst 1, 1) := fo_4 (fw_get da_cL_law_20 7 rfl)
theorem dL_law_710 : decode cL_law 710 = .ok (.iadd, 1) := fo_96 (fw_get da_cL_law_20 8 rfl)
theorem dL_law_711 : decode cL_law 711 = .ok (.iaload, 1) := fo_46 (fw_get da_cL_law_20 9 rfl)
theorem dL_law_712 : decode cL_law 712 = .ok (.aload_n 0, 1) := fo_42 (fw_get da_cL_law_20 10 rfl)
theorem dL_law_713 : decode cL_law 713 = .ok (.iload 4, 2) := fo_21 (fw_get da_cL_law_20 11 rfl)
theorem dL_law_715 : decode cL_law 715 = .ok (.iconst 2, 1) := fo_5 (fw_get da_cL_law_20 12 rfl)
theorem dL_law_716 : decode cL_law 716 = .ok (.iadd, 1) := fo_96 (fw_get da_cL_law_20 13 rfl)
theorem dL_law_717 : decode cL_law 717 = .ok (.iaload, 1) := fo_46 (fw_get da_cL_law_20 14 rfl)
theorem dL_law_718 : decode cL_law 718 = .ok (.aload_n 0, 1) := fo_42 (fw_get da_cL_law_20 15 rfl)
theorem dL_law_719 : decode cL_law 719 = .ok (.iload 4, 2) := fo_21 (fw_get da_cL_law_20 16 rfl)
theorem dL_law_721 : decode cL_law 721 = .ok (.iconst 3, 1) := fo_6 (fw_get da_cL_law_20 17 rfl)
theorem dL_law_722 : decode cL_law 722 = .ok (.iadd, 1) := fo_96 (fw_get da_cL_law_20 18 rfl)
theorem dL_law_723 : decode cL_law 723 = .ok (.iaload, 1) := fo_46 (fw_get da_cL_law_20 19 rfl)
def dt_cL_law_21 : List (Nat × Nat × Nat × Nat) := [(724, 42, 0, 0), (725, 21, 1, 4), (727, 7, 0, 0), (728, 96, 0, 0), (729, 46, 0, 0), (730, 45, 0, 0), (731, 184, 2, 91), (734, 54, 1, 5), (736, 44, 0, 0), (737, 42, 0, 0), (738, 21, 1, 4), (740, 4, 0, 0), (741, 96, 0, 0), (742, 46, 0, 0), (743, 42, 0, 0), (744, 21, 1, 4), (746, 5, 0, 0), (747, 96, 0, 0), (748, 46, 0, 0), (749, 42, 0, 0)]
theorem da_cL_law_21 : fw dt_cL_law_21 0 cL_law.data.toList = true := by decide +kernel
theorem dL_law_724 : decode cL_law 724 = .ok (.aload_n 0, 1) := fo_42 (fw_get da_cL_law_21 0 rfl)
theorem dL_law_725 : decode cL_law 725 = .ok (.iload 4, 2) := fo_21 (fw_get da_cL_law_21 1 rfl)
theorem dL_law_727 : decode cL_law 727 = .ok (.iconst 4, 1) := fo_7 (fw_get da_cL_law_21 2 rfl)
theorem dL_law_728 : decode cL_law 728 = .ok (.iadd, 1) := fo_96 (fw_get da_cL_law_21 3 rfl)
theorem dL_law_729 : decode cL_law 729 = .ok (.iaload, 1) := fo_46 (fw_get da_cL_law_21 4 rfl)
theorem dL_law_730 : decode cL_law 730 = .ok (.aload_n 3, 1) := fo_45 (fw_get da_cL_law_21 5 rfl)
theorem dL_law_731 : decode cL_law 731 = .ok (.invokestatic 91, 3) := fo_184 (fw_get da_cL_law_21 6 rfl)
theorem dL_law_734 : decode cL_law 734 = .ok (.istore 5, 2) := fo_54 (fw_get da_cL_law_21 7 rfl)
theorem dL_law_736 : decode cL_law 736 = .ok (.aload_n 2, 1) := fo_44 (fw_get da_cL_law_21 8 rfl)
theorem dL_law_737 : decode cL_law 737 = .ok (.aload_n 0, 1) := fo_42 (fw_get da_cL_law_21 9 rfl)
theorem dL_law_738 : decode cL_law 738 = .ok (.iload 4, 2) := fo_21 (fw_get da_cL_law_21 10 rfl)
theorem dL_law_740 : decode cL_law 740 = .ok (.iconst 1, 1) := fo_4 (fw_get da_cL_law_21 11 rfl)
theorem dL_law_741 : decode cL_law 741 = .ok (.iadd, 1) := fo_96 (fw_get da_cL_law_21 12 rfl)
theorem dL_law_742 : decode cL_law 742 = .ok (.iaload, 1) := fo_46 (fw_get da_cL_law_21 13 rfl)
theorem dL_law_743 : decode cL_law 743 = .ok (.aload_n 0, 1) := fo_42 (fw_get da_cL_law_21 14 rfl)
theorem dL_law_744 : decode cL_law 744 = .ok (.iload 4, 2) := fo_21 (fw_get da_cL_law_21 15 rfl)
theorem dL_law_746 : decode cL_law 746 = .ok (.iconst 2, 1) := fo_5 (fw_get da_cL_law_21 16 rfl)
theorem dL_law_747 : decode cL_law 747 = .ok (.iadd, 1) := fo_96 (fw_get da_cL_law_21 17 rfl)
theorem dL_law_748 : decode cL_law 748 = .ok (.iaload, 1) := fo_46 (fw_get da_cL_law_21 18 rfl)
theorem dL_law_749 : decode cL_law 749 = .ok (.aload_n 0, 1) := fo_42 (fw_get da_cL_law_21 19 rfl)
def dt_cL_law_22 : List (Nat × Nat × Nat × Nat) := [(750, 21, 1, 4), (752, 6, 0, 0), (753, 96, 0, 0), (754, 46, 0, 0), (755, 42, 0, 0), (756, 21, 1, 4), (758, 7, 0, 0), (759, 96, 0, 0), (760, 46, 0, 0), (761, 182, 2, 94), (764, 54, 1, 6), (766, 167, 2, 1522), (769, 43, 0, 0), (770, 42, 0, 0), (771, 21, 1, 4), (773, 4, 0, 0), (774, 96, 0, 0), (775, 46, 0, 0), (776, 42, 0, 0), (777, 21, 1, 4)]
theorem da_cL_law_22 : fw dt_cL_law_22 0 cL_law.data.toList = true := by decide +kernel
theorem dL_law_750 : decode cL_law 750 = .ok (.iload 4, 2) := fo_21 (fw_get da_cL_law_22 0 rfl)
theorem dL_law_752 : decode cL_law 752 = .ok (.iconst 3, 1) := fo_6 (fw_get da_cL_law_22 1 rfl)
theorem dL_law_753 : decode cL_law 753 = .ok (.iadd, 1) := fo_96 (fw_get da_cL_law_22 2 rfl)
theorem dL_law_754 : decode cL_law 754 = .ok (.iaload, 1) := fo_46 (fw_get da_cL_law_22 3 rfl)
theorem dL_law_755 : decode cL_law 755 = .ok (.aload_n 0, 1) := fo_42 (fw_get da_cL_law_22 4 rfl)
theorem dL_law_756 : decode cL_law 756 = .ok (.iload 4, 2) := fo_21 (fw_get da_cL_law_22 5 rfl)
theorem dL_law_758 : decode cL_law 758 = .ok (.iconst 4, 1) := fo_7 (fw_get da_cL_law_22 6 rfl)
theorem dL_law_759 : decode cL_law 759 = .ok (.iadd, 1) := fo_96 (fw_get da_cL_law_22 7 rfl)
theorem dL_law_760 : decode cL_law 760 = .ok (.iaload, 1) := fo_46 (fw_get da_cL_law_22 8 rfl)
theorem dL_law_761 : decode cL_law 761 = .ok (.invokevirtual 94, 3) := fo_182 (fw_get da_cL_law_22 9 rfl)
theorem dL_law_764 : decode cL_law 764 = .ok (.istore 6, 2) := fo_54 (fw_get da_cL_law_22 10 rfl)
theorem dL_law_766 : decode cL_law 766 = .ok (.goto 1522, 3) := fo_167 (fw_get da_cL_law_22 11 rfl) (by decide +kernel)
theorem dL_law_769 : decode cL_law 769 = .ok (.aload_n 1, 1) := fo_43 (fw_get da_cL_law_22 12 rfl)
theorem dL_law_770 : decode cL_law 770 = .ok (.aload_n 0, 1) := fo_42 (fw_get da_cL_law_22 13 rfl)
theorem dL_law_771 : decode cL_law 771 = .ok (.iload 4, 2) := fo_21 (fw_get da_cL_law_22 14 rfl)
theorem dL_law_773 : decode cL_law 773 = .ok (.iconst 1, 1) := fo_4 (fw_get da_cL_law_22 15 rfl)
theorem dL_law_774 : decode cL_law 774 = .ok (.iadd, 1) := fo_96 (fw_get da_cL_law_22 16 rfl)
theorem dL_law_775 : decode cL_law 775 = .ok (.iaload, 1) := fo_46 (fw_get da_cL_law_22 17 rfl)
theorem dL_law_776 : decode cL_law 776 = .ok (.aload_n 0, 1) := fo_42 (fw_get da_cL_law_22 18 rfl)
theorem dL_law_777 : decode cL_law 777 = .ok (.iload 4, 2) := fo_21 (fw_get da_cL_law_22 19 rfl)
def dt_cL_law_23 : List (Nat × Nat × Nat × Nat) := [(779, 5, 0, 0), (780, 96, 0, 0), (781, 46, 0, 0), (782, 182, 2, 95), (785, 87, 0, 0), (786, 44, 0, 0), (787, 42, 0, 0), (788, 21, 1, 4), (790, 4, 0, 0), (791, 96, 0, 0), (792, 46, 0, 0), (793, 42, 0, 0), (794, 21, 1, 4), (796, 5, 0, 0), (797, 96, 0, 0), (798, 46, 0, 0), (799, 182, 2, 98), (802, 87, 0, 0), (803, 167, 2, 1485), (806, 43, 0, 0)]
theorem da_cL_law_23 : fw dt_cL_law_23 0 cL_law.data.toList = true := by decide +kernel
theorem dL_law_779 : decode cL_law 779 = .ok (.iconst 2, 1) := fo_5 (fw_get da_cL_law_23 0 rfl)
theorem dL_law_780 : decode cL_law 780 = .ok (.iadd, 1) := fo_96 (fw_get da_cL_law_23 1 rfl)
theorem dL_law_781 : decode cL_law 781 = .ok (.iaload, 1) := fo_46 (fw_get da_cL_law_23 2 rfl)
theorem dL_law_782 : decode cL_law 782 = .ok (.invokevirtual 95, 3) := fo_182 (fw_get da_cL_law_23 3 rfl)
theorem dL_law_785 : decode cL_law 785 = .ok (.pop, 1) := fo_87 (fw_get da_cL_law_23 4 rfl)
theorem dL_law_786 : decode cL_law 786 = .ok (.aload_n 2, 1) := fo_44 (fw_get da_cL_law_23 5 rfl)
theorem dL_law_787 : decode cL_law 787 = .ok (.aload_n 0, 1) := fo_42 (fw_get da_cL_law_23 6 rfl)
theorem dL_law_788 : decode cL_law 788 = .ok (.iload 4, 2) := fo_21 (fw_get da_cL_law_23 7 rfl)
theorem dL_law_790 : decode cL_law 790 = .ok (.iconst 1, 1) := fo_4 (fw_get da_cL_law_23 8 rfl)
theorem dL_law_791 : decode cL_law 791 = .ok (.iadd, 1) := fo_96 (fw_get da_cL_law_23 9 rfl)
theorem dL_law_792 : decode cL_law 792 = .ok (.iaload, 1) := fo_46 (fw_get da_cL_law_23 10 rfl)
theorem dL_law_793 : decode cL_law 793 = .ok (.aload_n 0, 1) := fo_42 (fw_get da_cL_law_23 11 rfl)
theorem dL_law_794 : decode cL_law 794 = .ok (.iload 4, 2) := fo_21 (fw_get da_cL_law_23 12 rfl)
theorem dL_law_796 : decode cL_law 796 = .ok (.iconst 2, 1) := fo_5 (fw_get da_cL_law_23 13 rfl)
theorem dL_law_797 : decode cL_law 797 = .ok (.iadd, 1) := fo_96 (fw_get da_cL_law_23 14 rfl)
theorem dL_law_798 : decode cL_law 798 = .ok (.iaload, 1) := fo_46 (fw_get da_cL_law_23 15 rfl)
theorem dL_law_799 : decode cL_law 799 = .ok (.invokevirtual 98, 3) := fo_182 (fw_get da_cL_law_23 16 rfl)
theorem dL_law_802 : decode cL_law 802 = .ok (.pop, 1) := fo_87 (fw_get da_cL_law_23 17 rfl)
theorem dL_law_803 : decode cL_law 803 = .ok (.goto 1485, 3) := fo_167 (fw_get da_cL_law_23 18 rfl) (by decide +kernel)
theorem dL_law_806 : decode cL_law 806 = .ok (.aload_n 1, 1) := fo_43 (fw_get da_cL_law_23 19 rfl)
def dt_cL_law_24 : List (Nat × Nat × Nat × Nat) := [(807, 42, 0, 0), (808, 21, 1, 4), (810, 4, 0, 0), (811, 96, 0, 0), (812, 46, 0, 0), (813, 42, 0, 0), (814, 21, 1, 4), (816, 5, 0, 0), (817, 96, 0, 0), (818, 46, 0, 0)]
theorem da_cL_law_24 : fw dt_cL_law_24 0 cL_law.data.toList = true := by decide +kernel
theorem dL_law_807 : decode cL_law 807 = .ok (.aload_n 0, 1) := fo_42 (fw_get da_cL_law_24 0 rfl)
theorem dL_law_808 : decode cL_law 808 = .ok (.iload 4, 2) := fo_21 (fw_get da_cL_law_24 1 rfl)
theorem dL_law_810 : decode cL_law 810 = .ok (.iconst 1, 1) := fo_4 (fw_get da_cL_law_24 2 rfl)
theorem dL_law_811 : decode cL_law 811 = .ok (.iadd, 1) := fo_96 (fw_get da_cL_law_24 3 rfl)
theorem dL_law_812 : decode cL_law 812 = .ok (.iaload, 1) := fo_46 (fw_get da_cL_law_24 4 rfl)
theorem dL_law_813 : decode cL_law 813 = .ok (.aload_n 0, 1) := fo_42 (fw_get da_cL_law_24 5 rfl)
theorem dL_law_814 : decode cL_law 814 = .ok (.iload 4, 2) := fo_21 (fw_get da_cL_law_24 6 rfl)
theorem dL_law_816 : decode cL_law 816 = .ok (.iconst 2, 1) := fo_5 (fw_get da_cL_law_24 7 rfl)
theorem dL_law_817 : decode cL_law 817 = .ok (.iadd, 1) := fo_96 (fw_get da_cL_law_24 8 rfl)
theorem dL_law_818 : decode cL_law 818 = .ok (.iaload, 1) := fo_46 (fw_get da_cL_law_24 9 rfl)


def dt_cL_law_25 : List (Nat × Nat × Nat × Nat) := [(819, 182, 2, 99), (822, 87, 0, 0), (823, 44, 0, 0), (824, 42, 0, 0), (825, 21, 1, 4), (827, 4, 0, 0), (828, 96, 0, 0), (829, 46, 0, 0), (830, 42, 0, 0), (831, 21, 1, 4), (833, 5, 0, 0), (834, 96, 0, 0), (835, 46, 0, 0), (836, 182, 2, 102), (839, 87, 0, 0), (840, 167, 2, 1448), (843, 43, 0, 0), (844, 42, 0, 0), (845, 21, 1, 4), (847, 4, 0, 0)]
theorem da_cL_law_25 : fw dt_cL_law_25 0 cL_law.data.toList = true := by decide +kernel
theorem dL_law_819 : decode cL_law 819 = .ok (.invokevirtual 99, 3) := fo_182 (fw_get da_cL_law_25 0 rfl)
theorem dL_law_822 : decode cL_law 822 = .ok (.pop, 1) := fo_87 (fw_get da_cL_law_25 1 rfl)
theorem dL_law_823 : decode cL_law 823 = .ok (.aload_n 2, 1) := fo_44 (fw_get da_cL_law_25 2 rfl)
theorem dL_law_824 : decode cL_law 824 = .ok (.aload_n 0, 1) := fo_42 (fw_get da_cL_law_25 3 rfl)
theorem dL_law_825 : decode cL_law 825 = .ok (.iload 4, 2) := fo_21 (fw_get da_cL_law_25 4 rfl)
theorem dL_law_827 : decode cL_law 827 = .ok (.iconst 1, 1) := fo_4 (fw_get da_cL_law_25 5 rfl)
theorem dL_law_828 : decode cL_law 828 = .ok (.iadd, 1) := fo_96 (fw_get da_cL_law_25 6 rfl)
theorem dL_law_829 : decode cL_law 829 = .ok (.iaload, 1) := fo_46 (fw_get da_cL_law_25 7 rfl)
theorem dL_law_830 : decode cL_law 830 = .ok (.aload_n 0, 1) := fo_42 (fw_get da_cL_law_25 8 rfl)
theorem dL_law_831 : decode cL_law 831 = .ok (.iload 4, 2) := fo_21 (fw_get da_cL_law_25 9 rfl)
theorem dL_law_833 : decode cL_law 833 = .ok (.iconst 2, 1) := fo_5 (fw_get da_cL_law_25 10 rfl)
theorem dL_law_834 : decode cL_law 834 = .ok (.iadd, 1) := fo_96 (fw_get da_cL_law_25 11 rfl)
theorem dL_law_835 : decode cL_law 835 = .ok (.iaload, 1) := fo_46 (fw_get da_cL_law_25 12 rfl)
theorem dL_law_836 : decode cL_law 836 = .ok (.invokevirtual 102, 3) := fo_182 (fw_get da_cL_law_25 13 rfl)
theorem dL_law_839 : decode cL_law 839 = .ok (.pop, 1) := fo_87 (fw_get da_cL_law_25 14 rfl)
theorem dL_law_840 : decode cL_law 840 = .ok (.goto 1448, 3) := fo_167 (fw_get da_cL_law_25 15 rfl) (by decide +kernel)
theorem dL_law_843 : decode cL_law 843 = .ok (.aload_n 1, 1) := fo_43 (fw_get da_cL_law_25 16 rfl)
theorem dL_law_844 : decode cL_law 844 = .ok (.aload_n 0, 1) := fo_42 (fw_get da_cL_law_25 17 rfl)
theorem dL_law_845 : decode cL_law 845 = .ok (.iload 4, 2) := fo_21 (fw_get da_cL_law_25 18 rfl)
theorem dL_law_847 : decode cL_law 847 = .ok (.iconst 1, 1) := fo_4 (fw_get da_cL_law_25 19 rfl)
def dt_cL_law_26 : List (Nat × Nat × Nat × Nat) := [(848, 96, 0, 0), (849, 46, 0, 0), (850, 42, 0, 0), (851, 21, 1, 4), (853, 5, 0, 0), (854, 96, 0, 0), (855, 46, 0, 0), (856, 42, 0, 0), (857, 21, 1, 4), (859, 6, 0, 0), (860, 96, 0, 0), (861, 46, 0, 0), (862, 182, 2, 103), (865, 87, 0, 0), (866, 44, 0, 0), (867, 42, 0, 0), (868, 21, 1, 4), (870, 4, 0, 0), (871, 96, 0, 0), (872, 46, 0, 0)]
theorem da_cL_law_26 : fw dt_cL_law_26 0 cL_law.data.toList = true := by decide +kernel
theorem dL_law_848 : decode cL_law 848 = .ok (.iadd, 1) := fo_96 (fw_get da_cL_law_26 0 rfl)
theorem dL_law_849 : decode cL_law 849 = .ok (.iaload, 1) := fo_46 (fw_get da_cL_law_26 1 rfl)
theorem dL_law_850 : decode cL_law 850 = .ok (.aload_n 0, 1) := fo_42 (fw_get da_cL_law_26 2 rfl)
theorem dL_law_851 : decode cL_law 851 = .ok (.iload 4, 2) := fo_21 (fw_get da_cL_law_26 3 rfl)
theorem dL_law_853 : decode cL_law 853 = .ok (.iconst 2, 1) := fo_5 (fw_get da_cL_law_26 4 rfl)
theorem dL_law_854 : decode cL_law 854 = .ok (.iadd, 1) := fo_96 (fw_get da_cL_law_26 5 rfl)
theorem dL_law_855 : decode cL_law 855 = .ok (.iaload, 1) := fo_46 (fw_get da_cL_law_26 6 rfl)
theorem dL_law_856 : decode cL_law 856 = .ok (.aload_n 0, 1) := fo_42 (fw_get da_cL_law_26 7 rfl)
theorem dL_law_857 : decode cL_law 857 = .ok (.iload 4, 2) := fo_21 (fw_get da_cL_law_26 8 rfl)
theorem dL_law_859 : decode cL_law 859 = .ok (.iconst 3, 1) := fo_6 (fw_get da_cL_law_26 9 rfl)
theorem dL_law_860 : decode cL_law 860 = .ok (.iadd, 1) := fo_96 (fw_get da_cL_law_26 10 rfl)
theorem dL_law_861 : decode cL_law 861 = .ok (.iaload, 1) := fo_46 (fw_get da_cL_law_26 11 rfl)
theorem dL_law_862 : decode cL_law 862 = .ok (.invokevirtual 103, 3) := fo_182 (fw_get da_cL_law_26 12 rfl)
theorem dL_law_865 : decode cL_law 865 = .ok (.pop, 1) := fo_87 (fw_get da_cL_law_26 13 rfl)
theorem dL_law_866 : decode cL_law 866 = .ok (.aload_n 2, 1) := fo_44 (fw_get da_cL_law_26 14 rfl)
theorem dL_law_867 : decode cL_law 867 = .ok (.aload_n 0, 1) := fo_42 (fw_get da_cL_law_26 15 rfl)
theorem dL_law_868 : decode cL_law 868 = .ok (.iload 4, 2) := fo_21 (fw_get da_cL_law_26 16 rfl)
theorem dL_law_870 : decode cL_law 870 = .ok (.iconst 1, 1) := fo_4 (fw_get da_cL_law_26 17 rfl)
theorem dL_law_871 : decode cL_law 871 = .ok (.iadd, 1) := fo_96 (fw_get da_cL_law_26 18 rfl)
theorem dL_law_872 : decode cL_law 872 = .ok (.iaload, 1) := fo_46 (fw_get da_cL_law_26 19 rfl)
def dt_cL_law_27 : List (Nat × Nat × Nat × Nat) := [(873, 42, 0, 0), (874, 21, 1, 4), (876, 5, 0, 0), (877, 96, 0, 0), (878, 46, 0, 0), (879, 42, 0, 0), (880, 21, 1, 4), (882, 6, 0, 0), (883, 96, 0, 0), (884, 46, 0, 0), (885, 182, 2, 106), (888, 87, 0, 0), (889, 167, 2, 1399), (892, 43, 0, 0), (893, 42, 0, 0), (894, 21, 1, 4), (896, 4, 0, 0), (897, 96, 0, 0), (898, 46, 0, 0), (899, 182, 2, 107)]
theorem da_cL_law_27 : fw dt_cL_law_27 0 cL_law.data.toList = true := by decide +kernel
theorem dL_law_873 : decode cL_law 873 = .ok (.aload_n 0, 1) := fo_42 (fw_get da_cL_law_27 0 rfl)
theorem dL_law_874 : decode cL_law 874 = .ok (.iload 4, 2) := fo_21 (fw_get da_cL_law_27 1 rfl)
theorem dL_law_876 : decode cL_law 876 = .ok (.iconst 2, 1) := fo_5 (fw_get da_cL_law_27 2 rfl)
theorem dL_law_877 : decode cL_law 877 = .ok (.iadd, 1) := fo_96 (fw_get da_cL_law_27 3 rfl)
theorem dL_law_878 : decode cL_law 878 = .ok (.iaload, 1) := fo_46 (fw_get da_cL_law_27 4 rfl)
theorem dL_law_879 : decode cL_law 879 = .ok (.aload_n 0, 1) := fo_42 (fw_get da_cL_law_27 5 rfl)
theorem dL_law_880 : decode cL_law 880 = .ok (.iload 4, 2) := fo_21 (fw_get da_cL_law_27 6 rfl)
theorem dL_law_882 : decode cL_law 882 = .ok (.iconst 3, 1) := fo_6 (fw_get da_cL_law_27 7 rfl)
theorem dL_law_883 : decode cL_law 883 = .ok (.iadd, 1) := fo_96 (fw_get da_cL_law_27 8 rfl)
theorem dL_law_884 : decode cL_law 884 = .ok (.iaload, 1) := fo_46 (fw_get da_cL_law_27 9 rfl)
theorem dL_law_885 : decode cL_law 885 = .ok (.invokevirtual 106, 3) := fo_182 (fw_get da_cL_law_27 10 rfl)
theorem dL_law_888 : decode cL_law 888 = .ok (.pop, 1) := fo_87 (fw_get da_cL_law_27 11 rfl)
theorem dL_law_889 : decode cL_law 889 = .ok (.goto 1399, 3) := fo_167 (fw_get da_cL_law_27 12 rfl) (by decide +kernel)
theorem dL_law_892 : decode cL_law 892 = .ok (.aload_n 1, 1) := fo_43 (fw_get da_cL_law_27 13 rfl)
theorem dL_law_893 : decode cL_law 893 = .ok (.aload_n 0, 1) := fo_42 (fw_get da_cL_law_27 14 rfl)
theorem dL_law_894 : decode cL_law 894 = .ok (.iload 4, 2) := fo_21 (fw_get da_cL_law_27 15 rfl)
theorem dL_law_896 : decode cL_law 896 = .ok (.iconst 1, 1) := fo_4 (fw_get da_cL_law_27 16 rfl)
theorem dL_law_897 : decode cL_law 897 = .ok (.iadd, 1) := fo_96 (fw_get da_cL_law_27 17 rfl)
theorem dL_law_898 : decode cL_law 898 = .ok (.iaload, 1) := fo_46 (fw_get da_cL_law_27 18 rfl)
theorem dL_law_899 : decode cL_law 899 = .ok (.invokevirtual 107, 3) := fo_182 (fw_get da_cL_law_27 19 rfl)
def dt_cL_law_28 : List (Nat × Nat × Nat × Nat) := [(902, 87, 0, 0), (903, 44, 0, 0), (904, 42, 0, 0), (905, 21, 1, 4), (907, 4, 0, 0), (908, 96, 0, 0), (909, 46, 0, 0), (910, 182, 2, 110), (913, 87, 0, 0), (914, 167, 2, 1374), (917, 43, 0, 0), (918, 42, 0, 0), (919, 21, 1, 4), (921, 4, 0, 0), (922, 96, 0, 0), (923, 46, 0, 0), (924, 42, 0, 0), (925, 21, 1, 4), (927, 5, 0, 0), (928, 96, 0, 0)]
theorem da_cL_law_28 : fw dt_cL_law_28 0 cL_law.data.toList = true := by decide +kernel
theorem dL_law_902 : decode cL_law 902 = .ok (.pop, 1) := fo_87 (fw_get da_cL_law_28 0 rfl)
theorem dL_law_903 : decode cL_law 903 = .ok (.aload_n 2, 1) := fo_44 (fw_get da_cL_law_28 1 rfl)
theorem dL_law_904 : decode cL_law 904 = .ok (.aload_n 0, 1) := fo_42 (fw_get da_cL_law_28 2 rfl)
theorem dL_law_905 : decode cL_law 905 = .ok (.iload 4, 2) := fo_21 (fw_get da_cL_law_28 3 rfl)
theorem dL_law_907 : decode cL_law 907 = .ok (.iconst 1, 1) := fo_4 (fw_get da_cL_law_28 4 rfl)
theorem dL_law_908 : decode cL_law 908 = .ok (.iadd, 1) := fo_96 (fw_get da_cL_law_28 5 rfl)
theorem dL_law_909 : decode cL_law 909 = .ok (.iaload, 1) := fo_46 (fw_get da_cL_law_28 6 rfl)
theorem dL_law_910 : decode cL_law 910 = .ok (.invokevirtual 110, 3) := fo_182 (fw_get da_cL_law_28 7 rfl)
theorem dL_law_913 : decode cL_law 913 = .ok (.pop, 1) := fo_87 (fw_get da_cL_law_28 8 rfl)
theorem dL_law_914 : decode cL_law 914 = .ok (.goto 1374, 3) := fo_167 (fw_get da_cL_law_28 9 rfl) (by decide +kernel)
theorem dL_law_917 : decode cL_law 917 = .ok (.aload_n 1, 1) := fo_43 (fw_get da_cL_law_28 10 rfl)
theorem dL_law_918 : decode cL_law 918 = .ok (.aload_n 0, 1) := fo_42 (fw_get da_cL_law_28 11 rfl)
theorem dL_law_919 : decode cL_law 919 = .ok (.iload 4, 2) := fo_21 (fw_get da_cL_law_28 12 rfl)
theorem dL_law_921 : decode cL_law 921 = .ok (.iconst 1, 1) := fo_4 (fw_get da_cL_law_28 13 rfl)
theorem dL_law_922 : decode cL_law 922 = .ok (.iadd, 1) := fo_96 (fw_get da_cL_law_28 14 rfl)
theorem dL_law_923 : decode cL_law 923 = .ok (.iaload, 1) := fo_46 (fw_get da_cL_law_28 15 rfl)
theorem dL_law_924 : decode cL_law 924 = .ok (.aload_n 0, 1) := fo_42 (fw_get da_cL_law_28 16 rfl)
theorem dL_law_925 : decode cL_law 925 = .ok (.iload 4, 2) := fo_21 (fw_get da_cL_law_28 17 rfl)
theorem dL_law_927 : decode cL_law 927 = .ok (.iconst 2, 1) := fo_5 (fw_get da_cL_law_28 18 rfl)
theorem dL_law_928 : decode cL_law 928 = .ok (.iadd, 1) := fo_96 (fw_get da_cL_law_28 19 rfl)
def dt_cL_law_29 : List (Nat × Nat × Nat × Nat) := [(929, 46, 0, 0), (930, 182, 2, 111), (933, 87, 0, 0), (934, 44, 0, 0), (935, 42, 0, 0), (936, 21, 1, 4), (938, 4, 0, 0), (939, 96, 0, 0), (940, 46, 0, 0), (941, 42, 0, 0), (942, 21, 1, 4), (944, 5, 0, 0), (945, 96, 0, 0), (946, 46, 0, 0), (947, 182, 2, 114), (950, 87, 0, 0), (951, 167, 2, 1337), (954, 43, 0, 0), (955, 42, 0, 0), (956, 21, 1, 4)]
theorem da_cL_law_29 : fw dt_cL_law_29 0 cL_law.data.toList = true := by decide +kernel
theorem dL_law_929 : decode cL_law 929 = .ok (.iaload, 1) := fo_46 (fw_get da_cL_law_29 0 rfl)
theorem dL_law_930 : decode cL_law 930 = .ok (.invokevirtual 111, 3) := fo_182 (fw_get da_cL_law_29 1 rfl)
theorem dL_law_933 : decode cL_law 933 = .ok (.pop, 1) := fo_87 (fw_get da_cL_law_29 2 rfl)
theorem dL_law_934 : decode cL_law 934 = .ok (.aload_n 2, 1) := fo_44 (fw_get da_cL_law_29 3 rfl)
theorem dL_law_935 : decode cL_law 935 = .ok (.aload_n 0, 1) := fo_42 (fw_get da_cL_law_29 4 rfl)
theorem dL_law_936 : decode cL_law 936 = .ok (.iload 4, 2) := fo_21 (fw_get da_cL_law_29 5 rfl)
theorem dL_law_938 : decode cL_law 938 = .ok (.iconst 1, 1) := fo_4 (fw_get da_cL_law_29 6 rfl)
theorem dL_law_939 : decode cL_law 939 = .ok (.iadd, 1) := fo_96 (fw_get da_cL_law_29 7 rfl)
theorem dL_law_940 : decode cL_law 940 = .ok (.iaload, 1) := fo_46 (fw_get da_cL_law_29 8 rfl)
theorem dL_law_941 : decode cL_law 941 = .ok (.aload_n 0, 1) := fo_42 (fw_get da_cL_law_29 9 rfl)
theorem dL_law_942 : decode cL_law 942 = .ok (.iload 4, 2) := fo_21 (fw_get da_cL_law_29 10 rfl)
theorem dL_law_944 : decode cL_law 944 = .ok (.iconst 2, 1) := fo_5 (fw_get da_cL_law_29 11 rfl)
theorem dL_law_945 : decode cL_law 945 = .ok (.iadd, 1) := fo_96 (fw_get da_cL_law_29 12 rfl)
theorem dL_law_946 : decode cL_law 946 = .ok (.iaload, 1) := fo_46 (fw_get da_cL_law_29 13 rfl)
theorem dL_law_947 : decode cL_law 947 = .ok (.invokevirtual 114, 3) := fo_182 (fw_get da_cL_law_29 14 rfl)
theorem dL_law_950 : decode cL_law 950 = .ok (.pop, 1) := fo_87 (fw_get da_cL_law_29 15 rfl)
theorem dL_law_951 : decode cL_law 951 = .ok (.goto 1337, 3) := fo_167 (fw_get da_cL_law_29 16 rfl) (by decide +kernel)
theorem dL_law_954 : decode cL_law 954 = .ok (.aload_n 1, 1) := fo_43 (fw_get da_cL_law_29 17 rfl)
theorem dL_law_955 : decode cL_law 955 = .ok (.aload_n 0, 1) := fo_42 (fw_get da_cL_law_29 18 rfl)
theorem dL_law_956 : decode cL_law 956 = .ok (.iload 4, 2) := fo_21 (fw_get da_cL_law_29 19 rfl)
def dt_cL_law_30 : List (Nat × Nat × Nat × Nat) := [(958, 4, 0, 0), (959, 96, 0, 0), (960, 46, 0, 0), (961, 42, 0, 0), (962, 21, 1, 4), (964, 5, 0, 0), (965, 96, 0, 0), (966, 46, 0, 0), (967, 42, 0, 0), (968, 21, 1, 4), (970, 6, 0, 0), (971, 96, 0, 0), (972, 46, 0, 0), (973, 42, 0, 0), (974, 21, 1, 4), (976, 7, 0, 0), (977, 96, 0, 0), (978, 46, 0, 0), (979, 182, 2, 115), (982, 87, 0, 0)]
theorem da_cL_law_30 : fw dt_cL_law_30 0 cL_law.data.toList = true := by decide +kernel
theorem dL_law_958 : decode cL_law 958 = .ok (.iconst 1, 1) := fo_4 (fw_get da_cL_law_30 0 rfl)
theorem dL_law_959 : decode cL_law 959 = .ok (.iadd, 1) := fo_96 (fw_get da_cL_law_30 1 rfl)
theorem dL_law_960 : decode cL_law 960 = .ok (.iaload, 1) := fo_46 (fw_get da_cL_law_30 2 rfl)
theorem dL_law_961 : decode cL_law 961 = .ok (.aload_n 0, 1) := fo_42 (fw_get da_cL_law_30 3 rfl)
theorem dL_law_962 : decode cL_law 962 = .ok (.iload 4, 2) := fo_21 (fw_get da_cL_law_30 4 rfl)
theorem dL_law_964 : decode cL_law 964 = .ok (.iconst 2, 1) := fo_5 (fw_get da_cL_law_30 5 rfl)
theorem dL_law_965 : decode cL_law 965 = .ok (.iadd, 1) := fo_96 (fw_get da_cL_law_30 6 rfl)
theorem dL_law_966 : decode cL_law 966 = .ok (.iaload, 1) := fo_46 (fw_get da_cL_law_30 7 rfl)
theorem dL_law_967 : decode cL_law 967 = .ok (.aload_n 0, 1) := fo_42 (fw_get da_cL_law_30 8 rfl)
theorem dL_law_968 : decode cL_law 968 = .ok (.iload 4, 2) := fo_21 (fw_get da_cL_law_30 9 rfl)
theorem dL_law_970 : decode cL_law 970 = .ok (.iconst 3, 1) := fo_6 (fw_get da_cL_law_30 10 rfl)
theorem dL_law_971 : decode cL_law 971 = .ok (.iadd, 1) := fo_96 (fw_get da_cL_law_30 11 rfl)
theorem dL_law_972 : decode cL_law 972 = .ok (.iaload, 1) := fo_46 (fw_get da_cL_law_30 12 rfl)
theorem dL_law_973 : decode cL_law 973 = .ok (.aload_n 0, 1) := fo_42 (fw_get da_cL_law_30 13 rfl)
theorem dL_law_974 : decode cL_law 974 = .ok (.iload 4, 2) := fo_21 (fw_get da_cL_law_30 14 rfl)
theorem dL_law_976 : decode cL_law 976 = .ok (.iconst 4, 1) := fo_7 (fw_get da_cL_law_30 15 rfl)
theorem dL_law_977 : decode cL_law 977 = .ok (.iadd, 1) := fo_96 (fw_get da_cL_law_30 16 rfl)
theorem dL_law_978 : decode cL_law 978 = .ok (.iaload, 1) := fo_46 (fw_get da_cL_law_30 17 rfl)
theorem dL_law_979 : decode cL_law 979 = .ok (.invokevirtual 115, 3) := fo_182 (fw_get da_cL_law_30 18 rfl)
theorem dL_law_982 : decode cL_law 982 = .ok (.pop, 1) := fo_87 (fw_get da_cL_law_30 19 rfl)
def dt_cL_law_31 : List (Nat × Nat × Nat × Nat) := [(983, 44, 0, 0), (984, 42, 0, 0), (985, 21, 1, 4), (987, 4, 0, 0), (988, 96, 0, 0), (989, 46, 0, 0), (990, 42, 0, 0), (991, 21, 1, 4), (993, 5, 0, 0), (994, 96, 0, 0), (995, 46, 0, 0), (996, 42, 0, 0), (997, 21, 1, 4), (999, 6, 0, 0), (1000, 96, 0, 0), (1001, 46, 0, 0), (1002, 42, 0, 0), (1003, 21, 1, 4), (1005, 7, 0, 0), (1006, 96, 0, 0)]
theorem da_cL_law_31 : fw dt_cL_law_31 0 cL_law.data.toList = true := by decide +kernel
theorem dL_law_983 : decode cL_law 983 = .ok (.aload_n 2, 1) := fo_44 (fw_get da_cL_law_31 0 rfl)
theorem dL_law_984 : decode cL_law 984 = .ok (.aload_n 0, 1) := fo_42 (fw_get da_cL_law_31 1 rfl)
theorem dL_law_985 : decode cL_law 985 = .ok (.iload 4, 2) := fo_21 (fw_get da_cL_law_31 2 rfl)
theorem dL_law_987 : decode cL_law 987 = .ok (.iconst 1, 1) := fo_4 (fw_get da_cL_law_31 3 rfl)
theorem dL_law_988 : decode cL_law 988 = .ok (.iadd, 1) := fo_96 (fw_get da_cL_law_31 4 rfl)
theorem dL_law_989 : decode cL_law 989 = .ok (.iaload, 1) := fo_46 (fw_get da_cL_law_31 5 rfl)
theorem dL_law_990 : decode cL_law 990 = .ok (.aload_n 0, 1) := fo_42 (fw_get da_cL_law_31 6 rfl)
theorem dL_law_991 : decode cL_law 991 = .ok (.iload 4, 2) := fo_21 (fw_get da_cL_law_31 7 rfl)
theorem dL_law_993 : decode cL_law 993 = .ok (.iconst 2, 1) := fo_5 (fw_get da_cL_law_31 8 rfl)
theorem dL_law_994 : decode cL_law 994 = .ok (.iadd, 1) := fo_96 (fw_get da_cL_law_31 9 rfl)
theorem dL_law_995 : decode cL_law 995 = .ok (.iaload, 1) := fo_46 (fw_get da_cL_law_31 10 rfl)
theorem dL_law_996 : decode cL_law 996 = .ok (.aload_n 0, 1) := fo_42 (fw_get da_cL_law_31 11 rfl)
theorem dL_law_997 : decode cL_law 997 = .ok (.iload 4, 2) := fo_21 (fw_get da_cL_law_31 12 rfl)
theorem dL_law_999 : decode cL_law 999 = .ok (.iconst 3, 1) := fo_6 (fw_get da_cL_law_31 13 rfl)
theorem dL_law_1000 : decode cL_law 1000 = .ok (.iadd, 1) := fo_96 (fw_get da_cL_law_31 14 rfl)
theorem dL_law_1001 : decode cL_law 1001 = .ok (.iaload, 1) := fo_46 (fw_get da_cL_law_31 15 rfl)
theorem dL_law_1002 : decode cL_law 1002 = .ok (.aload_n 0, 1) := fo_42 (fw_get da_cL_law_31 16 rfl)
theorem dL_law_1003 : decode cL_law 1003 = .ok (.iload 4, 2) := fo_21 (fw_get da_cL_law_31 17 rfl)
theorem dL_law_1005 : decode cL_law 1005 = .ok (.iconst 4, 1) := fo_7 (fw_get da_cL_law_31 18 rfl)
theorem dL_law_1006 : decode cL_law 1006 = .ok (.iadd, 1) := fo_96 (fw_get da_cL_law_31 19 rfl)
def dt_cL_law_32 : List (Nat × Nat × Nat × Nat) := [(1007, 46, 0, 0), (1008, 182, 2, 118), (1011, 87, 0, 0), (1012, 167, 2, 1276), (1015, 43, 0, 0), (1016, 42, 0, 0), (1017, 21, 1, 4), (1019, 4, 0, 0), (1020, 96, 0, 0), (1021, 46, 0, 0)]
theorem da_cL_law_32 : fw dt_cL_law_32 0 cL_law.data.toList = true := by decide +kernel
theorem dL_law_1007 : decode cL_law 1007 = .ok (.iaload, 1) := fo_46 (fw_get da_cL_law_32 0 rfl)
theorem dL_law_1008 : decode cL_law 1008 = .ok (.invokevirtual 118, 3) := fo_182 (fw_get da_cL_law_32 1 rfl)
theorem dL_law_1011 : decode cL_law 1011 = .ok (.pop, 1) := fo_87 (fw_get da_cL_law_32 2 rfl)
theorem dL_law_1012 : decode cL_law 1012 = .ok (.goto 1276, 3) := fo_167 (fw_get da_cL_law_32 3 rfl) (by decide +kernel)
theorem dL_law_1015 : decode cL_law 1015 = .ok (.aload_n 1, 1) := fo_43 (fw_get da_cL_law_32 4 rfl)
theorem dL_law_1016 : decode cL_law 1016 = .ok (.aload_n 0, 1) := fo_42 (fw_get da_cL_law_32 5 rfl)
theorem dL_law_1017 : decode cL_law 1017 = .ok (.iload 4, 2) := fo_21 (fw_get da_cL_law_32 6 rfl)
theorem dL_law_1019 : decode cL_law 1019 = .ok (.iconst 1, 1) := fo_4 (fw_get da_cL_law_32 7 rfl)
theorem dL_law_1020 : decode cL_law 1020 = .ok (.iadd, 1) := fo_96 (fw_get da_cL_law_32 8 rfl)
theorem dL_law_1021 : decode cL_law 1021 = .ok (.iaload, 1) := fo_46 (fw_get da_cL_law_32 9 rfl)


def dt_cL_law_33 : List (Nat × Nat × Nat × Nat) := [(1022, 42, 0, 0), (1023, 21, 1, 4), (1025, 5, 0, 0), (1026, 96, 0, 0), (1027, 46, 0, 0), (1028, 42, 0, 0), (1029, 21, 1, 4), (1031, 6, 0, 0), (1032, 96, 0, 0), (1033, 46, 0, 0), (1034, 182, 2, 119), (1037, 87, 0, 0), (1038, 44, 0, 0), (1039, 42, 0, 0), (1040, 21, 1, 4), (1042, 4, 0, 0), (1043, 96, 0, 0), (1044, 46, 0, 0), (1045, 42, 0, 0), (1046, 21, 1, 4)]
theorem da_cL_law_33 : fw dt_cL_law_33 0 cL_law.data.toList = true := by decide +kernel
theorem dL_law_1022 : decode cL_law 1022 = .ok (.aload_n 0, 1) := fo_42 (fw_get da_cL_law_33 0 rfl)
theorem dL_law_1023 : decode cL_law 1023 = .ok (.iload 4, 2) := fo_21 (fw_get da_cL_law_33 1 rfl)
theorem dL_law_1025 : decode cL_law 1025 = .ok (.iconst 2, 1) := fo_5 (fw_get da_cL_law_33 2 rfl)
theorem dL_law_1026 : decode cL_law 1026 = .ok (.iadd, 1) := fo_96 (fw_get da_cL_law_33 3 rfl)
theorem dL_law_1027 : decode cL_law 1027 = .ok (.iaload, 1) := fo_46 (fw_get da_cL_law_33 4 rfl)
theorem dL_law_1028 : decode cL_law 1028 = .ok (.aload_n 0, 1) := fo_42 (fw_get da_cL_law_33 5 rfl)
theorem dL_law_1029 : decode cL_law 1029 = .ok (.iload 4, 2) := fo_21 (fw_get da_cL_law_33 6 rfl)
theorem dL_law_1031 : decode cL_law 1031 = .ok (.iconst 3, 1) := fo_6 (fw_get da_cL_law_33 7 rfl)
theorem dL_law_1032 : decode cL_law 1032 = .ok (.iadd, 1) := fo_96 (fw_get da_cL_law_33 8 rfl)
theorem dL_law_1033 : decode cL_law 1033 = .ok (.iaload, 1) := fo_46 (fw_get da_cL_law_33 9 rfl)
theorem dL_law_1034 : decode cL_law 1034 = .ok (.invokevirtual 119, 3) := fo_182 (fw_get da_cL_law_33 10 rfl)
theorem dL_law_1037 : decode cL_law 1037 = .ok (.pop, 1) := fo_87 (fw_get da_cL_law_33 11 rfl)
theorem dL_law_1038 : decode cL_law 1038 = .ok (.aload_n 2, 1) := fo_44 (fw_get da_cL_law_33 12 rfl)
theorem dL_law_1039 : decode cL_law 1039 = .ok (.aload_n 0, 1) := fo_42 (fw_get da_cL_law_33 13 rfl)
theorem dL_law_1040 : decode cL_law 1040 = .ok (.iload 4, 2) := fo_21 (fw_get da_cL_law_33 14 rfl)
theorem dL_law_1042 : decode cL_law 1042 = .ok (.iconst 1, 1) := fo_4 (fw_get da_cL_law_33 15 rfl)
theorem dL_law_1043 : decode cL_law 1043 = .ok (.iadd, 1) := fo_96 (fw_get da_cL_law_33 16 rfl)
theorem dL_law_1044 : decode cL_law 1044 = .ok (.iaload, 1) := fo_46 (fw_get da_cL_law_33 17 rfl)
theorem dL_law_1045 : decode cL_law 1045 = .ok (.aload_n 0, 1) := fo_42 (fw_get da_cL_law_33 18 rfl)
theorem dL_law_1046 : decode cL_law 1046 = .ok (.iload 4, 2) := fo_21 (fw_get da_cL_law_33 19 rfl)
def dt_cL_law_34 : List (Nat × Nat × Nat × Nat) := [(1048, 5, 0, 0), (1049, 96, 0, 0), (1050, 46, 0, 0), (1051, 42, 0, 0), (1052, 21, 1, 4), (1054, 6, 0, 0), (1055, 96, 0, 0), (1056, 46, 0, 0), (1057, 182, 2, 122), (1060, 87, 0, 0), (1061, 167, 2, 1227), (1064, 43, 0, 0), (1065, 42, 0, 0), (1066, 21, 1, 4), (1068, 4, 0, 0), (1069, 96, 0, 0), (1070, 46, 0, 0), (1071, 42, 0, 0), (1072, 21, 1, 4), (1074, 5, 0, 0)]
theorem da_cL_law_34 : fw dt_cL_law_34 0 cL_law.data.toList = true := by decide +kernel
theorem dL_law_1048 : decode cL_law 1048 = .ok (.iconst 2, 1) := fo_5 (fw_get da_cL_law_34 0 rfl)
theorem dL_law_1049 : decode cL_law 1049 = .ok (.iadd, 1) := fo_96 (fw_get da_cL_law_34 1 rfl)
theorem dL_law_1050 : decode cL_law 1050 = .ok (.iaload, 1) := fo_46 (fw_get da_cL_law_34 2 rfl)
theorem dL_law_1051 : decode cL_law 1051 = .ok (.aload_n 0, 1) := fo_42 (fw_get da_cL_law_34 3 rfl)
theorem dL_law_1052 : decode cL_law 1052 = .ok (.iload 4, 2) := fo_21 (fw_get da_cL_law_34 4 rfl)
theorem dL_law_1054 : decode cL_law 1054 = .ok (.iconst 3, 1) := fo_6 (fw_get da_cL_law_34 5 rfl)
theorem dL_law_1055 : decode cL_law 1055 = .ok (.iadd, 1) := fo_96 (fw_get da_cL_law_34 6 rfl)
theorem dL_law_1056 : decode cL_law 1056 = .ok (.iaload, 1) := fo_46 (fw_get da_cL_law_34 7 rfl)
theorem dL_law_1057 : decode cL_law 1057 = .ok (.invokevirtual 122, 3) := fo_182 (fw_get da_cL_law_34 8 rfl)
theorem dL_law_1060 : decode cL_law 1060 = .ok (.pop, 1) := fo_87 (fw_get da_cL_law_34 9 rfl)
theorem dL_law_1061 : decode cL_law 1061 = .ok (.goto 1227, 3) := fo_167 (fw_get da_cL_law_34 10 rfl) (by decide +kernel)
theorem dL_law_1064 : decode cL_law 1064 = .ok (.aload_n 1, 1) := fo_43 (fw_get da_cL_law_34 11 rfl)
theorem dL_law_1065 : decode cL_law 1065 = .ok (.aload_n 0, 1) := fo_42 (fw_get da_cL_law_34 12 rfl)
theorem dL_law_1066 : decode cL_law 1066 = .ok (.iload 4, 2) := fo_21 (fw_get da_cL_law_34 13 rfl)
theorem dL_law_1068 : decode cL_law 1068 = .ok (.iconst 1, 1) := fo_4 (fw_get da_cL_law_34 14 rfl)
theorem dL_law_1069 : decode cL_law 1069 = .ok (.iadd, 1) := fo_96 (fw_get da_cL_law_34 15 rfl)
theorem dL_law_1070 : decode cL_law 1070 = .ok (.iaload, 1) := fo_46 (fw_get da_cL_law_34 16 rfl)
theorem dL_law_1071 : decode cL_law 1071 = .ok (.aload_n 0, 1) := fo_42 (fw_get da_cL_law_34 17 rfl)
theorem dL_law_1072 : decode cL_law 1072 = .ok (.iload 4, 2) := fo_21 (fw_get da_cL_law_34 18 rfl)
theorem dL_law_1074 : decode cL_law 1074 = .ok (.iconst 2, 1) := fo_5 (fw_get da_cL_law_34 19 rfl)
def dt_cL_law_35 : List (Nat × Nat × Nat × Nat) := [(1075, 96, 0, 0), (1076, 46, 0, 0), (1077, 42, 0, 0), (1078, 21, 1, 4), (1080, 6, 0, 0), (1081, 96, 0, 0), (1082, 46, 0, 0), (1083, 42, 0, 0), (1084, 21, 1, 4), (1086, 7, 0, 0), (1087, 96, 0, 0), (1088, 46, 0, 0), (1089, 45, 0, 0), (1090, 184, 2, 123), (1093, 54, 1, 5), (1095, 44, 0, 0), (1096, 42, 0, 0), (1097, 21, 1, 4), (1099, 4, 0, 0), (1100, 96, 0, 0)]
theorem da_cL_law_35 : fw dt_cL_law_35 0 cL_law.data.toList = true := by decide +kernel
theorem dL_law_1075 : decode cL_law 1075 = .ok (.iadd, 1) := fo_96 (fw_get da_cL_law_35 0 rfl)
theorem dL_law_1076 : decode cL_law 1076 = .ok (.iaload, 1) := fo_46 (fw_get da_cL_law_35 1 rfl)
theorem dL_law_1077 : decode cL_law 1077 = .ok (.aload_n 0, 1) := fo_42 (fw_get da_cL_law_35 2 rfl)
theorem dL_law_1078 : decode cL_law 1078 = .ok (.iload 4, 2) := fo_21 (fw_get da_cL_law_35 3 rfl)
theorem dL_law_1080 : decode cL_law 1080 = .ok (.iconst 3, 1) := fo_6 (fw_get da_cL_law_35 4 rfl)
theorem dL_law_1081 : decode cL_law 1081 = .ok (.iadd, 1) := fo_96 (fw_get da_cL_law_35 5 rfl)
theorem dL_law_1082 : decode cL_law 1082 = .ok (.iaload, 1) := fo_46 (fw_get da_cL_law_35 6 rfl)
theorem dL_law_1083 : decode cL_law 1083 = .ok (.aload_n 0, 1) := fo_42 (fw_get da_cL_law_35 7 rfl)
theorem dL_law_1084 : decode cL_law 1084 = .ok (.iload 4, 2) := fo_21 (fw_get da_cL_law_35 8 rfl)
theorem dL_law_1086 : decode cL_law 1086 = .ok (.iconst 4, 1) := fo_7 (fw_get da_cL_law_35 9 rfl)
theorem dL_law_1087 : decode cL_law 1087 = .ok (.iadd, 1) := fo_96 (fw_get da_cL_law_35 10 rfl)
theorem dL_law_1088 : decode cL_law 1088 = .ok (.iaload, 1) := fo_46 (fw_get da_cL_law_35 11 rfl)
theorem dL_law_1089 : decode cL_law 1089 = .ok (.aload_n 3, 1) := fo_45 (fw_get da_cL_law_35 12 rfl)
theorem dL_law_1090 : decode cL_law 1090 = .ok (.invokestatic 123, 3) := fo_184 (fw_get da_cL_law_35 13 rfl)
theorem dL_law_1093 : decode cL_law 1093 = .ok (.istore 5, 2) := fo_54 (fw_get da_cL_law_35 14 rfl)
theorem dL_law_1095 : decode cL_law 1095 = .ok (.aload_n 2, 1) := fo_44 (fw_get da_cL_law_35 15 rfl)
theorem dL_law_1096 : decode cL_law 1096 = .ok (.aload_n 0, 1) := fo_42 (fw_get da_cL_law_35 16 rfl)
theorem dL_law_1097 : decode cL_law 1097 = .ok (.iload 4, 2) := fo_21 (fw_get da_cL_law_35 17 rfl)
theorem dL_law_1099 : decode cL_law 1099 = .ok (.iconst 1, 1) := fo_4 (fw_get da_cL_law_35 18 rfl)
theorem dL_law_1100 : decode cL_law 1100 = .ok (.iadd, 1) := fo_96 (fw_get da_cL_law_35 19 rfl)
def dt_cL_law_36 : List (Nat × Nat × Nat × Nat) := [(1101, 46, 0, 0), (1102, 42, 0, 0), (1103, 21, 1, 4), (1105, 5, 0, 0), (1106, 96, 0, 0), (1107, 46, 0, 0), (1108, 42, 0, 0), (1109, 21, 1, 4), (1111, 6, 0, 0), (1112, 96, 0, 0), (1113, 46, 0, 0), (1114, 42, 0, 0), (1115, 21, 1, 4), (1117, 7, 0, 0), (1118, 96, 0, 0), (1119, 46, 0, 0), (1120, 182, 2, 125), (1123, 54, 1, 6), (1125, 167, 2, 1163), (1128, 43, 0, 0)]
theorem da_cL_law_36 : fw dt_cL_law_36 0 cL_law.data.toList = true := by decide +kernel
theorem dL_law_1101 : decode cL_law 1101 = .ok (.iaload, 1) := fo_46 (fw_get da_cL_law_36 0 rfl)
theorem dL_law_1102 : decode cL_law 1102 = .ok (.aload_n 0, 1) := fo_42 (fw_get da_cL_law_36 1 rfl)
theorem dL_law_1103 : decode cL_law 1103 = .ok (.iload 4, 2) := fo_21 (fw_get da_cL_law_36 2 rfl)
theorem dL_law_1105 : decode cL_law 1105 = .ok (.iconst 2, 1) := fo_5 (fw_get da_cL_law_36 3 rfl)
theorem dL_law_1106 : decode cL_law 1106 = .ok (.iadd, 1) := fo_96 (fw_get da_cL_law_36 4 rfl)
theorem dL_law_1107 : decode cL_law 1107 = .ok (.iaload, 1) := fo_46 (fw_get da_cL_law_36 5 rfl)
theorem dL_law_1108 : decode cL_law 1108 = .ok (.aload_n 0, 1) := fo_42 (fw_get da_cL_law_36 6 rfl)
theorem dL_law_1109 : decode cL_law 1109 = .ok (.iload 4, 2) := fo_21 (fw_get da_cL_law_36 7 rfl)
theorem dL_law_1111 : decode cL_law 1111 = .ok (.iconst 3, 1) := fo_6 (fw_get da_cL_law_36 8 rfl)
theorem dL_law_1112 : decode cL_law 1112 = .ok (.iadd, 1) := fo_96 (fw_get da_cL_law_36 9 rfl)
theorem dL_law_1113 : decode cL_law 1113 = .ok (.iaload, 1) := fo_46 (fw_get da_cL_law_36 10 rfl)
theorem dL_law_1114 : decode cL_law 1114 = .ok (.aload_n 0, 1) := fo_42 (fw_get da_cL_law_36 11 rfl)
theorem dL_law_1115 : decode cL_law 1115 = .ok (.iload 4, 2) := fo_21 (fw_get da_cL_law_36 12 rfl)
theorem dL_law_1117 : decode cL_law 1117 = .ok (.iconst 4, 1) := fo_7 (fw_get da_cL_law_36 13 rfl)
theorem dL_law_1118 : decode cL_law 1118 = .ok (.iadd, 1) := fo_96 (fw_get da_cL_law_36 14 rfl)
theorem dL_law_1119 : decode cL_law 1119 = .ok (.iaload, 1) := fo_46 (fw_get da_cL_law_36 15 rfl)
theorem dL_law_1120 : decode cL_law 1120 = .ok (.invokevirtual 125, 3) := fo_182 (fw_get da_cL_law_36 16 rfl)
theorem dL_law_1123 : decode cL_law 1123 = .ok (.istore 6, 2) := fo_54 (fw_get da_cL_law_36 17 rfl)
theorem dL_law_1125 : decode cL_law 1125 = .ok (.goto 1163, 3) := fo_167 (fw_get da_cL_law_36 18 rfl) (by decide +kernel)
theorem dL_law_1128 : decode cL_law 1128 = .ok (.aload_n 1, 1) := fo_43 (fw_get da_cL_law_36 19 rfl)
def dt_cL_law_37 : List (Nat × Nat × Nat × Nat) := [(1129, 42, 0, 0), (1130, 21, 1, 4), (1132, 4, 0, 0), (1133, 96, 0, 0), (1134, 46, 0, 0), (1135, 42, 0, 0), (1136, 21, 1, 4), (1138, 5, 0, 0), (1139, 96, 0, 0), (1140, 46, 0, 0), (1141, 42, 0, 0), (1142, 21, 1, 4), (1144, 6, 0, 0), (1145, 96, 0, 0), (1146, 46, 0, 0), (1147, 182, 2, 126), (1150, 87, 0, 0), (1151, 44, 0, 0), (1152, 42, 0, 0), (1153, 21, 1, 4)]
theorem da_cL_law_37 : fw dt_cL_law_37 0 cL_law.data.toList = true := by decide +kernel
theorem dL_law_1129 : decode cL_law 1129 = .ok (.aload_n 0, 1) := fo_42 (fw_get da_cL_law_37 0 rfl)
theorem dL_law_1130 : decode cL_law 1130 = .ok (.iload 4, 2) := fo_21 (fw_get da_cL_law_37 1 rfl)
theorem dL_law_1132 : decode cL_law 1132 = .ok (.iconst 1, 1) := fo_4 (fw_get da_cL_law_37 2 rfl)
theorem dL_law_1133 : decode cL_law 1133 = .ok (.iadd, 1) := fo_96 (fw_get da_cL_law_37 3 rfl)
theorem dL_law_1134 : decode cL_law 1134 = .ok (.iaload, 1) := fo_46 (fw_get da_cL_law_37 4 rfl)
theorem dL_law_1135 : decode cL_law 1135 = .ok (.aload_n 0, 1) := fo_42 (fw_get da_cL_law_37 5 rfl)
theorem dL_law_1136 : decode cL_law 1136 = .ok (.iload 4, 2) := fo_21 (fw_get da_cL_law_37 6 rfl)
theorem dL_law_1138 : decode cL_law 1138 = .ok (.iconst 2, 1) := fo_5 (fw_get da_cL_law_37 7 rfl)
theorem dL_law_1139 : decode cL_law 1139 = .ok (.iadd, 1) := fo_96 (fw_get da_cL_law_37 8 rfl)
theorem dL_law_1140 : decode cL_law 1140 = .ok (.iaload, 1) := fo_46 (fw_get da_cL_law_37 9 rfl)
theorem dL_law_1141 : decode cL_law 1141 = .ok (.aload_n 0, 1) := fo_42 (fw_get da_cL_law_37 10 rfl)
theorem dL_law_1142 : decode cL_law 1142 = .ok (.iload 4, 2) := fo_21 (fw_get da_cL_law_37 11 rfl)
theorem dL_law_1144 : decode cL_law 1144 = .ok (.iconst 3, 1) := fo_6 (fw_get da_cL_law_37 12 rfl)
theorem dL_law_1145 : decode cL_law 1145 = .ok (.iadd, 1) := fo_96 (fw_get da_cL_law_37 13 rfl)
theorem dL_law_1146 : decode cL_law 1146 = .ok (.iaload, 1) := fo_46 (fw_get da_cL_law_37 14 rfl)
theorem dL_law_1147 : decode cL_law 1147 = .ok (.invokevirtual 126, 3) := fo_182 (fw_get da_cL_law_37 15 rfl)
theorem dL_law_1150 : decode cL_law 1150 = .ok (.pop, 1) := fo_87 (fw_get da_cL_law_37 16 rfl)
theorem dL_law_1151 : decode cL_law 1151 = .ok (.aload_n 2, 1) := fo_44 (fw_get da_cL_law_37 17 rfl)
theorem dL_law_1152 : decode cL_law 1152 = .ok (.aload_n 0, 1) := fo_42 (fw_get da_cL_law_37 18 rfl)
theorem dL_law_1153 : decode cL_law 1153 = .ok (.iload 4, 2) := fo_21 (fw_get da_cL_law_37 19 rfl)
def dt_cL_law_38 : List (Nat × Nat × Nat × Nat) := [(1155, 4, 0, 0), (1156, 96, 0, 0), (1157, 46, 0, 0), (1158, 42, 0, 0), (1159, 21, 1, 4), (1161, 5, 0, 0), (1162, 96, 0, 0), (1163, 46, 0, 0), (1164, 42, 0, 0), (1165, 21, 1, 4), (1167, 6, 0, 0), (1168, 96, 0, 0), (1169, 46, 0, 0), (1170, 182, 2, 129), (1173, 87, 0, 0), (1174, 167, 2, 1114), (1177, 43, 0, 0), (1178, 42, 0, 0), (1179, 21, 1, 4), (1181, 4, 0, 0)]
theorem da_cL_law_38 : fw dt_cL_law_38 0 cL_law.data.toList = true := by decide +kernel
theorem dL_law_1155 : decode cL_law 1155 = .ok (.iconst 1, 1) := fo_4 (fw_get da_cL_law_38 0 rfl)
theorem dL_law_1156 : decode cL_law 1156 = .ok (.iadd, 1) := fo_96 (fw_get da_cL_law_38 1 rfl)
theorem dL_law_1157 : decode cL_law 1157 = .ok (.iaload, 1) := fo_46 (fw_get da_cL_law_38 2 rfl)
theorem dL_law_1158 : decode cL_law 1158 = .ok (.aload_n 0, 1) := fo_42 (fw_get da_cL_law_38 3 rfl)
theorem dL_law_1159 : decode cL_law 1159 = .ok (.iload 4, 2) := fo_21 (fw_get da_cL_law_38 4 rfl)
theorem dL_law_1161 : decode cL_law 1161 = .ok (.iconst 2, 1) := fo_5 (fw_get da_cL_law_38 5 rfl)
theorem dL_law_1162 : decode cL_law 1162 = .ok (.iadd, 1) := fo_96 (fw_get da_cL_law_38 6 rfl)
theorem dL_law_1163 : decode cL_law 1163 = .ok (.iaload, 1) := fo_46 (fw_get da_cL_law_38 7 rfl)
theorem dL_law_1164 : decode cL_law 1164 = .ok (.aload_n 0, 1) := fo_42 (fw_get da_cL_law_38 8 rfl)
theorem dL_law_1165 : decode cL_law 1165 = .ok (.iload 4, 2) := fo_21 (fw_get da_cL_law_38 9 rfl)
theorem dL_law_1167 : decode cL_law 1167 = .ok (.iconst 3, 1) := fo_6 (fw_get da_cL_law_38 10 rfl)
theorem dL_law_1168 : decode cL_law 1168 = .ok (.iadd, 1) := fo_96 (fw_get da_cL_law_38 11 rfl)
theorem dL_law_1169 : decode cL_law 1169 = .ok (.iaload, 1) := fo_46 (fw_get da_cL_law_38 12 rfl)
theorem dL_law_1170 : decode cL_law 1170 = .ok (.invokevirtual 129, 3) := fo_182 (fw_get da_cL_law_38 13 rfl)
theorem dL_law_1173 : decode cL_law 1173 = .ok (.pop, 1) := fo_87 (fw_get da_cL_law_38 14 rfl)
theorem dL_law_1174 : decode cL_law 1174 = .ok (.goto 1114, 3) := fo_167 (fw_get da_cL_law_38 15 rfl) (by decide +kernel)
theorem dL_law_1177 : decode cL_law 1177 = .ok (.aload_n 1, 1) := fo_43 (fw_get da_cL_law_38 16 rfl)
theorem dL_law_1178 : decode cL_law 1178 = .ok (.aload_n 0, 1) := fo_42 (fw_get da_cL_law_38 17 rfl)
theorem dL_law_1179 : decode cL_law 1179 = .ok (.iload 4, 2) := fo_21 (fw_get da_cL_law_38 18 rfl)
theorem dL_law_1181 : decode cL_law 1181 = .ok (.iconst 1, 1) := fo_4 (fw_get da_cL_law_38 19 rfl)
def dt_cL_law_39 : List (Nat × Nat × Nat × Nat) := [(1182, 96, 0, 0), (1183, 46, 0, 0), (1184, 42, 0, 0), (1185, 21, 1, 4), (1187, 5, 0, 0), (1188, 96, 0, 0), (1189, 46, 0, 0), (1190, 182, 2, 130), (1193, 87, 0, 0), (1194, 44, 0, 0), (1195, 42, 0, 0), (1196, 21, 1, 4), (1198, 4, 0, 0), (1199, 96, 0, 0), (1200, 46, 0, 0), (1201, 42, 0, 0), (1202, 21, 1, 4), (1204, 5, 0, 0), (1205, 96, 0, 0), (1206, 46, 0, 0)]
theorem da_cL_law_39 : fw dt_cL_law_39 0 cL_law.data.toList = true := by decide +kernel
theorem dL_law_1182 : decode cL_law 1182 = .ok (.iadd, 1) := fo_96 (fw_get da_cL_law_39 0 rfl)
theorem dL_law_1183 : decode cL_law 1183 = .ok (.iaload, 1) := fo_46 (fw_get da_cL_law_39 1 rfl)
theorem dL_law_1184 : decode cL_law 1184 = .ok (.aload_n 0, 1) := fo_42 (fw_get da_cL_law_39 2 rfl)
theorem dL_law_1185 : decode cL_law 1185 = .ok (.iload 4, 2) := fo_21 (fw_get da_cL_law_39 3 rfl)
theorem dL_law_1187 : decode cL_law 1187 = .ok (.iconst 2, 1) := fo_5 (fw_get da_cL_law_39 4 rfl)
theorem dL_law_1188 : decode cL_law 1188 = .ok (.iadd, 1) := fo_96 (fw_get da_cL_law_39 5 rfl)
theorem dL_law_1189 : decode cL_law 1189 = .ok (.iaload, 1) := fo_46 (fw_get da_cL_law_39 6 rfl)
theorem dL_law_1190 : decode cL_law 1190 = .ok (.invokevirtual 130, 3) := fo_182 (fw_get da_cL_law_39 7 rfl)
theorem dL_law_1193 : decode cL_law 1193 = .ok (.pop, 1) := fo_87 (fw_get da_cL_law_39 8 rfl)
theorem dL_law_1194 : decode cL_law 1194 = .ok (.aload_n 2, 1) := fo_44 (fw_get da_cL_law_39 9 rfl)
theorem dL_law_1195 : decode cL_law 1195 = .ok (.aload_n 0, 1) := fo_42 (fw_get da_cL_law_39 10 rfl)
theorem dL_law_1196 : decode cL_law 1196 = .ok (.iload 4, 2) := fo_21 (fw_get da_cL_law_39 11 rfl)
theorem dL_law_1198 : decode cL_law 1198 = .ok (.iconst 1, 1) := fo_4 (fw_get da_cL_law_39 12 rfl)
theorem dL_law_1199 : decode cL_law 1199 = .ok (.iadd, 1) := fo_96 (fw_get da_cL_law_39 13 rfl)
theorem dL_law_1200 : decode cL_law 1200 = .ok (.iaload, 1) := fo_46 (fw_get da_cL_law_39 14 rfl)
theorem dL_law_1201 : decode cL_law 1201 = .ok (.aload_n 0, 1) := fo_42 (fw_get da_cL_law_39 15 rfl)
theorem dL_law_1202 : decode cL_law 1202 = .ok (.iload 4, 2) := fo_21 (fw_get da_cL_law_39 16 rfl)
theorem dL_law_1204 : decode cL_law 1204 = .ok (.iconst 2, 1) := fo_5 (fw_get da_cL_law_39 17 rfl)
theorem dL_law_1205 : decode cL_law 1205 = .ok (.iadd, 1) := fo_96 (fw_get da_cL_law_39 18 rfl)
theorem dL_law_1206 : decode cL_law 1206 = .ok (.iaload, 1) := fo_46 (fw_get da_cL_law_39 19 rfl)
def dt_cL_law_40 : List (Nat × Nat × Nat × Nat) := [(1207, 182, 2, 133), (1210, 87, 0, 0), (1211, 167, 2, 1077), (1214, 43, 0, 0), (1215, 42, 0, 0), (1216, 21, 1, 4), (1218, 4, 0, 0), (1219, 96, 0, 0), (1220, 46, 0, 0), (1221, 42, 0, 0)]
theorem da_cL_law_40 : fw dt_cL_law_40 0 cL_law.data.toList = true := by decide +kernel
theorem dL_law_1207 : decode cL_law 1207 = .ok (.invokevirtual 133, 3) := fo_182 (fw_get da_cL_law_40 0 rfl)
theorem dL_law_1210 : decode cL_law 1210 = .ok (.pop, 1) := fo_87 (fw_get da_cL_law_40 1 rfl)
theorem dL_law_1211 : decode cL_law 1211 = .ok (.goto 1077, 3) := fo_167 (fw_get da_cL_law_40 2 rfl) (by decide +kernel)
theorem dL_law_1214 : decode cL_law 1214 = .ok (.aload_n 1, 1) := fo_43 (fw_get da_cL_law_40 3 rfl)
theorem dL_law_1215 : decode cL_law 1215 = .ok (.aload_n 0, 1) := fo_42 (fw_get da_cL_law_40 4 rfl)
theorem dL_law_1216 : decode cL_law 1216 = .ok (.iload 4, 2) := fo_21 (fw_get da_cL_law_40 5 rfl)
theorem dL_law_1218 : decode cL_law 1218 = .ok (.iconst 1, 1) := fo_4 (fw_get da_cL_law_40 6 rfl)
theorem dL_law_1219 : decode cL_law 1219 = .ok (.iadd, 1) := fo_96 (fw_get da_cL_law_40 7 rfl)
theorem dL_law_1220 : decode cL_law 1220 = .ok (.iaload, 1) := fo_46 (fw_get da_cL_law_40 8 rfl)
theorem dL_law_1221 : decode cL_law 1221 = .ok (.aload_n 0, 1) := fo_42 (fw_get da_cL_law_40 9 rfl)


def dt_cL_law_41 : List (Nat × Nat × Nat × Nat) := [(1222, 21, 1, 4), (1224, 5, 0, 0), (1225, 96, 0, 0), (1226, 46, 0, 0), (1227, 42, 0, 0), (1228, 21, 1, 4), (1230, 6, 0, 0), (1231, 96, 0, 0), (1232, 46, 0, 0), (1233, 42, 0, 0), (1234, 21, 1, 4), (1236, 7, 0, 0), (1237, 96, 0, 0), (1238, 46, 0, 0), (1239, 182, 2, 134), (1242, 87, 0, 0), (1243, 44, 0, 0), (1244, 42, 0, 0), (1245, 21, 1, 4), (1247, 4, 0, 0)]
theorem da_cL_law_41 : fw dt_cL_law_41 0 cL_law.data.toList = true := by decide +kernel
theorem dL_law_1222 : decode cL_law 1222 = .ok (.iload 4, 2) := fo_21 (fw_get da_cL_law_41 0 rfl)
theorem dL_law_1224 : decode cL_law 1224 = .ok (.iconst 2, 1) := fo_5 (fw_get da_cL_law_41 1 rfl)
theorem dL_law_1225 : decode cL_law 1225 = .ok (.iadd, 1) := fo_96 (fw_get da_cL_law_41 2 rfl)
theorem dL_law_1226 : decode cL_law 1226 = .ok (.iaload, 1) := fo_46 (fw_get da_cL_law_41 3 rfl)
theorem dL_law_1227 : decode cL_law 1227 = .ok (.aload_n 0, 1) := fo_42 (fw_get da_cL_law_41 4 rfl)
theorem dL_law_1228 : decode cL_law 1228 = .ok (.iload 4, 2) := fo_21 (fw_get da_cL_law_41 5 rfl)
theorem dL_law_1230 : decode cL_law 1230 = .ok (.iconst 3, 1) := fo_6 (fw_get da_cL_law_41 6 rfl)
theorem dL_law_1231 : decode cL_law 1231 = .ok (.iadd, 1) := fo_96 (fw_get da_cL_law_41 7 rfl)
theorem dL_law_1232 : decode cL_law 1232 = .ok (.iaload, 1) := fo_46 (fw_get da_cL_law_41 8 rfl)
theorem dL_law_1233 : decode cL_law 1233 = .ok (.aload_n 0, 1) := fo_42 (fw_get da_cL_law_41 9 rfl)
theorem dL_law_1234 : decode cL_law 1234 = .ok (.iload 4, 2) := fo_21 (fw_get da_cL_law_41 10 rfl)
theorem dL_law_1236 : decode cL_law 1236 = .ok (.iconst 4, 1) := fo_7 (fw_get da_cL_law_41 11 rfl)
theorem dL_law_1237 : decode cL_law 1237 = .ok (.iadd, 1) := fo_96 (fw_get da_cL_law_41 12 rfl)
theorem dL_law_1238 : decode cL_law 1238 = .ok (.iaload, 1) := fo_46 (fw_get da_cL_law_41 13 rfl)
theorem dL_law_1239 : decode cL_law 1239 = .ok (.invokevirtual 134, 3) := fo_182 (fw_get da_cL_law_41 14 rfl)
theorem dL_law_1242 : decode cL_law 1242 = .ok (.pop, 1) := fo_87 (fw_get da_cL_law_41 15 rfl)
theorem dL_law_1243 : decode cL_law 1243 = .ok (.aload_n 2, 1) := fo_44 (fw_get da_cL_law_41 16 rfl)
theorem dL_law_1244 : decode cL_law 1244 = .ok (.aload_n 0, 1) := fo_42 (fw_get da_cL_law_41 17 rfl)
theorem dL_law_1245 : decode cL_law 1245 = .ok (.iload 4, 2) := fo_21 (fw_get da_cL_law_41 18 rfl)
theorem dL_law_1247 : decode cL_law 1247 = .ok (.iconst 1, 1) := fo_4 (fw_get da_cL_law_41 19 rfl)
def dt_cL_law_42 : List (Nat × Nat × Nat × Nat) := [(1248, 96, 0, 0), (1249, 46, 0, 0), (1250, 42, 0, 0), (1251, 21, 1, 4), (1253, 5, 0, 0), (1254, 96, 0, 0), (1255, 46, 0, 0), (1256, 42, 0, 0), (1257, 21, 1, 4), (1259, 6, 0, 0), (1260, 96, 0, 0), (1261, 46, 0, 0), (1262, 42, 0, 0), (1263, 21, 1, 4), (1265, 7, 0, 0), (1266, 96, 0, 0), (1267, 46, 0, 0), (1268, 182, 2, 137), (1271, 87, 0, 0), (1272, 167, 2, 1016)]
theorem da_cL_law_42 : fw dt_cL_law_42 0 cL_law.data.toList = true := by decide +kernel
theorem dL_law_1248 : decode cL_law 1248 = .ok (.iadd, 1) := fo_96 (fw_get da_cL_law_42 0 rfl)
theorem dL_law_1249 : decode cL_law 1249 = .ok (.iaload, 1) := fo_46 (fw_get da_cL_law_42 1 rfl)
theorem dL_law_1250 : decode cL_law 1250 = .ok (.aload_n 0, 1) := fo_42 (fw_get da_cL_law_42 2 rfl)
theorem dL_law_1251 : decode cL_law 1251 = .ok (.iload 4, 2) := fo_21 (fw_get da_cL_law_42 3 rfl)
theorem dL_law_1253 : decode cL_law 1253 = .ok (.iconst 2, 1) := fo_5 (fw_get da_cL_law_42 4 rfl)
theorem dL_law_1254 : decode cL_law 1254 = .ok (.iadd, 1) := fo_96 (fw_get da_cL_law_42 5 rfl)
theorem dL_law_1255 : decode cL_law 1255 = .ok (.iaload, 1) := fo_46 (fw_get da_cL_law_42 6 rfl)
theorem dL_law_1256 : decode cL_law 1256 = .ok (.aload_n 0, 1) := fo_42 (fw_get da_cL_law_42 7 rfl)
theorem dL_law_1257 : decode cL_law 1257 = .ok (.iload 4, 2) := fo_21 (fw_get da_cL_law_42 8 rfl)
theorem dL_law_1259 : decode cL_law 1259 = .ok (.iconst 3, 1) := fo_6 (fw_get da_cL_law_42 9 rfl)
theorem dL_law_1260 : decode cL_law 1260 = .ok (.iadd, 1) := fo_96 (fw_get da_cL_law_42 10 rfl)
theorem dL_law_1261 : decode cL_law 1261 = .ok (.iaload, 1) := fo_46 (fw_get da_cL_law_42 11 rfl)
theorem dL_law_1262 : decode cL_law 1262 = .ok (.aload_n 0, 1) := fo_42 (fw_get da_cL_law_42 12 rfl)
theorem dL_law_1263 : decode cL_law 1263 = .ok (.iload 4, 2) := fo_21 (fw_get da_cL_law_42 13 rfl)
theorem dL_law_1265 : decode cL_law 1265 = .ok (.iconst 4, 1) := fo_7 (fw_get da_cL_law_42 14 rfl)
theorem dL_law_1266 : decode cL_law 1266 = .ok (.iadd, 1) := fo_96 (fw_get da_cL_law_42 15 rfl)
theorem dL_law_1267 : decode cL_law 1267 = .ok (.iaload, 1) := fo_46 (fw_get da_cL_law_42 16 rfl)
theorem dL_law_1268 : decode cL_law 1268 = .ok (.invokevirtual 137, 3) := fo_182 (fw_get da_cL_law_42 17 rfl)
theorem dL_law_1271 : decode cL_law 1271 = .ok (.pop, 1) := fo_87 (fw_get da_cL_law_42 18 rfl)
theorem dL_law_1272 : decode cL_law 1272 = .ok (.goto 1016, 3) := fo_167 (fw_get da_cL_law_42 19 rfl) (by decide +kernel)
def dt_cL_law_43 : List (Nat × Nat × Nat × Nat) := [(1275, 43, 0, 0), (1276, 42, 0, 0), (1277, 21, 1, 4), (1279, 4, 0, 0), (1280, 96, 0, 0), (1281, 46, 0, 0), (1282, 42, 0, 0), (1283, 21, 1, 4), (1285, 5, 0, 0), (1286, 96, 0, 0), (1287, 46, 0, 0), (1288, 42, 0, 0), (1289, 21, 1, 4), (1291, 6, 0, 0), (1292, 96, 0, 0), (1293, 46, 0, 0), (1294, 42, 0, 0), (1295, 21, 1, 4), (1297, 7, 0, 0), (1298, 96, 0, 0)]
theorem da_cL_law_43 : fw dt_cL_law_43 0 cL_law.data.toList = true := by decide +kernel
theorem dL_law_1275 : decode cL_law 1275 = .ok (.aload_n 1, 1) := fo_43 (fw_get da_cL_law_43 0 rfl)
theorem dL_law_1276 : decode cL_law 1276 = .ok (.aload_n 0, 1) := fo_42 (fw_get da_cL_law_43 1 rfl)
theorem dL_law_1277 : decode cL_law 1277 = .ok (.iload 4, 2) := fo_21 (fw_get da_cL_law_43 2 rfl)
theorem dL_law_1279 : decode cL_law 1279 = .ok (.iconst 1, 1) := fo_4 (fw_get da_cL_law_43 3 rfl)
theorem dL_law_1280 : decode cL_law 1280 = .ok (.iadd, 1) := fo_96 (fw_get da_cL_law_43 4 rfl)
theorem dL_law_1281 : decode cL_law 1281 = .ok (.iaload, 1) := fo_46 (fw_get da_cL_law_43 5 rfl)
theorem dL_law_1282 : decode cL_law 1282 = .ok (.aload_n 0, 1) := fo_42 (fw_get da_cL_law_43 6 rfl)
theorem dL_law_1283 : decode cL_law 1283 = .ok (.iload 4, 2) := fo_21 (fw_get da_cL_law_43 7 rfl)
theorem dL_law_1285 : decode cL_law 1285 = .ok (.iconst 2, 1) := fo_5 (fw_get da_cL_law_43 8 rfl)
theorem dL_law_1286 : decode cL_law 1286 = .ok (.iadd, 1) := fo_96 (fw_get da_cL_law_43 9 rfl)
theorem dL_law_1287 : decode cL_law 1287 = .ok (.iaload, 1) := fo_46 (fw_get da_cL_law_43 10 rfl)
theorem dL_law_1288 : decode cL_law 1288 = .ok (.aload_n 0, 1) := fo_42 (fw_get da_cL_law_43 11 rfl)
theorem dL_law_1289 : decode cL_law 1289 = .ok (.iload 4, 2) := fo_21 (fw_get da_cL_law_43 12 rfl)
theorem dL_law_1291 : decode cL_law 1291 = .ok (.iconst 3, 1) := fo_6 (fw_get da_cL_law_43 13 rfl)
theorem dL_law_1292 : decode cL_law 1292 = .ok (.iadd, 1) := fo_96 (fw_get da_cL_law_43 14 rfl)
theorem dL_law_1293 : decode cL_law 1293 = .ok (.iaload, 1) := fo_46 (fw_get da_cL_law_43 15 rfl)
theorem dL_law_1294 : decode cL_law 1294 = .ok (.aload_n 0, 1) := fo_42 (fw_get da_cL_law_43 16 rfl)
theorem dL_law_1295 : decode cL_law 1295 = .ok (.iload 4, 2) := fo_21 (fw_get da_cL_law_43 17 rfl)
theorem dL_law_1297 : decode cL_law 1297 = .ok (.iconst 4, 1) := fo_7 (fw_get da_cL_law_43 18 rfl)
theorem dL_law_1298 : decode cL_law 1298 = .ok (.iadd, 1) := fo_96 (fw_get da_cL_law_43 19 rfl)
def dt_cL_law_44 : List (Nat × Nat × Nat × Nat) := [(1299, 46, 0, 0), (1300, 42, 0, 0), (1301, 21, 1, 4), (1303, 8, 0, 0), (1304, 96, 0, 0), (1305, 46, 0, 0), (1306, 42, 0, 0), (1307, 21, 1, 4), (1309, 16, 1, 6), (1311, 96, 0, 0), (1312, 46, 0, 0), (1313, 45, 0, 0), (1314, 184, 2, 138), (1317, 54, 1, 5), (1319, 44, 0, 0), (1320, 42, 0, 0), (1321, 21, 1, 4), (1323, 4, 0, 0), (1324, 96, 0, 0), (1325, 46, 0, 0)]
theorem da_cL_law_44 : fw dt_cL_law_44 0 cL_law.data.toList = true := by decide +kernel
theorem dL_law_1299 : decode cL_law 1299 = .ok (.iaload, 1) := fo_46 (fw_get da_cL_law_44 0 rfl)
theorem dL_law_1300 : decode cL_law 1300 = .ok (.aload_n 0, 1) := fo_42 (fw_get da_cL_law_44 1 rfl)
theorem dL_law_1301 : decode cL_law 1301 = .ok (.iload 4, 2) := fo_21 (fw_get da_cL_law_44 2 rfl)
theorem dL_law_1303 : decode cL_law 1303 = .ok (.iconst 5, 1) := fo_8 (fw_get da_cL_law_44 3 rfl)
theorem dL_law_1304 : decode cL_law 1304 = .ok (.iadd, 1) := fo_96 (fw_get da_cL_law_44 4 rfl)
theorem dL_law_1305 : decode cL_law 1305 = .ok (.iaload, 1) := fo_46 (fw_get da_cL_law_44 5 rfl)
theorem dL_law_1306 : decode cL_law 1306 = .ok (.aload_n 0, 1) := fo_42 (fw_get da_cL_law_44 6 rfl)
theorem dL_law_1307 : decode cL_law 1307 = .ok (.iload 4, 2) := fo_21 (fw_get da_cL_law_44 7 rfl)
theorem dL_law_1309 : decode cL_law 1309 = .ok (.bipush 6, 2) := fo_16 (fw_get da_cL_law_44 8 rfl) (by decide +kernel)
theorem dL_law_1311 : decode cL_law 1311 = .ok (.iadd, 1) := fo_96 (fw_get da_cL_law_44 9 rfl)
theorem dL_law_1312 : decode cL_law 1312 = .ok (.iaload, 1) := fo_46 (fw_get da_cL_law_44 10 rfl)
theorem dL_law_1313 : decode cL_law 1313 = .ok (.aload_n 3, 1) := fo_45 (fw_get da_cL_law_44 11 rfl)
theorem dL_law_1314 : decode cL_law 1314 = .ok (.invokestatic 138, 3) := fo_184 (fw_get da_cL_law_44 12 rfl)
theorem dL_law_1317 : decode cL_law 1317 = .ok (.istore 5, 2) := fo_54 (fw_get da_cL_law_44 13 rfl)
theorem dL_law_1319 : decode cL_law 1319 = .ok (.aload_n 2, 1) := fo_44 (fw_get da_cL_law_44 14 rfl)
theorem dL_law_1320 : decode cL_law 1320 = .ok (.aload_n 0, 1) := fo_42 (fw_get da_cL_law_44 15 rfl)
theorem dL_law_1321 : decode cL_law 1321 = .ok (.iload 4, 2) := fo_21 (fw_get da_cL_law_44 16 rfl)
theorem dL_law_1323 : decode cL_law 1323 = .ok (.iconst 1, 1) := fo_4 (fw_get da_cL_law_44 17 rfl)
theorem dL_law_1324 : decode cL_law 1324 = .ok (.iadd, 1) := fo_96 (fw_get da_cL_law_44 18 rfl)
theorem dL_law_1325 : decode cL_law 1325 = .ok (.iaload, 1) := fo_46 (fw_get da_cL_law_44 19 rfl)
def dt_cL_law_45 : List (Nat × Nat × Nat × Nat) := [(1326, 42, 0, 0), (1327, 21, 1, 4), (1329, 5, 0, 0), (1330, 96, 0, 0), (1331, 46, 0, 0), (1332, 42, 0, 0), (1333, 21, 1, 4), (1335, 6, 0, 0), (1336, 96, 0, 0), (1337, 46, 0, 0), (1338, 42, 0, 0), (1339, 21, 1, 4), (1341, 7, 0, 0), (1342, 96, 0, 0), (1343, 46, 0, 0), (1344, 42, 0, 0), (1345, 21, 1, 4), (1347, 8, 0, 0), (1348, 96, 0, 0), (1349, 46, 0, 0)]
theorem da_cL_law_45 : fw dt_cL_law_45 0 cL_law.data.toList = true := by decide +kernel
theorem dL_law_1326 : decode cL_law 1326 = .ok (.aload_n 0, 1) := fo_42 (fw_get da_cL_law_45 0 rfl)
theorem dL_law_1327 : decode cL_law 1327 = .ok (.iload 4, 2) := fo_21 (fw_get da_cL_law_45 1 rfl)
theorem dL_law_1329 : decode cL_law 1329 = .ok (.iconst 2, 1) := fo_5 (fw_get da_cL_law_45 2 rfl)
theorem dL_law_1330 : decode cL_law 1330 = .ok (.iadd, 1) := fo_96 (fw_get da_cL_law_45 3 rfl)
theorem dL_law_1331 : decode cL_law 1331 = .ok (.iaload, 1) := fo_46 (fw_get da_cL_law_45 4 rfl)
theorem dL_law_1332 : decode cL_law 1332 = .ok (.aload_n 0, 1) := fo_42 (fw_get da_cL_law_45 5 rfl)
theorem dL_law_1333 : decode cL_law 1333 = .ok (.iload 4, 2) := fo_21 (fw_get da_cL_law_45 6 rfl)
theorem dL_law_1335 : decode cL_law 1335 = .ok (.iconst 3, 1) := fo_6 (fw_get da_cL_law_45 7 rfl)
theorem dL_law_1336 : decode cL_law 1336 = .ok (.iadd, 1) := fo_96 (fw_get da_cL_law_45 8 rfl)
theorem dL_law_1337 : decode cL_law 1337 = .ok (.iaload, 1) := fo_46 (fw_get da_cL_law_45 9 rfl)
theorem dL_law_1338 : decode cL_law 1338 = .ok (.aload_n 0, 1) := fo_42 (fw_get da_cL_law_45 10 rfl)
theorem dL_law_1339 : decode cL_law 1339 = .ok (.iload 4, 2) := fo_21 (fw_get da_cL_law_45 11 rfl)
theorem dL_law_1341 : decode cL_law 1341 = .ok (.iconst 4, 1) := fo_7 (fw_get da_cL_law_45 12 rfl)
theorem dL_law_1342 : decode cL_law 1342 = .ok (.iadd, 1) := fo_96 (fw_get da_cL_law_45 13 rfl)
theorem dL_law_1343 : decode cL_law 1343 = .ok (.iaload, 1) := fo_46 (fw_get da_cL_law_45 14 rfl)
theorem dL_law_1344 : decode cL_law 1344 = .ok (.aload_n 0, 1) := fo_42 (fw_get da_cL_law_45 15 rfl)
theorem dL_law_1345 : decode cL_law 1345 = .ok (.iload 4, 2) := fo_21 (fw_get da_cL_law_45 16 rfl)
theorem dL_law_1347 : decode cL_law 1347 = .ok (.iconst 5, 1) := fo_8 (fw_get da_cL_law_45 17 rfl)
theorem dL_law_1348 : decode cL_law 1348 = .ok (.iadd, 1) := fo_96 (fw_get da_cL_law_45 18 rfl)
theorem dL_law_1349 : decode cL_law 1349 = .ok (.iaload, 1) := fo_46 (fw_get da_cL_law_45 19 rfl)
def dt_cL_law_46 : List (Nat × Nat × Nat × Nat) := [(1350, 42, 0, 0), (1351, 21, 1, 4), (1353, 16, 1, 6), (1355, 96, 0, 0), (1356, 46, 0, 0), (1357, 182, 2, 141), (1360, 54, 1, 6), (1362, 167, 2, 926), (1365, 43, 0, 0), (1366, 42, 0, 0), (1367, 21, 1, 4), (1369, 4, 0, 0), (1370, 96, 0, 0), (1371, 46, 0, 0), (1372, 42, 0, 0), (1373, 21, 1, 4), (1375, 5, 0, 0), (1376, 96, 0, 0), (1377, 46, 0, 0), (1378, 42, 0, 0)]
theorem da_cL_law_46 : fw dt_cL_law_46 0 cL_law.data.toList = true := by decide +kernel
theorem dL_law_1350 : decode cL_law 1350 = .ok (.aload_n 0, 1) := fo_42 (fw_get da_cL_law_46 0 rfl)
theorem dL_law_1351 : decode cL_law 1351 = .ok (.iload 4, 2) := fo_21 (fw_get da_cL_law_46 1 rfl)
theorem dL_law_1353 : decode cL_law 1353 = .ok (.bipush 6, 2) := fo_16 (fw_get da_cL_law_46 2 rfl) (by decide +kernel)
theorem dL_law_1355 : decode cL_law 1355 = .ok (.iadd, 1) := fo_96 (fw_get da_cL_law_46 3 rfl)
theorem dL_law_1356 : decode cL_law 1356 = .ok (.iaload, 1) := fo_46 (fw_get da_cL_law_46 4 rfl)
theorem dL_law_1357 : decode cL_law 1357 = .ok (.invokevirtual 141, 3) := fo_182 (fw_get da_cL_law_46 5 rfl)
theorem dL_law_1360 : decode cL_law 1360 = .ok (.istore 6, 2) := fo_54 (fw_get da_cL_law_46 6 rfl)
theorem dL_law_1362 : decode cL_law 1362 = .ok (.goto 926, 3) := fo_167 (fw_get da_cL_law_46 7 rfl) (by decide +kernel)
theorem dL_law_1365 : decode cL_law 1365 = .ok (.aload_n 1, 1) := fo_43 (fw_get da_cL_law_46 8 rfl)
theorem dL_law_1366 : decode cL_law 1366 = .ok (.aload_n 0, 1) := fo_42 (fw_get da_cL_law_46 9 rfl)
theorem dL_law_1367 : decode cL_law 1367 = .ok (.iload 4, 2) := fo_21 (fw_get da_cL_law_46 10 rfl)
theorem dL_law_1369 : decode cL_law 1369 = .ok (.iconst 1, 1) := fo_4 (fw_get da_cL_law_46 11 rfl)
theorem dL_law_1370 : decode cL_law 1370 = .ok (.iadd, 1) := fo_96 (fw_get da_cL_law_46 12 rfl)
theorem dL_law_1371 : decode cL_law 1371 = .ok (.iaload, 1) := fo_46 (fw_get da_cL_law_46 13 rfl)
theorem dL_law_1372 : decode cL_law 1372 = .ok (.aload_n 0, 1) := fo_42 (fw_get da_cL_law_46 14 rfl)
theorem dL_law_1373 : decode cL_law 1373 = .ok (.iload 4, 2) := fo_21 (fw_get da_cL_law_46 15 rfl)
theorem dL_law_1375 : decode cL_law 1375 = .ok (.iconst 2, 1) := fo_5 (fw_get da_cL_law_46 16 rfl)
theorem dL_law_1376 : decode cL_law 1376 = .ok (.iadd, 1) := fo_96 (fw_get da_cL_law_46 17 rfl)
theorem dL_law_1377 : decode cL_law 1377 = .ok (.iaload, 1) := fo_46 (fw_get da_cL_law_46 18 rfl)
theorem dL_law_1378 : decode cL_law 1378 = .ok (.aload_n 0, 1) := fo_42 (fw_get da_cL_law_46 19 rfl)
def dt_cL_law_47 : List (Nat × Nat × Nat × Nat) := [(1379, 21, 1, 4), (1381, 6, 0, 0), (1382, 96, 0, 0), (1383, 46, 0, 0), (1384, 42, 0, 0), (1385, 21, 1, 4), (1387, 7, 0, 0), (1388, 96, 0, 0), (1389, 46, 0, 0), (1390, 182, 2, 142), (1393, 87, 0, 0), (1394, 44, 0, 0), (1395, 42, 0, 0), (1396, 21, 1, 4), (1398, 4, 0, 0), (1399, 96, 0, 0), (1400, 46, 0, 0), (1401, 42, 0, 0), (1402, 21, 1, 4), (1404, 5, 0, 0)]
theorem da_cL_law_47 : fw dt_cL_law_47 0 cL_law.data.toList = true := by decide +kernel
theorem dL_law_1379 : decode cL_law 1379 = .ok (.iload 4, 2) := fo_21 (fw_get da_cL_law_47 0 rfl)
theorem dL_law_1381 : decode cL_law 1381 = .ok (.iconst 3, 1) := fo_6 (fw_get da_cL_law_47 1 rfl)
theorem dL_law_1382 : decode cL_law 1382 = .ok (.iadd, 1) := fo_96 (fw_get da_cL_law_47 2 rfl)
theorem dL_law_1383 : decode cL_law 1383 = .ok (.iaload, 1) := fo_46 (fw_get da_cL_law_47 3 rfl)
theorem dL_law_1384 : decode cL_law 1384 = .ok (.aload_n 0, 1) := fo_42 (fw_get da_cL_law_47 4 rfl)
theorem dL_law_1385 : decode cL_law 1385 = .ok (.iload 4, 2) := fo_21 (fw_get da_cL_law_47 5 rfl)
theorem dL_law_1387 : decode cL_law 1387 = .ok (.iconst 4, 1) := fo_7 (fw_get da_cL_law_47 6 rfl)
theorem dL_law_1388 : decode cL_law 1388 = .ok (.iadd, 1) := fo_96 (fw_get da_cL_law_47 7 rfl)
theorem dL_law_1389 : decode cL_law 1389 = .ok (.iaload, 1) := fo_46 (fw_get da_cL_law_47 8 rfl)
theorem dL_law_1390 : decode cL_law 1390 = .ok (.invokevirtual 142, 3) := fo_182 (fw_get da_cL_law_47 9 rfl)
theorem dL_law_1393 : decode cL_law 1393 = .ok (.pop, 1) := fo_87 (fw_get da_cL_law_47 10 rfl)
theorem dL_law_1394 : decode cL_law 1394 = .ok (.aload_n 2, 1) := fo_44 (fw_get da_cL_law_47 11 rfl)
theorem dL_law_1395 : decode cL_law 1395 = .ok (.aload_n 0, 1) := fo_42 (fw_get da_cL_law_47 12 rfl)
theorem dL_law_1396 : decode cL_law 1396 = .ok (.iload 4, 2) := fo_21 (fw_get da_cL_law_47 13 rfl)
theorem dL_law_1398 : decode cL_law 1398 = .ok (.iconst 1, 1) := fo_4 (fw_get da_cL_law_47 14 rfl)
theorem dL_law_1399 : decode cL_law 1399 = .ok (.iadd, 1) := fo_96 (fw_get da_cL_law_47 15 rfl)
theorem dL_law_1400 : decode cL_law 1400 = .ok (.iaload, 1) := fo_46 (fw_get da_cL_law_47 16 rfl)
theorem dL_law_1401 : decode cL_law 1401 = .ok (.aload_n 0, 1) := fo_42 (fw_get da_cL_law_47 17 rfl)
theorem dL_law_1402 : decode cL_law 1402 = .ok (.iload 4, 2) := fo_21 (fw_get da_cL_law_47 18 rfl)
theorem dL_law_1404 : decode cL_law 1404 = .ok (.iconst 2, 1) := fo_5 (fw_get da_cL_law_47 19 rfl)
def dt_cL_law_48 : List (Nat × Nat × Nat × Nat) := [(1405, 96, 0, 0), (1406, 46, 0, 0), (1407, 42, 0, 0), (1408, 21, 1, 4), (1410, 6, 0, 0), (1411, 96, 0, 0), (1412, 46, 0, 0), (1413, 42, 0, 0), (1414, 21, 1, 4), (1416, 7, 0, 0)]
theorem da_cL_law_48 : fw dt_cL_law_48 0 cL_law.data.toList = true := by decide +kernel
theorem dL_law_1405 : decode cL_law 1405 = .ok (.iadd, 1) := fo_96 (fw_get da_cL_law_48 0 rfl)
theorem dL_law_1406 : decode cL_law 1406 = .ok (.iaload, 1) := fo_46 (fw_get da_cL_law_48 1 rfl)
theorem dL_law_1407 : decode cL_law 1407 = .ok (.aload_n 0, 1) := fo_42 (fw_get da_cL_law_48 2 rfl)
theorem dL_law_1408 : decode cL_law 1408 = .ok (.iload 4, 2) := fo_21 (fw_get da_cL_law_48 3 rfl)
theorem dL_law_1410 : decode cL_law 1410 = .ok (.iconst 3, 1) := fo_6 (fw_get da_cL_law_48 4 rfl)
theorem dL_law_1411 : decode cL_law 1411 = .ok (.iadd, 1) := fo_96 (fw_get da_cL_law_48 5 rfl)
theorem dL_law_1412 : decode cL_law 1412 = .ok (.iaload, 1) := fo_46 (fw_get da_cL_law_48 6 rfl)
theorem dL_law_1413 : decode cL_law 1413 = .ok (.aload_n 0, 1) := fo_42 (fw_get da_cL_law_48 7 rfl)
theorem dL_law_1414 : decode cL_law 1414 = .ok (.iload 4, 2) := fo_21 (fw_get da_cL_law_48 8 rfl)
theorem dL_law_1416 : decode cL_law 1416 = .ok (.iconst 4, 1) := fo_7 (fw_get da_cL_law_48 9 rfl)


def dt_cL_law_49 : List (Nat × Nat × Nat × Nat) := [(1417, 96, 0, 0), (1418, 46, 0, 0), (1419, 182, 2, 145), (1422, 87, 0, 0), (1423, 167, 2, 865), (1426, 43, 0, 0), (1427, 42, 0, 0), (1428, 21, 1, 4), (1430, 4, 0, 0), (1431, 96, 0, 0), (1432, 46, 0, 0), (1433, 42, 0, 0), (1434, 21, 1, 4), (1436, 5, 0, 0), (1437, 96, 0, 0), (1438, 46, 0, 0), (1439, 42, 0, 0), (1440, 21, 1, 4), (1442, 6, 0, 0), (1443, 96, 0, 0)]
theorem da_cL_law_49 : fw dt_cL_law_49 0 cL_law.data.toList = true := by decide +kernel
theorem dL_law_1417 : decode cL_law 1417 = .ok (.iadd, 1) := fo_96 (fw_get da_cL_law_49 0 rfl)
theorem dL_law_1418 : decode cL_law 1418 = .ok (.iaload, 1) := fo_46 (fw_get da_cL_law_49 1 rfl)
theorem dL_law_1419 : decode cL_law 1419 = .ok (.invokevirtual 145, 3) := fo_182 (fw_get da_cL_law_49 2 rfl)
theorem dL_law_1422 : decode cL_law 1422 = .ok (.pop, 1) := fo_87 (fw_get da_cL_law_49 3 rfl)
theorem dL_law_1423 : decode cL_law 1423 = .ok (.goto 865, 3) := fo_167 (fw_get da_cL_law_49 4 rfl) (by decide +kernel)
theorem dL_law_1426 : decode cL_law 1426 = .ok (.aload_n 1, 1) := fo_43 (fw_get da_cL_law_49 5 rfl)
theorem dL_law_1427 : decode cL_law 1427 = .ok (.aload_n 0, 1) := fo_42 (fw_get da_cL_law_49 6 rfl)
theorem dL_law_1428 : decode cL_law 1428 = .ok (.iload 4, 2) := fo_21 (fw_get da_cL_law_49 7 rfl)
theorem dL_law_1430 : decode cL_law 1430 = .ok (.iconst 1, 1) := fo_4 (fw_get da_cL_law_49 8 rfl)
theorem dL_law_1431 : decode cL_law 1431 = .ok (.iadd, 1) := fo_96 (fw_get da_cL_law_49 9 rfl)
theorem dL_law_1432 : decode cL_law 1432 = .ok (.iaload, 1) := fo_46 (fw_get da_cL_law_49 10 rfl)
theorem dL_law_1433 : decode cL_law 1433 = .ok (.aload_n 0, 1) := fo_42 (fw_get da_cL_law_49 11 rfl)
theorem dL_law_1434 : decode cL_law 1434 = .ok (.iload 4, 2) := fo_21 (fw_get da_cL_law_49 12 rfl)
theorem dL_law_1436 : decode cL_law 1436 = .ok (.iconst 2, 1) := fo_5 (fw_get da_cL_law_49 13 rfl)
theorem dL_law_1437 : decode cL_law 1437 = .ok (.iadd, 1) := fo_96 (fw_get da_cL_law_49 14 rfl)
theorem dL_law_1438 : decode cL_law 1438 = .ok (.iaload, 1) := fo_46 (fw_get da_cL_law_49 15 rfl)
theorem dL_law_1439 : decode cL_law 1439 = .ok (.aload_n 0, 1) := fo_42 (fw_get da_cL_law_49 16 rfl)
theorem dL_law_1440 : decode cL_law 1440 = .ok (.iload 4, 2) := fo_21 (fw_get da_cL_law_49 17 rfl)
theorem dL_law_1442 : decode cL_law 1442 = .ok (.iconst 3, 1) := fo_6 (fw_get da_cL_law_49 18 rfl)
theorem dL_law_1443 : decode cL_law 1443 = .ok (.iadd, 1) := fo_96 (fw_get da_cL_law_49 19 rfl)
def dt_cL_law_50 : List (Nat × Nat × Nat × Nat) := [(1444, 46, 0, 0), (1445, 42, 0, 0), (1446, 21, 1, 4), (1448, 7, 0, 0), (1449, 96, 0, 0), (1450, 46, 0, 0), (1451, 182, 2, 146), (1454, 87, 0, 0), (1455, 44, 0, 0), (1456, 42, 0, 0), (1457, 21, 1, 4), (1459, 4, 0, 0), (1460, 96, 0, 0), (1461, 46, 0, 0), (1462, 42, 0, 0), (1463, 21, 1, 4), (1465, 5, 0, 0), (1466, 96, 0, 0), (1467, 46, 0, 0), (1468, 42, 0, 0)]
theorem da_cL_law_50 : fw dt_cL_law_50 0 cL_law.data.toList = true := by decide +kernel
theorem dL_law_1444 : decode cL_law 1444 = .ok (.iaload, 1) := fo_46 (fw_get da_cL_law_50 0 rfl)
theorem dL_law_1445 : decode cL_law 1445 = .ok (.aload_n 0, 1) := fo_42 (fw_get da_cL_law_50 1 rfl)
theorem dL_law_1446 : decode cL_law 1446 = .ok (.iload 4, 2) := fo_21 (fw_get da_cL_law_50 2 rfl)
theorem dL_law_1448 : decode cL_law 1448 = .ok (.iconst 4, 1) := fo_7 (fw_get da_cL_law_50 3 rfl)
theorem dL_law_1449 : decode cL_law 1449 = .ok (.iadd, 1) := fo_96 (fw_get da_cL_law_50 4 rfl)
theorem dL_law_1450 : decode cL_law 1450 = .ok (.iaload, 1) := fo_46 (fw_get da_cL_law_50 5 rfl)
theorem dL_law_1451 : decode cL_law 1451 = .ok (.invokevirtual 146, 3) := fo_182 (fw_get da_cL_law_50 6 rfl)
theorem dL_law_1454 : decode cL_law 1454 = .ok (.pop, 1) := fo_87 (fw_get da_cL_law_50 7 rfl)
theorem dL_law_1455 : decode cL_law 1455 = .ok (.aload_n 2, 1) := fo_44 (fw_get da_cL_law_50 8 rfl)
theorem dL_law_1456 : decode cL_law 1456 = .ok (.aload_n 0, 1) := fo_42 (fw_get da_cL_law_50 9 rfl)
theorem dL_law_1457 : decode cL_law 1457 = .ok (.iload 4, 2) := fo_21 (fw_get da_cL_law_50 10 rfl)
theorem dL_law_1459 : decode cL_law 1459 = .ok (.iconst 1, 1) := fo_4 (fw_get da_cL_law_50 11 rfl)
theorem dL_law_1460 : decode cL_law 1460 = .ok (.iadd, 1) := fo_96 (fw_get da_cL_law_50 12 rfl)
theorem dL_law_1461 : decode cL_law 1461 = .ok (.iaload, 1) := fo_46 (fw_get da_cL_law_50 13 rfl)
theorem dL_law_1462 : decode cL_law 1462 = .ok (.aload_n 0, 1) := fo_42 (fw_get da_cL_law_50 14 rfl)
theorem dL_law_1463 : decode cL_law 1463 = .ok (.iload 4, 2) := fo_21 (fw_get da_cL_law_50 15 rfl)
theorem dL_law_1465 : decode cL_law 1465 = .ok (.iconst 2, 1) := fo_5 (fw_get da_cL_law_50 16 rfl)
theorem dL_law_1466 : decode cL_law 1466 = .ok (.iadd, 1) := fo_96 (fw_get da_cL_law_50 17 rfl)
theorem dL_law_1467 : decode cL_law 1467 = .ok (.iaload, 1) := fo_46 (fw_get da_cL_law_50 18 rfl)
theorem dL_law_1468 : decode cL_law 1468 = .ok (.aload_n 0, 1) := fo_42 (fw_get da_cL_law_50 19 rfl)
def dt_cL_law_51 : List (Nat × Nat × Nat × Nat) := [(1469, 21, 1, 4), (1471, 6, 0, 0), (1472, 96, 0, 0), (1473, 46, 0, 0), (1474, 42, 0, 0), (1475, 21, 1, 4), (1477, 7, 0, 0), (1478, 96, 0, 0), (1479, 46, 0, 0), (1480, 182, 2, 149), (1483, 87, 0, 0), (1484, 167, 2, 804), (1487, 43, 0, 0), (1488, 42, 0, 0), (1489, 21, 1, 4), (1491, 4, 0, 0), (1492, 96, 0, 0), (1493, 46, 0, 0), (1494, 42, 0, 0), (1495, 21, 1, 4)]
theorem da_cL_law_51 : fw dt_cL_law_51 0 cL_law.data.toList = true := by decide +kernel
theorem dL_law_1469 : decode cL_law 1469 = .ok (.iload 4, 2) := fo_21 (fw_get da_cL_law_51 0 rfl)
theorem dL_law_1471 : decode cL_law 1471 = .ok (.iconst 3, 1) := fo_6 (fw_get da_cL_law_51 1 rfl)
theorem dL_law_1472 : decode cL_law 1472 = .ok (.iadd, 1) := fo_96 (fw_get da_cL_law_51 2 rfl)
theorem dL_law_1473 : decode cL_law 1473 = .ok (.iaload, 1) := fo_46 (fw_get da_cL_law_51 3 rfl)
theorem dL_law_1474 : decode cL_law 1474 = .ok (.aload_n 0, 1) := fo_42 (fw_get da_cL_law_51 4 rfl)
theorem dL_law_1475 : decode cL_law 1475 = .ok (.iload 4, 2) := fo_21 (fw_get da_cL_law_51 5 rfl)
theorem dL_law_1477 : decode cL_law 1477 = .ok (.iconst 4, 1) := fo_7 (fw_get da_cL_law_51 6 rfl)
theorem dL_law_1478 : decode cL_law 1478 = .ok (.iadd, 1) := fo_96 (fw_get da_cL_law_51 7 rfl)
theorem dL_law_1479 : decode cL_law 1479 = .ok (.iaload, 1) := fo_46 (fw_get da_cL_law_51 8 rfl)
theorem dL_law_1480 : decode cL_law 1480 = .ok (.invokevirtual 149, 3) := fo_182 (fw_get da_cL_law_51 9 rfl)
theorem dL_law_1483 : decode cL_law 1483 = .ok (.pop, 1) := fo_87 (fw_get da_cL_law_51 10 rfl)
theorem dL_law_1484 : decode cL_law 1484 = .ok (.goto 804, 3) := fo_167 (fw_get da_cL_law_51 11 rfl) (by decide +kernel)
theorem dL_law_1487 : decode cL_law 1487 = .ok (.aload_n 1, 1) := fo_43 (fw_get da_cL_law_51 12 rfl)
theorem dL_law_1488 : decode cL_law 1488 = .ok (.aload_n 0, 1) := fo_42 (fw_get da_cL_law_51 13 rfl)
theorem dL_law_1489 : decode cL_law 1489 = .ok (.iload 4, 2) := fo_21 (fw_get da_cL_law_51 14 rfl)
theorem dL_law_1491 : decode cL_law 1491 = .ok (.iconst 1, 1) := fo_4 (fw_get da_cL_law_51 15 rfl)
theorem dL_law_1492 : decode cL_law 1492 = .ok (.iadd, 1) := fo_96 (fw_get da_cL_law_51 16 rfl)
theorem dL_law_1493 : decode cL_law 1493 = .ok (.iaload, 1) := fo_46 (fw_get da_cL_law_51 17 rfl)
theorem dL_law_1494 : decode cL_law 1494 = .ok (.aload_n 0, 1) := fo_42 (fw_get da_cL_law_51 18 rfl)
theorem dL_law_1495 : decode cL_law 1495 = .ok (.iload 4, 2) := fo_21 (fw_get da_cL_law_51 19 rfl)
def dt_cL_law_52 : List (Nat × Nat × Nat × Nat) := [(1497, 5, 0, 0), (1498, 96, 0, 0), (1499, 46, 0, 0), (1500, 182, 2, 150), (1503, 87, 0, 0), (1504, 44, 0, 0), (1505, 42, 0, 0), (1506, 21, 1, 4), (1508, 4, 0, 0), (1509, 96, 0, 0), (1510, 46, 0, 0), (1511, 42, 0, 0), (1512, 21, 1, 4), (1514, 5, 0, 0), (1515, 96, 0, 0), (1516, 46, 0, 0), (1517, 182, 2, 153), (1520, 87, 0, 0), (1521, 167, 2, 767), (1524, 43, 0, 0)]
theorem da_cL_law_52 : fw dt_cL_law_52 0 cL_law.data.toList = true := by decide +kernel
theorem dL_law_1497 : decode cL_law 1497 = .ok (.iconst 2, 1) := fo_5 (fw_get da_cL_law_52 0 rfl)
theorem dL_law_1498 : decode cL_law 1498 = .ok (.iadd, 1) := fo_96 (fw_get da_cL_law_52 1 rfl)
theorem dL_law_1499 : decode cL_law 1499 = .ok (.iaload, 1) := fo_46 (fw_get da_cL_law_52 2 rfl)
theorem dL_law_1500 : decode cL_law 1500 = .ok (.invokevirtual 150, 3) := fo_182 (fw_get da_cL_law_52 3 rfl)
theorem dL_law_1503 : decode cL_law 1503 = .ok (.pop, 1) := fo_87 (fw_get da_cL_law_52 4 rfl)
theorem dL_law_1504 : decode cL_law 1504 = .ok (.aload_n 2, 1) := fo_44 (fw_get da_cL_law_52 5 rfl)
theorem dL_law_1505 : decode cL_law 1505 = .ok (.aload_n 0, 1) := fo_42 (fw_get da_cL_law_52 6 rfl)
theorem dL_law_1506 : decode cL_law 1506 = .ok (.iload 4, 2) := fo_21 (fw_get da_cL_law_52 7 rfl)
theorem dL_law_1508 : decode cL_law 1508 = .ok (.iconst 1, 1) := fo_4 (fw_get da_cL_law_52 8 rfl)
theorem dL_law_1509 : decode cL_law 1509 = .ok (.iadd, 1) := fo_96 (fw_get da_cL_law_52 9 rfl)
theorem dL_law_1510 : decode cL_law 1510 = .ok (.iaload, 1) := fo_46 (fw_get da_cL_law_52 10 rfl)
theorem dL_law_1511 : decode cL_law 1511 = .ok (.aload_n 0, 1) := fo_42 (fw_get da_cL_law_52 11 rfl)
theorem dL_law_1512 : decode cL_law 1512 = .ok (.iload 4, 2) := fo_21 (fw_get da_cL_law_52 12 rfl)
theorem dL_law_1514 : decode cL_law 1514 = .ok (.iconst 2, 1) := fo_5 (fw_get da_cL_law_52 13 rfl)
theorem dL_law_1515 : decode cL_law 1515 = .ok (.iadd, 1) := fo_96 (fw_get da_cL_law_52 14 rfl)
theorem dL_law_1516 : decode cL_law 1516 = .ok (.iaload, 1) := fo_46 (fw_get da_cL_law_52 15 rfl)
theorem dL_law_1517 : decode cL_law 1517 = .ok (.invokevirtual 153, 3) := fo_182 (fw_get da_cL_law_52 16 rfl)
theorem dL_law_1520 : decode cL_law 1520 = .ok (.pop, 1) := fo_87 (fw_get da_cL_law_52 17 rfl)
theorem dL_law_1521 : decode cL_law 1521 = .ok (.goto 767, 3) := fo_167 (fw_get da_cL_law_52 18 rfl) (by decide +kernel)
theorem dL_law_1524 : decode cL_law 1524 = .ok (.aload_n 1, 1) := fo_43 (fw_get da_cL_law_52 19 rfl)
def dt_cL_law_53 : List (Nat × Nat × Nat × Nat) := [(1525, 42, 0, 0), (1526, 21, 1, 4), (1528, 4, 0, 0), (1529, 96, 0, 0), (1530, 46, 0, 0), (1531, 42, 0, 0), (1532, 21, 1, 4), (1534, 5, 0, 0), (1535, 96, 0, 0), (1536, 46, 0, 0), (1537, 42, 0, 0), (1538, 21, 1, 4), (1540, 6, 0, 0), (1541, 96, 0, 0), (1542, 46, 0, 0), (1543, 182, 2, 154), (1546, 87, 0, 0), (1547, 44, 0, 0), (1548, 42, 0, 0), (1549, 21, 1, 4)]
theorem da_cL_law_53 : fw dt_cL_law_53 0 cL_law.data.toList = true := by decide +kernel
theorem dL_law_1525 : decode cL_law 1525 = .ok (.aload_n 0, 1) := fo_42 (fw_get da_cL_law_53 0 rfl)
theorem dL_law_1526 : decode cL_law 1526 = .ok (.iload 4, 2) := fo_21 (fw_get da_cL_law_53 1 rfl)
theorem dL_law_1528 : decode cL_law 1528 = .ok (.iconst 1, 1) := fo_4 (fw_get da_cL_law_53 2 rfl)
theorem dL_law_1529 : decode cL_law 1529 = .ok (.iadd, 1) := fo_96 (fw_get da_cL_law_53 3 rfl)
theorem dL_law_1530 : decode cL_law 1530 = .ok (.iaload, 1) := fo_46 (fw_get da_cL_law_53 4 rfl)
theorem dL_law_1531 : decode cL_law 1531 = .ok (.aload_n 0, 1) := fo_42 (fw_get da_cL_law_53 5 rfl)
theorem dL_law_1532 : decode cL_law 1532 = .ok (.iload 4, 2) := fo_21 (fw_get da_cL_law_53 6 rfl)
theorem dL_law_1534 : decode cL_law 1534 = .ok (.iconst 2, 1) := fo_5 (fw_get da_cL_law_53 7 rfl)
theorem dL_law_1535 : decode cL_law 1535 = .ok (.iadd, 1) := fo_96 (fw_get da_cL_law_53 8 rfl)
theorem dL_law_1536 : decode cL_law 1536 = .ok (.iaload, 1) := fo_46 (fw_get da_cL_law_53 9 rfl)
theorem dL_law_1537 : decode cL_law 1537 = .ok (.aload_n 0, 1) := fo_42 (fw_get da_cL_law_53 10 rfl)
theorem dL_law_1538 : decode cL_law 1538 = .ok (.iload 4, 2) := fo_21 (fw_get da_cL_law_53 11 rfl)
theorem dL_law_1540 : decode cL_law 1540 = .ok (.iconst 3, 1) := fo_6 (fw_get da_cL_law_53 12 rfl)
theorem dL_law_1541 : decode cL_law 1541 = .ok (.iadd, 1) := fo_96 (fw_get da_cL_law_53 13 rfl)
theorem dL_law_1542 : decode cL_law 1542 = .ok (.iaload, 1) := fo_46 (fw_get da_cL_law_53 14 rfl)
theorem dL_law_1543 : decode cL_law 1543 = .ok (.invokevirtual 154, 3) := fo_182 (fw_get da_cL_law_53 15 rfl)
theorem dL_law_1546 : decode cL_law 1546 = .ok (.pop, 1) := fo_87 (fw_get da_cL_law_53 16 rfl)
theorem dL_law_1547 : decode cL_law 1547 = .ok (.aload_n 2, 1) := fo_44 (fw_get da_cL_law_53 17 rfl)
theorem dL_law_1548 : decode cL_law 1548 = .ok (.aload_n 0, 1) := fo_42 (fw_get da_cL_law_53 18 rfl)
theorem dL_law_1549 : decode cL_law 1549 = .ok (.iload 4, 2) := fo_21 (fw_get da_cL_law_53 19 rfl)
def dt_cL_law_54 : List (Nat × Nat × Nat × Nat) := [(1551, 4, 0, 0), (1552, 96, 0, 0), (1553, 46, 0, 0), (1554, 42, 0, 0), (1555, 21, 1, 4), (1557, 5, 0, 0), (1558, 96, 0, 0), (1559, 46, 0, 0), (1560, 42, 0, 0), (1561, 21, 1, 4), (1563, 6, 0, 0), (1564, 96, 0, 0), (1565, 46, 0, 0), (1566, 182, 2, 157), (1569, 87, 0, 0), (1570, 167, 2, 718), (1573, 43, 0, 0), (1574, 42, 0, 0), (1575, 21, 1, 4), (1577, 4, 0, 0)]
theorem da_cL_law_54 : fw dt_cL_law_54 0 cL_law.data.toList = true := by decide +kernel
theorem dL_law_1551 : decode cL_law 1551 = .ok (.iconst 1, 1) := fo_4 (fw_get da_cL_law_54 0 rfl)
theorem dL_law_1552 : decode cL_law 1552 = .ok (.iadd, 1) := fo_96 (fw_get da_cL_law_54 1 rfl)
theorem dL_law_1553 : decode cL_law 1553 = .ok (.iaload, 1) := fo_46 (fw_get da_cL_law_54 2 rfl)
theorem dL_law_1554 : decode cL_law 1554 = .ok (.aload_n 0, 1) := fo_42 (fw_get da_cL_law_54 3 rfl)
theorem dL_law_1555 : decode cL_law 1555 = .ok (.iload 4, 2) := fo_21 (fw_get da_cL_law_54 4 rfl)
theorem dL_law_1557 : decode cL_law 1557 = .ok (.iconst 2, 1) := fo_5 (fw_get da_cL_law_54 5 rfl)
theorem dL_law_1558 : decode cL_law 1558 = .ok (.iadd, 1) := fo_96 (fw_get da_cL_law_54 6 rfl)
theorem dL_law_1559 : decode cL_law 1559 = .ok (.iaload, 1) := fo_46 (fw_get da_cL_law_54 7 rfl)
theorem dL_law_1560 : decode cL_law 1560 = .ok (.aload_n 0, 1) := fo_42 (fw_get da_cL_law_54 8 rfl)
theorem dL_law_1561 : decode cL_law 1561 = .ok (.iload 4, 2) := fo_21 (fw_get da_cL_law_54 9 rfl)
theorem dL_law_1563 : decode cL_law 1563 = .ok (.iconst 3, 1) := fo_6 (fw_get da_cL_law_54 10 rfl)
theorem dL_law_1564 : decode cL_law 1564 = .ok (.iadd, 1) := fo_96 (fw_get da_cL_law_54 11 rfl)
theorem dL_law_1565 : decode cL_law 1565 = .ok (.iaload, 1) := fo_46 (fw_get da_cL_law_54 12 rfl)
theorem dL_law_1566 : decode cL_law 1566 = .ok (.invokevirtual 157, 3) := fo_182 (fw_get da_cL_law_54 13 rfl)
theorem dL_law_1569 : decode cL_law 1569 = .ok (.pop, 1) := fo_87 (fw_get da_cL_law_54 14 rfl)
theorem dL_law_1570 : decode cL_law 1570 = .ok (.goto 718, 3) := fo_167 (fw_get da_cL_law_54 15 rfl) (by decide +kernel)
theorem dL_law_1573 : decode cL_law 1573 = .ok (.aload_n 1, 1) := fo_43 (fw_get da_cL_law_54 16 rfl)
theorem dL_law_1574 : decode cL_law 1574 = .ok (.aload_n 0, 1) := fo_42 (fw_get da_cL_law_54 17 rfl)
theorem dL_law_1575 : decode cL_law 1575 = .ok (.iload 4, 2) := fo_21 (fw_get da_cL_law_54 18 rfl)
theorem dL_law_1577 : decode cL_law 1577 = .ok (.iconst 1, 1) := fo_4 (fw_get da_cL_law_54 19 rfl)
def dt_cL_law_55 : List (Nat × Nat × Nat × Nat) := [(1578, 96, 0, 0), (1579, 46, 0, 0), (1580, 42, 0, 0), (1581, 21, 1, 4), (1583, 5, 0, 0), (1584, 96, 0, 0), (1585, 46, 0, 0), (1586, 42, 0, 0), (1587, 21, 1, 4), (1589, 6, 0, 0), (1590, 96, 0, 0), (1591, 46, 0, 0), (1592, 42, 0, 0), (1593, 21, 1, 4), (1595, 7, 0, 0), (1596, 96, 0, 0), (1597, 46, 0, 0), (1598, 42, 0, 0), (1599, 21, 1, 4), (1601, 8, 0, 0)]
theorem da_cL_law_55 : fw dt_cL_law_55 0 cL_law.data.toList = true := by decide +kernel
theorem dL_law_1578 : decode cL_law 1578 = .ok (.iadd, 1) := fo_96 (fw_get da_cL_law_55 0 rfl)
theorem dL_law_1579 : decode cL_law 1579 = .ok (.iaload, 1) := fo_46 (fw_get da_cL_law_55 1 rfl)
theorem dL_law_1580 : decode cL_law 1580 = .ok (.aload_n 0, 1) := fo_42 (fw_get da_cL_law_55 2 rfl)
theorem dL_law_1581 : decode cL_law 1581 = .ok (.iload 4, 2) := fo_21 (fw_get da_cL_law_55 3 rfl)
theorem dL_law_1583 : decode cL_law 1583 = .ok (.iconst 2, 1) := fo_5 (fw_get da_cL_law_55 4 rfl)
theorem dL_law_1584 : decode cL_law 1584 = .ok (.iadd, 1) := fo_96 (fw_get da_cL_law_55 5 rfl)
theorem dL_law_1585 : decode cL_law 1585 = .ok (.iaload, 1) := fo_46 (fw_get da_cL_law_55 6 rfl)
theorem dL_law_1586 : decode cL_law 1586 = .ok (.aload_n 0, 1) := fo_42 (fw_get da_cL_law_55 7 rfl)
theorem dL_law_1587 : decode cL_law 1587 = .ok (.iload 4, 2) := fo_21 (fw_get da_cL_law_55 8 rfl)
theorem dL_law_1589 : decode cL_law 1589 = .ok (.iconst 3, 1) := fo_6 (fw_get da_cL_law_55 9 rfl)
theorem dL_law_1590 : decode cL_law 1590 = .ok (.iadd, 1) := fo_96 (fw_get da_cL_law_55 10 rfl)
theorem dL_law_1591 : decode cL_law 1591 = .ok (.iaload, 1) := fo_46 (fw_get da_cL_law_55 11 rfl)
theorem dL_law_1592 : decode cL_law 1592 = .ok (.aload_n 0, 1) := fo_42 (fw_get da_cL_law_55 12 rfl)
theorem dL_law_1593 : decode cL_law 1593 = .ok (.iload 4, 2) := fo_21 (fw_get da_cL_law_55 13 rfl)
theorem dL_law_1595 : decode cL_law 1595 = .ok (.iconst 4, 1) := fo_7 (fw_get da_cL_law_55 14 rfl)
theorem dL_law_1596 : decode cL_law 1596 = .ok (.iadd, 1) := fo_96 (fw_get da_cL_law_55 15 rfl)
theorem dL_law_1597 : decode cL_law 1597 = .ok (.iaload, 1) := fo_46 (fw_get da_cL_law_55 16 rfl)
theorem dL_law_1598 : decode cL_law 1598 = .ok (.aload_n 0, 1) := fo_42 (fw_get da_cL_law_55 17 rfl)
theorem dL_law_1599 : decode cL_law 1599 = .ok (.iload 4, 2) := fo_21 (fw_get da_cL_law_55 18 rfl)
theorem dL_law_1601 : decode cL_law 1601 = .ok (.iconst 5, 1) := fo_8 (fw_get da_cL_law_55 19 rfl)
def dt_cL_law_56 : List (Nat × Nat × Nat × Nat) := [(1602, 96, 0, 0), (1603, 46, 0, 0), (1604, 42, 0, 0), (1605, 21, 1, 4), (1607, 16, 1, 6), (1609, 96, 0, 0), (1610, 46, 0, 0), (1611, 182, 2, 158), (1614, 87, 0, 0), (1615, 44, 0, 0)]
theorem da_cL_law_56 : fw dt_cL_law_56 0 cL_law.data.toList = true := by decide +kernel
theorem dL_law_1602 : decode cL_law 1602 = .ok (.iadd, 1) := fo_96 (fw_get da_cL_law_56 0 rfl)
theorem dL_law_1603 : decode cL_law 1603 = .ok (.iaload, 1) := fo_46 (fw_get da_cL_law_56 1 rfl)
theorem dL_law_1604 : decode cL_law 1604 = .ok (.aload_n 0, 1) := fo_42 (fw_get da_cL_law_56 2 rfl)
theorem dL_law_1605 : decode cL_law 1605 = .ok (.iload 4, 2) := fo_21 (fw_get da_cL_law_56 3 rfl)
theorem dL_law_1607 : decode cL_law 1607 = .ok (.bipush 6, 2) := fo_16 (fw_get da_cL_law_56 4 rfl) (by decide +kernel)
theorem dL_law_1609 : decode cL_law 1609 = .ok (.iadd, 1) := fo_96 (fw_get da_cL_law_56 5 rfl)
theorem dL_law_1610 : decode cL_law 1610 = .ok (.iaload, 1) := fo_46 (fw_get da_cL_law_56 6 rfl)
theorem dL_law_1611 : decode cL_law 1611 = .ok (.invokevirtual 158, 3) := fo_182 (fw_get da_cL_law_56 7 rfl)
theorem dL_law_1614 : decode cL_law 1614 = .ok (.pop, 1) := fo_87 (fw_get da_cL_law_56 8 rfl)
theorem dL_law_1615 : decode cL_law 1615 = .ok (.aload_n 2, 1) := fo_44 (fw_get da_cL_law_56 9 rfl)


def dt_cL_law_57 : List (Nat × Nat × Nat × Nat) := [(1616, 42, 0, 0), (1617, 21, 1, 4), (1619, 4, 0, 0), (1620, 96, 0, 0), (1621, 46, 0, 0), (1622, 42, 0, 0), (1623, 21, 1, 4), (1625, 5, 0, 0), (1626, 96, 0, 0), (1627, 46, 0, 0), (1628, 42, 0, 0), (1629, 21, 1, 4), (1631, 6, 0, 0), (1632, 96, 0, 0), (1633, 46, 0, 0), (1634, 42, 0, 0), (1635, 21, 1, 4), (1637, 7, 0, 0), (1638, 96, 0, 0), (1639, 46, 0, 0)]
theorem da_cL_law_57 : fw dt_cL_law_57 0 cL_law.data.toList = true := by decide +kernel
theorem dL_law_1616 : decode cL_law 1616 = .ok (.aload_n 0, 1) := fo_42 (fw_get da_cL_law_57 0 rfl)
theorem dL_law_1617 : decode cL_law 1617 = .ok (.iload 4, 2) := fo_21 (fw_get da_cL_law_57 1 rfl)
theorem dL_law_1619 : decode cL_law 1619 = .ok (.iconst 1, 1) := fo_4 (fw_get da_cL_law_57 2 rfl)
theorem dL_law_1620 : decode cL_law 1620 = .ok (.iadd, 1) := fo_96 (fw_get da_cL_law_57 3 rfl)
theorem dL_law_1621 : decode cL_law 1621 = .ok (.iaload, 1) := fo_46 (fw_get da_cL_law_57 4 rfl)
theorem dL_law_1622 : decode cL_law 1622 = .ok (.aload_n 0, 1) := fo_42 (fw_get da_cL_law_57 5 rfl)
theorem dL_law_1623 : decode cL_law 1623 = .ok (.iload 4, 2) := fo_21 (fw_get da_cL_law_57 6 rfl)
theorem dL_law_1625 : decode cL_law 1625 = .ok (.iconst 2, 1) := fo_5 (fw_get da_cL_law_57 7 rfl)
theorem dL_law_1626 : decode cL_law 1626 = .ok (.iadd, 1) := fo_96 (fw_get da_cL_law_57 8 rfl)
theorem dL_law_1627 : decode cL_law 1627 = .ok (.iaload, 1) := fo_46 (fw_get da_cL_law_57 9 rfl)
theorem dL_law_1628 : decode cL_law 1628 = .ok (.aload_n 0, 1) := fo_42 (fw_get da_cL_law_57 10 rfl)
theorem dL_law_1629 : decode cL_law 1629 = .ok (.iload 4, 2) := fo_21 (fw_get da_cL_law_57 11 rfl)
theorem dL_law_1631 : decode cL_law 1631 = .ok (.iconst 3, 1) := fo_6 (fw_get da_cL_law_57 12 rfl)
theorem dL_law_1632 : decode cL_law 1632 = .ok (.iadd, 1) := fo_96 (fw_get da_cL_law_57 13 rfl)
theorem dL_law_1633 : decode cL_law 1633 = .ok (.iaload, 1) := fo_46 (fw_get da_cL_law_57 14 rfl)
theorem dL_law_1634 : decode cL_law 1634 = .ok (.aload_n 0, 1) := fo_42 (fw_get da_cL_law_57 15 rfl)
theorem dL_law_1635 : decode cL_law 1635 = .ok (.iload 4, 2) := fo_21 (fw_get da_cL_law_57 16 rfl)
theorem dL_law_1637 : decode cL_law 1637 = .ok (.iconst 4, 1) := fo_7 (fw_get da_cL_law_57 17 rfl)
theorem dL_law_1638 : decode cL_law 1638 = .ok (.iadd, 1) := fo_96 (fw_get da_cL_law_57 18 rfl)
theorem dL_law_1639 : decode cL_law 1639 = .ok (.iaload, 1) := fo_46 (fw_get da_cL_law_57 19 rfl)
def dt_cL_law_58 : List (Nat × Nat × Nat × Nat) := [(1640, 42, 0, 0), (1641, 21, 1, 4), (1643, 8, 0, 0), (1644, 96, 0, 0), (1645, 46, 0, 0), (1646, 42, 0, 0), (1647, 21, 1, 4), (1649, 16, 1, 6), (1651, 96, 0, 0), (1652, 46, 0, 0), (1653, 182, 2, 161), (1656, 87, 0, 0), (1657, 167, 2, 631), (1660, 43, 0, 0), (1661, 42, 0, 0), (1662, 21, 1, 4), (1664, 4, 0, 0), (1665, 96, 0, 0), (1666, 46, 0, 0), (1667, 42, 0, 0)]
theorem da_cL_law_58 : fw dt_cL_law_58 0 cL_law.data.toList = true := by decide +kernel
theorem dL_law_1640 : decode cL_law 1640 = .ok (.aload_n 0, 1) := fo_42 (fw_get da_cL_law_58 0 rfl)
theorem dL_law_1641 : decode cL_law 1641 = .ok (.iload 4, 2) := fo_21 (fw_get da_cL_law_58 1 rfl)
theorem dL_law_1643 : decode cL_law 1643 = .ok (.iconst 5, 1) := fo_8 (fw_get da_cL_law_58 2 rfl)
theorem dL_law_1644 : decode cL_law 1644 = .ok (.iadd, 1) := fo_96 (fw_get da_cL_law_58 3 rfl)
theorem dL_law_1645 : decode cL_law 1645 = .ok (.iaload, 1) := fo_46 (fw_get da_cL_law_58 4 rfl)
theorem dL_law_1646 : decode cL_law 1646 = .ok (.aload_n 0, 1) := fo_42 (fw_get da_cL_law_58 5 rfl)
theorem dL_law_1647 : decode cL_law 1647 = .ok (.iload 4, 2) := fo_21 (fw_get da_cL_law_58 6 rfl)
theorem dL_law_1649 : decode cL_law 1649 = .ok (.bipush 6, 2) := fo_16 (fw_get da_cL_law_58 7 rfl) (by decide +kernel)
theorem dL_law_1651 : decode cL_law 1651 = .ok (.iadd, 1) := fo_96 (fw_get da_cL_law_58 8 rfl)
theorem dL_law_1652 : decode cL_law 1652 = .ok (.iaload, 1) := fo_46 (fw_get da_cL_law_58 9 rfl)
theorem dL_law_1653 : decode cL_law 1653 = .ok (.invokevirtual 161, 3) := fo_182 (fw_get da_cL_law_58 10 rfl)
theorem dL_law_1656 : decode cL_law 1656 = .ok (.pop, 1) := fo_87 (fw_get da_cL_law_58 11 rfl)
theorem dL_law_1657 : decode cL_law 1657 = .ok (.goto 631, 3) := fo_167 (fw_get da_cL_law_58 12 rfl) (by decide +kernel)
theorem dL_law_1660 : decode cL_law 1660 = .ok (.aload_n 1, 1) := fo_43 (fw_get da_cL_law_58 13 rfl)
theorem dL_law_1661 : decode cL_law 1661 = .ok (.aload_n 0, 1) := fo_42 (fw_get da_cL_law_58 14 rfl)
theorem dL_law_1662 : decode cL_law 1662 = .ok (.iload 4, 2) := fo_21 (fw_get da_cL_law_58 15 rfl)
theorem dL_law_1664 : decode cL_law 1664 = .ok (.iconst 1, 1) := fo_4 (fw_get da_cL_law_58 16 rfl)
theorem dL_law_1665 : decode cL_law 1665 = .ok (.iadd, 1) := fo_96 (fw_get da_cL_law_58 17 rfl)
theorem dL_law_1666 : decode cL_law 1666 = .ok (.iaload, 1) := fo_46 (fw_get da_cL_law_58 18 rfl)
theorem dL_law_1667 : decode cL_law 1667 = .ok (.aload_n 0, 1) := fo_42 (fw_get da_cL_law_58 19 rfl)
def dt_cL_law_59 : List (Nat × Nat × Nat × Nat) := [(1668, 21, 1, 4), (1670, 5, 0, 0), (1671, 96, 0, 0), (1672, 46, 0, 0), (1673, 42, 0, 0), (1674, 21, 1, 4), (1676, 6, 0, 0), (1677, 96, 0, 0), (1678, 46, 0, 0), (1679, 42, 0, 0), (1680, 21, 1, 4), (1682, 7, 0, 0), (1683, 96, 0, 0), (1684, 46, 0, 0), (1685, 42, 0, 0), (1686, 21, 1, 4), (1688, 8, 0, 0), (1689, 96, 0, 0), (1690, 46, 0, 0), (1691, 42, 0, 0)]
theorem da_cL_law_59 : fw dt_cL_law_59 0 cL_law.data.toList = true := by decide +kernel
theorem dL_law_1668 : decode cL_law 1668 = .ok (.iload 4, 2) := fo_21 (fw_get da_cL_law_59 0 rfl)
theorem dL_law_1670 : decode cL_law 1670 = .ok (.iconst 2, 1) := fo_5 (fw_get da_cL_law_59 1 rfl)
theorem dL_law_1671 : decode cL_law 1671 = .ok (.iadd, 1) := fo_96 (fw_get da_cL_law_59 2 rfl)
theorem dL_law_1672 : decode cL_law 1672 = .ok (.iaload, 1) := fo_46 (fw_get da_cL_law_59 3 rfl)
theorem dL_law_1673 : decode cL_law 1673 = .ok (.aload_n 0, 1) := fo_42 (fw_get da_cL_law_59 4 rfl)
theorem dL_law_1674 : decode cL_law 1674 = .ok (.iload 4, 2) := fo_21 (fw_get da_cL_law_59 5 rfl)
theorem dL_law_1676 : decode cL_law 1676 = .ok (.iconst 3, 1) := fo_6 (fw_get da_cL_law_59 6 rfl)
theorem dL_law_1677 : decode cL_law 1677 = .ok (.iadd, 1) := fo_96 (fw_get da_cL_law_59 7 rfl)
theorem dL_law_1678 : decode cL_law 1678 = .ok (.iaload, 1) := fo_46 (fw_get da_cL_law_59 8 rfl)
theorem dL_law_1679 : decode cL_law 1679 = .ok (.aload_n 0, 1) := fo_42 (fw_get da_cL_law_59 9 rfl)
theorem dL_law_1680 : decode cL_law 1680 = .ok (.iload 4, 2) := fo_21 (fw_get da_cL_law_59 10 rfl)
theorem dL_law_1682 : decode cL_law 1682 = .ok (.iconst 4, 1) := fo_7 (fw_get da_cL_law_59 11 rfl)
theorem dL_law_1683 : decode cL_law 1683 = .ok (.iadd, 1) := fo_96 (fw_get da_cL_law_59 12 rfl)
theorem dL_law_1684 : decode cL_law 1684 = .ok (.iaload, 1) := fo_46 (fw_get da_cL_law_59 13 rfl)
theorem dL_law_1685 : decode cL_law 1685 = .ok (.aload_n 0, 1) := fo_42 (fw_get da_cL_law_59 14 rfl)
theorem dL_law_1686 : decode cL_law 1686 = .ok (.iload 4, 2) := fo_21 (fw_get da_cL_law_59 15 rfl)
theorem dL_law_1688 : decode cL_law 1688 = .ok (.iconst 5, 1) := fo_8 (fw_get da_cL_law_59 16 rfl)
theorem dL_law_1689 : decode cL_law 1689 = .ok (.iadd, 1) := fo_96 (fw_get da_cL_law_59 17 rfl)
theorem dL_law_1690 : decode cL_law 1690 = .ok (.iaload, 1) := fo_46 (fw_get da_cL_law_59 18 rfl)
theorem dL_law_1691 : decode cL_law 1691 = .ok (.aload_n 0, 1) := fo_42 (fw_get da_cL_law_59 19 rfl)
def dt_cL_law_60 : List (Nat × Nat × Nat × Nat) := [(1692, 21, 1, 4), (1694, 16, 1, 6), (1696, 96, 0, 0), (1697, 46, 0, 0), (1698, 42, 0, 0), (1699, 21, 1, 4), (1701, 16, 1, 7), (1703, 96, 0, 0), (1704, 46, 0, 0), (1705, 182, 2, 162), (1708, 44, 0, 0), (1709, 42, 0, 0), (1710, 21, 1, 4), (1712, 4, 0, 0), (1713, 96, 0, 0), (1714, 46, 0, 0), (1715, 42, 0, 0), (1716, 21, 1, 4), (1718, 5, 0, 0), (1719, 96, 0, 0)]
theorem da_cL_law_60 : fw dt_cL_law_60 0 cL_law.data.toList = true := by decide +kernel
theorem dL_law_1692 : decode cL_law 1692 = .ok (.iload 4, 2) := fo_21 (fw_get da_cL_law_60 0 rfl)
theorem dL_law_1694 : decode cL_law 1694 = .ok (.bipush 6, 2) := fo_16 (fw_get da_cL_law_60 1 rfl) (by decide +kernel)
theorem dL_law_1696 : decode cL_law 1696 = .ok (.iadd, 1) := fo_96 (fw_get da_cL_law_60 2 rfl)
theorem dL_law_1697 : decode cL_law 1697 = .ok (.iaload, 1) := fo_46 (fw_get da_cL_law_60 3 rfl)
theorem dL_law_1698 : decode cL_law 1698 = .ok (.aload_n 0, 1) := fo_42 (fw_get da_cL_law_60 4 rfl)
theorem dL_law_1699 : decode cL_law 1699 = .ok (.iload 4, 2) := fo_21 (fw_get da_cL_law_60 5 rfl)
theorem dL_law_1701 : decode cL_law 1701 = .ok (.bipush 7, 2) := fo_16 (fw_get da_cL_law_60 6 rfl) (by decide +kernel)
theorem dL_law_1703 : decode cL_law 1703 = .ok (.iadd, 1) := fo_96 (fw_get da_cL_law_60 7 rfl)
theorem dL_law_1704 : decode cL_law 1704 = .ok (.iaload, 1) := fo_46 (fw_get da_cL_law_60 8 rfl)
theorem dL_law_1705 : decode cL_law 1705 = .ok (.invokevirtual 162, 3) := fo_182 (fw_get da_cL_law_60 9 rfl)
theorem dL_law_1708 : decode cL_law 1708 = .ok (.aload_n 2, 1) := fo_44 (fw_get da_cL_law_60 10 rfl)
theorem dL_law_1709 : decode cL_law 1709 = .ok (.aload_n 0, 1) := fo_42 (fw_get da_cL_law_60 11 rfl)
theorem dL_law_1710 : decode cL_law 1710 = .ok (.iload 4, 2) := fo_21 (fw_get da_cL_law_60 12 rfl)
theorem dL_law_1712 : decode cL_law 1712 = .ok (.iconst 1, 1) := fo_4 (fw_get da_cL_law_60 13 rfl)
theorem dL_law_1713 : decode cL_law 1713 = .ok (.iadd, 1) := fo_96 (fw_get da_cL_law_60 14 rfl)
theorem dL_law_1714 : decode cL_law 1714 = .ok (.iaload, 1) := fo_46 (fw_get da_cL_law_60 15 rfl)
theorem dL_law_1715 : decode cL_law 1715 = .ok (.aload_n 0, 1) := fo_42 (fw_get da_cL_law_60 16 rfl)
theorem dL_law_1716 : decode cL_law 1716 = .ok (.iload 4, 2) := fo_21 (fw_get da_cL_law_60 17 rfl)
theorem dL_law_1718 : decode cL_law 1718 = .ok (.iconst 2, 1) := fo_5 (fw_get da_cL_law_60 18 rfl)
theorem dL_law_1719 : decode cL_law 1719 = .ok (.iadd, 1) := fo_96 (fw_get da_cL_law_60 19 rfl)
def dt_cL_law_61 : List (Nat × Nat × Nat × Nat) := [(1720, 46, 0, 0), (1721, 42, 0, 0), (1722, 21, 1, 4), (1724, 6, 0, 0), (1725, 96, 0, 0), (1726, 46, 0, 0), (1727, 42, 0, 0), (1728, 21, 1, 4), (1730, 7, 0, 0), (1731, 96, 0, 0), (1732, 46, 0, 0), (1733, 42, 0, 0), (1734, 21, 1, 4), (1736, 8, 0, 0), (1737, 96, 0, 0), (1738, 46, 0, 0), (1739, 42, 0, 0), (1740, 21, 1, 4), (1742, 16, 1, 6), (1744, 96, 0, 0)]
theorem da_cL_law_61 : fw dt_cL_law_61 0 cL_law.data.toList = true := by decide +kernel
theorem dL_law_1720 : decode cL_law 1720 = .ok (.iaload, 1) := fo_46 (fw_get da_cL_law_61 0 rfl)
theorem dL_law_1721 : decode cL_law 1721 = .ok (.aload_n 0, 1) := fo_42 (fw_get da_cL_law_61 1 rfl)
theorem dL_law_1722 : decode cL_law 1722 = .ok (.iload 4, 2) := fo_21 (fw_get da_cL_law_61 2 rfl)
theorem dL_law_1724 : decode cL_law 1724 = .ok (.iconst 3, 1) := fo_6 (fw_get da_cL_law_61 3 rfl)
theorem dL_law_1725 : decode cL_law 1725 = .ok (.iadd, 1) := fo_96 (fw_get da_cL_law_61 4 rfl)
theorem dL_law_1726 : decode cL_law 1726 = .ok (.iaload, 1) := fo_46 (fw_get da_cL_law_61 5 rfl)
theorem dL_law_1727 : decode cL_law 1727 = .ok (.aload_n 0, 1) := fo_42 (fw_get da_cL_law_61 6 rfl)
theorem dL_law_1728 : decode cL_law 1728 = .ok (.iload 4, 2) := fo_21 (fw_get da_cL_law_61 7 rfl)
theorem dL_law_1730 : decode cL_law 1730 = .ok (.iconst 4, 1) := fo_7 (fw_get da_cL_law_61 8 rfl)
theorem dL_law_1731 : decode cL_law 1731 = .ok (.iadd, 1) := fo_96 (fw_get da_cL_law_61 9 rfl)
theorem dL_law_1732 : decode cL_law 1732 = .ok (.iaload, 1) := fo_46 (fw_get da_cL_law_61 10 rfl)
theorem dL_law_1733 : decode cL_law 1733 = .ok (.aload_n 0, 1) := fo_42 (fw_get da_cL_law_61 11 rfl)
theorem dL_law_1734 : decode cL_law 1734 = .ok (.iload 4, 2) := fo_21 (fw_get da_cL_law_61 12 rfl)
theorem dL_law_1736 : decode cL_law 1736 = .ok (.iconst 5, 1) := fo_8 (fw_get da_cL_law_61 13 rfl)
theorem dL_law_1737 : decode cL_law 1737 = .ok (.iadd, 1) := fo_96 (fw_get da_cL_law_61 14 rfl)
theorem dL_law_1738 : decode cL_law 1738 = .ok (.iaload, 1) := fo_46 (fw_get da_cL_law_61 15 rfl)
theorem dL_law_1739 : decode cL_law 1739 = .ok (.aload_n 0, 1) := fo_42 (fw_get da_cL_law_61 16 rfl)
theorem dL_law_1740 : decode cL_law 1740 = .ok (.iload 4, 2) := fo_21 (fw_get da_cL_law_61 17 rfl)
theorem dL_law_1742 : decode cL_law 1742 = .ok (.bipush 6, 2) := fo_16 (fw_get da_cL_law_61 18 rfl) (by decide +kernel)
theorem dL_law_1744 : decode cL_law 1744 = .ok (.iadd, 1) := fo_96 (fw_get da_cL_law_61 19 rfl)
def dt_cL_law_62 : List (Nat × Nat × Nat × Nat) := [(1745, 46, 0, 0), (1746, 42, 0, 0), (1747, 21, 1, 4), (1749, 16, 1, 7), (1751, 96, 0, 0), (1752, 46, 0, 0), (1753, 182, 2, 166), (1756, 159, 2, 532), (1759, 3, 0, 0), (1761, 43, 0, 0), (1762, 42, 0, 0), (1763, 21, 1, 4), (1765, 4, 0, 0), (1766, 96, 0, 0), (1767, 46, 0, 0), (1768, 42, 0, 0), (1769, 21, 1, 4), (1771, 5, 0, 0), (1772, 96, 0, 0), (1773, 46, 0, 0)]
theorem da_cL_law_62 : fw dt_cL_law_62 0 cL_law.data.toList = true := by decide +kernel
theorem dL_law_1745 : decode cL_law 1745 = .ok (.iaload, 1) := fo_46 (fw_get da_cL_law_62 0 rfl)
theorem dL_law_1746 : decode cL_law 1746 = .ok (.aload_n 0, 1) := fo_42 (fw_get da_cL_law_62 1 rfl)
theorem dL_law_1747 : decode cL_law 1747 = .ok (.iload 4, 2) := fo_21 (fw_get da_cL_law_62 2 rfl)
theorem dL_law_1749 : decode cL_law 1749 = .ok (.bipush 7, 2) := fo_16 (fw_get da_cL_law_62 3 rfl) (by decide +kernel)
theorem dL_law_1751 : decode cL_law 1751 = .ok (.iadd, 1) := fo_96 (fw_get da_cL_law_62 4 rfl)
theorem dL_law_1752 : decode cL_law 1752 = .ok (.iaload, 1) := fo_46 (fw_get da_cL_law_62 5 rfl)
theorem dL_law_1753 : decode cL_law 1753 = .ok (.invokevirtual 166, 3) := fo_182 (fw_get da_cL_law_62 6 rfl)
theorem dL_law_1756 : decode cL_law 1756 = .ok (.if_icmp .eq 532, 3) := fo_159 (fw_get da_cL_law_62 7 rfl) (by decide +kernel)
theorem dL_law_1759 : decode cL_law 1759 = .ok (.iconst 0, 1) := fo_3 (fw_get da_cL_law_62 8 rfl)
theorem dL_law_1761 : decode cL_law 1761 = .ok (.aload_n 1, 1) := fo_43 (fw_get da_cL_law_62 9 rfl)
theorem dL_law_1762 : decode cL_law 1762 = .ok (.aload_n 0, 1) := fo_42 (fw_get da_cL_law_62 10 rfl)
theorem dL_law_1763 : decode cL_law 1763 = .ok (.iload 4, 2) := fo_21 (fw_get da_cL_law_62 11 rfl)
theorem dL_law_1765 : decode cL_law 1765 = .ok (.iconst 1, 1) := fo_4 (fw_get da_cL_law_62 12 rfl)
theorem dL_law_1766 : decode cL_law 1766 = .ok (.iadd, 1) := fo_96 (fw_get da_cL_law_62 13 rfl)
theorem dL_law_1767 : decode cL_law 1767 = .ok (.iaload, 1) := fo_46 (fw_get da_cL_law_62 14 rfl)
theorem dL_law_1768 : decode cL_law 1768 = .ok (.aload_n 0, 1) := fo_42 (fw_get da_cL_law_62 15 rfl)
theorem dL_law_1769 : decode cL_law 1769 = .ok (.iload 4, 2) := fo_21 (fw_get da_cL_law_62 16 rfl)
theorem dL_law_1771 : decode cL_law 1771 = .ok (.iconst 2, 1) := fo_5 (fw_get da_cL_law_62 17 rfl)
theorem dL_law_1772 : decode cL_law 1772 = .ok (.iadd, 1) := fo_96 (fw_get da_cL_law_62 18 rfl)
theorem dL_law_1773 : decode cL_law 1773 = .ok (.iaload, 1) := fo_46 (fw_get da_cL_law_62 19 rfl)
def dt_cL_law_63 : List (Nat × Nat × Nat × Nat) := [(1774, 42, 0, 0), (1775, 21, 1, 4), (1777, 6, 0, 0), (1778, 96, 0, 0), (1779, 46, 0, 0), (1780, 42, 0, 0), (1781, 21, 1, 4), (1783, 7, 0, 0), (1784, 96, 0, 0), (1785, 46, 0, 0), (1786, 182, 2, 167), (1789, 87, 0, 0), (1790, 44, 0, 0), (1791, 42, 0, 0), (1792, 21, 1, 4), (1794, 4, 0, 0), (1795, 96, 0, 0), (1796, 46, 0, 0), (1797, 42, 0, 0), (1798, 21, 1, 4)]
theorem da_cL_law_63 : fw dt_cL_law_63 0 cL_law.data.toList = true := by decide +kernel
theorem dL_law_1774 : decode cL_law 1774 = .ok (.aload_n 0, 1) := fo_42 (fw_get da_cL_law_63 0 rfl)
theorem dL_law_1775 : decode cL_law 1775 = .ok (.iload 4, 2) := fo_21 (fw_get da_cL_law_63 1 rfl)
theorem dL_law_1777 : decode cL_law 1777 = .ok (.iconst 3, 1) := fo_6 (fw_get da_cL_law_63 2 rfl)
theorem dL_law_1778 : decode cL_law 1778 = .ok (.iadd, 1) := fo_96 (fw_get da_cL_law_63 3 rfl)
theorem dL_law_1779 : decode cL_law 1779 = .ok (.iaload, 1) := fo_46 (fw_get da_cL_law_63 4 rfl)
theorem dL_law_1780 : decode cL_law 1780 = .ok (.aload_n 0, 1) := fo_42 (fw_get da_cL_law_63 5 rfl)
theorem dL_law_1781 : decode cL_law 1781 = .ok (.iload 4, 2) := fo_21 (fw_get da_cL_law_63 6 rfl)
theorem dL_law_1783 : decode cL_law 1783 = .ok (.iconst 4, 1) := fo_7 (fw_get da_cL_law_63 7 rfl)
theorem dL_law_1784 : decode cL_law 1784 = .ok (.iadd, 1) := fo_96 (fw_get da_cL_law_63 8 rfl)
theorem dL_law_1785 : decode cL_law 1785 = .ok (.iaload, 1) := fo_46 (fw_get da_cL_law_63 9 rfl)
theorem dL_law_1786 : decode cL_law 1786 = .ok (.invokevirtual 167, 3) := fo_182 (fw_get da_cL_law_63 10 rfl)
theorem dL_law_1789 : decode cL_law 1789 = .ok (.pop, 1) := fo_87 (fw_get da_cL_law_63 11 rfl)
theorem dL_law_1790 : decode cL_law 1790 = .ok (.aload_n 2, 1) := fo_44 (fw_get da_cL_law_63 12 rfl)
theorem dL_law_1791 : decode cL_law 1791 = .ok (.aload_n 0, 1) := fo_42 (fw_get da_cL_law_63 13 rfl)
theorem dL_law_1792 : decode cL_law 1792 = .ok (.iload 4, 2) := fo_21 (fw_get da_cL_law_63 14 rfl)
theorem dL_law_1794 : decode cL_law 1794 = .ok (.iconst 1, 1) := fo_4 (fw_get da_cL_law_63 15 rfl)
theorem dL_law_1795 : decode cL_law 1795 = .ok (.iadd, 1) := fo_96 (fw_get da_cL_law_63 16 rfl)
theorem dL_law_1796 : decode cL_law 1796 = .ok (.iaload, 1) := fo_46 (fw_get da_cL_law_63 17 rfl)
theorem dL_law_1797 : decode cL_law 1797 = .ok (.aload_n 0, 1) := fo_42 (fw_get da_cL_law_63 18 rfl)
theorem dL_law_1798 : decode cL_law 1798 = .ok (.iload 4, 2) := fo_21 (fw_get da_cL_law_63 19 rfl)
def dt_cL_law_64 : List (Nat × Nat × Nat × Nat) := [(1800, 5, 0, 0), (1801, 96, 0, 0), (1802, 46, 0, 0), (1803, 42, 0, 0), (1804, 21, 1, 4), (1806, 6, 0, 0), (1807, 96, 0, 0), (1808, 46, 0, 0), (1809, 42, 0, 0), (1810, 21, 1, 4)]
theorem da_cL_law_64 : fw dt_cL_law_64 0 cL_law.data.toList = true := by decide +kernel
theorem dL_law_1800 : decode cL_law 1800 = .ok (.iconst 2, 1) := fo_5 (fw_get da_cL_law_64 0 rfl)
theorem dL_law_1801 : decode cL_law 1801 = .ok (.iadd, 1) := fo_96 (fw_get da_cL_law_64 1 rfl)
theorem dL_law_1802 : decode cL_law 1802 = .ok (.iaload, 1) := fo_46 (fw_get da_cL_law_64 2 rfl)
theorem dL_law_1803 : decode cL_law 1803 = .ok (.aload_n 0, 1) := fo_42 (fw_get da_cL_law_64 3 rfl)
theorem dL_law_1804 : decode cL_law 1804 = .ok (.iload 4, 2) := fo_21 (fw_get da_cL_law_64 4 rfl)
theorem dL_law_1806 : decode cL_law 1806 = .ok (.iconst 3, 1) := fo_6 (fw_get da_cL_law_64 5 rfl)
theorem dL_law_1807 : decode cL_law 1807 = .ok (.iadd, 1) := fo_96 (fw_get da_cL_law_64 6 rfl)
theorem dL_law_1808 : decode cL_law 1808 = .ok (.iaload, 1) := fo_46 (fw_get da_cL_law_64 7 rfl)
theorem dL_law_1809 : decode cL_law 1809 = .ok (.aload_n 0, 1) := fo_42 (fw_get da_cL_law_64 8 rfl)
theorem dL_law_1810 : decode cL_law 1810 = .ok (.iload 4, 2) := fo_21 (fw_get da_cL_law_64 9 rfl)


def dt_cL_law_65 : List (Nat × Nat × Nat × Nat) := [(1812, 7, 0, 0), (1813, 96, 0, 0), (1814, 46, 0, 0), (1815, 182, 2, 170), (1818, 87, 0, 0), (1819, 167, 2, 469), (1822, 43, 0, 0), (1823, 42, 0, 0), (1824, 21, 1, 4), (1826, 4, 0, 0), (1827, 96, 0, 0), (1828, 46, 0, 0), (1829, 182, 2, 171), (1832, 87, 0, 0), (1833, 44, 0, 0), (1834, 42, 0, 0), (1835, 21, 1, 4), (1837, 4, 0, 0), (1838, 96, 0, 0), (1839, 46, 0, 0)]
theorem da_cL_law_65 : fw dt_cL_law_65 0 cL_law.data.toList = true := by decide +kernel
theorem dL_law_1812 : decode cL_law 1812 = .ok (.iconst 4, 1) := fo_7 (fw_get da_cL_law_65 0 rfl)
theorem dL_law_1813 : decode cL_law 1813 = .ok (.iadd, 1) := fo_96 (fw_get da_cL_law_65 1 rfl)
theorem dL_law_1814 : decode cL_law 1814 = .ok (.iaload, 1) := fo_46 (fw_get da_cL_law_65 2 rfl)
theorem dL_law_1815 : decode cL_law 1815 = .ok (.invokevirtual 170, 3) := fo_182 (fw_get da_cL_law_65 3 rfl)
theorem dL_law_1818 : decode cL_law 1818 = .ok (.pop, 1) := fo_87 (fw_get da_cL_law_65 4 rfl)
theorem dL_law_1819 : decode cL_law 1819 = .ok (.goto 469, 3) := fo_167 (fw_get da_cL_law_65 5 rfl) (by decide +kernel)
theorem dL_law_1822 : decode cL_law 1822 = .ok (.aload_n 1, 1) := fo_43 (fw_get da_cL_law_65 6 rfl)
theorem dL_law_1823 : decode cL_law 1823 = .ok (.aload_n 0, 1) := fo_42 (fw_get da_cL_law_65 7 rfl)
theorem dL_law_1824 : decode cL_law 1824 = .ok (.iload 4, 2) := fo_21 (fw_get da_cL_law_65 8 rfl)
theorem dL_law_1826 : decode cL_law 1826 = .ok (.iconst 1, 1) := fo_4 (fw_get da_cL_law_65 9 rfl)
theorem dL_law_1827 : decode cL_law 1827 = .ok (.iadd, 1) := fo_96 (fw_get da_cL_law_65 10 rfl)
theorem dL_law_1828 : decode cL_law 1828 = .ok (.iaload, 1) := fo_46 (fw_get da_cL_law_65 11 rfl)
theorem dL_law_1829 : decode cL_law 1829 = .ok (.invokevirtual 171, 3) := fo_182 (fw_get da_cL_law_65 12 rfl)
theorem dL_law_1832 : decode cL_law 1832 = .ok (.pop, 1) := fo_87 (fw_get da_cL_law_65 13 rfl)
theorem dL_law_1833 : decode cL_law 1833 = .ok (.aload_n 2, 1) := fo_44 (fw_get da_cL_law_65 14 rfl)
theorem dL_law_1834 : decode cL_law 1834 = .ok (.aload_n 0, 1) := fo_42 (fw_get da_cL_law_65 15 rfl)
theorem dL_law_1835 : decode cL_law 1835 = .ok (.iload 4, 2) := fo_21 (fw_get da_cL_law_65 16 rfl)
theorem dL_law_1837 : decode cL_law 1837 = .ok (.iconst 1, 1) := fo_4 (fw_get da_cL_law_65 17 rfl)
theorem dL_law_1838 : decode cL_law 1838 = .ok (.iadd, 1) := fo_96 (fw_get da_cL_law_65 18 rfl)
theorem dL_law_1839 : decode cL_law 1839 = .ok (.iaload, 1) := fo_46 (fw_get da_cL_law_65 19 rfl)
def dt_cL_law_66 : List (Nat × Nat × Nat × Nat) := [(1840, 182, 2, 174), (1843, 87, 0, 0), (1844, 167, 2, 444), (1847, 43, 0, 0), (1848, 42, 0, 0), (1849, 21, 1, 4), (1851, 4, 0, 0), (1852, 96, 0, 0), (1853, 46, 0, 0), (1854, 42, 0, 0), (1855, 21, 1, 4), (1857, 5, 0, 0), (1858, 96, 0, 0), (1859, 46, 0, 0), (1860, 182, 2, 175), (1863, 87, 0, 0), (1864, 44, 0, 0), (1865, 42, 0, 0), (1866, 21, 1, 4), (1868, 4, 0, 0)]
theorem da_cL_law_66 : fw dt_cL_law_66 0 cL_law.data.toList = true := by decide +kernel
theorem dL_law_1840 : decode cL_law 1840 = .ok (.invokevirtual 174, 3) := fo_182 (fw_get da_cL_law_66 0 rfl)
theorem dL_law_1843 : decode cL_law 1843 = .ok (.pop, 1) := fo_87 (fw_get da_cL_law_66 1 rfl)
theorem dL_law_1844 : decode cL_law 1844 = .ok (.goto 444, 3) := fo_167 (fw_get da_cL_law_66 2 rfl) (by decide +kernel)
theorem dL_law_1847 : decode cL_law 1847 = .ok (.aload_n 1, 1) := fo_43 (fw_get da_cL_law_66 3 rfl)
theorem dL_law_1848 : decode cL_law 1848 = .ok (.aload_n 0, 1) := fo_42 (fw_get da_cL_law_66 4 rfl)
theorem dL_law_1849 : decode cL_law 1849 = .ok (.iload 4, 2) := fo_21 (fw_get da_cL_law_66 5 rfl)
theorem dL_law_1851 : decode cL_law 1851 = .ok (.iconst 1, 1) := fo_4 (fw_get da_cL_law_66 6 rfl)
theorem dL_law_1852 : decode cL_law 1852 = .ok (.iadd, 1) := fo_96 (fw_get da_cL_law_66 7 rfl)
theorem dL_law_1853 : decode cL_law 1853 = .ok (.iaload, 1) := fo_46 (fw_get da_cL_law_66 8 rfl)
theorem dL_law_1854 : decode cL_law 1854 = .ok (.aload_n 0, 1) := fo_42 (fw_get da_cL_law_66 9 rfl)
theorem dL_law_1855 : decode cL_law 1855 = .ok (.iload 4, 2) := fo_21 (fw_get da_cL_law_66 10 rfl)
theorem dL_law_1857 : decode cL_law 1857 = .ok (.iconst 2, 1) := fo_5 (fw_get da_cL_law_66 11 rfl)
theorem dL_law_1858 : decode cL_law 1858 = .ok (.iadd, 1) := fo_96 (fw_get da_cL_law_66 12 rfl)
theorem dL_law_1859 : decode cL_law 1859 = .ok (.iaload, 1) := fo_46 (fw_get da_cL_law_66 13 rfl)
theorem dL_law_1860 : decode cL_law 1860 = .ok (.invokevirtual 175, 3) := fo_182 (fw_get da_cL_law_66 14 rfl)
theorem dL_law_1863 : decode cL_law 1863 = .ok (.pop, 1) := fo_87 (fw_get da_cL_law_66 15 rfl)
theorem dL_law_1864 : decode cL_law 1864 = .ok (.aload_n 2, 1) := fo_44 (fw_get da_cL_law_66 16 rfl)
theorem dL_law_1865 : decode cL_law 1865 = .ok (.aload_n 0, 1) := fo_42 (fw_get da_cL_law_66 17 rfl)
theorem dL_law_1866 : decode cL_law 1866 = .ok (.iload 4, 2) := fo_21 (fw_get da_cL_law_66 18 rfl)
theorem dL_law_1868 : decode cL_law 1868 = .ok (.iconst 1, 1) := fo_4 (fw_get da_cL_law_66 19 rfl)
def dt_cL_law_67 : List (Nat × Nat × Nat × Nat) := [(1869, 96, 0, 0), (1870, 46, 0, 0), (1871, 42, 0, 0), (1872, 21, 1, 4), (1874, 5, 0, 0), (1875, 96, 0, 0), (1876, 46, 0, 0), (1877, 182, 2, 178), (1880, 87, 0, 0), (1881, 167, 2, 407), (1884, 43, 0, 0), (1885, 42, 0, 0), (1886, 21, 1, 4), (1888, 4, 0, 0), (1889, 96, 0, 0), (1890, 46, 0, 0), (1891, 42, 0, 0), (1892, 21, 1, 4), (1894, 5, 0, 0), (1895, 96, 0, 0)]
theorem da_cL_law_67 : fw dt_cL_law_67 0 cL_law.data.toList = true := by decide +kernel
theorem dL_law_1869 : decode cL_law 1869 = .ok (.iadd, 1) := fo_96 (fw_get da_cL_law_67 0 rfl)
theorem dL_law_1870 : decode cL_law 1870 = .ok (.iaload, 1) := fo_46 (fw_get da_cL_law_67 1 rfl)
theorem dL_law_1871 : decode cL_law 1871 = .ok (.aload_n 0, 1) := fo_42 (fw_get da_cL_law_67 2 rfl)
theorem dL_law_1872 : decode cL_law 1872 = .ok (.iload 4, 2) := fo_21 (fw_get da_cL_law_67 3 rfl)
theorem dL_law_1874 : decode cL_law 1874 = .ok (.iconst 2, 1) := fo_5 (fw_get da_cL_law_67 4 rfl)
theorem dL_law_1875 : decode cL_law 1875 = .ok (.iadd, 1) := fo_96 (fw_get da_cL_law_67 5 rfl)
theorem dL_law_1876 : decode cL_law 1876 = .ok (.iaload, 1) := fo_46 (fw_get da_cL_law_67 6 rfl)
theorem dL_law_1877 : decode cL_law 1877 = .ok (.invokevirtual 178, 3) := fo_182 (fw_get da_cL_law_67 7 rfl)
theorem dL_law_1880 : decode cL_law 1880 = .ok (.pop, 1) := fo_87 (fw_get da_cL_law_67 8 rfl)
theorem dL_law_1881 : decode cL_law 1881 = .ok (.goto 407, 3) := fo_167 (fw_get da_cL_law_67 9 rfl) (by decide +kernel)
theorem dL_law_1884 : decode cL_law 1884 = .ok (.aload_n 1, 1) := fo_43 (fw_get da_cL_law_67 10 rfl)
theorem dL_law_1885 : decode cL_law 1885 = .ok (.aload_n 0, 1) := fo_42 (fw_get da_cL_law_67 11 rfl)
theorem dL_law_1886 : decode cL_law 1886 = .ok (.iload 4, 2) := fo_21 (fw_get da_cL_law_67 12 rfl)
theorem dL_law_1888 : decode cL_law 1888 = .ok (.iconst 1, 1) := fo_4 (fw_get da_cL_law_67 13 rfl)
theorem dL_law_1889 : decode cL_law 1889 = .ok (.iadd, 1) := fo_96 (fw_get da_cL_law_67 14 rfl)
theorem dL_law_1890 : decode cL_law 1890 = .ok (.iaload, 1) := fo_46 (fw_get da_cL_law_67 15 rfl)
theorem dL_law_1891 : decode cL_law 1891 = .ok (.aload_n 0, 1) := fo_42 (fw_get da_cL_law_67 16 rfl)
theorem dL_law_1892 : decode cL_law 1892 = .ok (.iload 4, 2) := fo_21 (fw_get da_cL_law_67 17 rfl)
theorem dL_law_1894 : decode cL_law 1894 = .ok (.iconst 2, 1) := fo_5 (fw_get da_cL_law_67 18 rfl)
theorem dL_law_1895 : decode cL_law 1895 = .ok (.iadd, 1) := fo_96 (fw_get da_cL_law_67 19 rfl)
def dt_cL_law_68 : List (Nat × Nat × Nat × Nat) := [(1896, 46, 0, 0), (1897, 182, 2, 179), (1900, 87, 0, 0), (1901, 44, 0, 0), (1902, 42, 0, 0), (1903, 21, 1, 4), (1905, 4, 0, 0), (1906, 96, 0, 0), (1907, 46, 0, 0), (1908, 42, 0, 0), (1909, 21, 1, 4), (1911, 5, 0, 0), (1912, 96, 0, 0), (1913, 46, 0, 0), (1914, 182, 2, 182), (1917, 87, 0, 0), (1918, 167, 2, 370), (1921, 43, 0, 0), (1922, 182, 2, 183), (1925, 87, 0, 0)]
theorem da_cL_law_68 : fw dt_cL_law_68 0 cL_law.data.toList = true := by decide +kernel
theorem dL_law_1896 : decode cL_law 1896 = .ok (.iaload, 1) := fo_46 (fw_get da_cL_law_68 0 rfl)
theorem dL_law_1897 : decode cL_law 1897 = .ok (.invokevirtual 179, 3) := fo_182 (fw_get da_cL_law_68 1 rfl)
theorem dL_law_1900 : decode cL_law 1900 = .ok (.pop, 1) := fo_87 (fw_get da_cL_law_68 2 rfl)
theorem dL_law_1901 : decode cL_law 1901 = .ok (.aload_n 2, 1) := fo_44 (fw_get da_cL_law_68 3 rfl)
theorem dL_law_1902 : decode cL_law 1902 = .ok (.aload_n 0, 1) := fo_42 (fw_get da_cL_law_68 4 rfl)
theorem dL_law_1903 : decode cL_law 1903 = .ok (.iload 4, 2) := fo_21 (fw_get da_cL_law_68 5 rfl)
theorem dL_law_1905 : decode cL_law 1905 = .ok (.iconst 1, 1) := fo_4 (fw_get da_cL_law_68 6 rfl)
theorem dL_law_1906 : decode cL_law 1906 = .ok (.iadd, 1) := fo_96 (fw_get da_cL_law_68 7 rfl)
theorem dL_law_1907 : decode cL_law 1907 = .ok (.iaload, 1) := fo_46 (fw_get da_cL_law_68 8 rfl)
theorem dL_law_1908 : decode cL_law 1908 = .ok (.aload_n 0, 1) := fo_42 (fw_get da_cL_law_68 9 rfl)
theorem dL_law_1909 : decode cL_law 1909 = .ok (.iload 4, 2) := fo_21 (fw_get da_cL_law_68 10 rfl)
theorem dL_law_1911 : decode cL_law 1911 = .ok (.iconst 2, 1) := fo_5 (fw_get da_cL_law_68 11 rfl)
theorem dL_law_1912 : decode cL_law 1912 = .ok (.iadd, 1) := fo_96 (fw_get da_cL_law_68 12 rfl)
theorem dL_law_1913 : decode cL_law 1913 = .ok (.iaload, 1) := fo_46 (fw_get da_cL_law_68 13 rfl)
theorem dL_law_1914 : decode cL_law 1914 = .ok (.invokevirtual 182, 3) := fo_182 (fw_get da_cL_law_68 14 rfl)
theorem dL_law_1917 : decode cL_law 1917 = .ok (.pop, 1) := fo_87 (fw_get da_cL_law_68 15 rfl)
theorem dL_law_1918 : decode cL_law 1918 = .ok (.goto 370, 3) := fo_167 (fw_get da_cL_law_68 16 rfl) (by decide +kernel)
theorem dL_law_1921 : decode cL_law 1921 = .ok (.aload_n 1, 1) := fo_43 (fw_get da_cL_law_68 17 rfl)
theorem dL_law_1922 : decode cL_law 1922 = .ok (.invokevirtual 183, 3) := fo_182 (fw_get da_cL_law_68 18 rfl)
theorem dL_law_1925 : decode cL_law 1925 = .ok (.pop, 1) := fo_87 (fw_get da_cL_law_68 19 rfl)
def dt_cL_law_69 : List (Nat × Nat × Nat × Nat) := [(1926, 44, 0, 0), (1927, 182, 2, 186), (1930, 87, 0, 0), (1931, 167, 2, 357), (1934, 43, 0, 0), (1935, 42, 0, 0), (1936, 21, 1, 4), (1938, 4, 0, 0), (1939, 96, 0, 0), (1940, 46, 0, 0), (1941, 42, 0, 0), (1942, 21, 1, 4), (1944, 5, 0, 0), (1945, 96, 0, 0), (1946, 46, 0, 0), (1947, 42, 0, 0), (1948, 21, 1, 4), (1950, 6, 0, 0), (1951, 96, 0, 0), (1952, 46, 0, 0)]
theorem da_cL_law_69 : fw dt_cL_law_69 0 cL_law.data.toList = true := by decide +kernel
theorem dL_law_1926 : decode cL_law 1926 = .ok (.aload_n 2, 1) := fo_44 (fw_get da_cL_law_69 0 rfl)
theorem dL_law_1927 : decode cL_law 1927 = .ok (.invokevirtual 186, 3) := fo_182 (fw_get da_cL_law_69 1 rfl)
theorem dL_law_1930 : decode cL_law 1930 = .ok (.pop, 1) := fo_87 (fw_get da_cL_law_69 2 rfl)
theorem dL_law_1931 : decode cL_law 1931 = .ok (.goto 357, 3) := fo_167 (fw_get da_cL_law_69 3 rfl) (by decide +kernel)
theorem dL_law_1934 : decode cL_law 1934 = .ok (.aload_n 1, 1) := fo_43 (fw_get da_cL_law_69 4 rfl)
theorem dL_law_1935 : decode cL_law 1935 = .ok (.aload_n 0, 1) := fo_42 (fw_get da_cL_law_69 5 rfl)
theorem dL_law_1936 : decode cL_law 1936 = .ok (.iload 4, 2) := fo_21 (fw_get da_cL_law_69 6 rfl)
theorem dL_law_1938 : decode cL_law 1938 = .ok (.iconst 1, 1) := fo_4 (fw_get da_cL_law_69 7 rfl)
theorem dL_law_1939 : decode cL_law 1939 = .ok (.iadd, 1) := fo_96 (fw_get da_cL_law_69 8 rfl)
theorem dL_law_1940 : decode cL_law 1940 = .ok (.iaload, 1) := fo_46 (fw_get da_cL_law_69 9 rfl)
theorem dL_law_1941 : decode cL_law 1941 = .ok (.aload_n 0, 1) := fo_42 (fw_get da_cL_law_69 10 rfl)
theorem dL_law_1942 : decode cL_law 1942 = .ok (.iload 4, 2) := fo_21 (fw_get da_cL_law_69 11 rfl)
theorem dL_law_1944 : decode cL_law 1944 = .ok (.iconst 2, 1) := fo_5 (fw_get da_cL_law_69 12 rfl)
theorem dL_law_1945 : decode cL_law 1945 = .ok (.iadd, 1) := fo_96 (fw_get da_cL_law_69 13 rfl)
theorem dL_law_1946 : decode cL_law 1946 = .ok (.iaload, 1) := fo_46 (fw_get da_cL_law_69 14 rfl)
theorem dL_law_1947 : decode cL_law 1947 = .ok (.aload_n 0, 1) := fo_42 (fw_get da_cL_law_69 15 rfl)
theorem dL_law_1948 : decode cL_law 1948 = .ok (.iload 4, 2) := fo_21 (fw_get da_cL_law_69 16 rfl)
theorem dL_law_1950 : decode cL_law 1950 = .ok (.iconst 3, 1) := fo_6 (fw_get da_cL_law_69 17 rfl)
theorem dL_law_1951 : decode cL_law 1951 = .ok (.iadd, 1) := fo_96 (fw_get da_cL_law_69 18 rfl)
theorem dL_law_1952 : decode cL_law 1952 = .ok (.iaload, 1) := fo_46 (fw_get da_cL_law_69 19 rfl)
def dt_cL_law_70 : List (Nat × Nat × Nat × Nat) := [(1953, 42, 0, 0), (1954, 21, 1, 4), (1956, 7, 0, 0), (1957, 96, 0, 0), (1958, 46, 0, 0), (1959, 182, 2, 187), (1962, 87, 0, 0), (1963, 44, 0, 0), (1964, 42, 0, 0), (1965, 21, 1, 4), (1967, 4, 0, 0), (1968, 96, 0, 0), (1969, 46, 0, 0), (1970, 42, 0, 0), (1971, 21, 1, 4), (1973, 5, 0, 0), (1974, 96, 0, 0), (1975, 46, 0, 0), (1976, 42, 0, 0), (1977, 21, 1, 4)]
theorem da_cL_law_70 : fw dt_cL_law_70 0 cL_law.data.toList = true := by decide +kernel
theorem dL_law_1953 : decode cL_law 1953 = .ok (.aload_n 0, 1) := fo_42 (fw_get da_cL_law_70 0 rfl)
theorem dL_law_1954 : decode cL_law 1954 = .ok (.iload 4, 2) := fo_21 (fw_get da_cL_law_70 1 rfl)
theorem dL_law_1956 : decode cL_law 1956 = .ok (.iconst 4, 1) := fo_7 (fw_get da_cL_law_70 2 rfl)
theorem dL_law_1957 : decode cL_law 1957 = .ok (.iadd, 1) := fo_96 (fw_get da_cL_law_70 3 rfl)
theorem dL_law_1958 : decode cL_law 1958 = .ok (.iaload, 1) := fo_46 (fw_get da_cL_law_70 4 rfl)
theorem dL_law_1959 : decode cL_law 1959 = .ok (.invokevirtual 187, 3) := fo_182 (fw_get da_cL_law_70 5 rfl)
theorem dL_law_1962 : decode cL_law 1962 = .ok (.pop, 1) := fo_87 (fw_get da_cL_law_70 6 rfl)
theorem dL_law_1963 : decode cL_law 1963 = .ok (.aload_n 2, 1) := fo_44 (fw_get da_cL_law_70 7 rfl)
theorem dL_law_1964 : decode cL_law 1964 = .ok (.aload_n 0, 1) := fo_42 (fw_get da_cL_law_70 8 rfl)
theorem dL_law_1965 : decode cL_law 1965 = .ok (.iload 4, 2) := fo_21 (fw_get da_cL_law_70 9 rfl)
theorem dL_law_1967 : decode cL_law 1967 = .ok (.iconst 1, 1) := fo_4 (fw_get da_cL_law_70 10 rfl)
theorem dL_law_1968 : decode cL_law 1968 = .ok (.iadd, 1) := fo_96 (fw_get da_cL_law_70 11 rfl)
theorem dL_law_1969 : decode cL_law 1969 = .ok (.iaload, 1) := fo_46 (fw_get da_cL_law_70 12 rfl)
theorem dL_law_1970 : decode cL_law 1970 = .ok (.aload_n 0, 1) := fo_42 (fw_get da_cL_law_70 13 rfl)
theorem dL_law_1971 : decode cL_law 1971 = .ok (.iload 4, 2) := fo_21 (fw_get da_cL_law_70 14 rfl)
theorem dL_law_1973 : decode cL_law 1973 = .ok (.iconst 2, 1) := fo_5 (fw_get da_cL_law_70 15 rfl)
theorem dL_law_1974 : decode cL_law 1974 = .ok (.iadd, 1) := fo_96 (fw_get da_cL_law_70 16 rfl)
theorem dL_law_1975 : decode cL_law 1975 = .ok (.iaload, 1) := fo_46 (fw_get da_cL_law_70 17 rfl)
theorem dL_law_1976 : decode cL_law 1976 = .ok (.aload_n 0, 1) := fo_42 (fw_get da_cL_law_70 18 rfl)
theorem dL_law_1977 : decode cL_law 1977 = .ok (.iload 4, 2) := fo_21 (fw_get da_cL_law_70 19 rfl)
def dt_cL_law_71 : List (Nat × Nat × Nat × Nat) := [(1979, 6, 0, 0), (1980, 96, 0, 0), (1981, 46, 0, 0), (1982, 42, 0, 0), (1983, 21, 1, 4), (1985, 7, 0, 0), (1986, 96, 0, 0), (1987, 46, 0, 0), (1988, 182, 2, 190), (1991, 87, 0, 0), (1992, 167, 2, 296), (1995, 43, 0, 0), (1996, 42, 0, 0), (1997, 21, 1, 4), (1999, 4, 0, 0), (2000, 96, 0, 0), (2001, 46, 0, 0), (2002, 42, 0, 0), (2003, 21, 1, 4), (2005, 5, 0, 0)]
theorem da_cL_law_71 : fw dt_cL_law_71 0 cL_law.data.toList = true := by decide +kernel
theorem dL_law_1979 : decode cL_law 1979 = .ok (.iconst 3, 1) := fo_6 (fw_get da_cL_law_71 0 rfl)
theorem dL_law_1980 : decode cL_law 1980 = .ok (.iadd, 1) := fo_96 (fw_get da_cL_law_71 1 rfl)
theorem dL_law_1981 : decode cL_law 1981 = .ok (.iaload, 1) := fo_46 (fw_get da_cL_law_71 2 rfl)
theorem dL_law_1982 : decode cL_law 1982 = .ok (.aload_n 0, 1) := fo_42 (fw_get da_cL_law_71 3 rfl)
theorem dL_law_1983 : decode cL_law 1983 = .ok (.iload 4, 2) := fo_21 (fw_get da_cL_law_71 4 rfl)
theorem dL_law_1985 : decode cL_law 1985 = .ok (.iconst 4, 1) := fo_7 (fw_get da_cL_law_71 5 rfl)
theorem dL_law_1986 : decode cL_law 1986 = .ok (.iadd, 1) := fo_96 (fw_get da_cL_law_71 6 rfl)
theorem dL_law_1987 : decode cL_law 1987 = .ok (.iaload, 1) := fo_46 (fw_get da_cL_law_71 7 rfl)
theorem dL_law_1988 : decode cL_law 1988 = .ok (.invokevirtual 190, 3) := fo_182 (fw_get da_cL_law_71 8 rfl)
theorem dL_law_1991 : decode cL_law 1991 = .ok (.pop, 1) := fo_87 (fw_get da_cL_law_71 9 rfl)
theorem dL_law_1992 : decode cL_law 1992 = .ok (.goto 296, 3) := fo_167 (fw_get da_cL_law_71 10 rfl) (by decide +kernel)
theorem dL_law_1995 : decode cL_law 1995 = .ok (.aload_n 1, 1) := fo_43 (fw_get da_cL_law_71 11 rfl)
theorem dL_law_1996 : decode cL_law 1996 = .ok (.aload_n 0, 1) := fo_42 (fw_get da_cL_law_71 12 rfl)
theorem dL_law_1997 : decode cL_law 1997 = .ok (.iload 4, 2) := fo_21 (fw_get da_cL_law_71 13 rfl)
theorem dL_law_1999 : decode cL_law 1999 = .ok (.iconst 1, 1) := fo_4 (fw_get da_cL_law_71 14 rfl)
theorem dL_law_2000 : decode cL_law 2000 = .ok (.iadd, 1) := fo_96 (fw_get da_cL_law_71 15 rfl)
theorem dL_law_2001 : decode cL_law 2001 = .ok (.iaload, 1) := fo_46 (fw_get da_cL_law_71 16 rfl)
theorem dL_law_2002 : decode cL_law 2002 = .ok (.aload_n 0, 1) := fo_42 (fw_get da_cL_law_71 17 rfl)
theorem dL_law_2003 : decode cL_law 2003 = .ok (.iload 4, 2) := fo_21 (fw_get da_cL_law_71 18 rfl)
theorem dL_law_2005 : decode cL_law 2005 = .ok (.iconst 2, 1) := fo_5 (fw_get da_cL_law_71 19 rfl)
def dt_cL_law_72 : List (Nat × Nat × Nat × Nat) := [(2006, 96, 0, 0), (2007, 46, 0, 0), (2008, 42, 0, 0), (2009, 21, 1, 4), (2011, 6, 0, 0), (2012, 96, 0, 0), (2013, 46, 0, 0), (2014, 42, 0, 0), (2015, 21, 1, 4), (2017, 7, 0, 0)]
theorem da_cL_law_72 : fw dt_cL_law_72 0 cL_law.data.toList = true := by decide +kernel
theorem dL_law_2006 : decode cL_law 2006 = .ok (.iadd, 1) := fo_96 (fw_get da_cL_law_72 0 rfl)
theorem dL_law_2007 : decode cL_law 2007 = .ok (.iaload, 1) := fo_46 (fw_get da_cL_law_72 1 rfl)
theorem dL_law_2008 : decode cL_law 2008 = .ok (.aload_n 0, 1) := fo_42 (fw_get da_cL_law_72 2 rfl)
theorem dL_law_2009 : decode cL_law 2009 = .ok (.iload 4, 2) := fo_21 (fw_get da_cL_law_72 3 rfl)
theorem dL_law_2011 : decode cL_law 2011 = .ok (.iconst 3, 1) := fo_6 (fw_get da_cL_law_72 4 rfl)
theorem dL_law_2012 : decode cL_law 2012 = .ok (.iadd, 1) := fo_96 (fw_get da_cL_law_72 5 rfl)
theorem dL_law_2013 : decode cL_law 2013 = .ok (.iaload, 1) := fo_46 (fw_get da_cL_law_72 6 rfl)
theorem dL_law_2014 : decode cL_law 2014 = .ok (.aload_n 0, 1) := fo_42 (fw_get da_cL_law_72 7 rfl)
theorem dL_law_2015 : decode cL_law 2015 = .ok (.iload 4, 2) := fo_21 (fw_get da_cL_law_72 8 rfl)
theorem dL_law_2017 : decode cL_law 2017 = .ok (.iconst 4, 1) := fo_7 (fw_get da_cL_law_72 9 rfl)


def dt_cL_law_73 : List (Nat × Nat × Nat × Nat) := [(2018, 96, 0, 0), (2019, 46, 0, 0), (2020, 42, 0, 0), (2021, 21, 1, 4), (2023, 8, 0, 0), (2024, 96, 0, 0), (2025, 46, 0, 0), (2026, 182, 2, 191), (2029, 87, 0, 0), (2030, 44, 0, 0), (2031, 42, 0, 0), (2032, 21, 1, 4), (2034, 4, 0, 0), (2035, 96, 0, 0), (2036, 46, 0, 0), (2037, 42, 0, 0), (2038, 21, 1, 4), (2040, 5, 0, 0), (2041, 96, 0, 0), (2042, 46, 0, 0)]
theorem da_cL_law_73 : fw dt_cL_law_73 0 cL_law.data.toList = true := by decide +kernel
theorem dL_law_2018 : decode cL_law 2018 = .ok (.iadd, 1) := fo_96 (fw_get da_cL_law_73 0 rfl)
theorem dL_law_2019 : decode cL_law 2019 = .ok (.iaload, 1) := fo_46 (fw_get da_cL_law_73 1 rfl)
theorem dL_law_2020 : decode cL_law 2020 = .ok (.aload_n 0, 1) := fo_42 (fw_get da_cL_law_73 2 rfl)
theorem dL_law_2021 : decode cL_law 2021 = .ok (.iload 4, 2) := fo_21 (fw_get da_cL_law_73 3 rfl)
theorem dL_law_2023 : decode cL_law 2023 = .ok (.iconst 5, 1) := fo_8 (fw_get da_cL_law_73 4 rfl)
theorem dL_law_2024 : decode cL_law 2024 = .ok (.iadd, 1) := fo_96 (fw_get da_cL_law_73 5 rfl)
theorem dL_law_2025 : decode cL_law 2025 = .ok (.iaload, 1) := fo_46 (fw_get da_cL_law_73 6 rfl)
theorem dL_law_2026 : decode cL_law 2026 = .ok (.invokevirtual 191, 3) := fo_182 (fw_get da_cL_law_73 7 rfl)
theorem dL_law_2029 : decode cL_law 2029 = .ok (.pop, 1) := fo_87 (fw_get da_cL_law_73 8 rfl)
theorem dL_law_2030 : decode cL_law 2030 = .ok (.aload_n 2, 1) := fo_44 (fw_get da_cL_law_73 9 rfl)
theorem dL_law_2031 : decode cL_law 2031 = .ok (.aload_n 0, 1) := fo_42 (fw_get da_cL_law_73 10 rfl)
theorem dL_law_2032 : decode cL_law 2032 = .ok (.iload 4, 2) := fo_21 (fw_get da_cL_law_73 11 rfl)
theorem dL_law_2034 : decode cL_law 2034 = .ok (.iconst 1, 1) := fo_4 (fw_get da_cL_law_73 12 rfl)
theorem dL_law_2035 : decode cL_law 2035 = .ok (.iadd, 1) := fo_96 (fw_get da_cL_law_73 13 rfl)
theorem dL_law_2036 : decode cL_law 2036 = .ok (.iaload, 1) := fo_46 (fw_get da_cL_law_73 14 rfl)
theorem dL_law_2037 : decode cL_law 2037 = .ok (.aload_n 0, 1) := fo_42 (fw_get da_cL_law_73 15 rfl)
theorem dL_law_2038 : decode cL_law 2038 = .ok (.iload 4, 2) := fo_21 (fw_get da_cL_law_73 16 rfl)
theorem dL_law_2040 : decode cL_law 2040 = .ok (.iconst 2, 1) := fo_5 (fw_get da_cL_law_73 17 rfl)
theorem dL_law_2041 : decode cL_law 2041 = .ok (.iadd, 1) := fo_96 (fw_get da_cL_law_73 18 rfl)
theorem dL_law_2042 : decode cL_law 2042 = .ok (.iaload, 1) := fo_46 (fw_get da_cL_law_73 19 rfl)
def dt_cL_law_74 : List (Nat × Nat × Nat × Nat) := [(2043, 42, 0, 0), (2044, 21, 1, 4), (2046, 6, 0, 0), (2047, 96, 0, 0), (2048, 46, 0, 0), (2049, 42, 0, 0), (2050, 21, 1, 4), (2052, 7, 0, 0), (2053, 96, 0, 0), (2054, 46, 0, 0), (2055, 42, 0, 0), (2056, 21, 1, 4), (2058, 8, 0, 0), (2059, 96, 0, 0), (2060, 46, 0, 0), (2061, 182, 2, 195), (2064, 87, 0, 0), (2065, 167, 2, 223), (2068, 43, 0, 0), (2069, 42, 0, 0)]
theorem da_cL_law_74 : fw dt_cL_law_74 0 cL_law.data.toList = true := by decide +kernel
theorem dL_law_2043 : decode cL_law 2043 = .ok (.aload_n 0, 1) := fo_42 (fw_get da_cL_law_74 0 rfl)
theorem dL_law_2044 : decode cL_law 2044 = .ok (.iload 4, 2) := fo_21 (fw_get da_cL_law_74 1 rfl)
theorem dL_law_2046 : decode cL_law 2046 = .ok (.iconst 3, 1) := fo_6 (fw_get da_cL_law_74 2 rfl)
theorem dL_law_2047 : decode cL_law 2047 = .ok (.iadd, 1) := fo_96 (fw_get da_cL_law_74 3 rfl)
theorem dL_law_2048 : decode cL_law 2048 = .ok (.iaload, 1) := fo_46 (fw_get da_cL_law_74 4 rfl)
theorem dL_law_2049 : decode cL_law 2049 = .ok (.aload_n 0, 1) := fo_42 (fw_get da_cL_law_74 5 rfl)
theorem dL_law_2050 : decode cL_law 2050 = .ok (.iload 4, 2) := fo_21 (fw_get da_cL_law_74 6 rfl)
theorem dL_law_2052 : decode cL_law 2052 = .ok (.iconst 4, 1) := fo_7 (fw_get da_cL_law_74 7 rfl)
theorem dL_law_2053 : decode cL_law 2053 = .ok (.iadd, 1) := fo_96 (fw_get da_cL_law_74 8 rfl)
theorem dL_law_2054 : decode cL_law 2054 = .ok (.iaload, 1) := fo_46 (fw_get da_cL_law_74 9 rfl)
theorem dL_law_2055 : decode cL_law 2055 = .ok (.aload_n 0, 1) := fo_42 (fw_get da_cL_law_74 10 rfl)
theorem dL_law_2056 : decode cL_law 2056 = .ok (.iload 4, 2) := fo_21 (fw_get da_cL_law_74 11 rfl)
theorem dL_law_2058 : decode cL_law 2058 = .ok (.iconst 5, 1) := fo_8 (fw_get da_cL_law_74 12 rfl)
theorem dL_law_2059 : decode cL_law 2059 = .ok (.iadd, 1) := fo_96 (fw_get da_cL_law_74 13 rfl)
theorem dL_law_2060 : decode cL_law 2060 = .ok (.iaload, 1) := fo_46 (fw_get da_cL_law_74 14 rfl)
theorem dL_law_2061 : decode cL_law 2061 = .ok (.invokevirtual 195, 3) := fo_182 (fw_get da_cL_law_74 15 rfl)
theorem dL_law_2064 : decode cL_law 2064 = .ok (.pop, 1) := fo_87 (fw_get da_cL_law_74 16 rfl)
theorem dL_law_2065 : decode cL_law 2065 = .ok (.goto 223, 3) := fo_167 (fw_get da_cL_law_74 17 rfl) (by decide +kernel)
theorem dL_law_2068 : decode cL_law 2068 = .ok (.aload_n 1, 1) := fo_43 (fw_get da_cL_law_74 18 rfl)
theorem dL_law_2069 : decode cL_law 2069 = .ok (.aload_n 0, 1) := fo_42 (fw_get da_cL_law_74 19 rfl)
def dt_cL_law_75 : List (Nat × Nat × Nat × Nat) := [(2070, 21, 1, 4), (2072, 4, 0, 0), (2073, 96, 0, 0), (2074, 46, 0, 0), (2075, 42, 0, 0), (2076, 21, 1, 4), (2078, 5, 0, 0), (2079, 96, 0, 0), (2080, 46, 0, 0), (2081, 42, 0, 0), (2082, 21, 1, 4), (2084, 6, 0, 0), (2085, 96, 0, 0), (2086, 46, 0, 0), (2087, 42, 0, 0), (2088, 21, 1, 4), (2090, 7, 0, 0), (2091, 96, 0, 0), (2092, 46, 0, 0), (2093, 42, 0, 0)]
theorem da_cL_law_75 : fw dt_cL_law_75 0 cL_law.data.toList = true := by decide +kernel
theorem dL_law_2070 : decode cL_law 2070 = .ok (.iload 4, 2) := fo_21 (fw_get da_cL_law_75 0 rfl)
theorem dL_law_2072 : decode cL_law 2072 = .ok (.iconst 1, 1) := fo_4 (fw_get da_cL_law_75 1 rfl)
theorem dL_law_2073 : decode cL_law 2073 = .ok (.iadd, 1) := fo_96 (fw_get da_cL_law_75 2 rfl)
theorem dL_law_2074 : decode cL_law 2074 = .ok (.iaload, 1) := fo_46 (fw_get da_cL_law_75 3 rfl)
theorem dL_law_2075 : decode cL_law 2075 = .ok (.aload_n 0, 1) := fo_42 (fw_get da_cL_law_75 4 rfl)
theorem dL_law_2076 : decode cL_law 2076 = .ok (.iload 4, 2) := fo_21 (fw_get da_cL_law_75 5 rfl)
theorem dL_law_2078 : decode cL_law 2078 = .ok (.iconst 2, 1) := fo_5 (fw_get da_cL_law_75 6 rfl)
theorem dL_law_2079 : decode cL_law 2079 = .ok (.iadd, 1) := fo_96 (fw_get da_cL_law_75 7 rfl)
theorem dL_law_2080 : decode cL_law 2080 = .ok (.iaload, 1) := fo_46 (fw_get da_cL_law_75 8 rfl)
theorem dL_law_2081 : decode cL_law 2081 = .ok (.aload_n 0, 1) := fo_42 (fw_get da_cL_law_75 9 rfl)
theorem dL_law_2082 : decode cL_law 2082 = .ok (.iload 4, 2) := fo_21 (fw_get da_cL_law_75 10 rfl)
theorem dL_law_2084 : decode cL_law 2084 = .ok (.iconst 3, 1) := fo_6 (fw_get da_cL_law_75 11 rfl)
theorem dL_law_2085 : decode cL_law 2085 = .ok (.iadd, 1) := fo_96 (fw_get da_cL_law_75 12 rfl)
theorem dL_law_2086 : decode cL_law 2086 = .ok (.iaload, 1) := fo_46 (fw_get da_cL_law_75 13 rfl)
theorem dL_law_2087 : decode cL_law 2087 = .ok (.aload_n 0, 1) := fo_42 (fw_get da_cL_law_75 14 rfl)
theorem dL_law_2088 : decode cL_law 2088 = .ok (.iload 4, 2) := fo_21 (fw_get da_cL_law_75 15 rfl)
theorem dL_law_2090 : decode cL_law 2090 = .ok (.iconst 4, 1) := fo_7 (fw_get da_cL_law_75 16 rfl)
theorem dL_law_2091 : decode cL_law 2091 = .ok (.iadd, 1) := fo_96 (fw_get da_cL_law_75 17 rfl)
theorem dL_law_2092 : decode cL_law 2092 = .ok (.iaload, 1) := fo_46 (fw_get da_cL_law_75 18 rfl)
theorem dL_law_2093 : decode cL_law 2093 = .ok (.aload_n 0, 1) := fo_42 (fw_get da_cL_law_75 19 rfl)
def dt_cL_law_76 : List (Nat × Nat × Nat × Nat) := [(2094, 21, 1, 4), (2096, 8, 0, 0), (2097, 96, 0, 0), (2098, 46, 0, 0), (2099, 182, 2, 196), (2102, 87, 0, 0), (2103, 44, 0, 0), (2104, 42, 0, 0), (2105, 21, 1, 4), (2107, 4, 0, 0), (2108, 96, 0, 0), (2109, 46, 0, 0), (2110, 42, 0, 0), (2111, 21, 1, 4), (2113, 5, 0, 0), (2114, 96, 0, 0), (2115, 46, 0, 0), (2116, 42, 0, 0), (2117, 21, 1, 4), (2119, 6, 0, 0)]
theorem da_cL_law_76 : fw dt_cL_law_76 0 cL_law.data.toList = true := by decide +kernel
theorem dL_law_2094 : decode cL_law 2094 = .ok (.iload 4, 2) := fo_21 (fw_get da_cL_law_76 0 rfl)
theorem dL_law_2096 : decode cL_law 2096 = .ok (.iconst 5, 1) := fo_8 (fw_get da_cL_law_76 1 rfl)
theorem dL_law_2097 : decode cL_law 2097 = .ok (.iadd, 1) := fo_96 (fw_get da_cL_law_76 2 rfl)
theorem dL_law_2098 : decode cL_law 2098 = .ok (.iaload, 1) := fo_46 (fw_get da_cL_law_76 3 rfl)
theorem dL_law_2099 : decode cL_law 2099 = .ok (.invokevirtual 196, 3) := fo_182 (fw_get da_cL_law_76 4 rfl)
theorem dL_law_2102 : decode cL_law 2102 = .ok (.pop, 1) := fo_87 (fw_get da_cL_law_76 5 rfl)
theorem dL_law_2103 : decode cL_law 2103 = .ok (.aload_n 2, 1) := fo_44 (fw_get da_cL_law_76 6 rfl)
theorem dL_law_2104 : decode cL_law 2104 = .ok (.aload_n 0, 1) := fo_42 (fw_get da_cL_law_76 7 rfl)
theorem dL_law_2105 : decode cL_law 2105 = .ok (.iload 4, 2) := fo_21 (fw_get da_cL_law_76 8 rfl)
theorem dL_law_2107 : decode cL_law 2107 = .ok (.iconst 1, 1) := fo_4 (fw_get da_cL_law_76 9 rfl)
theorem dL_law_2108 : decode cL_law 2108 = .ok (.iadd, 1) := fo_96 (fw_get da_cL_law_76 10 rfl)
theorem dL_law_2109 : decode cL_law 2109 = .ok (.iaload, 1) := fo_46 (fw_get da_cL_law_76 11 rfl)
theorem dL_law_2110 : decode cL_law 2110 = .ok (.aload_n 0, 1) := fo_42 (fw_get da_cL_law_76 12 rfl)
theorem dL_law_2111 : decode cL_law 2111 = .ok (.iload 4, 2) := fo_21 (fw_get da_cL_law_76 13 rfl)
theorem dL_law_2113 : decode cL_law 2113 = .ok (.iconst 2, 1) := fo_5 (fw_get da_cL_law_76 14 rfl)
theorem dL_law_2114 : decode cL_law 2114 = .ok (.iadd, 1) := fo_96 (fw_get da_cL_law_76 15 rfl)
theorem dL_law_2115 : decode cL_law 2115 = .ok (.iaload, 1) := fo_46 (fw_get da_cL_law_76 16 rfl)
theorem dL_law_2116 : decode cL_law 2116 = .ok (.aload_n 0, 1) := fo_42 (fw_get da_cL_law_76 17 rfl)
theorem dL_law_2117 : decode cL_law 2117 = .ok (.iload 4, 2) := fo_21 (fw_get da_cL_law_76 18 rfl)
theorem dL_law_2119 : decode cL_law 2119 = .ok (.iconst 3, 1) := fo_6 (fw_get da_cL_law_76 19 rfl)
def dt_cL_law_77 : List (Nat × Nat × Nat × Nat) := [(2120, 96, 0, 0), (2121, 46, 0, 0), (2122, 42, 0, 0), (2123, 21, 1, 4), (2125, 7, 0, 0), (2126, 96, 0, 0), (2127, 46, 0, 0), (2128, 42, 0, 0), (2129, 21, 1, 4), (2131, 8, 0, 0), (2132, 96, 0, 0), (2133, 46, 0, 0), (2134, 182, 2, 199), (2137, 87, 0, 0), (2138, 167, 2, 150), (2141, 43, 0, 0), (2142, 42, 0, 0), (2143, 21, 1, 4), (2145, 4, 0, 0), (2146, 96, 0, 0)]
theorem da_cL_law_77 : fw dt_cL_law_77 0 cL_law.data.toList = true := by decide +kernel
theorem dL_law_2120 : decode cL_law 2120 = .ok (.iadd, 1) := fo_96 (fw_get da_cL_law_77 0 rfl)
theorem dL_law_2121 : decode cL_law 2121 = .ok (.iaload, 1) := fo_46 (fw_get da_cL_law_77 1 rfl)
theorem dL_law_2122 : decode cL_law 2122 = .ok (.aload_n 0, 1) := fo_42 (fw_get da_cL_law_77 2 rfl)
theorem dL_law_2123 : decode cL_law 2123 = .ok (.iload 4, 2) := fo_21 (fw_get da_cL_law_77 3 rfl)
theorem dL_law_2125 : decode cL_law 2125 = .ok (.iconst 4, 1) := fo_7 (fw_get da_cL_law_77 4 rfl)
theorem dL_law_2126 : decode cL_law 2126 = .ok (.iadd, 1) := fo_96 (fw_get da_cL_law_77 5 rfl)
theorem dL_law_2127 : decode cL_law 2127 = .ok (.iaload, 1) := fo_46 (fw_get da_cL_law_77 6 rfl)
theorem dL_law_2128 : decode cL_law 2128 = .ok (.aload_n 0, 1) := fo_42 (fw_get da_cL_law_77 7 rfl)
theorem dL_law_2129 : decode cL_law 2129 = .ok (.iload 4, 2) := fo_21 (fw_get da_cL_law_77 8 rfl)
theorem dL_law_2131 : decode cL_law 2131 = .ok (.iconst 5, 1) := fo_8 (fw_get da_cL_law_77 9 rfl)
theorem dL_law_2132 : decode cL_law 2132 = .ok (.iadd, 1) := fo_96 (fw_get da_cL_law_77 10 rfl)
theorem dL_law_2133 : decode cL_law 2133 = .ok (.iaload, 1) := fo_46 (fw_get da_cL_law_77 11 rfl)
theorem dL_law_2134 : decode cL_law 2134 = .ok (.invokevirtual 199, 3) := fo_182 (fw_get da_cL_law_77 12 rfl)
theorem dL_law_2137 : decode cL_law 2137 = .ok (.pop, 1) := fo_87 (fw_get da_cL_law_77 13 rfl)
theorem dL_law_2138 : decode cL_law 2138 = .ok (.goto 150, 3) := fo_167 (fw_get da_cL_law_77 14 rfl) (by decide +kernel)
theorem dL_law_2141 : decode cL_law 2141 = .ok (.aload_n 1, 1) := fo_43 (fw_get da_cL_law_77 15 rfl)
theorem dL_law_2142 : decode cL_law 2142 = .ok (.aload_n 0, 1) := fo_42 (fw_get da_cL_law_77 16 rfl)
theorem dL_law_2143 : decode cL_law 2143 = .ok (.iload 4, 2) := fo_21 (fw_get da_cL_law_77 17 rfl)
theorem dL_law_2145 : decode cL_law 2145 = .ok (.iconst 1, 1) := fo_4 (fw_get da_cL_law_77 18 rfl)
theorem dL_law_2146 : decode cL_law 2146 = .ok (.iadd, 1) := fo_96 (fw_get da_cL_law_77 19 rfl)
def dt_cL_law_78 : List (Nat × Nat × Nat × Nat) := [(2147, 46, 0, 0), (2148, 42, 0, 0), (2149, 21, 1, 4), (2151, 5, 0, 0), (2152, 96, 0, 0), (2153, 46, 0, 0), (2154, 42, 0, 0), (2155, 21, 1, 4), (2157, 6, 0, 0), (2158, 96, 0, 0), (2159, 46, 0, 0), (2160, 42, 0, 0), (2161, 21, 1, 4), (2163, 7, 0, 0), (2164, 96, 0, 0), (2165, 46, 0, 0), (2166, 182, 2, 200), (2169, 87, 0, 0), (2170, 44, 0, 0), (2171, 42, 0, 0)]
theorem da_cL_law_78 : fw dt_cL_law_78 0 cL_law.data.toList = true := by decide +kernel
theorem dL_law_2147 : decode cL_law 2147 = .ok (.iaload, 1) := fo_46 (fw_get da_cL_law_78 0 rfl)
theorem dL_law_2148 : decode cL_law 2148 = .ok (.aload_n 0, 1) := fo_42 (fw_get da_cL_law_78 1 rfl)
theorem dL_law_2149 : decode cL_law 2149 = .ok (.iload 4, 2) := fo_21 (fw_get da_cL_law_78 2 rfl)
theorem dL_law_2151 : decode cL_law 2151 = .ok (.iconst 2, 1) := fo_5 (fw_get da_cL_law_78 3 rfl)
theorem dL_law_2152 : decode cL_law 2152 = .ok (.iadd, 1) := fo_96 (fw_get da_cL_law_78 4 rfl)
theorem dL_law_2153 : decode cL_law 2153 = .ok (.iaload, 1) := fo_46 (fw_get da_cL_law_78 5 rfl)
theorem dL_law_2154 : decode cL_law 2154 = .ok (.aload_n 0, 1) := fo_42 (fw_get da_cL_law_78 6 rfl)
theorem dL_law_2155 : decode cL_law 2155 = .ok (.iload 4, 2) := fo_21 (fw_get da_cL_law_78 7 rfl)
theorem dL_law_2157 : decode cL_law 2157 = .ok (.iconst 3, 1) := fo_6 (fw_get da_cL_law_78 8 rfl)
theorem dL_law_2158 : decode cL_law 2158 = .ok (.iadd, 1) := fo_96 (fw_get da_cL_law_78 9 rfl)
theorem dL_law_2159 : decode cL_law 2159 = .ok (.iaload, 1) := fo_46 (fw_get da_cL_law_78 10 rfl)
theorem dL_law_2160 : decode cL_law 2160 = .ok (.aload_n 0, 1) := fo_42 (fw_get da_cL_law_78 11 rfl)
theorem dL_law_2161 : decode cL_law 2161 = .ok (.iload 4, 2) := fo_21 (fw_get da_cL_law_78 12 rfl)
theorem dL_law_2163 : decode cL_law 2163 = .ok (.iconst 4, 1) := fo_7 (fw_get da_cL_law_78 13 rfl)
theorem dL_law_2164 : decode cL_law 2164 = .ok (.iadd, 1) := fo_96 (fw_get da_cL_law_78 14 rfl)
theorem dL_law_2165 : decode cL_law 2165 = .ok (.iaload, 1) := fo_46 (fw_get da_cL_law_78 15 rfl)
theorem dL_law_2166 : decode cL_law 2166 = .ok (.invokevirtual 200, 3) := fo_182 (fw_get da_cL_law_78 16 rfl)
theorem dL_law_2169 : decode cL_law 2169 = .ok (.pop, 1) := fo_87 (fw_get da_cL_law_78 17 rfl)
theorem dL_law_2170 : decode cL_law 2170 = .ok (.aload_n 2, 1) := fo_44 (fw_get da_cL_law_78 18 rfl)
theorem dL_law_2171 : decode cL_law 2171 = .ok (.aload_n 0, 1) := fo_42 (fw_get da_cL_law_78 19 rfl)
def dt_cL_law_79 : List (Nat × Nat × Nat × Nat) := [(2172, 21, 1, 4), (2174, 4, 0, 0), (2175, 96, 0, 0), (2176, 46, 0, 0), (2177, 42, 0, 0), (2178, 21, 1, 4), (2180, 5, 0, 0), (2181, 96, 0, 0), (2182, 46, 0, 0), (2183, 42, 0, 0), (2184, 21, 1, 4), (2186, 6, 0, 0), (2187, 96, 0, 0), (2188, 46, 0, 0), (2189, 42, 0, 0), (2190, 21, 1, 4), (2192, 7, 0, 0), (2193, 96, 0, 0), (2194, 46, 0, 0), (2195, 182, 2, 203)]
theorem da_cL_law_79 : fw dt_cL_law_79 0 cL_law.data.toList = true := by decide +kernel
theorem dL_law_2172 : decode cL_law 2172 = .ok (.iload 4, 2) := fo_21 (fw_get da_cL_law_79 0 rfl)
theorem dL_law_2174 : decode cL_law 2174 = .ok (.iconst 1, 1) := fo_4 (fw_get da_cL_law_79 1 rfl)
theorem dL_law_2175 : decode cL_law 2175 = .ok (.iadd, 1) := fo_96 (fw_get da_cL_law_79 2 rfl)
theorem dL_law_2176 : decode cL_law 2176 = .ok (.iaload, 1) := fo_46 (fw_get da_cL_law_79 3 rfl)
theorem dL_law_2177 : decode cL_law 2177 = .ok (.aload_n 0, 1) := fo_42 (fw_get da_cL_law_79 4 rfl)
theorem dL_law_2178 : decode cL_law 2178 = .ok (.iload 4, 2) := fo_21 (fw_get da_cL_law_79 5 rfl)
theorem dL_law_2180 : decode cL_law 2180 = .ok (.iconst 2, 1) := fo_5 (fw_get da_cL_law_79 6 rfl)
theorem dL_law_2181 : decode cL_law 2181 = .ok (.iadd, 1) := fo_96 (fw_get da_cL_law_79 7 rfl)
theorem dL_law_2182 : decode cL_law 2182 = .ok (.iaload, 1) := fo_46 (fw_get da_cL_law_79 8 rfl)
theorem dL_law_2183 : decode cL_law 2183 = .ok (.aload_n 0, 1) := fo_42 (fw_get da_cL_law_79 9 rfl)
theorem dL_law_2184 : decode cL_law 2184 = .ok (.iload 4, 2) := fo_21 (fw_get da_cL_law_79 10 rfl)
theorem dL_law_2186 : decode cL_law 2186 = .ok (.iconst 3, 1) := fo_6 (fw_get da_cL_law_79 11 rfl)
theorem dL_law_2187 : decode cL_law 2187 = .ok (.iadd, 1) := fo_96 (fw_get da_cL_law_79 12 rfl)
theorem dL_law_2188 : decode cL_law 2188 = .ok (.iaload, 1) := fo_46 (fw_get da_cL_law_79 13 rfl)
theorem dL_law_2189 : decode cL_law 2189 = .ok (.aload_n 0, 1) := fo_42 (fw_get da_cL_law_79 14 rfl)
theorem dL_law_2190 : decode cL_law 2190 = .ok (.iload 4, 2) := fo_21 (fw_get da_cL_law_79 15 rfl)
theorem dL_law_2192 : decode cL_law 2192 = .ok (.iconst 4, 1) := fo_7 (fw_get da_cL_law_79 16 rfl)
theorem dL_law_2193 : decode cL_law 2193 = .ok (.iadd, 1) := fo_96 (fw_get da_cL_law_79 17 rfl)
theorem dL_law_2194 : decode cL_law 2194 = .ok (.iaload, 1) := fo_46 (fw_get da_cL_law_79 18 rfl)
theorem dL_law_2195 : decode cL_law 2195 = .ok (.invokevirtual 203, 3) := fo_182 (fw_get da_cL_law_79 19 rfl)
def dt_cL_law_80 : List (Nat × Nat × Nat × Nat) := [(2198, 87, 0, 0), (2199, 167, 2, 89), (2202, 43, 0, 0), (2203, 42, 0, 0), (2204, 21, 1, 4), (2206, 4, 0, 0), (2207, 96, 0, 0), (2208, 46, 0, 0), (2209, 42, 0, 0), (2210, 21, 1, 4)]
theorem da_cL_law_80 : fw dt_cL_law_80 0 cL_law.data.toList = true := by decide +kernel
theorem dL_law_2198 : decode cL_law 2198 = .ok (.pop, 1) := fo_87 (fw_get da_cL_law_80 0 rfl)
theorem dL_law_2199 : decode cL_law 2199 = .ok (.goto 89, 3) := fo_167 (fw_get da_cL_law_80 1 rfl) (by decide +kernel)
theorem dL_law_2202 : decode cL_law 2202 = .ok (.aload_n 1, 1) := fo_43 (fw_get da_cL_law_80 2 rfl)
theorem dL_law_2203 : decode cL_law 2203 = .ok (.aload_n 0, 1) := fo_42 (fw_get da_cL_law_80 3 rfl)
theorem dL_law_2204 : decode cL_law 2204 = .ok (.iload 4, 2) := fo_21 (fw_get da_cL_law_80 4 rfl)
theorem dL_law_2206 : decode cL_law 2206 = .ok (.iconst 1, 1) := fo_4 (fw_get da_cL_law_80 5 rfl)
theorem dL_law_2207 : decode cL_law 2207 = .ok (.iadd, 1) := fo_96 (fw_get da_cL_law_80 6 rfl)
theorem dL_law_2208 : decode cL_law 2208 = .ok (.iaload, 1) := fo_46 (fw_get da_cL_law_80 7 rfl)
theorem dL_law_2209 : decode cL_law 2209 = .ok (.aload_n 0, 1) := fo_42 (fw_get da_cL_law_80 8 rfl)
theorem dL_law_2210 : decode cL_law 2210 = .ok (.iload 4, 2) := fo_21 (fw_get da_cL_law_80 9 rfl)


def dt_cL_law_81 : List (Nat × Nat × Nat × Nat) := [(2212, 5, 0, 0), (2213, 96, 0, 0), (2214, 46, 0, 0), (2215, 42, 0, 0), (2216, 21, 1, 4), (2218, 6, 0, 0), (2219, 96, 0, 0), (2220, 46, 0, 0), (2221, 42, 0, 0), (2222, 21, 1, 4), (2224, 7, 0, 0), (2225, 96, 0, 0), (2226, 46, 0, 0), (2227, 182, 2, 204), (2230, 87, 0, 0), (2231, 44, 0, 0), (2232, 42, 0, 0), (2233, 21, 1, 4), (2235, 4, 0, 0), (2236, 96, 0, 0)]
theorem da_cL_law_81 : fw dt_cL_law_81 0 cL_law.data.toList = true := by decide +kernel
theorem dL_law_2212 : decode cL_law 2212 = .ok (.iconst 2, 1) := fo_5 (fw_get da_cL_law_81 0 rfl)
theorem dL_law_2213 : decode cL_law 2213 = .ok (.iadd, 1) := fo_96 (fw_get da_cL_law_81 1 rfl)
theorem dL_law_2214 : decode cL_law 2214 = .ok (.iaload, 1) := fo_46 (fw_get da_cL_law_81 2 rfl)
theorem dL_law_2215 : decode cL_law 2215 = .ok (.aload_n 0, 1) := fo_42 (fw_get da_cL_law_81 3 rfl)
theorem dL_law_2216 : decode cL_law 2216 = .ok (.iload 4, 2) := fo_21 (fw_get da_cL_law_81 4 rfl)
theorem dL_law_2218 : decode cL_law 2218 = .ok (.iconst 3, 1) := fo_6 (fw_get da_cL_law_81 5 rfl)
theorem dL_law_2219 : decode cL_law 2219 = .ok (.iadd, 1) := fo_96 (fw_get da_cL_law_81 6 rfl)
theorem dL_law_2220 : decode cL_law 2220 = .ok (.iaload, 1) := fo_46 (fw_get da_cL_law_81 7 rfl)
theorem dL_law_2221 : decode cL_law 2221 = .ok (.aload_n 0, 1) := fo_42 (fw_get da_cL_law_81 8 rfl)
theorem dL_law_2222 : decode cL_law 2222 = .ok (.iload 4, 2) := fo_21 (fw_get da_cL_law_81 9 rfl)
theorem dL_law_2224 : decode cL_law 2224 = .ok (.iconst 4, 1) := fo_7 (fw_get da_cL_law_81 10 rfl)
theorem dL_law_2225 : decode cL_law 2225 = .ok (.iadd, 1) := fo_96 (fw_get da_cL_law_81 11 rfl)
theorem dL_law_2226 : decode cL_law 2226 = .ok (.iaload, 1) := fo_46 (fw_get da_cL_law_81 12 rfl)
theorem dL_law_2227 : decode cL_law 2227 = .ok (.invokevirtual 204, 3) := fo_182 (fw_get da_cL_law_81 13 rfl)
theorem dL_law_2230 : decode cL_law 2230 = .ok (.pop, 1) := fo_87 (fw_get da_cL_law_81 14 rfl)
theorem dL_law_2231 : decode cL_law 2231 = .ok (.aload_n 2, 1) := fo_44 (fw_get da_cL_law_81 15 rfl)
theorem dL_law_2232 : decode cL_law 2232 = .ok (.aload_n 0, 1) := fo_42 (fw_get da_cL_law_81 16 rfl)
theorem dL_law_2233 : decode cL_law 2233 = .ok (.iload 4, 2) := fo_21 (fw_get da_cL_law_81 17 rfl)
theorem dL_law_2235 : decode cL_law 2235 = .ok (.iconst 1, 1) := fo_4 (fw_get da_cL_law_81 18 rfl)
theorem dL_law_2236 : decode cL_law 2236 = .ok (.iadd, 1) := fo_96 (fw_get da_cL_law_81 19 rfl)
def dt_cL_law_82 : List (Nat × Nat × Nat × Nat) := [(2237, 46, 0, 0), (2238, 42, 0, 0), (2239, 21, 1, 4), (2241, 5, 0, 0), (2242, 96, 0, 0), (2243, 46, 0, 0), (2244, 42, 0, 0), (2245, 21, 1, 4), (2247, 6, 0, 0), (2248, 96, 0, 0), (2249, 46, 0, 0), (2250, 42, 0, 0), (2251, 21, 1, 4), (2253, 7, 0, 0), (2254, 96, 0, 0), (2255, 46, 0, 0), (2256, 182, 2, 207), (2259, 87, 0, 0), (2260, 167, 2, 28), (2263, 43, 0, 0)]
theorem da_cL_law_82 : fw dt_cL_law_82 0 cL_law.data.toList = true := by decide +kernel
theorem dL_law_2237 : decode cL_law 2237 = .ok (.iaload, 1) := fo_46 (fw_get da_cL_law_82 0 rfl)
theorem dL_law_2238 : decode cL_law 2238 = .ok (.aload_n 0, 1) := fo_42 (fw_get da_cL_law_82 1 rfl)
theorem dL_law_2239 : decode cL_law 2239 = .ok (.iload 4, 2) := fo_21 (fw_get da_cL_law_82 2 rfl)
theorem dL_law_2241 : decode cL_law 2241 = .ok (.iconst 2, 1) := fo_5 (fw_get da_cL_law_82 3 rfl)
theorem dL_law_2242 : decode cL_law 2242 = .ok (.iadd, 1) := fo_96 (fw_get da_cL_law_82 4 rfl)
theorem dL_law_2243 : decode cL_law 2243 = .ok (.iaload, 1) := fo_46 (fw_get da_cL_law_82 5 rfl)
theorem dL_law_2244 : decode cL_law 2244 = .ok (.aload_n 0, 1) := fo_42 (fw_get da_cL_law_82 6 rfl)
theorem dL_law_2245 : decode cL_law 2245 = .ok (.iload 4, 2) := fo_21 (fw_get da_cL_law_82 7 rfl)
theorem dL_law_2247 : decode cL_law 2247 = .ok (.iconst 3, 1) := fo_6 (fw_get da_cL_law_82 8 rfl)
theorem dL_law_2248 : decode cL_law 2248 = .ok (.iadd, 1) := fo_96 (fw_get da_cL_law_82 9 rfl)
theorem dL_law_2249 : decode cL_law 2249 = .ok (.iaload, 1) := fo_46 (fw_get da_cL_law_82 10 rfl)
theorem dL_law_2250 : decode cL_law 2250 = .ok (.aload_n 0, 1) := fo_42 (fw_get da_cL_law_82 11 rfl)
theorem dL_law_2251 : decode cL_law 2251 = .ok (.iload 4, 2) := fo_21 (fw_get da_cL_law_82 12 rfl)
theorem dL_law_2253 : decode cL_law 2253 = .ok (.iconst 4, 1) := fo_7 (fw_get da_cL_law_82 13 rfl)
theorem dL_law_2254 : decode cL_law 2254 = .ok (.iadd, 1) := fo_96 (fw_get da_cL_law_82 14 rfl)
theorem dL_law_2255 : decode cL_law 2255 = .ok (.iaload, 1) := fo_46 (fw_get da_cL_law_82 15 rfl)
theorem dL_law_2256 : decode cL_law 2256 = .ok (.invokevirtual 207, 3) := fo_182 (fw_get da_cL_law_82 16 rfl)
theorem dL_law_2259 : decode cL_law 2259 = .ok (.pop, 1) := fo_87 (fw_get da_cL_law_82 17 rfl)
theorem dL_law_2260 : decode cL_law 2260 = .ok (.goto 28, 3) := fo_167 (fw_get da_cL_law_82 18 rfl) (by decide +kernel)
theorem dL_law_2263 : decode cL_law 2263 = .ok (.aload_n 1, 1) := fo_43 (fw_get da_cL_law_82 19 rfl)
def dt_cL_law_83 : List (Nat × Nat × Nat × Nat) := [(2264, 42, 0, 0), (2265, 21, 1, 4), (2267, 4, 0, 0), (2268, 96, 0, 0), (2269, 46, 0, 0), (2270, 182, 2, 208), (2273, 87, 0, 0), (2274, 44, 0, 0), (2275, 42, 0, 0), (2276, 21, 1, 4), (2278, 4, 0, 0), (2279, 96, 0, 0), (2280, 46, 0, 0), (2281, 182, 2, 211), (2284, 87, 0, 0), (2285, 167, 2, 3), (2288, 132, 2, 1032), (2291, 167, 2, 63268), (2294, 4, 0, 0), (2295, 172, 0, 0)]
theorem da_cL_law_83 : fw dt_cL_law_83 0 cL_law.data.toList = true := by decide +kernel
theorem dL_law_2264 : decode cL_law 2264 = .ok (.aload_n 0, 1) := fo_42 (fw_get da_cL_law_83 0 rfl)
theorem dL_law_2265 : decode cL_law 2265 = .ok (.iload 4, 2) := fo_21 (fw_get da_cL_law_83 1 rfl)
theorem dL_law_2267 : decode cL_law 2267 = .ok (.iconst 1, 1) := fo_4 (fw_get da_cL_law_83 2 rfl)
theorem dL_law_2268 : decode cL_law 2268 = .ok (.iadd, 1) := fo_96 (fw_get da_cL_law_83 3 rfl)
theorem dL_law_2269 : decode cL_law 2269 = .ok (.iaload, 1) := fo_46 (fw_get da_cL_law_83 4 rfl)
theorem dL_law_2270 : decode cL_law 2270 = .ok (.invokevirtual 208, 3) := fo_182 (fw_get da_cL_law_83 5 rfl)
theorem dL_law_2273 : decode cL_law 2273 = .ok (.pop, 1) := fo_87 (fw_get da_cL_law_83 6 rfl)
theorem dL_law_2274 : decode cL_law 2274 = .ok (.aload_n 2, 1) := fo_44 (fw_get da_cL_law_83 7 rfl)
theorem dL_law_2275 : decode cL_law 2275 = .ok (.aload_n 0, 1) := fo_42 (fw_get da_cL_law_83 8 rfl)
theorem dL_law_2276 : decode cL_law 2276 = .ok (.iload 4, 2) := fo_21 (fw_get da_cL_law_83 9 rfl)
theorem dL_law_2278 : decode cL_law 2278 = .ok (.iconst 1, 1) := fo_4 (fw_get da_cL_law_83 10 rfl)
theorem dL_law_2279 : decode cL_law 2279 = .ok (.iadd, 1) := fo_96 (fw_get da_cL_law_83 11 rfl)
theorem dL_law_2280 : decode cL_law 2280 = .ok (.iaload, 1) := fo_46 (fw_get da_cL_law_83 12 rfl)
theorem dL_law_2281 : decode cL_law 2281 = .ok (.invokevirtual 211, 3) := fo_182 (fw_get da_cL_law_83 13 rfl)
theorem dL_law_2284 : decode cL_law 2284 = .ok (.pop, 1) := fo_87 (fw_get da_cL_law_83 14 rfl)
theorem dL_law_2285 : decode cL_law 2285 = .ok (.goto 3, 3) := fo_167 (fw_get da_cL_law_83 15 rfl) (by decide +kernel)
theorem dL_law_2288 : decode cL_law 2288 = .ok (.iinc 4 8, 3) := fo_132 (fw_get da_cL_law_83 16 rfl) rfl (by decide +kernel)
theorem dL_law_2291 : decode cL_law 2291 = .ok (.goto (-2268), 3) := fo_167 (fw_get da_cL_law_83 17 rfl) (by decide +kernel)
theorem dL_law_2294 : decode cL_law 2294 = .ok (.iconst 1, 1) := fo_4 (fw_get da_cL_law_83 18 rfl)
theorem dL_law_2295 : decode cL_law 2295 = .ok (.ireturn, 1) := fo_172 (fw_get da_cL_law_83 19 rfl)

