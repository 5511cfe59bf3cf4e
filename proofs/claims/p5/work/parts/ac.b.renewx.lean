set_option maxHeartbeats 4000000 in
set_option maxRecDepth 100000 in
theorem c_X2_renew_x (l : Launch) (dC : Nat → ClassId) (dI : Nat → Nat → Nat) (q_t : Nat) (q_row : Nat) (q_joined : Nat) (q_from : Nat) (q_to : Nat) (q_size : Nat) (q_lossOf : Nat) (q_lessBy : Nat) (q_value : Nat) (q_number : Nat) (nodes : Int32) (here : Int32) (q_cell : Nat) (cyI : ClassId) (len : Int32) (f : Nat → Int32) (ff : Nat → Int32) (ft : Nat → Int32) (fs : Nat → Int32) (fo : Nat → Int32) (uv : Nat → Int32) (un : Nat → Int32) (fe : Nat → Int32) (j_v : Nat) (j_n : Nat) (js : Int32) (jl : Int32) (je : Int32) (jv : Nat → Int32) (jn : Nat → Int32) (p0 : Int32) (p1 : Int32) (sz : Nat) (b0 : 0 ≤ nodes.toInt) (c0 : nodes.toInt ≤ 319) (c1 : len.toInt ≤ 160) (s0 : sixes fs) (t0 : treeOk ff ft nodes.toInt len.toInt) (k0 : 1 ≤ here.toInt) (k1 : here.toInt ≤ 6) (hcr : mj_cr ff ft nodes.toInt) (hOld : ∀ k : Nat, (k : Int) < nodes.toInt → ¬ mj_hit ff ft p0.toInt p1.toInt k → mj_ok here.toNatClampNeg f ff ft fs fo fe uv un k) : Met l yX2_renew wsX2_renew ({ frames := 4, cells := 0, slots := 0, locals := 180 }) (va_Pc [.ref q_t, .int p0, .int p1] (fun U => U.heap.size = sz ∧ va_P (dC, dI) vwCl [kx_2 q_t q_row q_joined q_from q_to q_size q_lossOf q_lessBy q_value q_number nodes here, kx_0 q_row q_cell len, kx_a q_cell cyI 160 f, kx_a q_from cyI 319 ff, kx_a q_to cyI 319 ft, kx_a q_size cyI 319 fs, kx_a q_lossOf cyI 319 fo, kx_a q_lessBy cyI 319 fe, kx_a q_value cyI 1914 uv, kx_a q_number cyI 1914 un, kx_3 q_joined j_v j_n js jl je, kx_a j_v cyI 12 jv, kx_a j_n cyI 12 jn] U.heap ∧ va_K (dC, dI) vwCl [(cyI, .int)] U ∧ va_D (fun _ => True) [kx_2 q_t q_row q_joined q_from q_to q_size q_lossOf q_lessBy q_value q_number nodes here, kx_0 q_row q_cell len, kx_a q_cell cyI 160 f, kx_a q_from cyI 319 ff, kx_a q_to cyI 319 ft, kx_a q_size cyI 319 fs, kx_a q_lossOf cyI 319 fo, kx_a q_lessBy cyI 319 fe, kx_a q_value cyI 1914 uv, kx_a q_number cyI 1914 un, kx_3 q_joined j_v j_n js jl je, kx_a j_v cyI 12 jv, kx_a j_n cyI 12 jn])) (va_Qi (fun (r : Int32) (u : (Nat → Int32) × (Nat → Int32) × (Nat → Int32) × (Nat → Int32) × (Nat → Int32) × Int32 × Int32 × Int32 × (Nat → Int32) × (Nat → Int32)) => sixes u.1 ∧ ∀ k : Nat, (k : Int) < nodes.toInt → mj_ok here.toNatClampNeg f ff ft u.1 u.2.1 u.2.2.1 u.2.2.2.1 u.2.2.2.2.1 k) (fun (u : (Nat → Int32) × (Nat → Int32) × (Nat → Int32) × (Nat → Int32) × (Nat → Int32) × Int32 × Int32 × Int32 × (Nat → Int32) × (Nat → Int32)) (t : State) => va_P (dC, dI) vwCl [kx_2 q_t q_row q_joined q_from q_to q_size q_lossOf q_lessBy q_value q_number nodes here, kx_0 q_row q_cell len, kx_a q_cell cyI 160 f, kx_a q_from cyI 319 ff, kx_a q_to cyI 319 ft, kx_a q_size cyI 319 u.1, kx_a q_lossOf cyI 319 u.2.1, kx_a q_lessBy cyI 319 u.2.2.1, kx_a q_value cyI 1914 u.2.2.2.1, kx_a q_number cyI 1914 u.2.2.2.2.1, kx_3 q_joined j_v j_n u.2.2.2.2.2.1 u.2.2.2.2.2.2.1 u.2.2.2.2.2.2.2.1, kx_a j_v cyI 12 u.2.2.2.2.2.2.2.2.1, kx_a j_n cyI 12 u.2.2.2.2.2.2.2.2.2] t.heap ∧ va_K (dC, dI) vwCl [(cyI, .int)] t ∧ va_D (va_A [kx_2 q_t q_row q_joined q_from q_to q_size q_lossOf q_lessBy q_value q_number nodes here, kx_0 q_row q_cell len, kx_a q_cell cyI 160 f, kx_a q_from cyI 319 ff, kx_a q_to cyI 319 ft, kx_a q_size cyI 319 fs, kx_a q_lossOf cyI 319 fo, kx_a q_lessBy cyI 319 fe, kx_a q_value cyI 1914 uv, kx_a q_number cyI 1914 un, kx_3 q_joined j_v j_n js jl je, kx_a j_v cyI 12 jv, kx_a j_n cyI 12 jn] sz) [kx_2 q_t q_row q_joined q_from q_to q_size q_lossOf q_lessBy q_value q_number nodes here, kx_0 q_row q_cell len, kx_a q_cell cyI 160 f, kx_a q_from cyI 319 ff, kx_a q_to cyI 319 ft, kx_a q_size cyI 319 u.1, kx_a q_lossOf cyI 319 u.2.1, kx_a q_lessBy cyI 319 u.2.2.1, kx_a q_value cyI 1914 u.2.2.2.1, kx_a q_number cyI 1914 u.2.2.2.2.1, kx_3 q_joined j_v j_n u.2.2.2.2.2.1 u.2.2.2.2.2.2.1 u.2.2.2.2.2.2.2.1, kx_a j_v cyI 12 u.2.2.2.2.2.2.2.2.1, kx_a j_n cyI 12 u.2.2.2.2.2.2.2.2.2]) (va_A [kx_2 q_t q_row q_joined q_from q_to q_size q_lossOf q_lessBy q_value q_number nodes here, kx_0 q_row q_cell len, kx_a q_cell cyI 160 f, kx_a q_from cyI 319 ff, kx_a q_to cyI 319 ft, kx_a q_size cyI 319 fs, kx_a q_lossOf cyI 319 fo, kx_a q_lessBy cyI 319 fe, kx_a q_value cyI 1914 uv, kx_a q_number cyI 1914 un, kx_3 q_joined j_v j_n js jl je, kx_a j_v cyI 12 jv, kx_a j_n cyI 12 jn] sz)) 0 0 (va_A [kx_2 q_t q_row q_joined q_from q_to q_size q_lossOf q_lessBy q_value q_number nodes here, kx_0 q_row q_cell len, kx_a q_cell cyI 160 f, kx_a q_from cyI 319 ff, kx_a q_to cyI 319 ft, kx_a q_size cyI 319 fs, kx_a q_lossOf cyI 319 fo, kx_a q_lessBy cyI 319 fe, kx_a q_value cyI 1914 uv, kx_a q_number cyI 1914 un, kx_3 q_joined j_v j_n js jl je, kx_a j_v cyI 12 jv, kx_a j_n cyI 12 jn] sz) := by
  refine Met.ofW (cc := cX2_renew) (maxL := 5) (ret := (some .int)) (by decide) rfl ?_
  intro p e s m args below meth c s₁ B hml hv
  obtain ⟨rfl, hsz, hP, hK, hD0⟩ := hv
  have hx := B.exec
  have hb := B.bytes
  have hr := B.returns
  have hts := atoms_spec (ws := wsX2_renew) B.pre
  have hown : s.vm.findClass RX2 = some m.cls := findClass_of_methodNamed B.named
  have hlocks := B.notSynchronized
  subst hsz
  have hD := hD0.self (sz := s.heap.size)
  generalize hAe : va_A [kx_2 q_t q_row q_joined q_from q_to q_size q_lossOf q_lessBy q_value q_number nodes here, kx_0 q_row q_cell len, kx_a q_cell cyI 160 f, kx_a q_from cyI 319 ff, kx_a q_to cyI 319 ft, kx_a q_size cyI 319 fs, kx_a q_lossOf cyI 319 fo, kx_a q_lessBy cyI 319 fe, kx_a q_value cyI 1914 uv, kx_a q_number cyI 1914 un, kx_3 q_joined j_v j_n js jl je, kx_a j_v cyI 12 jv, kx_a j_n cyI 12 jn] s.heap.size = A at hD ⊢
  have hA : ∀ q : Nat, s.heap.size ≤ q → A q := fun q h => by rw [← hAe]; exact Or.inr h
  have hS : va_S A s.heap s.heap [] := va_S.rf
  have hP : va_P (dC, dI) vwCl [kx_2 q_t q_row q_joined q_from q_to q_size q_lossOf q_lessBy q_value q_number nodes here, kx_0 q_row q_cell len, kx_a q_cell cyI 160 f, kx_a q_from cyI 319 ff, kx_a q_to cyI 319 ft, kx_a q_size cyI 319 fs, kx_a q_lossOf cyI 319 fo, kx_a q_lessBy cyI 319 fe, kx_a q_value cyI 1914 uv, kx_a q_number cyI 1914 un, kx_3 q_joined j_v j_n js jl je, kx_a j_v cyI 12 jv, kx_a j_n cyI 12 jn] s.heap := hP
  have hl := lv_entry ([.ref q_t, .int p0, .int p1]) (n := 5) (Nat.le_of_ble_eq_true rfl)
  rw [lg_entry_eq]
  generalize (lg_sl ([.ref q_t, .int p0, .int p1]) ++ List.replicate (5 - (lg_sl ([.ref q_t, .int p0, .int p1])).length) Slot.unset).toArray = ls at hl ⊢
  have hl : lv_has ls 5 [(0, .ref q_t), (1, .int p0), (2, .int p1)] := hl
  have hf_50 := hts (.fieldLink RX2 50 "MajorityIndex$Tree" "nodes" "I") (List.mem_of_getElem? (i := 1) rfl)
  have hi_2 : ∀ w ∈ u_ws RX2 TX2 11, w ∈ wsX2_renew := fun w h => List.mem_cons_of_mem _ (List.mem_append_left _ (List.mem_append_left _ (List.mem_append_right _ h)))
  have hf_18 := hts (.fieldLink RX2 18 "MajorityIndex$Tree" "from" "[I") (List.mem_of_getElem? (i := 2) rfl)
  have hf_22 := hts (.fieldLink RX2 22 "MajorityIndex$Tree" "to" "[I") (List.mem_of_getElem? (i := 3) rfl)
  refine lv_iconst (v := 0) hx hb dX2_renew_0 (by decide) ?_
  refine lv_istore_n (lv' := [(3, .int 0), (0, .ref q_t), (1, .int p0), (2, .int p1)]) hx hb dX2_renew_1 rfl hl (by decide) rfl (fun ls hl => ?_)
  refine lv_aload_n hx hb dX2_renew_2 rfl (lv_at hl 1 rfl) ?_
  refine va_get (D := (dC, dI)) (ci := 2) (v := .int nodes) (C := RX2) (T := TX2) (N := 11) hx hb hts hi_2 hown hK hP 0 rfl rfl 9 (by decide) hf_50 (fun _ h9 => h9) rfl dX2_renew_3 ?_
  refine lv_iconst (v := 1) hx hb dX2_renew_6 (by decide) ?_
  refine lv_isub hx hb dX2_renew_7 ?_
  refine lv_topi (fun y_1 ey_1 => ?_)
  have i_1 : y_1.toInt = nodes.toInt - 1 := ki_sub ey_1 rfl rfl (om_90 b0) (om_91 c0)
  refine lv_istore (lv' := [(4, .int y_1), (3, .int 0), (0, .ref q_t), (1, .int p0), (2, .int p1)]) hx hb dX2_renew_8 hl (by decide) rfl (fun ls hl => ?_)
  have LP1 : ∀ (n : Nat) (oth : Int32) (i : Int32) (ks : Nat → Int32) (ko : Nat → Int32) (ke : Nat → Int32) (kv : Nat → Int32) (kn : Nat → Int32) (kj : Int32) (kl : Int32) (kb : Int32) (kjv : Nat → Int32) (kjn : Nat → Int32), (i.toInt < nodes.toInt) → (-1 ≤ i.toInt) → (mj_rn here.toNatClampNeg f ff ft fs fo fe uv un ks ko ke kv kn p0.toInt p1.toInt nodes.toInt (i.toInt + 1).toNat) → (sixes ks) → (i.toInt + 1).toNat < n → ∀ (H : Heap) (locs : List Loc), va_P (dC, dI) vwCl [kx_2 q_t q_row q_joined q_from q_to q_size q_lossOf q_lessBy q_value q_number nodes here, kx_0 q_row q_cell len, kx_a q_cell cyI 160 f, kx_a q_from cyI 319 ff, kx_a q_to cyI 319 ft, kx_a q_size cyI 319 ks, kx_a q_lossOf cyI 319 ko, kx_a q_lessBy cyI 319 ke, kx_a q_value cyI 1914 kv, kx_a q_number cyI 1914 kn, kx_3 q_joined j_v j_n kj kl kb, kx_a j_v cyI 12 kjv, kx_a j_n cyI 12 kjn] H → va_D A [kx_2 q_t q_row q_joined q_from q_to q_size q_lossOf q_lessBy q_value q_number nodes here, kx_0 q_row q_cell len, kx_a q_cell cyI 160 f, kx_a q_from cyI 319 ff, kx_a q_to cyI 319 ft, kx_a q_size cyI 319 ks, kx_a q_lossOf cyI 319 ko, kx_a q_lessBy cyI 319 ke, kx_a q_value cyI 1914 kv, kx_a q_number cyI 1914 kn, kx_3 q_joined j_v j_n kj kl kb, kx_a j_v cyI 12 kjv, kx_a j_n cyI 12 kjn] → va_S A s.heap H locs → ∀ (ls : Array Slot), lv_has ls 5 [(4, .int i), (3, .int oth), (0, .ref q_t), (1, .int p0), (2, .int p1)] → W p l e (headSpec wsX2_renew ({ frames := 4, cells := 0, slots := 0, locals := 180 })).room s m ([.ref q_t, .int p0, .int p1] : List Value).toArray below meth c H locs 0 0 (MQ below (va_Qi (fun (r : Int32) (u : (Nat → Int32) × (Nat → Int32) × (Nat → Int32) × (Nat → Int32) × (Nat → Int32) × Int32 × Int32 × Int32 × (Nat → Int32) × (Nat → Int32)) => sixes u.1 ∧ ∀ k : Nat, (k : Int) < nodes.toInt → mj_ok here.toNatClampNeg f ff ft u.1 u.2.1 u.2.2.1 u.2.2.2.1 u.2.2.2.2.1 k) (fun (u : (Nat → Int32) × (Nat → Int32) × (Nat → Int32) × (Nat → Int32) × (Nat → Int32) × Int32 × Int32 × Int32 × (Nat → Int32) × (Nat → Int32)) (t : State) => va_P (dC, dI) vwCl [kx_2 q_t q_row q_joined q_from q_to q_size q_lossOf q_lessBy q_value q_number nodes here, kx_0 q_row q_cell len, kx_a q_cell cyI 160 f, kx_a q_from cyI 319 ff, kx_a q_to cyI 319 ft, kx_a q_size cyI 319 u.1, kx_a q_lossOf cyI 319 u.2.1, kx_a q_lessBy cyI 319 u.2.2.1, kx_a q_value cyI 1914 u.2.2.2.1, kx_a q_number cyI 1914 u.2.2.2.2.1, kx_3 q_joined j_v j_n u.2.2.2.2.2.1 u.2.2.2.2.2.2.1 u.2.2.2.2.2.2.2.1, kx_a j_v cyI 12 u.2.2.2.2.2.2.2.2.1, kx_a j_n cyI 12 u.2.2.2.2.2.2.2.2.2] t.heap ∧ va_K (dC, dI) vwCl [(cyI, .int)] t ∧ va_D A [kx_2 q_t q_row q_joined q_from q_to q_size q_lossOf q_lessBy q_value q_number nodes here, kx_0 q_row q_cell len, kx_a q_cell cyI 160 f, kx_a q_from cyI 319 ff, kx_a q_to cyI 319 ft, kx_a q_size cyI 319 u.1, kx_a q_lossOf cyI 319 u.2.1, kx_a q_lessBy cyI 319 u.2.2.1, kx_a q_value cyI 1914 u.2.2.2.1, kx_a q_number cyI 1914 u.2.2.2.2.1, kx_3 q_joined j_v j_n u.2.2.2.2.2.1 u.2.2.2.2.2.2.1 u.2.2.2.2.2.2.2.1, kx_a j_v cyI 12 u.2.2.2.2.2.2.2.2.1, kx_a j_n cyI 12 u.2.2.2.2.2.2.2.2.2]) A) ([.ref q_t, .int p0, .int p1] : List Value).toArray s 0 0 A) (F0 m 10 ls []) := by
    intro n
    induction n with
    | zero => intro oth i ks ko ke kv kn kj kl kb kjv kjn LP1_h0 LP1_h1 LP1_h2 LP1_h3 hn; exact absurd hn (Nat.not_lt_zero _)
    | succ n ih1 =>
      intro oth i ks ko ke kv kn kj kl kb kjv kjn LP1_h0 LP1_h1 LP1_h2 LP1_h3 hn1 H locs hP hD hS ls hl
      refine lv_iload hx hb dX2_renew_10 (lv_at hl 0 rfl) ?_
      refine lv_if_lt (tgt := 67) hx hb dX2_renew_12 (by decide) (fun c_2 => ?_) (fun c_2 => ?_)
      · have i_2 : i.toInt < 0 := kc_lt c_2
        refine lv_iload_n hx hb dX2_renew_67 rfl (lv_at hl 1 rfl) ?_
        have hP9 := hP
        have hD9 := hD
        have hK9 := hK
        exact W.iret (v := oth) hx hb hr (fun t ht hW => ⟨⟨oth, (ks, ko, ke, kv, kn, kj, kl, kb, kjv, kjn), rfl, ⟨LP1_h3, fun k hk => LP1_h2.1 k (by (try dsimp only); omega) hk⟩, by rw [ht]; exact hP9, va_K.moved hW.alike hK9, hD9⟩, hS.F ht⟩) hS.2.2 dX2_renew_68
      · have i_2 : 0 ≤ i.toInt := kc_nlt c_2
        have n_i := ki_nat i rfl (om_8 i_2)
        have n_h := ki_nat here rfl (om_44 k0)
        have hti := t0 i.toNatClampNeg (by omega)
        unfold okAt at hti
        refine lv_aload_n hx hb dX2_renew_15 rfl (lv_at hl 2 rfl) ?_
        refine va_get (D := (dC, dI)) (ci := 2) (v := .ref q_from) (C := RX2) (T := TX2) (N := 11) hx hb hts hi_2 hown hK hP 0 rfl rfl 2 (by decide) hf_18 (fun _ h9 => h9) rfl dX2_renew_16 ?_
        refine lv_iload hx hb dX2_renew_19 (lv_at hl 0 rfl) ?_
        refine va_iald hx hb hK hP 3 0 rfl rfl (ki_in (om_8 i_2) (om_92 c0 LP1_h0)) dX2_renew_21 ?_
        refine lv_topi (fun y_3 ey_3 => ?_)
        have j_3 : y_3.toInt = (ff i.toNatClampNeg).toInt := congrArg Int32.toInt ey_3
        refine lv_iload_n hx hb dX2_renew_22 rfl (lv_at hl 4 rfl) ?_
        refine lv_icmp_ge (tgt := 61) hx hb dX2_renew_23 (by decide) (fun c_4 => ?_) (fun c_4 => ?_)
        · have i_4 : p1.toInt ≤ y_3.toInt := kc_le c_4
          obtain ⟨x_5, ex_5⟩ : ∃ y : Int32, y = i + (-1) := ⟨_, rfl⟩
          have i_5 : x_5.toInt = i.toInt + (-1) := ki_add ex_5 rfl rfl (om_93 i_2) (om_94 c0 LP1_h0)
          refine lv_iinc (v := x_5) (lv' := [(4, .int x_5), (3, .int oth), (0, .ref q_t), (1, .int p0), (2, .int p1)]) hx hb dX2_renew_61 hl (k := 0) rfl (by rw [ex_5]; rfl) (by decide) rfl (fun ls hl => ?_)
          refine lv_goto (tgt := 10) hx hb dX2_renew_64 (by decide) ?_
          exact ih1 oth x_5 ks ko ke kv kn kj kl kb kjv kjn (om_95 LP1_h0 i_5) (om_96 i_2 i_5) (by rw [show (x_5.toInt + 1).toNat = i.toNatClampNeg by omega]; exact mj_rn_skip LP1_h2 t0 hOld (by omega) (by omega) (fun h => by unfold mj_hit at h; omega)) LP1_h3 (om_mu hn1 (om_97 i_5) (om_98 i_2)) _ _ hP hD hS ls (lv_sub hl [0, 1, 2, 3, 4] rfl)
        · have i_4 : y_3.toInt < p1.toInt := kc_nle c_4
          refine lv_iload_n hx hb dX2_renew_26 rfl (lv_at hl 3 rfl) ?_
          refine lv_aload_n hx hb dX2_renew_27 rfl (lv_at hl 2 rfl) ?_
          refine va_get (D := (dC, dI)) (ci := 2) (v := .ref q_to) (C := RX2) (T := TX2) (N := 11) hx hb hts hi_2 hown hK hP 0 rfl rfl 3 (by decide) hf_22 (fun _ h9 => h9) rfl dX2_renew_28 ?_
          refine lv_iload hx hb dX2_renew_31 (lv_at hl 0 rfl) ?_
          refine va_iald hx hb hK hP 4 0 rfl rfl (ki_in (om_8 i_2) (om_92 c0 LP1_h0)) dX2_renew_33 ?_
          refine lv_topi (fun y_6 ey_6 => ?_)
          have j_6 : y_6.toInt = (ft i.toNatClampNeg).toInt := congrArg Int32.toInt ey_6
          refine lv_icmp_ge (tgt := 61) hx hb dX2_renew_34 (by decide) (fun c_7 => ?_) (fun c_7 => ?_)
          · have i_7 : y_6.toInt ≤ p0.toInt := kc_le c_7
            obtain ⟨x_8, ex_8⟩ : ∃ y : Int32, y = i + (-1) := ⟨_, rfl⟩
            have i_8 : x_8.toInt = i.toInt + (-1) := ki_add ex_8 rfl rfl (om_93 i_2) (om_94 c0 LP1_h0)
            refine lv_iinc (v := x_8) (lv' := [(4, .int x_8), (3, .int oth), (0, .ref q_t), (1, .int p0), (2, .int p1)]) hx hb dX2_renew_61 hl (k := 0) rfl (by rw [ex_8]; rfl) (by decide) rfl (fun ls hl => ?_)
            refine lv_goto (tgt := 10) hx hb dX2_renew_64 (by decide) ?_
            exact ih1 oth x_8 ks ko ke kv kn kj kl kb kjv kjn (om_95 LP1_h0 i_8) (om_96 i_2 i_8) (by rw [show (x_8.toInt + 1).toNat = i.toNatClampNeg by omega]; exact mj_rn_skip LP1_h2 t0 hOld (by omega) (by omega) (fun h => by unfold mj_hit at h; omega)) LP1_h3 (om_mu hn1 (om_97 i_8) (om_98 i_2)) _ _ hP hD hS ls (lv_sub hl [0, 1, 2, 3, 4] rfl)
          · have i_7 : p0.toInt < y_6.toInt := kc_nle c_7
            have hch := mj_ch_of (K := here.toNatClampNeg) (f := f) (fs := ks) (fo := ko) (fe := ke) (uv := kv) (un := kn) t0 hcr (k := i.toNatClampNeg) (by omega) (fun j h1 h2 => LP1_h2.1 j (by omega) h2)
            refine lv_aload_n hx hb dX2_renew_37 rfl (lv_at hl 2 rfl) ?_
            refine lv_iload hx hb dX2_renew_38 (lv_at hl 0 rfl) ?_
            have hPc := hP.sub (ws' := [kx_2 q_t q_row q_joined q_from q_to q_size q_lossOf q_lessBy q_value q_number nodes here, kx_0 q_row q_cell len, kx_a q_cell cyI 160 f, kx_a q_from cyI 319 ff, kx_a q_to cyI 319 ft, kx_a q_size cyI 319 ks, kx_a q_lossOf cyI 319 ko, kx_a q_value cyI 1914 kv, kx_a q_number cyI 1914 kn, kx_3 q_joined j_v j_n kj kl kb, kx_a j_v cyI 12 kjv, kx_a j_n cyI 12 kjn]) [0, 1, 2, 3, 4, 5, 6, 8, 9, 10, 11, 12] rfl
            have hKc := hK
            have hDc := hD.sub (ws' := [kx_2 q_t q_row q_joined q_from q_to q_size q_lossOf q_lessBy q_value q_number nodes here, kx_0 q_row q_cell len, kx_a q_cell cyI 160 f, kx_a q_from cyI 319 ff, kx_a q_to cyI 319 ft, kx_a q_size cyI 319 ks, kx_a q_lossOf cyI 319 ko, kx_a q_value cyI 1914 kv, kx_a q_number cyI 1914 kn, kx_3 q_joined j_v j_n kj kl kb, kx_a j_v cyI 12 kjv, kx_a j_n cyI 12 kjn]) [0, 1, 2, 3, 4, 5, 6, 8, 9, 10, 11, 12] (by decide) rfl
            have hFc := va_free (wc := [kx_2 q_t q_row q_joined q_from q_to q_size q_lossOf q_lessBy q_value q_number nodes here, kx_0 q_row q_cell len, kx_a q_cell cyI 160 f, kx_a q_from cyI 319 ff, kx_a q_to cyI 319 ft, kx_a q_size cyI 319 ks, kx_a q_lossOf cyI 319 ko, kx_a q_value cyI 1914 kv, kx_a q_number cyI 1914 kn, kx_3 q_joined j_v j_n kj kl kb, kx_a j_v cyI 12 kjv, kx_a j_n cyI 12 kjn]) hD hS hA [0, 1, 2, 3, 4, 5, 6, 8, 9, 10, 11, 12] rfl
            refine va_callv (va_runV (As := [.int i]) (rest := []) ⟨hx, hb, hml, hown, hts⟩ (c_X2_putTogether_x l dC dI q_t q_row q_joined q_from q_to q_size q_lossOf q_lessBy q_value q_number nodes here q_cell cyI len f ff ft ks ko kv kn ke j_v j_n kj kl kb kjv kjn i H.size i_2 LP1_h0 c0 c1 t0 k0 k1 hch) (cwV 1 hts gX2_renew_X2_putTogether rfl rfl rfl (by decide +kernel) ⟨Nat.le_of_ble_eq_true rfl, Nat.le_of_ble_eq_true rfl⟩) ⟨fun a U g mk q => by obtain ⟨q0, q1, qP, qK, qD⟩ := q; exact ⟨q0, q1, qP, va_K.moved (u := U) (U := U.calling g mk a) (Vm.Alike.refl U.vm) qK, qD⟩, va_recv hKc hPc (ci := 2) (q0 := 0) rfl rfl, fun U hU hW => ⟨rfl, by rw [hU], by rw [hU]; exact hPc, va_K.moved hW.alike hKc, hDc.weaken (fun _ _ _ _ => trivial)⟩⟩ rfl rfl hl.1 rfl (lv_room (Nat.le_of_ble_eq_true rfl)) dX2_renew_40 ⟨Nat.le_of_ble_eq_true rfl, Nat.le_of_ble_eq_true rfl⟩) hS (fun q _ h => hFc q h) hFc (fun u t H1 locs ht hvm w_9 hB hz1 hk1 hS => ?_)
            obtain ⟨o_10, o_11, o_12, o_13, o_14, o_15⟩ := u
            dsimp only at w_9 hB
            obtain ⟨hP1, hK1, hD1⟩ := hB
            rw [ht] at hP1
            have hK1 := va_K.moved hvm.symm hK1
            obtain ⟨hP, hD⟩ := va_join (wr := [kx_a q_lessBy cyI 319 ke]) (w1 := [kx_2 q_t q_row q_joined q_from q_to q_size q_lossOf q_lessBy q_value q_number nodes here, kx_0 q_row q_cell len, kx_a q_cell cyI 160 f, kx_a q_from cyI 319 ff, kx_a q_to cyI 319 ft, kx_a q_size cyI 319 ks, kx_a q_lossOf cyI 319 ko, kx_a q_value cyI 1914 kv, kx_a q_number cyI 1914 kn, kx_3 q_joined j_v j_n o_10 o_11 o_12, kx_a j_v cyI 12 o_13, kx_a j_n cyI 12 o_14]) hP hD [0, 1, 2, 3, 4, 5, 6, 8, 9, 10, 11, 12] [7] rfl rfl (by decide) (by decide) hk1 hFc hP1 hD1
            clear hP1 hD1 hK1 hk1 hz1 hFc hDc hPc hKc
            generalize H1 = H at hP hS ⊢
            have hP : va_P (dC, dI) vwCl [kx_a q_lessBy cyI 319 ke, kx_2 q_t q_row q_joined q_from q_to q_size q_lossOf q_lessBy q_value q_number nodes here, kx_0 q_row q_cell len, kx_a q_cell cyI 160 f, kx_a q_from cyI 319 ff, kx_a q_to cyI 319 ft, kx_a q_size cyI 319 ks, kx_a q_lossOf cyI 319 ko, kx_a q_value cyI 1914 kv, kx_a q_number cyI 1914 kn, kx_3 q_joined j_v j_n o_10 o_11 o_12, kx_a j_v cyI 12 o_13, kx_a j_n cyI 12 o_14] H := hP
            have hD : va_D A [kx_a q_lessBy cyI 319 ke, kx_2 q_t q_row q_joined q_from q_to q_size q_lossOf q_lessBy q_value q_number nodes here, kx_0 q_row q_cell len, kx_a q_cell cyI 160 f, kx_a q_from cyI 319 ff, kx_a q_to cyI 319 ft, kx_a q_size cyI 319 ks, kx_a q_lossOf cyI 319 ko, kx_a q_value cyI 1914 kv, kx_a q_number cyI 1914 kn, kx_3 q_joined j_v j_n o_10 o_11 o_12, kx_a j_v cyI 12 o_13, kx_a j_n cyI 12 o_14] := hD
            have w_9 : mj_jn here.toNatClampNeg f ff ft ks ko ke kv kn i.toNatClampNeg o_15 o_11 o_12 ∧ mj_vs o_13 o_14 0 o_10.toNatClampNeg o_15 ∧ mj_srt o_13 o_14 0 o_10.toNatClampNeg ∧ 0 ≤ o_10.toInt ∧ o_10.toInt ≤ here.toInt := w_9
            refine lv_aload_n hx hb dX2_renew_43 rfl (lv_at hl 2 rfl) ?_
            refine lv_iload hx hb dX2_renew_44 (lv_at hl 0 rfl) ?_
            have hPc := hP.sub (ws' := [kx_2 q_t q_row q_joined q_from q_to q_size q_lossOf q_lessBy q_value q_number nodes here, kx_a q_size cyI 319 ks, kx_a q_lossOf cyI 319 ko, kx_a q_value cyI 1914 kv, kx_a q_number cyI 1914 kn, kx_3 q_joined j_v j_n o_10 o_11 o_12, kx_a j_v cyI 12 o_13, kx_a j_n cyI 12 o_14]) [1, 6, 7, 8, 9, 10, 11, 12] rfl
            have hKc := hK
            refine vp_callSi (W.runV (As := [.int i]) (rest := []) ⟨hx, hb, hml, hown, hts⟩ (c_X2_isJoined_x l dC dI q_t q_row q_joined q_from q_to q_size q_lossOf q_lessBy q_value q_number nodes here cyI ks ko kv kn j_v j_n o_10 o_11 o_12 o_13 o_14 i i_2 (om_99 c0 LP1_h0) w_9.2.2.2.1 (om_332 k1 w_9.2.2.2.2)) (cwV 1 hts gX2_renew_X2_isJoined rfl rfl rfl (by decide +kernel) ⟨Nat.le_of_ble_eq_true rfl, Nat.le_of_ble_eq_true rfl⟩) ⟨fun a U g mk q => by obtain ⟨q0, qP, qK⟩ := q; exact ⟨q0, qP, va_K.moved (u := U) (U := U.calling g mk a) (Vm.Alike.refl U.vm) qK⟩, va_recv hKc hPc (ci := 2) (q0 := 0) rfl rfl, fun U hU hW => ⟨rfl, by rw [hU]; exact hPc, va_K.moved hW.alike hKc⟩⟩ rfl rfl hl.1 rfl (lv_room (Nat.le_of_ble_eq_true rfl)) dX2_renew_46 ⟨Nat.le_of_ble_eq_true rfl, Nat.le_of_ble_eq_true rfl⟩) (fun r_16 w_16 => ?_)
            rcases w_16 with ⟨rfl, w_16⟩ | ⟨rfl, w_16⟩
            · have w_16 : mj_sj ks ko kv kn i.toNatClampNeg o_10 o_11 o_13 o_14 := w_16
              refine lv_if_ne (tgt := 55) hx hb dX2_renew_49 (by decide) (fun c_17 => ?_) (fun c_17 => ?_)
              · refine lv_aload_n hx hb dX2_renew_55 rfl (lv_at hl 2 rfl) ?_
                refine lv_iload hx hb dX2_renew_56 (lv_at hl 0 rfl) ?_
                have hPc := hP.sub (ws' := [kx_2 q_t q_row q_joined q_from q_to q_size q_lossOf q_lessBy q_value q_number nodes here, kx_a q_size cyI 319 ks, kx_a q_lossOf cyI 319 ko, kx_a q_lessBy cyI 319 ke, kx_a q_value cyI 1914 kv, kx_a q_number cyI 1914 kn, kx_3 q_joined j_v j_n o_10 o_11 o_12, kx_a j_v cyI 12 o_13, kx_a j_n cyI 12 o_14]) [1, 6, 7, 0, 8, 9, 10, 11, 12] rfl
                have hKc := hK
                have hDc := hD.sub (ws' := [kx_2 q_t q_row q_joined q_from q_to q_size q_lossOf q_lessBy q_value q_number nodes here, kx_a q_size cyI 319 ks, kx_a q_lossOf cyI 319 ko, kx_a q_lessBy cyI 319 ke, kx_a q_value cyI 1914 kv, kx_a q_number cyI 1914 kn, kx_3 q_joined j_v j_n o_10 o_11 o_12, kx_a j_v cyI 12 o_13, kx_a j_n cyI 12 o_14]) [1, 6, 7, 0, 8, 9, 10, 11, 12] (by decide) rfl
                have hFc := va_free (wc := [kx_2 q_t q_row q_joined q_from q_to q_size q_lossOf q_lessBy q_value q_number nodes here, kx_a q_size cyI 319 ks, kx_a q_lossOf cyI 319 ko, kx_a q_lessBy cyI 319 ke, kx_a q_value cyI 1914 kv, kx_a q_number cyI 1914 kn, kx_3 q_joined j_v j_n o_10 o_11 o_12, kx_a j_v cyI 12 o_13, kx_a j_n cyI 12 o_14]) hD hS hA [1, 6, 7, 0, 8, 9, 10, 11, 12] rfl
                refine va_callv (va_runV (As := [.int i]) (rest := []) ⟨hx, hb, hml, hown, hts⟩ (c_X2_keepJoined_x l dC dI q_t q_row q_joined q_from q_to q_size q_lossOf q_lessBy q_value q_number nodes here cyI ks ko kv kn ke j_v j_n o_10 o_11 o_12 o_13 o_14 i H.size i_2 (om_99 c0 LP1_h0) w_9.2.2.2.1 (om_332 k1 w_9.2.2.2.2)) (cwV 1 hts gX2_renew_X2_keepJoined rfl rfl rfl (by decide +kernel) ⟨Nat.le_of_ble_eq_true rfl, Nat.le_of_ble_eq_true rfl⟩) ⟨fun a U g mk q => by obtain ⟨q0, q1, qP, qK, qD⟩ := q; exact ⟨q0, q1, qP, va_K.moved (u := U) (U := U.calling g mk a) (Vm.Alike.refl U.vm) qK, qD⟩, va_recv hKc hPc (ci := 2) (q0 := 0) rfl rfl, fun U hU hW => ⟨rfl, by rw [hU], by rw [hU]; exact hPc, va_K.moved hW.alike hKc, hDc.weaken (fun _ _ _ _ => trivial)⟩⟩ rfl rfl hl.1 rfl (lv_room (Nat.le_of_ble_eq_true rfl)) dX2_renew_58 ⟨Nat.le_of_ble_eq_true rfl, Nat.le_of_ble_eq_true rfl⟩) hS (fun q _ h => hFc q h) hFc (fun u t H1 locs ht hvm w_18 hB hz1 hk1 hS => ?_)
                obtain ⟨o_19, o_20, o_21, o_22, o_23⟩ := u
                dsimp only at w_18 hB
                obtain ⟨hP1, hK1, hD1⟩ := hB
                rw [ht] at hP1
                have hK1 := va_K.moved hvm.symm hK1
                obtain ⟨hP, hD⟩ := va_join (wr := [kx_0 q_row q_cell len, kx_a q_cell cyI 160 f, kx_a q_from cyI 319 ff, kx_a q_to cyI 319 ft]) (w1 := [kx_2 q_t q_row q_joined q_from q_to q_size q_lossOf q_lessBy q_value q_number nodes here, kx_a q_size cyI 319 o_19, kx_a q_lossOf cyI 319 o_20, kx_a q_lessBy cyI 319 o_21, kx_a q_value cyI 1914 o_22, kx_a q_number cyI 1914 o_23, kx_3 q_joined j_v j_n o_10 o_11 o_12, kx_a j_v cyI 12 o_13, kx_a j_n cyI 12 o_14]) hP hD [1, 6, 7, 0, 8, 9, 10, 11, 12] [2, 3, 4, 5] rfl rfl (by decide) (by decide) hk1 hFc hP1 hD1
                clear hP1 hD1 hK1 hk1 hz1 hFc hDc hPc hKc
                generalize H1 = H at hP hS ⊢
                have hP : va_P (dC, dI) vwCl [kx_0 q_row q_cell len, kx_a q_cell cyI 160 f, kx_a q_from cyI 319 ff, kx_a q_to cyI 319 ft, kx_2 q_t q_row q_joined q_from q_to q_size q_lossOf q_lessBy q_value q_number nodes here, kx_a q_size cyI 319 o_19, kx_a q_lossOf cyI 319 o_20, kx_a q_lessBy cyI 319 o_21, kx_a q_value cyI 1914 o_22, kx_a q_number cyI 1914 o_23, kx_3 q_joined j_v j_n o_10 o_11 o_12, kx_a j_v cyI 12 o_13, kx_a j_n cyI 12 o_14] H := hP
                have hD : va_D A [kx_0 q_row q_cell len, kx_a q_cell cyI 160 f, kx_a q_from cyI 319 ff, kx_a q_to cyI 319 ft, kx_2 q_t q_row q_joined q_from q_to q_size q_lossOf q_lessBy q_value q_number nodes here, kx_a q_size cyI 319 o_19, kx_a q_lossOf cyI 319 o_20, kx_a q_lessBy cyI 319 o_21, kx_a q_value cyI 1914 o_22, kx_a q_number cyI 1914 o_23, kx_3 q_joined j_v j_n o_10 o_11 o_12, kx_a j_v cyI 12 o_13, kx_a j_n cyI 12 o_14] := hD
                have w_18 : o_19 = upd ks i.toNatClampNeg o_10 ∧ o_20 = upd ko i.toNatClampNeg o_11 ∧ o_21 = upd ke i.toNatClampNeg o_12 ∧ mj_kp o_13 o_14 kv kn o_22 o_23 i.toNatClampNeg o_10.toNatClampNeg := w_18
                obtain ⟨x_24, ex_24⟩ : ∃ y : Int32, y = i + (-1) := ⟨_, rfl⟩
                have i_24 : x_24.toInt = i.toInt + (-1) := ki_add ex_24 rfl rfl (om_93 i_2) (om_94 c0 LP1_h0)
                refine lv_iinc (v := x_24) (lv' := [(4, .int x_24), (3, .int oth), (0, .ref q_t), (1, .int p0), (2, .int p1)]) hx hb dX2_renew_61 hl (k := 0) rfl (by rw [ex_24]; rfl) (by decide) rfl (fun ls hl => ?_)
                refine lv_goto (tgt := 10) hx hb dX2_renew_64 (by decide) ?_
                have hP : va_P (dC, dI) vwCl [kx_2 q_t q_row q_joined q_from q_to q_size q_lossOf q_lessBy q_value q_number nodes here, kx_0 q_row q_cell len, kx_a q_cell cyI 160 f, kx_a q_from cyI 319 ff, kx_a q_to cyI 319 ft, kx_a q_size cyI 319 o_19, kx_a q_lossOf cyI 319 o_20, kx_a q_lessBy cyI 319 o_21, kx_a q_value cyI 1914 o_22, kx_a q_number cyI 1914 o_23, kx_3 q_joined j_v j_n o_10 o_11 o_12, kx_a j_v cyI 12 o_13, kx_a j_n cyI 12 o_14] _ := hP.sub [4, 0, 1, 2, 3, 5, 6, 7, 8, 9, 10, 11, 12] rfl
                have hD : va_D A [kx_2 q_t q_row q_joined q_from q_to q_size q_lossOf q_lessBy q_value q_number nodes here, kx_0 q_row q_cell len, kx_a q_cell cyI 160 f, kx_a q_from cyI 319 ff, kx_a q_to cyI 319 ft, kx_a q_size cyI 319 o_19, kx_a q_lossOf cyI 319 o_20, kx_a q_lessBy cyI 319 o_21, kx_a q_value cyI 1914 o_22, kx_a q_number cyI 1914 o_23, kx_3 q_joined j_v j_n o_10 o_11 o_12, kx_a j_v cyI 12 o_13, kx_a j_n cyI 12 o_14] := hD.sub [4, 0, 1, 2, 3, 5, 6, 7, 8, 9, 10, 11, 12] (by decide) rfl
                have okk := mj_jn_ok w_9.1 (by omega) (by omega) w_9.2.1 w_9.2.2.1 (by omega) (by omega) (by omega) w_18.1 w_18.2.1 w_18.2.2.1 w_18.2.2.2.1 w_18.2.2.2.2
                exact ih1 oth x_24 o_19 o_20 o_21 o_22 o_23 o_10 o_11 o_12 o_13 o_14 (om_95 LP1_h0 i_24) (om_96 i_2 i_24) (by rw [show (x_24.toInt + 1).toNat = i.toNatClampNeg by omega]; exact mj_rn_put LP1_h2 (by omega) (by unfold mj_hit; omega) okk w_18.1 w_18.2.1 w_18.2.2.1 w_18.2.2.2.2) (by rw [w_18.1]; exact sixes_upd LP1_h3 (by omega) (by omega)) (om_mu hn1 (om_97 i_24) (om_98 i_2)) _ _ hP hD hS ls (lv_sub hl [0, 1, 2, 3, 4] rfl)
              · exact absurd c_17 (by decide)
            · have w_16 : ¬ mj_sj ks ko kv kn i.toNatClampNeg o_10 o_11 o_13 o_14 := w_16
              refine lv_if_ne (tgt := 55) hx hb dX2_renew_49 (by decide) (fun c_25 => ?_) (fun c_25 => ?_)
              · exact absurd c_25 (by decide)
              · obtain ⟨x_26, ex_26⟩ : ∃ y : Int32, y = oth + 1 := ⟨_, rfl⟩
                refine lv_iinc (v := x_26) (lv' := [(3, .int x_26), (4, .int i), (0, .ref q_t), (1, .int p0), (2, .int p1)]) hx hb dX2_renew_52 hl (k := 1) rfl (by rw [ex_26]; rfl) (by decide) rfl (fun ls hl => ?_)
                refine lv_aload_n hx hb dX2_renew_55 rfl (lv_at hl 2 rfl) ?_
                refine lv_iload hx hb dX2_renew_56 (lv_at hl 1 rfl) ?_
                have hPc := hP.sub (ws' := [kx_2 q_t q_row q_joined q_from q_to q_size q_lossOf q_lessBy q_value q_number nodes here, kx_a q_size cyI 319 ks, kx_a q_lossOf cyI 319 ko, kx_a q_lessBy cyI 319 ke, kx_a q_value cyI 1914 kv, kx_a q_number cyI 1914 kn, kx_3 q_joined j_v j_n o_10 o_11 o_12, kx_a j_v cyI 12 o_13, kx_a j_n cyI 12 o_14]) [1, 6, 7, 0, 8, 9, 10, 11, 12] rfl
                have hKc := hK
                have hDc := hD.sub (ws' := [kx_2 q_t q_row q_joined q_from q_to q_size q_lossOf q_lessBy q_value q_number nodes here, kx_a q_size cyI 319 ks, kx_a q_lossOf cyI 319 ko, kx_a q_lessBy cyI 319 ke, kx_a q_value cyI 1914 kv, kx_a q_number cyI 1914 kn, kx_3 q_joined j_v j_n o_10 o_11 o_12, kx_a j_v cyI 12 o_13, kx_a j_n cyI 12 o_14]) [1, 6, 7, 0, 8, 9, 10, 11, 12] (by decide) rfl
                have hFc := va_free (wc := [kx_2 q_t q_row q_joined q_from q_to q_size q_lossOf q_lessBy q_value q_number nodes here, kx_a q_size cyI 319 ks, kx_a q_lossOf cyI 319 ko, kx_a q_lessBy cyI 319 ke, kx_a q_value cyI 1914 kv, kx_a q_number cyI 1914 kn, kx_3 q_joined j_v j_n o_10 o_11 o_12, kx_a j_v cyI 12 o_13, kx_a j_n cyI 12 o_14]) hD hS hA [1, 6, 7, 0, 8, 9, 10, 11, 12] rfl
                refine va_callv (va_runV (As := [.int i]) (rest := []) ⟨hx, hb, hml, hown, hts⟩ (c_X2_keepJoined_x l dC dI q_t q_row q_joined q_from q_to q_size q_lossOf q_lessBy q_value q_number nodes here cyI ks ko kv kn ke j_v j_n o_10 o_11 o_12 o_13 o_14 i H.size i_2 (om_99 c0 LP1_h0) w_9.2.2.2.1 (om_332 k1 w_9.2.2.2.2)) (cwV 1 hts gX2_renew_X2_keepJoined rfl rfl rfl (by decide +kernel) ⟨Nat.le_of_ble_eq_true rfl, Nat.le_of_ble_eq_true rfl⟩) ⟨fun a U g mk q => by obtain ⟨q0, q1, qP, qK, qD⟩ := q; exact ⟨q0, q1, qP, va_K.moved (u := U) (U := U.calling g mk a) (Vm.Alike.refl U.vm) qK, qD⟩, va_recv hKc hPc (ci := 2) (q0 := 0) rfl rfl, fun U hU hW => ⟨rfl, by rw [hU], by rw [hU]; exact hPc, va_K.moved hW.alike hKc, hDc.weaken (fun _ _ _ _ => trivial)⟩⟩ rfl rfl hl.1 rfl (lv_room (Nat.le_of_ble_eq_true rfl)) dX2_renew_58 ⟨Nat.le_of_ble_eq_true rfl, Nat.le_of_ble_eq_true rfl⟩) hS (fun q _ h => hFc q h) hFc (fun u t H1 locs ht hvm w_27 hB hz1 hk1 hS => ?_)
                obtain ⟨o_28, o_29, o_30, o_31, o_32⟩ := u
                dsimp only at w_27 hB
                obtain ⟨hP1, hK1, hD1⟩ := hB
                rw [ht] at hP1
                have hK1 := va_K.moved hvm.symm hK1
                obtain ⟨hP, hD⟩ := va_join (wr := [kx_0 q_row q_cell len, kx_a q_cell cyI 160 f, kx_a q_from cyI 319 ff, kx_a q_to cyI 319 ft]) (w1 := [kx_2 q_t q_row q_joined q_from q_to q_size q_lossOf q_lessBy q_value q_number nodes here, kx_a q_size cyI 319 o_28, kx_a q_lossOf cyI 319 o_29, kx_a q_lessBy cyI 319 o_30, kx_a q_value cyI 1914 o_31, kx_a q_number cyI 1914 o_32, kx_3 q_joined j_v j_n o_10 o_11 o_12, kx_a j_v cyI 12 o_13, kx_a j_n cyI 12 o_14]) hP hD [1, 6, 7, 0, 8, 9, 10, 11, 12] [2, 3, 4, 5] rfl rfl (by decide) (by decide) hk1 hFc hP1 hD1
                clear hP1 hD1 hK1 hk1 hz1 hFc hDc hPc hKc
                generalize H1 = H at hP hS ⊢
                have hP : va_P (dC, dI) vwCl [kx_0 q_row q_cell len, kx_a q_cell cyI 160 f, kx_a q_from cyI 319 ff, kx_a q_to cyI 319 ft, kx_2 q_t q_row q_joined q_from q_to q_size q_lossOf q_lessBy q_value q_number nodes here, kx_a q_size cyI 319 o_28, kx_a q_lossOf cyI 319 o_29, kx_a q_lessBy cyI 319 o_30, kx_a q_value cyI 1914 o_31, kx_a q_number cyI 1914 o_32, kx_3 q_joined j_v j_n o_10 o_11 o_12, kx_a j_v cyI 12 o_13, kx_a j_n cyI 12 o_14] H := hP
                have hD : va_D A [kx_0 q_row q_cell len, kx_a q_cell cyI 160 f, kx_a q_from cyI 319 ff, kx_a q_to cyI 319 ft, kx_2 q_t q_row q_joined q_from q_to q_size q_lossOf q_lessBy q_value q_number nodes here, kx_a q_size cyI 319 o_28, kx_a q_lossOf cyI 319 o_29, kx_a q_lessBy cyI 319 o_30, kx_a q_value cyI 1914 o_31, kx_a q_number cyI 1914 o_32, kx_3 q_joined j_v j_n o_10 o_11 o_12, kx_a j_v cyI 12 o_13, kx_a j_n cyI 12 o_14] := hD
                have w_27 : o_28 = upd ks i.toNatClampNeg o_10 ∧ o_29 = upd ko i.toNatClampNeg o_11 ∧ o_30 = upd ke i.toNatClampNeg o_12 ∧ mj_kp o_13 o_14 kv kn o_31 o_32 i.toNatClampNeg o_10.toNatClampNeg := w_27
                obtain ⟨x_33, ex_33⟩ : ∃ y : Int32, y = i + (-1) := ⟨_, rfl⟩
                have i_33 : x_33.toInt = i.toInt + (-1) := ki_add ex_33 rfl rfl (om_93 i_2) (om_94 c0 LP1_h0)
                refine lv_iinc (v := x_33) (lv' := [(4, .int x_33), (3, .int x_26), (0, .ref q_t), (1, .int p0), (2, .int p1)]) hx hb dX2_renew_61 hl (k := 1) rfl (by rw [ex_33]; rfl) (by decide) rfl (fun ls hl => ?_)
                refine lv_goto (tgt := 10) hx hb dX2_renew_64 (by decide) ?_
                have hP : va_P (dC, dI) vwCl [kx_2 q_t q_row q_joined q_from q_to q_size q_lossOf q_lessBy q_value q_number nodes here, kx_0 q_row q_cell len, kx_a q_cell cyI 160 f, kx_a q_from cyI 319 ff, kx_a q_to cyI 319 ft, kx_a q_size cyI 319 o_28, kx_a q_lossOf cyI 319 o_29, kx_a q_lessBy cyI 319 o_30, kx_a q_value cyI 1914 o_31, kx_a q_number cyI 1914 o_32, kx_3 q_joined j_v j_n o_10 o_11 o_12, kx_a j_v cyI 12 o_13, kx_a j_n cyI 12 o_14] _ := hP.sub [4, 0, 1, 2, 3, 5, 6, 7, 8, 9, 10, 11, 12] rfl
                have hD : va_D A [kx_2 q_t q_row q_joined q_from q_to q_size q_lossOf q_lessBy q_value q_number nodes here, kx_0 q_row q_cell len, kx_a q_cell cyI 160 f, kx_a q_from cyI 319 ff, kx_a q_to cyI 319 ft, kx_a q_size cyI 319 o_28, kx_a q_lossOf cyI 319 o_29, kx_a q_lessBy cyI 319 o_30, kx_a q_value cyI 1914 o_31, kx_a q_number cyI 1914 o_32, kx_3 q_joined j_v j_n o_10 o_11 o_12, kx_a j_v cyI 12 o_13, kx_a j_n cyI 12 o_14] := hD.sub [4, 0, 1, 2, 3, 5, 6, 7, 8, 9, 10, 11, 12] (by decide) rfl
                have okk := mj_jn_ok w_9.1 (by omega) (by omega) w_9.2.1 w_9.2.2.1 (by omega) (by omega) (by omega) w_27.1 w_27.2.1 w_27.2.2.1 w_27.2.2.2.1 w_27.2.2.2.2
                exact ih1 x_26 x_33 o_28 o_29 o_30 o_31 o_32 o_10 o_11 o_12 o_13 o_14 (om_95 LP1_h0 i_33) (om_96 i_2 i_33) (by rw [show (x_33.toInt + 1).toNat = i.toNatClampNeg by omega]; exact mj_rn_put LP1_h2 (by omega) (by unfold mj_hit; omega) okk w_27.1 w_27.2.1 w_27.2.2.1 w_27.2.2.2.2) (by rw [w_27.1]; exact sixes_upd LP1_h3 (by omega) (by omega)) (om_mu hn1 (om_97 i_33) (om_98 i_2)) _ _ hP hD hS ls (lv_sub hl [0, 1, 2, 3, 4] rfl)
  have k_34 : (0 : Int32).toInt = 0 := rfl
  exact LP1 ((y_1.toInt + 1 : Int).toNat + 1) 0 y_1 fs fo fe uv un js jl je jv jn (om_100 i_1) (om_101 b0 i_1) (mj_rn_0 _ _ _ _ _ _ _ _ _ _ _ (by omega)) s0 (Nat.lt_succ_self _) _ _ hP hD hS ls (lv_sub hl [0, 1, 2, 3, 4] rfl)

set_option maxHeartbeats 4000000 in
set_option maxRecDepth 100000 in
theorem c_X2_layRanges_x (l : Launch) (dC : Nat → ClassId) (dI : Nat → Nat → Nat) (q_t : Nat) (q_row : Nat) (q_joined : Nat) (q_from : Nat) (q_to : Nat) (q_size : Nat) (q_lossOf : Nat) (q_lessBy : Nat) (q_value : Nat) (q_number : Nat) (nodes : Int32) (here : Int32) (q_cell : Nat) (cyI : ClassId) (len : Int32) (ff : Nat → Int32) (ft : Nat → Int32) (sz : Nat) (a0 : 0 ≤ len.toInt) (a1 : len.toInt ≤ 160) : Met l yX2_layRanges wsX2_layRanges ({ frames := 2, cells := 0, slots := 0, locals := 90 }) (va_Pc [.ref q_t] (fun U => U.heap.size = sz ∧ va_P (dC, dI) vwCl [kx_2 q_t q_row q_joined q_from q_to q_size q_lossOf q_lessBy q_value q_number nodes here, kx_0 q_row q_cell len, kx_a q_from cyI 319 ff, kx_a q_to cyI 319 ft] U.heap ∧ va_K (dC, dI) vwCl [(cyI, .int)] U ∧ va_D (fun _ => True) [kx_2 q_t q_row q_joined q_from q_to q_size q_lossOf q_lessBy q_value q_number nodes here, kx_0 q_row q_cell len, kx_a q_from cyI 319 ff, kx_a q_to cyI 319 ft])) (va_Qv (fun u : Int32 × (Nat → Int32) × (Nat → Int32) => ((len.toInt = 0 ∧ u.1.toInt = 0) ∨ (0 < len.toInt ∧ u.1.toInt = 2 * len.toInt - 1)) ∧ treeOk u.2.1 u.2.2 u.1.toInt len.toInt ∧ mj_cr u.2.1 u.2.2 u.1.toInt ∧ mj_rt u.2.1 u.2.2 len.toInt) (fun (u : Int32 × (Nat → Int32) × (Nat → Int32)) (t : State) => va_P (dC, dI) vwCl [kx_2 q_t q_row q_joined q_from q_to q_size q_lossOf q_lessBy q_value q_number u.1 here, kx_0 q_row q_cell len, kx_a q_from cyI 319 u.2.1, kx_a q_to cyI 319 u.2.2] t.heap ∧ va_K (dC, dI) vwCl [(cyI, .int)] t ∧ va_D (va_A [kx_2 q_t q_row q_joined q_from q_to q_size q_lossOf q_lessBy q_value q_number nodes here, kx_0 q_row q_cell len, kx_a q_from cyI 319 ff, kx_a q_to cyI 319 ft] sz) [kx_2 q_t q_row q_joined q_from q_to q_size q_lossOf q_lessBy q_value q_number u.1 here, kx_0 q_row q_cell len, kx_a q_from cyI 319 u.2.1, kx_a q_to cyI 319 u.2.2]) (va_A [kx_2 q_t q_row q_joined q_from q_to q_size q_lossOf q_lessBy q_value q_number nodes here, kx_0 q_row q_cell len, kx_a q_from cyI 319 ff, kx_a q_to cyI 319 ft] sz)) 0 0 (va_A [kx_2 q_t q_row q_joined q_from q_to q_size q_lossOf q_lessBy q_value q_number nodes here, kx_0 q_row q_cell len, kx_a q_from cyI 319 ff, kx_a q_to cyI 319 ft] sz) := by
  refine Met.ofW (cc := cX2_layRanges) (maxL := 2) (ret := none) (by decide) rfl ?_
  intro p e s m args below meth c s₁ B hml hv
  obtain ⟨rfl, hsz, hP, hK, hD0⟩ := hv
  have hx := B.exec
  have hb := B.bytes
  have hr := B.returns
  have hts := atoms_spec (ws := wsX2_layRanges) B.pre
  have hown : s.vm.findClass RX2 = some m.cls := findClass_of_methodNamed B.named
  have hlocks := B.notSynchronized
  subst hsz
  have hD := hD0.self (sz := s.heap.size)
  generalize hAe : va_A [kx_2 q_t q_row q_joined q_from q_to q_size q_lossOf q_lessBy q_value q_number nodes here, kx_0 q_row q_cell len, kx_a q_from cyI 319 ff, kx_a q_to cyI 319 ft] s.heap.size = A at hD ⊢
  have hA : ∀ q : Nat, s.heap.size ≤ q → A q := fun q h => by rw [← hAe]; exact Or.inr h
  have hS : va_S A s.heap s.heap [] := va_S.rf
  have hP : va_P (dC, dI) vwCl [kx_2 q_t q_row q_joined q_from q_to q_size q_lossOf q_lessBy q_value q_number nodes here, kx_0 q_row q_cell len, kx_a q_from cyI 319 ff, kx_a q_to cyI 319 ft] s.heap := hP
  have hl := lv_entry ([.ref q_t]) (n := 2) (Nat.le_of_ble_eq_true rfl)
  rw [lg_entry_eq]
  generalize (lg_sl ([.ref q_t]) ++ List.replicate (2 - (lg_sl ([.ref q_t])).length) Slot.unset).toArray = ls at hl ⊢
  have hl : lv_has ls 2 [(0, .ref q_t)] := hl
  have hf_40 := hts (.fieldLink RX2 40 "MajorityIndex$Tree" "row" "LMajorityIndex$Row;") (List.mem_of_getElem? (i := 1) rfl)
  have hi_2 : ∀ w ∈ u_ws RX2 TX2 11, w ∈ wsX2_layRanges := fun w h => List.mem_cons_of_mem _ (List.mem_append_left _ (List.mem_append_right _ h))
  have hf_44 := hts (.fieldLink RX2 44 "MajorityIndex$Row" "length" "I") (List.mem_of_getElem? (i := 2) rfl)
  have hi_0 : ∀ w ∈ u_ws RX0 TX0 2, w ∈ wsX2_layRanges := fun w h => List.mem_cons_of_mem _ (List.mem_append_right _ h)
  have hf_50 := hts (.fieldLink RX2 50 "MajorityIndex$Tree" "nodes" "I") (List.mem_of_getElem? (i := 3) rfl)
  have hf_18 := hts (.fieldLink RX2 18 "MajorityIndex$Tree" "from" "[I") (List.mem_of_getElem? (i := 4) rfl)
  have hf_22 := hts (.fieldLink RX2 22 "MajorityIndex$Tree" "to" "[I") (List.mem_of_getElem? (i := 5) rfl)
  refine lv_aload_n hx hb dX2_layRanges_0 rfl (lv_at hl 0 rfl) ?_
  refine lv_aload_n hx hb dX2_layRanges_1 rfl (lv_at hl 0 rfl) ?_
  refine va_get (D := (dC, dI)) (ci := 2) (v := .ref q_row) (C := RX2) (T := TX2) (N := 11) hx hb hts hi_2 hown hK hP 0 rfl rfl 0 (by decide) hf_40 (fun _ h9 => h9) rfl dX2_layRanges_2 ?_
  refine va_get (D := (dC, dI)) (ci := 0) (v := .int len) (C := RX0) (T := TX0) (N := 2) hx hb hts hi_0 hown hK hP 1 rfl rfl 1 (by decide) hf_44 (fun _ h9 => h9) rfl dX2_layRanges_5 ?_
  refine lv_if_ne (tgt := 15) hx hb dX2_layRanges_8 (by decide) (fun c_1 => ?_) (fun c_1 => ?_)
  · have i_1 : ¬ len.toInt = 0 := kc_ne c_1
    refine lv_iconst (v := 2) hx hb dX2_layRanges_15 (by decide) ?_
    refine lv_aload_n hx hb dX2_layRanges_16 rfl (lv_at hl 0 rfl) ?_
    refine va_get (D := (dC, dI)) (ci := 2) (v := .ref q_row) (C := RX2) (T := TX2) (N := 11) hx hb hts hi_2 hown hK hP 0 rfl rfl 0 (by decide) hf_40 (fun _ h9 => h9) rfl dX2_layRanges_17 ?_
    refine va_get (D := (dC, dI)) (ci := 0) (v := .int len) (C := RX0) (T := TX0) (N := 2) hx hb hts hi_0 hown hK hP 1 rfl rfl 1 (by decide) hf_44 (fun _ h9 => h9) rfl dX2_layRanges_20 ?_
    refine lv_imul hx hb dX2_layRanges_23 ?_
    refine lv_topi (fun y_2 ey_2 => ?_)
    have i_2 : y_2.toInt = 2 * len.toInt := ki_mul ey_2 rfl rfl (om_58 a0) (om_59 a1)
    refine lv_iconst (v := 1) hx hb dX2_layRanges_24 (by decide) ?_
    refine lv_isub hx hb dX2_layRanges_25 ?_
    refine lv_topi (fun y_3 ey_3 => ?_)
    have i_3 : y_3.toInt = y_2.toInt - 1 := ki_sub ey_3 rfl rfl (om_60 a0 i_2) (om_61 a1 i_2)
    refine va_put (D := (dC, dI)) (ci := 2) (v := .int y_3) (ty := .int) (C := RX2) (T := TX2) (N := 11) hx hb hts hi_2 tyX2 tyX2_ok nmX2 hown hK hP hD hS 0 rfl rfl 9 (by decide) hf_50 (fun _ h9 => h9) rfl (by decide +kernel) rfl rfl (Nat.le_of_ble_eq_true rfl) dX2_layRanges_26 (fun H locs hP hD hS => ?_)
    have hP : va_P (dC, dI) vwCl [kx_2 q_t q_row q_joined q_from q_to q_size q_lossOf q_lessBy q_value q_number y_3 here, kx_0 q_row q_cell len, kx_a q_from cyI 319 ff, kx_a q_to cyI 319 ft] H := hP
    have hD : va_D A [kx_2 q_t q_row q_joined q_from q_to q_size q_lossOf q_lessBy q_value q_number y_3 here, kx_0 q_row q_cell len, kx_a q_from cyI 319 ff, kx_a q_to cyI 319 ft] := hD
    refine lv_aload_n hx hb dX2_layRanges_29 rfl (lv_at hl 0 rfl) ?_
    refine va_get (D := (dC, dI)) (ci := 2) (v := .ref q_from) (C := RX2) (T := TX2) (N := 11) hx hb hts hi_2 hown hK hP 0 rfl rfl 2 (by decide) hf_18 (fun _ h9 => h9) rfl dX2_layRanges_30 ?_
    refine lv_iconst (v := 0) hx hb dX2_layRanges_33 (by decide) ?_
    refine lv_iconst (v := 0) hx hb dX2_layRanges_34 (by decide) ?_
    refine va_iast hx hb hK hP hD hS 2 0 rfl rfl (ki_inl (by decide)) dX2_layRanges_35 (fun H locs hP hD hS => ?_)
    have hP : va_P (dC, dI) vwCl [kx_2 q_t q_row q_joined q_from q_to q_size q_lossOf q_lessBy q_value q_number y_3 here, kx_0 q_row q_cell len, kx_a q_from cyI 319 (upd ff (0 : Int32).toNatClampNeg 0), kx_a q_to cyI 319 ft] H := hP
    have hD : va_D A [kx_2 q_t q_row q_joined q_from q_to q_size q_lossOf q_lessBy q_value q_number y_3 here, kx_0 q_row q_cell len, kx_a q_from cyI 319 (upd ff (0 : Int32).toNatClampNeg 0), kx_a q_to cyI 319 ft] := hD
    refine lv_aload_n hx hb dX2_layRanges_36 rfl (lv_at hl 0 rfl) ?_
    refine va_get (D := (dC, dI)) (ci := 2) (v := .ref q_to) (C := RX2) (T := TX2) (N := 11) hx hb hts hi_2 hown hK hP 0 rfl rfl 3 (by decide) hf_22 (fun _ h9 => h9) rfl dX2_layRanges_37 ?_
    refine lv_iconst (v := 0) hx hb dX2_layRanges_40 (by decide) ?_
    refine lv_aload_n hx hb dX2_layRanges_41 rfl (lv_at hl 0 rfl) ?_
    refine va_get (D := (dC, dI)) (ci := 2) (v := .ref q_row) (C := RX2) (T := TX2) (N := 11) hx hb hts hi_2 hown hK hP 0 rfl rfl 0 (by decide) hf_40 (fun _ h9 => h9) rfl dX2_layRanges_42 ?_
    refine va_get (D := (dC, dI)) (ci := 0) (v := .int len) (C := RX0) (T := TX0) (N := 2) hx hb hts hi_0 hown hK hP 1 rfl rfl 1 (by decide) hf_44 (fun _ h9 => h9) rfl dX2_layRanges_45 ?_
    refine va_iast hx hb hK hP hD hS 3 0 rfl rfl (ki_inl (by decide)) dX2_layRanges_48 (fun H locs hP hD hS => ?_)
    have hP : va_P (dC, dI) vwCl [kx_2 q_t q_row q_joined q_from q_to q_size q_lossOf q_lessBy q_value q_number y_3 here, kx_0 q_row q_cell len, kx_a q_from cyI 319 (upd ff (0 : Int32).toNatClampNeg 0), kx_a q_to cyI 319 (upd ft (0 : Int32).toNatClampNeg len)] H := hP
    have hD : va_D A [kx_2 q_t q_row q_joined q_from q_to q_size q_lossOf q_lessBy q_value q_number y_3 here, kx_0 q_row q_cell len, kx_a q_from cyI 319 (upd ff (0 : Int32).toNatClampNeg 0), kx_a q_to cyI 319 (upd ft (0 : Int32).toNatClampNeg len)] := hD
    refine lv_iconst (v := 0) hx hb dX2_layRanges_49 (by decide) ?_
    refine lv_istore_n (lv' := [(1, .int 0), (0, .ref q_t)]) hx hb dX2_layRanges_50 rfl hl (by decide) rfl (fun ls hl => ?_)
    have hpd : ∃ cc : Nat, pend (upd ff (0 : Int32).toNatClampNeg 0) (upd ft (0 : Int32).toNatClampNeg len) y_3.toInt len.toInt cc (0 : Int32).toNatClampNeg := by
      have z0 : (0 : Int32).toNatClampNeg = 0 := rfl
      have z1 : (0 : Int32).toInt = 0 := rfl
      have u1 : upd ff 0 0 0 = 0 := by unfold upd; rw [if_pos rfl]
      have u2 : upd ft 0 len 0 = len := by unfold upd; rw [if_pos rfl]
      refine ⟨1, ⟨?_, ?_⟩⟩
      · unfold okAt; rw [z0, u1, u2, z1]; omega
      · show ((_ : Nat) : Int) = _; rw [z0, u1, u2, z1]; omega
    have LP1 : ∀ (n : Nat) (i : Int32) (gf : Nat → Int32) (gt : Nat → Int32), (0 ≤ i.toInt) → (∀ k : Nat, k < i.toNatClampNeg → okAt gf gt y_3.toInt len.toInt k) → (∃ cc : Nat, pend gf gt y_3.toInt len.toInt cc i.toNatClampNeg) → ((gf, gt) = mj_lit (upd ff (0 : Int32).toNatClampNeg 0) (upd ft (0 : Int32).toNatClampNeg len) 0 i.toNatClampNeg) → (i.toInt ≤ y_3.toInt) → (y_3.toInt - i.toInt).toNat < n → ∀ (H : Heap) (locs : List Loc), va_P (dC, dI) vwCl [kx_2 q_t q_row q_joined q_from q_to q_size q_lossOf q_lessBy q_value q_number y_3 here, kx_0 q_row q_cell len, kx_a q_from cyI 319 gf, kx_a q_to cyI 319 gt] H → va_D A [kx_2 q_t q_row q_joined q_from q_to q_size q_lossOf q_lessBy q_value q_number y_3 here, kx_0 q_row q_cell len, kx_a q_from cyI 319 gf, kx_a q_to cyI 319 gt] → va_S A s.heap H locs → ∀ (ls : Array Slot), lv_has ls 2 [(1, .int i), (0, .ref q_t)] → W p l e (headSpec wsX2_layRanges ({ frames := 2, cells := 0, slots := 0, locals := 90 })).room s m ([.ref q_t] : List Value).toArray below meth c H locs 0 0 (MQ below (va_Qv (fun u : Int32 × (Nat → Int32) × (Nat → Int32) => ((len.toInt = 0 ∧ u.1.toInt = 0) ∨ (0 < len.toInt ∧ u.1.toInt = 2 * len.toInt - 1)) ∧ treeOk u.2.1 u.2.2 u.1.toInt len.toInt ∧ mj_cr u.2.1 u.2.2 u.1.toInt ∧ mj_rt u.2.1 u.2.2 len.toInt) (fun (u : Int32 × (Nat → Int32) × (Nat → Int32)) (t : State) => va_P (dC, dI) vwCl [kx_2 q_t q_row q_joined q_from q_to q_size q_lossOf q_lessBy q_value q_number u.1 here, kx_0 q_row q_cell len, kx_a q_from cyI 319 u.2.1, kx_a q_to cyI 319 u.2.2] t.heap ∧ va_K (dC, dI) vwCl [(cyI, .int)] t ∧ va_D A [kx_2 q_t q_row q_joined q_from q_to q_size q_lossOf q_lessBy q_value q_number u.1 here, kx_0 q_row q_cell len, kx_a q_from cyI 319 u.2.1, kx_a q_to cyI 319 u.2.2]) A) ([.ref q_t] : List Value).toArray s 0 0 A) (F0 m 51 ls []) := by
      intro n
      induction n with
      | zero => intro i gf gt LP1_h0 LP1_h1 LP1_h2 LP1_h3 LP1_h4 hn; exact absurd hn (Nat.not_lt_zero _)
      | succ n ih1 =>
        intro i gf gt LP1_h0 LP1_h1 LP1_h2 LP1_h3 LP1_h4 hn1 H locs hP hD hS ls hl
        obtain ⟨cc, hcc⟩ := LP1_h2
        have n_i := ki_nat i rfl (by omega)
        refine lv_iload_n hx hb dX2_layRanges_51 rfl (lv_at hl 0 rfl) ?_
        refine lv_aload_n hx hb dX2_layRanges_52 rfl (lv_at hl 1 rfl) ?_
        refine va_get (D := (dC, dI)) (ci := 2) (v := .int y_3) (C := RX2) (T := TX2) (N := 11) hx hb hts hi_2 hown hK hP 0 rfl rfl 9 (by decide) hf_50 (fun _ h9 => h9) rfl dX2_layRanges_53 ?_
        refine lv_icmp_ge (tgt := 87) hx hb dX2_layRanges_56 (by decide) (fun c_4 => ?_) (fun c_4 => ?_)
        · have i_4 : y_3.toInt ≤ i.toInt := kc_le c_4
          have hP9 := hP
          have hD9 := hD
          have hK9 := hK
          have n_len := ki_nat len rfl (om_8 a0)
          have u1 : upd ff (0 : Int32).toNatClampNeg 0 0 = 0 := rfl
          have u2 : upd ft (0 : Int32).toNatClampNeg len 0 = len := rfl
          have hRO := mj_lit_R 8 0 0 len.toNatClampNeg (upd ff (0 : Int32).toNatClampNeg 0) (upd ft (0 : Int32).toNatClampNeg len) (by rw [u1]; rfl) (by rw [u2]; omega) (by omega) (by omega) (show len.toNatClampNeg - 0 ≤ 256 by omega)
          have n_i9 := ki_nat i rfl (by omega)
          rw [show 2 * (len.toNatClampNeg - 0) - 1 = i.toNatClampNeg by omega, ← LP1_h3] at hRO
          have hR := hRO.1
          have hO := hRO.2 0 (by omega)
          dsimp only at hO
          have k_z : (0 : Int32).toInt = 0 := rfl
          exact W.vret hx hb hr (fun t ht hW => ⟨⟨(y_3, gf, gt), rfl, ⟨Or.inr ⟨by omega, by (try dsimp only); omega⟩, (fun k hk => LP1_h1 k (by (try dsimp only at hk); omega)), mj_R_cr hR (by omega) (by (try dsimp only); omega), fun _ => ⟨by (try dsimp only); rw [hO.1, u1]; exact k_z, by (try dsimp only); rw [hO.2, u2]⟩⟩, by rw [ht]; exact hP9, va_K.moved hW.alike hK9, hD9⟩, hS.F ht⟩) hS.2.2 dX2_layRanges_87
        · have i_4 : i.toInt < y_3.toInt := kc_nle c_4
          obtain ⟨c9, rfl⟩ : ∃ c9, cc = c9 + 1 := by
            cases cc with
            | zero => exact absurd (show (i.toNatClampNeg : Int) = _ from hcc) (by omega)
            | succ c => exact ⟨c, rfl⟩
          have hok := hcc.1
          unfold okAt at hok
          refine lv_aload_n hx hb dX2_layRanges_59 rfl (lv_at hl 1 rfl) ?_
          refine va_get (D := (dC, dI)) (ci := 2) (v := .ref q_to) (C := RX2) (T := TX2) (N := 11) hx hb hts hi_2 hown hK hP 0 rfl rfl 3 (by decide) hf_22 (fun _ h9 => h9) rfl dX2_layRanges_60 ?_
          refine lv_iload_n hx hb dX2_layRanges_63 rfl (lv_at hl 0 rfl) ?_
          refine va_iald hx hb hK hP 3 0 rfl rfl (ki_in (om_8 LP1_h0) (om_62 a1 i_2 i_3 i_4)) dX2_layRanges_64 ?_
          refine lv_topi (fun y_5 ey_5 => ?_)
          have j_5 : y_5.toInt = (gt i.toNatClampNeg).toInt := congrArg Int32.toInt ey_5
          refine lv_aload_n hx hb dX2_layRanges_65 rfl (lv_at hl 1 rfl) ?_
          refine va_get (D := (dC, dI)) (ci := 2) (v := .ref q_from) (C := RX2) (T := TX2) (N := 11) hx hb hts hi_2 hown hK hP 0 rfl rfl 2 (by decide) hf_18 (fun _ h9 => h9) rfl dX2_layRanges_66 ?_
          refine lv_iload_n hx hb dX2_layRanges_69 rfl (lv_at hl 0 rfl) ?_
          refine va_iald hx hb hK hP 2 0 rfl rfl (ki_in (om_8 LP1_h0) (om_62 a1 i_2 i_3 i_4)) dX2_layRanges_70 ?_
          refine lv_topi (fun y_6 ey_6 => ?_)
          have j_6 : y_6.toInt = (gf i.toNatClampNeg).toInt := congrArg Int32.toInt ey_6
          refine lv_isub hx hb dX2_layRanges_71 ?_
          refine lv_topi (fun y_7 ey_7 => ?_)
          have i_7 : y_7.toInt = y_5.toInt - y_6.toInt := ki_sub ey_7 rfl rfl (by omega) (by omega)
          refine lv_iconst (v := 1) hx hb dX2_layRanges_72 (by decide) ?_
          refine lv_icmp_le (tgt := 81) hx hb dX2_layRanges_73 (by decide) (fun c_8 => ?_) (fun c_8 => ?_)
          · have i_8 : y_7.toInt ≤ 1 := kc_le c_8
            obtain ⟨x_9, ex_9⟩ : ∃ y : Int32, y = i + 1 := ⟨_, rfl⟩
            have i_9 : x_9.toInt = i.toInt + 1 := ki_add ex_9 rfl rfl (om_10 LP1_h0) (om_333 a1 i_2 i_3 LP1_h4)
            refine lv_iinc (v := x_9) (lv' := [(1, .int x_9), (0, .ref q_t)]) hx hb dX2_layRanges_81 hl (k := 0) rfl (by rw [ex_9]; rfl) (by decide) rfl (fun ls hl => ?_)
            refine lv_goto (tgt := 51) hx hb dX2_layRanges_84 (by decide) ?_
            have n_x := ki_nat x_9 rfl (by omega)
            have q_x : x_9.toNatClampNeg = i.toNatClampNeg + 1 := by omega
            have q_l : mj_lit (upd ff (0 : Int32).toNatClampNeg 0) (upd ft (0 : Int32).toNatClampNeg len) 0 (i.toNatClampNeg + 1) = mj_l1 gf gt i.toNatClampNeg := by
              show mj_l1 (mj_lit _ _ 0 i.toNatClampNeg).1 (mj_lit _ _ 0 i.toNatClampNeg).2 (0 + i.toNatClampNeg) = _
              rw [← LP1_h3, Nat.zero_add]
            exact ih1 x_9 gf gt (om_31 LP1_h0 i_9) (fun k hk => (if h9 : k < i.toNatClampNeg then LP1_h1 k h9 else (by rw [show k = i.toNatClampNeg by omega]; exact hcc.1))) ⟨c9, by rw [q_x]; exact pend_leaf hcc (by omega)⟩ (by rw [q_x, q_l]; unfold mj_l1; rw [if_neg (by omega)]) (om_47 i_4 i_9) (om_mu hn1 (om_5 i_9) (om_6 i_4)) _ _ hP hD hS ls (lv_sub hl [0, 1] rfl)
          · have i_8 : 1 < y_7.toInt := kc_nle c_8
            refine lv_aload_n hx hb dX2_layRanges_76 rfl (lv_at hl 1 rfl) ?_
            refine lv_iload_n hx hb dX2_layRanges_77 rfl (lv_at hl 0 rfl) ?_
            have hPc := hP.sub (ws' := [kx_2 q_t q_row q_joined q_from q_to q_size q_lossOf q_lessBy q_value q_number y_3 here, kx_a q_from cyI 319 gf, kx_a q_to cyI 319 gt]) [0, 2, 3] rfl
            have hKc := hK
            have hDc := hD.sub (ws' := [kx_2 q_t q_row q_joined q_from q_to q_size q_lossOf q_lessBy q_value q_number y_3 here, kx_a q_from cyI 319 gf, kx_a q_to cyI 319 gt]) [0, 2, 3] (by decide) rfl
            have hFc := va_free (wc := [kx_2 q_t q_row q_joined q_from q_to q_size q_lossOf q_lessBy q_value q_number y_3 here, kx_a q_from cyI 319 gf, kx_a q_to cyI 319 gt]) hD hS hA [0, 2, 3] rfl
            refine va_callv (va_runV (As := [.int i]) (rest := []) ⟨hx, hb, hml, hown, hts⟩ (c_X2_layBelow l dC dI q_t q_row q_joined q_from q_to q_size q_lossOf q_lessBy q_value q_number y_3 here cyI gf gt i H.size LP1_h0 (om_64 a1 i_2 i_3 i_4) (by omega) (by omega) (by omega) (by omega)) (cwV 1 hts gX2_layRanges_X2_layBelow rfl rfl rfl (by decide +kernel) ⟨Nat.le_of_ble_eq_true rfl, Nat.le_of_ble_eq_true rfl⟩) ⟨fun a U g mk q => by obtain ⟨q0, q1, qP, qK, qD⟩ := q; exact ⟨q0, q1, qP, va_K.moved (u := U) (U := U.calling g mk a) (Vm.Alike.refl U.vm) qK, qD⟩, va_recv hKc hPc (ci := 2) (q0 := 0) rfl rfl, fun U hU hW => ⟨rfl, by rw [hU], by rw [hU]; exact hPc, va_K.moved hW.alike hKc, hDc.weaken (fun _ _ _ _ => trivial)⟩⟩ rfl rfl hl.1 rfl (lv_room (Nat.le_of_ble_eq_true rfl)) dX2_layRanges_78 ⟨Nat.le_of_ble_eq_true rfl, Nat.le_of_ble_eq_true rfl⟩) hS (fun q _ h => hFc q h) hFc (fun u t H1 locs ht hvm w_10 hB hz1 hk1 hS => ?_)
            obtain ⟨o_11, o_12, o_13, o_14⟩ := u
            dsimp only at w_10 hB
            obtain ⟨hP1, hK1, hD1⟩ := hB
            rw [ht] at hP1
            have hK1 := va_K.moved hvm.symm hK1
            obtain ⟨hP, hD⟩ := va_join (wr := [kx_0 q_row q_cell len]) (w1 := [kx_2 q_t q_row q_joined q_from q_to q_size q_lossOf q_lessBy q_value q_number y_3 here, kx_a q_from cyI 319 o_13, kx_a q_to cyI 319 o_14]) hP hD [0, 2, 3] [1] rfl rfl (by decide) (by decide) hk1 hFc hP1 hD1
            clear hP1 hD1 hK1 hk1 hz1 hFc hDc hPc hKc
            generalize H1 = H at hP hS ⊢
            have hP : va_P (dC, dI) vwCl [kx_0 q_row q_cell len, kx_2 q_t q_row q_joined q_from q_to q_size q_lossOf q_lessBy q_value q_number y_3 here, kx_a q_from cyI 319 o_13, kx_a q_to cyI 319 o_14] H := hP
            have hD : va_D A [kx_0 q_row q_cell len, kx_2 q_t q_row q_joined q_from q_to q_size q_lossOf q_lessBy q_value q_number y_3 here, kx_a q_from cyI 319 o_13, kx_a q_to cyI 319 o_14] := hD
            have w_10 : o_11.toInt = ((gf i.toNatClampNeg).toInt + (gt i.toNatClampNeg).toInt) / 2 ∧ o_12.toInt = i.toInt + 2 * (((gf i.toNatClampNeg).toInt + (gt i.toNatClampNeg).toInt) / 2 - (gf i.toNatClampNeg).toInt) ∧ o_13 = upd (upd gf (i.toNatClampNeg + 1) (gf i.toNatClampNeg)) o_12.toNatClampNeg o_11 ∧ o_14 = upd (upd gt (i.toNatClampNeg + 1) o_11) o_12.toNatClampNeg (gt i.toNatClampNeg) := w_10
            obtain ⟨x_15, ex_15⟩ : ∃ y : Int32, y = i + 1 := ⟨_, rfl⟩
            have i_15 : x_15.toInt = i.toInt + 1 := ki_add ex_15 rfl rfl (om_10 LP1_h0) (om_333 a1 i_2 i_3 LP1_h4)
            refine lv_iinc (v := x_15) (lv' := [(1, .int x_15), (0, .ref q_t)]) hx hb dX2_layRanges_81 hl (k := 0) rfl (by rw [ex_15]; rfl) (by decide) rfl (fun ls hl => ?_)
            refine lv_goto (tgt := 51) hx hb dX2_layRanges_84 (by decide) ?_
            have hP : va_P (dC, dI) vwCl [kx_2 q_t q_row q_joined q_from q_to q_size q_lossOf q_lessBy q_value q_number y_3 here, kx_0 q_row q_cell len, kx_a q_from cyI 319 o_13, kx_a q_to cyI 319 o_14] _ := hP.sub [1, 0, 2, 3] rfl
            have hD : va_D A [kx_2 q_t q_row q_joined q_from q_to q_size q_lossOf q_lessBy q_value q_number y_3 here, kx_0 q_row q_cell len, kx_a q_from cyI 319 o_13, kx_a q_to cyI 319 o_14] := hD.sub [1, 0, 2, 3] (by decide) rfl
            have n_x := ki_nat x_15 rfl (by omega)
            have q_x : x_15.toNatClampNeg = i.toNatClampNeg + 1 := by omega
            have n_r := ki_nat o_12 rfl (by omega)
            have hsp := pend_split (r := o_12.toNatClampNeg) (md := o_11) hcc rfl rfl (by omega) (by omega) (by omega) w_10.2.2.1 w_10.2.2.2
            have q_l : mj_lit (upd ff (0 : Int32).toNatClampNeg 0) (upd ft (0 : Int32).toNatClampNeg len) 0 (i.toNatClampNeg + 1) = mj_l1 gf gt i.toNatClampNeg := by
              show mj_l1 (mj_lit _ _ 0 i.toNatClampNeg).1 (mj_lit _ _ 0 i.toNatClampNeg).2 (0 + i.toNatClampNeg) = _
              rw [← LP1_h3, Nat.zero_add]
            have q_m : o_11 = Int32.ofInt (((gf i.toNatClampNeg).toInt + (gt i.toNatClampNeg).toInt) / 2) := by rw [← w_10.1, Int32.ofInt_toInt]
            have q_r : o_12.toNatClampNeg = i.toNatClampNeg + 2 * (((gf i.toNatClampNeg).toInt + (gt i.toNatClampNeg).toInt) / 2 - (gf i.toNatClampNeg).toInt).toNat := by omega
            exact ih1 x_15 o_13 o_14 (om_31 LP1_h0 i_15) (fun k hk => hsp.2 k (by omega) (if h9 : k < i.toNatClampNeg then LP1_h1 k h9 else (by rw [show k = i.toNatClampNeg by omega]; exact hcc.1))) ⟨c9 + 2, by rw [q_x]; exact hsp.1⟩ (by rw [q_x, q_l, w_10.2.2.1, w_10.2.2.2, q_r, q_m]; unfold mj_l1; rw [if_pos (by omega)]) (om_47 i_4 i_15) (om_mu hn1 (om_5 i_15) (om_6 i_4)) _ _ hP hD hS ls (lv_sub hl [0, 1] rfl)
    have k_16 : (0 : Int32).toInt = 0 := rfl
    exact LP1 ((y_3.toInt - 0 : Int).toNat + 1) 0 (upd ff (0 : Int32).toNatClampNeg 0) (upd ft (0 : Int32).toNatClampNeg len) om_32 (fun k hk => absurd hk (Nat.not_lt_zero k)) hpd rfl (by omega) (Nat.lt_succ_self _) _ _ hP hD hS ls (lv_sub hl [0, 1] rfl)
  · have i_1 : len.toInt = 0 := kc_eq c_1
    refine lv_iconst (v := 0) hx hb dX2_layRanges_11 (by decide) ?_
    refine lv_goto (tgt := 26) hx hb dX2_layRanges_12 (by decide) ?_
    refine va_put (D := (dC, dI)) (ci := 2) (v := .int 0) (ty := .int) (C := RX2) (T := TX2) (N := 11) hx hb hts hi_2 tyX2 tyX2_ok nmX2 hown hK hP hD hS 0 rfl rfl 9 (by decide) hf_50 (fun _ h9 => h9) rfl (by decide +kernel) rfl rfl (Nat.le_of_ble_eq_true rfl) dX2_layRanges_26 (fun H locs hP hD hS => ?_)
    have hP : va_P (dC, dI) vwCl [kx_2 q_t q_row q_joined q_from q_to q_size q_lossOf q_lessBy q_value q_number 0 here, kx_0 q_row q_cell len, kx_a q_from cyI 319 ff, kx_a q_to cyI 319 ft] H := hP
    have hD : va_D A [kx_2 q_t q_row q_joined q_from q_to q_size q_lossOf q_lessBy q_value q_number 0 here, kx_0 q_row q_cell len, kx_a q_from cyI 319 ff, kx_a q_to cyI 319 ft] := hD
    refine lv_aload_n hx hb dX2_layRanges_29 rfl (lv_at hl 0 rfl) ?_
    refine va_get (D := (dC, dI)) (ci := 2) (v := .ref q_from) (C := RX2) (T := TX2) (N := 11) hx hb hts hi_2 hown hK hP 0 rfl rfl 2 (by decide) hf_18 (fun _ h9 => h9) rfl dX2_layRanges_30 ?_
    refine lv_iconst (v := 0) hx hb dX2_layRanges_33 (by decide) ?_
    refine lv_iconst (v := 0) hx hb dX2_layRanges_34 (by decide) ?_
    refine va_iast hx hb hK hP hD hS 2 0 rfl rfl (ki_inl (by decide)) dX2_layRanges_35 (fun H locs hP hD hS => ?_)
    have hP : va_P (dC, dI) vwCl [kx_2 q_t q_row q_joined q_from q_to q_size q_lossOf q_lessBy q_value q_number 0 here, kx_0 q_row q_cell len, kx_a q_from cyI 319 (upd ff (0 : Int32).toNatClampNeg 0), kx_a q_to cyI 319 ft] H := hP
    have hD : va_D A [kx_2 q_t q_row q_joined q_from q_to q_size q_lossOf q_lessBy q_value q_number 0 here, kx_0 q_row q_cell len, kx_a q_from cyI 319 (upd ff (0 : Int32).toNatClampNeg 0), kx_a q_to cyI 319 ft] := hD
    refine lv_aload_n hx hb dX2_layRanges_36 rfl (lv_at hl 0 rfl) ?_
    refine va_get (D := (dC, dI)) (ci := 2) (v := .ref q_to) (C := RX2) (T := TX2) (N := 11) hx hb hts hi_2 hown hK hP 0 rfl rfl 3 (by decide) hf_22 (fun _ h9 => h9) rfl dX2_layRanges_37 ?_
    refine lv_iconst (v := 0) hx hb dX2_layRanges_40 (by decide) ?_
    refine lv_aload_n hx hb dX2_layRanges_41 rfl (lv_at hl 0 rfl) ?_
    refine va_get (D := (dC, dI)) (ci := 2) (v := .ref q_row) (C := RX2) (T := TX2) (N := 11) hx hb hts hi_2 hown hK hP 0 rfl rfl 0 (by decide) hf_40 (fun _ h9 => h9) rfl dX2_layRanges_42 ?_
    refine va_get (D := (dC, dI)) (ci := 0) (v := .int len) (C := RX0) (T := TX0) (N := 2) hx hb hts hi_0 hown hK hP 1 rfl rfl 1 (by decide) hf_44 (fun _ h9 => h9) rfl dX2_layRanges_45 ?_
    refine va_iast hx hb hK hP hD hS 3 0 rfl rfl (ki_inl (by decide)) dX2_layRanges_48 (fun H locs hP hD hS => ?_)
    have hP : va_P (dC, dI) vwCl [kx_2 q_t q_row q_joined q_from q_to q_size q_lossOf q_lessBy q_value q_number 0 here, kx_0 q_row q_cell len, kx_a q_from cyI 319 (upd ff (0 : Int32).toNatClampNeg 0), kx_a q_to cyI 319 (upd ft (0 : Int32).toNatClampNeg len)] H := hP
    have hD : va_D A [kx_2 q_t q_row q_joined q_from q_to q_size q_lossOf q_lessBy q_value q_number 0 here, kx_0 q_row q_cell len, kx_a q_from cyI 319 (upd ff (0 : Int32).toNatClampNeg 0), kx_a q_to cyI 319 (upd ft (0 : Int32).toNatClampNeg len)] := hD
    refine lv_iconst (v := 0) hx hb dX2_layRanges_49 (by decide) ?_
    refine lv_istore_n (lv' := [(1, .int 0), (0, .ref q_t)]) hx hb dX2_layRanges_50 rfl hl (by decide) rfl (fun ls hl => ?_)
    refine lv_iload_n hx hb dX2_layRanges_51 rfl (lv_at hl 0 rfl) ?_
    refine lv_aload_n hx hb dX2_layRanges_52 rfl (lv_at hl 1 rfl) ?_
    refine va_get (D := (dC, dI)) (ci := 2) (v := .int 0) (C := RX2) (T := TX2) (N := 11) hx hb hts hi_2 hown hK hP 0 rfl rfl 9 (by decide) hf_50 (fun _ h9 => h9) rfl dX2_layRanges_53 ?_
    refine lv_icmp_ge (tgt := 87) hx hb dX2_layRanges_56 (by decide) (fun c_17 => ?_) (fun c_17 => ?_)
    · have hP9 := hP
      have hD9 := hD
      have hK9 := hK
      have k_z : (0 : Int32).toInt = 0 := rfl
      exact W.vret hx hb hr (fun t ht hW => ⟨⟨(0, (upd ff (0 : Int32).toNatClampNeg 0), (upd ft (0 : Int32).toNatClampNeg len)), rfl, ⟨Or.inl ⟨by omega, rfl⟩, (fun k hk => absurd hk (by (try dsimp only); omega)), (fun k hk => absurd hk (by (try dsimp only); omega)), fun h => absurd h (by omega)⟩, by rw [ht]; exact hP9, va_K.moved hW.alike hK9, hD9⟩, hS.F ht⟩) hS.2.2 dX2_layRanges_87
    · exact absurd c_17 (by decide)


