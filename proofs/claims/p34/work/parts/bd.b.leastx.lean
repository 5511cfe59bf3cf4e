theorem mj_ok_keep {K : Nat} {f ff ft fs fo fe uv un fs2 fo2 fe2 uv2 un2 : Nat → Int32} {l r nd n : Int} (hC : ∀ k : Nat, (k : Int) < nd → mj_ok K f ff ft fs fo fe uv un k) (ht : treeOk ff ft nd n) (he : ∀ k : Nat, (k : Int) < nd → ¬ mj_hit ff ft l r k → mj_e1 fs fo fe uv un fs2 fo2 fe2 uv2 un2 k) : ∀ k : Nat, (k : Int) < nd → ¬ mj_hit ff ft l r k → mj_ok K f ff ft fs2 fo2 fe2 uv2 un2 k := by
  intro k hk hn
  have old := hC k hk
  obtain ⟨a1, a2, a3, a4⟩ := ht k hk
  have n1 := ki_nat (ff k) rfl a1
  have n2 := ki_nat (ft k) rfl (by omega)
  obtain ⟨d, μ, L, c, t⟩ := id old
  refine mj_ok_ag old (fun b2 hb2 => ?_)
  have e : ∀ j : Nat, k ≤ j → j < b2 → mj_e1 fs fo fe uv un fs2 fo2 fe2 uv2 un2 j := fun j x y => by
    obtain ⟨d2, l2, r2, μ2, L2, c2, y1, y2, y3, y4⟩ := mj_T_all d _ _ _ _ _ _ t j x (by omega)
    have nd2 := mj_T_nd y4
    have m1 := nd2.1
    have m2 := nd2.2.1
    refine he j (by omega) (fun hh => hn ⟨?_, ?_⟩)
    · have := hh.1; omega
    · have := hh.2; omega
  refine ⟨fun j x y => ?_, fun q x y => ?_⟩
  · obtain ⟨e1, e2, e3, -⟩ := e j x y
    exact ⟨rfl, rfl, e1, e2, e3⟩
  · exact (e (q / 6) (by omega) (by omega)).2.2.2 q (by omega) (by omega)

set_option maxHeartbeats 4000000 in
set_option maxRecDepth 100000 in
theorem c_X2_keepJoined_s (l : Launch) (dC : Nat → ClassId) (dI : Nat → Nat → Nat) (q_t : Nat) (q_row : Nat) (q_joined : Nat) (q_from : Nat) (q_to : Nat) (q_size : Nat) (q_lossOf : Nat) (q_lessBy : Nat) (q_value : Nat) (q_number : Nat) (nodes : Int32) (here : Int32) (cyI : ClassId) (fs : Nat → Int32) (fo : Nat → Int32) (uv : Nat → Int32) (un : Nat → Int32) (fe : Nat → Int32) (j_v : Nat) (j_n : Nat) (js : Int32) (jl : Int32) (je : Int32) (jv : Nat → Int32) (jn : Nat → Int32) (p0 : Int32) (sz : Nat) (b0 : 0 ≤ p0.toInt) (b1 : p0.toInt < 319) (j0 : 0 ≤ js.toInt) (j1 : js.toInt ≤ 12) (s0 : sixes fs) : kx_MQ l (dC, dI) yX2_keepJoined wsX2_keepJoined ({ frames := 1, cells := 0, slots := 0, locals := 45 }) [.ref q_t, .int p0] [kx_2 q_t q_row q_joined q_from q_to q_size q_lossOf q_lessBy q_value q_number nodes here, kx_a q_size cyI 319 fs, kx_a q_lossOf cyI 319 fo, kx_a q_lessBy cyI 319 fe, kx_a q_value cyI 1914 uv, kx_a q_number cyI 1914 un, kx_3 q_joined j_v j_n js jl je, kx_a j_v cyI 12 jv, kx_a j_n cyI 12 jn] [(cyI, .int)] sz (fun A => va_Qv (fun u : (Nat → Int32) × (Nat → Int32) × (Nat → Int32) × (Nat → Int32) × (Nat → Int32) => sixes u.1 ∧ (∀ j : Nat, ¬ j = p0.toNatClampNeg → u.1 j = fs j ∧ u.2.1 j = fo j ∧ u.2.2.1 j = fe j) ∧ ∀ q : Nat, (q < 6 * p0.toNatClampNeg ∨ 6 * p0.toNatClampNeg + 6 ≤ q) → u.2.2.2.1 q = uv q ∧ u.2.2.2.2 q = un q) (fun (u : (Nat → Int32) × (Nat → Int32) × (Nat → Int32) × (Nat → Int32) × (Nat → Int32)) (t : State) => va_P (dC, dI) vwCl [kx_2 q_t q_row q_joined q_from q_to q_size q_lossOf q_lessBy q_value q_number nodes here, kx_a q_size cyI 319 u.1, kx_a q_lossOf cyI 319 u.2.1, kx_a q_lessBy cyI 319 u.2.2.1, kx_a q_value cyI 1914 u.2.2.2.1, kx_a q_number cyI 1914 u.2.2.2.2, kx_3 q_joined j_v j_n js jl je, kx_a j_v cyI 12 jv, kx_a j_n cyI 12 jn] t.heap ∧ va_K (dC, dI) vwCl [(cyI, .int)] t ∧ va_D A [kx_2 q_t q_row q_joined q_from q_to q_size q_lossOf q_lessBy q_value q_number nodes here, kx_a q_size cyI 319 u.1, kx_a q_lossOf cyI 319 u.2.1, kx_a q_lessBy cyI 319 u.2.2.1, kx_a q_value cyI 1914 u.2.2.2.1, kx_a q_number cyI 1914 u.2.2.2.2, kx_3 q_joined j_v j_n js jl je, kx_a j_v cyI 12 jv, kx_a j_n cyI 12 jn]) A) := by
  refine kx_stQ (ws := wsX2_keepJoined) (cc := cX2_keepJoined) (maxL := 4) (ret := none) (by decide) rfl (Nat.le_of_ble_eq_true rfl) ?_
  intro p e s m below meth c A ls hx hb hr hlocks hts hown hml hA hS hP hK hD hl
  have hown : s.vm.findClass RX2 = some m.cls := hown
  have hl : lv_has ls 4 [(0, .ref q_t), (1, .int p0)] := hl
  have hf_12 := hts (.fieldLink RX2 12 "MajorityIndex$Tree" "joined" "LMajorityIndex$Votes;") (List.mem_of_getElem? (i := 1) rfl)
  have hi_2 : ∀ w ∈ u_ws RX2 TX2 11, w ∈ wsX2_keepJoined := fun w h => List.mem_cons_of_mem _ (List.mem_append_left _ (List.mem_append_right _ h))
  have hf_94 := hts (.fieldLink RX2 94 "MajorityIndex$Votes" "size" "I") (List.mem_of_getElem? (i := 2) rfl)
  have hi_3 : ∀ w ∈ u_ws RX3 TX3 5, w ∈ wsX2_keepJoined := fun w h => List.mem_cons_of_mem _ (List.mem_append_right _ h)
  have hf_25 := hts (.fieldLink RX2 25 "MajorityIndex$Tree" "size" "[I") (List.mem_of_getElem? (i := 7) rfl)
  have hm_98 := hts (.methodLink RX2 98 Lib.Math.min.name) (List.mem_of_getElem? (i := 8) rfl)
  have hms_min := hts (.static Lib.Math.min.name) (List.mem_of_getElem? (i := 9) rfl)
  have hz_math := hts (.initialized "java/lang/Math") (List.mem_of_getElem? (i := 10) rfl)
  have hmc_min := hts (.code Lib.Math.min.name Lib.Math.min.code 2 (some .int)) (List.mem_of_getElem? (i := 11) rfl)
  have hf_28 := hts (.fieldLink RX2 28 "MajorityIndex$Tree" "lossOf" "[I") (List.mem_of_getElem? (i := 12) rfl)
  have hf_91 := hts (.fieldLink RX2 91 "MajorityIndex$Votes" "lost" "I") (List.mem_of_getElem? (i := 13) rfl)
  have hf_31 := hts (.fieldLink RX2 31 "MajorityIndex$Tree" "lessBy" "[I") (List.mem_of_getElem? (i := 14) rfl)
  have hf_104 := hts (.fieldLink RX2 104 "MajorityIndex$Votes" "lessBy" "I") (List.mem_of_getElem? (i := 15) rfl)
  have hf_34 := hts (.fieldLink RX2 34 "MajorityIndex$Tree" "value" "[I") (List.mem_of_getElem? (i := 3) rfl)
  have hf_96 := hts (.fieldLink RX2 96 "MajorityIndex$Votes" "value" "[I") (List.mem_of_getElem? (i := 4) rfl)
  have hf_37 := hts (.fieldLink RX2 37 "MajorityIndex$Tree" "number" "[I") (List.mem_of_getElem? (i := 5) rfl)
  have hf_97 := hts (.fieldLink RX2 97 "MajorityIndex$Votes" "number" "[I") (List.mem_of_getElem? (i := 6) rfl)
  have n_p0 := ki_nat p0 rfl (om_10 b0)
  refine lv_iload_n hx hb dX2_keepJoined_0 rfl (lv_at hl 1 rfl) ?_
  refine lv_bipush (v := 6) hx hb dX2_keepJoined_1 (by decide) ?_
  refine lv_imul hx hb dX2_keepJoined_3 ?_
  refine lv_topi (fun y_1 ey_1 => ?_)
  have i_1 : y_1.toInt = p0.toInt * 6 := ki_mul ey_1 rfl rfl (om_95 b0) (om_96 b1)
  refine lv_istore_n (lv' := [(2, .int y_1), (0, .ref q_t), (1, .int p0)]) hx hb dX2_keepJoined_4 rfl hl (by decide) rfl (fun ls hl => ?_)
  refine lv_iconst (v := 0) hx hb dX2_keepJoined_5 (by decide) ?_
  refine lv_istore_n (lv' := [(3, .int 0), (2, .int y_1), (0, .ref q_t), (1, .int p0)]) hx hb dX2_keepJoined_6 rfl hl (by decide) rfl (fun ls hl => ?_)
  have LP1 : ∀ (n : Nat) (i : Int32) (wv : Nat → Int32) (wn : Nat → Int32), (0 ≤ i.toInt) → (∀ q : Nat, (q < 6 * p0.toNatClampNeg ∨ 6 * p0.toNatClampNeg + 6 ≤ q) → wv q = uv q ∧ wn q = un q) → (6 - i.toInt).toNat < n → ∀ (H : Heap) (locs : List Loc), va_P (dC, dI) vwCl [kx_2 q_t q_row q_joined q_from q_to q_size q_lossOf q_lessBy q_value q_number nodes here, kx_a q_size cyI 319 fs, kx_a q_lossOf cyI 319 fo, kx_a q_lessBy cyI 319 fe, kx_a q_value cyI 1914 wv, kx_a q_number cyI 1914 wn, kx_3 q_joined j_v j_n js jl je, kx_a j_v cyI 12 jv, kx_a j_n cyI 12 jn] H → va_D A [kx_2 q_t q_row q_joined q_from q_to q_size q_lossOf q_lessBy q_value q_number nodes here, kx_a q_size cyI 319 fs, kx_a q_lossOf cyI 319 fo, kx_a q_lessBy cyI 319 fe, kx_a q_value cyI 1914 wv, kx_a q_number cyI 1914 wn, kx_3 q_joined j_v j_n js jl je, kx_a j_v cyI 12 jv, kx_a j_n cyI 12 jn] → va_S A s.heap H locs → ∀ (ls : Array Slot), lv_has ls 4 [(3, .int i), (2, .int y_1), (0, .ref q_t), (1, .int p0)] → W p l e (headSpec wsX2_keepJoined ({ frames := 1, cells := 0, slots := 0, locals := 45 })).room s m ([.ref q_t, .int p0] : List Value).toArray below meth c H locs 0 0 (MQ below (va_Qv (fun u : (Nat → Int32) × (Nat → Int32) × (Nat → Int32) × (Nat → Int32) × (Nat → Int32) => sixes u.1 ∧ (∀ j : Nat, ¬ j = p0.toNatClampNeg → u.1 j = fs j ∧ u.2.1 j = fo j ∧ u.2.2.1 j = fe j) ∧ ∀ q : Nat, (q < 6 * p0.toNatClampNeg ∨ 6 * p0.toNatClampNeg + 6 ≤ q) → u.2.2.2.1 q = uv q ∧ u.2.2.2.2 q = un q) (fun (u : (Nat → Int32) × (Nat → Int32) × (Nat → Int32) × (Nat → Int32) × (Nat → Int32)) (t : State) => va_P (dC, dI) vwCl [kx_2 q_t q_row q_joined q_from q_to q_size q_lossOf q_lessBy q_value q_number nodes here, kx_a q_size cyI 319 u.1, kx_a q_lossOf cyI 319 u.2.1, kx_a q_lessBy cyI 319 u.2.2.1, kx_a q_value cyI 1914 u.2.2.2.1, kx_a q_number cyI 1914 u.2.2.2.2, kx_3 q_joined j_v j_n js jl je, kx_a j_v cyI 12 jv, kx_a j_n cyI 12 jn] t.heap ∧ va_K (dC, dI) vwCl [(cyI, .int)] t ∧ va_D A [kx_2 q_t q_row q_joined q_from q_to q_size q_lossOf q_lessBy q_value q_number nodes here, kx_a q_size cyI 319 u.1, kx_a q_lossOf cyI 319 u.2.1, kx_a q_lessBy cyI 319 u.2.2.1, kx_a q_value cyI 1914 u.2.2.2.1, kx_a q_number cyI 1914 u.2.2.2.2, kx_3 q_joined j_v j_n js jl je, kx_a j_v cyI 12 jv, kx_a j_n cyI 12 jn]) A) ([.ref q_t, .int p0] : List Value).toArray s 0 0 A) (F0 m 7 ls []) := by
    intro n
    induction n with
    | zero => intro i wv wn LP1_h0 LP1_h1 hn; exact absurd hn (Nat.not_lt_zero _)
    | succ n ih1 =>
      intro i wv wn LP1_h0 LP1_h1 hn1 H locs hP hD hS ls hl
      have n_i := ki_nat i rfl (om_10 LP1_h0)
      refine lv_iload_n hx hb dX2_keepJoined_7 rfl (lv_at hl 0 rfl) ?_
      refine lv_aload_n hx hb dX2_keepJoined_8 rfl (lv_at hl 2 rfl) ?_
      refine va_get (D := (dC, dI)) (ci := 2) (v := .ref q_joined) (C := RX2) (T := TX2) (N := 11) hx hb hts hi_2 hown hK hP 0 rfl rfl 1 (by decide) hf_12 (fun _ h9 => h9) rfl dX2_keepJoined_9 ?_
      refine va_get (D := (dC, dI)) (ci := 3) (v := .int js) (C := RX3) (T := TX3) (N := 5) hx hb hts hi_3 hown hK hP 6 rfl rfl 2 (by decide) hf_94 (fun _ h9 => h9) rfl dX2_keepJoined_12 ?_
      refine lv_icmp_ge (tgt := 64) hx hb dX2_keepJoined_15 (by decide) (fun c_2 => ?_) (fun c_2 => ?_)
      · have i_2 : js.toInt ≤ i.toInt := kc_le c_2
        refine lv_aload_n hx hb dX2_keepJoined_64 rfl (lv_at hl 2 rfl) ?_
        refine va_get (D := (dC, dI)) (ci := 2) (v := .ref q_size) (C := RX2) (T := TX2) (N := 11) hx hb hts hi_2 hown hK hP 0 rfl rfl 4 (by decide) hf_25 (fun _ h9 => h9) rfl dX2_keepJoined_65 ?_
        refine lv_iload_n hx hb dX2_keepJoined_68 rfl (lv_at hl 3 rfl) ?_
        refine lv_aload_n hx hb dX2_keepJoined_69 rfl (lv_at hl 2 rfl) ?_
        refine va_get (D := (dC, dI)) (ci := 2) (v := .ref q_joined) (C := RX2) (T := TX2) (N := 11) hx hb hts hi_2 hown hK hP 0 rfl rfl 1 (by decide) hf_12 (fun _ h9 => h9) rfl dX2_keepJoined_70 ?_
        refine va_get (D := (dC, dI)) (ci := 3) (v := .int js) (C := RX3) (T := TX3) (N := 5) hx hb hts hi_3 hown hK hP 6 rfl rfl 2 (by decide) hf_94 (fun _ h9 => h9) rfl dX2_keepJoined_73 ?_
        refine lv_bipush (v := 6) hx hb dX2_keepJoined_76 (by decide) ?_
        refine va_mmin hx hb (hml.trans hl.1.symm) hown hm_98 hms_min hz_math hmc_min (Nat.le_of_ble_eq_true rfl) (Nat.le_of_ble_eq_true rfl) (Nat.le_of_ble_eq_true rfl) (Nat.le_of_ble_eq_true rfl) dX2_keepJoined_78 ?_
        refine lv_topi (fun y_3 ey_3 => ?_)
        have i_4 : (js.toInt ≤ 6 ∧ y_3.toInt = js.toInt) ∨ (6 < js.toInt ∧ y_3.toInt = 6) := ki_min ey_3 rfl rfl
        refine va_iast hx hb hK hP hD hS 1 0 rfl rfl (ki_in (om_10 b0) (om_61 b1)) dX2_keepJoined_81 (fun H locs hP hD hS => ?_)
        obtain ⟨hP, hD⟩ := kx_re (w2 := [kx_2 q_t q_row q_joined q_from q_to q_size q_lossOf q_lessBy q_value q_number nodes here, kx_a q_size cyI 319 (upd fs p0.toNatClampNeg y_3), kx_a q_lossOf cyI 319 fo, kx_a q_lessBy cyI 319 fe, kx_a q_value cyI 1914 wv, kx_a q_number cyI 1914 wn, kx_3 q_joined j_v j_n js jl je, kx_a j_v cyI 12 jv, kx_a j_n cyI 12 jn]) hP hD rfl
        refine lv_aload_n hx hb dX2_keepJoined_82 rfl (lv_at hl 2 rfl) ?_
        refine va_get (D := (dC, dI)) (ci := 2) (v := .ref q_lossOf) (C := RX2) (T := TX2) (N := 11) hx hb hts hi_2 hown hK hP 0 rfl rfl 5 (by decide) hf_28 (fun _ h9 => h9) rfl dX2_keepJoined_83 ?_
        refine lv_iload_n hx hb dX2_keepJoined_86 rfl (lv_at hl 3 rfl) ?_
        refine lv_aload_n hx hb dX2_keepJoined_87 rfl (lv_at hl 2 rfl) ?_
        refine va_get (D := (dC, dI)) (ci := 2) (v := .ref q_joined) (C := RX2) (T := TX2) (N := 11) hx hb hts hi_2 hown hK hP 0 rfl rfl 1 (by decide) hf_12 (fun _ h9 => h9) rfl dX2_keepJoined_88 ?_
        refine va_get (D := (dC, dI)) (ci := 3) (v := .int jl) (C := RX3) (T := TX3) (N := 5) hx hb hts hi_3 hown hK hP 6 rfl rfl 3 (by decide) hf_91 (fun _ h9 => h9) rfl dX2_keepJoined_91 ?_
        refine va_iast hx hb hK hP hD hS 2 0 rfl rfl (ki_in (om_10 b0) (om_61 b1)) dX2_keepJoined_94 (fun H locs hP hD hS => ?_)
        obtain ⟨hP, hD⟩ := kx_re (w2 := [kx_2 q_t q_row q_joined q_from q_to q_size q_lossOf q_lessBy q_value q_number nodes here, kx_a q_size cyI 319 (upd fs p0.toNatClampNeg y_3), kx_a q_lossOf cyI 319 (upd fo p0.toNatClampNeg jl), kx_a q_lessBy cyI 319 fe, kx_a q_value cyI 1914 wv, kx_a q_number cyI 1914 wn, kx_3 q_joined j_v j_n js jl je, kx_a j_v cyI 12 jv, kx_a j_n cyI 12 jn]) hP hD rfl
        refine lv_aload_n hx hb dX2_keepJoined_95 rfl (lv_at hl 2 rfl) ?_
        refine va_get (D := (dC, dI)) (ci := 2) (v := .ref q_lessBy) (C := RX2) (T := TX2) (N := 11) hx hb hts hi_2 hown hK hP 0 rfl rfl 6 (by decide) hf_31 (fun _ h9 => h9) rfl dX2_keepJoined_96 ?_
        refine lv_iload_n hx hb dX2_keepJoined_99 rfl (lv_at hl 3 rfl) ?_
        refine lv_aload_n hx hb dX2_keepJoined_100 rfl (lv_at hl 2 rfl) ?_
        refine va_get (D := (dC, dI)) (ci := 2) (v := .ref q_joined) (C := RX2) (T := TX2) (N := 11) hx hb hts hi_2 hown hK hP 0 rfl rfl 1 (by decide) hf_12 (fun _ h9 => h9) rfl dX2_keepJoined_101 ?_
        refine va_get (D := (dC, dI)) (ci := 3) (v := .int je) (C := RX3) (T := TX3) (N := 5) hx hb hts hi_3 hown hK hP 6 rfl rfl 4 (by decide) hf_104 (fun _ h9 => h9) rfl dX2_keepJoined_104 ?_
        refine va_iast hx hb hK hP hD hS 3 0 rfl rfl (ki_in (om_10 b0) (om_61 b1)) dX2_keepJoined_107 (fun H locs hP hD hS => ?_)
        obtain ⟨hP, hD⟩ := kx_re (w2 := [kx_2 q_t q_row q_joined q_from q_to q_size q_lossOf q_lessBy q_value q_number nodes here, kx_a q_size cyI 319 (upd fs p0.toNatClampNeg y_3), kx_a q_lossOf cyI 319 (upd fo p0.toNatClampNeg jl), kx_a q_lessBy cyI 319 (upd fe p0.toNatClampNeg je), kx_a q_value cyI 1914 wv, kx_a q_number cyI 1914 wn, kx_3 q_joined j_v j_n js jl je, kx_a j_v cyI 12 jv, kx_a j_n cyI 12 jn]) hP hD rfl
        have hP9 := hP
        have hD9 := hD
        have hK9 := hK
        exact W.vret hx hb hr (hlocks := hlocks) (fun t ht hW => ⟨⟨((upd fs p0.toNatClampNeg y_3), (upd fo p0.toNatClampNeg jl), (upd fe p0.toNatClampNeg je), wv, wn), rfl, ⟨(sixes_upd s0 (by (try dsimp only); omega) (by (try dsimp only); omega)), (fun j hj => ⟨upd_ne hj, upd_ne hj, upd_ne hj⟩), LP1_h1⟩, by rw [ht]; exact hP9, va_K.moved hW.alike hK9, hD9⟩, hS.F ht⟩) hS.2.2 dX2_keepJoined_108
      · have i_2 : i.toInt < js.toInt := kc_nle c_2
        refine lv_iload_n hx hb dX2_keepJoined_18 rfl (lv_at hl 0 rfl) ?_
        refine lv_bipush (v := 6) hx hb dX2_keepJoined_19 (by decide) ?_
        refine lv_icmp_ge (tgt := 64) hx hb dX2_keepJoined_21 (by decide) (fun c_5 => ?_) (fun c_5 => ?_)
        · have i_5 : 6 ≤ i.toInt := kc_le c_5
          refine lv_aload_n hx hb dX2_keepJoined_64 rfl (lv_at hl 2 rfl) ?_
          refine va_get (D := (dC, dI)) (ci := 2) (v := .ref q_size) (C := RX2) (T := TX2) (N := 11) hx hb hts hi_2 hown hK hP 0 rfl rfl 4 (by decide) hf_25 (fun _ h9 => h9) rfl dX2_keepJoined_65 ?_
          refine lv_iload_n hx hb dX2_keepJoined_68 rfl (lv_at hl 3 rfl) ?_
          refine lv_aload_n hx hb dX2_keepJoined_69 rfl (lv_at hl 2 rfl) ?_
          refine va_get (D := (dC, dI)) (ci := 2) (v := .ref q_joined) (C := RX2) (T := TX2) (N := 11) hx hb hts hi_2 hown hK hP 0 rfl rfl 1 (by decide) hf_12 (fun _ h9 => h9) rfl dX2_keepJoined_70 ?_
          refine va_get (D := (dC, dI)) (ci := 3) (v := .int js) (C := RX3) (T := TX3) (N := 5) hx hb hts hi_3 hown hK hP 6 rfl rfl 2 (by decide) hf_94 (fun _ h9 => h9) rfl dX2_keepJoined_73 ?_
          refine lv_bipush (v := 6) hx hb dX2_keepJoined_76 (by decide) ?_
          refine va_mmin hx hb (hml.trans hl.1.symm) hown hm_98 hms_min hz_math hmc_min (Nat.le_of_ble_eq_true rfl) (Nat.le_of_ble_eq_true rfl) (Nat.le_of_ble_eq_true rfl) (Nat.le_of_ble_eq_true rfl) dX2_keepJoined_78 ?_
          refine lv_topi (fun y_6 ey_6 => ?_)
          have i_7 : (js.toInt ≤ 6 ∧ y_6.toInt = js.toInt) ∨ (6 < js.toInt ∧ y_6.toInt = 6) := ki_min ey_6 rfl rfl
          refine va_iast hx hb hK hP hD hS 1 0 rfl rfl (ki_in (om_10 b0) (om_61 b1)) dX2_keepJoined_81 (fun H locs hP hD hS => ?_)
          obtain ⟨hP, hD⟩ := kx_re (w2 := [kx_2 q_t q_row q_joined q_from q_to q_size q_lossOf q_lessBy q_value q_number nodes here, kx_a q_size cyI 319 (upd fs p0.toNatClampNeg y_6), kx_a q_lossOf cyI 319 fo, kx_a q_lessBy cyI 319 fe, kx_a q_value cyI 1914 wv, kx_a q_number cyI 1914 wn, kx_3 q_joined j_v j_n js jl je, kx_a j_v cyI 12 jv, kx_a j_n cyI 12 jn]) hP hD rfl
          refine lv_aload_n hx hb dX2_keepJoined_82 rfl (lv_at hl 2 rfl) ?_
          refine va_get (D := (dC, dI)) (ci := 2) (v := .ref q_lossOf) (C := RX2) (T := TX2) (N := 11) hx hb hts hi_2 hown hK hP 0 rfl rfl 5 (by decide) hf_28 (fun _ h9 => h9) rfl dX2_keepJoined_83 ?_
          refine lv_iload_n hx hb dX2_keepJoined_86 rfl (lv_at hl 3 rfl) ?_
          refine lv_aload_n hx hb dX2_keepJoined_87 rfl (lv_at hl 2 rfl) ?_
          refine va_get (D := (dC, dI)) (ci := 2) (v := .ref q_joined) (C := RX2) (T := TX2) (N := 11) hx hb hts hi_2 hown hK hP 0 rfl rfl 1 (by decide) hf_12 (fun _ h9 => h9) rfl dX2_keepJoined_88 ?_
          refine va_get (D := (dC, dI)) (ci := 3) (v := .int jl) (C := RX3) (T := TX3) (N := 5) hx hb hts hi_3 hown hK hP 6 rfl rfl 3 (by decide) hf_91 (fun _ h9 => h9) rfl dX2_keepJoined_91 ?_
          refine va_iast hx hb hK hP hD hS 2 0 rfl rfl (ki_in (om_10 b0) (om_61 b1)) dX2_keepJoined_94 (fun H locs hP hD hS => ?_)
          obtain ⟨hP, hD⟩ := kx_re (w2 := [kx_2 q_t q_row q_joined q_from q_to q_size q_lossOf q_lessBy q_value q_number nodes here, kx_a q_size cyI 319 (upd fs p0.toNatClampNeg y_6), kx_a q_lossOf cyI 319 (upd fo p0.toNatClampNeg jl), kx_a q_lessBy cyI 319 fe, kx_a q_value cyI 1914 wv, kx_a q_number cyI 1914 wn, kx_3 q_joined j_v j_n js jl je, kx_a j_v cyI 12 jv, kx_a j_n cyI 12 jn]) hP hD rfl
          refine lv_aload_n hx hb dX2_keepJoined_95 rfl (lv_at hl 2 rfl) ?_
          refine va_get (D := (dC, dI)) (ci := 2) (v := .ref q_lessBy) (C := RX2) (T := TX2) (N := 11) hx hb hts hi_2 hown hK hP 0 rfl rfl 6 (by decide) hf_31 (fun _ h9 => h9) rfl dX2_keepJoined_96 ?_
          refine lv_iload_n hx hb dX2_keepJoined_99 rfl (lv_at hl 3 rfl) ?_
          refine lv_aload_n hx hb dX2_keepJoined_100 rfl (lv_at hl 2 rfl) ?_
          refine va_get (D := (dC, dI)) (ci := 2) (v := .ref q_joined) (C := RX2) (T := TX2) (N := 11) hx hb hts hi_2 hown hK hP 0 rfl rfl 1 (by decide) hf_12 (fun _ h9 => h9) rfl dX2_keepJoined_101 ?_
          refine va_get (D := (dC, dI)) (ci := 3) (v := .int je) (C := RX3) (T := TX3) (N := 5) hx hb hts hi_3 hown hK hP 6 rfl rfl 4 (by decide) hf_104 (fun _ h9 => h9) rfl dX2_keepJoined_104 ?_
          refine va_iast hx hb hK hP hD hS 3 0 rfl rfl (ki_in (om_10 b0) (om_61 b1)) dX2_keepJoined_107 (fun H locs hP hD hS => ?_)
          obtain ⟨hP, hD⟩ := kx_re (w2 := [kx_2 q_t q_row q_joined q_from q_to q_size q_lossOf q_lessBy q_value q_number nodes here, kx_a q_size cyI 319 (upd fs p0.toNatClampNeg y_6), kx_a q_lossOf cyI 319 (upd fo p0.toNatClampNeg jl), kx_a q_lessBy cyI 319 (upd fe p0.toNatClampNeg je), kx_a q_value cyI 1914 wv, kx_a q_number cyI 1914 wn, kx_3 q_joined j_v j_n js jl je, kx_a j_v cyI 12 jv, kx_a j_n cyI 12 jn]) hP hD rfl
          have hP9 := hP
          have hD9 := hD
          have hK9 := hK
          exact W.vret hx hb hr (hlocks := hlocks) (fun t ht hW => ⟨⟨((upd fs p0.toNatClampNeg y_6), (upd fo p0.toNatClampNeg jl), (upd fe p0.toNatClampNeg je), wv, wn), rfl, ⟨(sixes_upd s0 (by (try dsimp only); omega) (by (try dsimp only); omega)), (fun j hj => ⟨upd_ne hj, upd_ne hj, upd_ne hj⟩), LP1_h1⟩, by rw [ht]; exact hP9, va_K.moved hW.alike hK9, hD9⟩, hS.F ht⟩) hS.2.2 dX2_keepJoined_108
        · have i_5 : i.toInt < 6 := kc_nle c_5
          refine lv_aload_n hx hb dX2_keepJoined_24 rfl (lv_at hl 2 rfl) ?_
          refine va_get (D := (dC, dI)) (ci := 2) (v := .ref q_value) (C := RX2) (T := TX2) (N := 11) hx hb hts hi_2 hown hK hP 0 rfl rfl 7 (by decide) hf_34 (fun _ h9 => h9) rfl dX2_keepJoined_25 ?_
          refine lv_iload_n hx hb dX2_keepJoined_28 rfl (lv_at hl 1 rfl) ?_
          refine lv_iload_n hx hb dX2_keepJoined_29 rfl (lv_at hl 0 rfl) ?_
          refine lv_iadd hx hb dX2_keepJoined_30 ?_
          refine lv_topi (fun y_8 ey_8 => ?_)
          have i_8 : y_8.toInt = y_1.toInt + i.toInt := ki_add ey_8 rfl rfl (om_97 b0 i_1 LP1_h0) (om_105 b1 i_1 i_5)
          refine lv_aload_n hx hb dX2_keepJoined_31 rfl (lv_at hl 2 rfl) ?_
          refine va_get (D := (dC, dI)) (ci := 2) (v := .ref q_joined) (C := RX2) (T := TX2) (N := 11) hx hb hts hi_2 hown hK hP 0 rfl rfl 1 (by decide) hf_12 (fun _ h9 => h9) rfl dX2_keepJoined_32 ?_
          refine va_get (D := (dC, dI)) (ci := 3) (v := .ref j_v) (C := RX3) (T := TX3) (N := 5) hx hb hts hi_3 hown hK hP 6 rfl rfl 0 (by decide) hf_96 (fun _ h9 => h9) rfl dX2_keepJoined_35 ?_
          refine lv_iload_n hx hb dX2_keepJoined_38 rfl (lv_at hl 0 rfl) ?_
          refine va_iald hx hb hK hP 7 0 rfl rfl (ki_in (om_10 LP1_h0) (om_107 i_5)) dX2_keepJoined_39 ?_
          refine lv_topi (fun y_9 ey_9 => ?_)
          have j_9 : y_9.toInt = (jv i.toNatClampNeg).toInt := congrArg Int32.toInt ey_9
          refine va_iast hx hb hK hP hD hS 4 0 rfl rfl (ki_in (om_99 b0 i_1 LP1_h0 i_8) (om_106 b1 i_1 i_5 i_8)) dX2_keepJoined_40 (fun H locs hP hD hS => ?_)
          obtain ⟨hP, hD⟩ := kx_re (w2 := [kx_2 q_t q_row q_joined q_from q_to q_size q_lossOf q_lessBy q_value q_number nodes here, kx_a q_size cyI 319 fs, kx_a q_lossOf cyI 319 fo, kx_a q_lessBy cyI 319 fe, kx_a q_value cyI 1914 (upd wv y_8.toNatClampNeg y_9), kx_a q_number cyI 1914 wn, kx_3 q_joined j_v j_n js jl je, kx_a j_v cyI 12 jv, kx_a j_n cyI 12 jn]) hP hD rfl
          refine lv_aload_n hx hb dX2_keepJoined_41 rfl (lv_at hl 2 rfl) ?_
          refine va_get (D := (dC, dI)) (ci := 2) (v := .ref q_number) (C := RX2) (T := TX2) (N := 11) hx hb hts hi_2 hown hK hP 0 rfl rfl 8 (by decide) hf_37 (fun _ h9 => h9) rfl dX2_keepJoined_42 ?_
          refine lv_iload_n hx hb dX2_keepJoined_45 rfl (lv_at hl 1 rfl) ?_
          refine lv_iload_n hx hb dX2_keepJoined_46 rfl (lv_at hl 0 rfl) ?_
          refine lv_iadd hx hb dX2_keepJoined_47 ?_
          refine lv_topi (fun y_10 ey_10 => ?_)
          have i_10 : y_10.toInt = y_1.toInt + i.toInt := ki_add ey_10 rfl rfl (om_97 b0 i_1 LP1_h0) (om_105 b1 i_1 i_5)
          refine lv_aload_n hx hb dX2_keepJoined_48 rfl (lv_at hl 2 rfl) ?_
          refine va_get (D := (dC, dI)) (ci := 2) (v := .ref q_joined) (C := RX2) (T := TX2) (N := 11) hx hb hts hi_2 hown hK hP 0 rfl rfl 1 (by decide) hf_12 (fun _ h9 => h9) rfl dX2_keepJoined_49 ?_
          refine va_get (D := (dC, dI)) (ci := 3) (v := .ref j_n) (C := RX3) (T := TX3) (N := 5) hx hb hts hi_3 hown hK hP 6 rfl rfl 1 (by decide) hf_97 (fun _ h9 => h9) rfl dX2_keepJoined_52 ?_
          refine lv_iload_n hx hb dX2_keepJoined_55 rfl (lv_at hl 0 rfl) ?_
          refine va_iald hx hb hK hP 8 0 rfl rfl (ki_in (om_10 LP1_h0) (om_107 i_5)) dX2_keepJoined_56 ?_
          refine lv_topi (fun y_11 ey_11 => ?_)
          have j_11 : y_11.toInt = (jn i.toNatClampNeg).toInt := congrArg Int32.toInt ey_11
          refine va_iast hx hb hK hP hD hS 5 0 rfl rfl (ki_in (om_99 b0 i_1 LP1_h0 i_10) (om_106 b1 i_1 i_5 i_10)) dX2_keepJoined_57 (fun H locs hP hD hS => ?_)
          obtain ⟨hP, hD⟩ := kx_re (w2 := [kx_2 q_t q_row q_joined q_from q_to q_size q_lossOf q_lessBy q_value q_number nodes here, kx_a q_size cyI 319 fs, kx_a q_lossOf cyI 319 fo, kx_a q_lessBy cyI 319 fe, kx_a q_value cyI 1914 (upd wv y_8.toNatClampNeg y_9), kx_a q_number cyI 1914 (upd wn y_10.toNatClampNeg y_11), kx_3 q_joined j_v j_n js jl je, kx_a j_v cyI 12 jv, kx_a j_n cyI 12 jn]) hP hD rfl
          obtain ⟨x_12, ex_12⟩ : ∃ y : Int32, y = i + 1 := ⟨_, rfl⟩
          have i_12 : x_12.toInt = i.toInt + 1 := ki_add ex_12 rfl rfl (om_13 LP1_h0) (om_108 i_5)
          refine lv_iinc (v := x_12) (lv' := [(3, .int x_12), (2, .int y_1), (0, .ref q_t), (1, .int p0)]) hx hb dX2_keepJoined_58 hl (k := 0) rfl (by rw [ex_12]; rfl) (by decide) rfl (fun ls hl => ?_)
          refine lv_goto (tgt := 7) hx hb dX2_keepJoined_61 (by decide) ?_
          have n_13 := ki_nat y_8 rfl (om_99 b0 i_1 LP1_h0 i_8)
          have n_14 := ki_nat y_10 rfl (om_99 b0 i_1 LP1_h0 i_10)
          have n_15 := ki_nat x_12 rfl (om_34 LP1_h0 i_12)
          exact ih1 x_12 (upd wv y_8.toNatClampNeg y_9) (upd wn y_10.toNatClampNeg y_11) (om_34 LP1_h0 i_12) (fun q hq => by rw [upd_ne (by omega), upd_ne (by omega)]; exact LP1_h1 q hq) (om_mu hn1 (om_102 i_12) (om_109 i_5)) _ _ hP hD hS ls (lv_sub hl [0, 1, 2, 3] rfl)
  have k_16 : (0 : Int32).toInt = 0 := rfl
  exact LP1 ((6 - 0 : Int).toNat + 1) 0 uv un om_35 (fun q _ => ⟨rfl, rfl⟩) (Nat.lt_succ_self _) _ _ hP hD hS ls (lv_sub hl [0, 1, 2, 3] rfl)

set_option maxHeartbeats 4000000 in
set_option maxRecDepth 100000 in
theorem c_X2_renew_s (l : Launch) (dC : Nat → ClassId) (dI : Nat → Nat → Nat) (q_t : Nat) (q_row : Nat) (q_joined : Nat) (q_from : Nat) (q_to : Nat) (q_size : Nat) (q_lossOf : Nat) (q_lessBy : Nat) (q_value : Nat) (q_number : Nat) (nodes : Int32) (here : Int32) (q_cell : Nat) (cyI : ClassId) (len : Int32) (f : Nat → Int32) (ff : Nat → Int32) (ft : Nat → Int32) (fs : Nat → Int32) (fo : Nat → Int32) (uv : Nat → Int32) (un : Nat → Int32) (fe : Nat → Int32) (j_v : Nat) (j_n : Nat) (js : Int32) (jl : Int32) (je : Int32) (jv : Nat → Int32) (jn : Nat → Int32) (p0 : Int32) (p1 : Int32) (sz : Nat) (b0 : 0 ≤ nodes.toInt) (c0 : nodes.toInt ≤ 319) (c1 : len.toInt ≤ 160) (s0 : sixes fs) (t0 : treeOk ff ft nodes.toInt len.toInt) : kx_MQ l (dC, dI) yX2_renew wsX2_renew ({ frames := 4, cells := 0, slots := 0, locals := 180 }) [.ref q_t, .int p0, .int p1] [kx_2 q_t q_row q_joined q_from q_to q_size q_lossOf q_lessBy q_value q_number nodes here, kx_0 q_row q_cell len, kx_a q_cell cyI 160 f, kx_a q_from cyI 319 ff, kx_a q_to cyI 319 ft, kx_a q_size cyI 319 fs, kx_a q_lossOf cyI 319 fo, kx_a q_lessBy cyI 319 fe, kx_a q_value cyI 1914 uv, kx_a q_number cyI 1914 un, kx_3 q_joined j_v j_n js jl je, kx_a j_v cyI 12 jv, kx_a j_n cyI 12 jn] [(cyI, .int)] sz (fun A => va_Qi (fun (r : Int32) (u : (Nat → Int32) × (Nat → Int32) × (Nat → Int32) × (Nat → Int32) × (Nat → Int32) × Int32 × Int32 × Int32 × (Nat → Int32) × (Nat → Int32)) => sixes u.1 ∧ ∀ k : Nat, (k : Int) < nodes.toInt → ¬ mj_hit ff ft p0.toInt p1.toInt k → mj_e1 fs fo fe uv un u.1 u.2.1 u.2.2.1 u.2.2.2.1 u.2.2.2.2.1 k) (fun (u : (Nat → Int32) × (Nat → Int32) × (Nat → Int32) × (Nat → Int32) × (Nat → Int32) × Int32 × Int32 × Int32 × (Nat → Int32) × (Nat → Int32)) (t : State) => va_P (dC, dI) vwCl [kx_2 q_t q_row q_joined q_from q_to q_size q_lossOf q_lessBy q_value q_number nodes here, kx_0 q_row q_cell len, kx_a q_cell cyI 160 f, kx_a q_from cyI 319 ff, kx_a q_to cyI 319 ft, kx_a q_size cyI 319 u.1, kx_a q_lossOf cyI 319 u.2.1, kx_a q_lessBy cyI 319 u.2.2.1, kx_a q_value cyI 1914 u.2.2.2.1, kx_a q_number cyI 1914 u.2.2.2.2.1, kx_3 q_joined j_v j_n u.2.2.2.2.2.1 u.2.2.2.2.2.2.1 u.2.2.2.2.2.2.2.1, kx_a j_v cyI 12 u.2.2.2.2.2.2.2.2.1, kx_a j_n cyI 12 u.2.2.2.2.2.2.2.2.2] t.heap ∧ va_K (dC, dI) vwCl [(cyI, .int)] t ∧ va_D A [kx_2 q_t q_row q_joined q_from q_to q_size q_lossOf q_lessBy q_value q_number nodes here, kx_0 q_row q_cell len, kx_a q_cell cyI 160 f, kx_a q_from cyI 319 ff, kx_a q_to cyI 319 ft, kx_a q_size cyI 319 u.1, kx_a q_lossOf cyI 319 u.2.1, kx_a q_lessBy cyI 319 u.2.2.1, kx_a q_value cyI 1914 u.2.2.2.1, kx_a q_number cyI 1914 u.2.2.2.2.1, kx_3 q_joined j_v j_n u.2.2.2.2.2.1 u.2.2.2.2.2.2.1 u.2.2.2.2.2.2.2.1, kx_a j_v cyI 12 u.2.2.2.2.2.2.2.2.1, kx_a j_n cyI 12 u.2.2.2.2.2.2.2.2.2]) A) := by
  refine kx_stQ (ws := wsX2_renew) (cc := cX2_renew) (maxL := 5) (ret := (some .int)) (by decide) rfl (Nat.le_of_ble_eq_true rfl) ?_
  intro p e s m below meth c A ls hx hb hr hlocks hts hown hml hA hS hP hK hD hl
  have hown : s.vm.findClass RX2 = some m.cls := hown
  have hl : lv_has ls 5 [(0, .ref q_t), (1, .int p0), (2, .int p1)] := hl
  have hf_50 := hts (.fieldLink RX2 50 "MajorityIndex$Tree" "nodes" "I") (List.mem_of_getElem? (i := 1) rfl)
  have hi_2 : ∀ w ∈ u_ws RX2 TX2 11, w ∈ wsX2_renew := fun w h => List.mem_cons_of_mem _ (List.mem_append_left _ (List.mem_append_left _ (List.mem_append_right _ h)))
  have hf_18 := hts (.fieldLink RX2 18 "MajorityIndex$Tree" "from" "[I") (List.mem_of_getElem? (i := 2) rfl)
  have hf_22 := hts (.fieldLink RX2 22 "MajorityIndex$Tree" "to" "[I") (List.mem_of_getElem? (i := 3) rfl)
  refine lv_iconst (v := 0) hx hb dX2_renew_0 (by decide) ?_
  refine lv_istore_n (lv' := [(3, .int 0), (0, .ref q_t), (1, .int p0), (2, .int p1)]) hx hb dX2_renew_1 rfl hl (by decide) rfl (fun ls hl => ?_)
  refine lv_aload_n hx hb dX2_renew_2 rfl (lv_at hl 1 rfl) ?_
  refine va_get (D := (dC, dI)) (ci := 2) (v := .int nodes) (C := RX2) (T := TX2) (N := 11) hx hb hts hi_2 hown hK hP 0 rfl rfl 9 (by decide) hf_50 (fun _ h9 => h9) rfl dX2_renew_3 ?_
  refine lv_iconst (v := 1) hx hb dX2_renew_6 (by decide) ?_
  refine lv_isub hx hb dX2_renew_7 ?_
  refine lv_topi (fun y_1 ey_1 => ?_)
  have i_1 : y_1.toInt = nodes.toInt - 1 := ki_sub ey_1 rfl rfl (om_113 b0) (om_114 c0)
  refine lv_istore (lv' := [(4, .int y_1), (3, .int 0), (0, .ref q_t), (1, .int p0), (2, .int p1)]) hx hb dX2_renew_8 hl (by decide) rfl (fun ls hl => ?_)
  have LP1 : ∀ (n : Nat) (oth : Int32) (i : Int32) (ks : Nat → Int32) (ko : Nat → Int32) (ke : Nat → Int32) (kv : Nat → Int32) (kn : Nat → Int32) (kj : Int32) (kl : Int32) (kb : Int32) (kjv : Nat → Int32) (kjn : Nat → Int32), (i.toInt < nodes.toInt) → (-1 ≤ i.toInt) → (sixes ks) → (∀ k : Nat, (k : Int) < nodes.toInt → ¬ mj_hit ff ft p0.toInt p1.toInt k → mj_e1 fs fo fe uv un ks ko ke kv kn k) → (i.toInt + 1).toNat < n → ∀ (H : Heap) (locs : List Loc), va_P (dC, dI) vwCl [kx_2 q_t q_row q_joined q_from q_to q_size q_lossOf q_lessBy q_value q_number nodes here, kx_0 q_row q_cell len, kx_a q_cell cyI 160 f, kx_a q_from cyI 319 ff, kx_a q_to cyI 319 ft, kx_a q_size cyI 319 ks, kx_a q_lossOf cyI 319 ko, kx_a q_lessBy cyI 319 ke, kx_a q_value cyI 1914 kv, kx_a q_number cyI 1914 kn, kx_3 q_joined j_v j_n kj kl kb, kx_a j_v cyI 12 kjv, kx_a j_n cyI 12 kjn] H → va_D A [kx_2 q_t q_row q_joined q_from q_to q_size q_lossOf q_lessBy q_value q_number nodes here, kx_0 q_row q_cell len, kx_a q_cell cyI 160 f, kx_a q_from cyI 319 ff, kx_a q_to cyI 319 ft, kx_a q_size cyI 319 ks, kx_a q_lossOf cyI 319 ko, kx_a q_lessBy cyI 319 ke, kx_a q_value cyI 1914 kv, kx_a q_number cyI 1914 kn, kx_3 q_joined j_v j_n kj kl kb, kx_a j_v cyI 12 kjv, kx_a j_n cyI 12 kjn] → va_S A s.heap H locs → ∀ (ls : Array Slot), lv_has ls 5 [(4, .int i), (3, .int oth), (0, .ref q_t), (1, .int p0), (2, .int p1)] → W p l e (headSpec wsX2_renew ({ frames := 4, cells := 0, slots := 0, locals := 180 })).room s m ([.ref q_t, .int p0, .int p1] : List Value).toArray below meth c H locs 0 0 (MQ below (va_Qi (fun (r : Int32) (u : (Nat → Int32) × (Nat → Int32) × (Nat → Int32) × (Nat → Int32) × (Nat → Int32) × Int32 × Int32 × Int32 × (Nat → Int32) × (Nat → Int32)) => sixes u.1 ∧ ∀ k : Nat, (k : Int) < nodes.toInt → ¬ mj_hit ff ft p0.toInt p1.toInt k → mj_e1 fs fo fe uv un u.1 u.2.1 u.2.2.1 u.2.2.2.1 u.2.2.2.2.1 k) (fun (u : (Nat → Int32) × (Nat → Int32) × (Nat → Int32) × (Nat → Int32) × (Nat → Int32) × Int32 × Int32 × Int32 × (Nat → Int32) × (Nat → Int32)) (t : State) => va_P (dC, dI) vwCl [kx_2 q_t q_row q_joined q_from q_to q_size q_lossOf q_lessBy q_value q_number nodes here, kx_0 q_row q_cell len, kx_a q_cell cyI 160 f, kx_a q_from cyI 319 ff, kx_a q_to cyI 319 ft, kx_a q_size cyI 319 u.1, kx_a q_lossOf cyI 319 u.2.1, kx_a q_lessBy cyI 319 u.2.2.1, kx_a q_value cyI 1914 u.2.2.2.1, kx_a q_number cyI 1914 u.2.2.2.2.1, kx_3 q_joined j_v j_n u.2.2.2.2.2.1 u.2.2.2.2.2.2.1 u.2.2.2.2.2.2.2.1, kx_a j_v cyI 12 u.2.2.2.2.2.2.2.2.1, kx_a j_n cyI 12 u.2.2.2.2.2.2.2.2.2] t.heap ∧ va_K (dC, dI) vwCl [(cyI, .int)] t ∧ va_D A [kx_2 q_t q_row q_joined q_from q_to q_size q_lossOf q_lessBy q_value q_number nodes here, kx_0 q_row q_cell len, kx_a q_cell cyI 160 f, kx_a q_from cyI 319 ff, kx_a q_to cyI 319 ft, kx_a q_size cyI 319 u.1, kx_a q_lossOf cyI 319 u.2.1, kx_a q_lessBy cyI 319 u.2.2.1, kx_a q_value cyI 1914 u.2.2.2.1, kx_a q_number cyI 1914 u.2.2.2.2.1, kx_3 q_joined j_v j_n u.2.2.2.2.2.1 u.2.2.2.2.2.2.1 u.2.2.2.2.2.2.2.1, kx_a j_v cyI 12 u.2.2.2.2.2.2.2.2.1, kx_a j_n cyI 12 u.2.2.2.2.2.2.2.2.2]) A) ([.ref q_t, .int p0, .int p1] : List Value).toArray s 0 0 A) (F0 m 10 ls []) := by
    intro n
    induction n with
    | zero => intro oth i ks ko ke kv kn kj kl kb kjv kjn LP1_h0 LP1_h1 LP1_h2 LP1_h3 hn; exact absurd hn (Nat.not_lt_zero _)
    | succ n ih1 =>
      intro oth i ks ko ke kv kn kj kl kb kjv kjn LP1_h0 LP1_h1 LP1_h2 LP1_h3 hn1 H locs hP hD hS ls hl
      refine lv_iload hx hb dX2_renew_10 (lv_at hl 0 rfl) ?_
      refine lv_if_lt (tgt := 67) hx hb dX2_renew_12 (by decide) (fun c_2 => ?_) (fun c_2 => ?_)
      · have i_2 : i.toInt < 0 := kc_lt c_2
        refine lv_iload_n hx hb dX2_renew_67 rfl (lv_at hl 1 rfl) ?_
        have hP9 := hP
        have hD9 := hD
        have hK9 := hK
        exact W.iret (v := oth) hx hb hr (hlocks := hlocks) (fun t ht hW => ⟨⟨oth, (ks, ko, ke, kv, kn, kj, kl, kb, kjv, kjn), rfl, ⟨LP1_h2, LP1_h3⟩, by rw [ht]; exact hP9, va_K.moved hW.alike hK9, hD9⟩, hS.F ht⟩) hS.2.2 dX2_renew_68
      · have i_2 : 0 ≤ i.toInt := kc_nlt c_2
        have n_i := ki_nat i rfl (om_10 i_2)
        refine lv_aload_n hx hb dX2_renew_15 rfl (lv_at hl 2 rfl) ?_
        refine va_get (D := (dC, dI)) (ci := 2) (v := .ref q_from) (C := RX2) (T := TX2) (N := 11) hx hb hts hi_2 hown hK hP 0 rfl rfl 2 (by decide) hf_18 (fun _ h9 => h9) rfl dX2_renew_16 ?_
        refine lv_iload hx hb dX2_renew_19 (lv_at hl 0 rfl) ?_
        refine va_iald hx hb hK hP 3 0 rfl rfl (ki_in (om_10 i_2) (om_115 c0 LP1_h0)) dX2_renew_21 ?_
        refine lv_topi (fun y_3 ey_3 => ?_)
        have j_3 : y_3.toInt = (ff i.toNatClampNeg).toInt := congrArg Int32.toInt ey_3
        refine lv_iload_n hx hb dX2_renew_22 rfl (lv_at hl 4 rfl) ?_
        refine lv_icmp_ge (tgt := 61) hx hb dX2_renew_23 (by decide) (fun c_4 => ?_) (fun c_4 => ?_)
        · have i_4 : p1.toInt ≤ y_3.toInt := kc_le c_4
          obtain ⟨x_5, ex_5⟩ : ∃ y : Int32, y = i + (-1) := ⟨_, rfl⟩
          have i_5 : x_5.toInt = i.toInt + (-1) := ki_add ex_5 rfl rfl (om_116 i_2) (om_117 c0 LP1_h0)
          refine lv_iinc (v := x_5) (lv' := [(4, .int x_5), (3, .int oth), (0, .ref q_t), (1, .int p0), (2, .int p1)]) hx hb dX2_renew_61 hl (k := 0) rfl (by rw [ex_5]; rfl) (by decide) rfl (fun ls hl => ?_)
          refine lv_goto (tgt := 10) hx hb dX2_renew_64 (by decide) ?_
          exact ih1 oth x_5 ks ko ke kv kn kj kl kb kjv kjn (om_118 LP1_h0 i_5) (om_119 i_2 i_5) LP1_h2 LP1_h3 (om_mu hn1 (om_120 i_5) (om_121 i_2)) _ _ hP hD hS ls (lv_sub hl [0, 1, 2, 3, 4] rfl)
        · have i_4 : y_3.toInt < p1.toInt := kc_nle c_4
          refine lv_iload_n hx hb dX2_renew_26 rfl (lv_at hl 3 rfl) ?_
          refine lv_aload_n hx hb dX2_renew_27 rfl (lv_at hl 2 rfl) ?_
          refine va_get (D := (dC, dI)) (ci := 2) (v := .ref q_to) (C := RX2) (T := TX2) (N := 11) hx hb hts hi_2 hown hK hP 0 rfl rfl 3 (by decide) hf_22 (fun _ h9 => h9) rfl dX2_renew_28 ?_
          refine lv_iload hx hb dX2_renew_31 (lv_at hl 0 rfl) ?_
          refine va_iald hx hb hK hP 4 0 rfl rfl (ki_in (om_10 i_2) (om_115 c0 LP1_h0)) dX2_renew_33 ?_
          refine lv_topi (fun y_6 ey_6 => ?_)
          have j_6 : y_6.toInt = (ft i.toNatClampNeg).toInt := congrArg Int32.toInt ey_6
          refine lv_icmp_ge (tgt := 61) hx hb dX2_renew_34 (by decide) (fun c_7 => ?_) (fun c_7 => ?_)
          · have i_7 : y_6.toInt ≤ p0.toInt := kc_le c_7
            obtain ⟨x_8, ex_8⟩ : ∃ y : Int32, y = i + (-1) := ⟨_, rfl⟩
            have i_8 : x_8.toInt = i.toInt + (-1) := ki_add ex_8 rfl rfl (om_116 i_2) (om_117 c0 LP1_h0)
            refine lv_iinc (v := x_8) (lv' := [(4, .int x_8), (3, .int oth), (0, .ref q_t), (1, .int p0), (2, .int p1)]) hx hb dX2_renew_61 hl (k := 0) rfl (by rw [ex_8]; rfl) (by decide) rfl (fun ls hl => ?_)
            refine lv_goto (tgt := 10) hx hb dX2_renew_64 (by decide) ?_
            exact ih1 oth x_8 ks ko ke kv kn kj kl kb kjv kjn (om_118 LP1_h0 i_8) (om_119 i_2 i_8) LP1_h2 LP1_h3 (om_mu hn1 (om_120 i_8) (om_121 i_2)) _ _ hP hD hS ls (lv_sub hl [0, 1, 2, 3, 4] rfl)
          · have i_7 : p0.toInt < y_6.toInt := kc_nle c_7
            refine lv_aload_n hx hb dX2_renew_37 rfl (lv_at hl 2 rfl) ?_
            refine lv_iload hx hb dX2_renew_38 (lv_at hl 0 rfl) ?_
            obtain ⟨hPc, hDc, hFc, hCc⟩ := kx_preM (wc := [kx_2 q_t q_row q_joined q_from q_to q_size q_lossOf q_lessBy q_value q_number nodes here, kx_0 q_row q_cell len, kx_a q_cell cyI 160 f, kx_a q_from cyI 319 ff, kx_a q_to cyI 319 ft, kx_a q_size cyI 319 ks, kx_a q_lossOf cyI 319 ko, kx_a q_value cyI 1914 kv, kx_a q_number cyI 1914 kn, kx_3 q_joined j_v j_n kj kl kb, kx_a j_v cyI 12 kjv, kx_a j_n cyI 12 kjn]) hP hD hS hA [true, true, true, true, true, true, true, false, true, true, true, true, true] rfl
            have hKc := hK
            refine va_callv (va_runV (As := [.int i]) (rest := []) ⟨hx, hb, hml, hown, hts⟩ (kx_un (c_X2_putTogether l dC dI q_t q_row q_joined q_from q_to q_size q_lossOf q_lessBy q_value q_number nodes here q_cell cyI len f ff ft ks ko kv kn j_v j_n kj kl kb kjv kjn i H.size i_2 LP1_h0 c0 c1 LP1_h2 t0)) (cwV 1 hts gX2_renew_X2_putTogether rfl rfl rfl (by decide +kernel) ⟨Nat.le_of_ble_eq_true rfl, Nat.le_of_ble_eq_true rfl⟩) ⟨fun a U g mk q => by obtain ⟨q0, q1, qP, qK, qD⟩ := q; exact ⟨q0, q1, qP, va_K.moved (u := U) (U := U.calling g mk a) (Vm.Alike.refl U.vm) qK, qD⟩, kx_rc2 hKc hPc (q0 := 0) rfl, fun U hU hW => ⟨rfl, by rw [hU], by rw [hU]; exact hPc, va_K.moved hW.alike hKc, hDc.weaken (fun _ _ _ _ => trivial)⟩⟩ rfl rfl hl.1 rfl (lv_room (Nat.le_of_ble_eq_true rfl)) dX2_renew_40 ⟨Nat.le_of_ble_eq_true rfl, Nat.le_of_ble_eq_true rfl⟩) hS (fun q _ h => hFc q h) hFc (fun u t H1 locs ht hvm w_9 hB hz1 hk1 hS => ?_)
            obtain ⟨o_10, o_11, o_12, o_13, o_14⟩ := u
            dsimp only at w_9 hB
            obtain ⟨hP1, hK1, hD1⟩ := hB
            rw [ht] at hP1
            have hK1 := va_K.moved hvm.symm hK1
            obtain ⟨hP, hD⟩ := kx_joinM (w2 := [kx_2 q_t q_row q_joined q_from q_to q_size q_lossOf q_lessBy q_value q_number nodes here, kx_0 q_row q_cell len, kx_a q_cell cyI 160 f, kx_a q_from cyI 319 ff, kx_a q_to cyI 319 ft, kx_a q_size cyI 319 ks, kx_a q_lossOf cyI 319 ko, kx_a q_lessBy cyI 319 ke, kx_a q_value cyI 1914 kv, kx_a q_number cyI 1914 kn, kx_3 q_joined j_v j_n o_10 o_11 o_12, kx_a j_v cyI 12 o_13, kx_a j_n cyI 12 o_14]) hP hD hP1 hD1 hk1 hFc [true, true, true, true, true, true, true, false, true, true, true, true, true] hCc rfl
            clear hP1 hD1 hK1 hk1 hz1 hFc hDc hPc hKc hCc
            generalize H1 = H at hP hS ⊢
            have w_9 : 0 ≤ o_10.toInt ∧ o_10.toInt ≤ 12 := w_9
            refine lv_aload_n hx hb dX2_renew_43 rfl (lv_at hl 2 rfl) ?_
            refine lv_iload hx hb dX2_renew_44 (lv_at hl 0 rfl) ?_
            have hPc := kx_selP (ws' := [kx_2 q_t q_row q_joined q_from q_to q_size q_lossOf q_lessBy q_value q_number nodes here, kx_a q_size cyI 319 ks, kx_a q_lossOf cyI 319 ko, kx_a q_value cyI 1914 kv, kx_a q_number cyI 1914 kn, kx_3 q_joined j_v j_n o_10 o_11 o_12, kx_a j_v cyI 12 o_13, kx_a j_n cyI 12 o_14]) hP [true, false, false, false, false, true, true, false, true, true, true, true, true] rfl
            have hKc := hK
            refine vp_callSi (W.runV (As := [.int i]) (rest := []) ⟨hx, hb, hml, hown, hts⟩ (c_X2_isJoined l dC dI q_t q_row q_joined q_from q_to q_size q_lossOf q_lessBy q_value q_number nodes here cyI ks ko kv kn j_v j_n o_10 o_11 o_12 o_13 o_14 i i_2 (om_122 c0 LP1_h0) w_9.1 w_9.2) (cwV 1 hts gX2_renew_X2_isJoined rfl rfl rfl (by decide +kernel) ⟨Nat.le_of_ble_eq_true rfl, Nat.le_of_ble_eq_true rfl⟩) ⟨fun a U g mk q => by obtain ⟨q0, qP, qK⟩ := q; exact ⟨q0, qP, va_K.moved (u := U) (U := U.calling g mk a) (Vm.Alike.refl U.vm) qK⟩, kx_rc2 hKc hPc (q0 := 0) rfl, fun U hU hW => ⟨rfl, by rw [hU]; exact hPc, va_K.moved hW.alike hKc⟩⟩ rfl rfl hl.1 rfl (lv_room (Nat.le_of_ble_eq_true rfl)) dX2_renew_46 ⟨Nat.le_of_ble_eq_true rfl, Nat.le_of_ble_eq_true rfl⟩) (fun r_15 w_15 => ?_)
            rcases w_15 with ⟨rfl, w_15⟩ | ⟨rfl, w_15⟩
            · have w_15 : (0 : Int) ≤ 1 := w_15
              refine lv_if_ne (tgt := 55) hx hb dX2_renew_49 (by decide) (fun c_16 => ?_) (fun c_16 => ?_)
              · refine lv_aload_n hx hb dX2_renew_55 rfl (lv_at hl 2 rfl) ?_
                refine lv_iload hx hb dX2_renew_56 (lv_at hl 0 rfl) ?_
                obtain ⟨hPc, hDc, hFc, hCc⟩ := kx_preM (wc := [kx_2 q_t q_row q_joined q_from q_to q_size q_lossOf q_lessBy q_value q_number nodes here, kx_a q_size cyI 319 ks, kx_a q_lossOf cyI 319 ko, kx_a q_lessBy cyI 319 ke, kx_a q_value cyI 1914 kv, kx_a q_number cyI 1914 kn, kx_3 q_joined j_v j_n o_10 o_11 o_12, kx_a j_v cyI 12 o_13, kx_a j_n cyI 12 o_14]) hP hD hS hA [true, false, false, false, false, true, true, true, true, true, true, true, true] rfl
                have hKc := hK
                refine va_callv (va_runV (As := [.int i]) (rest := []) ⟨hx, hb, hml, hown, hts⟩ (kx_un (c_X2_keepJoined_s l dC dI q_t q_row q_joined q_from q_to q_size q_lossOf q_lessBy q_value q_number nodes here cyI ks ko kv kn ke j_v j_n o_10 o_11 o_12 o_13 o_14 i H.size i_2 (om_122 c0 LP1_h0) w_9.1 w_9.2 LP1_h2)) (cwV 1 hts gX2_renew_X2_keepJoined rfl rfl rfl (by decide +kernel) ⟨Nat.le_of_ble_eq_true rfl, Nat.le_of_ble_eq_true rfl⟩) ⟨fun a U g mk q => by obtain ⟨q0, q1, qP, qK, qD⟩ := q; exact ⟨q0, q1, qP, va_K.moved (u := U) (U := U.calling g mk a) (Vm.Alike.refl U.vm) qK, qD⟩, kx_rc2 hKc hPc (q0 := 0) rfl, fun U hU hW => ⟨rfl, by rw [hU], by rw [hU]; exact hPc, va_K.moved hW.alike hKc, hDc.weaken (fun _ _ _ _ => trivial)⟩⟩ rfl rfl hl.1 rfl (lv_room (Nat.le_of_ble_eq_true rfl)) dX2_renew_58 ⟨Nat.le_of_ble_eq_true rfl, Nat.le_of_ble_eq_true rfl⟩) hS (fun q _ h => hFc q h) hFc (fun u t H1 locs ht hvm w_17 hB hz1 hk1 hS => ?_)
                obtain ⟨o_18, o_19, o_20, o_21, o_22⟩ := u
                dsimp only at w_17 hB
                obtain ⟨hP1, hK1, hD1⟩ := hB
                rw [ht] at hP1
                have hK1 := va_K.moved hvm.symm hK1
                obtain ⟨hP, hD⟩ := kx_joinM (w2 := [kx_2 q_t q_row q_joined q_from q_to q_size q_lossOf q_lessBy q_value q_number nodes here, kx_0 q_row q_cell len, kx_a q_cell cyI 160 f, kx_a q_from cyI 319 ff, kx_a q_to cyI 319 ft, kx_a q_size cyI 319 o_18, kx_a q_lossOf cyI 319 o_19, kx_a q_lessBy cyI 319 o_20, kx_a q_value cyI 1914 o_21, kx_a q_number cyI 1914 o_22, kx_3 q_joined j_v j_n o_10 o_11 o_12, kx_a j_v cyI 12 o_13, kx_a j_n cyI 12 o_14]) hP hD hP1 hD1 hk1 hFc [true, false, false, false, false, true, true, true, true, true, true, true, true] hCc rfl
                clear hP1 hD1 hK1 hk1 hz1 hFc hDc hPc hKc hCc
                generalize H1 = H at hP hS ⊢
                have w_17 : sixes o_18 ∧ (∀ j : Nat, ¬ j = i.toNatClampNeg → o_18 j = ks j ∧ o_19 j = ko j ∧ o_20 j = ke j) ∧ ∀ q : Nat, (q < 6 * i.toNatClampNeg ∨ 6 * i.toNatClampNeg + 6 ≤ q) → o_21 q = kv q ∧ o_22 q = kn q := w_17
                obtain ⟨x_23, ex_23⟩ : ∃ y : Int32, y = i + (-1) := ⟨_, rfl⟩
                have i_23 : x_23.toInt = i.toInt + (-1) := ki_add ex_23 rfl rfl (om_116 i_2) (om_117 c0 LP1_h0)
                refine lv_iinc (v := x_23) (lv' := [(4, .int x_23), (3, .int oth), (0, .ref q_t), (1, .int p0), (2, .int p1)]) hx hb dX2_renew_61 hl (k := 0) rfl (by rw [ex_23]; rfl) (by decide) rfl (fun ls hl => ?_)
                refine lv_goto (tgt := 10) hx hb dX2_renew_64 (by decide) ?_
                have hit_i : mj_hit ff ft p0.toInt p1.toInt i.toNatClampNeg := by unfold mj_hit; omega
                exact ih1 oth x_23 o_18 o_19 o_20 o_21 o_22 o_10 o_11 o_12 o_13 o_14 (om_118 LP1_h0 i_23) (om_119 i_2 i_23) w_17.1 (fun k h1 h2 => by have hne : ¬ k = i.toNatClampNeg := fun e => h2 (by rw [e]; exact hit_i); obtain ⟨x1, x2, x3, x4⟩ := LP1_h3 k h1 h2; obtain ⟨y1, y2, y3⟩ := w_17.2.1 k hne; exact ⟨y1.trans x1, y2.trans x2, y3.trans x3, fun q z1 z2 => by have a := w_17.2.2 q (by omega); have b := x4 q z1 z2; exact ⟨a.1.trans b.1, a.2.trans b.2⟩⟩) (om_mu hn1 (om_120 i_23) (om_121 i_2)) _ _ hP hD hS ls (lv_sub hl [0, 1, 2, 3, 4] rfl)
              · exact absurd c_16 (by decide)
            · have w_15 : (0 : Int) ≤ 1 := w_15
              refine lv_if_ne (tgt := 55) hx hb dX2_renew_49 (by decide) (fun c_24 => ?_) (fun c_24 => ?_)
              · exact absurd c_24 (by decide)
              · obtain ⟨x_25, ex_25⟩ : ∃ y : Int32, y = oth + 1 := ⟨_, rfl⟩
                refine lv_iinc (v := x_25) (lv' := [(3, .int x_25), (4, .int i), (0, .ref q_t), (1, .int p0), (2, .int p1)]) hx hb dX2_renew_52 hl (k := 1) rfl (by rw [ex_25]; rfl) (by decide) rfl (fun ls hl => ?_)
                refine lv_aload_n hx hb dX2_renew_55 rfl (lv_at hl 2 rfl) ?_
                refine lv_iload hx hb dX2_renew_56 (lv_at hl 1 rfl) ?_
                obtain ⟨hPc, hDc, hFc, hCc⟩ := kx_preM (wc := [kx_2 q_t q_row q_joined q_from q_to q_size q_lossOf q_lessBy q_value q_number nodes here, kx_a q_size cyI 319 ks, kx_a q_lossOf cyI 319 ko, kx_a q_lessBy cyI 319 ke, kx_a q_value cyI 1914 kv, kx_a q_number cyI 1914 kn, kx_3 q_joined j_v j_n o_10 o_11 o_12, kx_a j_v cyI 12 o_13, kx_a j_n cyI 12 o_14]) hP hD hS hA [true, false, false, false, false, true, true, true, true, true, true, true, true] rfl
                have hKc := hK
                refine va_callv (va_runV (As := [.int i]) (rest := []) ⟨hx, hb, hml, hown, hts⟩ (kx_un (c_X2_keepJoined_s l dC dI q_t q_row q_joined q_from q_to q_size q_lossOf q_lessBy q_value q_number nodes here cyI ks ko kv kn ke j_v j_n o_10 o_11 o_12 o_13 o_14 i H.size i_2 (om_122 c0 LP1_h0) w_9.1 w_9.2 LP1_h2)) (cwV 1 hts gX2_renew_X2_keepJoined rfl rfl rfl (by decide +kernel) ⟨Nat.le_of_ble_eq_true rfl, Nat.le_of_ble_eq_true rfl⟩) ⟨fun a U g mk q => by obtain ⟨q0, q1, qP, qK, qD⟩ := q; exact ⟨q0, q1, qP, va_K.moved (u := U) (U := U.calling g mk a) (Vm.Alike.refl U.vm) qK, qD⟩, kx_rc2 hKc hPc (q0 := 0) rfl, fun U hU hW => ⟨rfl, by rw [hU], by rw [hU]; exact hPc, va_K.moved hW.alike hKc, hDc.weaken (fun _ _ _ _ => trivial)⟩⟩ rfl rfl hl.1 rfl (lv_room (Nat.le_of_ble_eq_true rfl)) dX2_renew_58 ⟨Nat.le_of_ble_eq_true rfl, Nat.le_of_ble_eq_true rfl⟩) hS (fun q _ h => hFc q h) hFc (fun u t H1 locs ht hvm w_26 hB hz1 hk1 hS => ?_)
                obtain ⟨o_27, o_28, o_29, o_30, o_31⟩ := u
                dsimp only at w_26 hB
                obtain ⟨hP1, hK1, hD1⟩ := hB
                rw [ht] at hP1
                have hK1 := va_K.moved hvm.symm hK1
                obtain ⟨hP, hD⟩ := kx_joinM (w2 := [kx_2 q_t q_row q_joined q_from q_to q_size q_lossOf q_lessBy q_value q_number nodes here, kx_0 q_row q_cell len, kx_a q_cell cyI 160 f, kx_a q_from cyI 319 ff, kx_a q_to cyI 319 ft, kx_a q_size cyI 319 o_27, kx_a q_lossOf cyI 319 o_28, kx_a q_lessBy cyI 319 o_29, kx_a q_value cyI 1914 o_30, kx_a q_number cyI 1914 o_31, kx_3 q_joined j_v j_n o_10 o_11 o_12, kx_a j_v cyI 12 o_13, kx_a j_n cyI 12 o_14]) hP hD hP1 hD1 hk1 hFc [true, false, false, false, false, true, true, true, true, true, true, true, true] hCc rfl
                clear hP1 hD1 hK1 hk1 hz1 hFc hDc hPc hKc hCc
                generalize H1 = H at hP hS ⊢
                have w_26 : sixes o_27 ∧ (∀ j : Nat, ¬ j = i.toNatClampNeg → o_27 j = ks j ∧ o_28 j = ko j ∧ o_29 j = ke j) ∧ ∀ q : Nat, (q < 6 * i.toNatClampNeg ∨ 6 * i.toNatClampNeg + 6 ≤ q) → o_30 q = kv q ∧ o_31 q = kn q := w_26
                obtain ⟨x_32, ex_32⟩ : ∃ y : Int32, y = i + (-1) := ⟨_, rfl⟩
                have i_32 : x_32.toInt = i.toInt + (-1) := ki_add ex_32 rfl rfl (om_116 i_2) (om_117 c0 LP1_h0)
                refine lv_iinc (v := x_32) (lv' := [(4, .int x_32), (3, .int x_25), (0, .ref q_t), (1, .int p0), (2, .int p1)]) hx hb dX2_renew_61 hl (k := 1) rfl (by rw [ex_32]; rfl) (by decide) rfl (fun ls hl => ?_)
                refine lv_goto (tgt := 10) hx hb dX2_renew_64 (by decide) ?_
                have hit_i : mj_hit ff ft p0.toInt p1.toInt i.toNatClampNeg := by unfold mj_hit; omega
                exact ih1 x_25 x_32 o_27 o_28 o_29 o_30 o_31 o_10 o_11 o_12 o_13 o_14 (om_118 LP1_h0 i_32) (om_119 i_2 i_32) w_26.1 (fun k h1 h2 => by have hne : ¬ k = i.toNatClampNeg := fun e => h2 (by rw [e]; exact hit_i); obtain ⟨x1, x2, x3, x4⟩ := LP1_h3 k h1 h2; obtain ⟨y1, y2, y3⟩ := w_26.2.1 k hne; exact ⟨y1.trans x1, y2.trans x2, y3.trans x3, fun q z1 z2 => by have a := w_26.2.2 q (by omega); have b := x4 q z1 z2; exact ⟨a.1.trans b.1, a.2.trans b.2⟩⟩) (om_mu hn1 (om_120 i_32) (om_121 i_2)) _ _ hP hD hS ls (lv_sub hl [0, 1, 2, 3, 4] rfl)
  have k_33 : (0 : Int32).toInt = 0 := rfl
  exact LP1 ((y_1.toInt + 1 : Int).toNat + 1) 0 y_1 fs fo fe uv un js jl je jv jn (om_123 i_1) (om_124 b0 i_1) s0 (fun k _ _ => ⟨rfl, rfl, rfl, fun q _ _ => ⟨rfl, rfl⟩⟩) (Nat.lt_succ_self _) _ _ hP hD hS ls (lv_sub hl [0, 1, 2, 3, 4] rfl)

set_option maxHeartbeats 4000000 in
set_option maxRecDepth 100000 in
theorem c_X4_heavyVotesBy_s (l : Launch) (dC : Nat → ClassId) (dI : Nat → Nat → Nat) (m_ : Nat) (q_row : Nat) (q_t : Nat) (t_ : Nat) (h0 : Nat) (k0 : Nat) (w_ : Nat) (z_ : Nat) (slots : Int32) (old : Int32) (q_joined : Nat) (q_from : Nat) (q_to : Nat) (q_size : Nat) (q_lossOf : Nat) (q_lessBy : Nat) (q_value : Nat) (q_number : Nat) (nodes : Int32) (here : Int32) (q_cell : Nat) (cyI : ClassId) (len : Int32) (f : Nat → Int32) (ff : Nat → Int32) (ft : Nat → Int32) (fs : Nat → Int32) (fo : Nat → Int32) (uv : Nat → Int32) (un : Nat → Int32) (fe : Nat → Int32) (j_v : Nat) (j_n : Nat) (js : Int32) (jl : Int32) (je : Int32) (jv : Nat → Int32) (jn : Nat → Int32) (a_v : Nat) (a_n : Nat) (vs : Int32) (lo : Int32) (le : Int32) (fv : Nat → Int32) (fn : Nat → Int32) (p0 : Int32) (p1 : Int32) (p2 : Int32) (p3 : Int32) (p4 : Int32) (sz : Nat) (b0 : 0 ≤ nodes.toInt) (c0 : nodes.toInt ≤ 319) (c1 : len.toInt ≤ 160) (s0 : sixes fs) (t0 : treeOk ff ft nodes.toInt len.toInt) (d0 : 0 ≤ p1.toInt) (d1 : p2.toInt ≤ 160) : kx_MQ l (dC, dI) yX4_heavyVotesBy wsX4_heavyVotesBy ({ frames := 5, cells := 0, slots := 0, locals := 225 }) [.ref m_, .ref q_t, .int p0, .int p1, .int p2, .int p3, .int p4] [kx_4 m_ q_row q_t t_ h0 k0 w_ z_ slots old, kx_2 q_t q_row q_joined q_from q_to q_size q_lossOf q_lessBy q_value q_number nodes here, kx_0 q_row q_cell len, kx_a q_cell cyI 160 f, kx_a q_from cyI 319 ff, kx_a q_to cyI 319 ft, kx_a q_size cyI 319 fs, kx_a q_lossOf cyI 319 fo, kx_a q_lessBy cyI 319 fe, kx_a q_value cyI 1914 uv, kx_a q_number cyI 1914 un, kx_3 q_joined j_v j_n js jl je, kx_a j_v cyI 12 jv, kx_a j_n cyI 12 jn, kx_3 h0 a_v a_n vs lo le, kx_a a_v cyI 12 fv, kx_a a_n cyI 12 fn] [(cyI, .int)] sz (fun A => va_Qi (fun (r : Int32) (u : (Nat → Int32) × (Nat → Int32) × (Nat → Int32) × (Nat → Int32) × (Nat → Int32) × Int32 × Int32 × Int32 × (Nat → Int32) × (Nat → Int32) × Int32 × Int32 × Int32 × (Nat → Int32) × (Nat → Int32)) => sixes u.1 ∧ ∀ k : Nat, (k : Int) < nodes.toInt → ¬ mj_hit ff ft p1.toInt p2.toInt k → mj_e1 fs fo fe uv un u.1 u.2.1 u.2.2.1 u.2.2.2.1 u.2.2.2.2.1 k) (fun (u : (Nat → Int32) × (Nat → Int32) × (Nat → Int32) × (Nat → Int32) × (Nat → Int32) × Int32 × Int32 × Int32 × (Nat → Int32) × (Nat → Int32) × Int32 × Int32 × Int32 × (Nat → Int32) × (Nat → Int32)) (t : State) => va_P (dC, dI) vwCl [kx_4 m_ q_row q_t t_ h0 k0 w_ z_ slots old, kx_2 q_t q_row q_joined q_from q_to q_size q_lossOf q_lessBy q_value q_number nodes p0, kx_0 q_row q_cell len, kx_a q_cell cyI 160 f, kx_a q_from cyI 319 ff, kx_a q_to cyI 319 ft, kx_a q_size cyI 319 u.1, kx_a q_lossOf cyI 319 u.2.1, kx_a q_lessBy cyI 319 u.2.2.1, kx_a q_value cyI 1914 u.2.2.2.1, kx_a q_number cyI 1914 u.2.2.2.2.1, kx_3 q_joined j_v j_n u.2.2.2.2.2.1 u.2.2.2.2.2.2.1 u.2.2.2.2.2.2.2.1, kx_a j_v cyI 12 u.2.2.2.2.2.2.2.2.1, kx_a j_n cyI 12 u.2.2.2.2.2.2.2.2.2.1, kx_3 h0 a_v a_n u.2.2.2.2.2.2.2.2.2.2.1 u.2.2.2.2.2.2.2.2.2.2.2.1 u.2.2.2.2.2.2.2.2.2.2.2.2.1, kx_a a_v cyI 12 u.2.2.2.2.2.2.2.2.2.2.2.2.2.1, kx_a a_n cyI 12 u.2.2.2.2.2.2.2.2.2.2.2.2.2.2] t.heap ∧ va_K (dC, dI) vwCl [(cyI, .int)] t ∧ va_D A [kx_4 m_ q_row q_t t_ h0 k0 w_ z_ slots old, kx_2 q_t q_row q_joined q_from q_to q_size q_lossOf q_lessBy q_value q_number nodes p0, kx_0 q_row q_cell len, kx_a q_cell cyI 160 f, kx_a q_from cyI 319 ff, kx_a q_to cyI 319 ft, kx_a q_size cyI 319 u.1, kx_a q_lossOf cyI 319 u.2.1, kx_a q_lessBy cyI 319 u.2.2.1, kx_a q_value cyI 1914 u.2.2.2.1, kx_a q_number cyI 1914 u.2.2.2.2.1, kx_3 q_joined j_v j_n u.2.2.2.2.2.1 u.2.2.2.2.2.2.1 u.2.2.2.2.2.2.2.1, kx_a j_v cyI 12 u.2.2.2.2.2.2.2.2.1, kx_a j_n cyI 12 u.2.2.2.2.2.2.2.2.2.1, kx_3 h0 a_v a_n u.2.2.2.2.2.2.2.2.2.2.1 u.2.2.2.2.2.2.2.2.2.2.2.1 u.2.2.2.2.2.2.2.2.2.2.2.2.1, kx_a a_v cyI 12 u.2.2.2.2.2.2.2.2.2.2.2.2.2.1, kx_a a_n cyI 12 u.2.2.2.2.2.2.2.2.2.2.2.2.2.2]) A) := by
  refine kx_stQ (ws := wsX4_heavyVotesBy) (cc := cX4_heavyVotesBy) (maxL := 9) (ret := (some .int)) (by decide) rfl (Nat.le_of_ble_eq_true rfl) ?_
  intro p e s m below meth c A ls hx hb hr hlocks hts hown hml hA hS hP hK hD hl
  have hown : s.vm.findClass RX4 = some m.cls := hown
  have hl : lv_has ls 9 [(0, .ref m_), (1, .ref q_t), (2, .int p0), (3, .int p1), (4, .int p2), (5, .int p3), (6, .int p4)] := hl
  have hf_204 := hts (.fieldLink RX4 204 "MajorityIndex$Tree" "slotsHere" "I") (List.mem_of_getElem? (i := 1) rfl)
  have hi_2 : ∀ w ∈ u_ws RX2 TX2 11, w ∈ wsX4_heavyVotesBy := fun w h => List.mem_cons_of_mem _ (List.mem_append_left _ (List.mem_append_left _ (List.mem_append_left _ (List.mem_append_right _ h))))
  have hf_35 := hts (.fieldLink RX4 35 "MajorityIndex" "votes" "LMajorityIndex$Votes;") (List.mem_of_getElem? (i := 2) rfl)
  have hi_4 : ∀ w ∈ u_ws RX4 TX4 9, w ∈ wsX4_heavyVotesBy := fun w h => List.mem_cons_of_mem _ (List.mem_append_left _ (List.mem_append_left _ (List.mem_append_right _ h)))
  have hf_174 := hts (.fieldLink RX4 174 "MajorityIndex$Votes" "size" "I") (List.mem_of_getElem? (i := 3) rfl)
  have hi_3 : ∀ w ∈ u_ws RX3 TX3 5, w ∈ wsX4_heavyVotesBy := fun w h => List.mem_cons_of_mem _ (List.mem_append_left _ (List.mem_append_right _ h))
  have hf_12 := hts (.fieldLink RX4 12 "MajorityIndex" "row" "LMajorityIndex$Row;") (List.mem_of_getElem? (i := 4) rfl)
  have hf_133 := hts (.fieldLink RX4 133 "MajorityIndex$Votes" "value" "[I") (List.mem_of_getElem? (i := 5) rfl)
  refine lv_aload_n hx hb dX4_heavyVotesBy_0 rfl (lv_at hl 1 rfl) ?_
  refine lv_iload_n hx hb dX4_heavyVotesBy_1 rfl (lv_at hl 2 rfl) ?_
  refine va_put (D := (dC, dI)) (ci := 2) (v := .int p0) (ty := .int) (C := RX2) (T := TX2) (N := 11) hx hb hts hi_2 tyX2 tyX2_ok nmX2 hown hK hP hD hS 1 rfl rfl 10 (by decide) hf_204 (fun _ h9 => h9) rfl (by decide +kernel) rfl rfl (Nat.le_of_ble_eq_true rfl) dX4_heavyVotesBy_2 (fun H locs hP hD hS => ?_)
  obtain ⟨hP, hD⟩ := kx_re (w2 := [kx_4 m_ q_row q_t t_ h0 k0 w_ z_ slots old, kx_2 q_t q_row q_joined q_from q_to q_size q_lossOf q_lessBy q_value q_number nodes p0, kx_0 q_row q_cell len, kx_a q_cell cyI 160 f, kx_a q_from cyI 319 ff, kx_a q_to cyI 319 ft, kx_a q_size cyI 319 fs, kx_a q_lossOf cyI 319 fo, kx_a q_lessBy cyI 319 fe, kx_a q_value cyI 1914 uv, kx_a q_number cyI 1914 un, kx_3 q_joined j_v j_n js jl je, kx_a j_v cyI 12 jv, kx_a j_n cyI 12 jn, kx_3 h0 a_v a_n vs lo le, kx_a a_v cyI 12 fv, kx_a a_n cyI 12 fn]) hP hD rfl
  refine lv_aload_n hx hb dX4_heavyVotesBy_5 rfl (lv_at hl 1 rfl) ?_
  refine lv_iload_n hx hb dX4_heavyVotesBy_6 rfl (lv_at hl 3 rfl) ?_
  refine lv_iload hx hb dX4_heavyVotesBy_7 (lv_at hl 4 rfl) ?_
  obtain ⟨hPc, hDc, hFc, hCc⟩ := kx_preM (wc := [kx_2 q_t q_row q_joined q_from q_to q_size q_lossOf q_lessBy q_value q_number nodes p0, kx_0 q_row q_cell len, kx_a q_cell cyI 160 f, kx_a q_from cyI 319 ff, kx_a q_to cyI 319 ft, kx_a q_size cyI 319 fs, kx_a q_lossOf cyI 319 fo, kx_a q_lessBy cyI 319 fe, kx_a q_value cyI 1914 uv, kx_a q_number cyI 1914 un, kx_3 q_joined j_v j_n js jl je, kx_a j_v cyI 12 jv, kx_a j_n cyI 12 jn]) hP hD hS hA [false, true, true, true, true, true, true, true, true, true, true, true, true, true, false, false, false] rfl
  have hKc := hK
  refine va_calli (va_runV (As := [.int p1, .int p2]) (rest := []) ⟨hx, hb, hml, hown, hts⟩ (kx_un (c_X2_renew_s l dC dI q_t q_row q_joined q_from q_to q_size q_lossOf q_lessBy q_value q_number nodes p0 q_cell cyI len f ff ft fs fo uv un fe j_v j_n js jl je jv jn p1 p2 H.size b0 c0 c1 s0 t0)) (cwV 2 hts gX4_heavyVotesBy_X2_renew rfl rfl rfl (by decide +kernel) ⟨Nat.le_of_ble_eq_true rfl, Nat.le_of_ble_eq_true rfl⟩) ⟨fun a U g mk q => by obtain ⟨q0, q1, qP, qK, qD⟩ := q; exact ⟨q0, q1, qP, va_K.moved (u := U) (U := U.calling g mk a) (Vm.Alike.refl U.vm) qK, qD⟩, kx_rc2 hKc hPc (q0 := 0) rfl, fun U hU hW => ⟨rfl, by rw [hU], by rw [hU]; exact hPc, va_K.moved hW.alike hKc, hDc.weaken (fun _ _ _ _ => trivial)⟩⟩ rfl rfl hl.1 rfl (lv_room (Nat.le_of_ble_eq_true rfl)) dX4_heavyVotesBy_9 ⟨Nat.le_of_ble_eq_true rfl, Nat.le_of_ble_eq_true rfl⟩) hS (fun q _ h => hFc q h) hFc (fun r_1 u t H1 locs ht hvm w_1 hB hz1 hk1 hS => ?_)
  obtain ⟨o_2, o_3, o_4, o_5, o_6, o_7, o_8, o_9, o_10, o_11⟩ := u
  dsimp only at w_1 hB
  obtain ⟨hP1, hK1, hD1⟩ := hB
  rw [ht] at hP1
  have hK1 := va_K.moved hvm.symm hK1
  obtain ⟨hP, hD⟩ := kx_joinM (w2 := [kx_4 m_ q_row q_t t_ h0 k0 w_ z_ slots old, kx_2 q_t q_row q_joined q_from q_to q_size q_lossOf q_lessBy q_value q_number nodes p0, kx_0 q_row q_cell len, kx_a q_cell cyI 160 f, kx_a q_from cyI 319 ff, kx_a q_to cyI 319 ft, kx_a q_size cyI 319 o_2, kx_a q_lossOf cyI 319 o_3, kx_a q_lessBy cyI 319 o_4, kx_a q_value cyI 1914 o_5, kx_a q_number cyI 1914 o_6, kx_3 q_joined j_v j_n o_7 o_8 o_9, kx_a j_v cyI 12 o_10, kx_a j_n cyI 12 o_11, kx_3 h0 a_v a_n vs lo le, kx_a a_v cyI 12 fv, kx_a a_n cyI 12 fn]) hP hD hP1 hD1 hk1 hFc [false, true, true, true, true, true, true, true, true, true, true, true, true, true, false, false, false] hCc rfl
  clear hP1 hD1 hK1 hk1 hz1 hFc hDc hPc hKc hCc
  generalize H1 = H at hP hS ⊢
  have w_1 : sixes o_2 ∧ ∀ k : Nat, (k : Int) < nodes.toInt → ¬ mj_hit ff ft p1.toInt p2.toInt k → mj_e1 fs fo fe uv un o_2 o_3 o_4 o_5 o_6 k := w_1
  refine lv_pop hx hb dX4_heavyVotesBy_12 rfl ?_
  refine lv_aload_n hx hb dX4_heavyVotesBy_13 rfl (lv_at hl 1 rfl) ?_
  refine lv_aload_n hx hb dX4_heavyVotesBy_14 rfl (lv_at hl 0 rfl) ?_
  refine va_get (D := (dC, dI)) (ci := 4) (v := .ref h0) (C := RX4) (T := TX4) (N := 9) hx hb hts hi_4 hown hK hP 0 rfl rfl 3 (by decide) hf_35 (fun _ h9 => h9) rfl dX4_heavyVotesBy_15 ?_
  refine lv_iload_n hx hb dX4_heavyVotesBy_18 rfl (lv_at hl 3 rfl) ?_
  refine lv_iload hx hb dX4_heavyVotesBy_19 (lv_at hl 4 rfl) ?_
  obtain ⟨hPc, hDc, hFc, hCc⟩ := kx_preM (wc := [kx_2 q_t q_row q_joined q_from q_to q_size q_lossOf q_lessBy q_value q_number nodes p0, kx_a q_from cyI 319 ff, kx_a q_to cyI 319 ft, kx_a q_size cyI 319 o_2, kx_a q_lossOf cyI 319 o_3, kx_a q_value cyI 1914 o_5, kx_a q_number cyI 1914 o_6, kx_3 h0 a_v a_n vs lo le, kx_a a_v cyI 12 fv, kx_a a_n cyI 12 fn]) hP hD hS hA [false, true, false, false, true, true, true, true, false, true, true, false, false, false, true, true, true] rfl
  have hKc := hK
  refine va_callv (va_runV (As := [.ref h0, .int p1, .int p2]) (rest := []) ⟨hx, hb, hml, hown, hts⟩ (kx_un (c_X2_gather l dC dI q_t q_row q_joined q_from q_to q_size q_lossOf q_lessBy q_value q_number nodes p0 h0 a_v a_n cyI vs lo le fv fn ff ft o_2 o_3 o_5 o_6 p1 p2 H.size b0 c0 w_1.1)) (cwV 3 hts gX4_heavyVotesBy_X2_gather rfl rfl rfl (by decide +kernel) ⟨Nat.le_of_ble_eq_true rfl, Nat.le_of_ble_eq_true rfl⟩) ⟨fun a U g mk q => by obtain ⟨q0, q1, qP, qK, qD⟩ := q; exact ⟨q0, q1, qP, va_K.moved (u := U) (U := U.calling g mk a) (Vm.Alike.refl U.vm) qK, qD⟩, kx_rc2 hKc hPc (q0 := 0) rfl, fun U hU hW => ⟨rfl, by rw [hU], by rw [hU]; exact hPc, va_K.moved hW.alike hKc, hDc.weaken (fun _ _ _ _ => trivial)⟩⟩ rfl rfl hl.1 rfl (lv_room (Nat.le_of_ble_eq_true rfl)) dX4_heavyVotesBy_21 ⟨Nat.le_of_ble_eq_true rfl, Nat.le_of_ble_eq_true rfl⟩) hS (fun q _ h => hFc q h) hFc (fun u t H1 locs ht hvm w_12 hB hz1 hk1 hS => ?_)
  obtain ⟨o_13, o_14, o_15, o_16, o_17⟩ := u
  dsimp only at w_12 hB
  obtain ⟨hP1, hK1, hD1⟩ := hB
  rw [ht] at hP1
  have hK1 := va_K.moved hvm.symm hK1
  obtain ⟨hP, hD⟩ := kx_joinM (w2 := [kx_4 m_ q_row q_t t_ h0 k0 w_ z_ slots old, kx_2 q_t q_row q_joined q_from q_to q_size q_lossOf q_lessBy q_value q_number nodes p0, kx_0 q_row q_cell len, kx_a q_cell cyI 160 f, kx_a q_from cyI 319 ff, kx_a q_to cyI 319 ft, kx_a q_size cyI 319 o_2, kx_a q_lossOf cyI 319 o_3, kx_a q_lessBy cyI 319 o_4, kx_a q_value cyI 1914 o_5, kx_a q_number cyI 1914 o_6, kx_3 q_joined j_v j_n o_7 o_8 o_9, kx_a j_v cyI 12 o_10, kx_a j_n cyI 12 o_11, kx_3 h0 a_v a_n o_13 o_14 o_15, kx_a a_v cyI 12 o_16, kx_a a_n cyI 12 o_17]) hP hD hP1 hD1 hk1 hFc [false, true, false, false, true, true, true, true, false, true, true, false, false, false, true, true, true] hCc rfl
  clear hP1 hD1 hK1 hk1 hz1 hFc hDc hPc hKc hCc
  generalize H1 = H at hP hS ⊢
  have w_12 : 0 ≤ o_13.toInt ∧ o_13.toInt ≤ 12 := w_12
  refine lv_iconst (v := 0) hx hb dX4_heavyVotesBy_24 (by decide) ?_
  refine lv_istore (lv' := [(7, .int 0), (0, .ref m_), (1, .ref q_t), (2, .int p0), (3, .int p1), (4, .int p2), (5, .int p3), (6, .int p4)]) hx hb dX4_heavyVotesBy_25 hl (by decide) rfl (fun ls hl => ?_)
  refine lv_iconst (v := 0) hx hb dX4_heavyVotesBy_27 (by decide) ?_
  refine lv_istore (lv' := [(8, .int 0), (7, .int 0), (0, .ref m_), (1, .ref q_t), (2, .int p0), (3, .int p1), (4, .int p2), (5, .int p3), (6, .int p4)]) hx hb dX4_heavyVotesBy_28 hl (by decide) rfl (fun ls hl => ?_)
  have LP1 : ∀ (n : Nat) (i : Int32) (many : Int32), (0 ≤ i.toInt) → (o_13.toInt - i.toInt).toNat < n → ∀ (H : Heap) (locs : List Loc), va_P (dC, dI) vwCl [kx_4 m_ q_row q_t t_ h0 k0 w_ z_ slots old, kx_2 q_t q_row q_joined q_from q_to q_size q_lossOf q_lessBy q_value q_number nodes p0, kx_0 q_row q_cell len, kx_a q_cell cyI 160 f, kx_a q_from cyI 319 ff, kx_a q_to cyI 319 ft, kx_a q_size cyI 319 o_2, kx_a q_lossOf cyI 319 o_3, kx_a q_lessBy cyI 319 o_4, kx_a q_value cyI 1914 o_5, kx_a q_number cyI 1914 o_6, kx_3 q_joined j_v j_n o_7 o_8 o_9, kx_a j_v cyI 12 o_10, kx_a j_n cyI 12 o_11, kx_3 h0 a_v a_n o_13 o_14 o_15, kx_a a_v cyI 12 o_16, kx_a a_n cyI 12 o_17] H → va_D A [kx_4 m_ q_row q_t t_ h0 k0 w_ z_ slots old, kx_2 q_t q_row q_joined q_from q_to q_size q_lossOf q_lessBy q_value q_number nodes p0, kx_0 q_row q_cell len, kx_a q_cell cyI 160 f, kx_a q_from cyI 319 ff, kx_a q_to cyI 319 ft, kx_a q_size cyI 319 o_2, kx_a q_lossOf cyI 319 o_3, kx_a q_lessBy cyI 319 o_4, kx_a q_value cyI 1914 o_5, kx_a q_number cyI 1914 o_6, kx_3 q_joined j_v j_n o_7 o_8 o_9, kx_a j_v cyI 12 o_10, kx_a j_n cyI 12 o_11, kx_3 h0 a_v a_n o_13 o_14 o_15, kx_a a_v cyI 12 o_16, kx_a a_n cyI 12 o_17] → va_S A s.heap H locs → ∀ (ls : Array Slot), lv_has ls 9 [(8, .int i), (7, .int many), (0, .ref m_), (1, .ref q_t), (2, .int p0), (3, .int p1), (4, .int p2), (5, .int p3), (6, .int p4)] → W p l e (headSpec wsX4_heavyVotesBy ({ frames := 5, cells := 0, slots := 0, locals := 225 })).room s m ([.ref m_, .ref q_t, .int p0, .int p1, .int p2, .int p3, .int p4] : List Value).toArray below meth c H locs 0 0 (MQ below (va_Qi (fun (r : Int32) (u : (Nat → Int32) × (Nat → Int32) × (Nat → Int32) × (Nat → Int32) × (Nat → Int32) × Int32 × Int32 × Int32 × (Nat → Int32) × (Nat → Int32) × Int32 × Int32 × Int32 × (Nat → Int32) × (Nat → Int32)) => sixes u.1 ∧ ∀ k : Nat, (k : Int) < nodes.toInt → ¬ mj_hit ff ft p1.toInt p2.toInt k → mj_e1 fs fo fe uv un u.1 u.2.1 u.2.2.1 u.2.2.2.1 u.2.2.2.2.1 k) (fun (u : (Nat → Int32) × (Nat → Int32) × (Nat → Int32) × (Nat → Int32) × (Nat → Int32) × Int32 × Int32 × Int32 × (Nat → Int32) × (Nat → Int32) × Int32 × Int32 × Int32 × (Nat → Int32) × (Nat → Int32)) (t : State) => va_P (dC, dI) vwCl [kx_4 m_ q_row q_t t_ h0 k0 w_ z_ slots old, kx_2 q_t q_row q_joined q_from q_to q_size q_lossOf q_lessBy q_value q_number nodes p0, kx_0 q_row q_cell len, kx_a q_cell cyI 160 f, kx_a q_from cyI 319 ff, kx_a q_to cyI 319 ft, kx_a q_size cyI 319 u.1, kx_a q_lossOf cyI 319 u.2.1, kx_a q_lessBy cyI 319 u.2.2.1, kx_a q_value cyI 1914 u.2.2.2.1, kx_a q_number cyI 1914 u.2.2.2.2.1, kx_3 q_joined j_v j_n u.2.2.2.2.2.1 u.2.2.2.2.2.2.1 u.2.2.2.2.2.2.2.1, kx_a j_v cyI 12 u.2.2.2.2.2.2.2.2.1, kx_a j_n cyI 12 u.2.2.2.2.2.2.2.2.2.1, kx_3 h0 a_v a_n u.2.2.2.2.2.2.2.2.2.2.1 u.2.2.2.2.2.2.2.2.2.2.2.1 u.2.2.2.2.2.2.2.2.2.2.2.2.1, kx_a a_v cyI 12 u.2.2.2.2.2.2.2.2.2.2.2.2.2.1, kx_a a_n cyI 12 u.2.2.2.2.2.2.2.2.2.2.2.2.2.2] t.heap ∧ va_K (dC, dI) vwCl [(cyI, .int)] t ∧ va_D A [kx_4 m_ q_row q_t t_ h0 k0 w_ z_ slots old, kx_2 q_t q_row q_joined q_from q_to q_size q_lossOf q_lessBy q_value q_number nodes p0, kx_0 q_row q_cell len, kx_a q_cell cyI 160 f, kx_a q_from cyI 319 ff, kx_a q_to cyI 319 ft, kx_a q_size cyI 319 u.1, kx_a q_lossOf cyI 319 u.2.1, kx_a q_lessBy cyI 319 u.2.2.1, kx_a q_value cyI 1914 u.2.2.2.1, kx_a q_number cyI 1914 u.2.2.2.2.1, kx_3 q_joined j_v j_n u.2.2.2.2.2.1 u.2.2.2.2.2.2.1 u.2.2.2.2.2.2.2.1, kx_a j_v cyI 12 u.2.2.2.2.2.2.2.2.1, kx_a j_n cyI 12 u.2.2.2.2.2.2.2.2.2.1, kx_3 h0 a_v a_n u.2.2.2.2.2.2.2.2.2.2.1 u.2.2.2.2.2.2.2.2.2.2.2.1 u.2.2.2.2.2.2.2.2.2.2.2.2.1, kx_a a_v cyI 12 u.2.2.2.2.2.2.2.2.2.2.2.2.2.1, kx_a a_n cyI 12 u.2.2.2.2.2.2.2.2.2.2.2.2.2.2]) A) ([.ref m_, .ref q_t, .int p0, .int p1, .int p2, .int p3, .int p4] : List Value).toArray s 0 0 A) (F0 m 30 ls []) := by
    intro n
    induction n with
    | zero => intro i many LP1_h0 hn; exact absurd hn (Nat.not_lt_zero _)
    | succ n ih1 =>
      intro i many LP1_h0 hn1 H locs hP hD hS ls hl
      refine lv_iload hx hb dX4_heavyVotesBy_30 (lv_at hl 0 rfl) ?_
      refine lv_aload_n hx hb dX4_heavyVotesBy_32 rfl (lv_at hl 2 rfl) ?_
      refine va_get (D := (dC, dI)) (ci := 4) (v := .ref h0) (C := RX4) (T := TX4) (N := 9) hx hb hts hi_4 hown hK hP 0 rfl rfl 3 (by decide) hf_35 (fun _ h9 => h9) rfl dX4_heavyVotesBy_33 ?_
      refine va_get (D := (dC, dI)) (ci := 3) (v := .int o_13) (C := RX3) (T := TX3) (N := 5) hx hb hts hi_3 hown hK hP 14 rfl rfl 2 (by decide) hf_174 (fun _ h9 => h9) rfl dX4_heavyVotesBy_36 ?_
      refine lv_icmp_ge (tgt := 85) hx hb dX4_heavyVotesBy_39 (by decide) (fun c_18 => ?_) (fun c_18 => ?_)
      · have i_18 : o_13.toInt ≤ i.toInt := kc_le c_18
        refine lv_iload hx hb dX4_heavyVotesBy_85 (lv_at hl 1 rfl) ?_
        have hP9 := hP
        have hD9 := hD
        have hK9 := hK
        exact W.iret (v := many) hx hb hr (hlocks := hlocks) (fun t ht hW => ⟨⟨many, (o_2, o_3, o_4, o_5, o_6, o_7, o_8, o_9, o_10, o_11, o_13, o_14, o_15, o_16, o_17), rfl, ⟨w_1.1, w_1.2⟩, by rw [ht]; exact hP9, va_K.moved hW.alike hK9, hD9⟩, hS.F ht⟩) hS.2.2 dX4_heavyVotesBy_87
      · have i_18 : i.toInt < o_13.toInt := kc_nle c_18
        refine lv_aload_n hx hb dX4_heavyVotesBy_42 rfl (lv_at hl 2 rfl) ?_
        refine va_get (D := (dC, dI)) (ci := 4) (v := .ref q_row) (C := RX4) (T := TX4) (N := 9) hx hb hts hi_4 hown hK hP 0 rfl rfl 0 (by decide) hf_12 (fun _ h9 => h9) rfl dX4_heavyVotesBy_43 ?_
        refine lv_aload_n hx hb dX4_heavyVotesBy_46 rfl (lv_at hl 2 rfl) ?_
        refine va_get (D := (dC, dI)) (ci := 4) (v := .ref h0) (C := RX4) (T := TX4) (N := 9) hx hb hts hi_4 hown hK hP 0 rfl rfl 3 (by decide) hf_35 (fun _ h9 => h9) rfl dX4_heavyVotesBy_47 ?_
        refine va_get (D := (dC, dI)) (ci := 3) (v := .ref a_v) (C := RX3) (T := TX3) (N := 5) hx hb hts hi_3 hown hK hP 14 rfl rfl 0 (by decide) hf_133 (fun _ h9 => h9) rfl dX4_heavyVotesBy_50 ?_
        refine lv_iload hx hb dX4_heavyVotesBy_53 (lv_at hl 0 rfl) ?_
        refine va_iald hx hb hK hP 15 0 rfl rfl (ki_in (om_10 LP1_h0) (om_32 w_12.2 i_18)) dX4_heavyVotesBy_55 ?_
        refine lv_topi (fun y_19 ey_19 => ?_)
        have j_19 : y_19.toInt = (o_16 i.toNatClampNeg).toInt := congrArg Int32.toInt ey_19
        refine lv_iload_n hx hb dX4_heavyVotesBy_56 rfl (lv_at hl 5 rfl) ?_
        refine lv_iload hx hb dX4_heavyVotesBy_57 (lv_at hl 6 rfl) ?_
        have hPc := hP.sub (ws' := [kx_0 q_row q_cell len, kx_a q_cell cyI 160 f]) [2, 3] rfl
        have hKc := hK
        refine vp_callSi (W.runV (As := [.int y_19, .int p1, .int p2]) (rest := []) ⟨hx, hb, hml, hown, hts⟩ (c_X0_oftenIn l dC dI q_row q_cell cyI len f y_19 p1 p2 d0 d1) (cwV 3 hts gX4_heavyVotesBy_X0_oftenIn rfl rfl rfl (by decide +kernel) ⟨Nat.le_of_ble_eq_true rfl, Nat.le_of_ble_eq_true rfl⟩) ⟨fun a U g mk q => by obtain ⟨q0, qP, qK⟩ := q; exact ⟨q0, qP, va_K.moved (u := U) (U := U.calling g mk a) (Vm.Alike.refl U.vm) qK⟩, kx_rc0 hKc hPc (q0 := 0) rfl, fun U hU hW => ⟨rfl, by rw [hU]; exact hPc, va_K.moved hW.alike hKc⟩⟩ rfl rfl hl.1 rfl (lv_room (Nat.le_of_ble_eq_true rfl)) dX4_heavyVotesBy_59 ⟨Nat.le_of_ble_eq_true rfl, Nat.le_of_ble_eq_true rfl⟩) (fun r_20 w_20 => ?_)
        have w_20 : r_20.toInt = (cnt f y_19 p1.toNatClampNeg (p2.toInt - p1.toInt).toNat : Int) := w_20
        refine lv_iload hx hb dX4_heavyVotesBy_62 (lv_at hl 6 rfl) ?_
        refine lv_iload_n hx hb dX4_heavyVotesBy_64 rfl (lv_at hl 5 rfl) ?_
        refine lv_isub hx hb dX4_heavyVotesBy_65 ?_
        refine lv_topi (fun y_21 ey_21 => ?_)
        refine lv_iload hx hb dX4_heavyVotesBy_66 (lv_at hl 7 rfl) ?_
        refine lv_iload hx hb dX4_heavyVotesBy_68 (lv_at hl 8 rfl) ?_
        have hPc := hP.sub (ws' := []) [] rfl
        have hKc := hK.sub (tys' := []) [] rfl
        refine vp_callSi (W.runS (As := [.int r_20, .int y_21, .int p3, .int p4]) (rest := []) ⟨hx, hb, hml, hown, hts⟩ (c_X4_isHeavy l dC dI r_20 y_21 p3 p4) (va_cwS 4 hts gX4_heavyVotesBy_X4_isHeavy rfl rfl rfl (by decide +kernel) ⟨Nat.le_of_ble_eq_true rfl, Nat.le_of_ble_eq_true rfl⟩) ⟨fun a U g mk q => by obtain ⟨q0, qP, qK⟩ := q; exact ⟨q0, qP, va_K.moved (u := U) (U := U.calling g mk a) (Vm.Alike.refl U.vm) qK⟩, fun U hU hW => ⟨rfl, by rw [hU]; exact hPc, va_K.moved hW.alike hKc⟩⟩ rfl rfl hl.1 rfl (lv_room (Nat.le_of_ble_eq_true rfl)) dX4_heavyVotesBy_70 ⟨Nat.le_of_ble_eq_true rfl, Nat.le_of_ble_eq_true rfl⟩) (fun r_22 w_22 => ?_)
        rcases w_22 with ⟨rfl, w_22⟩ | ⟨rfl, w_22⟩
        · have w_22 : (0 : Int) ≤ 1 := w_22
          refine lv_if_eq (tgt := 79) hx hb dX4_heavyVotesBy_73 (by decide) (fun c_23 => ?_) (fun c_23 => ?_)
          · exact absurd c_23 (by decide)
          · obtain ⟨x_24, ex_24⟩ : ∃ y : Int32, y = many + 1 := ⟨_, rfl⟩
            refine lv_iinc (v := x_24) (lv' := [(7, .int x_24), (8, .int i), (0, .ref m_), (1, .ref q_t), (2, .int p0), (3, .int p1), (4, .int p2), (5, .int p3), (6, .int p4)]) hx hb dX4_heavyVotesBy_76 hl (k := 1) rfl (by rw [ex_24]; rfl) (by decide) rfl (fun ls hl => ?_)
            obtain ⟨x_25, ex_25⟩ : ∃ y : Int32, y = i + 1 := ⟨_, rfl⟩
            have i_25 : x_25.toInt = i.toInt + 1 := ki_add ex_25 rfl rfl (om_13 LP1_h0) (om_33 w_12.2 i_18)
            refine lv_iinc (v := x_25) (lv' := [(8, .int x_25), (7, .int x_24), (0, .ref m_), (1, .ref q_t), (2, .int p0), (3, .int p1), (4, .int p2), (5, .int p3), (6, .int p4)]) hx hb dX4_heavyVotesBy_79 hl (k := 1) rfl (by rw [ex_25]; rfl) (by decide) rfl (fun ls hl => ?_)
            refine lv_goto (tgt := 30) hx hb dX4_heavyVotesBy_82 (by decide) ?_
            exact ih1 x_25 x_24 (om_34 LP1_h0 i_25) (om_mu hn1 (om_5 i_25) (om_6 i_18)) _ _ hP hD hS ls (lv_sub hl [0, 1, 2, 3, 4, 5, 6, 7, 8] rfl)
        · have w_22 : (0 : Int) ≤ 1 := w_22
          refine lv_if_eq (tgt := 79) hx hb dX4_heavyVotesBy_73 (by decide) (fun c_26 => ?_) (fun c_26 => ?_)
          · obtain ⟨x_27, ex_27⟩ : ∃ y : Int32, y = i + 1 := ⟨_, rfl⟩
            have i_27 : x_27.toInt = i.toInt + 1 := ki_add ex_27 rfl rfl (om_13 LP1_h0) (om_33 w_12.2 i_18)
            refine lv_iinc (v := x_27) (lv' := [(8, .int x_27), (7, .int many), (0, .ref m_), (1, .ref q_t), (2, .int p0), (3, .int p1), (4, .int p2), (5, .int p3), (6, .int p4)]) hx hb dX4_heavyVotesBy_79 hl (k := 0) rfl (by rw [ex_27]; rfl) (by decide) rfl (fun ls hl => ?_)
            refine lv_goto (tgt := 30) hx hb dX4_heavyVotesBy_82 (by decide) ?_
            exact ih1 x_27 many (om_34 LP1_h0 i_27) (om_mu hn1 (om_5 i_27) (om_6 i_18)) _ _ hP hD hS ls (lv_sub hl [0, 1, 2, 3, 4, 5, 6, 7, 8] rfl)
          · exact absurd c_26 (by decide)
  have k_28 : (0 : Int32).toInt = 0 := rfl
  have k_29 : (0 : Int32).toInt = 0 := rfl
  exact LP1 ((o_13.toInt - 0 : Int).toNat + 1) 0 0 om_35 (Nat.lt_succ_self _) _ _ hP hD hS ls (lv_sub hl [0, 1, 2, 3, 4, 5, 6, 7, 8] rfl)

set_option maxHeartbeats 4000000 in
set_option maxRecDepth 100000 in
theorem c_X4_least_x (l : Launch) (dC : Nat → ClassId) (dI : Nat → Nat → Nat) (m_ : Nat) (q_row : Nat) (q_t : Nat) (t_ : Nat) (h0 : Nat) (k0 : Nat) (w_ : Nat) (z_ : Nat) (slots : Int32) (old : Int32) (q_joined : Nat) (q_from : Nat) (q_to : Nat) (q_size : Nat) (q_lossOf : Nat) (q_lessBy : Nat) (q_value : Nat) (q_number : Nat) (nodes : Int32) (here : Int32) (q_cell : Nat) (cyI : ClassId) (len : Int32) (f : Nat → Int32) (ff : Nat → Int32) (ft : Nat → Int32) (fs : Nat → Int32) (fo : Nat → Int32) (uv : Nat → Int32) (un : Nat → Int32) (fe : Nat → Int32) (j_v : Nat) (j_n : Nat) (js : Int32) (jl : Int32) (je : Int32) (jv : Nat → Int32) (jn : Nat → Int32) (a_v : Nat) (a_n : Nat) (vs : Int32) (lo : Int32) (le : Int32) (fv : Nat → Int32) (fn : Nat → Int32) (p0 : Int32) (p1 : Int32) (p2 : Int32) (p3 : Int32) (sz : Nat) (a0 : 0 ≤ len.toInt) (a1 : len.toInt ≤ 160) (s0 : sixes fs) (sl0 : 1 ≤ slots.toInt) (sl1 : slots.toInt ≤ 6) (l0 : laidX old slots here f ff ft fs fo fe uv un nodes len) : kx_MQ l (dC, dI) yX4_least wsX4_least ({ frames := 6, cells := 0, slots := 0, locals := 270 }) [.ref m_, .int p0, .int p1, .int p2, .int p3] [kx_4 m_ q_row q_t t_ h0 k0 w_ z_ slots old, kx_2 q_t q_row q_joined q_from q_to q_size q_lossOf q_lessBy q_value q_number nodes here, kx_0 q_row q_cell len, kx_a q_cell cyI 160 f, kx_a q_from cyI 319 ff, kx_a q_to cyI 319 ft, kx_a q_size cyI 319 fs, kx_a q_lossOf cyI 319 fo, kx_a q_lessBy cyI 319 fe, kx_a q_value cyI 1914 uv, kx_a q_number cyI 1914 un, kx_3 q_joined j_v j_n js jl je, kx_a j_v cyI 12 jv, kx_a j_n cyI 12 jn, kx_3 h0 a_v a_n vs lo le, kx_a a_v cyI 12 fv, kx_a a_n cyI 12 fn] [(cyI, .int)] sz (fun A => va_Qi (fun (r : Int32) (u : Int32 × Int32 × Int32 × (Nat → Int32) × (Nat → Int32) × (Nat → Int32) × (Nat → Int32) × (Nat → Int32) × (Nat → Int32) × (Nat → Int32) × Int32 × Int32 × Int32 × (Nat → Int32) × (Nat → Int32) × Int32 × Int32 × Int32 × (Nat → Int32) × (Nat → Int32)) => laidX u.1 slots u.2.2.1 f u.2.2.2.1 u.2.2.2.2.1 u.2.2.2.2.2.1 u.2.2.2.2.2.2.1 u.2.2.2.2.2.2.2.1 u.2.2.2.2.2.2.2.2.1 u.2.2.2.2.2.2.2.2.2.1 u.2.1 len ∧ sixes u.2.2.2.2.2.1) (fun (u : Int32 × Int32 × Int32 × (Nat → Int32) × (Nat → Int32) × (Nat → Int32) × (Nat → Int32) × (Nat → Int32) × (Nat → Int32) × (Nat → Int32) × Int32 × Int32 × Int32 × (Nat → Int32) × (Nat → Int32) × Int32 × Int32 × Int32 × (Nat → Int32) × (Nat → Int32)) (t : State) => va_P (dC, dI) vwCl [kx_4 m_ q_row q_t t_ h0 k0 w_ z_ slots u.1, kx_2 q_t q_row q_joined q_from q_to q_size q_lossOf q_lessBy q_value q_number u.2.1 u.2.2.1, kx_0 q_row q_cell len, kx_a q_cell cyI 160 f, kx_a q_from cyI 319 u.2.2.2.1, kx_a q_to cyI 319 u.2.2.2.2.1, kx_a q_size cyI 319 u.2.2.2.2.2.1, kx_a q_lossOf cyI 319 u.2.2.2.2.2.2.1, kx_a q_lessBy cyI 319 u.2.2.2.2.2.2.2.1, kx_a q_value cyI 1914 u.2.2.2.2.2.2.2.2.1, kx_a q_number cyI 1914 u.2.2.2.2.2.2.2.2.2.1, kx_3 q_joined j_v j_n u.2.2.2.2.2.2.2.2.2.2.1 u.2.2.2.2.2.2.2.2.2.2.2.1 u.2.2.2.2.2.2.2.2.2.2.2.2.1, kx_a j_v cyI 12 u.2.2.2.2.2.2.2.2.2.2.2.2.2.1, kx_a j_n cyI 12 u.2.2.2.2.2.2.2.2.2.2.2.2.2.2.1, kx_3 h0 a_v a_n u.2.2.2.2.2.2.2.2.2.2.2.2.2.2.2.1 u.2.2.2.2.2.2.2.2.2.2.2.2.2.2.2.2.1 u.2.2.2.2.2.2.2.2.2.2.2.2.2.2.2.2.2.1, kx_a a_v cyI 12 u.2.2.2.2.2.2.2.2.2.2.2.2.2.2.2.2.2.2.1, kx_a a_n cyI 12 u.2.2.2.2.2.2.2.2.2.2.2.2.2.2.2.2.2.2.2] t.heap ∧ va_K (dC, dI) vwCl [(cyI, .int)] t ∧ va_D A [kx_4 m_ q_row q_t t_ h0 k0 w_ z_ slots u.1, kx_2 q_t q_row q_joined q_from q_to q_size q_lossOf q_lessBy q_value q_number u.2.1 u.2.2.1, kx_0 q_row q_cell len, kx_a q_cell cyI 160 f, kx_a q_from cyI 319 u.2.2.2.1, kx_a q_to cyI 319 u.2.2.2.2.1, kx_a q_size cyI 319 u.2.2.2.2.2.1, kx_a q_lossOf cyI 319 u.2.2.2.2.2.2.1, kx_a q_lessBy cyI 319 u.2.2.2.2.2.2.2.1, kx_a q_value cyI 1914 u.2.2.2.2.2.2.2.2.1, kx_a q_number cyI 1914 u.2.2.2.2.2.2.2.2.2.1, kx_3 q_joined j_v j_n u.2.2.2.2.2.2.2.2.2.2.1 u.2.2.2.2.2.2.2.2.2.2.2.1 u.2.2.2.2.2.2.2.2.2.2.2.2.1, kx_a j_v cyI 12 u.2.2.2.2.2.2.2.2.2.2.2.2.2.1, kx_a j_n cyI 12 u.2.2.2.2.2.2.2.2.2.2.2.2.2.2.1, kx_3 h0 a_v a_n u.2.2.2.2.2.2.2.2.2.2.2.2.2.2.2.1 u.2.2.2.2.2.2.2.2.2.2.2.2.2.2.2.2.1 u.2.2.2.2.2.2.2.2.2.2.2.2.2.2.2.2.2.1, kx_a a_v cyI 12 u.2.2.2.2.2.2.2.2.2.2.2.2.2.2.2.2.2.2.1, kx_a a_n cyI 12 u.2.2.2.2.2.2.2.2.2.2.2.2.2.2.2.2.2.2.2]) A) := by
  refine kx_stQ (ws := wsX4_least) (cc := cX4_least) (maxL := 9) (ret := (some .int)) (by decide) rfl (Nat.le_of_ble_eq_true rfl) ?_
  intro p e s m below meth c A ls hx hb hr hlocks hts hown hml hA hS hP hK hD hl
  have hown : s.vm.findClass RX4 = some m.cls := hown
  have hl : lv_has ls 9 [(0, .ref m_), (1, .int p0), (2, .int p1), (3, .int p2), (4, .int p3)] := hl
  have hf_12 := hts (.fieldLink RX4 12 "MajorityIndex" "row" "LMajorityIndex$Row;") (List.mem_of_getElem? (i := 1) rfl)
  have hi_4 : ∀ w ∈ u_ws RX4 TX4 9, w ∈ wsX4_least := fun w h => List.mem_cons_of_mem _ (List.mem_append_left _ (List.mem_append_left _ (List.mem_append_left _ (List.mem_append_right _ h))))
  have hf_49 := hts (.fieldLink RX4 49 "MajorityIndex" "slotsNow" "I") (List.mem_of_getElem? (i := 2) rfl)
  have hf_204 := hts (.fieldLink RX4 204 "MajorityIndex$Tree" "slotsHere" "I") (List.mem_of_getElem? (i := 3) rfl)
  have hi_2 : ∀ w ∈ u_ws RX2 TX2 11, w ∈ wsX4_least := fun w h => List.mem_cons_of_mem _ (List.mem_append_left _ (List.mem_append_left _ (List.mem_append_right _ h)))
  refine lv_aload_n hx hb dX4_least_0 rfl (lv_at hl 0 rfl) ?_
  refine va_get (D := (dC, dI)) (ci := 4) (v := .ref q_row) (C := RX4) (T := TX4) (N := 9) hx hb hts hi_4 hown hK hP 0 rfl rfl 0 (by decide) hf_12 (fun _ h9 => h9) rfl dX4_least_1 ?_
  refine lv_iload_n hx hb dX4_least_4 rfl (lv_at hl 1 rfl) ?_
  refine lv_iload_n hx hb dX4_least_5 rfl (lv_at hl 2 rfl) ?_
  have hPc := hP.sub (ws' := [kx_0 q_row q_cell len]) [2] rfl
  have hKc := hK.sub (tys' := []) [] rfl
  refine vp_callSi (W.runV (As := [.int p0, .int p1]) (rest := []) ⟨hx, hb, hml, hown, hts⟩ (c_X0_hasRange l dC dI q_row q_cell len p0 p1) (cwV 2 hts gX4_least_X0_hasRange rfl rfl rfl (by decide +kernel) ⟨Nat.le_of_ble_eq_true rfl, Nat.le_of_ble_eq_true rfl⟩) ⟨fun a U g mk q => by obtain ⟨q0, qP, qK⟩ := q; exact ⟨q0, qP, va_K.moved (u := U) (U := U.calling g mk a) (Vm.Alike.refl U.vm) qK⟩, kx_rc0 hKc hPc (q0 := 0) rfl, fun U hU hW => ⟨rfl, by rw [hU]; exact hPc, va_K.moved hW.alike hKc⟩⟩ rfl rfl hl.1 rfl (lv_room (Nat.le_of_ble_eq_true rfl)) dX4_least_6 ⟨Nat.le_of_ble_eq_true rfl, Nat.le_of_ble_eq_true rfl⟩) (fun r_1 w_1 => ?_)
  rcases w_1 with ⟨rfl, w_1⟩ | ⟨rfl, w_1⟩
  · have w_1 : (0 ≤ p0.toInt ∧ p0.toInt < p1.toInt ∧ p1.toInt ≤ len.toInt) := w_1
    refine lv_if_eq (tgt := 29) hx hb dX4_least_9 (by decide) (fun c_2 => ?_) (fun c_2 => ?_)
    · exact absurd c_2 (by decide)
    · refine lv_iload_n hx hb dX4_least_12 rfl (lv_at hl 2 rfl) ?_
      refine lv_iload_n hx hb dX4_least_13 rfl (lv_at hl 1 rfl) ?_
      refine lv_isub hx hb dX4_least_14 ?_
      refine lv_topi (fun y_3 ey_3 => ?_)
      have i_3 : y_3.toInt = p1.toInt - p0.toInt := ki_sub ey_3 rfl rfl (om_168 w_1.2.1) (om_169 a1 w_1.1 w_1.2.2)
      refine lv_bipush (v := 64) hx hb dX4_least_15 (by decide) ?_
      refine lv_icmp_gt (tgt := 29) hx hb dX4_least_17 (by decide) (fun c_4 => ?_) (fun c_4 => ?_)
      · have i_4 : 64 < y_3.toInt := kc_lt c_4
        refine lv_iconst (v := (-1)) hx hb dX4_least_29 (by decide) ?_
        have hP9 := hP
        have hD9 := hD
        have hK9 := hK
        exact W.iret (v := (-1)) hx hb hr (hlocks := hlocks) (fun t ht hW => ⟨⟨(-1), (old, nodes, here, ff, ft, fs, fo, fe, uv, un, js, jl, je, jv, jn, vs, lo, le, fv, fn), rfl, ⟨l0, s0⟩, by rw [ht]; exact hP9, va_K.moved hW.alike hK9, hD9⟩, hS.F ht⟩) hS.2.2 dX4_least_30
      · have i_4 : y_3.toInt ≤ 64 := kc_nlt c_4
        refine lv_iload_n hx hb dX4_least_20 rfl (lv_at hl 3 rfl) ?_
        refine lv_iload hx hb dX4_least_21 (lv_at hl 4 rfl) ?_
        have hPc := hP.sub (ws' := []) [] rfl
        have hKc := hK.sub (tys' := []) [] rfl
        refine vp_callSi (W.runS (As := [.int p2, .int p3]) (rest := []) ⟨hx, hb, hml, hown, hts⟩ (c_X4_isShare l dC dI p2 p3) (va_cwS 2 hts gX4_least_X4_isShare rfl rfl rfl (by decide +kernel) ⟨Nat.le_of_ble_eq_true rfl, Nat.le_of_ble_eq_true rfl⟩) ⟨fun a U g mk q => by obtain ⟨q0, qP, qK⟩ := q; exact ⟨q0, qP, va_K.moved (u := U) (U := U.calling g mk a) (Vm.Alike.refl U.vm) qK⟩, fun U hU hW => ⟨rfl, by rw [hU]; exact hPc, va_K.moved hW.alike hKc⟩⟩ rfl rfl hl.1 rfl (lv_room (Nat.le_of_ble_eq_true rfl)) dX4_least_23 ⟨Nat.le_of_ble_eq_true rfl, Nat.le_of_ble_eq_true rfl⟩) (fun r_5 w_5 => ?_)
        rcases w_5 with ⟨rfl, w_5⟩ | ⟨rfl, w_5⟩
        · have w_5 : (1 ≤ p2.toInt ∧ p2.toInt ≤ p3.toInt ∧ p3.toInt ≤ 999) := w_5
          refine lv_if_ne (tgt := 31) hx hb dX4_least_26 (by decide) (fun c_6 => ?_) (fun c_6 => ?_)
          · refine lv_aload_n hx hb dX4_least_31 rfl (lv_at hl 0 rfl) ?_
            refine lv_iload_n hx hb dX4_least_32 rfl (lv_at hl 1 rfl) ?_
            refine lv_iload_n hx hb dX4_least_33 rfl (lv_at hl 2 rfl) ?_
            refine lv_iload_n hx hb dX4_least_34 rfl (lv_at hl 3 rfl) ?_
            refine lv_iload hx hb dX4_least_35 (lv_at hl 4 rfl) ?_
            have hPc := hP.sub (ws' := [kx_4 m_ q_row q_t t_ h0 k0 w_ z_ slots old, kx_0 q_row q_cell len, kx_a q_cell cyI 160 f]) [0, 2, 3] rfl
            have hKc := hK
            refine vp_callSi (W.runV (As := [.int p0, .int p1, .int p2, .int p3]) (rest := []) ⟨hx, hb, hml, hown, hts⟩ (c_X4_heavyValues l dC dI m_ q_row q_t t_ h0 k0 w_ z_ slots old q_cell cyI len f p0 p1 p2 p3 a0 a1 (om_10 w_1.1) (om_167 a1 w_1.2.2)) (cwV 4 hts gX4_least_X4_heavyValues rfl rfl rfl (by decide +kernel) ⟨Nat.le_of_ble_eq_true rfl, Nat.le_of_ble_eq_true rfl⟩) ⟨fun a U g mk q => by obtain ⟨q0, qP, qK⟩ := q; exact ⟨q0, qP, va_K.moved (u := U) (U := U.calling g mk a) (Vm.Alike.refl U.vm) qK⟩, kx_rc4 hKc hPc (q0 := 0) rfl, fun U hU hW => ⟨rfl, by rw [hU]; exact hPc, va_K.moved hW.alike hKc⟩⟩ rfl rfl hl.1 rfl (lv_room (Nat.le_of_ble_eq_true rfl)) dX4_least_37 ⟨Nat.le_of_ble_eq_true rfl, Nat.le_of_ble_eq_true rfl⟩) (fun r_7 w_7 => ?_)
            refine lv_istore (lv' := [(5, .int r_7), (0, .ref m_), (1, .int p0), (2, .int p1), (3, .int p2), (4, .int p3)]) hx hb dX4_least_40 hl (by decide) rfl (fun ls hl => ?_)
            refine lv_bipush (v := (-2)) hx hb dX4_least_42 (by decide) ?_
            refine lv_istore (lv' := [(6, .int (-2)), (5, .int r_7), (0, .ref m_), (1, .int p0), (2, .int p1), (3, .int p2), (4, .int p3)]) hx hb dX4_least_44 hl (by decide) rfl (fun ls hl => ?_)
            refine lv_aload_n hx hb dX4_least_46 rfl (lv_at hl 2 rfl) ?_
            obtain ⟨hPc, hDc, hFc, hCc⟩ := kx_preM (wc := [kx_4 m_ q_row q_t t_ h0 k0 w_ z_ slots old, kx_2 q_t q_row q_joined q_from q_to q_size q_lossOf q_lessBy q_value q_number nodes here, kx_0 q_row q_cell len, kx_a q_cell cyI 160 f, kx_a q_from cyI 319 ff, kx_a q_to cyI 319 ft, kx_a q_size cyI 319 fs, kx_a q_lossOf cyI 319 fo, kx_a q_lessBy cyI 319 fe, kx_a q_value cyI 1914 uv, kx_a q_number cyI 1914 un, kx_3 q_joined j_v j_n js jl je, kx_a j_v cyI 12 jv, kx_a j_n cyI 12 jn]) hP hD hS hA [true, true, true, true, true, true, true, true, true, true, true, true, true, true, false, false, false] rfl
            have hKc := hK
            refine va_callr (va_runV (As := []) (rest := []) ⟨hx, hb, hml, hown, hts⟩ (kx_un (c_X4_laidTree_x l dC dI m_ q_row q_t t_ h0 k0 w_ z_ slots old q_joined q_from q_to q_size q_lossOf q_lessBy q_value q_number nodes here q_cell cyI len f ff ft fs fo uv un fe j_v j_n js jl je jv jn s.heap.size a0 a1 s0 sl0 sl1 l0)) (cwV 0 hts gX4_least_X4_laidTree rfl rfl rfl (by decide +kernel) ⟨Nat.le_of_ble_eq_true rfl, Nat.le_of_ble_eq_true rfl⟩) ⟨fun a U g mk q => by obtain ⟨q0, q1, qP, qK, qD⟩ := q; exact ⟨q0, q1, qP, va_K.moved (u := U) (U := U.calling g mk a) (Vm.Alike.refl U.vm) qK, qD⟩, kx_rc4 hKc hPc (q0 := 0) rfl, fun U hU hW => ⟨rfl, by rw [hU], by rw [hU]; exact hPc, va_K.moved hW.alike hKc, hDc.weaken (fun _ _ _ _ => trivial)⟩⟩ rfl rfl hl.1 rfl (lv_room (Nat.le_of_ble_eq_true rfl)) dX4_least_47 ⟨Nat.le_of_ble_eq_true rfl, Nat.le_of_ble_eq_true rfl⟩) hS (fun q _ h => hFc q h) hFc (fun u ra t H1 locs ht hvm w_8 hB hz1 hk1 hS => ?_)
            obtain ⟨o_9, o_10, o_11, o_12, o_13, o_14, o_15, o_16, o_17, o_18, o_19, o_20, o_21, o_22, o_23⟩ := u
            dsimp only at w_8 hB
            obtain ⟨er, hP1, hK1, hD1⟩ := hB
            rw [ht] at hP1
            have hK1 := va_K.moved hvm.symm hK1
            obtain ⟨hP, hD⟩ := kx_joinM (w2 := [kx_4 m_ q_row q_t t_ h0 k0 w_ z_ slots o_9, kx_2 q_t q_row q_joined q_from q_to q_size q_lossOf q_lessBy q_value q_number o_10 o_11, kx_0 q_row q_cell len, kx_a q_cell cyI 160 f, kx_a q_from cyI 319 o_12, kx_a q_to cyI 319 o_13, kx_a q_size cyI 319 o_14, kx_a q_lossOf cyI 319 o_15, kx_a q_lessBy cyI 319 o_16, kx_a q_value cyI 1914 o_17, kx_a q_number cyI 1914 o_18, kx_3 q_joined j_v j_n o_19 o_20 o_21, kx_a j_v cyI 12 o_22, kx_a j_n cyI 12 o_23, kx_3 h0 a_v a_n vs lo le, kx_a a_v cyI 12 fv, kx_a a_n cyI 12 fn]) hP hD hP1 hD1 hk1 hFc [true, true, true, true, true, true, true, true, true, true, true, true, true, true, false, false, false] hCc rfl
            clear hP1 hD1 hK1 hk1 hz1 hFc hDc hPc hKc hCc
            generalize H1 = H at hP hS ⊢
            have w_8 : o_9.toInt = 0 ∧ o_11 = slots ∧ sixes o_14 ∧ mj_C slots.toNatClampNeg f o_12 o_13 o_14 o_15 o_16 o_17 o_18 o_10.toInt len.toInt ∧ 0 ≤ o_10.toInt ∧ o_10.toInt ≤ 319 ∧ treeOk o_12 o_13 o_10.toInt len.toInt := w_8
            rw [er]
            refine lv_astore (lv' := [(7, .ref q_t), (6, .int (-2)), (5, .int r_7), (0, .ref m_), (1, .int p0), (2, .int p1), (3, .int p2), (4, .int p3)]) hx hb dX4_least_50 hl (by decide) rfl (fun ls hl => ?_)
            refine lv_iconst (v := 1) hx hb dX4_least_52 (by decide) ?_
            refine lv_istore (lv' := [(8, .int 1), (7, .ref q_t), (6, .int (-2)), (5, .int r_7), (0, .ref m_), (1, .int p0), (2, .int p1), (3, .int p2), (4, .int p3)]) hx hb dX4_least_53 hl (by decide) rfl (fun ls hl => ?_)
            have LP1 : ∀ (n : Nat) (found : Int32) (k : Int32) (g_here : Int32) (g_s : Nat → Int32) (g_o : Nat → Int32) (g_e : Nat → Int32) (g_v : Nat → Int32) (g_n : Nat → Int32) (g_js : Int32) (g_jl : Int32) (g_je : Int32) (g_jv : Nat → Int32) (g_jn : Nat → Int32) (g_vs : Int32) (g_vl : Int32) (g_ve : Int32) (g_vv : Nat → Int32) (g_vn : Nat → Int32), (1 ≤ k.toInt) → (sixes g_s) → (∀ k : Nat, (k : Int) < o_10.toInt → ¬ mj_hit o_12 o_13 p0.toInt p1.toInt k → mj_e1 o_14 o_15 o_16 o_17 o_18 g_s g_o g_e g_v g_n k) → (7 - k.toInt).toNat < n → ∀ (H : Heap) (locs : List Loc), va_P (dC, dI) vwCl [kx_4 m_ q_row q_t t_ h0 k0 w_ z_ slots o_9, kx_2 q_t q_row q_joined q_from q_to q_size q_lossOf q_lessBy q_value q_number o_10 g_here, kx_0 q_row q_cell len, kx_a q_cell cyI 160 f, kx_a q_from cyI 319 o_12, kx_a q_to cyI 319 o_13, kx_a q_size cyI 319 g_s, kx_a q_lossOf cyI 319 g_o, kx_a q_lessBy cyI 319 g_e, kx_a q_value cyI 1914 g_v, kx_a q_number cyI 1914 g_n, kx_3 q_joined j_v j_n g_js g_jl g_je, kx_a j_v cyI 12 g_jv, kx_a j_n cyI 12 g_jn, kx_3 h0 a_v a_n g_vs g_vl g_ve, kx_a a_v cyI 12 g_vv, kx_a a_n cyI 12 g_vn] H → va_D A [kx_4 m_ q_row q_t t_ h0 k0 w_ z_ slots o_9, kx_2 q_t q_row q_joined q_from q_to q_size q_lossOf q_lessBy q_value q_number o_10 g_here, kx_0 q_row q_cell len, kx_a q_cell cyI 160 f, kx_a q_from cyI 319 o_12, kx_a q_to cyI 319 o_13, kx_a q_size cyI 319 g_s, kx_a q_lossOf cyI 319 g_o, kx_a q_lessBy cyI 319 g_e, kx_a q_value cyI 1914 g_v, kx_a q_number cyI 1914 g_n, kx_3 q_joined j_v j_n g_js g_jl g_je, kx_a j_v cyI 12 g_jv, kx_a j_n cyI 12 g_jn, kx_3 h0 a_v a_n g_vs g_vl g_ve, kx_a a_v cyI 12 g_vv, kx_a a_n cyI 12 g_vn] → va_S A s.heap H locs → ∀ (ls : Array Slot), lv_has ls 9 [(8, .int k), (7, .ref q_t), (6, .int found), (5, .int r_7), (0, .ref m_), (1, .int p0), (2, .int p1), (3, .int p2), (4, .int p3)] → W p l e (headSpec wsX4_least ({ frames := 6, cells := 0, slots := 0, locals := 270 })).room s m ([.ref m_, .int p0, .int p1, .int p2, .int p3] : List Value).toArray below meth c H locs 0 0 (MQ below (va_Qi (fun (r : Int32) (u : Int32 × Int32 × Int32 × (Nat → Int32) × (Nat → Int32) × (Nat → Int32) × (Nat → Int32) × (Nat → Int32) × (Nat → Int32) × (Nat → Int32) × Int32 × Int32 × Int32 × (Nat → Int32) × (Nat → Int32) × Int32 × Int32 × Int32 × (Nat → Int32) × (Nat → Int32)) => laidX u.1 slots u.2.2.1 f u.2.2.2.1 u.2.2.2.2.1 u.2.2.2.2.2.1 u.2.2.2.2.2.2.1 u.2.2.2.2.2.2.2.1 u.2.2.2.2.2.2.2.2.1 u.2.2.2.2.2.2.2.2.2.1 u.2.1 len ∧ sixes u.2.2.2.2.2.1) (fun (u : Int32 × Int32 × Int32 × (Nat → Int32) × (Nat → Int32) × (Nat → Int32) × (Nat → Int32) × (Nat → Int32) × (Nat → Int32) × (Nat → Int32) × Int32 × Int32 × Int32 × (Nat → Int32) × (Nat → Int32) × Int32 × Int32 × Int32 × (Nat → Int32) × (Nat → Int32)) (t : State) => va_P (dC, dI) vwCl [kx_4 m_ q_row q_t t_ h0 k0 w_ z_ slots u.1, kx_2 q_t q_row q_joined q_from q_to q_size q_lossOf q_lessBy q_value q_number u.2.1 u.2.2.1, kx_0 q_row q_cell len, kx_a q_cell cyI 160 f, kx_a q_from cyI 319 u.2.2.2.1, kx_a q_to cyI 319 u.2.2.2.2.1, kx_a q_size cyI 319 u.2.2.2.2.2.1, kx_a q_lossOf cyI 319 u.2.2.2.2.2.2.1, kx_a q_lessBy cyI 319 u.2.2.2.2.2.2.2.1, kx_a q_value cyI 1914 u.2.2.2.2.2.2.2.2.1, kx_a q_number cyI 1914 u.2.2.2.2.2.2.2.2.2.1, kx_3 q_joined j_v j_n u.2.2.2.2.2.2.2.2.2.2.1 u.2.2.2.2.2.2.2.2.2.2.2.1 u.2.2.2.2.2.2.2.2.2.2.2.2.1, kx_a j_v cyI 12 u.2.2.2.2.2.2.2.2.2.2.2.2.2.1, kx_a j_n cyI 12 u.2.2.2.2.2.2.2.2.2.2.2.2.2.2.1, kx_3 h0 a_v a_n u.2.2.2.2.2.2.2.2.2.2.2.2.2.2.2.1 u.2.2.2.2.2.2.2.2.2.2.2.2.2.2.2.2.1 u.2.2.2.2.2.2.2.2.2.2.2.2.2.2.2.2.2.1, kx_a a_v cyI 12 u.2.2.2.2.2.2.2.2.2.2.2.2.2.2.2.2.2.2.1, kx_a a_n cyI 12 u.2.2.2.2.2.2.2.2.2.2.2.2.2.2.2.2.2.2.2] t.heap ∧ va_K (dC, dI) vwCl [(cyI, .int)] t ∧ va_D A [kx_4 m_ q_row q_t t_ h0 k0 w_ z_ slots u.1, kx_2 q_t q_row q_joined q_from q_to q_size q_lossOf q_lessBy q_value q_number u.2.1 u.2.2.1, kx_0 q_row q_cell len, kx_a q_cell cyI 160 f, kx_a q_from cyI 319 u.2.2.2.1, kx_a q_to cyI 319 u.2.2.2.2.1, kx_a q_size cyI 319 u.2.2.2.2.2.1, kx_a q_lossOf cyI 319 u.2.2.2.2.2.2.1, kx_a q_lessBy cyI 319 u.2.2.2.2.2.2.2.1, kx_a q_value cyI 1914 u.2.2.2.2.2.2.2.2.1, kx_a q_number cyI 1914 u.2.2.2.2.2.2.2.2.2.1, kx_3 q_joined j_v j_n u.2.2.2.2.2.2.2.2.2.2.1 u.2.2.2.2.2.2.2.2.2.2.2.1 u.2.2.2.2.2.2.2.2.2.2.2.2.1, kx_a j_v cyI 12 u.2.2.2.2.2.2.2.2.2.2.2.2.2.1, kx_a j_n cyI 12 u.2.2.2.2.2.2.2.2.2.2.2.2.2.2.1, kx_3 h0 a_v a_n u.2.2.2.2.2.2.2.2.2.2.2.2.2.2.2.1 u.2.2.2.2.2.2.2.2.2.2.2.2.2.2.2.2.1 u.2.2.2.2.2.2.2.2.2.2.2.2.2.2.2.2.2.1, kx_a a_v cyI 12 u.2.2.2.2.2.2.2.2.2.2.2.2.2.2.2.2.2.2.1, kx_a a_n cyI 12 u.2.2.2.2.2.2.2.2.2.2.2.2.2.2.2.2.2.2.2]) A) ([.ref m_, .int p0, .int p1, .int p2, .int p3] : List Value).toArray s 0 0 A) (F0 m 55 ls []) := by
              intro n
              induction n with
              | zero => intro found k g_here g_s g_o g_e g_v g_n g_js g_jl g_je g_jv g_jn g_vs g_vl g_ve g_vv g_vn LP1_h0 LP1_h1 LP1_h2 hn; exact absurd hn (Nat.not_lt_zero _)
              | succ n ih1 =>
                intro found k g_here g_s g_o g_e g_v g_n g_js g_jl g_je g_jv g_jn g_vs g_vl g_ve g_vv g_vn LP1_h0 LP1_h1 LP1_h2 hn1 H locs hP hD hS ls hl
                refine lv_iload hx hb dX4_least_55 (lv_at hl 0 rfl) ?_
                refine lv_bipush (v := 6) hx hb dX4_least_57 (by decide) ?_
                refine lv_icmp_gt (tgt := 104) hx hb dX4_least_59 (by decide) (fun c_24 => ?_) (fun c_24 => ?_)
                · have i_24 : 6 < k.toInt := kc_lt c_24
                  refine lv_aload hx hb dX4_least_104 (lv_at hl 1 rfl) ?_
                  refine lv_aload_n hx hb dX4_least_106 rfl (lv_at hl 4 rfl) ?_
                  refine va_get (D := (dC, dI)) (ci := 4) (v := .int slots) (C := RX4) (T := TX4) (N := 9) hx hb hts hi_4 hown hK hP 0 rfl rfl 7 (by decide) hf_49 (fun _ h9 => h9) rfl dX4_least_107 ?_
                  refine va_put (D := (dC, dI)) (ci := 2) (v := .int slots) (ty := .int) (C := RX2) (T := TX2) (N := 11) hx hb hts hi_2 tyX2 tyX2_ok nmX2 hown hK hP hD hS 1 rfl rfl 10 (by decide) hf_204 (fun _ h9 => h9) rfl (by decide +kernel) rfl rfl (Nat.le_of_ble_eq_true rfl) dX4_least_110 (fun H locs hP hD hS => ?_)
                  obtain ⟨hP, hD⟩ := kx_re (w2 := [kx_4 m_ q_row q_t t_ h0 k0 w_ z_ slots o_9, kx_2 q_t q_row q_joined q_from q_to q_size q_lossOf q_lessBy q_value q_number o_10 slots, kx_0 q_row q_cell len, kx_a q_cell cyI 160 f, kx_a q_from cyI 319 o_12, kx_a q_to cyI 319 o_13, kx_a q_size cyI 319 g_s, kx_a q_lossOf cyI 319 g_o, kx_a q_lessBy cyI 319 g_e, kx_a q_value cyI 1914 g_v, kx_a q_number cyI 1914 g_n, kx_3 q_joined j_v j_n g_js g_jl g_je, kx_a j_v cyI 12 g_jv, kx_a j_n cyI 12 g_jn, kx_3 h0 a_v a_n g_vs g_vl g_ve, kx_a a_v cyI 12 g_vv, kx_a a_n cyI 12 g_vn]) hP hD rfl
                  refine lv_aload hx hb dX4_least_113 (lv_at hl 1 rfl) ?_
                  refine lv_iload_n hx hb dX4_least_115 rfl (lv_at hl 5 rfl) ?_
                  refine lv_iload_n hx hb dX4_least_116 rfl (lv_at hl 6 rfl) ?_
                  obtain ⟨hPc, hDc, hFc, hCc⟩ := kx_preM (wc := [kx_2 q_t q_row q_joined q_from q_to q_size q_lossOf q_lessBy q_value q_number o_10 slots, kx_0 q_row q_cell len, kx_a q_cell cyI 160 f, kx_a q_from cyI 319 o_12, kx_a q_to cyI 319 o_13, kx_a q_size cyI 319 g_s, kx_a q_lossOf cyI 319 g_o, kx_a q_lessBy cyI 319 g_e, kx_a q_value cyI 1914 g_v, kx_a q_number cyI 1914 g_n, kx_3 q_joined j_v j_n g_js g_jl g_je, kx_a j_v cyI 12 g_jv, kx_a j_n cyI 12 g_jn]) hP hD hS hA [false, true, true, true, true, true, true, true, true, true, true, true, true, true, false, false, false] rfl
                  have hKc := hK
                  refine va_calli (va_runV (As := [.int p0, .int p1]) (rest := []) ⟨hx, hb, hml, hown, hts⟩ (kx_un (c_X2_renew_x l dC dI q_t q_row q_joined q_from q_to q_size q_lossOf q_lessBy q_value q_number o_10 slots q_cell cyI len f o_12 o_13 g_s g_o g_v g_n g_e j_v j_n g_js g_jl g_je g_jv g_jn p0 p1 H.size w_8.2.2.2.2.1 w_8.2.2.2.2.2.1 a1 LP1_h1 w_8.2.2.2.2.2.2 sl0 sl1 w_8.2.2.2.1.2.2.2.2.1 (mj_ok_keep w_8.2.2.2.1.2.2.2.2.2.2 w_8.2.2.2.2.2.2 LP1_h2))) (cwV 2 hts gX4_least_X2_renew rfl rfl rfl (by decide +kernel) ⟨Nat.le_of_ble_eq_true rfl, Nat.le_of_ble_eq_true rfl⟩) ⟨fun a U g mk q => by obtain ⟨q0, q1, qP, qK, qD⟩ := q; exact ⟨q0, q1, qP, va_K.moved (u := U) (U := U.calling g mk a) (Vm.Alike.refl U.vm) qK, qD⟩, kx_rc2 hKc hPc (q0 := 0) rfl, fun U hU hW => ⟨rfl, by rw [hU], by rw [hU]; exact hPc, va_K.moved hW.alike hKc, hDc.weaken (fun _ _ _ _ => trivial)⟩⟩ rfl rfl hl.1 rfl (lv_room (Nat.le_of_ble_eq_true rfl)) dX4_least_117 ⟨Nat.le_of_ble_eq_true rfl, Nat.le_of_ble_eq_true rfl⟩) hS (fun q _ h => hFc q h) hFc (fun r_25 u t H1 locs ht hvm w_25 hB hz1 hk1 hS => ?_)
                  obtain ⟨o_26, o_27, o_28, o_29, o_30, o_31, o_32, o_33, o_34, o_35⟩ := u
                  dsimp only at w_25 hB
                  obtain ⟨hP1, hK1, hD1⟩ := hB
                  rw [ht] at hP1
                  have hK1 := va_K.moved hvm.symm hK1
                  obtain ⟨hP, hD⟩ := kx_joinM (w2 := [kx_4 m_ q_row q_t t_ h0 k0 w_ z_ slots o_9, kx_2 q_t q_row q_joined q_from q_to q_size q_lossOf q_lessBy q_value q_number o_10 slots, kx_0 q_row q_cell len, kx_a q_cell cyI 160 f, kx_a q_from cyI 319 o_12, kx_a q_to cyI 319 o_13, kx_a q_size cyI 319 o_26, kx_a q_lossOf cyI 319 o_27, kx_a q_lessBy cyI 319 o_28, kx_a q_value cyI 1914 o_29, kx_a q_number cyI 1914 o_30, kx_3 q_joined j_v j_n o_31 o_32 o_33, kx_a j_v cyI 12 o_34, kx_a j_n cyI 12 o_35, kx_3 h0 a_v a_n g_vs g_vl g_ve, kx_a a_v cyI 12 g_vv, kx_a a_n cyI 12 g_vn]) hP hD hP1 hD1 hk1 hFc [false, true, true, true, true, true, true, true, true, true, true, true, true, true, false, false, false] hCc rfl
                  clear hP1 hD1 hK1 hk1 hz1 hFc hDc hPc hKc hCc
                  generalize H1 = H at hP hS ⊢
                  have w_25 : sixes o_26 ∧ ∀ k : Nat, (k : Int) < o_10.toInt → mj_ok slots.toNatClampNeg f o_12 o_13 o_26 o_27 o_28 o_29 o_30 k := w_25
                  refine lv_pop hx hb dX4_least_120 rfl ?_
                  refine lv_iload hx hb dX4_least_121 (lv_at hl 2 rfl) ?_
                  have hP9 := hP
                  have hD9 := hD
                  have hK9 := hK
                  exact W.iret (v := found) hx hb hr (hlocks := hlocks) (fun t ht hW => ⟨⟨found, (o_9, o_10, slots, o_12, o_13, o_26, o_27, o_28, o_29, o_30, o_31, o_32, o_33, o_34, o_35, g_vs, g_vl, g_ve, g_vv, g_vn), rfl, ⟨(fun _ => ⟨rfl, mj_C_new w_8.2.2.2.1 w_25.2⟩), w_25.1⟩, by rw [ht]; exact hP9, va_K.moved hW.alike hK9, hD9⟩, hS.F ht⟩) hS.2.2 dX4_least_123
                · have i_24 : k.toInt ≤ 6 := kc_nlt c_24
                  refine lv_iload hx hb dX4_least_62 (lv_at hl 2 rfl) ?_
                  refine lv_bipush (v := (-2)) hx hb dX4_least_64 (by decide) ?_
                  refine lv_icmp_ne (tgt := 104) hx hb dX4_least_66 (by decide) (fun c_36 => ?_) (fun c_36 => ?_)
                  · have i_36 : ¬ found.toInt = (-2) := kc_ne c_36
                    refine lv_aload hx hb dX4_least_104 (lv_at hl 1 rfl) ?_
                    refine lv_aload_n hx hb dX4_least_106 rfl (lv_at hl 4 rfl) ?_
                    refine va_get (D := (dC, dI)) (ci := 4) (v := .int slots) (C := RX4) (T := TX4) (N := 9) hx hb hts hi_4 hown hK hP 0 rfl rfl 7 (by decide) hf_49 (fun _ h9 => h9) rfl dX4_least_107 ?_
                    refine va_put (D := (dC, dI)) (ci := 2) (v := .int slots) (ty := .int) (C := RX2) (T := TX2) (N := 11) hx hb hts hi_2 tyX2 tyX2_ok nmX2 hown hK hP hD hS 1 rfl rfl 10 (by decide) hf_204 (fun _ h9 => h9) rfl (by decide +kernel) rfl rfl (Nat.le_of_ble_eq_true rfl) dX4_least_110 (fun H locs hP hD hS => ?_)
                    obtain ⟨hP, hD⟩ := kx_re (w2 := [kx_4 m_ q_row q_t t_ h0 k0 w_ z_ slots o_9, kx_2 q_t q_row q_joined q_from q_to q_size q_lossOf q_lessBy q_value q_number o_10 slots, kx_0 q_row q_cell len, kx_a q_cell cyI 160 f, kx_a q_from cyI 319 o_12, kx_a q_to cyI 319 o_13, kx_a q_size cyI 319 g_s, kx_a q_lossOf cyI 319 g_o, kx_a q_lessBy cyI 319 g_e, kx_a q_value cyI 1914 g_v, kx_a q_number cyI 1914 g_n, kx_3 q_joined j_v j_n g_js g_jl g_je, kx_a j_v cyI 12 g_jv, kx_a j_n cyI 12 g_jn, kx_3 h0 a_v a_n g_vs g_vl g_ve, kx_a a_v cyI 12 g_vv, kx_a a_n cyI 12 g_vn]) hP hD rfl
                    refine lv_aload hx hb dX4_least_113 (lv_at hl 1 rfl) ?_
                    refine lv_iload_n hx hb dX4_least_115 rfl (lv_at hl 5 rfl) ?_
                    refine lv_iload_n hx hb dX4_least_116 rfl (lv_at hl 6 rfl) ?_
                    obtain ⟨hPc, hDc, hFc, hCc⟩ := kx_preM (wc := [kx_2 q_t q_row q_joined q_from q_to q_size q_lossOf q_lessBy q_value q_number o_10 slots, kx_0 q_row q_cell len, kx_a q_cell cyI 160 f, kx_a q_from cyI 319 o_12, kx_a q_to cyI 319 o_13, kx_a q_size cyI 319 g_s, kx_a q_lossOf cyI 319 g_o, kx_a q_lessBy cyI 319 g_e, kx_a q_value cyI 1914 g_v, kx_a q_number cyI 1914 g_n, kx_3 q_joined j_v j_n g_js g_jl g_je, kx_a j_v cyI 12 g_jv, kx_a j_n cyI 12 g_jn]) hP hD hS hA [false, true, true, true, true, true, true, true, true, true, true, true, true, true, false, false, false] rfl
                    have hKc := hK
                    refine va_calli (va_runV (As := [.int p0, .int p1]) (rest := []) ⟨hx, hb, hml, hown, hts⟩ (kx_un (c_X2_renew_x l dC dI q_t q_row q_joined q_from q_to q_size q_lossOf q_lessBy q_value q_number o_10 slots q_cell cyI len f o_12 o_13 g_s g_o g_v g_n g_e j_v j_n g_js g_jl g_je g_jv g_jn p0 p1 H.size w_8.2.2.2.2.1 w_8.2.2.2.2.2.1 a1 LP1_h1 w_8.2.2.2.2.2.2 sl0 sl1 w_8.2.2.2.1.2.2.2.2.1 (mj_ok_keep w_8.2.2.2.1.2.2.2.2.2.2 w_8.2.2.2.2.2.2 LP1_h2))) (cwV 2 hts gX4_least_X2_renew rfl rfl rfl (by decide +kernel) ⟨Nat.le_of_ble_eq_true rfl, Nat.le_of_ble_eq_true rfl⟩) ⟨fun a U g mk q => by obtain ⟨q0, q1, qP, qK, qD⟩ := q; exact ⟨q0, q1, qP, va_K.moved (u := U) (U := U.calling g mk a) (Vm.Alike.refl U.vm) qK, qD⟩, kx_rc2 hKc hPc (q0 := 0) rfl, fun U hU hW => ⟨rfl, by rw [hU], by rw [hU]; exact hPc, va_K.moved hW.alike hKc, hDc.weaken (fun _ _ _ _ => trivial)⟩⟩ rfl rfl hl.1 rfl (lv_room (Nat.le_of_ble_eq_true rfl)) dX4_least_117 ⟨Nat.le_of_ble_eq_true rfl, Nat.le_of_ble_eq_true rfl⟩) hS (fun q _ h => hFc q h) hFc (fun r_37 u t H1 locs ht hvm w_37 hB hz1 hk1 hS => ?_)
                    obtain ⟨o_38, o_39, o_40, o_41, o_42, o_43, o_44, o_45, o_46, o_47⟩ := u
                    dsimp only at w_37 hB
                    obtain ⟨hP1, hK1, hD1⟩ := hB
                    rw [ht] at hP1
                    have hK1 := va_K.moved hvm.symm hK1
                    obtain ⟨hP, hD⟩ := kx_joinM (w2 := [kx_4 m_ q_row q_t t_ h0 k0 w_ z_ slots o_9, kx_2 q_t q_row q_joined q_from q_to q_size q_lossOf q_lessBy q_value q_number o_10 slots, kx_0 q_row q_cell len, kx_a q_cell cyI 160 f, kx_a q_from cyI 319 o_12, kx_a q_to cyI 319 o_13, kx_a q_size cyI 319 o_38, kx_a q_lossOf cyI 319 o_39, kx_a q_lessBy cyI 319 o_40, kx_a q_value cyI 1914 o_41, kx_a q_number cyI 1914 o_42, kx_3 q_joined j_v j_n o_43 o_44 o_45, kx_a j_v cyI 12 o_46, kx_a j_n cyI 12 o_47, kx_3 h0 a_v a_n g_vs g_vl g_ve, kx_a a_v cyI 12 g_vv, kx_a a_n cyI 12 g_vn]) hP hD hP1 hD1 hk1 hFc [false, true, true, true, true, true, true, true, true, true, true, true, true, true, false, false, false] hCc rfl
                    clear hP1 hD1 hK1 hk1 hz1 hFc hDc hPc hKc hCc
                    generalize H1 = H at hP hS ⊢
                    have w_37 : sixes o_38 ∧ ∀ k : Nat, (k : Int) < o_10.toInt → mj_ok slots.toNatClampNeg f o_12 o_13 o_38 o_39 o_40 o_41 o_42 k := w_37
                    refine lv_pop hx hb dX4_least_120 rfl ?_
                    refine lv_iload hx hb dX4_least_121 (lv_at hl 2 rfl) ?_
                    have hP9 := hP
                    have hD9 := hD
                    have hK9 := hK
                    exact W.iret (v := found) hx hb hr (hlocks := hlocks) (fun t ht hW => ⟨⟨found, (o_9, o_10, slots, o_12, o_13, o_38, o_39, o_40, o_41, o_42, o_43, o_44, o_45, o_46, o_47, g_vs, g_vl, g_ve, g_vv, g_vn), rfl, ⟨(fun _ => ⟨rfl, mj_C_new w_8.2.2.2.1 w_37.2⟩), w_37.1⟩, by rw [ht]; exact hP9, va_K.moved hW.alike hK9, hD9⟩, hS.F ht⟩) hS.2.2 dX4_least_123
                  · have i_36 : found.toInt = (-2) := kc_eq c_36
                    refine lv_iload hx hb dX4_least_69 (lv_at hl 0 rfl) ?_
                    refine lv_iload hx hb dX4_least_71 (lv_at hl 3 rfl) ?_
                    refine lv_icmp_lt (tgt := 98) hx hb dX4_least_73 (by decide) (fun c_48 => ?_) (fun c_48 => ?_)
                    · have i_48 : k.toInt < r_7.toInt := kc_lt c_48
                      obtain ⟨x_49, ex_49⟩ : ∃ y : Int32, y = k + 1 := ⟨_, rfl⟩
                      have i_49 : x_49.toInt = k.toInt + 1 := ki_add ex_49 rfl rfl (om_40 LP1_h0) (om_203 i_24)
                      refine lv_iinc (v := x_49) (lv' := [(8, .int x_49), (7, .ref q_t), (6, .int found), (5, .int r_7), (0, .ref m_), (1, .int p0), (2, .int p1), (3, .int p2), (4, .int p3)]) hx hb dX4_least_98 hl (k := 0) rfl (by rw [ex_49]; rfl) (by decide) rfl (fun ls hl => ?_)
                      refine lv_goto (tgt := 55) hx hb dX4_least_101 (by decide) ?_
                      exact ih1 found x_49 g_here g_s g_o g_e g_v g_n g_js g_jl g_je g_jv g_jn g_vs g_vl g_ve g_vv g_vn (om_41 LP1_h0 i_49) LP1_h1 LP1_h2 (om_mu hn1 (om_204 i_49) (om_205 i_24)) _ _ hP hD hS ls (lv_sub hl [0, 1, 2, 3, 4, 5, 6, 7, 8] rfl)
                    · have i_48 : r_7.toInt ≤ k.toInt := kc_nlt c_48
                      refine lv_aload_n hx hb dX4_least_76 rfl (lv_at hl 4 rfl) ?_
                      refine lv_aload hx hb dX4_least_77 (lv_at hl 1 rfl) ?_
                      refine lv_iload hx hb dX4_least_79 (lv_at hl 0 rfl) ?_
                      refine lv_iload_n hx hb dX4_least_81 rfl (lv_at hl 5 rfl) ?_
                      refine lv_iload_n hx hb dX4_least_82 rfl (lv_at hl 6 rfl) ?_
                      refine lv_iload_n hx hb dX4_least_83 rfl (lv_at hl 7 rfl) ?_
                      refine lv_iload hx hb dX4_least_84 (lv_at hl 8 rfl) ?_
                      have hPc := hP
                      have hKc := hK
                      have hDc := hD
                      have hFc := kx_free hD hS hA
                      refine va_calli (va_runV (As := [.ref q_t, .int k, .int p0, .int p1, .int p2, .int p3]) (rest := []) ⟨hx, hb, hml, hown, hts⟩ (kx_un (c_X4_heavyVotesBy_s l dC dI m_ q_row q_t t_ h0 k0 w_ z_ slots o_9 q_joined q_from q_to q_size q_lossOf q_lessBy q_value q_number o_10 g_here q_cell cyI len f o_12 o_13 g_s g_o g_v g_n g_e j_v j_n g_js g_jl g_je g_jv g_jn a_v a_n g_vs g_vl g_ve g_vv g_vn k p0 p1 p2 p3 H.size w_8.2.2.2.2.1 w_8.2.2.2.2.2.1 a1 LP1_h1 w_8.2.2.2.2.2.2 (om_10 w_1.1) (om_167 a1 w_1.2.2))) (cwV 6 hts gX4_least_X4_heavyVotesBy rfl rfl rfl (by decide +kernel) ⟨Nat.le_of_ble_eq_true rfl, Nat.le_of_ble_eq_true rfl⟩) ⟨fun a U g mk q => by obtain ⟨q0, q1, qP, qK, qD⟩ := q; exact ⟨q0, q1, qP, va_K.moved (u := U) (U := U.calling g mk a) (Vm.Alike.refl U.vm) qK, qD⟩, kx_rc4 hKc hPc (q0 := 0) rfl, fun U hU hW => ⟨rfl, by rw [hU], by rw [hU]; exact hPc, va_K.moved hW.alike hKc, hDc.weaken (fun _ _ _ _ => trivial)⟩⟩ rfl rfl hl.1 rfl (lv_room (Nat.le_of_ble_eq_true rfl)) dX4_least_86 ⟨Nat.le_of_ble_eq_true rfl, Nat.le_of_ble_eq_true rfl⟩) hS (fun q _ h => hFc q h) hFc (fun r_50 u t H1 locs ht hvm w_50 hB hz1 hk1 hS => ?_)
                      obtain ⟨o_51, o_52, o_53, o_54, o_55, o_56, o_57, o_58, o_59, o_60, o_61, o_62, o_63, o_64, o_65⟩ := u
                      dsimp only at w_50 hB
                      obtain ⟨hP1, hK1, hD1⟩ := hB
                      rw [ht] at hP1
                      have hK1 := va_K.moved hvm.symm hK1
                      have hD := hD1.weaken (fun _ q _ h => hFc q.1 h)
                      have hP := hP1
                      clear hP1 hD1 hK1 hk1 hz1 hFc hDc hPc hKc
                      generalize H1 = H at hP hS ⊢
                      have w_50 : sixes o_51 ∧ ∀ k : Nat, (k : Int) < o_10.toInt → ¬ mj_hit o_12 o_13 p0.toInt p1.toInt k → mj_e1 g_s g_o g_e g_v g_n o_51 o_52 o_53 o_54 o_55 k := w_50
                      refine lv_iload hx hb dX4_least_89 (lv_at hl 3 rfl) ?_
                      refine lv_icmp_ne (tgt := 98) hx hb dX4_least_91 (by decide) (fun c_66 => ?_) (fun c_66 => ?_)
                      · have i_66 : ¬ r_50.toInt = r_7.toInt := kc_ne c_66
                        obtain ⟨x_67, ex_67⟩ : ∃ y : Int32, y = k + 1 := ⟨_, rfl⟩
                        have i_67 : x_67.toInt = k.toInt + 1 := ki_add ex_67 rfl rfl (om_40 LP1_h0) (om_203 i_24)
                        refine lv_iinc (v := x_67) (lv' := [(8, .int x_67), (7, .ref q_t), (6, .int found), (5, .int r_7), (0, .ref m_), (1, .int p0), (2, .int p1), (3, .int p2), (4, .int p3)]) hx hb dX4_least_98 hl (k := 0) rfl (by rw [ex_67]; rfl) (by decide) rfl (fun ls hl => ?_)
                        refine lv_goto (tgt := 55) hx hb dX4_least_101 (by decide) ?_
                        exact ih1 found x_67 k o_51 o_52 o_53 o_54 o_55 o_56 o_57 o_58 o_59 o_60 o_61 o_62 o_63 o_64 o_65 (om_41 LP1_h0 i_67) w_50.1 (fun k h1 h2 => by obtain ⟨x1, x2, x3, x4⟩ := LP1_h2 k h1 h2; obtain ⟨y1, y2, y3, y4⟩ := w_50.2 k h1 h2; exact ⟨y1.trans x1, y2.trans x2, y3.trans x3, fun q z1 z2 => by have a := y4 q z1 z2; have b := x4 q z1 z2; exact ⟨a.1.trans b.1, a.2.trans b.2⟩⟩) (om_mu hn1 (om_204 i_67) (om_205 i_24)) _ _ hP hD hS ls (lv_sub hl [0, 1, 2, 3, 4, 5, 6, 7, 8] rfl)
                      · have i_66 : r_50.toInt = r_7.toInt := kc_eq c_66
                        refine lv_iload hx hb dX4_least_94 (lv_at hl 0 rfl) ?_
                        refine lv_istore (lv' := [(6, .int k), (8, .int k), (7, .ref q_t), (5, .int r_7), (0, .ref m_), (1, .int p0), (2, .int p1), (3, .int p2), (4, .int p3)]) hx hb dX4_least_96 hl (by decide) rfl (fun ls hl => ?_)
                        obtain ⟨x_68, ex_68⟩ : ∃ y : Int32, y = k + 1 := ⟨_, rfl⟩
                        have i_68 : x_68.toInt = k.toInt + 1 := ki_add ex_68 rfl rfl (om_40 LP1_h0) (om_203 i_24)
                        refine lv_iinc (v := x_68) (lv' := [(8, .int x_68), (6, .int k), (7, .ref q_t), (5, .int r_7), (0, .ref m_), (1, .int p0), (2, .int p1), (3, .int p2), (4, .int p3)]) hx hb dX4_least_98 hl (k := 1) rfl (by rw [ex_68]; rfl) (by decide) rfl (fun ls hl => ?_)
                        refine lv_goto (tgt := 55) hx hb dX4_least_101 (by decide) ?_
                        exact ih1 k x_68 k o_51 o_52 o_53 o_54 o_55 o_56 o_57 o_58 o_59 o_60 o_61 o_62 o_63 o_64 o_65 (om_41 LP1_h0 i_68) w_50.1 (fun k h1 h2 => by obtain ⟨x1, x2, x3, x4⟩ := LP1_h2 k h1 h2; obtain ⟨y1, y2, y3, y4⟩ := w_50.2 k h1 h2; exact ⟨y1.trans x1, y2.trans x2, y3.trans x3, fun q z1 z2 => by have a := y4 q z1 z2; have b := x4 q z1 z2; exact ⟨a.1.trans b.1, a.2.trans b.2⟩⟩) (om_mu hn1 (om_204 i_68) (om_205 i_24)) _ _ hP hD hS ls (lv_sub hl [0, 2, 1, 3, 4, 5, 6, 7, 8] rfl)
            have k_69 : ((-2) : Int32).toInt = -2 := rfl
            have k_70 : (1 : Int32).toInt = 1 := rfl
            exact LP1 ((7 - 1 : Int).toNat + 1) (-2) 1 o_11 o_14 o_15 o_16 o_17 o_18 o_19 o_20 o_21 o_22 o_23 vs lo le fv fn om_52 w_8.2.2.1 (fun k _ _ => ⟨rfl, rfl, rfl, fun q _ _ => ⟨rfl, rfl⟩⟩) (Nat.lt_succ_self _) _ _ hP hD hS ls (lv_sub hl [0, 1, 2, 3, 4, 5, 6, 7, 8] rfl)
          · exact absurd c_6 (by decide)
        · have w_5 : (p2.toInt < 1 ∨ p3.toInt < p2.toInt ∨ 999 < p3.toInt) := w_5
          refine lv_if_ne (tgt := 31) hx hb dX4_least_26 (by decide) (fun c_71 => ?_) (fun c_71 => ?_)
          · exact absurd c_71 (by decide)
          · refine lv_iconst (v := (-1)) hx hb dX4_least_29 (by decide) ?_
            have hP9 := hP
            have hD9 := hD
            have hK9 := hK
            exact W.iret (v := (-1)) hx hb hr (hlocks := hlocks) (fun t ht hW => ⟨⟨(-1), (old, nodes, here, ff, ft, fs, fo, fe, uv, un, js, jl, je, jv, jn, vs, lo, le, fv, fn), rfl, ⟨l0, s0⟩, by rw [ht]; exact hP9, va_K.moved hW.alike hK9, hD9⟩, hS.F ht⟩) hS.2.2 dX4_least_30
  · have w_1 : (p0.toInt < 0 ∨ p1.toInt ≤ p0.toInt ∨ len.toInt < p1.toInt) := w_1
    refine lv_if_eq (tgt := 29) hx hb dX4_least_9 (by decide) (fun c_72 => ?_) (fun c_72 => ?_)
    · refine lv_iconst (v := (-1)) hx hb dX4_least_29 (by decide) ?_
      have hP9 := hP
      have hD9 := hD
      have hK9 := hK
      exact W.iret (v := (-1)) hx hb hr (hlocks := hlocks) (fun t ht hW => ⟨⟨(-1), (old, nodes, here, ff, ft, fs, fo, fe, uv, un, js, jl, je, jv, jn, vs, lo, le, fv, fn), rfl, ⟨l0, s0⟩, by rw [ht]; exact hP9, va_K.moved hW.alike hK9, hD9⟩, hS.F ht⟩) hS.2.2 dX4_least_30
    · exact absurd c_72 (by decide)



set_option maxHeartbeats 4000000 in
set_option maxRecDepth 100000 in
theorem c_X4_vote_x (l : Launch) (hl0 : l.stackTraces = false) (dC : Nat → ClassId) (dI : Nat → Nat → Nat) (m_ : Nat) (q_row : Nat) (q_t : Nat) (t_ : Nat) (h0 : Nat) (k0 : Nat) (w_ : Nat) (z_ : Nat) (slots : Int32) (old : Int32) (q_joined : Nat) (q_from : Nat) (q_to : Nat) (q_size : Nat) (q_lossOf : Nat) (q_lessBy : Nat) (q_value : Nat) (q_number : Nat) (nodes : Int32) (here : Int32) (q_cell : Nat) (cyI : ClassId) (len : Int32) (f : Nat → Int32) (ff : Nat → Int32) (ft : Nat → Int32) (fs : Nat → Int32) (fo : Nat → Int32) (uv : Nat → Int32) (un : Nat → Int32) (fe : Nat → Int32) (j_v : Nat) (j_n : Nat) (js : Int32) (jl : Int32) (je : Int32) (jv : Nat → Int32) (jn : Nat → Int32) (a_v : Nat) (a_n : Nat) (vs : Int32) (lo : Int32) (le : Int32) (fv : Nat → Int32) (fn : Nat → Int32) (p0 : Int32) (p1 : Int32) (p2 : Int32) (p3 : Int32) (sz : Nat) (a0 : 0 ≤ len.toInt) (a1 : len.toInt ≤ 160) (s0 : sixes fs) (sl0 : 1 ≤ slots.toInt) (sl1 : slots.toInt ≤ 6) (l0 : laidX old slots here f ff ft fs fo fe uv un nodes len) : vx_Met l yX4_vote wsX4_vote ({ frames := 8, cells := 1, slots := 6, locals := 360 }) (va_Pc [.ref m_, .int p0, .int p1, .int p2, .int p3] (fun U => U.heap.size = sz ∧ va_P (dC, dI) vwCl [kx_4 m_ q_row q_t t_ h0 k0 w_ z_ slots old, kx_2 q_t q_row q_joined q_from q_to q_size q_lossOf q_lessBy q_value q_number nodes here, kx_0 q_row q_cell len, kx_a q_cell cyI 160 f, kx_a q_from cyI 319 ff, kx_a q_to cyI 319 ft, kx_a q_size cyI 319 fs, kx_a q_lossOf cyI 319 fo, kx_a q_lessBy cyI 319 fe, kx_a q_value cyI 1914 uv, kx_a q_number cyI 1914 un, kx_3 q_joined j_v j_n js jl je, kx_a j_v cyI 12 jv, kx_a j_n cyI 12 jn, kx_3 h0 a_v a_n vs lo le, kx_a a_v cyI 12 fv, kx_a a_n cyI 12 fn] U.heap ∧ va_K (dC, dI) vwCl [(cyI, .int)] U ∧ va_D (fun _ => True) [kx_4 m_ q_row q_t t_ h0 k0 w_ z_ slots old, kx_2 q_t q_row q_joined q_from q_to q_size q_lossOf q_lessBy q_value q_number nodes here, kx_0 q_row q_cell len, kx_a q_cell cyI 160 f, kx_a q_from cyI 319 ff, kx_a q_to cyI 319 ft, kx_a q_size cyI 319 fs, kx_a q_lossOf cyI 319 fo, kx_a q_lessBy cyI 319 fe, kx_a q_value cyI 1914 uv, kx_a q_number cyI 1914 un, kx_3 q_joined j_v j_n js jl je, kx_a j_v cyI 12 jv, kx_a j_n cyI 12 jn, kx_3 h0 a_v a_n vs lo le, kx_a a_v cyI 12 fv, kx_a a_n cyI 12 fn] ∧ ki_ThA (va_A [kx_4 m_ q_row q_t t_ h0 k0 w_ z_ slots old, kx_2 q_t q_row q_joined q_from q_to q_size q_lossOf q_lessBy q_value q_number nodes here, kx_0 q_row q_cell len, kx_a q_cell cyI 160 f, kx_a q_from cyI 319 ff, kx_a q_to cyI 319 ft, kx_a q_size cyI 319 fs, kx_a q_lossOf cyI 319 fo, kx_a q_lessBy cyI 319 fe, kx_a q_value cyI 1914 uv, kx_a q_number cyI 1914 un, kx_3 q_joined j_v j_n js jl je, kx_a j_v cyI 12 jv, kx_a j_n cyI 12 jn, kx_3 h0 a_v a_n vs lo le, kx_a a_v cyI 12 fv, kx_a a_n cyI 12 fn] sz) U)) (va_Qi (fun (r : Int32) (u : Int32 × Int32 × Int32 × (Nat → Int32) × (Nat → Int32) × (Nat → Int32) × (Nat → Int32) × (Nat → Int32) × (Nat → Int32) × (Nat → Int32) × Int32 × Int32 × Int32 × (Nat → Int32) × (Nat → Int32) × Int32 × Int32 × Int32 × (Nat → Int32) × (Nat → Int32)) => (0 : Int) ≤ 1 ∧ laidX u.1 slots u.2.2.1 f u.2.2.2.1 u.2.2.2.2.1 u.2.2.2.2.2.1 u.2.2.2.2.2.2.1 u.2.2.2.2.2.2.2.1 u.2.2.2.2.2.2.2.2.1 u.2.2.2.2.2.2.2.2.2.1 u.2.1 len ∧ sixes u.2.2.2.2.2.1) (fun (u : Int32 × Int32 × Int32 × (Nat → Int32) × (Nat → Int32) × (Nat → Int32) × (Nat → Int32) × (Nat → Int32) × (Nat → Int32) × (Nat → Int32) × Int32 × Int32 × Int32 × (Nat → Int32) × (Nat → Int32) × Int32 × Int32 × Int32 × (Nat → Int32) × (Nat → Int32)) (t : State) => va_P (dC, dI) vwCl [kx_4 m_ q_row q_t t_ h0 k0 w_ z_ slots u.1, kx_2 q_t q_row q_joined q_from q_to q_size q_lossOf q_lessBy q_value q_number u.2.1 u.2.2.1, kx_0 q_row q_cell len, kx_a q_cell cyI 160 f, kx_a q_from cyI 319 u.2.2.2.1, kx_a q_to cyI 319 u.2.2.2.2.1, kx_a q_size cyI 319 u.2.2.2.2.2.1, kx_a q_lossOf cyI 319 u.2.2.2.2.2.2.1, kx_a q_lessBy cyI 319 u.2.2.2.2.2.2.2.1, kx_a q_value cyI 1914 u.2.2.2.2.2.2.2.2.1, kx_a q_number cyI 1914 u.2.2.2.2.2.2.2.2.2.1, kx_3 q_joined j_v j_n u.2.2.2.2.2.2.2.2.2.2.1 u.2.2.2.2.2.2.2.2.2.2.2.1 u.2.2.2.2.2.2.2.2.2.2.2.2.1, kx_a j_v cyI 12 u.2.2.2.2.2.2.2.2.2.2.2.2.2.1, kx_a j_n cyI 12 u.2.2.2.2.2.2.2.2.2.2.2.2.2.2.1, kx_3 h0 a_v a_n u.2.2.2.2.2.2.2.2.2.2.2.2.2.2.2.1 u.2.2.2.2.2.2.2.2.2.2.2.2.2.2.2.2.1 u.2.2.2.2.2.2.2.2.2.2.2.2.2.2.2.2.2.1, kx_a a_v cyI 12 u.2.2.2.2.2.2.2.2.2.2.2.2.2.2.2.2.2.2.1, kx_a a_n cyI 12 u.2.2.2.2.2.2.2.2.2.2.2.2.2.2.2.2.2.2.2] t.heap ∧ va_K (dC, dI) vwCl [(cyI, .int)] t ∧ va_D (va_A [kx_4 m_ q_row q_t t_ h0 k0 w_ z_ slots old, kx_2 q_t q_row q_joined q_from q_to q_size q_lossOf q_lessBy q_value q_number nodes here, kx_0 q_row q_cell len, kx_a q_cell cyI 160 f, kx_a q_from cyI 319 ff, kx_a q_to cyI 319 ft, kx_a q_size cyI 319 fs, kx_a q_lossOf cyI 319 fo, kx_a q_lessBy cyI 319 fe, kx_a q_value cyI 1914 uv, kx_a q_number cyI 1914 un, kx_3 q_joined j_v j_n js jl je, kx_a j_v cyI 12 jv, kx_a j_n cyI 12 jn, kx_3 h0 a_v a_n vs lo le, kx_a a_v cyI 12 fv, kx_a a_n cyI 12 fn] sz) [kx_4 m_ q_row q_t t_ h0 k0 w_ z_ slots u.1, kx_2 q_t q_row q_joined q_from q_to q_size q_lossOf q_lessBy q_value q_number u.2.1 u.2.2.1, kx_0 q_row q_cell len, kx_a q_cell cyI 160 f, kx_a q_from cyI 319 u.2.2.2.1, kx_a q_to cyI 319 u.2.2.2.2.1, kx_a q_size cyI 319 u.2.2.2.2.2.1, kx_a q_lossOf cyI 319 u.2.2.2.2.2.2.1, kx_a q_lessBy cyI 319 u.2.2.2.2.2.2.2.1, kx_a q_value cyI 1914 u.2.2.2.2.2.2.2.2.1, kx_a q_number cyI 1914 u.2.2.2.2.2.2.2.2.2.1, kx_3 q_joined j_v j_n u.2.2.2.2.2.2.2.2.2.2.1 u.2.2.2.2.2.2.2.2.2.2.2.1 u.2.2.2.2.2.2.2.2.2.2.2.2.1, kx_a j_v cyI 12 u.2.2.2.2.2.2.2.2.2.2.2.2.2.1, kx_a j_n cyI 12 u.2.2.2.2.2.2.2.2.2.2.2.2.2.2.1, kx_3 h0 a_v a_n u.2.2.2.2.2.2.2.2.2.2.2.2.2.2.2.1 u.2.2.2.2.2.2.2.2.2.2.2.2.2.2.2.2.1 u.2.2.2.2.2.2.2.2.2.2.2.2.2.2.2.2.2.1, kx_a a_v cyI 12 u.2.2.2.2.2.2.2.2.2.2.2.2.2.2.2.2.2.2.1, kx_a a_n cyI 12 u.2.2.2.2.2.2.2.2.2.2.2.2.2.2.2.2.2.2.2]) (va_A [kx_4 m_ q_row q_t t_ h0 k0 w_ z_ slots old, kx_2 q_t q_row q_joined q_from q_to q_size q_lossOf q_lessBy q_value q_number nodes here, kx_0 q_row q_cell len, kx_a q_cell cyI 160 f, kx_a q_from cyI 319 ff, kx_a q_to cyI 319 ft, kx_a q_size cyI 319 fs, kx_a q_lossOf cyI 319 fo, kx_a q_lessBy cyI 319 fe, kx_a q_value cyI 1914 uv, kx_a q_number cyI 1914 un, kx_3 q_joined j_v j_n js jl je, kx_a j_v cyI 12 jv, kx_a j_n cyI 12 jn, kx_3 h0 a_v a_n vs lo le, kx_a a_v cyI 12 fv, kx_a a_n cyI 12 fn] sz)) (vx_X (fun u : Int32 × Int32 × Int32 × (Nat → Int32) × (Nat → Int32) × (Nat → Int32) × (Nat → Int32) × (Nat → Int32) × (Nat → Int32) × (Nat → Int32) × Int32 × Int32 × Int32 × (Nat → Int32) × (Nat → Int32) × Int32 × Int32 × Int32 × (Nat → Int32) × (Nat → Int32) => (0 : Int) ≤ 1 ∧ laidX u.1 slots u.2.2.1 f u.2.2.2.1 u.2.2.2.2.1 u.2.2.2.2.2.1 u.2.2.2.2.2.2.1 u.2.2.2.2.2.2.2.1 u.2.2.2.2.2.2.2.2.1 u.2.2.2.2.2.2.2.2.2.1 u.2.1 len ∧ sixes u.2.2.2.2.2.1) (fun (E : String) (u : Int32 × Int32 × Int32 × (Nat → Int32) × (Nat → Int32) × (Nat → Int32) × (Nat → Int32) × (Nat → Int32) × (Nat → Int32) × (Nat → Int32) × Int32 × Int32 × Int32 × (Nat → Int32) × (Nat → Int32) × Int32 × Int32 × Int32 × (Nat → Int32) × (Nat → Int32)) (t : State) => E = EXN ∧ va_P (dC, dI) vwCl [kx_4 m_ q_row q_t t_ h0 k0 w_ z_ slots u.1, kx_2 q_t q_row q_joined q_from q_to q_size q_lossOf q_lessBy q_value q_number u.2.1 u.2.2.1, kx_0 q_row q_cell len, kx_a q_cell cyI 160 f, kx_a q_from cyI 319 u.2.2.2.1, kx_a q_to cyI 319 u.2.2.2.2.1, kx_a q_size cyI 319 u.2.2.2.2.2.1, kx_a q_lossOf cyI 319 u.2.2.2.2.2.2.1, kx_a q_lessBy cyI 319 u.2.2.2.2.2.2.2.1, kx_a q_value cyI 1914 u.2.2.2.2.2.2.2.2.1, kx_a q_number cyI 1914 u.2.2.2.2.2.2.2.2.2.1, kx_3 q_joined j_v j_n u.2.2.2.2.2.2.2.2.2.2.1 u.2.2.2.2.2.2.2.2.2.2.2.1 u.2.2.2.2.2.2.2.2.2.2.2.2.1, kx_a j_v cyI 12 u.2.2.2.2.2.2.2.2.2.2.2.2.2.1, kx_a j_n cyI 12 u.2.2.2.2.2.2.2.2.2.2.2.2.2.2.1, kx_3 h0 a_v a_n u.2.2.2.2.2.2.2.2.2.2.2.2.2.2.2.1 u.2.2.2.2.2.2.2.2.2.2.2.2.2.2.2.2.1 u.2.2.2.2.2.2.2.2.2.2.2.2.2.2.2.2.2.1, kx_a a_v cyI 12 u.2.2.2.2.2.2.2.2.2.2.2.2.2.2.2.2.2.2.1, kx_a a_n cyI 12 u.2.2.2.2.2.2.2.2.2.2.2.2.2.2.2.2.2.2.2] t.heap ∧ va_K (dC, dI) vwCl [(cyI, .int)] t ∧ va_D (va_A [kx_4 m_ q_row q_t t_ h0 k0 w_ z_ slots old, kx_2 q_t q_row q_joined q_from q_to q_size q_lossOf q_lessBy q_value q_number nodes here, kx_0 q_row q_cell len, kx_a q_cell cyI 160 f, kx_a q_from cyI 319 ff, kx_a q_to cyI 319 ft, kx_a q_size cyI 319 fs, kx_a q_lossOf cyI 319 fo, kx_a q_lessBy cyI 319 fe, kx_a q_value cyI 1914 uv, kx_a q_number cyI 1914 un, kx_3 q_joined j_v j_n js jl je, kx_a j_v cyI 12 jv, kx_a j_n cyI 12 jn, kx_3 h0 a_v a_n vs lo le, kx_a a_v cyI 12 fv, kx_a a_n cyI 12 fn] sz) [kx_4 m_ q_row q_t t_ h0 k0 w_ z_ slots u.1, kx_2 q_t q_row q_joined q_from q_to q_size q_lossOf q_lessBy q_value q_number u.2.1 u.2.2.1, kx_0 q_row q_cell len, kx_a q_cell cyI 160 f, kx_a q_from cyI 319 u.2.2.2.1, kx_a q_to cyI 319 u.2.2.2.2.1, kx_a q_size cyI 319 u.2.2.2.2.2.1, kx_a q_lossOf cyI 319 u.2.2.2.2.2.2.1, kx_a q_lessBy cyI 319 u.2.2.2.2.2.2.2.1, kx_a q_value cyI 1914 u.2.2.2.2.2.2.2.2.1, kx_a q_number cyI 1914 u.2.2.2.2.2.2.2.2.2.1, kx_3 q_joined j_v j_n u.2.2.2.2.2.2.2.2.2.2.1 u.2.2.2.2.2.2.2.2.2.2.2.1 u.2.2.2.2.2.2.2.2.2.2.2.2.1, kx_a j_v cyI 12 u.2.2.2.2.2.2.2.2.2.2.2.2.2.1, kx_a j_n cyI 12 u.2.2.2.2.2.2.2.2.2.2.2.2.2.2.1, kx_3 h0 a_v a_n u.2.2.2.2.2.2.2.2.2.2.2.2.2.2.2.1 u.2.2.2.2.2.2.2.2.2.2.2.2.2.2.2.2.1 u.2.2.2.2.2.2.2.2.2.2.2.2.2.2.2.2.2.1, kx_a a_v cyI 12 u.2.2.2.2.2.2.2.2.2.2.2.2.2.2.2.2.2.2.1, kx_a a_n cyI 12 u.2.2.2.2.2.2.2.2.2.2.2.2.2.2.2.2.2.2.2]) (va_A [kx_4 m_ q_row q_t t_ h0 k0 w_ z_ slots old, kx_2 q_t q_row q_joined q_from q_to q_size q_lossOf q_lessBy q_value q_number nodes here, kx_0 q_row q_cell len, kx_a q_cell cyI 160 f, kx_a q_from cyI 319 ff, kx_a q_to cyI 319 ft, kx_a q_size cyI 319 fs, kx_a q_lossOf cyI 319 fo, kx_a q_lessBy cyI 319 fe, kx_a q_value cyI 1914 uv, kx_a q_number cyI 1914 un, kx_3 q_joined j_v j_n js jl je, kx_a j_v cyI 12 jv, kx_a j_n cyI 12 jn, kx_3 h0 a_v a_n vs lo le, kx_a a_v cyI 12 fv, kx_a a_n cyI 12 fn] sz)) 1 6 (va_A [kx_4 m_ q_row q_t t_ h0 k0 w_ z_ slots old, kx_2 q_t q_row q_joined q_from q_to q_size q_lossOf q_lessBy q_value q_number nodes here, kx_0 q_row q_cell len, kx_a q_cell cyI 160 f, kx_a q_from cyI 319 ff, kx_a q_to cyI 319 ft, kx_a q_size cyI 319 fs, kx_a q_lossOf cyI 319 fo, kx_a q_lessBy cyI 319 fe, kx_a q_value cyI 1914 uv, kx_a q_number cyI 1914 un, kx_3 q_joined j_v j_n js jl je, kx_a j_v cyI 12 jv, kx_a j_n cyI 12 jn, kx_3 h0 a_v a_n vs lo le, kx_a a_v cyI 12 fv, kx_a a_n cyI 12 fn] sz) := by
  refine vx_ofW (cc := cX4_vote) (maxL := 7) (ret := (some .int)) (by decide) rfl ?_
  intro p e s m args below meth c s₁ B hml htab hv
  obtain ⟨rfl, hsz, hP, hK, hD0, hth⟩ := hv
  have hx := B.exec
  have hb := B.bytes
  have hr := B.returns
  have hts := atoms_spec (ws := wsX4_vote) B.pre
  have hown : s.vm.findClass RX4 = some m.cls := findClass_of_methodNamed B.named
  have hlocks := B.notSynchronized
  have hat : ∀ w ∈ vx_at0 RX4 109 EXN EXC, w.before _ s = true := vx_hat (B := EXD) (fun w h => hts w (List.mem_cons_of_mem _ (List.mem_append_right _ h))) ki_bad (ki_ex hth)
  subst hsz
  have hD := hD0.self (sz := s.heap.size)
  generalize hAe : va_A [kx_4 m_ q_row q_t t_ h0 k0 w_ z_ slots old, kx_2 q_t q_row q_joined q_from q_to q_size q_lossOf q_lessBy q_value q_number nodes here, kx_0 q_row q_cell len, kx_a q_cell cyI 160 f, kx_a q_from cyI 319 ff, kx_a q_to cyI 319 ft, kx_a q_size cyI 319 fs, kx_a q_lossOf cyI 319 fo, kx_a q_lessBy cyI 319 fe, kx_a q_value cyI 1914 uv, kx_a q_number cyI 1914 un, kx_3 q_joined j_v j_n js jl je, kx_a j_v cyI 12 jv, kx_a j_n cyI 12 jn, kx_3 h0 a_v a_n vs lo le, kx_a a_v cyI 12 fv, kx_a a_n cyI 12 fn] s.heap.size = A at hD hth ⊢
  have hA : ∀ q : Nat, s.heap.size ≤ q → A q := fun q h => by rw [← hAe]; exact Or.inr h
  have hS : va_S A s.heap s.heap [] := va_S.rf
  have hP : va_P (dC, dI) vwCl [kx_4 m_ q_row q_t t_ h0 k0 w_ z_ slots old, kx_2 q_t q_row q_joined q_from q_to q_size q_lossOf q_lessBy q_value q_number nodes here, kx_0 q_row q_cell len, kx_a q_cell cyI 160 f, kx_a q_from cyI 319 ff, kx_a q_to cyI 319 ft, kx_a q_size cyI 319 fs, kx_a q_lossOf cyI 319 fo, kx_a q_lessBy cyI 319 fe, kx_a q_value cyI 1914 uv, kx_a q_number cyI 1914 un, kx_3 q_joined j_v j_n js jl je, kx_a j_v cyI 12 jv, kx_a j_n cyI 12 jn, kx_3 h0 a_v a_n vs lo le, kx_a a_v cyI 12 fv, kx_a a_n cyI 12 fn] s.heap := hP
  have hl := lv_entry ([.ref m_, .int p0, .int p1, .int p2, .int p3]) (n := 7) (Nat.le_of_ble_eq_true rfl)
  rw [lg_entry_eq]
  generalize (lg_sl ([.ref m_, .int p0, .int p1, .int p2, .int p3]) ++ List.replicate (7 - (lg_sl ([.ref m_, .int p0, .int p1, .int p2, .int p3])).length) Slot.unset).toArray = ls at hl ⊢
  have hl : lv_has ls 7 [(0, .ref m_), (1, .int p0), (2, .int p1), (3, .int p2), (4, .int p3)] := hl
  have hf_12 := hts (.fieldLink RX4 12 "MajorityIndex" "row" "LMajorityIndex$Row;") (List.mem_of_getElem? (i := 3) rfl)
  have hi_4 : ∀ w ∈ u_ws RX4 TX4 9, w ∈ wsX4_vote := fun w h => List.mem_cons_of_mem _ (List.mem_append_left _ (List.mem_append_left _ (List.mem_append_left _ (List.mem_append_left _ (List.mem_append_right _ h)))))
  have hc_107 := hts (.classLink RX4 107 EXN) (by decide +kernel)
  have hz_ex := hts (.initialized EXN) (by decide +kernel)
  have hf_126 := hts (.fieldLink RX4 126 "MajorityIndex$Tree" "size" "[I") (List.mem_of_getElem? (i := 4) rfl)
  have hi_2 : ∀ w ∈ u_ws RX2 TX2 11, w ∈ wsX4_vote := fun w h => List.mem_cons_of_mem _ (List.mem_append_left _ (List.mem_append_left _ (List.mem_append_left _ (List.mem_append_right _ h))))
  have hf_35 := hts (.fieldLink RX4 35 "MajorityIndex" "votes" "LMajorityIndex$Votes;") (List.mem_of_getElem? (i := 5) rfl)
  have hf_136 := hts (.fieldLink RX4 136 "MajorityIndex$Votes" "number" "[I") (List.mem_of_getElem? (i := 7) rfl)
  have hi_3 : ∀ w ∈ u_ws RX3 TX3 5, w ∈ wsX4_vote := fun w h => List.mem_cons_of_mem _ (List.mem_append_left _ (List.mem_append_left _ (List.mem_append_right _ h)))
  have hf_133 := hts (.fieldLink RX4 133 "MajorityIndex$Votes" "value" "[I") (List.mem_of_getElem? (i := 6) rfl)
  refine lv_aload_n hx hb dX4_vote_0 rfl (lv_at hl 0 rfl) ?_
  refine va_get (D := (dC, dI)) (ci := 4) (v := .ref q_row) (C := RX4) (T := TX4) (N := 9) hx hb hts hi_4 hown hK hP 0 rfl rfl 0 (by decide) hf_12 (fun _ h9 => h9) rfl dX4_vote_1 ?_
  refine lv_iload_n hx hb dX4_vote_4 rfl (lv_at hl 1 rfl) ?_
  refine lv_iload_n hx hb dX4_vote_5 rfl (lv_at hl 2 rfl) ?_
  have hPc := hP.sub (ws' := [kx_0 q_row q_cell len]) [2] rfl
  have hKc := hK.sub (tys' := []) [] rfl
  refine vp_callSi (W.runV (As := [.int p0, .int p1]) (rest := []) ⟨hx, hb, hml, hown, hts⟩ (c_X0_hasRange l dC dI q_row q_cell len p0 p1) (cwV 2 hts gX4_vote_X0_hasRange rfl rfl rfl (by decide +kernel) ⟨Nat.le_of_ble_eq_true rfl, Nat.le_of_ble_eq_true rfl⟩) ⟨fun a U g mk q => by obtain ⟨q0, qP, qK⟩ := q; exact ⟨q0, qP, va_K.moved (u := U) (U := U.calling g mk a) (Vm.Alike.refl U.vm) qK⟩, kx_rc0 hKc hPc (q0 := 0) rfl, fun U hU hW => ⟨rfl, by rw [hU]; exact hPc, va_K.moved hW.alike hKc⟩⟩ rfl rfl hl.1 rfl (lv_room (Nat.le_of_ble_eq_true rfl)) dX4_vote_6 ⟨Nat.le_of_ble_eq_true rfl, Nat.le_of_ble_eq_true rfl⟩) (fun r_1 w_1 => ?_)
  rcases w_1 with ⟨rfl, w_1⟩ | ⟨rfl, w_1⟩
  · have w_1 : (0 ≤ p0.toInt ∧ p0.toInt < p1.toInt ∧ p1.toInt ≤ len.toInt) := w_1
    refine lv_if_eq (tgt := 23) hx hb dX4_vote_9 (by decide) (fun c_2 => ?_) (fun c_2 => ?_)
    · exact absurd c_2 (by decide)
    · refine lv_iload hx hb dX4_vote_12 (lv_at hl 4 rfl) ?_
      refine lv_if_lt (tgt := 23) hx hb dX4_vote_14 (by decide) (fun c_3 => ?_) (fun c_3 => ?_)
      · have i_3 : p3.toInt < 0 := kc_lt c_3
        have hP9 := hP.sub (ws' := [kx_4 m_ q_row q_t t_ h0 k0 w_ z_ slots old, kx_2 q_t q_row q_joined q_from q_to q_size q_lossOf q_lessBy q_value q_number nodes here, kx_0 q_row q_cell len, kx_a q_cell cyI 160 f, kx_a q_from cyI 319 ff, kx_a q_to cyI 319 ft, kx_a q_size cyI 319 fs, kx_a q_lossOf cyI 319 fo, kx_a q_lessBy cyI 319 fe, kx_a q_value cyI 1914 uv, kx_a q_number cyI 1914 un, kx_3 q_joined j_v j_n js jl je, kx_a j_v cyI 12 jv, kx_a j_n cyI 12 jn, kx_3 h0 a_v a_n vs lo le, kx_a a_v cyI 12 fv, kx_a a_n cyI 12 fn]) [0, 1, 2, 3, 4, 5, 6, 7, 8, 9, 10, 11, 12, 13, 14, 15, 16] rfl
        have hD9 := hD.sub (ws' := [kx_4 m_ q_row q_t t_ h0 k0 w_ z_ slots old, kx_2 q_t q_row q_joined q_from q_to q_size q_lossOf q_lessBy q_value q_number nodes here, kx_0 q_row q_cell len, kx_a q_cell cyI 160 f, kx_a q_from cyI 319 ff, kx_a q_to cyI 319 ft, kx_a q_size cyI 319 fs, kx_a q_lossOf cyI 319 fo, kx_a q_lessBy cyI 319 fe, kx_a q_value cyI 1914 uv, kx_a q_number cyI 1914 un, kx_3 q_joined j_v j_n js jl je, kx_a j_v cyI 12 jv, kx_a j_n cyI 12 jn, kx_3 h0 a_v a_n vs lo le, kx_a a_v cyI 12 fv, kx_a a_n cyI 12 fn]) [0, 1, 2, 3, 4, 5, 6, 7, 8, 9, 10, 11, 12, 13, 14, 15, 16] (by decide) rfl
        have hK9 := hK.sub (tys' := [(cyI, .int)]) [0] rfl
        exact vx_throw0 (names := EXC) hx hb hl0 hown (by decide +kernel) (by decide +kernel) hc_107 hz_ex hat ki_ot hth.2.1 hth.2.2 hS (hl.1.trans hml.symm) dX4_vote_23 dX4_vote_26 dX4_vote_27 dX4_vote_30 (fun x h => (htab x h).elim) (Nat.le_of_ble_eq_true rfl) (Nat.le_of_ble_eq_true rfl) (Nat.le_of_ble_eq_true rfl) (Nat.le_of_ble_eq_true rfl) hlocks (fun t ha hz hk => ⟨(old, nodes, here, ff, ft, fs, fo, fe, uv, un, js, jl, je, jv, jn, vs, lo, le, fv, fn), ⟨(by decide), l0, s0⟩, ⟨rfl, hP9.kept (fun k x hx => hk x.1 ((hP9 k x hx).lt)), va_K.moved ha hK9, hD9⟩, Nat.le_trans hS.1 hz, fun q h1 h2 => (hk q (Nat.lt_of_lt_of_le h1 hS.1)).trans (hS.2.1 q h1 h2)⟩) hS.2.2 (Nat.le_refl _) (Nat.le_refl _)
      · have i_3 : 0 ≤ p3.toInt := kc_nlt c_3
        refine lv_iload hx hb dX4_vote_17 (lv_at hl 4 rfl) ?_
        refine lv_iconst (v := 1) hx hb dX4_vote_19 (by decide) ?_
        refine lv_icmp_le (tgt := 31) hx hb dX4_vote_20 (by decide) (fun c_4 => ?_) (fun c_4 => ?_)
        · have i_4 : p3.toInt ≤ 1 := kc_le c_4
          refine lv_aload_n hx hb dX4_vote_31 rfl (lv_at hl 0 rfl) ?_
          obtain ⟨hPc, hDc, hFc, hCc⟩ := kx_preM (wc := [kx_4 m_ q_row q_t t_ h0 k0 w_ z_ slots old, kx_2 q_t q_row q_joined q_from q_to q_size q_lossOf q_lessBy q_value q_number nodes here, kx_0 q_row q_cell len, kx_a q_cell cyI 160 f, kx_a q_from cyI 319 ff, kx_a q_to cyI 319 ft, kx_a q_size cyI 319 fs, kx_a q_lossOf cyI 319 fo, kx_a q_lessBy cyI 319 fe, kx_a q_value cyI 1914 uv, kx_a q_number cyI 1914 un, kx_3 q_joined j_v j_n js jl je, kx_a j_v cyI 12 jv, kx_a j_n cyI 12 jn]) hP hD hS hA [true, true, true, true, true, true, true, true, true, true, true, true, true, true, false, false, false] rfl
          have hKc := hK
          refine va_callr (va_runV (As := []) (rest := []) ⟨hx, hb, hml, hown, hts⟩ (kx_un (c_X4_laidTree_x l dC dI m_ q_row q_t t_ h0 k0 w_ z_ slots old q_joined q_from q_to q_size q_lossOf q_lessBy q_value q_number nodes here q_cell cyI len f ff ft fs fo uv un fe j_v j_n js jl je jv jn s.heap.size a0 a1 s0 sl0 sl1 l0)) (cwV 0 hts gX4_vote_X4_laidTree rfl rfl rfl (by decide +kernel) ⟨Nat.le_of_ble_eq_true rfl, Nat.le_of_ble_eq_true rfl⟩) ⟨fun a U g mk q => by obtain ⟨q0, q1, qP, qK, qD⟩ := q; exact ⟨q0, q1, qP, va_K.moved (u := U) (U := U.calling g mk a) (Vm.Alike.refl U.vm) qK, qD⟩, kx_rc4 hKc hPc (q0 := 0) rfl, fun U hU hW => ⟨rfl, by rw [hU], by rw [hU]; exact hPc, va_K.moved hW.alike hKc, hDc.weaken (fun _ _ _ _ => trivial)⟩⟩ rfl rfl hl.1 rfl (lv_room (Nat.le_of_ble_eq_true rfl)) dX4_vote_32 ⟨Nat.le_of_ble_eq_true rfl, Nat.le_of_ble_eq_true rfl⟩) hS (fun q _ h => hFc q h) hFc (fun u ra t H1 locs ht hvm w_5 hB hz1 hk1 hS => ?_)
          obtain ⟨o_6, o_7, o_8, o_9, o_10, o_11, o_12, o_13, o_14, o_15, o_16, o_17, o_18, o_19, o_20⟩ := u
          dsimp only at w_5 hB
          obtain ⟨er, hP1, hK1, hD1⟩ := hB
          rw [ht] at hP1
          have hK1 := va_K.moved hvm.symm hK1
          obtain ⟨hP, hD⟩ := kx_joinM (w2 := [kx_4 m_ q_row q_t t_ h0 k0 w_ z_ slots o_6, kx_2 q_t q_row q_joined q_from q_to q_size q_lossOf q_lessBy q_value q_number o_7 o_8, kx_0 q_row q_cell len, kx_a q_cell cyI 160 f, kx_a q_from cyI 319 o_9, kx_a q_to cyI 319 o_10, kx_a q_size cyI 319 o_11, kx_a q_lossOf cyI 319 o_12, kx_a q_lessBy cyI 319 o_13, kx_a q_value cyI 1914 o_14, kx_a q_number cyI 1914 o_15, kx_3 q_joined j_v j_n o_16 o_17 o_18, kx_a j_v cyI 12 o_19, kx_a j_n cyI 12 o_20, kx_3 h0 a_v a_n vs lo le, kx_a a_v cyI 12 fv, kx_a a_n cyI 12 fn]) hP hD hP1 hD1 hk1 hFc [true, true, true, true, true, true, true, true, true, true, true, true, true, true, false, false, false] hCc rfl
          clear hP1 hD1 hK1 hk1 hz1 hFc hDc hPc hKc hCc
          generalize H1 = H at hP hS ⊢
          have w_5 : o_6.toInt = 0 ∧ o_8 = slots ∧ sixes o_11 ∧ mj_C slots.toNatClampNeg f o_9 o_10 o_11 o_12 o_13 o_14 o_15 o_7.toInt len.toInt ∧ 0 ≤ o_7.toInt ∧ o_7.toInt ≤ 319 ∧ treeOk o_9 o_10 o_7.toInt len.toInt := w_5
          rw [er]
          refine lv_astore (lv' := [(5, .ref q_t), (0, .ref m_), (1, .int p0), (2, .int p1), (3, .int p2), (4, .int p3)]) hx hb dX4_vote_35 hl (by decide) rfl (fun ls hl => ?_)
          refine lv_aload hx hb dX4_vote_37 (lv_at hl 0 rfl) ?_
          refine lv_iload_n hx hb dX4_vote_39 rfl (lv_at hl 2 rfl) ?_
          refine lv_iload_n hx hb dX4_vote_40 rfl (lv_at hl 3 rfl) ?_
          have hPc := hP.sub (ws' := [kx_2 q_t q_row q_joined q_from q_to q_size q_lossOf q_lessBy q_value q_number o_7 o_8, kx_a q_from cyI 319 o_9, kx_a q_to cyI 319 o_10]) [1, 4, 5] rfl
          have hKc := hK
          refine vp_callSi (W.runV (As := [.int p0, .int p1]) (rest := []) ⟨hx, hb, hml, hown, hts⟩ (c_X2_find_x l dC dI q_t q_row q_joined q_from q_to q_size q_lossOf q_lessBy q_value q_number o_7 o_8 cyI o_9 o_10 p0 p1 w_5.2.2.2.2.1 w_5.2.2.2.2.2.1) (cwV 2 hts gX4_vote_X2_find rfl rfl rfl (by decide +kernel) ⟨Nat.le_of_ble_eq_true rfl, Nat.le_of_ble_eq_true rfl⟩) ⟨fun a U g mk q => by obtain ⟨q0, qP, qK⟩ := q; exact ⟨q0, qP, va_K.moved (u := U) (U := U.calling g mk a) (Vm.Alike.refl U.vm) qK⟩, kx_rc2 hKc hPc (q0 := 0) rfl, fun U hU hW => ⟨rfl, by rw [hU]; exact hPc, va_K.moved hW.alike hKc⟩⟩ rfl rfl hl.1 rfl (lv_room (Nat.le_of_ble_eq_true rfl)) dX4_vote_41 ⟨Nat.le_of_ble_eq_true rfl, Nat.le_of_ble_eq_true rfl⟩) (fun r_21 w_21 => ?_)
          have w_21 : mj_first (fun k => (o_9 k).toInt = p0.toInt ∧ (o_10 k).toInt = p1.toInt) 0 o_7.toNatClampNeg (-1) r_21.toInt ∧ (r_21.toInt = -1 ∨ (0 ≤ r_21.toInt ∧ r_21.toInt < o_7.toInt)) := w_21
          refine lv_istore (lv' := [(6, .int r_21), (5, .ref q_t), (0, .ref m_), (1, .int p0), (2, .int p1), (3, .int p2), (4, .int p3)]) hx hb dX4_vote_44 hl (by decide) rfl (fun ls hl => ?_)
          refine lv_iload hx hb dX4_vote_46 (lv_at hl 0 rfl) ?_
          refine lv_iconst (v := (-1)) hx hb dX4_vote_48 (by decide) ?_
          refine lv_icmp_eq (tgt := 68) hx hb dX4_vote_49 (by decide) (fun c_22 => ?_) (fun c_22 => ?_)
          · have i_22 : r_21.toInt = (-1) := kc_eq c_22
            have hP9 := hP.sub (ws' := [kx_4 m_ q_row q_t t_ h0 k0 w_ z_ slots o_6, kx_2 q_t q_row q_joined q_from q_to q_size q_lossOf q_lessBy q_value q_number o_7 o_8, kx_0 q_row q_cell len, kx_a q_cell cyI 160 f, kx_a q_from cyI 319 o_9, kx_a q_to cyI 319 o_10, kx_a q_size cyI 319 o_11, kx_a q_lossOf cyI 319 o_12, kx_a q_lessBy cyI 319 o_13, kx_a q_value cyI 1914 o_14, kx_a q_number cyI 1914 o_15, kx_3 q_joined j_v j_n o_16 o_17 o_18, kx_a j_v cyI 12 o_19, kx_a j_n cyI 12 o_20, kx_3 h0 a_v a_n vs lo le, kx_a a_v cyI 12 fv, kx_a a_n cyI 12 fn]) [0, 1, 2, 3, 4, 5, 6, 7, 8, 9, 10, 11, 12, 13, 14, 15, 16] rfl
            have hD9 := hD.sub (ws' := [kx_4 m_ q_row q_t t_ h0 k0 w_ z_ slots o_6, kx_2 q_t q_row q_joined q_from q_to q_size q_lossOf q_lessBy q_value q_number o_7 o_8, kx_0 q_row q_cell len, kx_a q_cell cyI 160 f, kx_a q_from cyI 319 o_9, kx_a q_to cyI 319 o_10, kx_a q_size cyI 319 o_11, kx_a q_lossOf cyI 319 o_12, kx_a q_lessBy cyI 319 o_13, kx_a q_value cyI 1914 o_14, kx_a q_number cyI 1914 o_15, kx_3 q_joined j_v j_n o_16 o_17 o_18, kx_a j_v cyI 12 o_19, kx_a j_n cyI 12 o_20, kx_3 h0 a_v a_n vs lo le, kx_a a_v cyI 12 fv, kx_a a_n cyI 12 fn]) [0, 1, 2, 3, 4, 5, 6, 7, 8, 9, 10, 11, 12, 13, 14, 15, 16] (by decide) rfl
            have hK9 := hK.sub (tys' := [(cyI, .int)]) [0] rfl
            exact vx_throw0 (names := EXC) hx hb hl0 hown (by decide +kernel) (by decide +kernel) hc_107 hz_ex hat ki_ot hth.2.1 hth.2.2 hS (hl.1.trans hml.symm) dX4_vote_68 dX4_vote_71 dX4_vote_72 dX4_vote_75 (fun x h => (htab x h).elim) (Nat.le_of_ble_eq_true rfl) (Nat.le_of_ble_eq_true rfl) (Nat.le_of_ble_eq_true rfl) (Nat.le_of_ble_eq_true rfl) hlocks (fun t ha hz hk => ⟨(o_6, o_7, o_8, o_9, o_10, o_11, o_12, o_13, o_14, o_15, o_16, o_17, o_18, o_19, o_20, vs, lo, le, fv, fn), ⟨(by decide), (fun _ => ⟨w_5.2.1, w_5.2.2.2.1⟩), w_5.2.2.1⟩, ⟨rfl, hP9.kept (fun k x hx => hk x.1 ((hP9 k x hx).lt)), va_K.moved ha hK9, hD9⟩, Nat.le_trans hS.1 hz, fun q h1 h2 => (hk q (Nat.lt_of_lt_of_le h1 hS.1)).trans (hS.2.1 q h1 h2)⟩) hS.2.2 (Nat.le_refl _) (Nat.le_refl _)
          · have i_22 : ¬ r_21.toInt = (-1) := kc_ne c_22
            refine lv_iload_n hx hb dX4_vote_52 rfl (lv_at hl 5 rfl) ?_
            refine lv_if_lt (tgt := 68) hx hb dX4_vote_53 (by decide) (fun c_23 => ?_) (fun c_23 => ?_)
            · have i_23 : p2.toInt < 0 := kc_lt c_23
              have hP9 := hP.sub (ws' := [kx_4 m_ q_row q_t t_ h0 k0 w_ z_ slots o_6, kx_2 q_t q_row q_joined q_from q_to q_size q_lossOf q_lessBy q_value q_number o_7 o_8, kx_0 q_row q_cell len, kx_a q_cell cyI 160 f, kx_a q_from cyI 319 o_9, kx_a q_to cyI 319 o_10, kx_a q_size cyI 319 o_11, kx_a q_lossOf cyI 319 o_12, kx_a q_lessBy cyI 319 o_13, kx_a q_value cyI 1914 o_14, kx_a q_number cyI 1914 o_15, kx_3 q_joined j_v j_n o_16 o_17 o_18, kx_a j_v cyI 12 o_19, kx_a j_n cyI 12 o_20, kx_3 h0 a_v a_n vs lo le, kx_a a_v cyI 12 fv, kx_a a_n cyI 12 fn]) [0, 1, 2, 3, 4, 5, 6, 7, 8, 9, 10, 11, 12, 13, 14, 15, 16] rfl
              have hD9 := hD.sub (ws' := [kx_4 m_ q_row q_t t_ h0 k0 w_ z_ slots o_6, kx_2 q_t q_row q_joined q_from q_to q_size q_lossOf q_lessBy q_value q_number o_7 o_8, kx_0 q_row q_cell len, kx_a q_cell cyI 160 f, kx_a q_from cyI 319 o_9, kx_a q_to cyI 319 o_10, kx_a q_size cyI 319 o_11, kx_a q_lossOf cyI 319 o_12, kx_a q_lessBy cyI 319 o_13, kx_a q_value cyI 1914 o_14, kx_a q_number cyI 1914 o_15, kx_3 q_joined j_v j_n o_16 o_17 o_18, kx_a j_v cyI 12 o_19, kx_a j_n cyI 12 o_20, kx_3 h0 a_v a_n vs lo le, kx_a a_v cyI 12 fv, kx_a a_n cyI 12 fn]) [0, 1, 2, 3, 4, 5, 6, 7, 8, 9, 10, 11, 12, 13, 14, 15, 16] (by decide) rfl
              have hK9 := hK.sub (tys' := [(cyI, .int)]) [0] rfl
              exact vx_throw0 (names := EXC) hx hb hl0 hown (by decide +kernel) (by decide +kernel) hc_107 hz_ex hat ki_ot hth.2.1 hth.2.2 hS (hl.1.trans hml.symm) dX4_vote_68 dX4_vote_71 dX4_vote_72 dX4_vote_75 (fun x h => (htab x h).elim) (Nat.le_of_ble_eq_true rfl) (Nat.le_of_ble_eq_true rfl) (Nat.le_of_ble_eq_true rfl) (Nat.le_of_ble_eq_true rfl) hlocks (fun t ha hz hk => ⟨(o_6, o_7, o_8, o_9, o_10, o_11, o_12, o_13, o_14, o_15, o_16, o_17, o_18, o_19, o_20, vs, lo, le, fv, fn), ⟨(by decide), (fun _ => ⟨w_5.2.1, w_5.2.2.2.1⟩), w_5.2.2.1⟩, ⟨rfl, hP9.kept (fun k x hx => hk x.1 ((hP9 k x hx).lt)), va_K.moved ha hK9, hD9⟩, Nat.le_trans hS.1 hz, fun q h1 h2 => (hk q (Nat.lt_of_lt_of_le h1 hS.1)).trans (hS.2.1 q h1 h2)⟩) hS.2.2 (Nat.le_refl _) (Nat.le_refl _)
            · have i_23 : 0 ≤ p2.toInt := kc_nlt c_23
              refine lv_iload_n hx hb dX4_vote_56 rfl (lv_at hl 5 rfl) ?_
              refine lv_aload hx hb dX4_vote_57 (lv_at hl 1 rfl) ?_
              refine va_get (D := (dC, dI)) (ci := 2) (v := .ref q_size) (C := RX2) (T := TX2) (N := 11) hx hb hts hi_2 hown hK hP 1 rfl rfl 4 (by decide) hf_126 (fun _ h9 => h9) rfl dX4_vote_59 ?_
              refine lv_iload hx hb dX4_vote_62 (lv_at hl 0 rfl) ?_
              refine va_iald hx hb hK hP 6 0 rfl rfl (ki_in (by omega) (by omega)) dX4_vote_64 ?_
              refine lv_topi (fun y_24 ey_24 => ?_)
              have j_24 : y_24.toInt = (o_11 r_21.toNatClampNeg).toInt := congrArg Int32.toInt ey_24
              have n_25 : (r_21.toNatClampNeg : Int) = r_21.toInt := ki_nat _ rfl (by omega)
              have i_26 := w_5.2.2.1 r_21.toNatClampNeg (by omega)
              refine lv_icmp_lt (tgt := 76) hx hb dX4_vote_65 (by decide) (fun c_27 => ?_) (fun c_27 => ?_)
              · have i_27 : p2.toInt < y_24.toInt := kc_lt c_27
                refine lv_aload hx hb dX4_vote_76 (lv_at hl 1 rfl) ?_
                refine lv_aload_n hx hb dX4_vote_78 rfl (lv_at hl 2 rfl) ?_
                refine va_get (D := (dC, dI)) (ci := 4) (v := .ref h0) (C := RX4) (T := TX4) (N := 9) hx hb hts hi_4 hown hK hP 0 rfl rfl 3 (by decide) hf_35 (fun _ h9 => h9) rfl dX4_vote_79 ?_
                refine lv_iload hx hb dX4_vote_82 (lv_at hl 0 rfl) ?_
                obtain ⟨hPc, hDc, hFc, hCc⟩ := kx_preM (wc := [kx_2 q_t q_row q_joined q_from q_to q_size q_lossOf q_lessBy q_value q_number o_7 o_8, kx_a q_size cyI 319 o_11, kx_a q_lossOf cyI 319 o_12, kx_a q_value cyI 1914 o_14, kx_a q_number cyI 1914 o_15, kx_3 h0 a_v a_n vs lo le, kx_a a_v cyI 12 fv, kx_a a_n cyI 12 fn]) hP hD hS hA [false, true, false, false, false, false, true, true, false, true, true, false, false, false, true, true, true] rfl
                have hKc := hK
                refine va_callv (va_runV (As := [.ref h0, .int r_21]) (rest := []) ⟨hx, hb, hml, hown, hts⟩ (kx_un (c_X2_copyTo l dC dI q_t q_row q_joined q_from q_to q_size q_lossOf q_lessBy q_value q_number o_7 o_8 h0 a_v a_n cyI vs lo le fv fn o_11 o_12 o_14 o_15 r_21 H.size (om_475 n_25 (Int.natCast_nonneg _)) (by omega) w_5.2.2.1)) (cwV 2 hts gX4_vote_X2_copyTo rfl rfl rfl (by decide +kernel) ⟨Nat.le_of_ble_eq_true rfl, Nat.le_of_ble_eq_true rfl⟩) ⟨fun a U g mk q => by obtain ⟨q0, q1, qP, qK, qD⟩ := q; exact ⟨q0, q1, qP, va_K.moved (u := U) (U := U.calling g mk a) (Vm.Alike.refl U.vm) qK, qD⟩, kx_rc2 hKc hPc (q0 := 0) rfl, fun U hU hW => ⟨rfl, by rw [hU], by rw [hU]; exact hPc, va_K.moved hW.alike hKc, hDc.weaken (fun _ _ _ _ => trivial)⟩⟩ rfl rfl hl.1 rfl (lv_room (Nat.le_of_ble_eq_true rfl)) dX4_vote_84 ⟨Nat.le_of_ble_eq_true rfl, Nat.le_of_ble_eq_true rfl⟩) hS (fun q _ h => hFc q h) hFc (fun u t H1 locs ht hvm w_28 hB hz1 hk1 hS => ?_)
                obtain ⟨o_29, o_30, o_31, o_32⟩ := u
                dsimp only at w_28 hB
                obtain ⟨hP1, hK1, hD1⟩ := hB
                rw [ht] at hP1
                have hK1 := va_K.moved hvm.symm hK1
                obtain ⟨hP, hD⟩ := kx_joinM (w2 := [kx_4 m_ q_row q_t t_ h0 k0 w_ z_ slots o_6, kx_2 q_t q_row q_joined q_from q_to q_size q_lossOf q_lessBy q_value q_number o_7 o_8, kx_0 q_row q_cell len, kx_a q_cell cyI 160 f, kx_a q_from cyI 319 o_9, kx_a q_to cyI 319 o_10, kx_a q_size cyI 319 o_11, kx_a q_lossOf cyI 319 o_12, kx_a q_lessBy cyI 319 o_13, kx_a q_value cyI 1914 o_14, kx_a q_number cyI 1914 o_15, kx_3 q_joined j_v j_n o_16 o_17 o_18, kx_a j_v cyI 12 o_19, kx_a j_n cyI 12 o_20, kx_3 h0 a_v a_n o_29 o_30 0, kx_a a_v cyI 12 o_31, kx_a a_n cyI 12 o_32]) hP hD hP1 hD1 hk1 hFc [false, true, false, false, false, false, true, true, false, true, true, false, false, false, true, true, true] hCc rfl
                clear hP1 hD1 hK1 hk1 hz1 hFc hDc hPc hKc hCc
                generalize H1 = H at hP hS ⊢
                have w_28 : 0 ≤ o_29.toInt ∧ o_29.toInt ≤ 12 := w_28
                refine lv_iload hx hb dX4_vote_87 (lv_at hl 6 rfl) ?_
                refine lv_if_ne (tgt := 104) hx hb dX4_vote_89 (by decide) (fun c_33 => ?_) (fun c_33 => ?_)
                · have i_33 : ¬ p3.toInt = 0 := kc_ne c_33
                  refine lv_aload_n hx hb dX4_vote_104 rfl (lv_at hl 2 rfl) ?_
                  refine va_get (D := (dC, dI)) (ci := 4) (v := .ref h0) (C := RX4) (T := TX4) (N := 9) hx hb hts hi_4 hown hK hP 0 rfl rfl 3 (by decide) hf_35 (fun _ h9 => h9) rfl dX4_vote_105 ?_
                  refine va_get (D := (dC, dI)) (ci := 3) (v := .ref a_n) (C := RX3) (T := TX3) (N := 5) hx hb hts hi_3 hown hK hP 14 rfl rfl 1 (by decide) hf_136 (fun _ h9 => h9) rfl dX4_vote_108 ?_
                  refine lv_iload_n hx hb dX4_vote_111 rfl (lv_at hl 5 rfl) ?_
                  refine va_iald hx hb hK hP 16 0 rfl rfl (ki_in (om_10 i_23) (om_476 j_24 i_26.2 i_27)) dX4_vote_112 ?_
                  refine lv_topi (fun y_34 ey_34 => ?_)
                  have j_34 : y_34.toInt = (o_32 p2.toNatClampNeg).toInt := congrArg Int32.toInt ey_34
                  refine vx_ret ?_
                  have hP9 := hP
                  have hD9 := hD
                  have hK9 := hK
                  refine W.widen (k := 1) (n := 6) (Nat.le_of_ble_eq_true rfl) (Nat.le_of_ble_eq_true rfl) ?_
                  exact W.iret (v := y_34) hx hb hr (hlocks := hlocks) (fun t ht hW => ⟨⟨y_34, (o_6, o_7, o_8, o_9, o_10, o_11, o_12, o_13, o_14, o_15, o_16, o_17, o_18, o_19, o_20, o_29, o_30, 0, o_31, o_32), rfl, ⟨(by (try dsimp only); decide), (fun _ => ⟨w_5.2.1, w_5.2.2.2.1⟩), w_5.2.2.1⟩, by rw [ht]; exact hP9, va_K.moved hW.alike hK9, hD9⟩, hS.F ht⟩) hS.2.2 dX4_vote_113
                · have i_33 : p3.toInt = 0 := kc_eq c_33
                  refine lv_aload_n hx hb dX4_vote_92 rfl (lv_at hl 2 rfl) ?_
                  refine va_get (D := (dC, dI)) (ci := 4) (v := .ref h0) (C := RX4) (T := TX4) (N := 9) hx hb hts hi_4 hown hK hP 0 rfl rfl 3 (by decide) hf_35 (fun _ h9 => h9) rfl dX4_vote_93 ?_
                  refine va_get (D := (dC, dI)) (ci := 3) (v := .ref a_v) (C := RX3) (T := TX3) (N := 5) hx hb hts hi_3 hown hK hP 14 rfl rfl 0 (by decide) hf_133 (fun _ h9 => h9) rfl dX4_vote_96 ?_
                  refine lv_iload_n hx hb dX4_vote_99 rfl (lv_at hl 5 rfl) ?_
                  refine va_iald hx hb hK hP 15 0 rfl rfl (ki_in (om_10 i_23) (om_476 j_24 i_26.2 i_27)) dX4_vote_100 ?_
                  refine lv_topi (fun y_35 ey_35 => ?_)
                  have j_35 : y_35.toInt = (o_31 p2.toNatClampNeg).toInt := congrArg Int32.toInt ey_35
                  refine lv_goto (tgt := 113) hx hb dX4_vote_101 (by decide) ?_
                  refine vx_ret ?_
                  have hP9 := hP
                  have hD9 := hD
                  have hK9 := hK
                  refine W.widen (k := 1) (n := 6) (Nat.le_of_ble_eq_true rfl) (Nat.le_of_ble_eq_true rfl) ?_
                  exact W.iret (v := y_35) hx hb hr (hlocks := hlocks) (fun t ht hW => ⟨⟨y_35, (o_6, o_7, o_8, o_9, o_10, o_11, o_12, o_13, o_14, o_15, o_16, o_17, o_18, o_19, o_20, o_29, o_30, 0, o_31, o_32), rfl, ⟨(by (try dsimp only); decide), (fun _ => ⟨w_5.2.1, w_5.2.2.2.1⟩), w_5.2.2.1⟩, by rw [ht]; exact hP9, va_K.moved hW.alike hK9, hD9⟩, hS.F ht⟩) hS.2.2 dX4_vote_113
              · have i_27 : y_24.toInt ≤ p2.toInt := kc_nlt c_27
                have hP9 := hP.sub (ws' := [kx_4 m_ q_row q_t t_ h0 k0 w_ z_ slots o_6, kx_2 q_t q_row q_joined q_from q_to q_size q_lossOf q_lessBy q_value q_number o_7 o_8, kx_0 q_row q_cell len, kx_a q_cell cyI 160 f, kx_a q_from cyI 319 o_9, kx_a q_to cyI 319 o_10, kx_a q_size cyI 319 o_11, kx_a q_lossOf cyI 319 o_12, kx_a q_lessBy cyI 319 o_13, kx_a q_value cyI 1914 o_14, kx_a q_number cyI 1914 o_15, kx_3 q_joined j_v j_n o_16 o_17 o_18, kx_a j_v cyI 12 o_19, kx_a j_n cyI 12 o_20, kx_3 h0 a_v a_n vs lo le, kx_a a_v cyI 12 fv, kx_a a_n cyI 12 fn]) [0, 1, 2, 3, 4, 5, 6, 7, 8, 9, 10, 11, 12, 13, 14, 15, 16] rfl
                have hD9 := hD.sub (ws' := [kx_4 m_ q_row q_t t_ h0 k0 w_ z_ slots o_6, kx_2 q_t q_row q_joined q_from q_to q_size q_lossOf q_lessBy q_value q_number o_7 o_8, kx_0 q_row q_cell len, kx_a q_cell cyI 160 f, kx_a q_from cyI 319 o_9, kx_a q_to cyI 319 o_10, kx_a q_size cyI 319 o_11, kx_a q_lossOf cyI 319 o_12, kx_a q_lessBy cyI 319 o_13, kx_a q_value cyI 1914 o_14, kx_a q_number cyI 1914 o_15, kx_3 q_joined j_v j_n o_16 o_17 o_18, kx_a j_v cyI 12 o_19, kx_a j_n cyI 12 o_20, kx_3 h0 a_v a_n vs lo le, kx_a a_v cyI 12 fv, kx_a a_n cyI 12 fn]) [0, 1, 2, 3, 4, 5, 6, 7, 8, 9, 10, 11, 12, 13, 14, 15, 16] (by decide) rfl
                have hK9 := hK.sub (tys' := [(cyI, .int)]) [0] rfl
                exact vx_throw0 (names := EXC) hx hb hl0 hown (by decide +kernel) (by decide +kernel) hc_107 hz_ex hat ki_ot hth.2.1 hth.2.2 hS (hl.1.trans hml.symm) dX4_vote_68 dX4_vote_71 dX4_vote_72 dX4_vote_75 (fun x h => (htab x h).elim) (Nat.le_of_ble_eq_true rfl) (Nat.le_of_ble_eq_true rfl) (Nat.le_of_ble_eq_true rfl) (Nat.le_of_ble_eq_true rfl) hlocks (fun t ha hz hk => ⟨(o_6, o_7, o_8, o_9, o_10, o_11, o_12, o_13, o_14, o_15, o_16, o_17, o_18, o_19, o_20, vs, lo, le, fv, fn), ⟨(by decide), (fun _ => ⟨w_5.2.1, w_5.2.2.2.1⟩), w_5.2.2.1⟩, ⟨rfl, hP9.kept (fun k x hx => hk x.1 ((hP9 k x hx).lt)), va_K.moved ha hK9, hD9⟩, Nat.le_trans hS.1 hz, fun q h1 h2 => (hk q (Nat.lt_of_lt_of_le h1 hS.1)).trans (hS.2.1 q h1 h2)⟩) hS.2.2 (Nat.le_refl _) (Nat.le_refl _)
        · have i_4 : 1 < p3.toInt := kc_nle c_4
          have hP9 := hP.sub (ws' := [kx_4 m_ q_row q_t t_ h0 k0 w_ z_ slots old, kx_2 q_t q_row q_joined q_from q_to q_size q_lossOf q_lessBy q_value q_number nodes here, kx_0 q_row q_cell len, kx_a q_cell cyI 160 f, kx_a q_from cyI 319 ff, kx_a q_to cyI 319 ft, kx_a q_size cyI 319 fs, kx_a q_lossOf cyI 319 fo, kx_a q_lessBy cyI 319 fe, kx_a q_value cyI 1914 uv, kx_a q_number cyI 1914 un, kx_3 q_joined j_v j_n js jl je, kx_a j_v cyI 12 jv, kx_a j_n cyI 12 jn, kx_3 h0 a_v a_n vs lo le, kx_a a_v cyI 12 fv, kx_a a_n cyI 12 fn]) [0, 1, 2, 3, 4, 5, 6, 7, 8, 9, 10, 11, 12, 13, 14, 15, 16] rfl
          have hD9 := hD.sub (ws' := [kx_4 m_ q_row q_t t_ h0 k0 w_ z_ slots old, kx_2 q_t q_row q_joined q_from q_to q_size q_lossOf q_lessBy q_value q_number nodes here, kx_0 q_row q_cell len, kx_a q_cell cyI 160 f, kx_a q_from cyI 319 ff, kx_a q_to cyI 319 ft, kx_a q_size cyI 319 fs, kx_a q_lossOf cyI 319 fo, kx_a q_lessBy cyI 319 fe, kx_a q_value cyI 1914 uv, kx_a q_number cyI 1914 un, kx_3 q_joined j_v j_n js jl je, kx_a j_v cyI 12 jv, kx_a j_n cyI 12 jn, kx_3 h0 a_v a_n vs lo le, kx_a a_v cyI 12 fv, kx_a a_n cyI 12 fn]) [0, 1, 2, 3, 4, 5, 6, 7, 8, 9, 10, 11, 12, 13, 14, 15, 16] (by decide) rfl
          have hK9 := hK.sub (tys' := [(cyI, .int)]) [0] rfl
          exact vx_throw0 (names := EXC) hx hb hl0 hown (by decide +kernel) (by decide +kernel) hc_107 hz_ex hat ki_ot hth.2.1 hth.2.2 hS (hl.1.trans hml.symm) dX4_vote_23 dX4_vote_26 dX4_vote_27 dX4_vote_30 (fun x h => (htab x h).elim) (Nat.le_of_ble_eq_true rfl) (Nat.le_of_ble_eq_true rfl) (Nat.le_of_ble_eq_true rfl) (Nat.le_of_ble_eq_true rfl) hlocks (fun t ha hz hk => ⟨(old, nodes, here, ff, ft, fs, fo, fe, uv, un, js, jl, je, jv, jn, vs, lo, le, fv, fn), ⟨(by decide), l0, s0⟩, ⟨rfl, hP9.kept (fun k x hx => hk x.1 ((hP9 k x hx).lt)), va_K.moved ha hK9, hD9⟩, Nat.le_trans hS.1 hz, fun q h1 h2 => (hk q (Nat.lt_of_lt_of_le h1 hS.1)).trans (hS.2.1 q h1 h2)⟩) hS.2.2 (Nat.le_refl _) (Nat.le_refl _)
  · have w_1 : (p0.toInt < 0 ∨ p1.toInt ≤ p0.toInt ∨ len.toInt < p1.toInt) := w_1
    refine lv_if_eq (tgt := 23) hx hb dX4_vote_9 (by decide) (fun c_36 => ?_) (fun c_36 => ?_)
    · have hP9 := hP.sub (ws' := [kx_4 m_ q_row q_t t_ h0 k0 w_ z_ slots old, kx_2 q_t q_row q_joined q_from q_to q_size q_lossOf q_lessBy q_value q_number nodes here, kx_0 q_row q_cell len, kx_a q_cell cyI 160 f, kx_a q_from cyI 319 ff, kx_a q_to cyI 319 ft, kx_a q_size cyI 319 fs, kx_a q_lossOf cyI 319 fo, kx_a q_lessBy cyI 319 fe, kx_a q_value cyI 1914 uv, kx_a q_number cyI 1914 un, kx_3 q_joined j_v j_n js jl je, kx_a j_v cyI 12 jv, kx_a j_n cyI 12 jn, kx_3 h0 a_v a_n vs lo le, kx_a a_v cyI 12 fv, kx_a a_n cyI 12 fn]) [0, 1, 2, 3, 4, 5, 6, 7, 8, 9, 10, 11, 12, 13, 14, 15, 16] rfl
      have hD9 := hD.sub (ws' := [kx_4 m_ q_row q_t t_ h0 k0 w_ z_ slots old, kx_2 q_t q_row q_joined q_from q_to q_size q_lossOf q_lessBy q_value q_number nodes here, kx_0 q_row q_cell len, kx_a q_cell cyI 160 f, kx_a q_from cyI 319 ff, kx_a q_to cyI 319 ft, kx_a q_size cyI 319 fs, kx_a q_lossOf cyI 319 fo, kx_a q_lessBy cyI 319 fe, kx_a q_value cyI 1914 uv, kx_a q_number cyI 1914 un, kx_3 q_joined j_v j_n js jl je, kx_a j_v cyI 12 jv, kx_a j_n cyI 12 jn, kx_3 h0 a_v a_n vs lo le, kx_a a_v cyI 12 fv, kx_a a_n cyI 12 fn]) [0, 1, 2, 3, 4, 5, 6, 7, 8, 9, 10, 11, 12, 13, 14, 15, 16] (by decide) rfl
      have hK9 := hK.sub (tys' := [(cyI, .int)]) [0] rfl
      exact vx_throw0 (names := EXC) hx hb hl0 hown (by decide +kernel) (by decide +kernel) hc_107 hz_ex hat ki_ot hth.2.1 hth.2.2 hS (hl.1.trans hml.symm) dX4_vote_23 dX4_vote_26 dX4_vote_27 dX4_vote_30 (fun x h => (htab x h).elim) (Nat.le_of_ble_eq_true rfl) (Nat.le_of_ble_eq_true rfl) (Nat.le_of_ble_eq_true rfl) (Nat.le_of_ble_eq_true rfl) hlocks (fun t ha hz hk => ⟨(old, nodes, here, ff, ft, fs, fo, fe, uv, un, js, jl, je, jv, jn, vs, lo, le, fv, fn), ⟨(by decide), l0, s0⟩, ⟨rfl, hP9.kept (fun k x hx => hk x.1 ((hP9 k x hx).lt)), va_K.moved ha hK9, hD9⟩, Nat.le_trans hS.1 hz, fun q h1 h2 => (hk q (Nat.lt_of_lt_of_le h1 hS.1)).trans (hS.2.1 q h1 h2)⟩) hS.2.2 (Nat.le_refl _) (Nat.le_refl _)
    · exact absurd c_36 (by decide)

set_option maxHeartbeats 4000000 in
set_option maxRecDepth 100000 in
theorem c_X4_candidate_x (l : Launch) (hl0 : l.stackTraces = false) (dC : Nat → ClassId) (dI : Nat → Nat → Nat) (m_ : Nat) (q_row : Nat) (q_t : Nat) (t_ : Nat) (h0 : Nat) (k0 : Nat) (w_ : Nat) (z_ : Nat) (slots : Int32) (old : Int32) (q_joined : Nat) (q_from : Nat) (q_to : Nat) (q_size : Nat) (q_lossOf : Nat) (q_lessBy : Nat) (q_value : Nat) (q_number : Nat) (nodes : Int32) (here : Int32) (q_cell : Nat) (cyI : ClassId) (len : Int32) (f : Nat → Int32) (ff : Nat → Int32) (ft : Nat → Int32) (fs : Nat → Int32) (fo : Nat → Int32) (uv : Nat → Int32) (un : Nat → Int32) (fe : Nat → Int32) (j_v : Nat) (j_n : Nat) (js : Int32) (jl : Int32) (je : Int32) (jv : Nat → Int32) (jn : Nat → Int32) (a_v : Nat) (a_n : Nat) (vs : Int32) (lo : Int32) (le : Int32) (fv : Nat → Int32) (fn : Nat → Int32) (p0 : Int32) (p1 : Int32) (p2 : Int32) (p3 : Int32) (sz : Nat) (a0 : 0 ≤ len.toInt) (a1 : len.toInt ≤ 160) (s0 : sixes fs) (sl0 : 1 ≤ slots.toInt) (sl1 : slots.toInt ≤ 6) (l0 : laidX old slots here f ff ft fs fo fe uv un nodes len) : vx_Met l yX4_candidate wsX4_candidate ({ frames := 8, cells := 1, slots := 6, locals := 360 }) (va_Pc [.ref m_, .int p0, .int p1, .int p2, .int p3] (fun U => U.heap.size = sz ∧ va_P (dC, dI) vwCl [kx_4 m_ q_row q_t t_ h0 k0 w_ z_ slots old, kx_2 q_t q_row q_joined q_from q_to q_size q_lossOf q_lessBy q_value q_number nodes here, kx_0 q_row q_cell len, kx_a q_cell cyI 160 f, kx_a q_from cyI 319 ff, kx_a q_to cyI 319 ft, kx_a q_size cyI 319 fs, kx_a q_lossOf cyI 319 fo, kx_a q_lessBy cyI 319 fe, kx_a q_value cyI 1914 uv, kx_a q_number cyI 1914 un, kx_3 q_joined j_v j_n js jl je, kx_a j_v cyI 12 jv, kx_a j_n cyI 12 jn, kx_3 h0 a_v a_n vs lo le, kx_a a_v cyI 12 fv, kx_a a_n cyI 12 fn] U.heap ∧ va_K (dC, dI) vwCl [(cyI, .int)] U ∧ va_D (fun _ => True) [kx_4 m_ q_row q_t t_ h0 k0 w_ z_ slots old, kx_2 q_t q_row q_joined q_from q_to q_size q_lossOf q_lessBy q_value q_number nodes here, kx_0 q_row q_cell len, kx_a q_cell cyI 160 f, kx_a q_from cyI 319 ff, kx_a q_to cyI 319 ft, kx_a q_size cyI 319 fs, kx_a q_lossOf cyI 319 fo, kx_a q_lessBy cyI 319 fe, kx_a q_value cyI 1914 uv, kx_a q_number cyI 1914 un, kx_3 q_joined j_v j_n js jl je, kx_a j_v cyI 12 jv, kx_a j_n cyI 12 jn, kx_3 h0 a_v a_n vs lo le, kx_a a_v cyI 12 fv, kx_a a_n cyI 12 fn] ∧ ki_ThA (va_A [kx_4 m_ q_row q_t t_ h0 k0 w_ z_ slots old, kx_2 q_t q_row q_joined q_from q_to q_size q_lossOf q_lessBy q_value q_number nodes here, kx_0 q_row q_cell len, kx_a q_cell cyI 160 f, kx_a q_from cyI 319 ff, kx_a q_to cyI 319 ft, kx_a q_size cyI 319 fs, kx_a q_lossOf cyI 319 fo, kx_a q_lessBy cyI 319 fe, kx_a q_value cyI 1914 uv, kx_a q_number cyI 1914 un, kx_3 q_joined j_v j_n js jl je, kx_a j_v cyI 12 jv, kx_a j_n cyI 12 jn, kx_3 h0 a_v a_n vs lo le, kx_a a_v cyI 12 fv, kx_a a_n cyI 12 fn] sz) U)) (va_Qi (fun (r : Int32) (u : Int32 × Int32 × Int32 × (Nat → Int32) × (Nat → Int32) × (Nat → Int32) × (Nat → Int32) × (Nat → Int32) × (Nat → Int32) × (Nat → Int32) × Int32 × Int32 × Int32 × (Nat → Int32) × (Nat → Int32) × Int32 × Int32 × Int32 × (Nat → Int32) × (Nat → Int32)) => (0 : Int) ≤ 1 ∧ laidX u.1 slots u.2.2.1 f u.2.2.2.1 u.2.2.2.2.1 u.2.2.2.2.2.1 u.2.2.2.2.2.2.1 u.2.2.2.2.2.2.2.1 u.2.2.2.2.2.2.2.2.1 u.2.2.2.2.2.2.2.2.2.1 u.2.1 len ∧ sixes u.2.2.2.2.2.1) (fun (u : Int32 × Int32 × Int32 × (Nat → Int32) × (Nat → Int32) × (Nat → Int32) × (Nat → Int32) × (Nat → Int32) × (Nat → Int32) × (Nat → Int32) × Int32 × Int32 × Int32 × (Nat → Int32) × (Nat → Int32) × Int32 × Int32 × Int32 × (Nat → Int32) × (Nat → Int32)) (t : State) => va_P (dC, dI) vwCl [kx_4 m_ q_row q_t t_ h0 k0 w_ z_ slots u.1, kx_2 q_t q_row q_joined q_from q_to q_size q_lossOf q_lessBy q_value q_number u.2.1 u.2.2.1, kx_0 q_row q_cell len, kx_a q_cell cyI 160 f, kx_a q_from cyI 319 u.2.2.2.1, kx_a q_to cyI 319 u.2.2.2.2.1, kx_a q_size cyI 319 u.2.2.2.2.2.1, kx_a q_lossOf cyI 319 u.2.2.2.2.2.2.1, kx_a q_lessBy cyI 319 u.2.2.2.2.2.2.2.1, kx_a q_value cyI 1914 u.2.2.2.2.2.2.2.2.1, kx_a q_number cyI 1914 u.2.2.2.2.2.2.2.2.2.1, kx_3 q_joined j_v j_n u.2.2.2.2.2.2.2.2.2.2.1 u.2.2.2.2.2.2.2.2.2.2.2.1 u.2.2.2.2.2.2.2.2.2.2.2.2.1, kx_a j_v cyI 12 u.2.2.2.2.2.2.2.2.2.2.2.2.2.1, kx_a j_n cyI 12 u.2.2.2.2.2.2.2.2.2.2.2.2.2.2.1, kx_3 h0 a_v a_n u.2.2.2.2.2.2.2.2.2.2.2.2.2.2.2.1 u.2.2.2.2.2.2.2.2.2.2.2.2.2.2.2.2.1 u.2.2.2.2.2.2.2.2.2.2.2.2.2.2.2.2.2.1, kx_a a_v cyI 12 u.2.2.2.2.2.2.2.2.2.2.2.2.2.2.2.2.2.2.1, kx_a a_n cyI 12 u.2.2.2.2.2.2.2.2.2.2.2.2.2.2.2.2.2.2.2] t.heap ∧ va_K (dC, dI) vwCl [(cyI, .int)] t ∧ va_D (va_A [kx_4 m_ q_row q_t t_ h0 k0 w_ z_ slots old, kx_2 q_t q_row q_joined q_from q_to q_size q_lossOf q_lessBy q_value q_number nodes here, kx_0 q_row q_cell len, kx_a q_cell cyI 160 f, kx_a q_from cyI 319 ff, kx_a q_to cyI 319 ft, kx_a q_size cyI 319 fs, kx_a q_lossOf cyI 319 fo, kx_a q_lessBy cyI 319 fe, kx_a q_value cyI 1914 uv, kx_a q_number cyI 1914 un, kx_3 q_joined j_v j_n js jl je, kx_a j_v cyI 12 jv, kx_a j_n cyI 12 jn, kx_3 h0 a_v a_n vs lo le, kx_a a_v cyI 12 fv, kx_a a_n cyI 12 fn] sz) [kx_4 m_ q_row q_t t_ h0 k0 w_ z_ slots u.1, kx_2 q_t q_row q_joined q_from q_to q_size q_lossOf q_lessBy q_value q_number u.2.1 u.2.2.1, kx_0 q_row q_cell len, kx_a q_cell cyI 160 f, kx_a q_from cyI 319 u.2.2.2.1, kx_a q_to cyI 319 u.2.2.2.2.1, kx_a q_size cyI 319 u.2.2.2.2.2.1, kx_a q_lossOf cyI 319 u.2.2.2.2.2.2.1, kx_a q_lessBy cyI 319 u.2.2.2.2.2.2.2.1, kx_a q_value cyI 1914 u.2.2.2.2.2.2.2.2.1, kx_a q_number cyI 1914 u.2.2.2.2.2.2.2.2.2.1, kx_3 q_joined j_v j_n u.2.2.2.2.2.2.2.2.2.2.1 u.2.2.2.2.2.2.2.2.2.2.2.1 u.2.2.2.2.2.2.2.2.2.2.2.2.1, kx_a j_v cyI 12 u.2.2.2.2.2.2.2.2.2.2.2.2.2.1, kx_a j_n cyI 12 u.2.2.2.2.2.2.2.2.2.2.2.2.2.2.1, kx_3 h0 a_v a_n u.2.2.2.2.2.2.2.2.2.2.2.2.2.2.2.1 u.2.2.2.2.2.2.2.2.2.2.2.2.2.2.2.2.1 u.2.2.2.2.2.2.2.2.2.2.2.2.2.2.2.2.2.1, kx_a a_v cyI 12 u.2.2.2.2.2.2.2.2.2.2.2.2.2.2.2.2.2.2.1, kx_a a_n cyI 12 u.2.2.2.2.2.2.2.2.2.2.2.2.2.2.2.2.2.2.2]) (va_A [kx_4 m_ q_row q_t t_ h0 k0 w_ z_ slots old, kx_2 q_t q_row q_joined q_from q_to q_size q_lossOf q_lessBy q_value q_number nodes here, kx_0 q_row q_cell len, kx_a q_cell cyI 160 f, kx_a q_from cyI 319 ff, kx_a q_to cyI 319 ft, kx_a q_size cyI 319 fs, kx_a q_lossOf cyI 319 fo, kx_a q_lessBy cyI 319 fe, kx_a q_value cyI 1914 uv, kx_a q_number cyI 1914 un, kx_3 q_joined j_v j_n js jl je, kx_a j_v cyI 12 jv, kx_a j_n cyI 12 jn, kx_3 h0 a_v a_n vs lo le, kx_a a_v cyI 12 fv, kx_a a_n cyI 12 fn] sz)) (vx_X (fun u : Int32 × Int32 × Int32 × (Nat → Int32) × (Nat → Int32) × (Nat → Int32) × (Nat → Int32) × (Nat → Int32) × (Nat → Int32) × (Nat → Int32) × Int32 × Int32 × Int32 × (Nat → Int32) × (Nat → Int32) × Int32 × Int32 × Int32 × (Nat → Int32) × (Nat → Int32) => (0 : Int) ≤ 1 ∧ laidX u.1 slots u.2.2.1 f u.2.2.2.1 u.2.2.2.2.1 u.2.2.2.2.2.1 u.2.2.2.2.2.2.1 u.2.2.2.2.2.2.2.1 u.2.2.2.2.2.2.2.2.1 u.2.2.2.2.2.2.2.2.2.1 u.2.1 len ∧ sixes u.2.2.2.2.2.1) (fun (E : String) (u : Int32 × Int32 × Int32 × (Nat → Int32) × (Nat → Int32) × (Nat → Int32) × (Nat → Int32) × (Nat → Int32) × (Nat → Int32) × (Nat → Int32) × Int32 × Int32 × Int32 × (Nat → Int32) × (Nat → Int32) × Int32 × Int32 × Int32 × (Nat → Int32) × (Nat → Int32)) (t : State) => E = EXN ∧ va_P (dC, dI) vwCl [kx_4 m_ q_row q_t t_ h0 k0 w_ z_ slots u.1, kx_2 q_t q_row q_joined q_from q_to q_size q_lossOf q_lessBy q_value q_number u.2.1 u.2.2.1, kx_0 q_row q_cell len, kx_a q_cell cyI 160 f, kx_a q_from cyI 319 u.2.2.2.1, kx_a q_to cyI 319 u.2.2.2.2.1, kx_a q_size cyI 319 u.2.2.2.2.2.1, kx_a q_lossOf cyI 319 u.2.2.2.2.2.2.1, kx_a q_lessBy cyI 319 u.2.2.2.2.2.2.2.1, kx_a q_value cyI 1914 u.2.2.2.2.2.2.2.2.1, kx_a q_number cyI 1914 u.2.2.2.2.2.2.2.2.2.1, kx_3 q_joined j_v j_n u.2.2.2.2.2.2.2.2.2.2.1 u.2.2.2.2.2.2.2.2.2.2.2.1 u.2.2.2.2.2.2.2.2.2.2.2.2.1, kx_a j_v cyI 12 u.2.2.2.2.2.2.2.2.2.2.2.2.2.1, kx_a j_n cyI 12 u.2.2.2.2.2.2.2.2.2.2.2.2.2.2.1, kx_3 h0 a_v a_n u.2.2.2.2.2.2.2.2.2.2.2.2.2.2.2.1 u.2.2.2.2.2.2.2.2.2.2.2.2.2.2.2.2.1 u.2.2.2.2.2.2.2.2.2.2.2.2.2.2.2.2.2.1, kx_a a_v cyI 12 u.2.2.2.2.2.2.2.2.2.2.2.2.2.2.2.2.2.2.1, kx_a a_n cyI 12 u.2.2.2.2.2.2.2.2.2.2.2.2.2.2.2.2.2.2.2] t.heap ∧ va_K (dC, dI) vwCl [(cyI, .int)] t ∧ va_D (va_A [kx_4 m_ q_row q_t t_ h0 k0 w_ z_ slots old, kx_2 q_t q_row q_joined q_from q_to q_size q_lossOf q_lessBy q_value q_number nodes here, kx_0 q_row q_cell len, kx_a q_cell cyI 160 f, kx_a q_from cyI 319 ff, kx_a q_to cyI 319 ft, kx_a q_size cyI 319 fs, kx_a q_lossOf cyI 319 fo, kx_a q_lessBy cyI 319 fe, kx_a q_value cyI 1914 uv, kx_a q_number cyI 1914 un, kx_3 q_joined j_v j_n js jl je, kx_a j_v cyI 12 jv, kx_a j_n cyI 12 jn, kx_3 h0 a_v a_n vs lo le, kx_a a_v cyI 12 fv, kx_a a_n cyI 12 fn] sz) [kx_4 m_ q_row q_t t_ h0 k0 w_ z_ slots u.1, kx_2 q_t q_row q_joined q_from q_to q_size q_lossOf q_lessBy q_value q_number u.2.1 u.2.2.1, kx_0 q_row q_cell len, kx_a q_cell cyI 160 f, kx_a q_from cyI 319 u.2.2.2.1, kx_a q_to cyI 319 u.2.2.2.2.1, kx_a q_size cyI 319 u.2.2.2.2.2.1, kx_a q_lossOf cyI 319 u.2.2.2.2.2.2.1, kx_a q_lessBy cyI 319 u.2.2.2.2.2.2.2.1, kx_a q_value cyI 1914 u.2.2.2.2.2.2.2.2.1, kx_a q_number cyI 1914 u.2.2.2.2.2.2.2.2.2.1, kx_3 q_joined j_v j_n u.2.2.2.2.2.2.2.2.2.2.1 u.2.2.2.2.2.2.2.2.2.2.2.1 u.2.2.2.2.2.2.2.2.2.2.2.2.1, kx_a j_v cyI 12 u.2.2.2.2.2.2.2.2.2.2.2.2.2.1, kx_a j_n cyI 12 u.2.2.2.2.2.2.2.2.2.2.2.2.2.2.1, kx_3 h0 a_v a_n u.2.2.2.2.2.2.2.2.2.2.2.2.2.2.2.1 u.2.2.2.2.2.2.2.2.2.2.2.2.2.2.2.2.1 u.2.2.2.2.2.2.2.2.2.2.2.2.2.2.2.2.2.1, kx_a a_v cyI 12 u.2.2.2.2.2.2.2.2.2.2.2.2.2.2.2.2.2.2.1, kx_a a_n cyI 12 u.2.2.2.2.2.2.2.2.2.2.2.2.2.2.2.2.2.2.2]) (va_A [kx_4 m_ q_row q_t t_ h0 k0 w_ z_ slots old, kx_2 q_t q_row q_joined q_from q_to q_size q_lossOf q_lessBy q_value q_number nodes here, kx_0 q_row q_cell len, kx_a q_cell cyI 160 f, kx_a q_from cyI 319 ff, kx_a q_to cyI 319 ft, kx_a q_size cyI 319 fs, kx_a q_lossOf cyI 319 fo, kx_a q_lessBy cyI 319 fe, kx_a q_value cyI 1914 uv, kx_a q_number cyI 1914 un, kx_3 q_joined j_v j_n js jl je, kx_a j_v cyI 12 jv, kx_a j_n cyI 12 jn, kx_3 h0 a_v a_n vs lo le, kx_a a_v cyI 12 fv, kx_a a_n cyI 12 fn] sz)) 1 6 (va_A [kx_4 m_ q_row q_t t_ h0 k0 w_ z_ slots old, kx_2 q_t q_row q_joined q_from q_to q_size q_lossOf q_lessBy q_value q_number nodes here, kx_0 q_row q_cell len, kx_a q_cell cyI 160 f, kx_a q_from cyI 319 ff, kx_a q_to cyI 319 ft, kx_a q_size cyI 319 fs, kx_a q_lossOf cyI 319 fo, kx_a q_lessBy cyI 319 fe, kx_a q_value cyI 1914 uv, kx_a q_number cyI 1914 un, kx_3 q_joined j_v j_n js jl je, kx_a j_v cyI 12 jv, kx_a j_n cyI 12 jn, kx_3 h0 a_v a_n vs lo le, kx_a a_v cyI 12 fv, kx_a a_n cyI 12 fn] sz) := by
  refine vx_ofW (cc := cX4_candidate) (maxL := 5) (ret := (some .int)) (by decide) rfl ?_
  intro p e s m args below meth c s₁ B hml htab hv
  obtain ⟨rfl, hsz, hP, hK, hD0, hth⟩ := hv
  have hx := B.exec
  have hb := B.bytes
  have hr := B.returns
  have hts := atoms_spec (ws := wsX4_candidate) B.pre
  have hown : s.vm.findClass RX4 = some m.cls := findClass_of_methodNamed B.named
  have hlocks := B.notSynchronized
  have hat : ∀ w ∈ vx_at0 RX4 109 EXN EXC, w.before _ s = true := vx_hat (B := EXD) (fun w h => hts w (List.mem_cons_of_mem _ (List.mem_append_right _ h))) ki_bad (ki_ex hth)
  subst hsz
  have hD := hD0.self (sz := s.heap.size)
  generalize hAe : va_A [kx_4 m_ q_row q_t t_ h0 k0 w_ z_ slots old, kx_2 q_t q_row q_joined q_from q_to q_size q_lossOf q_lessBy q_value q_number nodes here, kx_0 q_row q_cell len, kx_a q_cell cyI 160 f, kx_a q_from cyI 319 ff, kx_a q_to cyI 319 ft, kx_a q_size cyI 319 fs, kx_a q_lossOf cyI 319 fo, kx_a q_lessBy cyI 319 fe, kx_a q_value cyI 1914 uv, kx_a q_number cyI 1914 un, kx_3 q_joined j_v j_n js jl je, kx_a j_v cyI 12 jv, kx_a j_n cyI 12 jn, kx_3 h0 a_v a_n vs lo le, kx_a a_v cyI 12 fv, kx_a a_n cyI 12 fn] s.heap.size = A at hD hth ⊢
  have hA : ∀ q : Nat, s.heap.size ≤ q → A q := fun q h => by rw [← hAe]; exact Or.inr h
  have hS : va_S A s.heap s.heap [] := va_S.rf
  have hP : va_P (dC, dI) vwCl [kx_4 m_ q_row q_t t_ h0 k0 w_ z_ slots old, kx_2 q_t q_row q_joined q_from q_to q_size q_lossOf q_lessBy q_value q_number nodes here, kx_0 q_row q_cell len, kx_a q_cell cyI 160 f, kx_a q_from cyI 319 ff, kx_a q_to cyI 319 ft, kx_a q_size cyI 319 fs, kx_a q_lossOf cyI 319 fo, kx_a q_lessBy cyI 319 fe, kx_a q_value cyI 1914 uv, kx_a q_number cyI 1914 un, kx_3 q_joined j_v j_n js jl je, kx_a j_v cyI 12 jv, kx_a j_n cyI 12 jn, kx_3 h0 a_v a_n vs lo le, kx_a a_v cyI 12 fv, kx_a a_n cyI 12 fn] s.heap := hP
  have hl := lv_entry ([.ref m_, .int p0, .int p1, .int p2, .int p3]) (n := 5) (Nat.le_of_ble_eq_true rfl)
  rw [lg_entry_eq]
  generalize (lg_sl ([.ref m_, .int p0, .int p1, .int p2, .int p3]) ++ List.replicate (5 - (lg_sl ([.ref m_, .int p0, .int p1, .int p2, .int p3])).length) Slot.unset).toArray = ls at hl ⊢
  have hl : lv_has ls 5 [(0, .ref m_), (1, .int p0), (2, .int p1), (3, .int p2), (4, .int p3)] := hl
  have hf_12 := hts (.fieldLink RX4 12 "MajorityIndex" "row" "LMajorityIndex$Row;") (List.mem_of_getElem? (i := 3) rfl)
  have hi_4 : ∀ w ∈ u_ws RX4 TX4 9, w ∈ wsX4_candidate := fun w h => List.mem_cons_of_mem _ (List.mem_append_left _ (List.mem_append_left _ (List.mem_append_left _ (List.mem_append_left _ (List.mem_append_right _ h)))))
  have hc_107 := hts (.classLink RX4 107 EXN) (by decide +kernel)
  have hz_ex := hts (.initialized EXN) (by decide +kernel)
  have hf_35 := hts (.fieldLink RX4 35 "MajorityIndex" "votes" "LMajorityIndex$Votes;") (List.mem_of_getElem? (i := 4) rfl)
  have hf_174 := hts (.fieldLink RX4 174 "MajorityIndex$Votes" "size" "I") (List.mem_of_getElem? (i := 5) rfl)
  have hi_3 : ∀ w ∈ u_ws RX3 TX3 5, w ∈ wsX4_candidate := fun w h => List.mem_cons_of_mem _ (List.mem_append_left _ (List.mem_append_left _ (List.mem_append_left _ (List.mem_append_right _ h))))
  have hf_133 := hts (.fieldLink RX4 133 "MajorityIndex$Votes" "value" "[I") (List.mem_of_getElem? (i := 6) rfl)
  have hf_136 := hts (.fieldLink RX4 136 "MajorityIndex$Votes" "number" "[I") (List.mem_of_getElem? (i := 7) rfl)
  refine lv_aload_n hx hb dX4_candidate_0 rfl (lv_at hl 0 rfl) ?_
  refine va_get (D := (dC, dI)) (ci := 4) (v := .ref q_row) (C := RX4) (T := TX4) (N := 9) hx hb hts hi_4 hown hK hP 0 rfl rfl 0 (by decide) hf_12 (fun _ h9 => h9) rfl dX4_candidate_1 ?_
  refine lv_iload_n hx hb dX4_candidate_4 rfl (lv_at hl 1 rfl) ?_
  refine lv_iload_n hx hb dX4_candidate_5 rfl (lv_at hl 2 rfl) ?_
  have hPc := hP.sub (ws' := [kx_0 q_row q_cell len]) [2] rfl
  have hKc := hK.sub (tys' := []) [] rfl
  refine vp_callSi (W.runV (As := [.int p0, .int p1]) (rest := []) ⟨hx, hb, hml, hown, hts⟩ (c_X0_hasRange l dC dI q_row q_cell len p0 p1) (cwV 2 hts gX4_candidate_X0_hasRange rfl rfl rfl (by decide +kernel) ⟨Nat.le_of_ble_eq_true rfl, Nat.le_of_ble_eq_true rfl⟩) ⟨fun a U g mk q => by obtain ⟨q0, qP, qK⟩ := q; exact ⟨q0, qP, va_K.moved (u := U) (U := U.calling g mk a) (Vm.Alike.refl U.vm) qK⟩, kx_rc0 hKc hPc (q0 := 0) rfl, fun U hU hW => ⟨rfl, by rw [hU]; exact hPc, va_K.moved hW.alike hKc⟩⟩ rfl rfl hl.1 rfl (lv_room (Nat.le_of_ble_eq_true rfl)) dX4_candidate_6 ⟨Nat.le_of_ble_eq_true rfl, Nat.le_of_ble_eq_true rfl⟩) (fun r_1 w_1 => ?_)
  rcases w_1 with ⟨rfl, w_1⟩ | ⟨rfl, w_1⟩
  · have w_1 : (0 ≤ p0.toInt ∧ p0.toInt < p1.toInt ∧ p1.toInt ≤ len.toInt) := w_1
    refine lv_if_eq (tgt := 27) hx hb dX4_candidate_9 (by decide) (fun c_2 => ?_) (fun c_2 => ?_)
    · exact absurd c_2 (by decide)
    · refine lv_iload_n hx hb dX4_candidate_12 rfl (lv_at hl 3 rfl) ?_
      refine lv_if_lt (tgt := 27) hx hb dX4_candidate_13 (by decide) (fun c_3 => ?_) (fun c_3 => ?_)
      · have i_3 : p2.toInt < 0 := kc_lt c_3
        have hP9 := hP.sub (ws' := [kx_4 m_ q_row q_t t_ h0 k0 w_ z_ slots old, kx_2 q_t q_row q_joined q_from q_to q_size q_lossOf q_lessBy q_value q_number nodes here, kx_0 q_row q_cell len, kx_a q_cell cyI 160 f, kx_a q_from cyI 319 ff, kx_a q_to cyI 319 ft, kx_a q_size cyI 319 fs, kx_a q_lossOf cyI 319 fo, kx_a q_lessBy cyI 319 fe, kx_a q_value cyI 1914 uv, kx_a q_number cyI 1914 un, kx_3 q_joined j_v j_n js jl je, kx_a j_v cyI 12 jv, kx_a j_n cyI 12 jn, kx_3 h0 a_v a_n vs lo le, kx_a a_v cyI 12 fv, kx_a a_n cyI 12 fn]) [0, 1, 2, 3, 4, 5, 6, 7, 8, 9, 10, 11, 12, 13, 14, 15, 16] rfl
        have hD9 := hD.sub (ws' := [kx_4 m_ q_row q_t t_ h0 k0 w_ z_ slots old, kx_2 q_t q_row q_joined q_from q_to q_size q_lossOf q_lessBy q_value q_number nodes here, kx_0 q_row q_cell len, kx_a q_cell cyI 160 f, kx_a q_from cyI 319 ff, kx_a q_to cyI 319 ft, kx_a q_size cyI 319 fs, kx_a q_lossOf cyI 319 fo, kx_a q_lessBy cyI 319 fe, kx_a q_value cyI 1914 uv, kx_a q_number cyI 1914 un, kx_3 q_joined j_v j_n js jl je, kx_a j_v cyI 12 jv, kx_a j_n cyI 12 jn, kx_3 h0 a_v a_n vs lo le, kx_a a_v cyI 12 fv, kx_a a_n cyI 12 fn]) [0, 1, 2, 3, 4, 5, 6, 7, 8, 9, 10, 11, 12, 13, 14, 15, 16] (by decide) rfl
        have hK9 := hK.sub (tys' := [(cyI, .int)]) [0] rfl
        exact vx_throw0 (names := EXC) hx hb hl0 hown (by decide +kernel) (by decide +kernel) hc_107 hz_ex hat ki_ot hth.2.1 hth.2.2 hS (hl.1.trans hml.symm) dX4_candidate_27 dX4_candidate_30 dX4_candidate_31 dX4_candidate_34 (fun x h => (htab x h).elim) (Nat.le_of_ble_eq_true rfl) (Nat.le_of_ble_eq_true rfl) (Nat.le_of_ble_eq_true rfl) (Nat.le_of_ble_eq_true rfl) hlocks (fun t ha hz hk => ⟨(old, nodes, here, ff, ft, fs, fo, fe, uv, un, js, jl, je, jv, jn, vs, lo, le, fv, fn), ⟨(by decide), l0, s0⟩, ⟨rfl, hP9.kept (fun k x hx => hk x.1 ((hP9 k x hx).lt)), va_K.moved ha hK9, hD9⟩, Nat.le_trans hS.1 hz, fun q h1 h2 => (hk q (Nat.lt_of_lt_of_le h1 hS.1)).trans (hS.2.1 q h1 h2)⟩) hS.2.2 (Nat.le_refl _) (Nat.le_refl _)
      · have i_3 : 0 ≤ p2.toInt := kc_nlt c_3
        refine lv_iload hx hb dX4_candidate_16 (lv_at hl 4 rfl) ?_
        refine lv_if_lt (tgt := 27) hx hb dX4_candidate_18 (by decide) (fun c_4 => ?_) (fun c_4 => ?_)
        · have i_4 : p3.toInt < 0 := kc_lt c_4
          have hP9 := hP.sub (ws' := [kx_4 m_ q_row q_t t_ h0 k0 w_ z_ slots old, kx_2 q_t q_row q_joined q_from q_to q_size q_lossOf q_lessBy q_value q_number nodes here, kx_0 q_row q_cell len, kx_a q_cell cyI 160 f, kx_a q_from cyI 319 ff, kx_a q_to cyI 319 ft, kx_a q_size cyI 319 fs, kx_a q_lossOf cyI 319 fo, kx_a q_lessBy cyI 319 fe, kx_a q_value cyI 1914 uv, kx_a q_number cyI 1914 un, kx_3 q_joined j_v j_n js jl je, kx_a j_v cyI 12 jv, kx_a j_n cyI 12 jn, kx_3 h0 a_v a_n vs lo le, kx_a a_v cyI 12 fv, kx_a a_n cyI 12 fn]) [0, 1, 2, 3, 4, 5, 6, 7, 8, 9, 10, 11, 12, 13, 14, 15, 16] rfl
          have hD9 := hD.sub (ws' := [kx_4 m_ q_row q_t t_ h0 k0 w_ z_ slots old, kx_2 q_t q_row q_joined q_from q_to q_size q_lossOf q_lessBy q_value q_number nodes here, kx_0 q_row q_cell len, kx_a q_cell cyI 160 f, kx_a q_from cyI 319 ff, kx_a q_to cyI 319 ft, kx_a q_size cyI 319 fs, kx_a q_lossOf cyI 319 fo, kx_a q_lessBy cyI 319 fe, kx_a q_value cyI 1914 uv, kx_a q_number cyI 1914 un, kx_3 q_joined j_v j_n js jl je, kx_a j_v cyI 12 jv, kx_a j_n cyI 12 jn, kx_3 h0 a_v a_n vs lo le, kx_a a_v cyI 12 fv, kx_a a_n cyI 12 fn]) [0, 1, 2, 3, 4, 5, 6, 7, 8, 9, 10, 11, 12, 13, 14, 15, 16] (by decide) rfl
          have hK9 := hK.sub (tys' := [(cyI, .int)]) [0] rfl
          exact vx_throw0 (names := EXC) hx hb hl0 hown (by decide +kernel) (by decide +kernel) hc_107 hz_ex hat ki_ot hth.2.1 hth.2.2 hS (hl.1.trans hml.symm) dX4_candidate_27 dX4_candidate_30 dX4_candidate_31 dX4_candidate_34 (fun x h => (htab x h).elim) (Nat.le_of_ble_eq_true rfl) (Nat.le_of_ble_eq_true rfl) (Nat.le_of_ble_eq_true rfl) (Nat.le_of_ble_eq_true rfl) hlocks (fun t ha hz hk => ⟨(old, nodes, here, ff, ft, fs, fo, fe, uv, un, js, jl, je, jv, jn, vs, lo, le, fv, fn), ⟨(by decide), l0, s0⟩, ⟨rfl, hP9.kept (fun k x hx => hk x.1 ((hP9 k x hx).lt)), va_K.moved ha hK9, hD9⟩, Nat.le_trans hS.1 hz, fun q h1 h2 => (hk q (Nat.lt_of_lt_of_le h1 hS.1)).trans (hS.2.1 q h1 h2)⟩) hS.2.2 (Nat.le_refl _) (Nat.le_refl _)
        · have i_4 : 0 ≤ p3.toInt := kc_nlt c_4
          refine lv_iload hx hb dX4_candidate_21 (lv_at hl 4 rfl) ?_
          refine lv_iconst (v := 2) hx hb dX4_candidate_23 (by decide) ?_
          refine lv_icmp_le (tgt := 35) hx hb dX4_candidate_24 (by decide) (fun c_5 => ?_) (fun c_5 => ?_)
          · have i_5 : p3.toInt ≤ 2 := kc_le c_5
            refine lv_aload_n hx hb dX4_candidate_35 rfl (lv_at hl 0 rfl) ?_
            obtain ⟨hPc, hDc, hFc, hCc⟩ := kx_preM (wc := [kx_4 m_ q_row q_t t_ h0 k0 w_ z_ slots old, kx_2 q_t q_row q_joined q_from q_to q_size q_lossOf q_lessBy q_value q_number nodes here, kx_0 q_row q_cell len, kx_a q_cell cyI 160 f, kx_a q_from cyI 319 ff, kx_a q_to cyI 319 ft, kx_a q_size cyI 319 fs, kx_a q_lossOf cyI 319 fo, kx_a q_lessBy cyI 319 fe, kx_a q_value cyI 1914 uv, kx_a q_number cyI 1914 un, kx_3 q_joined j_v j_n js jl je, kx_a j_v cyI 12 jv, kx_a j_n cyI 12 jn]) hP hD hS hA [true, true, true, true, true, true, true, true, true, true, true, true, true, true, false, false, false] rfl
            have hKc := hK
            refine va_callr (va_runV (As := []) (rest := []) ⟨hx, hb, hml, hown, hts⟩ (kx_un (c_X4_laidTree_x l dC dI m_ q_row q_t t_ h0 k0 w_ z_ slots old q_joined q_from q_to q_size q_lossOf q_lessBy q_value q_number nodes here q_cell cyI len f ff ft fs fo uv un fe j_v j_n js jl je jv jn s.heap.size a0 a1 s0 sl0 sl1 l0)) (cwV 0 hts gX4_candidate_X4_laidTree rfl rfl rfl (by decide +kernel) ⟨Nat.le_of_ble_eq_true rfl, Nat.le_of_ble_eq_true rfl⟩) ⟨fun a U g mk q => by obtain ⟨q0, q1, qP, qK, qD⟩ := q; exact ⟨q0, q1, qP, va_K.moved (u := U) (U := U.calling g mk a) (Vm.Alike.refl U.vm) qK, qD⟩, kx_rc4 hKc hPc (q0 := 0) rfl, fun U hU hW => ⟨rfl, by rw [hU], by rw [hU]; exact hPc, va_K.moved hW.alike hKc, hDc.weaken (fun _ _ _ _ => trivial)⟩⟩ rfl rfl hl.1 rfl (lv_room (Nat.le_of_ble_eq_true rfl)) dX4_candidate_36 ⟨Nat.le_of_ble_eq_true rfl, Nat.le_of_ble_eq_true rfl⟩) hS (fun q _ h => hFc q h) hFc (fun u ra t H1 locs ht hvm w_6 hB hz1 hk1 hS => ?_)
            obtain ⟨o_7, o_8, o_9, o_10, o_11, o_12, o_13, o_14, o_15, o_16, o_17, o_18, o_19, o_20, o_21⟩ := u
            dsimp only at w_6 hB
            obtain ⟨er, hP1, hK1, hD1⟩ := hB
            rw [ht] at hP1
            have hK1 := va_K.moved hvm.symm hK1
            obtain ⟨hP, hD⟩ := kx_joinM (w2 := [kx_4 m_ q_row q_t t_ h0 k0 w_ z_ slots o_7, kx_2 q_t q_row q_joined q_from q_to q_size q_lossOf q_lessBy q_value q_number o_8 o_9, kx_0 q_row q_cell len, kx_a q_cell cyI 160 f, kx_a q_from cyI 319 o_10, kx_a q_to cyI 319 o_11, kx_a q_size cyI 319 o_12, kx_a q_lossOf cyI 319 o_13, kx_a q_lessBy cyI 319 o_14, kx_a q_value cyI 1914 o_15, kx_a q_number cyI 1914 o_16, kx_3 q_joined j_v j_n o_17 o_18 o_19, kx_a j_v cyI 12 o_20, kx_a j_n cyI 12 o_21, kx_3 h0 a_v a_n vs lo le, kx_a a_v cyI 12 fv, kx_a a_n cyI 12 fn]) hP hD hP1 hD1 hk1 hFc [true, true, true, true, true, true, true, true, true, true, true, true, true, true, false, false, false] hCc rfl
            clear hP1 hD1 hK1 hk1 hz1 hFc hDc hPc hKc hCc
            generalize H1 = H at hP hS ⊢
            have w_6 : o_7.toInt = 0 ∧ o_9 = slots ∧ sixes o_12 ∧ mj_C slots.toNatClampNeg f o_10 o_11 o_12 o_13 o_14 o_15 o_16 o_8.toInt len.toInt ∧ 0 ≤ o_8.toInt ∧ o_8.toInt ≤ 319 ∧ treeOk o_10 o_11 o_8.toInt len.toInt := w_6
            rw [er]
            refine lv_aload_n hx hb dX4_candidate_39 rfl (lv_at hl 0 rfl) ?_
            refine va_get (D := (dC, dI)) (ci := 4) (v := .ref h0) (C := RX4) (T := TX4) (N := 9) hx hb hts hi_4 hown hK hP 0 rfl rfl 3 (by decide) hf_35 (fun _ h9 => h9) rfl dX4_candidate_40 ?_
            refine lv_iload_n hx hb dX4_candidate_43 rfl (lv_at hl 1 rfl) ?_
            refine lv_iload_n hx hb dX4_candidate_44 rfl (lv_at hl 2 rfl) ?_
            obtain ⟨hPc, hDc, hFc, hCc⟩ := kx_preM (wc := [kx_2 q_t q_row q_joined q_from q_to q_size q_lossOf q_lessBy q_value q_number o_8 o_9, kx_a q_from cyI 319 o_10, kx_a q_to cyI 319 o_11, kx_a q_size cyI 319 o_12, kx_a q_lossOf cyI 319 o_13, kx_a q_value cyI 1914 o_15, kx_a q_number cyI 1914 o_16, kx_3 h0 a_v a_n vs lo le, kx_a a_v cyI 12 fv, kx_a a_n cyI 12 fn]) hP hD hS hA [false, true, false, false, true, true, true, true, false, true, true, false, false, false, true, true, true] rfl
            have hKc := hK
            refine va_callv (va_runV (As := [.ref h0, .int p0, .int p1]) (rest := []) ⟨hx, hb, hml, hown, hts⟩ (kx_un (c_X2_gather l dC dI q_t q_row q_joined q_from q_to q_size q_lossOf q_lessBy q_value q_number o_8 o_9 h0 a_v a_n cyI vs lo le fv fn o_10 o_11 o_12 o_13 o_15 o_16 p0 p1 H.size w_6.2.2.2.2.1 w_6.2.2.2.2.2.1 w_6.2.2.1)) (cwV 3 hts gX4_candidate_X2_gather rfl rfl rfl (by decide +kernel) ⟨Nat.le_of_ble_eq_true rfl, Nat.le_of_ble_eq_true rfl⟩) ⟨fun a U g mk q => by obtain ⟨q0, q1, qP, qK, qD⟩ := q; exact ⟨q0, q1, qP, va_K.moved (u := U) (U := U.calling g mk a) (Vm.Alike.refl U.vm) qK, qD⟩, kx_rc2 hKc hPc (q0 := 0) rfl, fun U hU hW => ⟨rfl, by rw [hU], by rw [hU]; exact hPc, va_K.moved hW.alike hKc, hDc.weaken (fun _ _ _ _ => trivial)⟩⟩ rfl rfl hl.1 rfl (lv_room (Nat.le_of_ble_eq_true rfl)) dX4_candidate_45 ⟨Nat.le_of_ble_eq_true rfl, Nat.le_of_ble_eq_true rfl⟩) hS (fun q _ h => hFc q h) hFc (fun u t H1 locs ht hvm w_22 hB hz1 hk1 hS => ?_)
            obtain ⟨o_23, o_24, o_25, o_26, o_27⟩ := u
            dsimp only at w_22 hB
            obtain ⟨hP1, hK1, hD1⟩ := hB
            rw [ht] at hP1
            have hK1 := va_K.moved hvm.symm hK1
            obtain ⟨hP, hD⟩ := kx_joinM (w2 := [kx_4 m_ q_row q_t t_ h0 k0 w_ z_ slots o_7, kx_2 q_t q_row q_joined q_from q_to q_size q_lossOf q_lessBy q_value q_number o_8 o_9, kx_0 q_row q_cell len, kx_a q_cell cyI 160 f, kx_a q_from cyI 319 o_10, kx_a q_to cyI 319 o_11, kx_a q_size cyI 319 o_12, kx_a q_lossOf cyI 319 o_13, kx_a q_lessBy cyI 319 o_14, kx_a q_value cyI 1914 o_15, kx_a q_number cyI 1914 o_16, kx_3 q_joined j_v j_n o_17 o_18 o_19, kx_a j_v cyI 12 o_20, kx_a j_n cyI 12 o_21, kx_3 h0 a_v a_n o_23 o_24 o_25, kx_a a_v cyI 12 o_26, kx_a a_n cyI 12 o_27]) hP hD hP1 hD1 hk1 hFc [false, true, false, false, true, true, true, true, false, true, true, false, false, false, true, true, true] hCc rfl
            clear hP1 hD1 hK1 hk1 hz1 hFc hDc hPc hKc hCc
            generalize H1 = H at hP hS ⊢
            have w_22 : 0 ≤ o_23.toInt ∧ o_23.toInt ≤ 12 := w_22
            refine lv_iload_n hx hb dX4_candidate_48 rfl (lv_at hl 3 rfl) ?_
            refine lv_aload_n hx hb dX4_candidate_49 rfl (lv_at hl 0 rfl) ?_
            refine va_get (D := (dC, dI)) (ci := 4) (v := .ref h0) (C := RX4) (T := TX4) (N := 9) hx hb hts hi_4 hown hK hP 0 rfl rfl 3 (by decide) hf_35 (fun _ h9 => h9) rfl dX4_candidate_50 ?_
            refine va_get (D := (dC, dI)) (ci := 3) (v := .int o_23) (C := RX3) (T := TX3) (N := 5) hx hb hts hi_3 hown hK hP 14 rfl rfl 2 (by decide) hf_174 (fun _ h9 => h9) rfl dX4_candidate_53 ?_
            refine lv_icmp_lt (tgt := 67) hx hb dX4_candidate_56 (by decide) (fun c_28 => ?_) (fun c_28 => ?_)
            · have i_28 : p2.toInt < o_23.toInt := kc_lt c_28
              refine lv_iload hx hb dX4_candidate_67 (lv_at hl 4 rfl) ?_
              by_cases s_29 : p3.toInt = 0
              · refine lv_lookup (tgt := 96) (off := 27) hx hb dX4_candidate_69 (by decide) (by rw [s_29]; rfl) (by decide) ?_
                refine lv_aload_n hx hb dX4_candidate_96 rfl (lv_at hl 0 rfl) ?_
                refine va_get (D := (dC, dI)) (ci := 4) (v := .ref h0) (C := RX4) (T := TX4) (N := 9) hx hb hts hi_4 hown hK hP 0 rfl rfl 3 (by decide) hf_35 (fun _ h9 => h9) rfl dX4_candidate_97 ?_
                refine va_get (D := (dC, dI)) (ci := 3) (v := .ref a_v) (C := RX3) (T := TX3) (N := 5) hx hb hts hi_3 hown hK hP 14 rfl rfl 0 (by decide) hf_133 (fun _ h9 => h9) rfl dX4_candidate_100 ?_
                refine lv_iload_n hx hb dX4_candidate_103 rfl (lv_at hl 3 rfl) ?_
                refine va_iald hx hb hK hP 15 0 rfl rfl (ki_in (om_10 i_3) (om_32 w_22.2 i_28)) dX4_candidate_104 ?_
                refine lv_topi (fun y_30 ey_30 => ?_)
                have j_30 : y_30.toInt = (o_26 p2.toNatClampNeg).toInt := congrArg Int32.toInt ey_30
                refine vx_ret ?_
                have hP9 := hP
                have hD9 := hD
                have hK9 := hK
                refine W.widen (k := 1) (n := 6) (Nat.le_of_ble_eq_true rfl) (Nat.le_of_ble_eq_true rfl) ?_
                exact W.iret (v := y_30) hx hb hr (hlocks := hlocks) (fun t ht hW => ⟨⟨y_30, (o_7, o_8, o_9, o_10, o_11, o_12, o_13, o_14, o_15, o_16, o_17, o_18, o_19, o_20, o_21, o_23, o_24, o_25, o_26, o_27), rfl, ⟨(by (try dsimp only); decide), (fun _ => ⟨w_6.2.1, w_6.2.2.2.1⟩), w_6.2.2.1⟩, by rw [ht]; exact hP9, va_K.moved hW.alike hK9, hD9⟩, hS.F ht⟩) hS.2.2 dX4_candidate_105
              by_cases s_31 : p3.toInt = 1
              · refine lv_lookup (tgt := 106) (off := 37) hx hb dX4_candidate_69 (by decide) (by rw [s_31]; rfl) (by decide) ?_
                refine lv_aload_n hx hb dX4_candidate_106 rfl (lv_at hl 0 rfl) ?_
                refine va_get (D := (dC, dI)) (ci := 4) (v := .ref h0) (C := RX4) (T := TX4) (N := 9) hx hb hts hi_4 hown hK hP 0 rfl rfl 3 (by decide) hf_35 (fun _ h9 => h9) rfl dX4_candidate_107 ?_
                refine va_get (D := (dC, dI)) (ci := 3) (v := .ref a_n) (C := RX3) (T := TX3) (N := 5) hx hb hts hi_3 hown hK hP 14 rfl rfl 1 (by decide) hf_136 (fun _ h9 => h9) rfl dX4_candidate_110 ?_
                refine lv_iload_n hx hb dX4_candidate_113 rfl (lv_at hl 3 rfl) ?_
                refine va_iald hx hb hK hP 16 0 rfl rfl (ki_in (om_10 i_3) (om_32 w_22.2 i_28)) dX4_candidate_114 ?_
                refine lv_topi (fun y_32 ey_32 => ?_)
                have j_32 : y_32.toInt = (o_27 p2.toNatClampNeg).toInt := congrArg Int32.toInt ey_32
                refine vx_ret ?_
                have hP9 := hP
                have hD9 := hD
                have hK9 := hK
                refine W.widen (k := 1) (n := 6) (Nat.le_of_ble_eq_true rfl) (Nat.le_of_ble_eq_true rfl) ?_
                exact W.iret (v := y_32) hx hb hr (hlocks := hlocks) (fun t ht hW => ⟨⟨y_32, (o_7, o_8, o_9, o_10, o_11, o_12, o_13, o_14, o_15, o_16, o_17, o_18, o_19, o_20, o_21, o_23, o_24, o_25, o_26, o_27), rfl, ⟨(by (try dsimp only); decide), (fun _ => ⟨w_6.2.1, w_6.2.2.2.1⟩), w_6.2.2.1⟩, by rw [ht]; exact hP9, va_K.moved hW.alike hK9, hD9⟩, hS.F ht⟩) hS.2.2 dX4_candidate_115
              have s_33 : p3.toInt = 2 := by omega
              refine lv_lookup (tgt := 116) (off := 47) hx hb dX4_candidate_69 (by decide) (by rw [s_33]; rfl) (by decide) ?_
              refine lv_aload_n hx hb dX4_candidate_116 rfl (lv_at hl 0 rfl) ?_
              refine va_get (D := (dC, dI)) (ci := 4) (v := .ref q_row) (C := RX4) (T := TX4) (N := 9) hx hb hts hi_4 hown hK hP 0 rfl rfl 0 (by decide) hf_12 (fun _ h9 => h9) rfl dX4_candidate_117 ?_
              refine lv_aload_n hx hb dX4_candidate_120 rfl (lv_at hl 0 rfl) ?_
              refine va_get (D := (dC, dI)) (ci := 4) (v := .ref h0) (C := RX4) (T := TX4) (N := 9) hx hb hts hi_4 hown hK hP 0 rfl rfl 3 (by decide) hf_35 (fun _ h9 => h9) rfl dX4_candidate_121 ?_
              refine va_get (D := (dC, dI)) (ci := 3) (v := .ref a_v) (C := RX3) (T := TX3) (N := 5) hx hb hts hi_3 hown hK hP 14 rfl rfl 0 (by decide) hf_133 (fun _ h9 => h9) rfl dX4_candidate_124 ?_
              refine lv_iload_n hx hb dX4_candidate_127 rfl (lv_at hl 3 rfl) ?_
              refine va_iald hx hb hK hP 15 0 rfl rfl (ki_in (om_10 i_3) (om_32 w_22.2 i_28)) dX4_candidate_128 ?_
              refine lv_topi (fun y_34 ey_34 => ?_)
              have j_34 : y_34.toInt = (o_26 p2.toNatClampNeg).toInt := congrArg Int32.toInt ey_34
              refine lv_iload_n hx hb dX4_candidate_129 rfl (lv_at hl 1 rfl) ?_
              refine lv_iload_n hx hb dX4_candidate_130 rfl (lv_at hl 2 rfl) ?_
              have hPc := hP.sub (ws' := [kx_0 q_row q_cell len, kx_a q_cell cyI 160 f]) [2, 3] rfl
              have hKc := hK
              refine vp_callSi (W.runV (As := [.int y_34, .int p0, .int p1]) (rest := []) ⟨hx, hb, hml, hown, hts⟩ (c_X0_oftenIn l dC dI q_row q_cell cyI len f y_34 p0 p1 (om_10 w_1.1) (om_167 a1 w_1.2.2)) (cwV 3 hts gX4_candidate_X0_oftenIn rfl rfl rfl (by decide +kernel) ⟨Nat.le_of_ble_eq_true rfl, Nat.le_of_ble_eq_true rfl⟩) ⟨fun a U g mk q => by obtain ⟨q0, qP, qK⟩ := q; exact ⟨q0, qP, va_K.moved (u := U) (U := U.calling g mk a) (Vm.Alike.refl U.vm) qK⟩, kx_rc0 hKc hPc (q0 := 0) rfl, fun U hU hW => ⟨rfl, by rw [hU]; exact hPc, va_K.moved hW.alike hKc⟩⟩ rfl rfl hl.1 rfl (lv_room (Nat.le_of_ble_eq_true rfl)) dX4_candidate_131 ⟨Nat.le_of_ble_eq_true rfl, Nat.le_of_ble_eq_true rfl⟩) (fun r_35 w_35 => ?_)
              have w_35 : r_35.toInt = (cnt f y_34 p0.toNatClampNeg (p1.toInt - p0.toInt).toNat : Int) := w_35
              refine vx_ret ?_
              have hP9 := hP
              have hD9 := hD
              have hK9 := hK
              refine W.widen (k := 1) (n := 6) (Nat.le_of_ble_eq_true rfl) (Nat.le_of_ble_eq_true rfl) ?_
              exact W.iret (v := r_35) hx hb hr (hlocks := hlocks) (fun t ht hW => ⟨⟨r_35, (o_7, o_8, o_9, o_10, o_11, o_12, o_13, o_14, o_15, o_16, o_17, o_18, o_19, o_20, o_21, o_23, o_24, o_25, o_26, o_27), rfl, ⟨(by (try dsimp only); decide), (fun _ => ⟨w_6.2.1, w_6.2.2.2.1⟩), w_6.2.2.1⟩, by rw [ht]; exact hP9, va_K.moved hW.alike hK9, hD9⟩, hS.F ht⟩) hS.2.2 dX4_candidate_134
            · have i_28 : o_23.toInt ≤ p2.toInt := kc_nlt c_28
              have hP9 := hP.sub (ws' := [kx_4 m_ q_row q_t t_ h0 k0 w_ z_ slots o_7, kx_2 q_t q_row q_joined q_from q_to q_size q_lossOf q_lessBy q_value q_number o_8 o_9, kx_0 q_row q_cell len, kx_a q_cell cyI 160 f, kx_a q_from cyI 319 o_10, kx_a q_to cyI 319 o_11, kx_a q_size cyI 319 o_12, kx_a q_lossOf cyI 319 o_13, kx_a q_lessBy cyI 319 o_14, kx_a q_value cyI 1914 o_15, kx_a q_number cyI 1914 o_16, kx_3 q_joined j_v j_n o_17 o_18 o_19, kx_a j_v cyI 12 o_20, kx_a j_n cyI 12 o_21, kx_3 h0 a_v a_n o_23 o_24 o_25, kx_a a_v cyI 12 o_26, kx_a a_n cyI 12 o_27]) [0, 1, 2, 3, 4, 5, 6, 7, 8, 9, 10, 11, 12, 13, 14, 15, 16] rfl
              have hD9 := hD.sub (ws' := [kx_4 m_ q_row q_t t_ h0 k0 w_ z_ slots o_7, kx_2 q_t q_row q_joined q_from q_to q_size q_lossOf q_lessBy q_value q_number o_8 o_9, kx_0 q_row q_cell len, kx_a q_cell cyI 160 f, kx_a q_from cyI 319 o_10, kx_a q_to cyI 319 o_11, kx_a q_size cyI 319 o_12, kx_a q_lossOf cyI 319 o_13, kx_a q_lessBy cyI 319 o_14, kx_a q_value cyI 1914 o_15, kx_a q_number cyI 1914 o_16, kx_3 q_joined j_v j_n o_17 o_18 o_19, kx_a j_v cyI 12 o_20, kx_a j_n cyI 12 o_21, kx_3 h0 a_v a_n o_23 o_24 o_25, kx_a a_v cyI 12 o_26, kx_a a_n cyI 12 o_27]) [0, 1, 2, 3, 4, 5, 6, 7, 8, 9, 10, 11, 12, 13, 14, 15, 16] (by decide) rfl
              have hK9 := hK.sub (tys' := [(cyI, .int)]) [0] rfl
              exact vx_throw0 (names := EXC) hx hb hl0 hown (by decide +kernel) (by decide +kernel) hc_107 hz_ex hat ki_ot hth.2.1 hth.2.2 hS (hl.1.trans hml.symm) dX4_candidate_59 dX4_candidate_62 dX4_candidate_63 dX4_candidate_66 (fun x h => (htab x h).elim) (Nat.le_of_ble_eq_true rfl) (Nat.le_of_ble_eq_true rfl) (Nat.le_of_ble_eq_true rfl) (Nat.le_of_ble_eq_true rfl) hlocks (fun t ha hz hk => ⟨(o_7, o_8, o_9, o_10, o_11, o_12, o_13, o_14, o_15, o_16, o_17, o_18, o_19, o_20, o_21, o_23, o_24, o_25, o_26, o_27), ⟨(by decide), (fun _ => ⟨w_6.2.1, w_6.2.2.2.1⟩), w_6.2.2.1⟩, ⟨rfl, hP9.kept (fun k x hx => hk x.1 ((hP9 k x hx).lt)), va_K.moved ha hK9, hD9⟩, Nat.le_trans hS.1 hz, fun q h1 h2 => (hk q (Nat.lt_of_lt_of_le h1 hS.1)).trans (hS.2.1 q h1 h2)⟩) hS.2.2 (Nat.le_refl _) (Nat.le_refl _)
          · have i_5 : 2 < p3.toInt := kc_nle c_5
            have hP9 := hP.sub (ws' := [kx_4 m_ q_row q_t t_ h0 k0 w_ z_ slots old, kx_2 q_t q_row q_joined q_from q_to q_size q_lossOf q_lessBy q_value q_number nodes here, kx_0 q_row q_cell len, kx_a q_cell cyI 160 f, kx_a q_from cyI 319 ff, kx_a q_to cyI 319 ft, kx_a q_size cyI 319 fs, kx_a q_lossOf cyI 319 fo, kx_a q_lessBy cyI 319 fe, kx_a q_value cyI 1914 uv, kx_a q_number cyI 1914 un, kx_3 q_joined j_v j_n js jl je, kx_a j_v cyI 12 jv, kx_a j_n cyI 12 jn, kx_3 h0 a_v a_n vs lo le, kx_a a_v cyI 12 fv, kx_a a_n cyI 12 fn]) [0, 1, 2, 3, 4, 5, 6, 7, 8, 9, 10, 11, 12, 13, 14, 15, 16] rfl
            have hD9 := hD.sub (ws' := [kx_4 m_ q_row q_t t_ h0 k0 w_ z_ slots old, kx_2 q_t q_row q_joined q_from q_to q_size q_lossOf q_lessBy q_value q_number nodes here, kx_0 q_row q_cell len, kx_a q_cell cyI 160 f, kx_a q_from cyI 319 ff, kx_a q_to cyI 319 ft, kx_a q_size cyI 319 fs, kx_a q_lossOf cyI 319 fo, kx_a q_lessBy cyI 319 fe, kx_a q_value cyI 1914 uv, kx_a q_number cyI 1914 un, kx_3 q_joined j_v j_n js jl je, kx_a j_v cyI 12 jv, kx_a j_n cyI 12 jn, kx_3 h0 a_v a_n vs lo le, kx_a a_v cyI 12 fv, kx_a a_n cyI 12 fn]) [0, 1, 2, 3, 4, 5, 6, 7, 8, 9, 10, 11, 12, 13, 14, 15, 16] (by decide) rfl
            have hK9 := hK.sub (tys' := [(cyI, .int)]) [0] rfl
            exact vx_throw0 (names := EXC) hx hb hl0 hown (by decide +kernel) (by decide +kernel) hc_107 hz_ex hat ki_ot hth.2.1 hth.2.2 hS (hl.1.trans hml.symm) dX4_candidate_27 dX4_candidate_30 dX4_candidate_31 dX4_candidate_34 (fun x h => (htab x h).elim) (Nat.le_of_ble_eq_true rfl) (Nat.le_of_ble_eq_true rfl) (Nat.le_of_ble_eq_true rfl) (Nat.le_of_ble_eq_true rfl) hlocks (fun t ha hz hk => ⟨(old, nodes, here, ff, ft, fs, fo, fe, uv, un, js, jl, je, jv, jn, vs, lo, le, fv, fn), ⟨(by decide), l0, s0⟩, ⟨rfl, hP9.kept (fun k x hx => hk x.1 ((hP9 k x hx).lt)), va_K.moved ha hK9, hD9⟩, Nat.le_trans hS.1 hz, fun q h1 h2 => (hk q (Nat.lt_of_lt_of_le h1 hS.1)).trans (hS.2.1 q h1 h2)⟩) hS.2.2 (Nat.le_refl _) (Nat.le_refl _)
  · have w_1 : (p0.toInt < 0 ∨ p1.toInt ≤ p0.toInt ∨ len.toInt < p1.toInt) := w_1
    refine lv_if_eq (tgt := 27) hx hb dX4_candidate_9 (by decide) (fun c_36 => ?_) (fun c_36 => ?_)
    · have hP9 := hP.sub (ws' := [kx_4 m_ q_row q_t t_ h0 k0 w_ z_ slots old, kx_2 q_t q_row q_joined q_from q_to q_size q_lossOf q_lessBy q_value q_number nodes here, kx_0 q_row q_cell len, kx_a q_cell cyI 160 f, kx_a q_from cyI 319 ff, kx_a q_to cyI 319 ft, kx_a q_size cyI 319 fs, kx_a q_lossOf cyI 319 fo, kx_a q_lessBy cyI 319 fe, kx_a q_value cyI 1914 uv, kx_a q_number cyI 1914 un, kx_3 q_joined j_v j_n js jl je, kx_a j_v cyI 12 jv, kx_a j_n cyI 12 jn, kx_3 h0 a_v a_n vs lo le, kx_a a_v cyI 12 fv, kx_a a_n cyI 12 fn]) [0, 1, 2, 3, 4, 5, 6, 7, 8, 9, 10, 11, 12, 13, 14, 15, 16] rfl
      have hD9 := hD.sub (ws' := [kx_4 m_ q_row q_t t_ h0 k0 w_ z_ slots old, kx_2 q_t q_row q_joined q_from q_to q_size q_lossOf q_lessBy q_value q_number nodes here, kx_0 q_row q_cell len, kx_a q_cell cyI 160 f, kx_a q_from cyI 319 ff, kx_a q_to cyI 319 ft, kx_a q_size cyI 319 fs, kx_a q_lossOf cyI 319 fo, kx_a q_lessBy cyI 319 fe, kx_a q_value cyI 1914 uv, kx_a q_number cyI 1914 un, kx_3 q_joined j_v j_n js jl je, kx_a j_v cyI 12 jv, kx_a j_n cyI 12 jn, kx_3 h0 a_v a_n vs lo le, kx_a a_v cyI 12 fv, kx_a a_n cyI 12 fn]) [0, 1, 2, 3, 4, 5, 6, 7, 8, 9, 10, 11, 12, 13, 14, 15, 16] (by decide) rfl
      have hK9 := hK.sub (tys' := [(cyI, .int)]) [0] rfl
      exact vx_throw0 (names := EXC) hx hb hl0 hown (by decide +kernel) (by decide +kernel) hc_107 hz_ex hat ki_ot hth.2.1 hth.2.2 hS (hl.1.trans hml.symm) dX4_candidate_27 dX4_candidate_30 dX4_candidate_31 dX4_candidate_34 (fun x h => (htab x h).elim) (Nat.le_of_ble_eq_true rfl) (Nat.le_of_ble_eq_true rfl) (Nat.le_of_ble_eq_true rfl) (Nat.le_of_ble_eq_true rfl) hlocks (fun t ha hz hk => ⟨(old, nodes, here, ff, ft, fs, fo, fe, uv, un, js, jl, je, jv, jn, vs, lo, le, fv, fn), ⟨(by decide), l0, s0⟩, ⟨rfl, hP9.kept (fun k x hx => hk x.1 ((hP9 k x hx).lt)), va_K.moved ha hK9, hD9⟩, Nat.le_trans hS.1 hz, fun q h1 h2 => (hk q (Nat.lt_of_lt_of_le h1 hS.1)).trans (hS.2.1 q h1 h2)⟩) hS.2.2 (Nat.le_refl _) (Nat.le_refl _)
    · exact absurd c_36 (by decide)

set_option maxHeartbeats 4000000 in
set_option maxRecDepth 100000 in
theorem c_X4_heavyAt_x (l : Launch) (hl0 : l.stackTraces = false) (dC : Nat → ClassId) (dI : Nat → Nat → Nat) (m_ : Nat) (q_row : Nat) (q_t : Nat) (t_ : Nat) (h0 : Nat) (k0 : Nat) (w_ : Nat) (z_ : Nat) (slots : Int32) (old : Int32) (q_joined : Nat) (q_from : Nat) (q_to : Nat) (q_size : Nat) (q_lossOf : Nat) (q_lessBy : Nat) (q_value : Nat) (q_number : Nat) (nodes : Int32) (here : Int32) (q_cell : Nat) (cyI : ClassId) (len : Int32) (f : Nat → Int32) (ff : Nat → Int32) (ft : Nat → Int32) (fs : Nat → Int32) (fo : Nat → Int32) (uv : Nat → Int32) (un : Nat → Int32) (fe : Nat → Int32) (j_v : Nat) (j_n : Nat) (js : Int32) (jl : Int32) (je : Int32) (jv : Nat → Int32) (jn : Nat → Int32) (a_v : Nat) (a_n : Nat) (vs : Int32) (lo : Int32) (le : Int32) (fv : Nat → Int32) (fn : Nat → Int32) (p0 : Int32) (p1 : Int32) (p2 : Int32) (p3 : Int32) (p4 : Int32) (p5 : Int32) (sz : Nat) (a0 : 0 ≤ len.toInt) (a1 : len.toInt ≤ 160) (s0 : sixes fs) (sl0 : 1 ≤ slots.toInt) (sl1 : slots.toInt ≤ 6) (l0 : laidX old slots here f ff ft fs fo fe uv un nodes len) : vx_Met l yX4_heavyAt wsX4_heavyAt ({ frames := 8, cells := 1, slots := 6, locals := 360 }) (va_Pc [.ref m_, .int p0, .int p1, .int p2, .int p3, .int p4, .int p5] (fun U => U.heap.size = sz ∧ va_P (dC, dI) vwCl [kx_4 m_ q_row q_t t_ h0 k0 w_ z_ slots old, kx_2 q_t q_row q_joined q_from q_to q_size q_lossOf q_lessBy q_value q_number nodes here, kx_0 q_row q_cell len, kx_a q_cell cyI 160 f, kx_a q_from cyI 319 ff, kx_a q_to cyI 319 ft, kx_a q_size cyI 319 fs, kx_a q_lossOf cyI 319 fo, kx_a q_lessBy cyI 319 fe, kx_a q_value cyI 1914 uv, kx_a q_number cyI 1914 un, kx_3 q_joined j_v j_n js jl je, kx_a j_v cyI 12 jv, kx_a j_n cyI 12 jn, kx_3 h0 a_v a_n vs lo le, kx_a a_v cyI 12 fv, kx_a a_n cyI 12 fn] U.heap ∧ va_K (dC, dI) vwCl [(cyI, .int)] U ∧ va_D (fun _ => True) [kx_4 m_ q_row q_t t_ h0 k0 w_ z_ slots old, kx_2 q_t q_row q_joined q_from q_to q_size q_lossOf q_lessBy q_value q_number nodes here, kx_0 q_row q_cell len, kx_a q_cell cyI 160 f, kx_a q_from cyI 319 ff, kx_a q_to cyI 319 ft, kx_a q_size cyI 319 fs, kx_a q_lossOf cyI 319 fo, kx_a q_lessBy cyI 319 fe, kx_a q_value cyI 1914 uv, kx_a q_number cyI 1914 un, kx_3 q_joined j_v j_n js jl je, kx_a j_v cyI 12 jv, kx_a j_n cyI 12 jn, kx_3 h0 a_v a_n vs lo le, kx_a a_v cyI 12 fv, kx_a a_n cyI 12 fn] ∧ va_Nw (.methodLinkNest RX3 42 yX4_isHeavy RX4) U ∧ ki_ThA (va_A [kx_4 m_ q_row q_t t_ h0 k0 w_ z_ slots old, kx_2 q_t q_row q_joined q_from q_to q_size q_lossOf q_lessBy q_value q_number nodes here, kx_0 q_row q_cell len, kx_a q_cell cyI 160 f, kx_a q_from cyI 319 ff, kx_a q_to cyI 319 ft, kx_a q_size cyI 319 fs, kx_a q_lossOf cyI 319 fo, kx_a q_lessBy cyI 319 fe, kx_a q_value cyI 1914 uv, kx_a q_number cyI 1914 un, kx_3 q_joined j_v j_n js jl je, kx_a j_v cyI 12 jv, kx_a j_n cyI 12 jn, kx_3 h0 a_v a_n vs lo le, kx_a a_v cyI 12 fv, kx_a a_n cyI 12 fn] sz) U)) (va_Qi (fun (r : Int32) (u : Int32 × Int32 × Int32 × (Nat → Int32) × (Nat → Int32) × (Nat → Int32) × (Nat → Int32) × (Nat → Int32) × (Nat → Int32) × (Nat → Int32) × Int32 × Int32 × Int32 × (Nat → Int32) × (Nat → Int32) × Int32 × Int32 × Int32 × (Nat → Int32) × (Nat → Int32)) => (0 : Int) ≤ 1 ∧ laidX u.1 slots u.2.2.1 f u.2.2.2.1 u.2.2.2.2.1 u.2.2.2.2.2.1 u.2.2.2.2.2.2.1 u.2.2.2.2.2.2.2.1 u.2.2.2.2.2.2.2.2.1 u.2.2.2.2.2.2.2.2.2.1 u.2.1 len ∧ sixes u.2.2.2.2.2.1) (fun (u : Int32 × Int32 × Int32 × (Nat → Int32) × (Nat → Int32) × (Nat → Int32) × (Nat → Int32) × (Nat → Int32) × (Nat → Int32) × (Nat → Int32) × Int32 × Int32 × Int32 × (Nat → Int32) × (Nat → Int32) × Int32 × Int32 × Int32 × (Nat → Int32) × (Nat → Int32)) (t : State) => va_P (dC, dI) vwCl [kx_4 m_ q_row q_t t_ h0 k0 w_ z_ slots u.1, kx_2 q_t q_row q_joined q_from q_to q_size q_lossOf q_lessBy q_value q_number u.2.1 u.2.2.1, kx_0 q_row q_cell len, kx_a q_cell cyI 160 f, kx_a q_from cyI 319 u.2.2.2.1, kx_a q_to cyI 319 u.2.2.2.2.1, kx_a q_size cyI 319 u.2.2.2.2.2.1, kx_a q_lossOf cyI 319 u.2.2.2.2.2.2.1, kx_a q_lessBy cyI 319 u.2.2.2.2.2.2.2.1, kx_a q_value cyI 1914 u.2.2.2.2.2.2.2.2.1, kx_a q_number cyI 1914 u.2.2.2.2.2.2.2.2.2.1, kx_3 q_joined j_v j_n u.2.2.2.2.2.2.2.2.2.2.1 u.2.2.2.2.2.2.2.2.2.2.2.1 u.2.2.2.2.2.2.2.2.2.2.2.2.1, kx_a j_v cyI 12 u.2.2.2.2.2.2.2.2.2.2.2.2.2.1, kx_a j_n cyI 12 u.2.2.2.2.2.2.2.2.2.2.2.2.2.2.1, kx_3 h0 a_v a_n u.2.2.2.2.2.2.2.2.2.2.2.2.2.2.2.1 u.2.2.2.2.2.2.2.2.2.2.2.2.2.2.2.2.1 u.2.2.2.2.2.2.2.2.2.2.2.2.2.2.2.2.2.1, kx_a a_v cyI 12 u.2.2.2.2.2.2.2.2.2.2.2.2.2.2.2.2.2.2.1, kx_a a_n cyI 12 u.2.2.2.2.2.2.2.2.2.2.2.2.2.2.2.2.2.2.2] t.heap ∧ va_K (dC, dI) vwCl [(cyI, .int)] t ∧ va_D (va_A [kx_4 m_ q_row q_t t_ h0 k0 w_ z_ slots old, kx_2 q_t q_row q_joined q_from q_to q_size q_lossOf q_lessBy q_value q_number nodes here, kx_0 q_row q_cell len, kx_a q_cell cyI 160 f, kx_a q_from cyI 319 ff, kx_a q_to cyI 319 ft, kx_a q_size cyI 319 fs, kx_a q_lossOf cyI 319 fo, kx_a q_lessBy cyI 319 fe, kx_a q_value cyI 1914 uv, kx_a q_number cyI 1914 un, kx_3 q_joined j_v j_n js jl je, kx_a j_v cyI 12 jv, kx_a j_n cyI 12 jn, kx_3 h0 a_v a_n vs lo le, kx_a a_v cyI 12 fv, kx_a a_n cyI 12 fn] sz) [kx_4 m_ q_row q_t t_ h0 k0 w_ z_ slots u.1, kx_2 q_t q_row q_joined q_from q_to q_size q_lossOf q_lessBy q_value q_number u.2.1 u.2.2.1, kx_0 q_row q_cell len, kx_a q_cell cyI 160 f, kx_a q_from cyI 319 u.2.2.2.1, kx_a q_to cyI 319 u.2.2.2.2.1, kx_a q_size cyI 319 u.2.2.2.2.2.1, kx_a q_lossOf cyI 319 u.2.2.2.2.2.2.1, kx_a q_lessBy cyI 319 u.2.2.2.2.2.2.2.1, kx_a q_value cyI 1914 u.2.2.2.2.2.2.2.2.1, kx_a q_number cyI 1914 u.2.2.2.2.2.2.2.2.2.1, kx_3 q_joined j_v j_n u.2.2.2.2.2.2.2.2.2.2.1 u.2.2.2.2.2.2.2.2.2.2.2.1 u.2.2.2.2.2.2.2.2.2.2.2.2.1, kx_a j_v cyI 12 u.2.2.2.2.2.2.2.2.2.2.2.2.2.1, kx_a j_n cyI 12 u.2.2.2.2.2.2.2.2.2.2.2.2.2.2.1, kx_3 h0 a_v a_n u.2.2.2.2.2.2.2.2.2.2.2.2.2.2.2.1 u.2.2.2.2.2.2.2.2.2.2.2.2.2.2.2.2.1 u.2.2.2.2.2.2.2.2.2.2.2.2.2.2.2.2.2.1, kx_a a_v cyI 12 u.2.2.2.2.2.2.2.2.2.2.2.2.2.2.2.2.2.2.1, kx_a a_n cyI 12 u.2.2.2.2.2.2.2.2.2.2.2.2.2.2.2.2.2.2.2]) (va_A [kx_4 m_ q_row q_t t_ h0 k0 w_ z_ slots old, kx_2 q_t q_row q_joined q_from q_to q_size q_lossOf q_lessBy q_value q_number nodes here, kx_0 q_row q_cell len, kx_a q_cell cyI 160 f, kx_a q_from cyI 319 ff, kx_a q_to cyI 319 ft, kx_a q_size cyI 319 fs, kx_a q_lossOf cyI 319 fo, kx_a q_lessBy cyI 319 fe, kx_a q_value cyI 1914 uv, kx_a q_number cyI 1914 un, kx_3 q_joined j_v j_n js jl je, kx_a j_v cyI 12 jv, kx_a j_n cyI 12 jn, kx_3 h0 a_v a_n vs lo le, kx_a a_v cyI 12 fv, kx_a a_n cyI 12 fn] sz)) (vx_X (fun u : Int32 × Int32 × Int32 × (Nat → Int32) × (Nat → Int32) × (Nat → Int32) × (Nat → Int32) × (Nat → Int32) × (Nat → Int32) × (Nat → Int32) × Int32 × Int32 × Int32 × (Nat → Int32) × (Nat → Int32) × Int32 × Int32 × Int32 × (Nat → Int32) × (Nat → Int32) => (0 : Int) ≤ 1 ∧ laidX u.1 slots u.2.2.1 f u.2.2.2.1 u.2.2.2.2.1 u.2.2.2.2.2.1 u.2.2.2.2.2.2.1 u.2.2.2.2.2.2.2.1 u.2.2.2.2.2.2.2.2.1 u.2.2.2.2.2.2.2.2.2.1 u.2.1 len ∧ sixes u.2.2.2.2.2.1) (fun (E : String) (u : Int32 × Int32 × Int32 × (Nat → Int32) × (Nat → Int32) × (Nat → Int32) × (Nat → Int32) × (Nat → Int32) × (Nat → Int32) × (Nat → Int32) × Int32 × Int32 × Int32 × (Nat → Int32) × (Nat → Int32) × Int32 × Int32 × Int32 × (Nat → Int32) × (Nat → Int32)) (t : State) => E = EXN ∧ va_P (dC, dI) vwCl [kx_4 m_ q_row q_t t_ h0 k0 w_ z_ slots u.1, kx_2 q_t q_row q_joined q_from q_to q_size q_lossOf q_lessBy q_value q_number u.2.1 u.2.2.1, kx_0 q_row q_cell len, kx_a q_cell cyI 160 f, kx_a q_from cyI 319 u.2.2.2.1, kx_a q_to cyI 319 u.2.2.2.2.1, kx_a q_size cyI 319 u.2.2.2.2.2.1, kx_a q_lossOf cyI 319 u.2.2.2.2.2.2.1, kx_a q_lessBy cyI 319 u.2.2.2.2.2.2.2.1, kx_a q_value cyI 1914 u.2.2.2.2.2.2.2.2.1, kx_a q_number cyI 1914 u.2.2.2.2.2.2.2.2.2.1, kx_3 q_joined j_v j_n u.2.2.2.2.2.2.2.2.2.2.1 u.2.2.2.2.2.2.2.2.2.2.2.1 u.2.2.2.2.2.2.2.2.2.2.2.2.1, kx_a j_v cyI 12 u.2.2.2.2.2.2.2.2.2.2.2.2.2.1, kx_a j_n cyI 12 u.2.2.2.2.2.2.2.2.2.2.2.2.2.2.1, kx_3 h0 a_v a_n u.2.2.2.2.2.2.2.2.2.2.2.2.2.2.2.1 u.2.2.2.2.2.2.2.2.2.2.2.2.2.2.2.2.1 u.2.2.2.2.2.2.2.2.2.2.2.2.2.2.2.2.2.1, kx_a a_v cyI 12 u.2.2.2.2.2.2.2.2.2.2.2.2.2.2.2.2.2.2.1, kx_a a_n cyI 12 u.2.2.2.2.2.2.2.2.2.2.2.2.2.2.2.2.2.2.2] t.heap ∧ va_K (dC, dI) vwCl [(cyI, .int)] t ∧ va_D (va_A [kx_4 m_ q_row q_t t_ h0 k0 w_ z_ slots old, kx_2 q_t q_row q_joined q_from q_to q_size q_lossOf q_lessBy q_value q_number nodes here, kx_0 q_row q_cell len, kx_a q_cell cyI 160 f, kx_a q_from cyI 319 ff, kx_a q_to cyI 319 ft, kx_a q_size cyI 319 fs, kx_a q_lossOf cyI 319 fo, kx_a q_lessBy cyI 319 fe, kx_a q_value cyI 1914 uv, kx_a q_number cyI 1914 un, kx_3 q_joined j_v j_n js jl je, kx_a j_v cyI 12 jv, kx_a j_n cyI 12 jn, kx_3 h0 a_v a_n vs lo le, kx_a a_v cyI 12 fv, kx_a a_n cyI 12 fn] sz) [kx_4 m_ q_row q_t t_ h0 k0 w_ z_ slots u.1, kx_2 q_t q_row q_joined q_from q_to q_size q_lossOf q_lessBy q_value q_number u.2.1 u.2.2.1, kx_0 q_row q_cell len, kx_a q_cell cyI 160 f, kx_a q_from cyI 319 u.2.2.2.1, kx_a q_to cyI 319 u.2.2.2.2.1, kx_a q_size cyI 319 u.2.2.2.2.2.1, kx_a q_lossOf cyI 319 u.2.2.2.2.2.2.1, kx_a q_lessBy cyI 319 u.2.2.2.2.2.2.2.1, kx_a q_value cyI 1914 u.2.2.2.2.2.2.2.2.1, kx_a q_number cyI 1914 u.2.2.2.2.2.2.2.2.2.1, kx_3 q_joined j_v j_n u.2.2.2.2.2.2.2.2.2.2.1 u.2.2.2.2.2.2.2.2.2.2.2.1 u.2.2.2.2.2.2.2.2.2.2.2.2.1, kx_a j_v cyI 12 u.2.2.2.2.2.2.2.2.2.2.2.2.2.1, kx_a j_n cyI 12 u.2.2.2.2.2.2.2.2.2.2.2.2.2.2.1, kx_3 h0 a_v a_n u.2.2.2.2.2.2.2.2.2.2.2.2.2.2.2.1 u.2.2.2.2.2.2.2.2.2.2.2.2.2.2.2.2.1 u.2.2.2.2.2.2.2.2.2.2.2.2.2.2.2.2.2.1, kx_a a_v cyI 12 u.2.2.2.2.2.2.2.2.2.2.2.2.2.2.2.2.2.2.1, kx_a a_n cyI 12 u.2.2.2.2.2.2.2.2.2.2.2.2.2.2.2.2.2.2.2]) (va_A [kx_4 m_ q_row q_t t_ h0 k0 w_ z_ slots old, kx_2 q_t q_row q_joined q_from q_to q_size q_lossOf q_lessBy q_value q_number nodes here, kx_0 q_row q_cell len, kx_a q_cell cyI 160 f, kx_a q_from cyI 319 ff, kx_a q_to cyI 319 ft, kx_a q_size cyI 319 fs, kx_a q_lossOf cyI 319 fo, kx_a q_lessBy cyI 319 fe, kx_a q_value cyI 1914 uv, kx_a q_number cyI 1914 un, kx_3 q_joined j_v j_n js jl je, kx_a j_v cyI 12 jv, kx_a j_n cyI 12 jn, kx_3 h0 a_v a_n vs lo le, kx_a a_v cyI 12 fv, kx_a a_n cyI 12 fn] sz)) 1 6 (va_A [kx_4 m_ q_row q_t t_ h0 k0 w_ z_ slots old, kx_2 q_t q_row q_joined q_from q_to q_size q_lossOf q_lessBy q_value q_number nodes here, kx_0 q_row q_cell len, kx_a q_cell cyI 160 f, kx_a q_from cyI 319 ff, kx_a q_to cyI 319 ft, kx_a q_size cyI 319 fs, kx_a q_lossOf cyI 319 fo, kx_a q_lessBy cyI 319 fe, kx_a q_value cyI 1914 uv, kx_a q_number cyI 1914 un, kx_3 q_joined j_v j_n js jl je, kx_a j_v cyI 12 jv, kx_a j_n cyI 12 jn, kx_3 h0 a_v a_n vs lo le, kx_a a_v cyI 12 fv, kx_a a_n cyI 12 fn] sz) := by
  refine vx_ofW (cc := cX4_heavyAt) (maxL := 7) (ret := (some .int)) (by decide) rfl ?_
  intro p e s m args below meth c s₁ B hml htab hv
  obtain ⟨rfl, hsz, hP, hK, hD0, hN0, hth⟩ := hv
  have hx := B.exec
  have hb := B.bytes
  have hr := B.returns
  have hts := atoms_spec (ws := wsX4_heavyAt) B.pre
  have hown : s.vm.findClass RX4 = some m.cls := findClass_of_methodNamed B.named
  have hlocks := B.notSynchronized
  have hat : ∀ w ∈ vx_at0 RX4 109 EXN EXC, w.before _ s = true := vx_hat (B := EXD) (fun w h => hts w (List.mem_cons_of_mem _ (List.mem_append_right _ h))) ki_bad (ki_ex hth)
  subst hsz
  have hD := hD0.self (sz := s.heap.size)
  generalize hAe : va_A [kx_4 m_ q_row q_t t_ h0 k0 w_ z_ slots old, kx_2 q_t q_row q_joined q_from q_to q_size q_lossOf q_lessBy q_value q_number nodes here, kx_0 q_row q_cell len, kx_a q_cell cyI 160 f, kx_a q_from cyI 319 ff, kx_a q_to cyI 319 ft, kx_a q_size cyI 319 fs, kx_a q_lossOf cyI 319 fo, kx_a q_lessBy cyI 319 fe, kx_a q_value cyI 1914 uv, kx_a q_number cyI 1914 un, kx_3 q_joined j_v j_n js jl je, kx_a j_v cyI 12 jv, kx_a j_n cyI 12 jn, kx_3 h0 a_v a_n vs lo le, kx_a a_v cyI 12 fv, kx_a a_n cyI 12 fn] s.heap.size = A at hD hth ⊢
  have hA : ∀ q : Nat, s.heap.size ≤ q → A q := fun q h => by rw [← hAe]; exact Or.inr h
  have hS : va_S A s.heap s.heap [] := va_S.rf
  have hP : va_P (dC, dI) vwCl [kx_4 m_ q_row q_t t_ h0 k0 w_ z_ slots old, kx_2 q_t q_row q_joined q_from q_to q_size q_lossOf q_lessBy q_value q_number nodes here, kx_0 q_row q_cell len, kx_a q_cell cyI 160 f, kx_a q_from cyI 319 ff, kx_a q_to cyI 319 ft, kx_a q_size cyI 319 fs, kx_a q_lossOf cyI 319 fo, kx_a q_lessBy cyI 319 fe, kx_a q_value cyI 1914 uv, kx_a q_number cyI 1914 un, kx_3 q_joined j_v j_n js jl je, kx_a j_v cyI 12 jv, kx_a j_n cyI 12 jn, kx_3 h0 a_v a_n vs lo le, kx_a a_v cyI 12 fv, kx_a a_n cyI 12 fn] s.heap := hP
  have hl := lv_entry ([.ref m_, .int p0, .int p1, .int p2, .int p3, .int p4, .int p5]) (n := 7) (Nat.le_of_ble_eq_true rfl)
  rw [lg_entry_eq]
  generalize (lg_sl ([.ref m_, .int p0, .int p1, .int p2, .int p3, .int p4, .int p5]) ++ List.replicate (7 - (lg_sl ([.ref m_, .int p0, .int p1, .int p2, .int p3, .int p4, .int p5])).length) Slot.unset).toArray = ls at hl ⊢
  have hl : lv_has ls 7 [(0, .ref m_), (1, .int p0), (2, .int p1), (3, .int p2), (4, .int p3), (5, .int p4), (6, .int p5)] := hl
  have hf_12 := hts (.fieldLink RX4 12 "MajorityIndex" "row" "LMajorityIndex$Row;") (List.mem_of_getElem? (i := 3) rfl)
  have hi_4 : ∀ w ∈ u_ws RX4 TX4 9, w ∈ wsX4_heavyAt := fun w h => List.mem_cons_of_mem _ (List.mem_append_left _ (List.mem_append_left _ (List.mem_append_left _ (List.mem_append_left _ (List.mem_append_right _ h)))))
  have hc_107 := hts (.classLink RX4 107 EXN) (by decide +kernel)
  have hz_ex := hts (.initialized EXN) (by decide +kernel)
  have hf_35 := hts (.fieldLink RX4 35 "MajorityIndex" "votes" "LMajorityIndex$Votes;") (List.mem_of_getElem? (i := 4) rfl)
  have hf_174 := hts (.fieldLink RX4 174 "MajorityIndex$Votes" "size" "I") (List.mem_of_getElem? (i := 5) rfl)
  have hi_3 : ∀ w ∈ u_ws RX3 TX3 5, w ∈ wsX4_heavyAt := fun w h => List.mem_cons_of_mem _ (List.mem_append_left _ (List.mem_append_left _ (List.mem_append_left _ (List.mem_append_right _ h))))
  have hf_136 := hts (.fieldLink RX4 136 "MajorityIndex$Votes" "number" "[I") (List.mem_of_getElem? (i := 7) rfl)
  have hf_133 := hts (.fieldLink RX4 133 "MajorityIndex$Votes" "value" "[I") (List.mem_of_getElem? (i := 6) rfl)
  refine lv_aload_n hx hb dX4_heavyAt_0 rfl (lv_at hl 0 rfl) ?_
  refine va_get (D := (dC, dI)) (ci := 4) (v := .ref q_row) (C := RX4) (T := TX4) (N := 9) hx hb hts hi_4 hown hK hP 0 rfl rfl 0 (by decide) hf_12 (fun _ h9 => h9) rfl dX4_heavyAt_1 ?_
  refine lv_iload_n hx hb dX4_heavyAt_4 rfl (lv_at hl 1 rfl) ?_
  refine lv_iload_n hx hb dX4_heavyAt_5 rfl (lv_at hl 2 rfl) ?_
  have hPc := hP.sub (ws' := [kx_0 q_row q_cell len]) [2] rfl
  have hKc := hK.sub (tys' := []) [] rfl
  refine vp_callSi (W.runV (As := [.int p0, .int p1]) (rest := []) ⟨hx, hb, hml, hown, hts⟩ (c_X0_hasRange l dC dI q_row q_cell len p0 p1) (cwV 2 hts gX4_heavyAt_X0_hasRange rfl rfl rfl (by decide +kernel) ⟨Nat.le_of_ble_eq_true rfl, Nat.le_of_ble_eq_true rfl⟩) ⟨fun a U g mk q => by obtain ⟨q0, qP, qK⟩ := q; exact ⟨q0, qP, va_K.moved (u := U) (U := U.calling g mk a) (Vm.Alike.refl U.vm) qK⟩, kx_rc0 hKc hPc (q0 := 0) rfl, fun U hU hW => ⟨rfl, by rw [hU]; exact hPc, va_K.moved hW.alike hKc⟩⟩ rfl rfl hl.1 rfl (lv_room (Nat.le_of_ble_eq_true rfl)) dX4_heavyAt_6 ⟨Nat.le_of_ble_eq_true rfl, Nat.le_of_ble_eq_true rfl⟩) (fun r_1 w_1 => ?_)
  rcases w_1 with ⟨rfl, w_1⟩ | ⟨rfl, w_1⟩
  · have w_1 : (0 ≤ p0.toInt ∧ p0.toInt < p1.toInt ∧ p1.toInt ≤ len.toInt) := w_1
    refine lv_if_eq (tgt := 37) hx hb dX4_heavyAt_9 (by decide) (fun c_2 => ?_) (fun c_2 => ?_)
    · exact absurd c_2 (by decide)
    · refine lv_iload_n hx hb dX4_heavyAt_12 rfl (lv_at hl 3 rfl) ?_
      refine lv_iload hx hb dX4_heavyAt_13 (lv_at hl 4 rfl) ?_
      have hPc := hP.sub (ws' := []) [] rfl
      have hKc := hK.sub (tys' := []) [] rfl
      refine vp_callSi (W.runS (As := [.int p2, .int p3]) (rest := []) ⟨hx, hb, hml, hown, hts⟩ (c_X4_isShare l dC dI p2 p3) (va_cwS 2 hts gX4_heavyAt_X4_isShare rfl rfl rfl (by decide +kernel) ⟨Nat.le_of_ble_eq_true rfl, Nat.le_of_ble_eq_true rfl⟩) ⟨fun a U g mk q => by obtain ⟨q0, qP, qK⟩ := q; exact ⟨q0, qP, va_K.moved (u := U) (U := U.calling g mk a) (Vm.Alike.refl U.vm) qK⟩, fun U hU hW => ⟨rfl, by rw [hU]; exact hPc, va_K.moved hW.alike hKc⟩⟩ rfl rfl hl.1 rfl (lv_room (Nat.le_of_ble_eq_true rfl)) dX4_heavyAt_15 ⟨Nat.le_of_ble_eq_true rfl, Nat.le_of_ble_eq_true rfl⟩) (fun r_3 w_3 => ?_)
      rcases w_3 with ⟨rfl, w_3⟩ | ⟨rfl, w_3⟩
      · have w_3 : (1 ≤ p2.toInt ∧ p2.toInt ≤ p3.toInt ∧ p3.toInt ≤ 999) := w_3
        refine lv_if_eq (tgt := 37) hx hb dX4_heavyAt_18 (by decide) (fun c_4 => ?_) (fun c_4 => ?_)
        · exact absurd c_4 (by decide)
        · refine lv_iload hx hb dX4_heavyAt_21 (lv_at hl 5 rfl) ?_
          refine lv_if_lt (tgt := 37) hx hb dX4_heavyAt_23 (by decide) (fun c_5 => ?_) (fun c_5 => ?_)
          · have i_5 : p4.toInt < 0 := kc_lt c_5
            have hP9 := hP.sub (ws' := [kx_4 m_ q_row q_t t_ h0 k0 w_ z_ slots old, kx_2 q_t q_row q_joined q_from q_to q_size q_lossOf q_lessBy q_value q_number nodes here, kx_0 q_row q_cell len, kx_a q_cell cyI 160 f, kx_a q_from cyI 319 ff, kx_a q_to cyI 319 ft, kx_a q_size cyI 319 fs, kx_a q_lossOf cyI 319 fo, kx_a q_lessBy cyI 319 fe, kx_a q_value cyI 1914 uv, kx_a q_number cyI 1914 un, kx_3 q_joined j_v j_n js jl je, kx_a j_v cyI 12 jv, kx_a j_n cyI 12 jn, kx_3 h0 a_v a_n vs lo le, kx_a a_v cyI 12 fv, kx_a a_n cyI 12 fn]) [0, 1, 2, 3, 4, 5, 6, 7, 8, 9, 10, 11, 12, 13, 14, 15, 16] rfl
            have hD9 := hD.sub (ws' := [kx_4 m_ q_row q_t t_ h0 k0 w_ z_ slots old, kx_2 q_t q_row q_joined q_from q_to q_size q_lossOf q_lessBy q_value q_number nodes here, kx_0 q_row q_cell len, kx_a q_cell cyI 160 f, kx_a q_from cyI 319 ff, kx_a q_to cyI 319 ft, kx_a q_size cyI 319 fs, kx_a q_lossOf cyI 319 fo, kx_a q_lessBy cyI 319 fe, kx_a q_value cyI 1914 uv, kx_a q_number cyI 1914 un, kx_3 q_joined j_v j_n js jl je, kx_a j_v cyI 12 jv, kx_a j_n cyI 12 jn, kx_3 h0 a_v a_n vs lo le, kx_a a_v cyI 12 fv, kx_a a_n cyI 12 fn]) [0, 1, 2, 3, 4, 5, 6, 7, 8, 9, 10, 11, 12, 13, 14, 15, 16] (by decide) rfl
            have hK9 := hK.sub (tys' := [(cyI, .int)]) [0] rfl
            exact vx_throw0 (names := EXC) hx hb hl0 hown (by decide +kernel) (by decide +kernel) hc_107 hz_ex hat ki_ot hth.2.1 hth.2.2 hS (hl.1.trans hml.symm) dX4_heavyAt_37 dX4_heavyAt_40 dX4_heavyAt_41 dX4_heavyAt_44 (fun x h => (htab x h).elim) (Nat.le_of_ble_eq_true rfl) (Nat.le_of_ble_eq_true rfl) (Nat.le_of_ble_eq_true rfl) (Nat.le_of_ble_eq_true rfl) hlocks (fun t ha hz hk => ⟨(old, nodes, here, ff, ft, fs, fo, fe, uv, un, js, jl, je, jv, jn, vs, lo, le, fv, fn), ⟨(by decide), l0, s0⟩, ⟨rfl, hP9.kept (fun k x hx => hk x.1 ((hP9 k x hx).lt)), va_K.moved ha hK9, hD9⟩, Nat.le_trans hS.1 hz, fun q h1 h2 => (hk q (Nat.lt_of_lt_of_le h1 hS.1)).trans (hS.2.1 q h1 h2)⟩) hS.2.2 (Nat.le_refl _) (Nat.le_refl _)
          · have i_5 : 0 ≤ p4.toInt := kc_nlt c_5
            refine lv_iload hx hb dX4_heavyAt_26 (lv_at hl 6 rfl) ?_
            refine lv_if_lt (tgt := 37) hx hb dX4_heavyAt_28 (by decide) (fun c_6 => ?_) (fun c_6 => ?_)
            · have i_6 : p5.toInt < 0 := kc_lt c_6
              have hP9 := hP.sub (ws' := [kx_4 m_ q_row q_t t_ h0 k0 w_ z_ slots old, kx_2 q_t q_row q_joined q_from q_to q_size q_lossOf q_lessBy q_value q_number nodes here, kx_0 q_row q_cell len, kx_a q_cell cyI 160 f, kx_a q_from cyI 319 ff, kx_a q_to cyI 319 ft, kx_a q_size cyI 319 fs, kx_a q_lossOf cyI 319 fo, kx_a q_lessBy cyI 319 fe, kx_a q_value cyI 1914 uv, kx_a q_number cyI 1914 un, kx_3 q_joined j_v j_n js jl je, kx_a j_v cyI 12 jv, kx_a j_n cyI 12 jn, kx_3 h0 a_v a_n vs lo le, kx_a a_v cyI 12 fv, kx_a a_n cyI 12 fn]) [0, 1, 2, 3, 4, 5, 6, 7, 8, 9, 10, 11, 12, 13, 14, 15, 16] rfl
              have hD9 := hD.sub (ws' := [kx_4 m_ q_row q_t t_ h0 k0 w_ z_ slots old, kx_2 q_t q_row q_joined q_from q_to q_size q_lossOf q_lessBy q_value q_number nodes here, kx_0 q_row q_cell len, kx_a q_cell cyI 160 f, kx_a q_from cyI 319 ff, kx_a q_to cyI 319 ft, kx_a q_size cyI 319 fs, kx_a q_lossOf cyI 319 fo, kx_a q_lessBy cyI 319 fe, kx_a q_value cyI 1914 uv, kx_a q_number cyI 1914 un, kx_3 q_joined j_v j_n js jl je, kx_a j_v cyI 12 jv, kx_a j_n cyI 12 jn, kx_3 h0 a_v a_n vs lo le, kx_a a_v cyI 12 fv, kx_a a_n cyI 12 fn]) [0, 1, 2, 3, 4, 5, 6, 7, 8, 9, 10, 11, 12, 13, 14, 15, 16] (by decide) rfl
              have hK9 := hK.sub (tys' := [(cyI, .int)]) [0] rfl
              exact vx_throw0 (names := EXC) hx hb hl0 hown (by decide +kernel) (by decide +kernel) hc_107 hz_ex hat ki_ot hth.2.1 hth.2.2 hS (hl.1.trans hml.symm) dX4_heavyAt_37 dX4_heavyAt_40 dX4_heavyAt_41 dX4_heavyAt_44 (fun x h => (htab x h).elim) (Nat.le_of_ble_eq_true rfl) (Nat.le_of_ble_eq_true rfl) (Nat.le_of_ble_eq_true rfl) (Nat.le_of_ble_eq_true rfl) hlocks (fun t ha hz hk => ⟨(old, nodes, here, ff, ft, fs, fo, fe, uv, un, js, jl, je, jv, jn, vs, lo, le, fv, fn), ⟨(by decide), l0, s0⟩, ⟨rfl, hP9.kept (fun k x hx => hk x.1 ((hP9 k x hx).lt)), va_K.moved ha hK9, hD9⟩, Nat.le_trans hS.1 hz, fun q h1 h2 => (hk q (Nat.lt_of_lt_of_le h1 hS.1)).trans (hS.2.1 q h1 h2)⟩) hS.2.2 (Nat.le_refl _) (Nat.le_refl _)
            · have i_6 : 0 ≤ p5.toInt := kc_nlt c_6
              refine lv_iload hx hb dX4_heavyAt_31 (lv_at hl 6 rfl) ?_
              refine lv_iconst (v := 1) hx hb dX4_heavyAt_33 (by decide) ?_
              refine lv_icmp_le (tgt := 45) hx hb dX4_heavyAt_34 (by decide) (fun c_7 => ?_) (fun c_7 => ?_)
              · have i_7 : p5.toInt ≤ 1 := kc_le c_7
                refine lv_aload_n hx hb dX4_heavyAt_45 rfl (lv_at hl 0 rfl) ?_
                refine lv_iload_n hx hb dX4_heavyAt_46 rfl (lv_at hl 3 rfl) ?_
                refine lv_iload hx hb dX4_heavyAt_47 (lv_at hl 4 rfl) ?_
                have hPc := hP.sub (ws' := [kx_4 m_ q_row q_t t_ h0 k0 w_ z_ slots old]) [0] rfl
                have hKc := hK.sub (tys' := []) [] rfl
                refine vp_callSi (W.runV (As := [.int p2, .int p3]) (rest := []) ⟨hx, hb, hml, hown, hts⟩ (c_X4_isEnough l dC dI m_ q_row q_t t_ h0 k0 w_ z_ slots old p2 p3) (cwV 2 hts gX4_heavyAt_X4_isEnough rfl rfl rfl (by decide +kernel) ⟨Nat.le_of_ble_eq_true rfl, Nat.le_of_ble_eq_true rfl⟩) ⟨fun a U g mk q => by obtain ⟨q0, qP, qK⟩ := q; exact ⟨q0, qP, va_K.moved (u := U) (U := U.calling g mk a) (Vm.Alike.refl U.vm) qK⟩, kx_rc4 hKc hPc (q0 := 0) rfl, fun U hU hW => ⟨rfl, by rw [hU]; exact hPc, va_K.moved hW.alike hKc⟩⟩ rfl rfl hl.1 rfl (lv_room (Nat.le_of_ble_eq_true rfl)) dX4_heavyAt_49 ⟨Nat.le_of_ble_eq_true rfl, Nat.le_of_ble_eq_true rfl⟩) (fun r_8 w_8 => ?_)
                rcases w_8 with ⟨rfl, w_8⟩ | ⟨rfl, w_8⟩
                · have w_8 : (0 : Int) ≤ 1 := w_8
                  refine lv_if_ne (tgt := 63) hx hb dX4_heavyAt_52 (by decide) (fun c_9 => ?_) (fun c_9 => ?_)
                  · refine lv_aload_n hx hb dX4_heavyAt_63 rfl (lv_at hl 0 rfl) ?_
                    refine lv_aload_n hx hb dX4_heavyAt_64 rfl (lv_at hl 0 rfl) ?_
                    obtain ⟨hPc, hDc, hFc, hCc⟩ := kx_preM (wc := [kx_4 m_ q_row q_t t_ h0 k0 w_ z_ slots old, kx_2 q_t q_row q_joined q_from q_to q_size q_lossOf q_lessBy q_value q_number nodes here, kx_0 q_row q_cell len, kx_a q_cell cyI 160 f, kx_a q_from cyI 319 ff, kx_a q_to cyI 319 ft, kx_a q_size cyI 319 fs, kx_a q_lossOf cyI 319 fo, kx_a q_lessBy cyI 319 fe, kx_a q_value cyI 1914 uv, kx_a q_number cyI 1914 un, kx_3 q_joined j_v j_n js jl je, kx_a j_v cyI 12 jv, kx_a j_n cyI 12 jn]) hP hD hS hA [true, true, true, true, true, true, true, true, true, true, true, true, true, true, false, false, false] rfl
                    have hKc := hK
                    refine va_callr (va_runV (As := []) (rest := [.ref m_]) ⟨hx, hb, hml, hown, hts⟩ (kx_un (c_X4_laidTree_x l dC dI m_ q_row q_t t_ h0 k0 w_ z_ slots old q_joined q_from q_to q_size q_lossOf q_lessBy q_value q_number nodes here q_cell cyI len f ff ft fs fo uv un fe j_v j_n js jl je jv jn s.heap.size a0 a1 s0 sl0 sl1 l0)) (cwV 0 hts gX4_heavyAt_X4_laidTree rfl rfl rfl (by decide +kernel) ⟨Nat.le_of_ble_eq_true rfl, Nat.le_of_ble_eq_true rfl⟩) ⟨fun a U g mk q => by obtain ⟨q0, q1, qP, qK, qD⟩ := q; exact ⟨q0, q1, qP, va_K.moved (u := U) (U := U.calling g mk a) (Vm.Alike.refl U.vm) qK, qD⟩, kx_rc4 hKc hPc (q0 := 0) rfl, fun U hU hW => ⟨rfl, by rw [hU], by rw [hU]; exact hPc, va_K.moved hW.alike hKc, hDc.weaken (fun _ _ _ _ => trivial)⟩⟩ rfl rfl hl.1 rfl (lv_room (Nat.le_of_ble_eq_true rfl)) dX4_heavyAt_65 ⟨Nat.le_of_ble_eq_true rfl, Nat.le_of_ble_eq_true rfl⟩) hS (fun q _ h => hFc q h) hFc (fun u ra t H1 locs ht hvm w_10 hB hz1 hk1 hS => ?_)
                    obtain ⟨o_11, o_12, o_13, o_14, o_15, o_16, o_17, o_18, o_19, o_20, o_21, o_22, o_23, o_24, o_25⟩ := u
                    dsimp only at w_10 hB
                    obtain ⟨er, hP1, hK1, hD1⟩ := hB
                    rw [ht] at hP1
                    have hK1 := va_K.moved hvm.symm hK1
                    obtain ⟨hP, hD⟩ := kx_joinM (w2 := [kx_4 m_ q_row q_t t_ h0 k0 w_ z_ slots o_11, kx_2 q_t q_row q_joined q_from q_to q_size q_lossOf q_lessBy q_value q_number o_12 o_13, kx_0 q_row q_cell len, kx_a q_cell cyI 160 f, kx_a q_from cyI 319 o_14, kx_a q_to cyI 319 o_15, kx_a q_size cyI 319 o_16, kx_a q_lossOf cyI 319 o_17, kx_a q_lessBy cyI 319 o_18, kx_a q_value cyI 1914 o_19, kx_a q_number cyI 1914 o_20, kx_3 q_joined j_v j_n o_21 o_22 o_23, kx_a j_v cyI 12 o_24, kx_a j_n cyI 12 o_25, kx_3 h0 a_v a_n vs lo le, kx_a a_v cyI 12 fv, kx_a a_n cyI 12 fn]) hP hD hP1 hD1 hk1 hFc [true, true, true, true, true, true, true, true, true, true, true, true, true, true, false, false, false] hCc rfl
                    clear hP1 hD1 hK1 hk1 hz1 hFc hDc hPc hKc hCc
                    generalize H1 = H at hP hS ⊢
                    have w_10 : o_11.toInt = 0 ∧ o_13 = slots ∧ sixes o_16 ∧ mj_C slots.toNatClampNeg f o_14 o_15 o_16 o_17 o_18 o_19 o_20 o_12.toInt len.toInt ∧ 0 ≤ o_12.toInt ∧ o_12.toInt ≤ 319 ∧ treeOk o_14 o_15 o_12.toInt len.toInt := w_10
                    rw [er]
                    refine lv_iload_n hx hb dX4_heavyAt_68 rfl (lv_at hl 1 rfl) ?_
                    refine lv_iload_n hx hb dX4_heavyAt_69 rfl (lv_at hl 2 rfl) ?_
                    refine lv_iload_n hx hb dX4_heavyAt_70 rfl (lv_at hl 3 rfl) ?_
                    refine lv_iload hx hb dX4_heavyAt_71 (lv_at hl 4 rfl) ?_
                    obtain ⟨hPc, hDc, hFc, hCc⟩ := kx_pre (wc := [kx_4 m_ q_row q_t t_ h0 k0 w_ z_ slots o_11, kx_0 q_row q_cell len, kx_a q_cell cyI 160 f, kx_2 q_t q_row q_joined q_from q_to q_size q_lossOf q_lessBy q_value q_number o_12 o_13, kx_a q_from cyI 319 o_14, kx_a q_to cyI 319 o_15, kx_a q_size cyI 319 o_16, kx_a q_lossOf cyI 319 o_17, kx_a q_value cyI 1914 o_19, kx_a q_number cyI 1914 o_20, kx_3 h0 a_v a_n vs lo le, kx_a a_v cyI 12 fv, kx_a a_n cyI 12 fn]) hP hD hS hA [0, 2, 3, 1, 4, 5, 6, 7, 9, 10, 14, 15, 16] (by decide) rfl
                    have hKc := hK
                    refine va_callv (va_runV (As := [.ref q_t, .int p0, .int p1, .int p2, .int p3]) (rest := []) ⟨hx, hb, hml, hown, hts⟩ (c_X4_gatherHeavy l dC dI m_ q_row q_t t_ h0 k0 w_ z_ slots o_11 q_joined q_from q_to q_size q_lossOf q_lessBy q_value q_number o_12 o_13 q_cell cyI len f o_14 o_15 o_16 o_17 o_19 o_20 a_v a_n cyI vs lo le fv fn p0 p1 p2 p3 H.size w_10.2.2.2.2.1 w_10.2.2.2.2.2.1 w_10.2.2.1 (om_10 w_1.1) (om_167 a1 w_1.2.2)) (cwV 5 hts gX4_heavyAt_X4_gatherHeavy rfl rfl rfl (by decide +kernel) ⟨Nat.le_of_ble_eq_true rfl, Nat.le_of_ble_eq_true rfl⟩) ⟨fun a U g mk q => by obtain ⟨q0, q1, qP, qK, qD, qn0⟩ := q; exact ⟨q0, q1, qP, va_K.moved (u := U) (U := U.calling g mk a) (Vm.Alike.refl U.vm) qK, qD, va_Nw.same (u := U) (U := U.calling g mk a) rfl rfl qn0⟩, kx_rc4 hKc hPc (q0 := 0) rfl, fun U hU hW => ⟨rfl, by rw [hU], by rw [hU]; exact hPc, va_K.moved hW.alike hKc, hDc.weaken (fun _ _ _ _ => trivial), va_Nw.warmM hW hN0⟩⟩ rfl rfl hl.1 rfl (lv_room (Nat.le_of_ble_eq_true rfl)) dX4_heavyAt_73 ⟨Nat.le_of_ble_eq_true rfl, Nat.le_of_ble_eq_true rfl⟩) hS (fun q _ h => hFc q h) hFc (fun u t H1 locs ht hvm w_26 hB hz1 hk1 hS => ?_)
                    obtain ⟨o_27, o_28, o_29, o_30, o_31⟩ := u
                    dsimp only at w_26 hB
                    obtain ⟨hP1, hK1, hD1⟩ := hB
                    rw [ht] at hP1
                    have hK1 := va_K.moved hvm.symm hK1
                    obtain ⟨hP, hD⟩ := kx_join (w2 := [kx_a q_lessBy cyI 319 o_18, kx_3 q_joined j_v j_n o_21 o_22 o_23, kx_a j_v cyI 12 o_24, kx_a j_n cyI 12 o_25, kx_4 m_ q_row q_t t_ h0 k0 w_ z_ slots o_11, kx_0 q_row q_cell len, kx_a q_cell cyI 160 f, kx_2 q_t q_row q_joined q_from q_to q_size q_lossOf q_lessBy q_value q_number o_12 o_13, kx_a q_from cyI 319 o_14, kx_a q_to cyI 319 o_15, kx_a q_size cyI 319 o_16, kx_a q_lossOf cyI 319 o_17, kx_a q_value cyI 1914 o_19, kx_a q_number cyI 1914 o_20, kx_3 h0 a_v a_n o_27 o_28 o_29, kx_a a_v cyI 12 o_30, kx_a a_n cyI 12 o_31]) hP hD hP1 hD1 hk1 hFc [0, 2, 3, 1, 4, 5, 6, 7, 9, 10, 14, 15, 16] [8, 11, 12, 13] hCc rfl (by decide) (by decide)
                    clear hP1 hD1 hK1 hk1 hz1 hFc hDc hPc hKc hCc
                    generalize H1 = H at hP hS ⊢
                    have w_26 : 0 ≤ o_27.toInt ∧ o_27.toInt ≤ 12 := w_26
                    refine lv_iload hx hb dX4_heavyAt_76 (lv_at hl 5 rfl) ?_
                    refine lv_aload_n hx hb dX4_heavyAt_78 rfl (lv_at hl 0 rfl) ?_
                    refine va_get (D := (dC, dI)) (ci := 4) (v := .ref h0) (C := RX4) (T := TX4) (N := 9) hx hb hts hi_4 hown hK hP 4 rfl rfl 3 (by decide) hf_35 (fun _ h9 => h9) rfl dX4_heavyAt_79 ?_
                    refine va_get (D := (dC, dI)) (ci := 3) (v := .int o_27) (C := RX3) (T := TX3) (N := 5) hx hb hts hi_3 hown hK hP 14 rfl rfl 2 (by decide) hf_174 (fun _ h9 => h9) rfl dX4_heavyAt_82 ?_
                    refine lv_icmp_lt (tgt := 96) hx hb dX4_heavyAt_85 (by decide) (fun c_32 => ?_) (fun c_32 => ?_)
                    · have i_32 : p4.toInt < o_27.toInt := kc_lt c_32
                      refine lv_iload hx hb dX4_heavyAt_96 (lv_at hl 6 rfl) ?_
                      refine lv_if_ne (tgt := 114) hx hb dX4_heavyAt_98 (by decide) (fun c_33 => ?_) (fun c_33 => ?_)
                      · have i_33 : ¬ p5.toInt = 0 := kc_ne c_33
                        refine lv_aload_n hx hb dX4_heavyAt_114 rfl (lv_at hl 0 rfl) ?_
                        refine va_get (D := (dC, dI)) (ci := 4) (v := .ref h0) (C := RX4) (T := TX4) (N := 9) hx hb hts hi_4 hown hK hP 4 rfl rfl 3 (by decide) hf_35 (fun _ h9 => h9) rfl dX4_heavyAt_115 ?_
                        refine va_get (D := (dC, dI)) (ci := 3) (v := .ref a_n) (C := RX3) (T := TX3) (N := 5) hx hb hts hi_3 hown hK hP 14 rfl rfl 1 (by decide) hf_136 (fun _ h9 => h9) rfl dX4_heavyAt_118 ?_
                        refine lv_iload hx hb dX4_heavyAt_121 (lv_at hl 5 rfl) ?_
                        refine va_iald hx hb hK hP 16 0 rfl rfl (ki_in (om_10 i_5) (om_32 w_26.2 i_32)) dX4_heavyAt_123 ?_
                        refine lv_topi (fun y_34 ey_34 => ?_)
                        have j_34 : y_34.toInt = (o_31 p4.toNatClampNeg).toInt := congrArg Int32.toInt ey_34
                        refine vx_ret ?_
                        obtain ⟨hP9, hD9⟩ := kx_sub (w2 := [kx_4 m_ q_row q_t t_ h0 k0 w_ z_ slots o_11, kx_2 q_t q_row q_joined q_from q_to q_size q_lossOf q_lessBy q_value q_number o_12 o_13, kx_0 q_row q_cell len, kx_a q_cell cyI 160 f, kx_a q_from cyI 319 o_14, kx_a q_to cyI 319 o_15, kx_a q_size cyI 319 o_16, kx_a q_lossOf cyI 319 o_17, kx_a q_lessBy cyI 319 o_18, kx_a q_value cyI 1914 o_19, kx_a q_number cyI 1914 o_20, kx_3 q_joined j_v j_n o_21 o_22 o_23, kx_a j_v cyI 12 o_24, kx_a j_n cyI 12 o_25, kx_3 h0 a_v a_n o_27 o_28 o_29, kx_a a_v cyI 12 o_30, kx_a a_n cyI 12 o_31]) hP hD [4, 7, 5, 6, 8, 9, 10, 11, 0, 12, 13, 1, 2, 3, 14, 15, 16] (by decide) rfl
                        have hK9 := hK
                        refine W.widen (k := 1) (n := 6) (Nat.le_of_ble_eq_true rfl) (Nat.le_of_ble_eq_true rfl) ?_
                        exact W.iret (v := y_34) hx hb hr (hlocks := hlocks) (fun t ht hW => ⟨⟨y_34, (o_11, o_12, o_13, o_14, o_15, o_16, o_17, o_18, o_19, o_20, o_21, o_22, o_23, o_24, o_25, o_27, o_28, o_29, o_30, o_31), rfl, ⟨(by (try dsimp only); decide), (fun _ => ⟨w_10.2.1, w_10.2.2.2.1⟩), w_10.2.2.1⟩, by rw [ht]; exact hP9, va_K.moved hW.alike hK9, hD9⟩, hS.F ht⟩) hS.2.2 dX4_heavyAt_124
                      · have i_33 : p5.toInt = 0 := kc_eq c_33
                        refine lv_aload_n hx hb dX4_heavyAt_101 rfl (lv_at hl 0 rfl) ?_
                        refine va_get (D := (dC, dI)) (ci := 4) (v := .ref h0) (C := RX4) (T := TX4) (N := 9) hx hb hts hi_4 hown hK hP 4 rfl rfl 3 (by decide) hf_35 (fun _ h9 => h9) rfl dX4_heavyAt_102 ?_
                        refine va_get (D := (dC, dI)) (ci := 3) (v := .ref a_v) (C := RX3) (T := TX3) (N := 5) hx hb hts hi_3 hown hK hP 14 rfl rfl 0 (by decide) hf_133 (fun _ h9 => h9) rfl dX4_heavyAt_105 ?_
                        refine lv_iload hx hb dX4_heavyAt_108 (lv_at hl 5 rfl) ?_
                        refine va_iald hx hb hK hP 15 0 rfl rfl (ki_in (om_10 i_5) (om_32 w_26.2 i_32)) dX4_heavyAt_110 ?_
                        refine lv_topi (fun y_35 ey_35 => ?_)
                        have j_35 : y_35.toInt = (o_30 p4.toNatClampNeg).toInt := congrArg Int32.toInt ey_35
                        refine lv_goto (tgt := 124) hx hb dX4_heavyAt_111 (by decide) ?_
                        refine vx_ret ?_
                        obtain ⟨hP9, hD9⟩ := kx_sub (w2 := [kx_4 m_ q_row q_t t_ h0 k0 w_ z_ slots o_11, kx_2 q_t q_row q_joined q_from q_to q_size q_lossOf q_lessBy q_value q_number o_12 o_13, kx_0 q_row q_cell len, kx_a q_cell cyI 160 f, kx_a q_from cyI 319 o_14, kx_a q_to cyI 319 o_15, kx_a q_size cyI 319 o_16, kx_a q_lossOf cyI 319 o_17, kx_a q_lessBy cyI 319 o_18, kx_a q_value cyI 1914 o_19, kx_a q_number cyI 1914 o_20, kx_3 q_joined j_v j_n o_21 o_22 o_23, kx_a j_v cyI 12 o_24, kx_a j_n cyI 12 o_25, kx_3 h0 a_v a_n o_27 o_28 o_29, kx_a a_v cyI 12 o_30, kx_a a_n cyI 12 o_31]) hP hD [4, 7, 5, 6, 8, 9, 10, 11, 0, 12, 13, 1, 2, 3, 14, 15, 16] (by decide) rfl
                        have hK9 := hK
                        refine W.widen (k := 1) (n := 6) (Nat.le_of_ble_eq_true rfl) (Nat.le_of_ble_eq_true rfl) ?_
                        exact W.iret (v := y_35) hx hb hr (hlocks := hlocks) (fun t ht hW => ⟨⟨y_35, (o_11, o_12, o_13, o_14, o_15, o_16, o_17, o_18, o_19, o_20, o_21, o_22, o_23, o_24, o_25, o_27, o_28, o_29, o_30, o_31), rfl, ⟨(by (try dsimp only); decide), (fun _ => ⟨w_10.2.1, w_10.2.2.2.1⟩), w_10.2.2.1⟩, by rw [ht]; exact hP9, va_K.moved hW.alike hK9, hD9⟩, hS.F ht⟩) hS.2.2 dX4_heavyAt_124
                    · have i_32 : o_27.toInt ≤ p4.toInt := kc_nlt c_32
                      have hP9 := hP.sub (ws' := [kx_4 m_ q_row q_t t_ h0 k0 w_ z_ slots o_11, kx_2 q_t q_row q_joined q_from q_to q_size q_lossOf q_lessBy q_value q_number o_12 o_13, kx_0 q_row q_cell len, kx_a q_cell cyI 160 f, kx_a q_from cyI 319 o_14, kx_a q_to cyI 319 o_15, kx_a q_size cyI 319 o_16, kx_a q_lossOf cyI 319 o_17, kx_a q_lessBy cyI 319 o_18, kx_a q_value cyI 1914 o_19, kx_a q_number cyI 1914 o_20, kx_3 q_joined j_v j_n o_21 o_22 o_23, kx_a j_v cyI 12 o_24, kx_a j_n cyI 12 o_25, kx_3 h0 a_v a_n o_27 o_28 o_29, kx_a a_v cyI 12 o_30, kx_a a_n cyI 12 o_31]) [4, 7, 5, 6, 8, 9, 10, 11, 0, 12, 13, 1, 2, 3, 14, 15, 16] rfl
                      have hD9 := hD.sub (ws' := [kx_4 m_ q_row q_t t_ h0 k0 w_ z_ slots o_11, kx_2 q_t q_row q_joined q_from q_to q_size q_lossOf q_lessBy q_value q_number o_12 o_13, kx_0 q_row q_cell len, kx_a q_cell cyI 160 f, kx_a q_from cyI 319 o_14, kx_a q_to cyI 319 o_15, kx_a q_size cyI 319 o_16, kx_a q_lossOf cyI 319 o_17, kx_a q_lessBy cyI 319 o_18, kx_a q_value cyI 1914 o_19, kx_a q_number cyI 1914 o_20, kx_3 q_joined j_v j_n o_21 o_22 o_23, kx_a j_v cyI 12 o_24, kx_a j_n cyI 12 o_25, kx_3 h0 a_v a_n o_27 o_28 o_29, kx_a a_v cyI 12 o_30, kx_a a_n cyI 12 o_31]) [4, 7, 5, 6, 8, 9, 10, 11, 0, 12, 13, 1, 2, 3, 14, 15, 16] (by decide) rfl
                      have hK9 := hK.sub (tys' := [(cyI, .int)]) [0] rfl
                      exact vx_throw0 (names := EXC) hx hb hl0 hown (by decide +kernel) (by decide +kernel) hc_107 hz_ex hat ki_ot hth.2.1 hth.2.2 hS (hl.1.trans hml.symm) dX4_heavyAt_88 dX4_heavyAt_91 dX4_heavyAt_92 dX4_heavyAt_95 (fun x h => (htab x h).elim) (Nat.le_of_ble_eq_true rfl) (Nat.le_of_ble_eq_true rfl) (Nat.le_of_ble_eq_true rfl) (Nat.le_of_ble_eq_true rfl) hlocks (fun t ha hz hk => ⟨(o_11, o_12, o_13, o_14, o_15, o_16, o_17, o_18, o_19, o_20, o_21, o_22, o_23, o_24, o_25, o_27, o_28, o_29, o_30, o_31), ⟨(by decide), (fun _ => ⟨w_10.2.1, w_10.2.2.2.1⟩), w_10.2.2.1⟩, ⟨rfl, hP9.kept (fun k x hx => hk x.1 ((hP9 k x hx).lt)), va_K.moved ha hK9, hD9⟩, Nat.le_trans hS.1 hz, fun q h1 h2 => (hk q (Nat.lt_of_lt_of_le h1 hS.1)).trans (hS.2.1 q h1 h2)⟩) hS.2.2 (Nat.le_refl _) (Nat.le_refl _)
                  · exact absurd c_9 (by decide)
                · have w_8 : (0 : Int) ≤ 1 := w_8
                  refine lv_if_ne (tgt := 63) hx hb dX4_heavyAt_52 (by decide) (fun c_36 => ?_) (fun c_36 => ?_)
                  · exact absurd c_36 (by decide)
                  · have hP9 := hP.sub (ws' := [kx_4 m_ q_row q_t t_ h0 k0 w_ z_ slots old, kx_2 q_t q_row q_joined q_from q_to q_size q_lossOf q_lessBy q_value q_number nodes here, kx_0 q_row q_cell len, kx_a q_cell cyI 160 f, kx_a q_from cyI 319 ff, kx_a q_to cyI 319 ft, kx_a q_size cyI 319 fs, kx_a q_lossOf cyI 319 fo, kx_a q_lessBy cyI 319 fe, kx_a q_value cyI 1914 uv, kx_a q_number cyI 1914 un, kx_3 q_joined j_v j_n js jl je, kx_a j_v cyI 12 jv, kx_a j_n cyI 12 jn, kx_3 h0 a_v a_n vs lo le, kx_a a_v cyI 12 fv, kx_a a_n cyI 12 fn]) [0, 1, 2, 3, 4, 5, 6, 7, 8, 9, 10, 11, 12, 13, 14, 15, 16] rfl
                    have hD9 := hD.sub (ws' := [kx_4 m_ q_row q_t t_ h0 k0 w_ z_ slots old, kx_2 q_t q_row q_joined q_from q_to q_size q_lossOf q_lessBy q_value q_number nodes here, kx_0 q_row q_cell len, kx_a q_cell cyI 160 f, kx_a q_from cyI 319 ff, kx_a q_to cyI 319 ft, kx_a q_size cyI 319 fs, kx_a q_lossOf cyI 319 fo, kx_a q_lessBy cyI 319 fe, kx_a q_value cyI 1914 uv, kx_a q_number cyI 1914 un, kx_3 q_joined j_v j_n js jl je, kx_a j_v cyI 12 jv, kx_a j_n cyI 12 jn, kx_3 h0 a_v a_n vs lo le, kx_a a_v cyI 12 fv, kx_a a_n cyI 12 fn]) [0, 1, 2, 3, 4, 5, 6, 7, 8, 9, 10, 11, 12, 13, 14, 15, 16] (by decide) rfl
                    have hK9 := hK.sub (tys' := [(cyI, .int)]) [0] rfl
                    exact vx_throw0 (names := EXC) hx hb hl0 hown (by decide +kernel) (by decide +kernel) hc_107 hz_ex hat ki_ot hth.2.1 hth.2.2 hS (hl.1.trans hml.symm) dX4_heavyAt_55 dX4_heavyAt_58 dX4_heavyAt_59 dX4_heavyAt_62 (fun x h => (htab x h).elim) (Nat.le_of_ble_eq_true rfl) (Nat.le_of_ble_eq_true rfl) (Nat.le_of_ble_eq_true rfl) (Nat.le_of_ble_eq_true rfl) hlocks (fun t ha hz hk => ⟨(old, nodes, here, ff, ft, fs, fo, fe, uv, un, js, jl, je, jv, jn, vs, lo, le, fv, fn), ⟨(by decide), l0, s0⟩, ⟨rfl, hP9.kept (fun k x hx => hk x.1 ((hP9 k x hx).lt)), va_K.moved ha hK9, hD9⟩, Nat.le_trans hS.1 hz, fun q h1 h2 => (hk q (Nat.lt_of_lt_of_le h1 hS.1)).trans (hS.2.1 q h1 h2)⟩) hS.2.2 (Nat.le_refl _) (Nat.le_refl _)
              · have i_7 : 1 < p5.toInt := kc_nle c_7
                have hP9 := hP.sub (ws' := [kx_4 m_ q_row q_t t_ h0 k0 w_ z_ slots old, kx_2 q_t q_row q_joined q_from q_to q_size q_lossOf q_lessBy q_value q_number nodes here, kx_0 q_row q_cell len, kx_a q_cell cyI 160 f, kx_a q_from cyI 319 ff, kx_a q_to cyI 319 ft, kx_a q_size cyI 319 fs, kx_a q_lossOf cyI 319 fo, kx_a q_lessBy cyI 319 fe, kx_a q_value cyI 1914 uv, kx_a q_number cyI 1914 un, kx_3 q_joined j_v j_n js jl je, kx_a j_v cyI 12 jv, kx_a j_n cyI 12 jn, kx_3 h0 a_v a_n vs lo le, kx_a a_v cyI 12 fv, kx_a a_n cyI 12 fn]) [0, 1, 2, 3, 4, 5, 6, 7, 8, 9, 10, 11, 12, 13, 14, 15, 16] rfl
                have hD9 := hD.sub (ws' := [kx_4 m_ q_row q_t t_ h0 k0 w_ z_ slots old, kx_2 q_t q_row q_joined q_from q_to q_size q_lossOf q_lessBy q_value q_number nodes here, kx_0 q_row q_cell len, kx_a q_cell cyI 160 f, kx_a q_from cyI 319 ff, kx_a q_to cyI 319 ft, kx_a q_size cyI 319 fs, kx_a q_lossOf cyI 319 fo, kx_a q_lessBy cyI 319 fe, kx_a q_value cyI 1914 uv, kx_a q_number cyI 1914 un, kx_3 q_joined j_v j_n js jl je, kx_a j_v cyI 12 jv, kx_a j_n cyI 12 jn, kx_3 h0 a_v a_n vs lo le, kx_a a_v cyI 12 fv, kx_a a_n cyI 12 fn]) [0, 1, 2, 3, 4, 5, 6, 7, 8, 9, 10, 11, 12, 13, 14, 15, 16] (by decide) rfl
                have hK9 := hK.sub (tys' := [(cyI, .int)]) [0] rfl
                exact vx_throw0 (names := EXC) hx hb hl0 hown (by decide +kernel) (by decide +kernel) hc_107 hz_ex hat ki_ot hth.2.1 hth.2.2 hS (hl.1.trans hml.symm) dX4_heavyAt_37 dX4_heavyAt_40 dX4_heavyAt_41 dX4_heavyAt_44 (fun x h => (htab x h).elim) (Nat.le_of_ble_eq_true rfl) (Nat.le_of_ble_eq_true rfl) (Nat.le_of_ble_eq_true rfl) (Nat.le_of_ble_eq_true rfl) hlocks (fun t ha hz hk => ⟨(old, nodes, here, ff, ft, fs, fo, fe, uv, un, js, jl, je, jv, jn, vs, lo, le, fv, fn), ⟨(by decide), l0, s0⟩, ⟨rfl, hP9.kept (fun k x hx => hk x.1 ((hP9 k x hx).lt)), va_K.moved ha hK9, hD9⟩, Nat.le_trans hS.1 hz, fun q h1 h2 => (hk q (Nat.lt_of_lt_of_le h1 hS.1)).trans (hS.2.1 q h1 h2)⟩) hS.2.2 (Nat.le_refl _) (Nat.le_refl _)
      · have w_3 : (p2.toInt < 1 ∨ p3.toInt < p2.toInt ∨ 999 < p3.toInt) := w_3
        refine lv_if_eq (tgt := 37) hx hb dX4_heavyAt_18 (by decide) (fun c_37 => ?_) (fun c_37 => ?_)
        · have hP9 := hP.sub (ws' := [kx_4 m_ q_row q_t t_ h0 k0 w_ z_ slots old, kx_2 q_t q_row q_joined q_from q_to q_size q_lossOf q_lessBy q_value q_number nodes here, kx_0 q_row q_cell len, kx_a q_cell cyI 160 f, kx_a q_from cyI 319 ff, kx_a q_to cyI 319 ft, kx_a q_size cyI 319 fs, kx_a q_lossOf cyI 319 fo, kx_a q_lessBy cyI 319 fe, kx_a q_value cyI 1914 uv, kx_a q_number cyI 1914 un, kx_3 q_joined j_v j_n js jl je, kx_a j_v cyI 12 jv, kx_a j_n cyI 12 jn, kx_3 h0 a_v a_n vs lo le, kx_a a_v cyI 12 fv, kx_a a_n cyI 12 fn]) [0, 1, 2, 3, 4, 5, 6, 7, 8, 9, 10, 11, 12, 13, 14, 15, 16] rfl
          have hD9 := hD.sub (ws' := [kx_4 m_ q_row q_t t_ h0 k0 w_ z_ slots old, kx_2 q_t q_row q_joined q_from q_to q_size q_lossOf q_lessBy q_value q_number nodes here, kx_0 q_row q_cell len, kx_a q_cell cyI 160 f, kx_a q_from cyI 319 ff, kx_a q_to cyI 319 ft, kx_a q_size cyI 319 fs, kx_a q_lossOf cyI 319 fo, kx_a q_lessBy cyI 319 fe, kx_a q_value cyI 1914 uv, kx_a q_number cyI 1914 un, kx_3 q_joined j_v j_n js jl je, kx_a j_v cyI 12 jv, kx_a j_n cyI 12 jn, kx_3 h0 a_v a_n vs lo le, kx_a a_v cyI 12 fv, kx_a a_n cyI 12 fn]) [0, 1, 2, 3, 4, 5, 6, 7, 8, 9, 10, 11, 12, 13, 14, 15, 16] (by decide) rfl
          have hK9 := hK.sub (tys' := [(cyI, .int)]) [0] rfl
          exact vx_throw0 (names := EXC) hx hb hl0 hown (by decide +kernel) (by decide +kernel) hc_107 hz_ex hat ki_ot hth.2.1 hth.2.2 hS (hl.1.trans hml.symm) dX4_heavyAt_37 dX4_heavyAt_40 dX4_heavyAt_41 dX4_heavyAt_44 (fun x h => (htab x h).elim) (Nat.le_of_ble_eq_true rfl) (Nat.le_of_ble_eq_true rfl) (Nat.le_of_ble_eq_true rfl) (Nat.le_of_ble_eq_true rfl) hlocks (fun t ha hz hk => ⟨(old, nodes, here, ff, ft, fs, fo, fe, uv, un, js, jl, je, jv, jn, vs, lo, le, fv, fn), ⟨(by decide), l0, s0⟩, ⟨rfl, hP9.kept (fun k x hx => hk x.1 ((hP9 k x hx).lt)), va_K.moved ha hK9, hD9⟩, Nat.le_trans hS.1 hz, fun q h1 h2 => (hk q (Nat.lt_of_lt_of_le h1 hS.1)).trans (hS.2.1 q h1 h2)⟩) hS.2.2 (Nat.le_refl _) (Nat.le_refl _)
        · exact absurd c_37 (by decide)
  · have w_1 : (p0.toInt < 0 ∨ p1.toInt ≤ p0.toInt ∨ len.toInt < p1.toInt) := w_1
    refine lv_if_eq (tgt := 37) hx hb dX4_heavyAt_9 (by decide) (fun c_38 => ?_) (fun c_38 => ?_)
    · have hP9 := hP.sub (ws' := [kx_4 m_ q_row q_t t_ h0 k0 w_ z_ slots old, kx_2 q_t q_row q_joined q_from q_to q_size q_lossOf q_lessBy q_value q_number nodes here, kx_0 q_row q_cell len, kx_a q_cell cyI 160 f, kx_a q_from cyI 319 ff, kx_a q_to cyI 319 ft, kx_a q_size cyI 319 fs, kx_a q_lossOf cyI 319 fo, kx_a q_lessBy cyI 319 fe, kx_a q_value cyI 1914 uv, kx_a q_number cyI 1914 un, kx_3 q_joined j_v j_n js jl je, kx_a j_v cyI 12 jv, kx_a j_n cyI 12 jn, kx_3 h0 a_v a_n vs lo le, kx_a a_v cyI 12 fv, kx_a a_n cyI 12 fn]) [0, 1, 2, 3, 4, 5, 6, 7, 8, 9, 10, 11, 12, 13, 14, 15, 16] rfl
      have hD9 := hD.sub (ws' := [kx_4 m_ q_row q_t t_ h0 k0 w_ z_ slots old, kx_2 q_t q_row q_joined q_from q_to q_size q_lossOf q_lessBy q_value q_number nodes here, kx_0 q_row q_cell len, kx_a q_cell cyI 160 f, kx_a q_from cyI 319 ff, kx_a q_to cyI 319 ft, kx_a q_size cyI 319 fs, kx_a q_lossOf cyI 319 fo, kx_a q_lessBy cyI 319 fe, kx_a q_value cyI 1914 uv, kx_a q_number cyI 1914 un, kx_3 q_joined j_v j_n js jl je, kx_a j_v cyI 12 jv, kx_a j_n cyI 12 jn, kx_3 h0 a_v a_n vs lo le, kx_a a_v cyI 12 fv, kx_a a_n cyI 12 fn]) [0, 1, 2, 3, 4, 5, 6, 7, 8, 9, 10, 11, 12, 13, 14, 15, 16] (by decide) rfl
      have hK9 := hK.sub (tys' := [(cyI, .int)]) [0] rfl
      exact vx_throw0 (names := EXC) hx hb hl0 hown (by decide +kernel) (by decide +kernel) hc_107 hz_ex hat ki_ot hth.2.1 hth.2.2 hS (hl.1.trans hml.symm) dX4_heavyAt_37 dX4_heavyAt_40 dX4_heavyAt_41 dX4_heavyAt_44 (fun x h => (htab x h).elim) (Nat.le_of_ble_eq_true rfl) (Nat.le_of_ble_eq_true rfl) (Nat.le_of_ble_eq_true rfl) (Nat.le_of_ble_eq_true rfl) hlocks (fun t ha hz hk => ⟨(old, nodes, here, ff, ft, fs, fo, fe, uv, un, js, jl, je, jv, jn, vs, lo, le, fv, fn), ⟨(by decide), l0, s0⟩, ⟨rfl, hP9.kept (fun k x hx => hk x.1 ((hP9 k x hx).lt)), va_K.moved ha hK9, hD9⟩, Nat.le_trans hS.1 hz, fun q h1 h2 => (hk q (Nat.lt_of_lt_of_le h1 hS.1)).trans (hS.2.1 q h1 h2)⟩) hS.2.2 (Nat.le_refl _) (Nat.le_refl _)
    · exact absurd c_38 (by decide)

set_option maxHeartbeats 4000000 in
set_option maxRecDepth 100000 in
theorem c_L_vote_x (l : Launch) (hl0 : l.stackTraces = false) (dC : Nat → ClassId) (dI : Nat → Nat → Nat) (m_ : Nat) (q_row : Nat) (q_t : Nat) (t_ : Nat) (h0 : Nat) (k0 : Nat) (w_ : Nat) (z_ : Nat) (slots : Int32) (old : Int32) (q_joined : Nat) (q_from : Nat) (q_to : Nat) (q_size : Nat) (q_lossOf : Nat) (q_lessBy : Nat) (q_value : Nat) (q_number : Nat) (nodes : Int32) (here : Int32) (q_cell : Nat) (cyI : ClassId) (len : Int32) (f : Nat → Int32) (ff : Nat → Int32) (ft : Nat → Int32) (fs : Nat → Int32) (fo : Nat → Int32) (uv : Nat → Int32) (un : Nat → Int32) (fe : Nat → Int32) (j_v : Nat) (j_n : Nat) (js : Int32) (jl : Int32) (je : Int32) (jv : Nat → Int32) (jn : Nat → Int32) (a_v : Nat) (a_n : Nat) (vs : Int32) (lo : Int32) (le : Int32) (fv : Nat → Int32) (fn : Nat → Int32) (p0 : Int32) (p1 : Int32) (p2 : Int32) (p3 : Int32) (cyL : ClassId) (ho : Nat) (ol : Nat → Int64) (sz : Nat) (a0 : 0 ≤ len.toInt) (a1 : len.toInt ≤ 160) (s0 : sixes fs) (sl0 : 1 ≤ slots.toInt) (sl1 : slots.toInt ≤ 6) (l0 : laidX old slots here f ff ft fs fo fe uv un nodes len) : Met l yL_vote wsL_vote ({ frames := 9, cells := 1, slots := 6, locals := 405 }) (va_Pc [.ref m_, .int p0, .int p1, .int p2, .int p3, .ref ho] (fun U => U.heap.size = sz ∧ va_P (dC, dI) vwCl [kx_4 m_ q_row q_t t_ h0 k0 w_ z_ slots old, kx_2 q_t q_row q_joined q_from q_to q_size q_lossOf q_lessBy q_value q_number nodes here, kx_0 q_row q_cell len, kx_a q_cell cyI 160 f, kx_a q_from cyI 319 ff, kx_a q_to cyI 319 ft, kx_a q_size cyI 319 fs, kx_a q_lossOf cyI 319 fo, kx_a q_lessBy cyI 319 fe, kx_a q_value cyI 1914 uv, kx_a q_number cyI 1914 un, kx_3 q_joined j_v j_n js jl je, kx_a j_v cyI 12 jv, kx_a j_n cyI 12 jn, kx_3 h0 a_v a_n vs lo le, kx_a a_v cyI 12 fv, kx_a a_n cyI 12 fn, (ho, .inl (cyL, 1, .inr (.inl ol)))] U.heap ∧ va_K (dC, dI) vwCl [(cyI, .int), (cyL, .long)] U ∧ va_D (fun _ => True) [kx_4 m_ q_row q_t t_ h0 k0 w_ z_ slots old, kx_2 q_t q_row q_joined q_from q_to q_size q_lossOf q_lessBy q_value q_number nodes here, kx_0 q_row q_cell len, kx_a q_cell cyI 160 f, kx_a q_from cyI 319 ff, kx_a q_to cyI 319 ft, kx_a q_size cyI 319 fs, kx_a q_lossOf cyI 319 fo, kx_a q_lessBy cyI 319 fe, kx_a q_value cyI 1914 uv, kx_a q_number cyI 1914 un, kx_3 q_joined j_v j_n js jl je, kx_a j_v cyI 12 jv, kx_a j_n cyI 12 jn, kx_3 h0 a_v a_n vs lo le, kx_a a_v cyI 12 fv, kx_a a_n cyI 12 fn, (ho, .inl (cyL, 1, .inr (.inl ol)))] ∧ ki_ThA (va_A [kx_4 m_ q_row q_t t_ h0 k0 w_ z_ slots old, kx_2 q_t q_row q_joined q_from q_to q_size q_lossOf q_lessBy q_value q_number nodes here, kx_0 q_row q_cell len, kx_a q_cell cyI 160 f, kx_a q_from cyI 319 ff, kx_a q_to cyI 319 ft, kx_a q_size cyI 319 fs, kx_a q_lossOf cyI 319 fo, kx_a q_lessBy cyI 319 fe, kx_a q_value cyI 1914 uv, kx_a q_number cyI 1914 un, kx_3 q_joined j_v j_n js jl je, kx_a j_v cyI 12 jv, kx_a j_n cyI 12 jn, kx_3 h0 a_v a_n vs lo le, kx_a a_v cyI 12 fv, kx_a a_n cyI 12 fn, (ho, .inl (cyL, 1, .inr (.inl ol)))] sz) U)) (va_Qi (fun (r : Int32) (u : Int32 × Int32 × Int32 × (Nat → Int32) × (Nat → Int32) × (Nat → Int32) × (Nat → Int32) × (Nat → Int32) × (Nat → Int32) × (Nat → Int32) × Int32 × Int32 × Int32 × (Nat → Int32) × (Nat → Int32) × Int32 × Int32 × Int32 × (Nat → Int32) × (Nat → Int32) × (Nat → Int64) × Int32) => ((r = 0 ∧ ((0 : Int) ≤ 1) ∧ u.2.2.2.2.2.2.2.2.2.2.2.2.2.2.2.2.2.2.2.2.1 = vp_updL ol (0 : Int32).toNatClampNeg u.2.2.2.2.2.2.2.2.2.2.2.2.2.2.2.2.2.2.2.2.2.toInt64) ∨ (r = 1 ∧ ((0 : Int) ≤ 1))) ∧ laidX u.1 slots u.2.2.1 f u.2.2.2.1 u.2.2.2.2.1 u.2.2.2.2.2.1 u.2.2.2.2.2.2.1 u.2.2.2.2.2.2.2.1 u.2.2.2.2.2.2.2.2.1 u.2.2.2.2.2.2.2.2.2.1 u.2.1 len ∧ sixes u.2.2.2.2.2.1) (fun (u : Int32 × Int32 × Int32 × (Nat → Int32) × (Nat → Int32) × (Nat → Int32) × (Nat → Int32) × (Nat → Int32) × (Nat → Int32) × (Nat → Int32) × Int32 × Int32 × Int32 × (Nat → Int32) × (Nat → Int32) × Int32 × Int32 × Int32 × (Nat → Int32) × (Nat → Int32) × (Nat → Int64) × Int32) (t : State) => va_P (dC, dI) vwCl [kx_4 m_ q_row q_t t_ h0 k0 w_ z_ slots u.1, kx_2 q_t q_row q_joined q_from q_to q_size q_lossOf q_lessBy q_value q_number u.2.1 u.2.2.1, kx_0 q_row q_cell len, kx_a q_cell cyI 160 f, kx_a q_from cyI 319 u.2.2.2.1, kx_a q_to cyI 319 u.2.2.2.2.1, kx_a q_size cyI 319 u.2.2.2.2.2.1, kx_a q_lossOf cyI 319 u.2.2.2.2.2.2.1, kx_a q_lessBy cyI 319 u.2.2.2.2.2.2.2.1, kx_a q_value cyI 1914 u.2.2.2.2.2.2.2.2.1, kx_a q_number cyI 1914 u.2.2.2.2.2.2.2.2.2.1, kx_3 q_joined j_v j_n u.2.2.2.2.2.2.2.2.2.2.1 u.2.2.2.2.2.2.2.2.2.2.2.1 u.2.2.2.2.2.2.2.2.2.2.2.2.1, kx_a j_v cyI 12 u.2.2.2.2.2.2.2.2.2.2.2.2.2.1, kx_a j_n cyI 12 u.2.2.2.2.2.2.2.2.2.2.2.2.2.2.1, kx_3 h0 a_v a_n u.2.2.2.2.2.2.2.2.2.2.2.2.2.2.2.1 u.2.2.2.2.2.2.2.2.2.2.2.2.2.2.2.2.1 u.2.2.2.2.2.2.2.2.2.2.2.2.2.2.2.2.2.1, kx_a a_v cyI 12 u.2.2.2.2.2.2.2.2.2.2.2.2.2.2.2.2.2.2.1, kx_a a_n cyI 12 u.2.2.2.2.2.2.2.2.2.2.2.2.2.2.2.2.2.2.2.1, (ho, .inl (cyL, 1, .inr (.inl u.2.2.2.2.2.2.2.2.2.2.2.2.2.2.2.2.2.2.2.2.1)))] t.heap ∧ va_K (dC, dI) vwCl [(cyI, .int), (cyL, .long)] t ∧ va_D (va_A [kx_4 m_ q_row q_t t_ h0 k0 w_ z_ slots old, kx_2 q_t q_row q_joined q_from q_to q_size q_lossOf q_lessBy q_value q_number nodes here, kx_0 q_row q_cell len, kx_a q_cell cyI 160 f, kx_a q_from cyI 319 ff, kx_a q_to cyI 319 ft, kx_a q_size cyI 319 fs, kx_a q_lossOf cyI 319 fo, kx_a q_lessBy cyI 319 fe, kx_a q_value cyI 1914 uv, kx_a q_number cyI 1914 un, kx_3 q_joined j_v j_n js jl je, kx_a j_v cyI 12 jv, kx_a j_n cyI 12 jn, kx_3 h0 a_v a_n vs lo le, kx_a a_v cyI 12 fv, kx_a a_n cyI 12 fn, (ho, .inl (cyL, 1, .inr (.inl ol)))] sz) [kx_4 m_ q_row q_t t_ h0 k0 w_ z_ slots u.1, kx_2 q_t q_row q_joined q_from q_to q_size q_lossOf q_lessBy q_value q_number u.2.1 u.2.2.1, kx_0 q_row q_cell len, kx_a q_cell cyI 160 f, kx_a q_from cyI 319 u.2.2.2.1, kx_a q_to cyI 319 u.2.2.2.2.1, kx_a q_size cyI 319 u.2.2.2.2.2.1, kx_a q_lossOf cyI 319 u.2.2.2.2.2.2.1, kx_a q_lessBy cyI 319 u.2.2.2.2.2.2.2.1, kx_a q_value cyI 1914 u.2.2.2.2.2.2.2.2.1, kx_a q_number cyI 1914 u.2.2.2.2.2.2.2.2.2.1, kx_3 q_joined j_v j_n u.2.2.2.2.2.2.2.2.2.2.1 u.2.2.2.2.2.2.2.2.2.2.2.1 u.2.2.2.2.2.2.2.2.2.2.2.2.1, kx_a j_v cyI 12 u.2.2.2.2.2.2.2.2.2.2.2.2.2.1, kx_a j_n cyI 12 u.2.2.2.2.2.2.2.2.2.2.2.2.2.2.1, kx_3 h0 a_v a_n u.2.2.2.2.2.2.2.2.2.2.2.2.2.2.2.1 u.2.2.2.2.2.2.2.2.2.2.2.2.2.2.2.2.1 u.2.2.2.2.2.2.2.2.2.2.2.2.2.2.2.2.2.1, kx_a a_v cyI 12 u.2.2.2.2.2.2.2.2.2.2.2.2.2.2.2.2.2.2.1, kx_a a_n cyI 12 u.2.2.2.2.2.2.2.2.2.2.2.2.2.2.2.2.2.2.2.1, (ho, .inl (cyL, 1, .inr (.inl u.2.2.2.2.2.2.2.2.2.2.2.2.2.2.2.2.2.2.2.2.1)))]) (va_A [kx_4 m_ q_row q_t t_ h0 k0 w_ z_ slots old, kx_2 q_t q_row q_joined q_from q_to q_size q_lossOf q_lessBy q_value q_number nodes here, kx_0 q_row q_cell len, kx_a q_cell cyI 160 f, kx_a q_from cyI 319 ff, kx_a q_to cyI 319 ft, kx_a q_size cyI 319 fs, kx_a q_lossOf cyI 319 fo, kx_a q_lessBy cyI 319 fe, kx_a q_value cyI 1914 uv, kx_a q_number cyI 1914 un, kx_3 q_joined j_v j_n js jl je, kx_a j_v cyI 12 jv, kx_a j_n cyI 12 jn, kx_3 h0 a_v a_n vs lo le, kx_a a_v cyI 12 fv, kx_a a_n cyI 12 fn, (ho, .inl (cyL, 1, .inr (.inl ol)))] sz)) 1 6 (va_A [kx_4 m_ q_row q_t t_ h0 k0 w_ z_ slots old, kx_2 q_t q_row q_joined q_from q_to q_size q_lossOf q_lessBy q_value q_number nodes here, kx_0 q_row q_cell len, kx_a q_cell cyI 160 f, kx_a q_from cyI 319 ff, kx_a q_to cyI 319 ft, kx_a q_size cyI 319 fs, kx_a q_lossOf cyI 319 fo, kx_a q_lessBy cyI 319 fe, kx_a q_value cyI 1914 uv, kx_a q_number cyI 1914 un, kx_3 q_joined j_v j_n js jl je, kx_a j_v cyI 12 jv, kx_a j_n cyI 12 jn, kx_3 h0 a_v a_n vs lo le, kx_a a_v cyI 12 fv, kx_a a_n cyI 12 fn, (ho, .inl (cyL, 1, .inr (.inl ol)))] sz) := by
  refine va_MetW (cc := cL_vote) (maxL := 7) (ret := (some .int)) (hh := [(0, 14, 17, 13)]) (by decide) rfl ?_
  intro p e s m args below meth c s₁ B hml hv
  obtain ⟨rfl, hsz, hP, hK, hD0, hth⟩ := hv
  have hx := B.exec
  have hb := B.bytes
  have hr := B.returns
  have hts := atoms_spec (ws := wsL_vote) B.pre
  have hown : s.vm.findClass RL = some m.cls := findClass_of_methodNamed B.named
  have hlocks := B.notSynchronized
  have htb : c.exceptionTable.toList = tableOf [(0, 14, 17, 13)] := vx_table (x := yL_vote) B (hts (.codeWith yL_vote cL_vote 7 (some .int) [(0, 14, 17, 13)]) List.mem_cons_self)
  subst hsz
  have hD := hD0.self (sz := s.heap.size)
  generalize hAe : va_A [kx_4 m_ q_row q_t t_ h0 k0 w_ z_ slots old, kx_2 q_t q_row q_joined q_from q_to q_size q_lossOf q_lessBy q_value q_number nodes here, kx_0 q_row q_cell len, kx_a q_cell cyI 160 f, kx_a q_from cyI 319 ff, kx_a q_to cyI 319 ft, kx_a q_size cyI 319 fs, kx_a q_lossOf cyI 319 fo, kx_a q_lessBy cyI 319 fe, kx_a q_value cyI 1914 uv, kx_a q_number cyI 1914 un, kx_3 q_joined j_v j_n js jl je, kx_a j_v cyI 12 jv, kx_a j_n cyI 12 jn, kx_3 h0 a_v a_n vs lo le, kx_a a_v cyI 12 fv, kx_a a_n cyI 12 fn, (ho, .inl (cyL, 1, .inr (.inl ol)))] s.heap.size = A at hD hth ⊢
  have hA : ∀ q : Nat, s.heap.size ≤ q → A q := fun q h => by rw [← hAe]; exact Or.inr h
  have hS : va_S A s.heap s.heap [] := va_S.rf
  have hP : va_P (dC, dI) vwCl [kx_4 m_ q_row q_t t_ h0 k0 w_ z_ slots old, kx_2 q_t q_row q_joined q_from q_to q_size q_lossOf q_lessBy q_value q_number nodes here, kx_0 q_row q_cell len, kx_a q_cell cyI 160 f, kx_a q_from cyI 319 ff, kx_a q_to cyI 319 ft, kx_a q_size cyI 319 fs, kx_a q_lossOf cyI 319 fo, kx_a q_lessBy cyI 319 fe, kx_a q_value cyI 1914 uv, kx_a q_number cyI 1914 un, kx_3 q_joined j_v j_n js jl je, kx_a j_v cyI 12 jv, kx_a j_n cyI 12 jn, kx_3 h0 a_v a_n vs lo le, kx_a a_v cyI 12 fv, kx_a a_n cyI 12 fn, (ho, .inl (cyL, 1, .inr (.inl ol)))] s.heap := hP
  have hl := lv_entry ([.ref m_, .int p0, .int p1, .int p2, .int p3, .ref ho]) (n := 7) (Nat.le_of_ble_eq_true rfl)
  rw [lg_entry_eq]
  generalize (lg_sl ([.ref m_, .int p0, .int p1, .int p2, .int p3, .ref ho]) ++ List.replicate (7 - (lg_sl ([.ref m_, .int p0, .int p1, .int p2, .int p3, .ref ho])).length) Slot.unset).toArray = ls at hl ⊢
  have hl : lv_has ls 7 [(0, .ref m_), (1, .int p0), (2, .int p1), (3, .int p2), (4, .int p3), (5, .ref ho)] := hl
  refine lv_aload hx hb dL_vote_0 (lv_at hl 5 rfl) ?_
  refine lv_iconst (v := 0) hx hb dL_vote_2 (by decide) ?_
  refine lv_aload_n hx hb dL_vote_3 rfl (lv_at hl 0 rfl) ?_
  refine lv_iload_n hx hb dL_vote_4 rfl (lv_at hl 1 rfl) ?_
  refine lv_iload_n hx hb dL_vote_5 rfl (lv_at hl 2 rfl) ?_
  refine lv_iload_n hx hb dL_vote_6 rfl (lv_at hl 3 rfl) ?_
  refine lv_iload hx hb dL_vote_7 (lv_at hl 4 rfl) ?_
  have hPc := hP.sub (ws' := [kx_4 m_ q_row q_t t_ h0 k0 w_ z_ slots old, kx_2 q_t q_row q_joined q_from q_to q_size q_lossOf q_lessBy q_value q_number nodes here, kx_0 q_row q_cell len, kx_a q_cell cyI 160 f, kx_a q_from cyI 319 ff, kx_a q_to cyI 319 ft, kx_a q_size cyI 319 fs, kx_a q_lossOf cyI 319 fo, kx_a q_lessBy cyI 319 fe, kx_a q_value cyI 1914 uv, kx_a q_number cyI 1914 un, kx_3 q_joined j_v j_n js jl je, kx_a j_v cyI 12 jv, kx_a j_n cyI 12 jn, kx_3 h0 a_v a_n vs lo le, kx_a a_v cyI 12 fv, kx_a a_n cyI 12 fn]) [0, 1, 2, 3, 4, 5, 6, 7, 8, 9, 10, 11, 12, 13, 14, 15, 16] rfl
  have hKc := hK.sub (tys' := [(cyI, .int)]) [0] rfl
  have hDc := hD.sub (ws' := [kx_4 m_ q_row q_t t_ h0 k0 w_ z_ slots old, kx_2 q_t q_row q_joined q_from q_to q_size q_lossOf q_lessBy q_value q_number nodes here, kx_0 q_row q_cell len, kx_a q_cell cyI 160 f, kx_a q_from cyI 319 ff, kx_a q_to cyI 319 ft, kx_a q_size cyI 319 fs, kx_a q_lossOf cyI 319 fo, kx_a q_lessBy cyI 319 fe, kx_a q_value cyI 1914 uv, kx_a q_number cyI 1914 un, kx_3 q_joined j_v j_n js jl je, kx_a j_v cyI 12 jv, kx_a j_n cyI 12 jn, kx_3 h0 a_v a_n vs lo le, kx_a a_v cyI 12 fv, kx_a a_n cyI 12 fn]) [0, 1, 2, 3, 4, 5, 6, 7, 8, 9, 10, 11, 12, 13, 14, 15, 16] (by decide) rfl
  have hFc := va_free (wc := [kx_4 m_ q_row q_t t_ h0 k0 w_ z_ slots old, kx_2 q_t q_row q_joined q_from q_to q_size q_lossOf q_lessBy q_value q_number nodes here, kx_0 q_row q_cell len, kx_a q_cell cyI 160 f, kx_a q_from cyI 319 ff, kx_a q_to cyI 319 ft, kx_a q_size cyI 319 fs, kx_a q_lossOf cyI 319 fo, kx_a q_lessBy cyI 319 fe, kx_a q_value cyI 1914 uv, kx_a q_number cyI 1914 un, kx_3 q_joined j_v j_n js jl je, kx_a j_v cyI 12 jv, kx_a j_n cyI 12 jn, kx_3 h0 a_v a_n vs lo le, kx_a a_v cyI 12 fv, kx_a a_n cyI 12 fn]) hD hS hA [0, 1, 2, 3, 4, 5, 6, 7, 8, 9, 10, 11, 12, 13, 14, 15, 16] rfl
  refine vx_calli (vx_runV (As := [.int p0, .int p1, .int p2, .int p3]) (rest := [.int 0, .ref ho]) ⟨hx, hb, hml, hown, hts⟩ (c_X4_vote_x l hl0 dC dI m_ q_row q_t t_ h0 k0 w_ z_ slots old q_joined q_from q_to q_size q_lossOf q_lessBy q_value q_number nodes here q_cell cyI len f ff ft fs fo uv un fe j_v j_n js jl je jv jn a_v a_n vs lo le fv fn p0 p1 p2 p3 s.heap.size a0 a1 s0 sl0 sl1 l0) (cwV 4 hts gL_vote_X4_vote rfl rfl rfl (by decide +kernel) ⟨Nat.le_of_ble_eq_true rfl, Nat.le_of_ble_eq_true rfl⟩) ⟨fun a U g mk q => by obtain ⟨q0, q1, qP, qK, qD, qT⟩ := q; exact ⟨q0, q1, qP, va_K.moved (u := U) (U := U.calling g mk a) (Vm.Alike.refl U.vm) qK, qD, qT.call g mk a⟩, kx_rc4 hKc hPc (q0 := 0) rfl, fun U hU hW => ⟨rfl, by rw [hU], by rw [hU]; exact hPc, va_K.moved hW.alike hKc, hDc.weaken (fun _ _ _ _ => trivial), hth.from hS hU hW hFc⟩⟩ rfl rfl hl.1 rfl (lv_room (Nat.le_of_ble_eq_true rfl)) dL_vote_9 ⟨Nat.le_of_ble_eq_true rfl, Nat.le_of_ble_eq_true rfl⟩) hS (fun q _ h => hFc q h) hFc (fun q _ h => hFc q h) (fun E ce q9 u t H1 locs ht hvm w_1 hB hz1 hk1 hS hce hcv hcl => ?_) (fun r_1 u t H1 locs ht hvm w_1 hB hz1 hk1 hS => ?_)
  · obtain ⟨o_2, o_3, o_4, o_5, o_6, o_7, o_8, o_9, o_10, o_11, o_12, o_13, o_14, o_15, o_16, o_17, o_18, o_19, o_20, o_21⟩ := u
    dsimp only at w_1 hB
    obtain ⟨hE, hP1, hK1, hD1⟩ := hB
    subst hE
    rw [ht] at hP1
    have hK1 := va_K.moved hvm.symm hK1
    obtain ⟨hP, hD⟩ := va_join (wr := [(ho, .inl (cyL, 1, .inr (.inl ol)))]) (w1 := [kx_4 m_ q_row q_t t_ h0 k0 w_ z_ slots o_2, kx_2 q_t q_row q_joined q_from q_to q_size q_lossOf q_lessBy q_value q_number o_3 o_4, kx_0 q_row q_cell len, kx_a q_cell cyI 160 f, kx_a q_from cyI 319 o_5, kx_a q_to cyI 319 o_6, kx_a q_size cyI 319 o_7, kx_a q_lossOf cyI 319 o_8, kx_a q_lessBy cyI 319 o_9, kx_a q_value cyI 1914 o_10, kx_a q_number cyI 1914 o_11, kx_3 q_joined j_v j_n o_12 o_13 o_14, kx_a j_v cyI 12 o_15, kx_a j_n cyI 12 o_16, kx_3 h0 a_v a_n o_17 o_18 o_19, kx_a a_v cyI 12 o_20, kx_a a_n cyI 12 o_21]) hP hD [0, 1, 2, 3, 4, 5, 6, 7, 8, 9, 10, 11, 12, 13, 14, 15, 16] [17] rfl rfl (by decide) (by decide) hk1 hFc hP1 hD1
    clear hP1 hD1 hK1 hk1 hz1 hFc hDc hPc hKc
    generalize H1 = H at hP hS hce ⊢
    obtain ⟨hP, hD⟩ := kx_re (w2 := [(ho, .inl (cyL, 1, .inr (.inl ol))), kx_4 m_ q_row q_t t_ h0 k0 w_ z_ slots o_2, kx_2 q_t q_row q_joined q_from q_to q_size q_lossOf q_lessBy q_value q_number o_3 o_4, kx_0 q_row q_cell len, kx_a q_cell cyI 160 f, kx_a q_from cyI 319 o_5, kx_a q_to cyI 319 o_6, kx_a q_size cyI 319 o_7, kx_a q_lossOf cyI 319 o_8, kx_a q_lessBy cyI 319 o_9, kx_a q_value cyI 1914 o_10, kx_a q_number cyI 1914 o_11, kx_3 q_joined j_v j_n o_12 o_13 o_14, kx_a j_v cyI 12 o_15, kx_a j_n cyI 12 o_16, kx_3 h0 a_v a_n o_17 o_18 o_19, kx_a a_v cyI 12 o_20, kx_a a_n cyI 12 o_21]) hP hD rfl
    refine vx_catch hown [] ⟨0, 14, 17, 13⟩ [] htb (fun z hz => by cases hz) (by decide) (by decide) (hts (.classLink RL 13 EXN) (by decide +kernel)) (va_Nw.use rfl hth.1.1) hce hcv hcl ?_
    refine W.eq (g2 := F0 m 17 ls [.ref q9]) rfl ?_
    have w_1 : (0 : Int) ≤ 1 ∧ laidX o_2 slots o_4 f o_5 o_6 o_7 o_8 o_9 o_10 o_11 o_3 len ∧ sixes o_7 := w_1
    refine W.widen (k := 1) (n := 6) (Nat.le_of_ble_eq_true rfl) (Nat.le_of_ble_eq_true rfl) ?_
    refine lv_astore (lv' := [(6, .ref q9), (0, .ref m_), (1, .int p0), (2, .int p1), (3, .int p2), (4, .int p3), (5, .ref ho)]) hx hb dL_vote_17 hl (by decide) rfl (fun ls hl => ?_)
    refine lv_iconst (v := 1) hx hb dL_vote_19 (by decide) ?_
    obtain ⟨hP9, hD9⟩ := kx_sub (w2 := [kx_4 m_ q_row q_t t_ h0 k0 w_ z_ slots o_2, kx_2 q_t q_row q_joined q_from q_to q_size q_lossOf q_lessBy q_value q_number o_3 o_4, kx_0 q_row q_cell len, kx_a q_cell cyI 160 f, kx_a q_from cyI 319 o_5, kx_a q_to cyI 319 o_6, kx_a q_size cyI 319 o_7, kx_a q_lossOf cyI 319 o_8, kx_a q_lessBy cyI 319 o_9, kx_a q_value cyI 1914 o_10, kx_a q_number cyI 1914 o_11, kx_3 q_joined j_v j_n o_12 o_13 o_14, kx_a j_v cyI 12 o_15, kx_a j_n cyI 12 o_16, kx_3 h0 a_v a_n o_17 o_18 o_19, kx_a a_v cyI 12 o_20, kx_a a_n cyI 12 o_21, (ho, .inl (cyL, 1, .inr (.inl ol)))]) hP hD [1, 2, 3, 4, 5, 6, 7, 8, 9, 10, 11, 12, 13, 14, 15, 16, 17, 0] (by decide) rfl
    have hK9 := hK
    exact W.iret (v := 1) hx hb hr (hlocks := hlocks) (fun t ht hW => ⟨⟨1, (o_2, o_3, o_4, o_5, o_6, o_7, o_8, o_9, o_10, o_11, o_12, o_13, o_14, o_15, o_16, o_17, o_18, o_19, o_20, o_21, ol, (0 : Int32)), rfl, ⟨Or.inr ⟨rfl, w_1.1⟩, w_1.2⟩, by rw [ht]; exact hP9, va_K.moved hW.alike hK9, hD9⟩, hS.F ht⟩) hS.2.2 dL_vote_20
  · obtain ⟨o_22, o_23, o_24, o_25, o_26, o_27, o_28, o_29, o_30, o_31, o_32, o_33, o_34, o_35, o_36, o_37, o_38, o_39, o_40, o_41⟩ := u
    dsimp only at w_1 hB
    obtain ⟨hP1, hK1, hD1⟩ := hB
    rw [ht] at hP1
    have hK1 := va_K.moved hvm.symm hK1
    obtain ⟨hP, hD⟩ := va_join (wr := [(ho, .inl (cyL, 1, .inr (.inl ol)))]) (w1 := [kx_4 m_ q_row q_t t_ h0 k0 w_ z_ slots o_22, kx_2 q_t q_row q_joined q_from q_to q_size q_lossOf q_lessBy q_value q_number o_23 o_24, kx_0 q_row q_cell len, kx_a q_cell cyI 160 f, kx_a q_from cyI 319 o_25, kx_a q_to cyI 319 o_26, kx_a q_size cyI 319 o_27, kx_a q_lossOf cyI 319 o_28, kx_a q_lessBy cyI 319 o_29, kx_a q_value cyI 1914 o_30, kx_a q_number cyI 1914 o_31, kx_3 q_joined j_v j_n o_32 o_33 o_34, kx_a j_v cyI 12 o_35, kx_a j_n cyI 12 o_36, kx_3 h0 a_v a_n o_37 o_38 o_39, kx_a a_v cyI 12 o_40, kx_a a_n cyI 12 o_41]) hP hD [0, 1, 2, 3, 4, 5, 6, 7, 8, 9, 10, 11, 12, 13, 14, 15, 16] [17] rfl rfl (by decide) (by decide) hk1 hFc hP1 hD1
    clear hP1 hD1 hK1 hk1 hz1 hFc hDc hPc hKc
    generalize H1 = H at hP hS ⊢
    obtain ⟨hP, hD⟩ := kx_re (w2 := [(ho, .inl (cyL, 1, .inr (.inl ol))), kx_4 m_ q_row q_t t_ h0 k0 w_ z_ slots o_22, kx_2 q_t q_row q_joined q_from q_to q_size q_lossOf q_lessBy q_value q_number o_23 o_24, kx_0 q_row q_cell len, kx_a q_cell cyI 160 f, kx_a q_from cyI 319 o_25, kx_a q_to cyI 319 o_26, kx_a q_size cyI 319 o_27, kx_a q_lossOf cyI 319 o_28, kx_a q_lessBy cyI 319 o_29, kx_a q_value cyI 1914 o_30, kx_a q_number cyI 1914 o_31, kx_3 q_joined j_v j_n o_32 o_33 o_34, kx_a j_v cyI 12 o_35, kx_a j_n cyI 12 o_36, kx_3 h0 a_v a_n o_37 o_38 o_39, kx_a a_v cyI 12 o_40, kx_a a_n cyI 12 o_41]) hP hD rfl
    have w_1 : (0 : Int) ≤ 1 ∧ laidX o_22 slots o_24 f o_25 o_26 o_27 o_28 o_29 o_30 o_31 o_23 len ∧ sixes o_27 := w_1
    refine W.widen (k := 1) (n := 6) (Nat.le_of_ble_eq_true rfl) (Nat.le_of_ble_eq_true rfl) ?_
    refine lv_i2l hx hb dL_vote_12 rfl ?_
    refine va_last hx hb hK hP hD hS 0 1 rfl rfl (ki_inl (by decide)) dL_vote_13 (fun H locs hP hD hS => ?_)
    obtain ⟨hP, hD⟩ := kx_re (w2 := [(ho, .inl (cyL, 1, .inr (.inl (vp_updL ol (0 : Int32).toNatClampNeg r_1.toInt64)))), kx_4 m_ q_row q_t t_ h0 k0 w_ z_ slots o_22, kx_2 q_t q_row q_joined q_from q_to q_size q_lossOf q_lessBy q_value q_number o_23 o_24, kx_0 q_row q_cell len, kx_a q_cell cyI 160 f, kx_a q_from cyI 319 o_25, kx_a q_to cyI 319 o_26, kx_a q_size cyI 319 o_27, kx_a q_lossOf cyI 319 o_28, kx_a q_lessBy cyI 319 o_29, kx_a q_value cyI 1914 o_30, kx_a q_number cyI 1914 o_31, kx_3 q_joined j_v j_n o_32 o_33 o_34, kx_a j_v cyI 12 o_35, kx_a j_n cyI 12 o_36, kx_3 h0 a_v a_n o_37 o_38 o_39, kx_a a_v cyI 12 o_40, kx_a a_n cyI 12 o_41]) hP hD rfl
    refine lv_goto (tgt := 21) hx hb dL_vote_14 (by decide) ?_
    refine lv_iconst (v := 0) hx hb dL_vote_21 (by decide) ?_
    obtain ⟨hP9, hD9⟩ := kx_sub (w2 := [kx_4 m_ q_row q_t t_ h0 k0 w_ z_ slots o_22, kx_2 q_t q_row q_joined q_from q_to q_size q_lossOf q_lessBy q_value q_number o_23 o_24, kx_0 q_row q_cell len, kx_a q_cell cyI 160 f, kx_a q_from cyI 319 o_25, kx_a q_to cyI 319 o_26, kx_a q_size cyI 319 o_27, kx_a q_lossOf cyI 319 o_28, kx_a q_lessBy cyI 319 o_29, kx_a q_value cyI 1914 o_30, kx_a q_number cyI 1914 o_31, kx_3 q_joined j_v j_n o_32 o_33 o_34, kx_a j_v cyI 12 o_35, kx_a j_n cyI 12 o_36, kx_3 h0 a_v a_n o_37 o_38 o_39, kx_a a_v cyI 12 o_40, kx_a a_n cyI 12 o_41, (ho, .inl (cyL, 1, .inr (.inl (vp_updL ol (0 : Int32).toNatClampNeg r_1.toInt64))))]) hP hD [1, 2, 3, 4, 5, 6, 7, 8, 9, 10, 11, 12, 13, 14, 15, 16, 17, 0] (by decide) rfl
    have hK9 := hK
    exact W.iret (v := 0) hx hb hr (hlocks := hlocks) (fun t ht hW => ⟨⟨0, (o_22, o_23, o_24, o_25, o_26, o_27, o_28, o_29, o_30, o_31, o_32, o_33, o_34, o_35, o_36, o_37, o_38, o_39, o_40, o_41, (vp_updL ol (0 : Int32).toNatClampNeg r_1.toInt64), r_1), rfl, ⟨Or.inl ⟨rfl, w_1.1, rfl⟩, w_1.2⟩, by rw [ht]; exact hP9, va_K.moved hW.alike hK9, hD9⟩, hS.F ht⟩) hS.2.2 dL_vote_22

set_option maxHeartbeats 4000000 in
set_option maxRecDepth 100000 in
theorem c_L_candidate_x (l : Launch) (hl0 : l.stackTraces = false) (dC : Nat → ClassId) (dI : Nat → Nat → Nat) (m_ : Nat) (q_row : Nat) (q_t : Nat) (t_ : Nat) (h0 : Nat) (k0 : Nat) (w_ : Nat) (z_ : Nat) (slots : Int32) (old : Int32) (q_joined : Nat) (q_from : Nat) (q_to : Nat) (q_size : Nat) (q_lossOf : Nat) (q_lessBy : Nat) (q_value : Nat) (q_number : Nat) (nodes : Int32) (here : Int32) (q_cell : Nat) (cyI : ClassId) (len : Int32) (f : Nat → Int32) (ff : Nat → Int32) (ft : Nat → Int32) (fs : Nat → Int32) (fo : Nat → Int32) (uv : Nat → Int32) (un : Nat → Int32) (fe : Nat → Int32) (j_v : Nat) (j_n : Nat) (js : Int32) (jl : Int32) (je : Int32) (jv : Nat → Int32) (jn : Nat → Int32) (a_v : Nat) (a_n : Nat) (vs : Int32) (lo : Int32) (le : Int32) (fv : Nat → Int32) (fn : Nat → Int32) (p0 : Int32) (p1 : Int32) (p2 : Int32) (p3 : Int32) (cyL : ClassId) (ho : Nat) (ol : Nat → Int64) (sz : Nat) (a0 : 0 ≤ len.toInt) (a1 : len.toInt ≤ 160) (s0 : sixes fs) (sl0 : 1 ≤ slots.toInt) (sl1 : slots.toInt ≤ 6) (l0 : laidX old slots here f ff ft fs fo fe uv un nodes len) : Met l yL_candidate wsL_candidate ({ frames := 9, cells := 1, slots := 6, locals := 405 }) (va_Pc [.ref m_, .int p0, .int p1, .int p2, .int p3, .ref ho] (fun U => U.heap.size = sz ∧ va_P (dC, dI) vwCl [kx_4 m_ q_row q_t t_ h0 k0 w_ z_ slots old, kx_2 q_t q_row q_joined q_from q_to q_size q_lossOf q_lessBy q_value q_number nodes here, kx_0 q_row q_cell len, kx_a q_cell cyI 160 f, kx_a q_from cyI 319 ff, kx_a q_to cyI 319 ft, kx_a q_size cyI 319 fs, kx_a q_lossOf cyI 319 fo, kx_a q_lessBy cyI 319 fe, kx_a q_value cyI 1914 uv, kx_a q_number cyI 1914 un, kx_3 q_joined j_v j_n js jl je, kx_a j_v cyI 12 jv, kx_a j_n cyI 12 jn, kx_3 h0 a_v a_n vs lo le, kx_a a_v cyI 12 fv, kx_a a_n cyI 12 fn, (ho, .inl (cyL, 1, .inr (.inl ol)))] U.heap ∧ va_K (dC, dI) vwCl [(cyI, .int), (cyL, .long)] U ∧ va_D (fun _ => True) [kx_4 m_ q_row q_t t_ h0 k0 w_ z_ slots old, kx_2 q_t q_row q_joined q_from q_to q_size q_lossOf q_lessBy q_value q_number nodes here, kx_0 q_row q_cell len, kx_a q_cell cyI 160 f, kx_a q_from cyI 319 ff, kx_a q_to cyI 319 ft, kx_a q_size cyI 319 fs, kx_a q_lossOf cyI 319 fo, kx_a q_lessBy cyI 319 fe, kx_a q_value cyI 1914 uv, kx_a q_number cyI 1914 un, kx_3 q_joined j_v j_n js jl je, kx_a j_v cyI 12 jv, kx_a j_n cyI 12 jn, kx_3 h0 a_v a_n vs lo le, kx_a a_v cyI 12 fv, kx_a a_n cyI 12 fn, (ho, .inl (cyL, 1, .inr (.inl ol)))] ∧ ki_ThA (va_A [kx_4 m_ q_row q_t t_ h0 k0 w_ z_ slots old, kx_2 q_t q_row q_joined q_from q_to q_size q_lossOf q_lessBy q_value q_number nodes here, kx_0 q_row q_cell len, kx_a q_cell cyI 160 f, kx_a q_from cyI 319 ff, kx_a q_to cyI 319 ft, kx_a q_size cyI 319 fs, kx_a q_lossOf cyI 319 fo, kx_a q_lessBy cyI 319 fe, kx_a q_value cyI 1914 uv, kx_a q_number cyI 1914 un, kx_3 q_joined j_v j_n js jl je, kx_a j_v cyI 12 jv, kx_a j_n cyI 12 jn, kx_3 h0 a_v a_n vs lo le, kx_a a_v cyI 12 fv, kx_a a_n cyI 12 fn, (ho, .inl (cyL, 1, .inr (.inl ol)))] sz) U)) (va_Qi (fun (r : Int32) (u : Int32 × Int32 × Int32 × (Nat → Int32) × (Nat → Int32) × (Nat → Int32) × (Nat → Int32) × (Nat → Int32) × (Nat → Int32) × (Nat → Int32) × Int32 × Int32 × Int32 × (Nat → Int32) × (Nat → Int32) × Int32 × Int32 × Int32 × (Nat → Int32) × (Nat → Int32) × (Nat → Int64) × Int32) => ((r = 0 ∧ ((0 : Int) ≤ 1) ∧ u.2.2.2.2.2.2.2.2.2.2.2.2.2.2.2.2.2.2.2.2.1 = vp_updL ol (0 : Int32).toNatClampNeg u.2.2.2.2.2.2.2.2.2.2.2.2.2.2.2.2.2.2.2.2.2.toInt64) ∨ (r = 1 ∧ ((0 : Int) ≤ 1))) ∧ laidX u.1 slots u.2.2.1 f u.2.2.2.1 u.2.2.2.2.1 u.2.2.2.2.2.1 u.2.2.2.2.2.2.1 u.2.2.2.2.2.2.2.1 u.2.2.2.2.2.2.2.2.1 u.2.2.2.2.2.2.2.2.2.1 u.2.1 len ∧ sixes u.2.2.2.2.2.1) (fun (u : Int32 × Int32 × Int32 × (Nat → Int32) × (Nat → Int32) × (Nat → Int32) × (Nat → Int32) × (Nat → Int32) × (Nat → Int32) × (Nat → Int32) × Int32 × Int32 × Int32 × (Nat → Int32) × (Nat → Int32) × Int32 × Int32 × Int32 × (Nat → Int32) × (Nat → Int32) × (Nat → Int64) × Int32) (t : State) => va_P (dC, dI) vwCl [kx_4 m_ q_row q_t t_ h0 k0 w_ z_ slots u.1, kx_2 q_t q_row q_joined q_from q_to q_size q_lossOf q_lessBy q_value q_number u.2.1 u.2.2.1, kx_0 q_row q_cell len, kx_a q_cell cyI 160 f, kx_a q_from cyI 319 u.2.2.2.1, kx_a q_to cyI 319 u.2.2.2.2.1, kx_a q_size cyI 319 u.2.2.2.2.2.1, kx_a q_lossOf cyI 319 u.2.2.2.2.2.2.1, kx_a q_lessBy cyI 319 u.2.2.2.2.2.2.2.1, kx_a q_value cyI 1914 u.2.2.2.2.2.2.2.2.1, kx_a q_number cyI 1914 u.2.2.2.2.2.2.2.2.2.1, kx_3 q_joined j_v j_n u.2.2.2.2.2.2.2.2.2.2.1 u.2.2.2.2.2.2.2.2.2.2.2.1 u.2.2.2.2.2.2.2.2.2.2.2.2.1, kx_a j_v cyI 12 u.2.2.2.2.2.2.2.2.2.2.2.2.2.1, kx_a j_n cyI 12 u.2.2.2.2.2.2.2.2.2.2.2.2.2.2.1, kx_3 h0 a_v a_n u.2.2.2.2.2.2.2.2.2.2.2.2.2.2.2.1 u.2.2.2.2.2.2.2.2.2.2.2.2.2.2.2.2.1 u.2.2.2.2.2.2.2.2.2.2.2.2.2.2.2.2.2.1, kx_a a_v cyI 12 u.2.2.2.2.2.2.2.2.2.2.2.2.2.2.2.2.2.2.1, kx_a a_n cyI 12 u.2.2.2.2.2.2.2.2.2.2.2.2.2.2.2.2.2.2.2.1, (ho, .inl (cyL, 1, .inr (.inl u.2.2.2.2.2.2.2.2.2.2.2.2.2.2.2.2.2.2.2.2.1)))] t.heap ∧ va_K (dC, dI) vwCl [(cyI, .int), (cyL, .long)] t ∧ va_D (va_A [kx_4 m_ q_row q_t t_ h0 k0 w_ z_ slots old, kx_2 q_t q_row q_joined q_from q_to q_size q_lossOf q_lessBy q_value q_number nodes here, kx_0 q_row q_cell len, kx_a q_cell cyI 160 f, kx_a q_from cyI 319 ff, kx_a q_to cyI 319 ft, kx_a q_size cyI 319 fs, kx_a q_lossOf cyI 319 fo, kx_a q_lessBy cyI 319 fe, kx_a q_value cyI 1914 uv, kx_a q_number cyI 1914 un, kx_3 q_joined j_v j_n js jl je, kx_a j_v cyI 12 jv, kx_a j_n cyI 12 jn, kx_3 h0 a_v a_n vs lo le, kx_a a_v cyI 12 fv, kx_a a_n cyI 12 fn, (ho, .inl (cyL, 1, .inr (.inl ol)))] sz) [kx_4 m_ q_row q_t t_ h0 k0 w_ z_ slots u.1, kx_2 q_t q_row q_joined q_from q_to q_size q_lossOf q_lessBy q_value q_number u.2.1 u.2.2.1, kx_0 q_row q_cell len, kx_a q_cell cyI 160 f, kx_a q_from cyI 319 u.2.2.2.1, kx_a q_to cyI 319 u.2.2.2.2.1, kx_a q_size cyI 319 u.2.2.2.2.2.1, kx_a q_lossOf cyI 319 u.2.2.2.2.2.2.1, kx_a q_lessBy cyI 319 u.2.2.2.2.2.2.2.1, kx_a q_value cyI 1914 u.2.2.2.2.2.2.2.2.1, kx_a q_number cyI 1914 u.2.2.2.2.2.2.2.2.2.1, kx_3 q_joined j_v j_n u.2.2.2.2.2.2.2.2.2.2.1 u.2.2.2.2.2.2.2.2.2.2.2.1 u.2.2.2.2.2.2.2.2.2.2.2.2.1, kx_a j_v cyI 12 u.2.2.2.2.2.2.2.2.2.2.2.2.2.1, kx_a j_n cyI 12 u.2.2.2.2.2.2.2.2.2.2.2.2.2.2.1, kx_3 h0 a_v a_n u.2.2.2.2.2.2.2.2.2.2.2.2.2.2.2.1 u.2.2.2.2.2.2.2.2.2.2.2.2.2.2.2.2.1 u.2.2.2.2.2.2.2.2.2.2.2.2.2.2.2.2.2.1, kx_a a_v cyI 12 u.2.2.2.2.2.2.2.2.2.2.2.2.2.2.2.2.2.2.1, kx_a a_n cyI 12 u.2.2.2.2.2.2.2.2.2.2.2.2.2.2.2.2.2.2.2.1, (ho, .inl (cyL, 1, .inr (.inl u.2.2.2.2.2.2.2.2.2.2.2.2.2.2.2.2.2.2.2.2.1)))]) (va_A [kx_4 m_ q_row q_t t_ h0 k0 w_ z_ slots old, kx_2 q_t q_row q_joined q_from q_to q_size q_lossOf q_lessBy q_value q_number nodes here, kx_0 q_row q_cell len, kx_a q_cell cyI 160 f, kx_a q_from cyI 319 ff, kx_a q_to cyI 319 ft, kx_a q_size cyI 319 fs, kx_a q_lossOf cyI 319 fo, kx_a q_lessBy cyI 319 fe, kx_a q_value cyI 1914 uv, kx_a q_number cyI 1914 un, kx_3 q_joined j_v j_n js jl je, kx_a j_v cyI 12 jv, kx_a j_n cyI 12 jn, kx_3 h0 a_v a_n vs lo le, kx_a a_v cyI 12 fv, kx_a a_n cyI 12 fn, (ho, .inl (cyL, 1, .inr (.inl ol)))] sz)) 1 6 (va_A [kx_4 m_ q_row q_t t_ h0 k0 w_ z_ slots old, kx_2 q_t q_row q_joined q_from q_to q_size q_lossOf q_lessBy q_value q_number nodes here, kx_0 q_row q_cell len, kx_a q_cell cyI 160 f, kx_a q_from cyI 319 ff, kx_a q_to cyI 319 ft, kx_a q_size cyI 319 fs, kx_a q_lossOf cyI 319 fo, kx_a q_lessBy cyI 319 fe, kx_a q_value cyI 1914 uv, kx_a q_number cyI 1914 un, kx_3 q_joined j_v j_n js jl je, kx_a j_v cyI 12 jv, kx_a j_n cyI 12 jn, kx_3 h0 a_v a_n vs lo le, kx_a a_v cyI 12 fv, kx_a a_n cyI 12 fn, (ho, .inl (cyL, 1, .inr (.inl ol)))] sz) := by
  refine va_MetW (cc := cL_candidate) (maxL := 7) (ret := (some .int)) (hh := [(0, 14, 17, 13)]) (by decide) rfl ?_
  intro p e s m args below meth c s₁ B hml hv
  obtain ⟨rfl, hsz, hP, hK, hD0, hth⟩ := hv
  have hx := B.exec
  have hb := B.bytes
  have hr := B.returns
  have hts := atoms_spec (ws := wsL_candidate) B.pre
  have hown : s.vm.findClass RL = some m.cls := findClass_of_methodNamed B.named
  have hlocks := B.notSynchronized
  have htb : c.exceptionTable.toList = tableOf [(0, 14, 17, 13)] := vx_table (x := yL_candidate) B (hts (.codeWith yL_candidate cL_candidate 7 (some .int) [(0, 14, 17, 13)]) List.mem_cons_self)
  subst hsz
  have hD := hD0.self (sz := s.heap.size)
  generalize hAe : va_A [kx_4 m_ q_row q_t t_ h0 k0 w_ z_ slots old, kx_2 q_t q_row q_joined q_from q_to q_size q_lossOf q_lessBy q_value q_number nodes here, kx_0 q_row q_cell len, kx_a q_cell cyI 160 f, kx_a q_from cyI 319 ff, kx_a q_to cyI 319 ft, kx_a q_size cyI 319 fs, kx_a q_lossOf cyI 319 fo, kx_a q_lessBy cyI 319 fe, kx_a q_value cyI 1914 uv, kx_a q_number cyI 1914 un, kx_3 q_joined j_v j_n js jl je, kx_a j_v cyI 12 jv, kx_a j_n cyI 12 jn, kx_3 h0 a_v a_n vs lo le, kx_a a_v cyI 12 fv, kx_a a_n cyI 12 fn, (ho, .inl (cyL, 1, .inr (.inl ol)))] s.heap.size = A at hD hth ⊢
  have hA : ∀ q : Nat, s.heap.size ≤ q → A q := fun q h => by rw [← hAe]; exact Or.inr h
  have hS : va_S A s.heap s.heap [] := va_S.rf
  have hP : va_P (dC, dI) vwCl [kx_4 m_ q_row q_t t_ h0 k0 w_ z_ slots old, kx_2 q_t q_row q_joined q_from q_to q_size q_lossOf q_lessBy q_value q_number nodes here, kx_0 q_row q_cell len, kx_a q_cell cyI 160 f, kx_a q_from cyI 319 ff, kx_a q_to cyI 319 ft, kx_a q_size cyI 319 fs, kx_a q_lossOf cyI 319 fo, kx_a q_lessBy cyI 319 fe, kx_a q_value cyI 1914 uv, kx_a q_number cyI 1914 un, kx_3 q_joined j_v j_n js jl je, kx_a j_v cyI 12 jv, kx_a j_n cyI 12 jn, kx_3 h0 a_v a_n vs lo le, kx_a a_v cyI 12 fv, kx_a a_n cyI 12 fn, (ho, .inl (cyL, 1, .inr (.inl ol)))] s.heap := hP
  have hl := lv_entry ([.ref m_, .int p0, .int p1, .int p2, .int p3, .ref ho]) (n := 7) (Nat.le_of_ble_eq_true rfl)
  rw [lg_entry_eq]
  generalize (lg_sl ([.ref m_, .int p0, .int p1, .int p2, .int p3, .ref ho]) ++ List.replicate (7 - (lg_sl ([.ref m_, .int p0, .int p1, .int p2, .int p3, .ref ho])).length) Slot.unset).toArray = ls at hl ⊢
  have hl : lv_has ls 7 [(0, .ref m_), (1, .int p0), (2, .int p1), (3, .int p2), (4, .int p3), (5, .ref ho)] := hl
  refine lv_aload hx hb dL_candidate_0 (lv_at hl 5 rfl) ?_
  refine lv_iconst (v := 0) hx hb dL_candidate_2 (by decide) ?_
  refine lv_aload_n hx hb dL_candidate_3 rfl (lv_at hl 0 rfl) ?_
  refine lv_iload_n hx hb dL_candidate_4 rfl (lv_at hl 1 rfl) ?_
  refine lv_iload_n hx hb dL_candidate_5 rfl (lv_at hl 2 rfl) ?_
  refine lv_iload_n hx hb dL_candidate_6 rfl (lv_at hl 3 rfl) ?_
  refine lv_iload hx hb dL_candidate_7 (lv_at hl 4 rfl) ?_
  have hPc := hP.sub (ws' := [kx_4 m_ q_row q_t t_ h0 k0 w_ z_ slots old, kx_2 q_t q_row q_joined q_from q_to q_size q_lossOf q_lessBy q_value q_number nodes here, kx_0 q_row q_cell len, kx_a q_cell cyI 160 f, kx_a q_from cyI 319 ff, kx_a q_to cyI 319 ft, kx_a q_size cyI 319 fs, kx_a q_lossOf cyI 319 fo, kx_a q_lessBy cyI 319 fe, kx_a q_value cyI 1914 uv, kx_a q_number cyI 1914 un, kx_3 q_joined j_v j_n js jl je, kx_a j_v cyI 12 jv, kx_a j_n cyI 12 jn, kx_3 h0 a_v a_n vs lo le, kx_a a_v cyI 12 fv, kx_a a_n cyI 12 fn]) [0, 1, 2, 3, 4, 5, 6, 7, 8, 9, 10, 11, 12, 13, 14, 15, 16] rfl
  have hKc := hK.sub (tys' := [(cyI, .int)]) [0] rfl
  have hDc := hD.sub (ws' := [kx_4 m_ q_row q_t t_ h0 k0 w_ z_ slots old, kx_2 q_t q_row q_joined q_from q_to q_size q_lossOf q_lessBy q_value q_number nodes here, kx_0 q_row q_cell len, kx_a q_cell cyI 160 f, kx_a q_from cyI 319 ff, kx_a q_to cyI 319 ft, kx_a q_size cyI 319 fs, kx_a q_lossOf cyI 319 fo, kx_a q_lessBy cyI 319 fe, kx_a q_value cyI 1914 uv, kx_a q_number cyI 1914 un, kx_3 q_joined j_v j_n js jl je, kx_a j_v cyI 12 jv, kx_a j_n cyI 12 jn, kx_3 h0 a_v a_n vs lo le, kx_a a_v cyI 12 fv, kx_a a_n cyI 12 fn]) [0, 1, 2, 3, 4, 5, 6, 7, 8, 9, 10, 11, 12, 13, 14, 15, 16] (by decide) rfl
  have hFc := va_free (wc := [kx_4 m_ q_row q_t t_ h0 k0 w_ z_ slots old, kx_2 q_t q_row q_joined q_from q_to q_size q_lossOf q_lessBy q_value q_number nodes here, kx_0 q_row q_cell len, kx_a q_cell cyI 160 f, kx_a q_from cyI 319 ff, kx_a q_to cyI 319 ft, kx_a q_size cyI 319 fs, kx_a q_lossOf cyI 319 fo, kx_a q_lessBy cyI 319 fe, kx_a q_value cyI 1914 uv, kx_a q_number cyI 1914 un, kx_3 q_joined j_v j_n js jl je, kx_a j_v cyI 12 jv, kx_a j_n cyI 12 jn, kx_3 h0 a_v a_n vs lo le, kx_a a_v cyI 12 fv, kx_a a_n cyI 12 fn]) hD hS hA [0, 1, 2, 3, 4, 5, 6, 7, 8, 9, 10, 11, 12, 13, 14, 15, 16] rfl
  refine vx_calli (vx_runV (As := [.int p0, .int p1, .int p2, .int p3]) (rest := [.int 0, .ref ho]) ⟨hx, hb, hml, hown, hts⟩ (c_X4_candidate_x l hl0 dC dI m_ q_row q_t t_ h0 k0 w_ z_ slots old q_joined q_from q_to q_size q_lossOf q_lessBy q_value q_number nodes here q_cell cyI len f ff ft fs fo uv un fe j_v j_n js jl je jv jn a_v a_n vs lo le fv fn p0 p1 p2 p3 s.heap.size a0 a1 s0 sl0 sl1 l0) (cwV 4 hts gL_candidate_X4_candidate rfl rfl rfl (by decide +kernel) ⟨Nat.le_of_ble_eq_true rfl, Nat.le_of_ble_eq_true rfl⟩) ⟨fun a U g mk q => by obtain ⟨q0, q1, qP, qK, qD, qT⟩ := q; exact ⟨q0, q1, qP, va_K.moved (u := U) (U := U.calling g mk a) (Vm.Alike.refl U.vm) qK, qD, qT.call g mk a⟩, kx_rc4 hKc hPc (q0 := 0) rfl, fun U hU hW => ⟨rfl, by rw [hU], by rw [hU]; exact hPc, va_K.moved hW.alike hKc, hDc.weaken (fun _ _ _ _ => trivial), hth.from hS hU hW hFc⟩⟩ rfl rfl hl.1 rfl (lv_room (Nat.le_of_ble_eq_true rfl)) dL_candidate_9 ⟨Nat.le_of_ble_eq_true rfl, Nat.le_of_ble_eq_true rfl⟩) hS (fun q _ h => hFc q h) hFc (fun q _ h => hFc q h) (fun E ce q9 u t H1 locs ht hvm w_1 hB hz1 hk1 hS hce hcv hcl => ?_) (fun r_1 u t H1 locs ht hvm w_1 hB hz1 hk1 hS => ?_)
  · obtain ⟨o_2, o_3, o_4, o_5, o_6, o_7, o_8, o_9, o_10, o_11, o_12, o_13, o_14, o_15, o_16, o_17, o_18, o_19, o_20, o_21⟩ := u
    dsimp only at w_1 hB
    obtain ⟨hE, hP1, hK1, hD1⟩ := hB
    subst hE
    rw [ht] at hP1
    have hK1 := va_K.moved hvm.symm hK1
    obtain ⟨hP, hD⟩ := va_join (wr := [(ho, .inl (cyL, 1, .inr (.inl ol)))]) (w1 := [kx_4 m_ q_row q_t t_ h0 k0 w_ z_ slots o_2, kx_2 q_t q_row q_joined q_from q_to q_size q_lossOf q_lessBy q_value q_number o_3 o_4, kx_0 q_row q_cell len, kx_a q_cell cyI 160 f, kx_a q_from cyI 319 o_5, kx_a q_to cyI 319 o_6, kx_a q_size cyI 319 o_7, kx_a q_lossOf cyI 319 o_8, kx_a q_lessBy cyI 319 o_9, kx_a q_value cyI 1914 o_10, kx_a q_number cyI 1914 o_11, kx_3 q_joined j_v j_n o_12 o_13 o_14, kx_a j_v cyI 12 o_15, kx_a j_n cyI 12 o_16, kx_3 h0 a_v a_n o_17 o_18 o_19, kx_a a_v cyI 12 o_20, kx_a a_n cyI 12 o_21]) hP hD [0, 1, 2, 3, 4, 5, 6, 7, 8, 9, 10, 11, 12, 13, 14, 15, 16] [17] rfl rfl (by decide) (by decide) hk1 hFc hP1 hD1
    clear hP1 hD1 hK1 hk1 hz1 hFc hDc hPc hKc
    generalize H1 = H at hP hS hce ⊢
    obtain ⟨hP, hD⟩ := kx_re (w2 := [(ho, .inl (cyL, 1, .inr (.inl ol))), kx_4 m_ q_row q_t t_ h0 k0 w_ z_ slots o_2, kx_2 q_t q_row q_joined q_from q_to q_size q_lossOf q_lessBy q_value q_number o_3 o_4, kx_0 q_row q_cell len, kx_a q_cell cyI 160 f, kx_a q_from cyI 319 o_5, kx_a q_to cyI 319 o_6, kx_a q_size cyI 319 o_7, kx_a q_lossOf cyI 319 o_8, kx_a q_lessBy cyI 319 o_9, kx_a q_value cyI 1914 o_10, kx_a q_number cyI 1914 o_11, kx_3 q_joined j_v j_n o_12 o_13 o_14, kx_a j_v cyI 12 o_15, kx_a j_n cyI 12 o_16, kx_3 h0 a_v a_n o_17 o_18 o_19, kx_a a_v cyI 12 o_20, kx_a a_n cyI 12 o_21]) hP hD rfl
    refine vx_catch hown [] ⟨0, 14, 17, 13⟩ [] htb (fun z hz => by cases hz) (by decide) (by decide) (hts (.classLink RL 13 EXN) (by decide +kernel)) (va_Nw.use rfl hth.1.1) hce hcv hcl ?_
    refine W.eq (g2 := F0 m 17 ls [.ref q9]) rfl ?_
    have w_1 : (0 : Int) ≤ 1 ∧ laidX o_2 slots o_4 f o_5 o_6 o_7 o_8 o_9 o_10 o_11 o_3 len ∧ sixes o_7 := w_1
    refine W.widen (k := 1) (n := 6) (Nat.le_of_ble_eq_true rfl) (Nat.le_of_ble_eq_true rfl) ?_
    refine lv_astore (lv' := [(6, .ref q9), (0, .ref m_), (1, .int p0), (2, .int p1), (3, .int p2), (4, .int p3), (5, .ref ho)]) hx hb dL_candidate_17 hl (by decide) rfl (fun ls hl => ?_)
    refine lv_iconst (v := 1) hx hb dL_candidate_19 (by decide) ?_
    obtain ⟨hP9, hD9⟩ := kx_sub (w2 := [kx_4 m_ q_row q_t t_ h0 k0 w_ z_ slots o_2, kx_2 q_t q_row q_joined q_from q_to q_size q_lossOf q_lessBy q_value q_number o_3 o_4, kx_0 q_row q_cell len, kx_a q_cell cyI 160 f, kx_a q_from cyI 319 o_5, kx_a q_to cyI 319 o_6, kx_a q_size cyI 319 o_7, kx_a q_lossOf cyI 319 o_8, kx_a q_lessBy cyI 319 o_9, kx_a q_value cyI 1914 o_10, kx_a q_number cyI 1914 o_11, kx_3 q_joined j_v j_n o_12 o_13 o_14, kx_a j_v cyI 12 o_15, kx_a j_n cyI 12 o_16, kx_3 h0 a_v a_n o_17 o_18 o_19, kx_a a_v cyI 12 o_20, kx_a a_n cyI 12 o_21, (ho, .inl (cyL, 1, .inr (.inl ol)))]) hP hD [1, 2, 3, 4, 5, 6, 7, 8, 9, 10, 11, 12, 13, 14, 15, 16, 17, 0] (by decide) rfl
    have hK9 := hK
    exact W.iret (v := 1) hx hb hr (hlocks := hlocks) (fun t ht hW => ⟨⟨1, (o_2, o_3, o_4, o_5, o_6, o_7, o_8, o_9, o_10, o_11, o_12, o_13, o_14, o_15, o_16, o_17, o_18, o_19, o_20, o_21, ol, (0 : Int32)), rfl, ⟨Or.inr ⟨rfl, w_1.1⟩, w_1.2⟩, by rw [ht]; exact hP9, va_K.moved hW.alike hK9, hD9⟩, hS.F ht⟩) hS.2.2 dL_candidate_20
  · obtain ⟨o_22, o_23, o_24, o_25, o_26, o_27, o_28, o_29, o_30, o_31, o_32, o_33, o_34, o_35, o_36, o_37, o_38, o_39, o_40, o_41⟩ := u
    dsimp only at w_1 hB
    obtain ⟨hP1, hK1, hD1⟩ := hB
    rw [ht] at hP1
    have hK1 := va_K.moved hvm.symm hK1
    obtain ⟨hP, hD⟩ := va_join (wr := [(ho, .inl (cyL, 1, .inr (.inl ol)))]) (w1 := [kx_4 m_ q_row q_t t_ h0 k0 w_ z_ slots o_22, kx_2 q_t q_row q_joined q_from q_to q_size q_lossOf q_lessBy q_value q_number o_23 o_24, kx_0 q_row q_cell len, kx_a q_cell cyI 160 f, kx_a q_from cyI 319 o_25, kx_a q_to cyI 319 o_26, kx_a q_size cyI 319 o_27, kx_a q_lossOf cyI 319 o_28, kx_a q_lessBy cyI 319 o_29, kx_a q_value cyI 1914 o_30, kx_a q_number cyI 1914 o_31, kx_3 q_joined j_v j_n o_32 o_33 o_34, kx_a j_v cyI 12 o_35, kx_a j_n cyI 12 o_36, kx_3 h0 a_v a_n o_37 o_38 o_39, kx_a a_v cyI 12 o_40, kx_a a_n cyI 12 o_41]) hP hD [0, 1, 2, 3, 4, 5, 6, 7, 8, 9, 10, 11, 12, 13, 14, 15, 16] [17] rfl rfl (by decide) (by decide) hk1 hFc hP1 hD1
    clear hP1 hD1 hK1 hk1 hz1 hFc hDc hPc hKc
    generalize H1 = H at hP hS ⊢
    obtain ⟨hP, hD⟩ := kx_re (w2 := [(ho, .inl (cyL, 1, .inr (.inl ol))), kx_4 m_ q_row q_t t_ h0 k0 w_ z_ slots o_22, kx_2 q_t q_row q_joined q_from q_to q_size q_lossOf q_lessBy q_value q_number o_23 o_24, kx_0 q_row q_cell len, kx_a q_cell cyI 160 f, kx_a q_from cyI 319 o_25, kx_a q_to cyI 319 o_26, kx_a q_size cyI 319 o_27, kx_a q_lossOf cyI 319 o_28, kx_a q_lessBy cyI 319 o_29, kx_a q_value cyI 1914 o_30, kx_a q_number cyI 1914 o_31, kx_3 q_joined j_v j_n o_32 o_33 o_34, kx_a j_v cyI 12 o_35, kx_a j_n cyI 12 o_36, kx_3 h0 a_v a_n o_37 o_38 o_39, kx_a a_v cyI 12 o_40, kx_a a_n cyI 12 o_41]) hP hD rfl
    have w_1 : (0 : Int) ≤ 1 ∧ laidX o_22 slots o_24 f o_25 o_26 o_27 o_28 o_29 o_30 o_31 o_23 len ∧ sixes o_27 := w_1
    refine W.widen (k := 1) (n := 6) (Nat.le_of_ble_eq_true rfl) (Nat.le_of_ble_eq_true rfl) ?_
    refine lv_i2l hx hb dL_candidate_12 rfl ?_
    refine va_last hx hb hK hP hD hS 0 1 rfl rfl (ki_inl (by decide)) dL_candidate_13 (fun H locs hP hD hS => ?_)
    obtain ⟨hP, hD⟩ := kx_re (w2 := [(ho, .inl (cyL, 1, .inr (.inl (vp_updL ol (0 : Int32).toNatClampNeg r_1.toInt64)))), kx_4 m_ q_row q_t t_ h0 k0 w_ z_ slots o_22, kx_2 q_t q_row q_joined q_from q_to q_size q_lossOf q_lessBy q_value q_number o_23 o_24, kx_0 q_row q_cell len, kx_a q_cell cyI 160 f, kx_a q_from cyI 319 o_25, kx_a q_to cyI 319 o_26, kx_a q_size cyI 319 o_27, kx_a q_lossOf cyI 319 o_28, kx_a q_lessBy cyI 319 o_29, kx_a q_value cyI 1914 o_30, kx_a q_number cyI 1914 o_31, kx_3 q_joined j_v j_n o_32 o_33 o_34, kx_a j_v cyI 12 o_35, kx_a j_n cyI 12 o_36, kx_3 h0 a_v a_n o_37 o_38 o_39, kx_a a_v cyI 12 o_40, kx_a a_n cyI 12 o_41]) hP hD rfl
    refine lv_goto (tgt := 21) hx hb dL_candidate_14 (by decide) ?_
    refine lv_iconst (v := 0) hx hb dL_candidate_21 (by decide) ?_
    obtain ⟨hP9, hD9⟩ := kx_sub (w2 := [kx_4 m_ q_row q_t t_ h0 k0 w_ z_ slots o_22, kx_2 q_t q_row q_joined q_from q_to q_size q_lossOf q_lessBy q_value q_number o_23 o_24, kx_0 q_row q_cell len, kx_a q_cell cyI 160 f, kx_a q_from cyI 319 o_25, kx_a q_to cyI 319 o_26, kx_a q_size cyI 319 o_27, kx_a q_lossOf cyI 319 o_28, kx_a q_lessBy cyI 319 o_29, kx_a q_value cyI 1914 o_30, kx_a q_number cyI 1914 o_31, kx_3 q_joined j_v j_n o_32 o_33 o_34, kx_a j_v cyI 12 o_35, kx_a j_n cyI 12 o_36, kx_3 h0 a_v a_n o_37 o_38 o_39, kx_a a_v cyI 12 o_40, kx_a a_n cyI 12 o_41, (ho, .inl (cyL, 1, .inr (.inl (vp_updL ol (0 : Int32).toNatClampNeg r_1.toInt64))))]) hP hD [1, 2, 3, 4, 5, 6, 7, 8, 9, 10, 11, 12, 13, 14, 15, 16, 17, 0] (by decide) rfl
    have hK9 := hK
    exact W.iret (v := 0) hx hb hr (hlocks := hlocks) (fun t ht hW => ⟨⟨0, (o_22, o_23, o_24, o_25, o_26, o_27, o_28, o_29, o_30, o_31, o_32, o_33, o_34, o_35, o_36, o_37, o_38, o_39, o_40, o_41, (vp_updL ol (0 : Int32).toNatClampNeg r_1.toInt64), r_1), rfl, ⟨Or.inl ⟨rfl, w_1.1, rfl⟩, w_1.2⟩, by rw [ht]; exact hP9, va_K.moved hW.alike hK9, hD9⟩, hS.F ht⟩) hS.2.2 dL_candidate_22

set_option maxHeartbeats 4000000 in
set_option maxRecDepth 100000 in
theorem c_L_heavyAt_x (l : Launch) (hl0 : l.stackTraces = false) (dC : Nat → ClassId) (dI : Nat → Nat → Nat) (m_ : Nat) (q_row : Nat) (q_t : Nat) (t_ : Nat) (h0 : Nat) (k0 : Nat) (w_ : Nat) (z_ : Nat) (slots : Int32) (old : Int32) (q_joined : Nat) (q_from : Nat) (q_to : Nat) (q_size : Nat) (q_lossOf : Nat) (q_lessBy : Nat) (q_value : Nat) (q_number : Nat) (nodes : Int32) (here : Int32) (q_cell : Nat) (cyI : ClassId) (len : Int32) (f : Nat → Int32) (ff : Nat → Int32) (ft : Nat → Int32) (fs : Nat → Int32) (fo : Nat → Int32) (uv : Nat → Int32) (un : Nat → Int32) (fe : Nat → Int32) (j_v : Nat) (j_n : Nat) (js : Int32) (jl : Int32) (je : Int32) (jv : Nat → Int32) (jn : Nat → Int32) (a_v : Nat) (a_n : Nat) (vs : Int32) (lo : Int32) (le : Int32) (fv : Nat → Int32) (fn : Nat → Int32) (p0 : Int32) (p1 : Int32) (p2 : Int32) (p3 : Int32) (p4 : Int32) (p5 : Int32) (cyL : ClassId) (ho : Nat) (ol : Nat → Int64) (sz : Nat) (a0 : 0 ≤ len.toInt) (a1 : len.toInt ≤ 160) (s0 : sixes fs) (sl0 : 1 ≤ slots.toInt) (sl1 : slots.toInt ≤ 6) (l0 : laidX old slots here f ff ft fs fo fe uv un nodes len) : Met l yL_heavyAt wsL_heavyAt ({ frames := 9, cells := 1, slots := 6, locals := 405 }) (va_Pc [.ref m_, .int p0, .int p1, .int p2, .int p3, .int p4, .int p5, .ref ho] (fun U => U.heap.size = sz ∧ va_P (dC, dI) vwCl [kx_4 m_ q_row q_t t_ h0 k0 w_ z_ slots old, kx_2 q_t q_row q_joined q_from q_to q_size q_lossOf q_lessBy q_value q_number nodes here, kx_0 q_row q_cell len, kx_a q_cell cyI 160 f, kx_a q_from cyI 319 ff, kx_a q_to cyI 319 ft, kx_a q_size cyI 319 fs, kx_a q_lossOf cyI 319 fo, kx_a q_lessBy cyI 319 fe, kx_a q_value cyI 1914 uv, kx_a q_number cyI 1914 un, kx_3 q_joined j_v j_n js jl je, kx_a j_v cyI 12 jv, kx_a j_n cyI 12 jn, kx_3 h0 a_v a_n vs lo le, kx_a a_v cyI 12 fv, kx_a a_n cyI 12 fn, (ho, .inl (cyL, 1, .inr (.inl ol)))] U.heap ∧ va_K (dC, dI) vwCl [(cyI, .int), (cyL, .long)] U ∧ va_D (fun _ => True) [kx_4 m_ q_row q_t t_ h0 k0 w_ z_ slots old, kx_2 q_t q_row q_joined q_from q_to q_size q_lossOf q_lessBy q_value q_number nodes here, kx_0 q_row q_cell len, kx_a q_cell cyI 160 f, kx_a q_from cyI 319 ff, kx_a q_to cyI 319 ft, kx_a q_size cyI 319 fs, kx_a q_lossOf cyI 319 fo, kx_a q_lessBy cyI 319 fe, kx_a q_value cyI 1914 uv, kx_a q_number cyI 1914 un, kx_3 q_joined j_v j_n js jl je, kx_a j_v cyI 12 jv, kx_a j_n cyI 12 jn, kx_3 h0 a_v a_n vs lo le, kx_a a_v cyI 12 fv, kx_a a_n cyI 12 fn, (ho, .inl (cyL, 1, .inr (.inl ol)))] ∧ va_Nw (.methodLinkNest RX3 42 yX4_isHeavy RX4) U ∧ ki_ThA (va_A [kx_4 m_ q_row q_t t_ h0 k0 w_ z_ slots old, kx_2 q_t q_row q_joined q_from q_to q_size q_lossOf q_lessBy q_value q_number nodes here, kx_0 q_row q_cell len, kx_a q_cell cyI 160 f, kx_a q_from cyI 319 ff, kx_a q_to cyI 319 ft, kx_a q_size cyI 319 fs, kx_a q_lossOf cyI 319 fo, kx_a q_lessBy cyI 319 fe, kx_a q_value cyI 1914 uv, kx_a q_number cyI 1914 un, kx_3 q_joined j_v j_n js jl je, kx_a j_v cyI 12 jv, kx_a j_n cyI 12 jn, kx_3 h0 a_v a_n vs lo le, kx_a a_v cyI 12 fv, kx_a a_n cyI 12 fn, (ho, .inl (cyL, 1, .inr (.inl ol)))] sz) U)) (va_Qi (fun (r : Int32) (u : Int32 × Int32 × Int32 × (Nat → Int32) × (Nat → Int32) × (Nat → Int32) × (Nat → Int32) × (Nat → Int32) × (Nat → Int32) × (Nat → Int32) × Int32 × Int32 × Int32 × (Nat → Int32) × (Nat → Int32) × Int32 × Int32 × Int32 × (Nat → Int32) × (Nat → Int32) × (Nat → Int64) × Int32) => ((r = 0 ∧ ((0 : Int) ≤ 1) ∧ u.2.2.2.2.2.2.2.2.2.2.2.2.2.2.2.2.2.2.2.2.1 = vp_updL ol (0 : Int32).toNatClampNeg u.2.2.2.2.2.2.2.2.2.2.2.2.2.2.2.2.2.2.2.2.2.toInt64) ∨ (r = 1 ∧ ((0 : Int) ≤ 1))) ∧ laidX u.1 slots u.2.2.1 f u.2.2.2.1 u.2.2.2.2.1 u.2.2.2.2.2.1 u.2.2.2.2.2.2.1 u.2.2.2.2.2.2.2.1 u.2.2.2.2.2.2.2.2.1 u.2.2.2.2.2.2.2.2.2.1 u.2.1 len ∧ sixes u.2.2.2.2.2.1) (fun (u : Int32 × Int32 × Int32 × (Nat → Int32) × (Nat → Int32) × (Nat → Int32) × (Nat → Int32) × (Nat → Int32) × (Nat → Int32) × (Nat → Int32) × Int32 × Int32 × Int32 × (Nat → Int32) × (Nat → Int32) × Int32 × Int32 × Int32 × (Nat → Int32) × (Nat → Int32) × (Nat → Int64) × Int32) (t : State) => va_P (dC, dI) vwCl [kx_4 m_ q_row q_t t_ h0 k0 w_ z_ slots u.1, kx_2 q_t q_row q_joined q_from q_to q_size q_lossOf q_lessBy q_value q_number u.2.1 u.2.2.1, kx_0 q_row q_cell len, kx_a q_cell cyI 160 f, kx_a q_from cyI 319 u.2.2.2.1, kx_a q_to cyI 319 u.2.2.2.2.1, kx_a q_size cyI 319 u.2.2.2.2.2.1, kx_a q_lossOf cyI 319 u.2.2.2.2.2.2.1, kx_a q_lessBy cyI 319 u.2.2.2.2.2.2.2.1, kx_a q_value cyI 1914 u.2.2.2.2.2.2.2.2.1, kx_a q_number cyI 1914 u.2.2.2.2.2.2.2.2.2.1, kx_3 q_joined j_v j_n u.2.2.2.2.2.2.2.2.2.2.1 u.2.2.2.2.2.2.2.2.2.2.2.1 u.2.2.2.2.2.2.2.2.2.2.2.2.1, kx_a j_v cyI 12 u.2.2.2.2.2.2.2.2.2.2.2.2.2.1, kx_a j_n cyI 12 u.2.2.2.2.2.2.2.2.2.2.2.2.2.2.1, kx_3 h0 a_v a_n u.2.2.2.2.2.2.2.2.2.2.2.2.2.2.2.1 u.2.2.2.2.2.2.2.2.2.2.2.2.2.2.2.2.1 u.2.2.2.2.2.2.2.2.2.2.2.2.2.2.2.2.2.1, kx_a a_v cyI 12 u.2.2.2.2.2.2.2.2.2.2.2.2.2.2.2.2.2.2.1, kx_a a_n cyI 12 u.2.2.2.2.2.2.2.2.2.2.2.2.2.2.2.2.2.2.2.1, (ho, .inl (cyL, 1, .inr (.inl u.2.2.2.2.2.2.2.2.2.2.2.2.2.2.2.2.2.2.2.2.1)))] t.heap ∧ va_K (dC, dI) vwCl [(cyI, .int), (cyL, .long)] t ∧ va_D (va_A [kx_4 m_ q_row q_t t_ h0 k0 w_ z_ slots old, kx_2 q_t q_row q_joined q_from q_to q_size q_lossOf q_lessBy q_value q_number nodes here, kx_0 q_row q_cell len, kx_a q_cell cyI 160 f, kx_a q_from cyI 319 ff, kx_a q_to cyI 319 ft, kx_a q_size cyI 319 fs, kx_a q_lossOf cyI 319 fo, kx_a q_lessBy cyI 319 fe, kx_a q_value cyI 1914 uv, kx_a q_number cyI 1914 un, kx_3 q_joined j_v j_n js jl je, kx_a j_v cyI 12 jv, kx_a j_n cyI 12 jn, kx_3 h0 a_v a_n vs lo le, kx_a a_v cyI 12 fv, kx_a a_n cyI 12 fn, (ho, .inl (cyL, 1, .inr (.inl ol)))] sz) [kx_4 m_ q_row q_t t_ h0 k0 w_ z_ slots u.1, kx_2 q_t q_row q_joined q_from q_to q_size q_lossOf q_lessBy q_value q_number u.2.1 u.2.2.1, kx_0 q_row q_cell len, kx_a q_cell cyI 160 f, kx_a q_from cyI 319 u.2.2.2.1, kx_a q_to cyI 319 u.2.2.2.2.1, kx_a q_size cyI 319 u.2.2.2.2.2.1, kx_a q_lossOf cyI 319 u.2.2.2.2.2.2.1, kx_a q_lessBy cyI 319 u.2.2.2.2.2.2.2.1, kx_a q_value cyI 1914 u.2.2.2.2.2.2.2.2.1, kx_a q_number cyI 1914 u.2.2.2.2.2.2.2.2.2.1, kx_3 q_joined j_v j_n u.2.2.2.2.2.2.2.2.2.2.1 u.2.2.2.2.2.2.2.2.2.2.2.1 u.2.2.2.2.2.2.2.2.2.2.2.2.1, kx_a j_v cyI 12 u.2.2.2.2.2.2.2.2.2.2.2.2.2.1, kx_a j_n cyI 12 u.2.2.2.2.2.2.2.2.2.2.2.2.2.2.1, kx_3 h0 a_v a_n u.2.2.2.2.2.2.2.2.2.2.2.2.2.2.2.1 u.2.2.2.2.2.2.2.2.2.2.2.2.2.2.2.2.1 u.2.2.2.2.2.2.2.2.2.2.2.2.2.2.2.2.2.1, kx_a a_v cyI 12 u.2.2.2.2.2.2.2.2.2.2.2.2.2.2.2.2.2.2.1, kx_a a_n cyI 12 u.2.2.2.2.2.2.2.2.2.2.2.2.2.2.2.2.2.2.2.1, (ho, .inl (cyL, 1, .inr (.inl u.2.2.2.2.2.2.2.2.2.2.2.2.2.2.2.2.2.2.2.2.1)))]) (va_A [kx_4 m_ q_row q_t t_ h0 k0 w_ z_ slots old, kx_2 q_t q_row q_joined q_from q_to q_size q_lossOf q_lessBy q_value q_number nodes here, kx_0 q_row q_cell len, kx_a q_cell cyI 160 f, kx_a q_from cyI 319 ff, kx_a q_to cyI 319 ft, kx_a q_size cyI 319 fs, kx_a q_lossOf cyI 319 fo, kx_a q_lessBy cyI 319 fe, kx_a q_value cyI 1914 uv, kx_a q_number cyI 1914 un, kx_3 q_joined j_v j_n js jl je, kx_a j_v cyI 12 jv, kx_a j_n cyI 12 jn, kx_3 h0 a_v a_n vs lo le, kx_a a_v cyI 12 fv, kx_a a_n cyI 12 fn, (ho, .inl (cyL, 1, .inr (.inl ol)))] sz)) 1 6 (va_A [kx_4 m_ q_row q_t t_ h0 k0 w_ z_ slots old, kx_2 q_t q_row q_joined q_from q_to q_size q_lossOf q_lessBy q_value q_number nodes here, kx_0 q_row q_cell len, kx_a q_cell cyI 160 f, kx_a q_from cyI 319 ff, kx_a q_to cyI 319 ft, kx_a q_size cyI 319 fs, kx_a q_lossOf cyI 319 fo, kx_a q_lessBy cyI 319 fe, kx_a q_value cyI 1914 uv, kx_a q_number cyI 1914 un, kx_3 q_joined j_v j_n js jl je, kx_a j_v cyI 12 jv, kx_a j_n cyI 12 jn, kx_3 h0 a_v a_n vs lo le, kx_a a_v cyI 12 fv, kx_a a_n cyI 12 fn, (ho, .inl (cyL, 1, .inr (.inl ol)))] sz) := by
  refine va_MetW (cc := cL_heavyAt) (maxL := 9) (ret := (some .int)) (hh := [(0, 18, 21, 13)]) (by decide) rfl ?_
  intro p e s m args below meth c s₁ B hml hv
  obtain ⟨rfl, hsz, hP, hK, hD0, hN0, hth⟩ := hv
  have hx := B.exec
  have hb := B.bytes
  have hr := B.returns
  have hts := atoms_spec (ws := wsL_heavyAt) B.pre
  have hown : s.vm.findClass RL = some m.cls := findClass_of_methodNamed B.named
  have hlocks := B.notSynchronized
  have htb : c.exceptionTable.toList = tableOf [(0, 18, 21, 13)] := vx_table (x := yL_heavyAt) B (hts (.codeWith yL_heavyAt cL_heavyAt 9 (some .int) [(0, 18, 21, 13)]) List.mem_cons_self)
  subst hsz
  have hD := hD0.self (sz := s.heap.size)
  generalize hAe : va_A [kx_4 m_ q_row q_t t_ h0 k0 w_ z_ slots old, kx_2 q_t q_row q_joined q_from q_to q_size q_lossOf q_lessBy q_value q_number nodes here, kx_0 q_row q_cell len, kx_a q_cell cyI 160 f, kx_a q_from cyI 319 ff, kx_a q_to cyI 319 ft, kx_a q_size cyI 319 fs, kx_a q_lossOf cyI 319 fo, kx_a q_lessBy cyI 319 fe, kx_a q_value cyI 1914 uv, kx_a q_number cyI 1914 un, kx_3 q_joined j_v j_n js jl je, kx_a j_v cyI 12 jv, kx_a j_n cyI 12 jn, kx_3 h0 a_v a_n vs lo le, kx_a a_v cyI 12 fv, kx_a a_n cyI 12 fn, (ho, .inl (cyL, 1, .inr (.inl ol)))] s.heap.size = A at hD hth ⊢
  have hA : ∀ q : Nat, s.heap.size ≤ q → A q := fun q h => by rw [← hAe]; exact Or.inr h
  have hS : va_S A s.heap s.heap [] := va_S.rf
  have hP : va_P (dC, dI) vwCl [kx_4 m_ q_row q_t t_ h0 k0 w_ z_ slots old, kx_2 q_t q_row q_joined q_from q_to q_size q_lossOf q_lessBy q_value q_number nodes here, kx_0 q_row q_cell len, kx_a q_cell cyI 160 f, kx_a q_from cyI 319 ff, kx_a q_to cyI 319 ft, kx_a q_size cyI 319 fs, kx_a q_lossOf cyI 319 fo, kx_a q_lessBy cyI 319 fe, kx_a q_value cyI 1914 uv, kx_a q_number cyI 1914 un, kx_3 q_joined j_v j_n js jl je, kx_a j_v cyI 12 jv, kx_a j_n cyI 12 jn, kx_3 h0 a_v a_n vs lo le, kx_a a_v cyI 12 fv, kx_a a_n cyI 12 fn, (ho, .inl (cyL, 1, .inr (.inl ol)))] s.heap := hP
  have hl := lv_entry ([.ref m_, .int p0, .int p1, .int p2, .int p3, .int p4, .int p5, .ref ho]) (n := 9) (Nat.le_of_ble_eq_true rfl)
  rw [lg_entry_eq]
  generalize (lg_sl ([.ref m_, .int p0, .int p1, .int p2, .int p3, .int p4, .int p5, .ref ho]) ++ List.replicate (9 - (lg_sl ([.ref m_, .int p0, .int p1, .int p2, .int p3, .int p4, .int p5, .ref ho])).length) Slot.unset).toArray = ls at hl ⊢
  have hl : lv_has ls 9 [(0, .ref m_), (1, .int p0), (2, .int p1), (3, .int p2), (4, .int p3), (5, .int p4), (6, .int p5), (7, .ref ho)] := hl
  refine lv_aload hx hb dL_heavyAt_0 (lv_at hl 7 rfl) ?_
  refine lv_iconst (v := 0) hx hb dL_heavyAt_2 (by decide) ?_
  refine lv_aload_n hx hb dL_heavyAt_3 rfl (lv_at hl 0 rfl) ?_
  refine lv_iload_n hx hb dL_heavyAt_4 rfl (lv_at hl 1 rfl) ?_
  refine lv_iload_n hx hb dL_heavyAt_5 rfl (lv_at hl 2 rfl) ?_
  refine lv_iload_n hx hb dL_heavyAt_6 rfl (lv_at hl 3 rfl) ?_
  refine lv_iload hx hb dL_heavyAt_7 (lv_at hl 4 rfl) ?_
  refine lv_iload hx hb dL_heavyAt_9 (lv_at hl 5 rfl) ?_
  refine lv_iload hx hb dL_heavyAt_11 (lv_at hl 6 rfl) ?_
  have hPc := hP.sub (ws' := [kx_4 m_ q_row q_t t_ h0 k0 w_ z_ slots old, kx_2 q_t q_row q_joined q_from q_to q_size q_lossOf q_lessBy q_value q_number nodes here, kx_0 q_row q_cell len, kx_a q_cell cyI 160 f, kx_a q_from cyI 319 ff, kx_a q_to cyI 319 ft, kx_a q_size cyI 319 fs, kx_a q_lossOf cyI 319 fo, kx_a q_lessBy cyI 319 fe, kx_a q_value cyI 1914 uv, kx_a q_number cyI 1914 un, kx_3 q_joined j_v j_n js jl je, kx_a j_v cyI 12 jv, kx_a j_n cyI 12 jn, kx_3 h0 a_v a_n vs lo le, kx_a a_v cyI 12 fv, kx_a a_n cyI 12 fn]) [0, 1, 2, 3, 4, 5, 6, 7, 8, 9, 10, 11, 12, 13, 14, 15, 16] rfl
  have hKc := hK.sub (tys' := [(cyI, .int)]) [0] rfl
  have hDc := hD.sub (ws' := [kx_4 m_ q_row q_t t_ h0 k0 w_ z_ slots old, kx_2 q_t q_row q_joined q_from q_to q_size q_lossOf q_lessBy q_value q_number nodes here, kx_0 q_row q_cell len, kx_a q_cell cyI 160 f, kx_a q_from cyI 319 ff, kx_a q_to cyI 319 ft, kx_a q_size cyI 319 fs, kx_a q_lossOf cyI 319 fo, kx_a q_lessBy cyI 319 fe, kx_a q_value cyI 1914 uv, kx_a q_number cyI 1914 un, kx_3 q_joined j_v j_n js jl je, kx_a j_v cyI 12 jv, kx_a j_n cyI 12 jn, kx_3 h0 a_v a_n vs lo le, kx_a a_v cyI 12 fv, kx_a a_n cyI 12 fn]) [0, 1, 2, 3, 4, 5, 6, 7, 8, 9, 10, 11, 12, 13, 14, 15, 16] (by decide) rfl
  have hFc := va_free (wc := [kx_4 m_ q_row q_t t_ h0 k0 w_ z_ slots old, kx_2 q_t q_row q_joined q_from q_to q_size q_lossOf q_lessBy q_value q_number nodes here, kx_0 q_row q_cell len, kx_a q_cell cyI 160 f, kx_a q_from cyI 319 ff, kx_a q_to cyI 319 ft, kx_a q_size cyI 319 fs, kx_a q_lossOf cyI 319 fo, kx_a q_lessBy cyI 319 fe, kx_a q_value cyI 1914 uv, kx_a q_number cyI 1914 un, kx_3 q_joined j_v j_n js jl je, kx_a j_v cyI 12 jv, kx_a j_n cyI 12 jn, kx_3 h0 a_v a_n vs lo le, kx_a a_v cyI 12 fv, kx_a a_n cyI 12 fn]) hD hS hA [0, 1, 2, 3, 4, 5, 6, 7, 8, 9, 10, 11, 12, 13, 14, 15, 16] rfl
  refine vx_calli (vx_runV (As := [.int p0, .int p1, .int p2, .int p3, .int p4, .int p5]) (rest := [.int 0, .ref ho]) ⟨hx, hb, hml, hown, hts⟩ (c_X4_heavyAt_x l hl0 dC dI m_ q_row q_t t_ h0 k0 w_ z_ slots old q_joined q_from q_to q_size q_lossOf q_lessBy q_value q_number nodes here q_cell cyI len f ff ft fs fo uv un fe j_v j_n js jl je jv jn a_v a_n vs lo le fv fn p0 p1 p2 p3 p4 p5 s.heap.size a0 a1 s0 sl0 sl1 l0) (cwV 6 hts gL_heavyAt_X4_heavyAt rfl rfl rfl (by decide +kernel) ⟨Nat.le_of_ble_eq_true rfl, Nat.le_of_ble_eq_true rfl⟩) ⟨fun a U g mk q => by obtain ⟨q0, q1, qP, qK, qD, qn0, qT⟩ := q; exact ⟨q0, q1, qP, va_K.moved (u := U) (U := U.calling g mk a) (Vm.Alike.refl U.vm) qK, qD, va_Nw.same (u := U) (U := U.calling g mk a) rfl rfl qn0, qT.call g mk a⟩, kx_rc4 hKc hPc (q0 := 0) rfl, fun U hU hW => ⟨rfl, by rw [hU], by rw [hU]; exact hPc, va_K.moved hW.alike hKc, hDc.weaken (fun _ _ _ _ => trivial), va_Nw.warmM hW hN0, hth.from hS hU hW hFc⟩⟩ rfl rfl hl.1 rfl (lv_room (Nat.le_of_ble_eq_true rfl)) dL_heavyAt_13 ⟨Nat.le_of_ble_eq_true rfl, Nat.le_of_ble_eq_true rfl⟩) hS (fun q _ h => hFc q h) hFc (fun q _ h => hFc q h) (fun E ce q9 u t H1 locs ht hvm w_1 hB hz1 hk1 hS hce hcv hcl => ?_) (fun r_1 u t H1 locs ht hvm w_1 hB hz1 hk1 hS => ?_)
  · obtain ⟨o_2, o_3, o_4, o_5, o_6, o_7, o_8, o_9, o_10, o_11, o_12, o_13, o_14, o_15, o_16, o_17, o_18, o_19, o_20, o_21⟩ := u
    dsimp only at w_1 hB
    obtain ⟨hE, hP1, hK1, hD1⟩ := hB
    subst hE
    rw [ht] at hP1
    have hK1 := va_K.moved hvm.symm hK1
    obtain ⟨hP, hD⟩ := va_join (wr := [(ho, .inl (cyL, 1, .inr (.inl ol)))]) (w1 := [kx_4 m_ q_row q_t t_ h0 k0 w_ z_ slots o_2, kx_2 q_t q_row q_joined q_from q_to q_size q_lossOf q_lessBy q_value q_number o_3 o_4, kx_0 q_row q_cell len, kx_a q_cell cyI 160 f, kx_a q_from cyI 319 o_5, kx_a q_to cyI 319 o_6, kx_a q_size cyI 319 o_7, kx_a q_lossOf cyI 319 o_8, kx_a q_lessBy cyI 319 o_9, kx_a q_value cyI 1914 o_10, kx_a q_number cyI 1914 o_11, kx_3 q_joined j_v j_n o_12 o_13 o_14, kx_a j_v cyI 12 o_15, kx_a j_n cyI 12 o_16, kx_3 h0 a_v a_n o_17 o_18 o_19, kx_a a_v cyI 12 o_20, kx_a a_n cyI 12 o_21]) hP hD [0, 1, 2, 3, 4, 5, 6, 7, 8, 9, 10, 11, 12, 13, 14, 15, 16] [17] rfl rfl (by decide) (by decide) hk1 hFc hP1 hD1
    clear hP1 hD1 hK1 hk1 hz1 hFc hDc hPc hKc
    generalize H1 = H at hP hS hce ⊢
    obtain ⟨hP, hD⟩ := kx_re (w2 := [(ho, .inl (cyL, 1, .inr (.inl ol))), kx_4 m_ q_row q_t t_ h0 k0 w_ z_ slots o_2, kx_2 q_t q_row q_joined q_from q_to q_size q_lossOf q_lessBy q_value q_number o_3 o_4, kx_0 q_row q_cell len, kx_a q_cell cyI 160 f, kx_a q_from cyI 319 o_5, kx_a q_to cyI 319 o_6, kx_a q_size cyI 319 o_7, kx_a q_lossOf cyI 319 o_8, kx_a q_lessBy cyI 319 o_9, kx_a q_value cyI 1914 o_10, kx_a q_number cyI 1914 o_11, kx_3 q_joined j_v j_n o_12 o_13 o_14, kx_a j_v cyI 12 o_15, kx_a j_n cyI 12 o_16, kx_3 h0 a_v a_n o_17 o_18 o_19, kx_a a_v cyI 12 o_20, kx_a a_n cyI 12 o_21]) hP hD rfl
    refine vx_catch hown [] ⟨0, 18, 21, 13⟩ [] htb (fun z hz => by cases hz) (by decide) (by decide) (hts (.classLink RL 13 EXN) (by decide +kernel)) (va_Nw.use rfl hth.1.1) hce hcv hcl ?_
    refine W.eq (g2 := F0 m 21 ls [.ref q9]) rfl ?_
    have w_1 : (0 : Int) ≤ 1 ∧ laidX o_2 slots o_4 f o_5 o_6 o_7 o_8 o_9 o_10 o_11 o_3 len ∧ sixes o_7 := w_1
    refine W.widen (k := 1) (n := 6) (Nat.le_of_ble_eq_true rfl) (Nat.le_of_ble_eq_true rfl) ?_
    refine lv_astore (lv' := [(8, .ref q9), (0, .ref m_), (1, .int p0), (2, .int p1), (3, .int p2), (4, .int p3), (5, .int p4), (6, .int p5), (7, .ref ho)]) hx hb dL_heavyAt_21 hl (by decide) rfl (fun ls hl => ?_)
    refine lv_iconst (v := 1) hx hb dL_heavyAt_23 (by decide) ?_
    obtain ⟨hP9, hD9⟩ := kx_sub (w2 := [kx_4 m_ q_row q_t t_ h0 k0 w_ z_ slots o_2, kx_2 q_t q_row q_joined q_from q_to q_size q_lossOf q_lessBy q_value q_number o_3 o_4, kx_0 q_row q_cell len, kx_a q_cell cyI 160 f, kx_a q_from cyI 319 o_5, kx_a q_to cyI 319 o_6, kx_a q_size cyI 319 o_7, kx_a q_lossOf cyI 319 o_8, kx_a q_lessBy cyI 319 o_9, kx_a q_value cyI 1914 o_10, kx_a q_number cyI 1914 o_11, kx_3 q_joined j_v j_n o_12 o_13 o_14, kx_a j_v cyI 12 o_15, kx_a j_n cyI 12 o_16, kx_3 h0 a_v a_n o_17 o_18 o_19, kx_a a_v cyI 12 o_20, kx_a a_n cyI 12 o_21, (ho, .inl (cyL, 1, .inr (.inl ol)))]) hP hD [1, 2, 3, 4, 5, 6, 7, 8, 9, 10, 11, 12, 13, 14, 15, 16, 17, 0] (by decide) rfl
    have hK9 := hK
    exact W.iret (v := 1) hx hb hr (hlocks := hlocks) (fun t ht hW => ⟨⟨1, (o_2, o_3, o_4, o_5, o_6, o_7, o_8, o_9, o_10, o_11, o_12, o_13, o_14, o_15, o_16, o_17, o_18, o_19, o_20, o_21, ol, (0 : Int32)), rfl, ⟨Or.inr ⟨rfl, w_1.1⟩, w_1.2⟩, by rw [ht]; exact hP9, va_K.moved hW.alike hK9, hD9⟩, hS.F ht⟩) hS.2.2 dL_heavyAt_24
  · obtain ⟨o_22, o_23, o_24, o_25, o_26, o_27, o_28, o_29, o_30, o_31, o_32, o_33, o_34, o_35, o_36, o_37, o_38, o_39, o_40, o_41⟩ := u
    dsimp only at w_1 hB
    obtain ⟨hP1, hK1, hD1⟩ := hB
    rw [ht] at hP1
    have hK1 := va_K.moved hvm.symm hK1
    obtain ⟨hP, hD⟩ := va_join (wr := [(ho, .inl (cyL, 1, .inr (.inl ol)))]) (w1 := [kx_4 m_ q_row q_t t_ h0 k0 w_ z_ slots o_22, kx_2 q_t q_row q_joined q_from q_to q_size q_lossOf q_lessBy q_value q_number o_23 o_24, kx_0 q_row q_cell len, kx_a q_cell cyI 160 f, kx_a q_from cyI 319 o_25, kx_a q_to cyI 319 o_26, kx_a q_size cyI 319 o_27, kx_a q_lossOf cyI 319 o_28, kx_a q_lessBy cyI 319 o_29, kx_a q_value cyI 1914 o_30, kx_a q_number cyI 1914 o_31, kx_3 q_joined j_v j_n o_32 o_33 o_34, kx_a j_v cyI 12 o_35, kx_a j_n cyI 12 o_36, kx_3 h0 a_v a_n o_37 o_38 o_39, kx_a a_v cyI 12 o_40, kx_a a_n cyI 12 o_41]) hP hD [0, 1, 2, 3, 4, 5, 6, 7, 8, 9, 10, 11, 12, 13, 14, 15, 16] [17] rfl rfl (by decide) (by decide) hk1 hFc hP1 hD1
    clear hP1 hD1 hK1 hk1 hz1 hFc hDc hPc hKc
    generalize H1 = H at hP hS ⊢
    obtain ⟨hP, hD⟩ := kx_re (w2 := [(ho, .inl (cyL, 1, .inr (.inl ol))), kx_4 m_ q_row q_t t_ h0 k0 w_ z_ slots o_22, kx_2 q_t q_row q_joined q_from q_to q_size q_lossOf q_lessBy q_value q_number o_23 o_24, kx_0 q_row q_cell len, kx_a q_cell cyI 160 f, kx_a q_from cyI 319 o_25, kx_a q_to cyI 319 o_26, kx_a q_size cyI 319 o_27, kx_a q_lossOf cyI 319 o_28, kx_a q_lessBy cyI 319 o_29, kx_a q_value cyI 1914 o_30, kx_a q_number cyI 1914 o_31, kx_3 q_joined j_v j_n o_32 o_33 o_34, kx_a j_v cyI 12 o_35, kx_a j_n cyI 12 o_36, kx_3 h0 a_v a_n o_37 o_38 o_39, kx_a a_v cyI 12 o_40, kx_a a_n cyI 12 o_41]) hP hD rfl
    have w_1 : (0 : Int) ≤ 1 ∧ laidX o_22 slots o_24 f o_25 o_26 o_27 o_28 o_29 o_30 o_31 o_23 len ∧ sixes o_27 := w_1
    refine W.widen (k := 1) (n := 6) (Nat.le_of_ble_eq_true rfl) (Nat.le_of_ble_eq_true rfl) ?_
    refine lv_i2l hx hb dL_heavyAt_16 rfl ?_
    refine va_last hx hb hK hP hD hS 0 1 rfl rfl (ki_inl (by decide)) dL_heavyAt_17 (fun H locs hP hD hS => ?_)
    obtain ⟨hP, hD⟩ := kx_re (w2 := [(ho, .inl (cyL, 1, .inr (.inl (vp_updL ol (0 : Int32).toNatClampNeg r_1.toInt64)))), kx_4 m_ q_row q_t t_ h0 k0 w_ z_ slots o_22, kx_2 q_t q_row q_joined q_from q_to q_size q_lossOf q_lessBy q_value q_number o_23 o_24, kx_0 q_row q_cell len, kx_a q_cell cyI 160 f, kx_a q_from cyI 319 o_25, kx_a q_to cyI 319 o_26, kx_a q_size cyI 319 o_27, kx_a q_lossOf cyI 319 o_28, kx_a q_lessBy cyI 319 o_29, kx_a q_value cyI 1914 o_30, kx_a q_number cyI 1914 o_31, kx_3 q_joined j_v j_n o_32 o_33 o_34, kx_a j_v cyI 12 o_35, kx_a j_n cyI 12 o_36, kx_3 h0 a_v a_n o_37 o_38 o_39, kx_a a_v cyI 12 o_40, kx_a a_n cyI 12 o_41]) hP hD rfl
    refine lv_goto (tgt := 25) hx hb dL_heavyAt_18 (by decide) ?_
    refine lv_iconst (v := 0) hx hb dL_heavyAt_25 (by decide) ?_
    obtain ⟨hP9, hD9⟩ := kx_sub (w2 := [kx_4 m_ q_row q_t t_ h0 k0 w_ z_ slots o_22, kx_2 q_t q_row q_joined q_from q_to q_size q_lossOf q_lessBy q_value q_number o_23 o_24, kx_0 q_row q_cell len, kx_a q_cell cyI 160 f, kx_a q_from cyI 319 o_25, kx_a q_to cyI 319 o_26, kx_a q_size cyI 319 o_27, kx_a q_lossOf cyI 319 o_28, kx_a q_lessBy cyI 319 o_29, kx_a q_value cyI 1914 o_30, kx_a q_number cyI 1914 o_31, kx_3 q_joined j_v j_n o_32 o_33 o_34, kx_a j_v cyI 12 o_35, kx_a j_n cyI 12 o_36, kx_3 h0 a_v a_n o_37 o_38 o_39, kx_a a_v cyI 12 o_40, kx_a a_n cyI 12 o_41, (ho, .inl (cyL, 1, .inr (.inl (vp_updL ol (0 : Int32).toNatClampNeg r_1.toInt64))))]) hP hD [1, 2, 3, 4, 5, 6, 7, 8, 9, 10, 11, 12, 13, 14, 15, 16, 17, 0] (by decide) rfl
    have hK9 := hK
    exact W.iret (v := 0) hx hb hr (hlocks := hlocks) (fun t ht hW => ⟨⟨0, (o_22, o_23, o_24, o_25, o_26, o_27, o_28, o_29, o_30, o_31, o_32, o_33, o_34, o_35, o_36, o_37, o_38, o_39, o_40, o_41, (vp_updL ol (0 : Int32).toNatClampNeg r_1.toInt64), r_1), rfl, ⟨Or.inl ⟨rfl, w_1.1, rfl⟩, w_1.2⟩, by rw [ht]; exact hP9, va_K.moved hW.alike hK9, hD9⟩, hS.F ht⟩) hS.2.2 dL_heavyAt_26



def mj_hp (p q n : Int) (V : Nat → Int32) (g : Int32 → Int) : Nat → Int32 → Int
  | 0, _ => 0
  | i + 1, v => mj_hp p q n V g i v + (if V i = v ∧ p * n < g v * q then g v else 0)
def mj_hk (p q n : Int) (V : Nat → Int32) (g : Int32 → Int) : Nat → Nat
  | 0 => 0
  | i + 1 => mj_hk p q n V g i + (if p * n < g (V i) * q then 1 else 0)
theorem mj_hk_yes {p q n : Int} {V : Nat → Int32} {g : Int32 → Int} {i i2 : Nat} (h : p * n < g (V i) * q) (e : i2 = i + 1) : mj_hk p q n V g i2 = mj_hk p q n V g i + 1 := by
  subst e
  simp only [mj_hk]
  rw [if_pos h]
theorem mj_hk_no {p q n : Int} {V : Nat → Int32} {g : Int32 → Int} {i i2 : Nat} (h : g (V i) * q ≤ p * n) (e : i2 = i + 1) : mj_hk p q n V g i2 = mj_hk p q n V g i := by
  subst e
  simp only [mj_hk]
  rw [if_neg (Int.not_lt.mpr h), Nat.add_zero]
theorem mj_hk_le (p q n : Int) (V : Nat → Int32) (g : Int32 → Int) : ∀ i : Nat, mj_hk p q n V g i ≤ i
  | 0 => Nat.le_refl 0
  | i + 1 => by
    have := mj_hk_le p q n V g i
    simp only [mj_hk]
    split <;> omega
theorem mj_hp_supp {p q n : Int} {V : Nat → Int32} {g : Int32 → Int} : ∀ (i : Nat) (v : Int32), ¬ mj_hp p q n V g i v = 0 → ∃ j : Nat, j < i ∧ V j = v
  | 0, v, h => absurd rfl h
  | i + 1, v, h => by
    by_cases e : V i = v
    · exact ⟨i, by omega, e⟩
    · simp only [mj_hp] at h
      rw [if_neg (show ¬ (V i = v ∧ p * n < g v * q) from fun c => e c.1), Int.add_zero] at h
      obtain ⟨j, h1, h2⟩ := mj_hp_supp i v h
      exact ⟨j, by omega, h2⟩
theorem mj_hp_no {p q n : Int} {V : Nat → Int32} {g : Int32 → Int} {i i2 : Nat} (h : g (V i) * q ≤ p * n) (e : i2 = i + 1) (v : Int32) : mj_hp p q n V g i2 v = mj_hp p q n V g i v := by
  subst e
  simp only [mj_hp]
  rw [if_neg (show ¬ (V i = v ∧ p * n < g v * q) from fun c => absurd c.2 (by rw [← c.1]; exact Int.not_lt.mpr h)), Int.add_zero]
theorem mj_hp_yes {p q n : Int} {V : Nat → Int32} {g : Int32 → Int} {i i2 : Nat} (h : p * n < g (V i) * q) (e : i2 = i + 1) (v : Int32) : mj_hp p q n V g i2 v = mj_hp p q n V g i v + (if v = V i then g (V i) else 0) := by
  subst e
  simp only [mj_hp]
  by_cases c : V i = v
  · subst c
    rw [if_pos (And.intro rfl h), if_pos rfl]
  · rw [if_neg (show ¬ (V i = v ∧ p * n < g v * q) from fun z => c z.1), if_neg (show ¬ v = V i from fun z => c z.symm)]
theorem mj_kh_0 {p q n : Int} {V V2 N2 : Nat → Int32} {g : Int32 → Int} {m i : Nat} (hm : m = 0) (hi : i = 0) : mj_vs V2 N2 0 m (mj_hp p q n V g i) := by
  subst hm; subst hi
  exact mj_vs_congr (mj_vs_zero _ _ _) (fun w => rfl)
theorem mj_kh_yes {p q n : Int} {V N kv kn : Nat → Int32} {g : Int32 → Int} {i i2 k k2 m : Nat} (h : mj_vs kv kn 0 k (mj_hp p q n V g i)) (hv : p * n < (N i).toInt * q) (hN : (N i).toInt = g (V i)) (hpos : 0 < (N i).toInt) (hb : (N i).toInt ≤ 1000) (dist : ∀ a b : Nat, a < m → b < m → V a = V b → a = b) (him : i < m) (hki : k ≤ i) (hun : kv i = V i ∧ kn i = N i) (e : i2 = i + 1) (e2 : k2 = k + 1) : mj_vs (mj_ex kv i k) (mj_ex kn i k) 0 k2 (mj_hp p q n V g i2) := by
  subst e; subst e2
  have h9 : mj_hp p q n V g i (V i) = 0 := by
    by_cases c : mj_hp p q n V g i (V i) = 0
    · exact c
    · obtain ⟨a, a1, a2⟩ := mj_hp_supp i (V i) c
      have := dist a i (by omega) him a2
      omega
  have new : ∀ j : Nat, j < k → ¬ kv j = V i := fun j hj c => by
    have h1 := (h.1 j hj).2
    rw [Nat.zero_add, c, h9] at h1
    omega
  have ad : mj_vs (upd kv k (V i)) (upd kn k (N i)) 0 (k + 1) (fun w => mj_hp p q n V g i w + (if w = V i then (N i).toInt else 0)) := mj_vs_add h hpos (by rw [h9]; omega) (Or.inr ⟨new, rfl, rfl, rfl⟩)
  refine mj_vs_congr (mj_vs_seg ad (fun j hj => ?_)) (fun w => ?_)
  · rw [Nat.zero_add]
    by_cases c : j = k
    · rw [c, mj_ex_k, mj_ex_k, upd_at, upd_at, hun.1, hun.2]
      exact ⟨rfl, rfl⟩
    · rw [mj_ex_o (by omega) c, mj_ex_o (by omega) c, upd_ne c, upd_ne c]
      exact ⟨rfl, rfl⟩
  · rw [mj_hp_yes (by rw [← hN]; exact hv) rfl, hN]

set_option maxHeartbeats 4000000 in
set_option maxRecDepth 100000 in
theorem c_X3_keepHeavy_x (l : Launch) (dC : Nat → ClassId) (dI : Nat → Nat → Nat) (h0 : Nat) (a_v : Nat) (a_n : Nat) (cyI : ClassId) (vs : Int32) (lo : Int32) (le : Int32) (fv : Nat → Int32) (fn : Nat → Int32) (g9 : Int32 → Int) (p0 : Int32) (p1 : Int32) (p2 : Int32) (sz : Nat) (a0 : 0 ≤ vs.toInt) (a1 : vs.toInt ≤ 12) (b0 : 0 ≤ p0.toInt) (b1 : p0.toInt ≤ 320) (b2 : 1 ≤ p1.toInt) (b3 : p1.toInt ≤ 999) (b4 : 1 ≤ p2.toInt) (b5 : p2.toInt ≤ 999) (gn : ∀ j : Nat, j < vs.toNatClampNeg → (fn j).toInt = g9 (fv j) ∧ 0 ≤ (fn j).toInt ∧ (fn j).toInt ≤ 320) (ds : ∀ a b : Nat, a < vs.toNatClampNeg → b < vs.toNatClampNeg → fv a = fv b → a = b) : Met l yX3_keepHeavy wsX3_keepHeavy ({ frames := 2, cells := 0, slots := 0, locals := 90 }) (va_Pc [.ref h0, .int p0, .int p1, .int p2] (fun U => U.heap.size = sz ∧ va_P (dC, dI) vwCl [kx_3 h0 a_v a_n vs lo le, kx_a a_v cyI 12 fv, kx_a a_n cyI 12 fn] U.heap ∧ va_K (dC, dI) vwCl [(cyI, .int)] U ∧ va_D (fun _ => True) [kx_3 h0 a_v a_n vs lo le, kx_a a_v cyI 12 fv, kx_a a_n cyI 12 fn] ∧ va_Nw (.methodLinkNest RX3 42 yX4_isHeavy RX4) U)) (va_Qv (fun u : Int32 × (Nat → Int32) × (Nat → Int32) => mj_vs u.2.1 u.2.2 0 u.1.toNatClampNeg (mj_hp p1.toInt p2.toInt p0.toInt fv g9 vs.toNatClampNeg) ∧ mj_srt u.2.1 u.2.2 0 u.1.toNatClampNeg ∧ u.1.toInt = (mj_hk p1.toInt p2.toInt p0.toInt fv g9 vs.toNatClampNeg : Int) ∧ 0 ≤ u.1.toInt ∧ u.1.toInt ≤ vs.toInt) (fun (u : Int32 × (Nat → Int32) × (Nat → Int32)) (t : State) => va_P (dC, dI) vwCl [kx_3 h0 a_v a_n u.1 lo le, kx_a a_v cyI 12 u.2.1, kx_a a_n cyI 12 u.2.2] t.heap ∧ va_K (dC, dI) vwCl [(cyI, .int)] t ∧ va_D (va_A [kx_3 h0 a_v a_n vs lo le, kx_a a_v cyI 12 fv, kx_a a_n cyI 12 fn] sz) [kx_3 h0 a_v a_n u.1 lo le, kx_a a_v cyI 12 u.2.1, kx_a a_n cyI 12 u.2.2]) (va_A [kx_3 h0 a_v a_n vs lo le, kx_a a_v cyI 12 fv, kx_a a_n cyI 12 fn] sz)) 0 0 (va_A [kx_3 h0 a_v a_n vs lo le, kx_a a_v cyI 12 fv, kx_a a_n cyI 12 fn] sz) := by
  refine Met.ofW (cc := cX3_keepHeavy) (maxL := 6) (ret := none) (by decide) rfl ?_
  intro p e s m args below meth c s₁ B hml hv
  obtain ⟨rfl, hsz, hP, hK, hD0, hN0⟩ := hv
  have hx := B.exec
  have hb := B.bytes
  have hr := B.returns
  have hts := atoms_spec (ws := wsX3_keepHeavy) B.pre
  have hown : s.vm.findClass RX3 = some m.cls := findClass_of_methodNamed B.named
  have hlocks := B.notSynchronized
  subst hsz
  have hD := hD0.self (sz := s.heap.size)
  generalize hAe : va_A [kx_3 h0 a_v a_n vs lo le, kx_a a_v cyI 12 fv, kx_a a_n cyI 12 fn] s.heap.size = A at hD ⊢
  have hA : ∀ q : Nat, s.heap.size ≤ q → A q := fun q h => by rw [← hAe]; exact Or.inr h
  have hS : va_S A s.heap s.heap [] := va_S.rf
  have hP : va_P (dC, dI) vwCl [kx_3 h0 a_v a_n vs lo le, kx_a a_v cyI 12 fv, kx_a a_n cyI 12 fn] s.heap := hP
  have hl := lv_entry ([.ref h0, .int p0, .int p1, .int p2]) (n := 6) (Nat.le_of_ble_eq_true rfl)
  rw [lg_entry_eq]
  generalize (lg_sl ([.ref h0, .int p0, .int p1, .int p2]) ++ List.replicate (6 - (lg_sl ([.ref h0, .int p0, .int p1, .int p2])).length) Slot.unset).toArray = ls at hl ⊢
  have hl : lv_has ls 6 [(0, .ref h0), (1, .int p0), (2, .int p1), (3, .int p2)] := hl
  have hf_18 := hts (.fieldLink RX3 18 "MajorityIndex$Votes" "size" "I") (List.mem_of_getElem? (i := 1) rfl)
  have hi_3 : ∀ w ∈ u_ws RX3 TX3 5, w ∈ wsX3_keepHeavy := fun w h => List.mem_cons_of_mem _ (List.mem_append_right _ h)
  have hf_15 := hts (.fieldLink RX3 15 "MajorityIndex$Votes" "number" "[I") (List.mem_of_getElem? (i := 2) rfl)
  have hz_RX4 := hts (.initialized RX4) (List.mem_of_getElem? (i := 4) rfl)
  have ht_X4_isHeavy := hts (.static yX4_isHeavy) (List.mem_of_getElem? (i := 3) rfl)
  have n_vs := ki_nat vs rfl (om_10 a0)
  refine lv_iconst (v := 0) hx hb dX3_keepHeavy_0 (by decide) ?_
  refine lv_istore (lv' := [(4, .int 0), (0, .ref h0), (1, .int p0), (2, .int p1), (3, .int p2)]) hx hb dX3_keepHeavy_1 hl (by decide) rfl (fun ls hl => ?_)
  refine lv_iconst (v := 0) hx hb dX3_keepHeavy_3 (by decide) ?_
  refine lv_istore (lv' := [(5, .int 0), (4, .int 0), (0, .ref h0), (1, .int p0), (2, .int p1), (3, .int p2)]) hx hb dX3_keepHeavy_4 hl (by decide) rfl (fun ls hl => ?_)
  have LP1 : ∀ (n : Nat) (i : Int32) (kp : Int32) (kv : Nat → Int32) (kn : Nat → Int32), (0 ≤ i.toInt) → (i.toInt ≤ vs.toInt) → (0 ≤ kp.toInt) → (kp.toInt = (mj_hk p1.toInt p2.toInt p0.toInt fv g9 i.toNatClampNeg : Int)) → (mj_vs kv kn 0 kp.toNatClampNeg (mj_hp p1.toInt p2.toInt p0.toInt fv g9 i.toNatClampNeg)) → (∀ j : Nat, i.toNatClampNeg ≤ j → kv j = fv j ∧ kn j = fn j) → (vs.toInt - i.toInt).toNat < n → ∀ (H : Heap) (locs : List Loc), va_P (dC, dI) vwCl [kx_3 h0 a_v a_n vs lo le, kx_a a_v cyI 12 kv, kx_a a_n cyI 12 kn] H → va_D A [kx_3 h0 a_v a_n vs lo le, kx_a a_v cyI 12 kv, kx_a a_n cyI 12 kn] → va_S A s.heap H locs → ∀ (ls : Array Slot), lv_has ls 6 [(5, .int i), (4, .int kp), (0, .ref h0), (1, .int p0), (2, .int p1), (3, .int p2)] → W p l e (headSpec wsX3_keepHeavy ({ frames := 2, cells := 0, slots := 0, locals := 90 })).room s m ([.ref h0, .int p0, .int p1, .int p2] : List Value).toArray below meth c H locs 0 0 (MQ below (va_Qv (fun u : Int32 × (Nat → Int32) × (Nat → Int32) => mj_vs u.2.1 u.2.2 0 u.1.toNatClampNeg (mj_hp p1.toInt p2.toInt p0.toInt fv g9 vs.toNatClampNeg) ∧ mj_srt u.2.1 u.2.2 0 u.1.toNatClampNeg ∧ u.1.toInt = (mj_hk p1.toInt p2.toInt p0.toInt fv g9 vs.toNatClampNeg : Int) ∧ 0 ≤ u.1.toInt ∧ u.1.toInt ≤ vs.toInt) (fun (u : Int32 × (Nat → Int32) × (Nat → Int32)) (t : State) => va_P (dC, dI) vwCl [kx_3 h0 a_v a_n u.1 lo le, kx_a a_v cyI 12 u.2.1, kx_a a_n cyI 12 u.2.2] t.heap ∧ va_K (dC, dI) vwCl [(cyI, .int)] t ∧ va_D A [kx_3 h0 a_v a_n u.1 lo le, kx_a a_v cyI 12 u.2.1, kx_a a_n cyI 12 u.2.2]) A) ([.ref h0, .int p0, .int p1, .int p2] : List Value).toArray s 0 0 A) (F0 m 6 ls []) := by
    intro n
    induction n with
    | zero => intro i kp kv kn LP1_h0 LP1_h1 LP1_h2 LP1_h3 LP1_h4 LP1_h5 hn; exact absurd hn (Nat.not_lt_zero _)
    | succ n ih1 =>
      intro i kp kv kn LP1_h0 LP1_h1 LP1_h2 LP1_h3 LP1_h4 LP1_h5 hn1 H locs hP hD hS ls hl
      have n_i := ki_nat i rfl (om_10 LP1_h0)
      have n_kp := ki_nat kp rfl (om_10 LP1_h2)
      have hle := mj_hk_le p1.toInt p2.toInt p0.toInt fv g9 i.toNatClampNeg
      refine lv_iload hx hb dX3_keepHeavy_6 (lv_at hl 0 rfl) ?_
      refine lv_aload_n hx hb dX3_keepHeavy_8 rfl (lv_at hl 2 rfl) ?_
      refine va_get (D := (dC, dI)) (ci := 3) (v := .int vs) (C := RX3) (T := TX3) (N := 5) hx hb hts hi_3 hown hK hP 0 rfl rfl 2 (by decide) hf_18 (fun _ h9 => h9) rfl dX3_keepHeavy_9 ?_
      refine lv_icmp_ge (tgt := 48) hx hb dX3_keepHeavy_12 (by decide) (fun c_1 => ?_) (fun c_1 => ?_)
      · have i_1 : vs.toInt ≤ i.toInt := kc_le c_1
        refine lv_aload_n hx hb dX3_keepHeavy_48 rfl (lv_at hl 2 rfl) ?_
        refine lv_iload hx hb dX3_keepHeavy_49 (lv_at hl 1 rfl) ?_
        refine va_put (D := (dC, dI)) (ci := 3) (v := .int kp) (ty := .int) (C := RX3) (T := TX3) (N := 5) hx hb hts hi_3 tyX3 tyX3_ok nmX3 hown hK hP hD hS 0 rfl rfl 2 (by decide) hf_18 (fun _ h9 => h9) rfl (by decide +kernel) rfl rfl (Nat.le_of_ble_eq_true rfl) dX3_keepHeavy_51 (fun H locs hP hD hS => ?_)
        obtain ⟨hP, hD⟩ := kx_re (w2 := [kx_3 h0 a_v a_n kp lo le, kx_a a_v cyI 12 kv, kx_a a_n cyI 12 kn]) hP hD rfl
        refine lv_aload_n hx hb dX3_keepHeavy_54 rfl (lv_at hl 2 rfl) ?_
        have hPc := hP
        have hKc := hK
        have hDc := hD
        have hFc := kx_free hD hS hA
        refine va_callv (va_runV (As := []) (rest := []) ⟨hx, hb, hml, hown, hts⟩ (kx_un (c_X3_order_x l dC dI h0 a_v a_n cyI kp lo le kv kn H.size LP1_h2 (by omega))) (cwV 0 hts gX3_keepHeavy_X3_order rfl rfl rfl (by decide +kernel) ⟨Nat.le_of_ble_eq_true rfl, Nat.le_of_ble_eq_true rfl⟩) ⟨fun a U g mk q => by obtain ⟨q0, q1, qP, qK, qD⟩ := q; exact ⟨q0, q1, qP, va_K.moved (u := U) (U := U.calling g mk a) (Vm.Alike.refl U.vm) qK, qD⟩, kx_rc3 hKc hPc (q0 := 0) rfl, fun U hU hW => ⟨rfl, by rw [hU], by rw [hU]; exact hPc, va_K.moved hW.alike hKc, hDc.weaken (fun _ _ _ _ => trivial)⟩⟩ rfl rfl hl.1 rfl (lv_room (Nat.le_of_ble_eq_true rfl)) dX3_keepHeavy_55 ⟨Nat.le_of_ble_eq_true rfl, Nat.le_of_ble_eq_true rfl⟩) hS (fun q _ h => hFc q h) hFc (fun u t H1 locs ht hvm w_2 hB hz1 hk1 hS => ?_)
        obtain ⟨o_3, o_4⟩ := u
        dsimp only at w_2 hB
        obtain ⟨hP1, hK1, hD1⟩ := hB
        rw [ht] at hP1
        have hK1 := va_K.moved hvm.symm hK1
        have hD := hD1.weaken (fun _ q _ h => hFc q.1 h)
        have hP := hP1
        clear hP1 hD1 hK1 hk1 hz1 hFc hDc hPc hKc
        generalize H1 = H at hP hS ⊢
        have w_2 : mj_srt o_3 o_4 0 kp.toNatClampNeg ∧ ∀ mu : Int32 → Int, mj_vs kv kn 0 kp.toNatClampNeg mu → mj_vs o_3 o_4 0 kp.toNatClampNeg mu := w_2
        have hP9 := hP
        have hD9 := hD
        have hK9 := hK
        have q_i : i.toNatClampNeg = vs.toNatClampNeg := by omega
        exact W.vret hx hb hr (hlocks := hlocks) (fun t ht hW => ⟨⟨(kp, o_3, o_4), rfl, ⟨w_2.2 _ (mj_vs_congr LP1_h4 (fun v => by rw [q_i])), w_2.1, (by (try dsimp only); rw [← q_i]; omega), (by (try dsimp only); omega), (by (try dsimp only); omega)⟩, by rw [ht]; exact hP9, va_K.moved hW.alike hK9, hD9⟩, hS.F ht⟩) hS.2.2 dX3_keepHeavy_58
      · have i_1 : i.toInt < vs.toInt := kc_nle c_1
        refine lv_aload_n hx hb dX3_keepHeavy_15 rfl (lv_at hl 2 rfl) ?_
        refine va_get (D := (dC, dI)) (ci := 3) (v := .ref a_n) (C := RX3) (T := TX3) (N := 5) hx hb hts hi_3 hown hK hP 0 rfl rfl 1 (by decide) hf_15 (fun _ h9 => h9) rfl dX3_keepHeavy_16 ?_
        refine lv_iload hx hb dX3_keepHeavy_19 (lv_at hl 0 rfl) ?_
        refine va_iald hx hb hK hP 2 0 rfl rfl (ki_in (om_10 LP1_h0) (om_32 a1 i_1)) dX3_keepHeavy_21 ?_
        refine lv_topi (fun y_5 ey_5 => ?_)
        have j_5 : y_5.toInt = (kn i.toNatClampNeg).toInt := congrArg Int32.toInt ey_5
        have q_u := LP1_h5 i.toNatClampNeg (Nat.le_refl _)
        have q_g := gn i.toNatClampNeg (by omega)
        have q_y : y_5.toInt = (fn i.toNatClampNeg).toInt := by rw [ey_5, q_u.2]
        refine lv_iload_n hx hb dX3_keepHeavy_22 rfl (lv_at hl 3 rfl) ?_
        refine lv_iload_n hx hb dX3_keepHeavy_23 rfl (lv_at hl 4 rfl) ?_
        refine lv_iload_n hx hb dX3_keepHeavy_24 rfl (lv_at hl 5 rfl) ?_
        have hPc := hP.sub (ws' := []) [] rfl
        have hKc := hK.sub (tys' := []) [] rfl
        refine vp_callSi (ki_ofRun (va_runSN (As := [.int y_5, .int p0, .int p1, .int p2]) (rest := []) ⟨hx, hb, hml, hown, hts⟩ (c_X4_isHeavy_x l dC dI y_5 p0 p1 p2 (by omega) (by omega) b0 b1 (om_51 b2) b3 (om_51 b4) b5) ⟨(va_cnB 4 hts ggX3_keepHeavy_X4_isHeavy rfl rfl rfl hN0 hz_RX4 (by decide +kernel) ⟨Nat.le_of_ble_eq_true rfl, Nat.le_of_ble_eq_true rfl⟩), ht_X4_isHeavy, trivial⟩ ⟨fun a U g mk q => by obtain ⟨q0, qP, qK⟩ := q; exact ⟨q0, qP, va_K.moved (u := U) (U := U.calling g mk a) (Vm.Alike.refl U.vm) qK⟩, fun U hU hW => ⟨rfl, by rw [hU]; exact hPc, va_K.moved hW.alike hKc⟩⟩ rfl rfl hl.1 rfl (lv_room (Nat.le_of_ble_eq_true rfl)) dX3_keepHeavy_25 ⟨Nat.le_of_ble_eq_true rfl, Nat.le_of_ble_eq_true rfl⟩)) (fun r_6 w_6 => ?_)
        rcases w_6 with ⟨rfl, w_6⟩ | ⟨rfl, w_6⟩
        · have w_6 : p1.toInt * p0.toInt < y_5.toInt * p2.toInt := w_6
          refine lv_if_eq (tgt := 42) hx hb dX3_keepHeavy_28 (by decide) (fun c_7 => ?_) (fun c_7 => ?_)
          · exact absurd c_7 (by decide)
          · refine lv_aload_n hx hb dX3_keepHeavy_31 rfl (lv_at hl 2 rfl) ?_
            refine lv_iload hx hb dX3_keepHeavy_32 (lv_at hl 0 rfl) ?_
            refine lv_iload hx hb dX3_keepHeavy_34 (lv_at hl 1 rfl) ?_
            have hPc := hP
            have hKc := hK
            have hDc := hD
            have hFc := kx_free hD hS hA
            refine va_callv (va_runV (As := [.int i, .int kp]) (rest := []) ⟨hx, hb, hml, hown, hts⟩ (kx_un (c_X3_exchange l dC dI h0 a_v a_n cyI vs lo le kv kn i kp H.size LP1_h0 (om_58 a1 i_1) LP1_h2 (by omega))) (cwV 2 hts gX3_keepHeavy_X3_exchange rfl rfl rfl (by decide +kernel) ⟨Nat.le_of_ble_eq_true rfl, Nat.le_of_ble_eq_true rfl⟩) ⟨fun a U g mk q => by obtain ⟨q0, q1, qP, qK, qD⟩ := q; exact ⟨q0, q1, qP, va_K.moved (u := U) (U := U.calling g mk a) (Vm.Alike.refl U.vm) qK, qD⟩, kx_rc3 hKc hPc (q0 := 0) rfl, fun U hU hW => ⟨rfl, by rw [hU], by rw [hU]; exact hPc, va_K.moved hW.alike hKc, hDc.weaken (fun _ _ _ _ => trivial)⟩⟩ rfl rfl hl.1 rfl (lv_room (Nat.le_of_ble_eq_true rfl)) dX3_keepHeavy_36 ⟨Nat.le_of_ble_eq_true rfl, Nat.le_of_ble_eq_true rfl⟩) hS (fun q _ h => hFc q h) hFc (fun u t H1 locs ht hvm w_8 hB hz1 hk1 hS => ?_)
            obtain ⟨o_9, o_10⟩ := u
            dsimp only at w_8 hB
            obtain ⟨hP1, hK1, hD1⟩ := hB
            rw [ht] at hP1
            have hK1 := va_K.moved hvm.symm hK1
            have hD := hD1.weaken (fun _ q _ h => hFc q.1 h)
            have hP := hP1
            clear hP1 hD1 hK1 hk1 hz1 hFc hDc hPc hKc
            generalize H1 = H at hP hS ⊢
            have w_8 : o_9 = upd (upd kv i.toNatClampNeg (kv kp.toNatClampNeg)) kp.toNatClampNeg (kv i.toNatClampNeg) ∧ o_10 = upd (upd kn i.toNatClampNeg (kn kp.toNatClampNeg)) kp.toNatClampNeg (kn i.toNatClampNeg) := w_8
            obtain ⟨x_11, ex_11⟩ : ∃ y : Int32, y = kp + 1 := ⟨_, rfl⟩
            have i_11 : x_11.toInt = kp.toInt + 1 := ki_add ex_11 rfl rfl (om_13 LP1_h2) (by omega)
            refine lv_iinc (v := x_11) (lv' := [(4, .int x_11), (5, .int i), (0, .ref h0), (1, .int p0), (2, .int p1), (3, .int p2)]) hx hb dX3_keepHeavy_39 hl (k := 1) rfl (by rw [ex_11]; rfl) (by decide) rfl (fun ls hl => ?_)
            obtain ⟨x_12, ex_12⟩ : ∃ y : Int32, y = i + 1 := ⟨_, rfl⟩
            have i_12 : x_12.toInt = i.toInt + 1 := ki_add ex_12 rfl rfl (om_13 LP1_h0) (om_53 a1 LP1_h1)
            refine lv_iinc (v := x_12) (lv' := [(5, .int x_12), (4, .int x_11), (0, .ref h0), (1, .int p0), (2, .int p1), (3, .int p2)]) hx hb dX3_keepHeavy_42 hl (k := 1) rfl (by rw [ex_12]; rfl) (by decide) rfl (fun ls hl => ?_)
            refine lv_goto (tgt := 6) hx hb dX3_keepHeavy_45 (by decide) ?_
            have n_13 := ki_nat x_12 rfl (om_34 LP1_h0 i_12)
            have q_h : p1.toInt * p0.toInt < g9 (fv i.toNatClampNeg) * p2.toInt := by rw [← q_g.1, ← q_y]; exact w_6
            have st := mj_hk_yes (p := p1.toInt) (q := p2.toInt) (n := p0.toInt) (V := fv) (g := g9) (i := i.toNatClampNeg) (i2 := x_12.toNatClampNeg) q_h (by omega)
            have n_14 := ki_nat x_11 rfl (om_34 LP1_h2 i_11)
            have q_p : 0 < (fn i.toNatClampNeg).toInt := ki_mulpos (z := p1.toInt * p0.toInt) (b := p2.toInt) (by rw [← q_y]; exact w_6) (Int.mul_nonneg (by omega) (by omega)) (by omega)
            exact ih1 x_12 x_11 o_9 o_10 (om_34 LP1_h0 i_12) (om_54 i_1 i_12) (om_34 LP1_h2 i_11) (by rw [st]; omega) (by rw [w_8.1, w_8.2]; exact mj_kh_yes (N := fn) (m := vs.toNatClampNeg) LP1_h4 (by rw [← q_y]; exact w_6) q_g.1 q_p (by omega) ds (by omega) (by omega) q_u (by omega) (by omega)) (fun j hj => by have ex9 : ∀ z : Nat → Int32, upd (upd z i.toNatClampNeg (z kp.toNatClampNeg)) kp.toNatClampNeg (z i.toNatClampNeg) j = z j := fun z => mj_ex_o (f := z) (by omega) (by omega); rw [w_8.1, w_8.2, ex9, ex9]; exact LP1_h5 j (by omega)) (om_mu hn1 (om_5 i_12) (om_6 i_1)) _ _ hP hD hS ls (lv_sub hl [0, 1, 2, 3, 4, 5] rfl)
        · have w_6 : y_5.toInt * p2.toInt ≤ p1.toInt * p0.toInt := w_6
          refine lv_if_eq (tgt := 42) hx hb dX3_keepHeavy_28 (by decide) (fun c_15 => ?_) (fun c_15 => ?_)
          · obtain ⟨x_16, ex_16⟩ : ∃ y : Int32, y = i + 1 := ⟨_, rfl⟩
            have i_16 : x_16.toInt = i.toInt + 1 := ki_add ex_16 rfl rfl (om_13 LP1_h0) (om_53 a1 LP1_h1)
            refine lv_iinc (v := x_16) (lv' := [(5, .int x_16), (4, .int kp), (0, .ref h0), (1, .int p0), (2, .int p1), (3, .int p2)]) hx hb dX3_keepHeavy_42 hl (k := 0) rfl (by rw [ex_16]; rfl) (by decide) rfl (fun ls hl => ?_)
            refine lv_goto (tgt := 6) hx hb dX3_keepHeavy_45 (by decide) ?_
            have n_17 := ki_nat x_16 rfl (om_34 LP1_h0 i_16)
            have q_h : g9 (fv i.toNatClampNeg) * p2.toInt ≤ p1.toInt * p0.toInt := by rw [← q_g.1, ← q_y]; exact w_6
            have st := mj_hk_no (p := p1.toInt) (q := p2.toInt) (n := p0.toInt) (V := fv) (g := g9) (i := i.toNatClampNeg) (i2 := x_16.toNatClampNeg) q_h (by omega)
            exact ih1 x_16 kp kv kn (om_34 LP1_h0 i_16) (om_54 i_1 i_16) (om_10 LP1_h2) (by rw [st]; omega) (mj_vs_congr LP1_h4 (fun v => (mj_hp_no q_h (by omega) v).symm)) (fun j hj => LP1_h5 j (by omega)) (om_mu hn1 (om_5 i_16) (om_6 i_1)) _ _ hP hD hS ls (lv_sub hl [0, 1, 2, 3, 4, 5] rfl)
          · exact absurd c_15 (by decide)
  have k_18 : (0 : Int32).toInt = 0 := rfl
  have k_19 : (0 : Int32).toInt = 0 := rfl
  exact LP1 ((vs.toInt - 0 : Int).toNat + 1) 0 0 fv fn om_35 (om_10 a0) om_35 rfl (mj_kh_0 rfl rfl) (fun j _ => ⟨rfl, rfl⟩) (Nat.lt_succ_self _) _ _ hP hD hS ls (lv_sub hl [0, 1, 2, 3, 4, 5] rfl)

set_option maxHeartbeats 4000000 in
set_option maxRecDepth 100000 in
theorem c_X4_isEnough_x (l : Launch) (dC : Nat → ClassId) (dI : Nat → Nat → Nat) (m_ : Nat) (q_row : Nat) (q_t : Nat) (t_ : Nat) (h0 : Nat) (k0 : Nat) (w_ : Nat) (z_ : Nat) (slots : Int32) (old : Int32) (p0 : Int32) (p1 : Int32) (sl0 : 1 ≤ slots.toInt) (sl1 : slots.toInt ≤ 6) (b0 : 1 ≤ p0.toInt) (b1 : p0.toInt ≤ 999) : Met l yX4_isEnough wsX4_isEnough ({ frames := 0, cells := 0, slots := 0, locals := 0 }) (va_Pc [.ref m_, .int p0, .int p1] (fun U => va_P (dC, dI) vwCl [kx_4 m_ q_row q_t t_ h0 k0 w_ z_ slots old] U.heap ∧ va_K (dC, dI) vwCl [] U)) (vp_Si (fun r : Int32 => (r = 1 ∧ p1.toInt ≤ p0.toInt * (slots.toInt + 1)) ∨ (r = 0 ∧ p0.toInt * (slots.toInt + 1) < p1.toInt))) 0 0 (fun _ => False) := by
  refine kx_stS (ws := wsX4_isEnough) (cc := cX4_isEnough) (maxL := 3) (ret := (some .boolean)) (by decide) rfl (Nat.le_of_ble_eq_true rfl) ?_
  intro p e s m below meth c ls hx hb hr hlocks hts hown hml hP hK hl
  have hown : s.vm.findClass RX4 = some m.cls := hown
  have hl : lv_has ls 3 [(0, .ref m_), (1, .int p0), (2, .int p1)] := hl
  have hf_49 := hts (.fieldLink RX4 49 "MajorityIndex" "slotsNow" "I") (List.mem_of_getElem? (i := 1) rfl)
  have hi_4 : ∀ w ∈ u_ws RX4 TX4 9, w ∈ wsX4_isEnough := fun w h => List.mem_cons_of_mem _ (List.mem_append_right _ h)
  refine lv_iload_n hx hb dX4_isEnough_0 rfl (lv_at hl 1 rfl) ?_
  refine lv_aload_n hx hb dX4_isEnough_1 rfl (lv_at hl 0 rfl) ?_
  refine va_get (D := (dC, dI)) (ci := 4) (v := .int slots) (C := RX4) (T := TX4) (N := 9) hx hb hts hi_4 hown hK hP 0 rfl rfl 7 (by decide) hf_49 (fun _ h9 => h9) rfl dX4_isEnough_2 ?_
  refine lv_iconst (v := 1) hx hb dX4_isEnough_5 (by decide) ?_
  refine lv_iadd hx hb dX4_isEnough_6 ?_
  refine lv_topi (fun y_1 ey_1 => ?_)
  have i_1 : y_1.toInt = slots.toInt + 1 := ki_add ey_1 rfl rfl (om_40 sl0) (om_203 sl1)
  refine lv_imul hx hb dX4_isEnough_7 ?_
  refine lv_topi (fun y_2 ey_2 => ?_)
  have h1 := ki_mulb (a := p0.toInt) (b := y_1.toInt) (A := 999) (B := 7) (by omega) (by omega) (by omega) (by omega)
  have m1 : y_2.toInt = p0.toInt * y_1.toInt := ki_mul ey_2 rfl rfl (by omega) (by omega)
  rw [i_1] at m1
  refine lv_iload_n hx hb dX4_isEnough_8 rfl (lv_at hl 2 rfl) ?_
  refine lv_icmp_lt (tgt := 16) hx hb dX4_isEnough_9 (by decide) (fun c_3 => ?_) (fun c_3 => ?_)
  · have i_3 : y_2.toInt < p1.toInt := kc_lt c_3
    refine lv_iconst (v := 0) hx hb dX4_isEnough_16 (by decide) ?_
    exact W.zret (v := 0) hx hb hr (by decide) (hlocks := hlocks) (fun t ht hW => ⟨0, rfl, Or.inr (⟨rfl, by omega⟩), ht⟩) (fun q hq => by cases hq) dX4_isEnough_17
  · have i_3 : p1.toInt ≤ y_2.toInt := kc_nlt c_3
    refine lv_iconst (v := 1) hx hb dX4_isEnough_12 (by decide) ?_
    refine lv_goto (tgt := 17) hx hb dX4_isEnough_13 (by decide) ?_
    exact W.zret (v := 1) hx hb hr (by decide) (hlocks := hlocks) (fun t ht hW => ⟨1, rfl, Or.inl ⟨rfl, by omega⟩, ht⟩) (fun q hq => by cases hq) dX4_isEnough_17

set_option maxHeartbeats 4000000 in
set_option maxRecDepth 100000 in
theorem c_X5_isEnough_x (l : Launch) (dC : Nat → ClassId) (dI : Nat → Nat → Nat) (h0 : Nat) (g_row : Nat) (g_many : Nat) (g_loss : Nat) (g_less : Nat) (g_voteValue : Nat) (g_voteNumber : Nat) (g_allValue : Nat) (g_allNumber : Nat) (g_nodeL : Nat) (g_nodeR : Nat) (g_part : Nat) (g_wasMany : Nat) (g_wasLoss : Nat) (g_wasValue : Nat) (g_wasNumber : Nat) (g_path : Nat) (g_heavyValue : Nat) (g_heavyTimes : Nat) (g_fewest : Nat) (g_which : Nat) (g_met : Nat) (m_n : Int32) (m_slots : Int32) (m_thrown : Int32) (m_allMany : Int32) (m_nodes : Int32) (m_partMany : Int32) (m_pathMany : Int32) (m_heavyMany : Int32) (m_mostMet : Int32) (p0 : Int32) (p1 : Int32) (sl0 : 1 ≤ m_slots.toInt) (sl1 : m_slots.toInt ≤ 6) (b0 : 1 ≤ p0.toInt) (b1 : p0.toInt ≤ 999) : Met l yX5_isEnough wsX5_isEnough ({ frames := 0, cells := 0, slots := 0, locals := 0 }) (va_Pc [.ref h0, .int p0, .int p1] (fun U => va_P (dC, dI) vwCl [kx_5 h0 g_row m_n m_slots m_thrown g_many g_loss g_less g_voteValue g_voteNumber g_allValue g_allNumber m_allMany g_nodeL g_nodeR m_nodes g_part m_partMany g_wasMany g_wasLoss g_wasValue g_wasNumber g_path m_pathMany g_heavyValue g_heavyTimes m_heavyMany g_fewest g_which g_met m_mostMet] U.heap ∧ va_K (dC, dI) vwCl [] U)) (vp_Si (fun r : Int32 => (r = 1 ∧ p1.toInt ≤ p0.toInt * (m_slots.toInt + 1)) ∨ (r = 0 ∧ p0.toInt * (m_slots.toInt + 1) < p1.toInt))) 0 0 (fun _ => False) := by
  refine kx_stS (ws := wsX5_isEnough) (cc := cX5_isEnough) (maxL := 3) (ret := (some .boolean)) (by decide) rfl (Nat.le_of_ble_eq_true rfl) ?_
  intro p e s m below meth c ls hx hb hr hlocks hts hown hml hP hK hl
  have hown : s.vm.findClass RX5 = some m.cls := hown
  have hl : lv_has ls 3 [(0, .ref h0), (1, .int p0), (2, .int p1)] := hl
  have hf_13 := hts (.fieldLink RX5 13 "MajorityIndexModel" "slots" "I") (List.mem_of_getElem? (i := 1) rfl)
  have hi_5 : ∀ w ∈ u_ws RX5 TX5 30, w ∈ wsX5_isEnough := fun w h => List.mem_cons_of_mem _ (List.mem_append_right _ h)
  refine lv_iload_n hx hb dX5_isEnough_0 rfl (lv_at hl 1 rfl) ?_
  refine lv_aload_n hx hb dX5_isEnough_1 rfl (lv_at hl 0 rfl) ?_
  refine va_get (D := (dC, dI)) (ci := 5) (v := .int m_slots) (C := RX5) (T := TX5) (N := 30) hx hb hts hi_5 hown hK hP 0 rfl rfl 2 (by decide) hf_13 (fun _ h9 => h9) rfl dX5_isEnough_2 ?_
  refine lv_iconst (v := 1) hx hb dX5_isEnough_5 (by decide) ?_
  refine lv_iadd hx hb dX5_isEnough_6 ?_
  refine lv_topi (fun y_1 ey_1 => ?_)
  have i_1 : y_1.toInt = m_slots.toInt + 1 := ki_add ey_1 rfl rfl (om_40 sl0) (om_203 sl1)
  refine lv_imul hx hb dX5_isEnough_7 ?_
  refine lv_topi (fun y_2 ey_2 => ?_)
  have h1 := ki_mulb (a := p0.toInt) (b := y_1.toInt) (A := 999) (B := 7) (by omega) (by omega) (by omega) (by omega)
  have m1 : y_2.toInt = p0.toInt * y_1.toInt := ki_mul ey_2 rfl rfl (by omega) (by omega)
  rw [i_1] at m1
  refine lv_iload_n hx hb dX5_isEnough_8 rfl (lv_at hl 2 rfl) ?_
  refine lv_icmp_lt (tgt := 16) hx hb dX5_isEnough_9 (by decide) (fun c_3 => ?_) (fun c_3 => ?_)
  · have i_3 : y_2.toInt < p1.toInt := kc_lt c_3
    refine lv_iconst (v := 0) hx hb dX5_isEnough_16 (by decide) ?_
    exact W.zret (v := 0) hx hb hr (by decide) (hlocks := hlocks) (fun t ht hW => ⟨0, rfl, Or.inr (⟨rfl, by omega⟩), ht⟩) (fun q hq => by cases hq) dX5_isEnough_17
  · have i_3 : p1.toInt ≤ y_2.toInt := kc_nlt c_3
    refine lv_iconst (v := 1) hx hb dX5_isEnough_12 (by decide) ?_
    refine lv_goto (tgt := 17) hx hb dX5_isEnough_13 (by decide) ?_
    exact W.zret (v := 1) hx hb hr (by decide) (hlocks := hlocks) (fun t ht hW => ⟨1, rfl, Or.inl ⟨rfl, by omega⟩, ht⟩) (fun q hq => by cases hq) dX5_isEnough_17



/-! sums over all values; what the votes promise -/
def mj_code (i : Nat) : Int32 := Int32.ofInt ((i : Int) - 32768)
def mj_su (d : Int32 → Int) : Nat → Int
  | 0 => 0
  | i + 1 => mj_su d i + d (mj_code i)
theorem mj_su_add (a b : Int32 → Int) : ∀ n : Nat, mj_su (fun v => a v + b v) n = mj_su a n + mj_su b n
  | 0 => rfl
  | n + 1 => by
    have ih := mj_su_add a b n
    simp only [mj_su]
    omega
theorem mj_su_nn {d : Int32 → Int} (h : ∀ v : Int32, 0 ≤ d v) : ∀ n : Nat, 0 ≤ mj_su d n
  | 0 => Int.le_refl 0
  | n + 1 => by
    have a := mj_su_nn h n
    have b := h (mj_code n)
    simp only [mj_su]
    omega
theorem mj_su_congr {a b : Int32 → Int} (h : ∀ v : Int32, a v = b v) (n : Nat) : mj_su a n = mj_su b n := by rw [show a = b from funext h]
theorem mj_su_z : ∀ n : Nat, mj_su mj_z n = 0
  | 0 => rfl
  | n + 1 => by
    have ih := mj_su_z n
    have e : mj_z (mj_code n) = 0 := rfl
    simp only [mj_su]
    omega
theorem mj_code_int {i : Nat} (h : i < 65536) : (mj_code i).toInt = (i : Int) - 32768 := Int32.toInt_ofInt_of_le (by omega) (by omega)
theorem mj_code_inj {i j : Nat} (hi : i < 65536) (hj : j < 65536) (e : mj_code i = mj_code j) : i = j := by
  have h := congrArg Int32.toInt e
  rw [mj_code_int hi, mj_code_int hj] at h
  omega
theorem mj_code_of {v : Int32} (h1 : -32768 ≤ v.toInt) (h2 : v.toInt ≤ 32767) : ∃ i : Nat, i < 65536 ∧ mj_code i = v := by
  refine ⟨(v.toInt + 32768).toNat, by omega, Int32.toInt_inj.mp ?_⟩
  rw [mj_code_int (by omega)]
  omega
theorem mj_su_pt {v : Int32} {x : Int} {i : Nat} (hi : i < 65536) (e : mj_code i = v) : ∀ n : Nat, n ≤ 65536 → mj_su (fun w => if w = v then x else 0) n = if i < n then x else 0
  | 0, _ => by
    rw [if_neg (Nat.not_lt_zero i)]
    rfl
  | n + 1, h => by
    have ih := mj_su_pt (x := x) hi e n (by omega)
    simp only [mj_su]
    rw [ih]
    by_cases c : n = i
    · rw [c, if_neg (Nat.lt_irrefl i), if_pos e, if_pos (Nat.lt_succ_self i), Int.zero_add]
    · have c2 : ¬ mj_code n = v := fun q => c (mj_code_inj (by omega) hi (q.trans e.symm))
      rw [if_neg c2, Int.add_zero]
      by_cases c3 : i < n
      · rw [if_pos c3, if_pos (show i < n + 1 by omega)]
      · rw [if_neg c3, if_neg (show ¬ i < n + 1 by omega)]
theorem mj_su_many {c : Int} (N : Nat) (hN : N = 65536) : ∀ (k : Nat) (d : Int32 → Int) (V : Nat → Int32), (∀ v : Int32, 0 ≤ d v) → (∀ j : Nat, j < k → d (V j) = c ∧ -32768 ≤ (V j).toInt ∧ (V j).toInt ≤ 32767) → (∀ a b : Nat, a < k → b < k → V a = V b → a = b) → (k : Int) * c ≤ mj_su d N
  | 0, d, V, h, _, _ => by
    rw [show ((0 : Nat) : Int) * c = 0 from Int.zero_mul c]
    exact mj_su_nn h N
  | k + 1, d, V, h, hv, hd => by
    obtain ⟨v1, v2, v3⟩ := hv k (by omega)
    obtain ⟨i, hi, e⟩ := mj_code_of v2 v3
    have ih := mj_su_many (c := c) N hN k (fun w => if w = V k then 0 else d w) V (fun w => by
      show 0 ≤ (if w = V k then 0 else d w)
      split
      · exact Int.le_refl 0
      · exact h w) (fun j hj => by
      have q := hv j (by omega)
      have ne : ¬ V j = V k := fun z => by
        have := hd j k (by omega) (by omega) z
        omega
      show (if V j = V k then 0 else d (V j)) = c ∧ _
      rw [if_neg ne]
      exact q) (fun a b ha hb z => hd a b (by omega) (by omega) z)
    have sp : mj_su d N = mj_su (fun w => if w = V k then 0 else d w) N + mj_su (fun w => if w = V k then c else 0) N := by
      rw [← mj_su_add]
      refine mj_su_congr (fun w => ?_) N
      by_cases z : w = V k
      · rw [if_pos z, if_pos z, z, v1, Int.zero_add]
      · rw [if_neg z, if_neg z, Int.add_zero]
    have pt := mj_su_pt (x := c) hi e N (by omega)
    rw [if_pos (show i < N by omega)] at pt
    rw [sp, pt, show ((k + 1 : Nat) : Int) = (k : Int) + 1 by omega, Int.add_mul, Int.one_mul]
    exact Int.add_le_add_right ih c
theorem mj_cnt_add (f : Nat → Int32) (v : Int32) (l a : Nat) : ∀ b : Nat, cnt f v l (a + b) = cnt f v l a + cnt f v (l + a) b
  | 0 => rfl
  | b + 1 => by
    have ih := mj_cnt_add f v l a b
    rw [← Nat.add_assoc a b 1]
    simp only [cnt]
    rw [ih, Nat.add_assoc l a b, Nat.add_assoc]
def mj_mg (K : Nat) (C : Int32 → Nat) (n : Nat) (μ : Int32 → Int) (L : Int) : Prop := (∀ v : Int32, 0 ≤ μ v) ∧ (∀ v : Int32, ¬ μ v = 0 → -32768 ≤ v.toInt ∧ v.toInt ≤ 32767) ∧ 0 ≤ L ∧ (∀ v : Int32, (C v : Int) ≤ μ v + L) ∧ ∀ N : Nat, N = 65536 → ((K : Int) + 1) * L + mj_su μ N ≤ (n : Int)
theorem mj_mg_le {K : Nat} {C : Int32 → Nat} {n : Nat} {μ : Int32 → Int} {L : Int} (h : mj_mg K C n μ L) : 0 ≤ L ∧ L ≤ (n : Int) ∧ ((K : Int) + 1) * L ≤ (n : Int) := by
  obtain ⟨h1, -, h3, -, h5⟩ := h
  obtain ⟨N, hN⟩ : ∃ N : Nat, N = 65536 := ⟨_, rfl⟩
  have s := h5 N hN
  have q := mj_su_nn h1 N
  have m : 1 * L ≤ ((K : Int) + 1) * L := Int.mul_le_mul_of_nonneg_right (by omega) h3
  rw [Int.one_mul] at m
  omega
theorem mj_mg_z (K : Nat) {C : Int32 → Nat} {n : Nat} (h : n = 0) (hC : ∀ v : Int32, C v = 0) : mj_mg K C n mj_z 0 := by
  subst h
  refine ⟨fun v => Int.le_refl 0, fun v h => absurd rfl h, Int.le_refl 0, fun v => ?_, fun N _ => ?_⟩
  · rw [hC v]
    exact Int.le_refl 0
  · rw [mj_su_z, Int.mul_zero]
    exact Int.le_refl 0
theorem mj_mg_leaf {K : Nat} {f : Nat → Int32} {l : Nat} (h1 : -32768 ≤ (f l).toInt) (h2 : (f l).toInt ≤ 32767) : mj_mg K (fun v => cnt f v l 1) 1 (mj_one (f l)) 0 := by
  refine ⟨fun v => ?_, fun v h => ?_, Int.le_refl 0, fun v => ?_, fun N hN => ?_⟩
  · unfold mj_one
    split <;> omega
  · by_cases e : v = f l
    · rw [e]
      exact ⟨h1, h2⟩
    · exact absurd (show mj_one (f l) v = 0 from if_neg e) h
  · show (cnt f v l 1 : Int) ≤ mj_one (f l) v + 0
    by_cases e : f l = v
    · have c1 : cnt f v l 1 = cnt f v l 0 + 1 := cnt_hit1 (k := 0) e rfl
      have c0 : cnt f v l 0 = 0 := rfl
      have q : mj_one (f l) v = 1 := if_pos e.symm
      omega
    · have c1 : cnt f v l 1 = cnt f v l 0 := cnt_miss1 (k := 0) e rfl
      have c0 : cnt f v l 0 = 0 := rfl
      have q : mj_one (f l) v = 0 := if_neg (fun z => e z.symm)
      omega
  · obtain ⟨i, hi, e⟩ := mj_code_of h1 h2
    have pt := mj_su_pt (x := 1) hi e N (by omega)
    rw [if_pos (show i < N by omega)] at pt
    have q : mj_su (mj_one (f l)) N = 1 := pt
    rw [q, Int.mul_zero]
    omega
theorem mj_mg_tog {K : Nat} {C Ca Cb : Int32 → Nat} {na nb n : Nat} {μa μb μ : Int32 → Int} {La Lb : Int} {c : Int32} (ha : mj_mg K Ca na μa La) (hb : mj_mg K Cb nb μb Lb) (t : mj_tog K μa μb μ c) (hn : n = na + nb) (hC : ∀ v : Int32, C v = Ca v + Cb v) : mj_mg K C n μ (La + Lb + c.toInt) := by
  subst hn
  obtain ⟨V, N, m, hv, hs, hc, he⟩ := t
  obtain ⟨a1, a2, a3, a4, a5⟩ := ha
  obtain ⟨b1, b2, b3, b4, b5⟩ := hb
  have c0 : 0 ≤ c.toInt := by
    rcases hc with ⟨-, h⟩ | ⟨h1, h2⟩
    · omega
    · have w := hv.1 K h1
      rw [Nat.zero_add] at w
      rw [h2]
      omega
  have two : ∀ v : Int32, (μ v = 0 ∧ μa v + μb v ≤ c.toInt) ∨ (c.toInt < μa v + μb v ∧ μ v = μa v + μb v - c.toInt) := fun v => by
    have e := he v
    by_cases q : c.toInt < μa v + μb v
    · rw [if_pos q] at e
      exact Or.inr ⟨q, e⟩
    · rw [if_neg q] at e
      exact Or.inl ⟨e, by omega⟩
  refine ⟨fun v => ?_, fun v h => ?_, by omega, fun v => ?_, fun M hM => ?_⟩
  · have w := two v
    omega
  · have w := two v
    have x := a1 v
    have y := b1 v
    have z : ¬ μa v = 0 ∨ ¬ μb v = 0 := by omega
    rcases z with z | z
    · exact a2 v z
    · exact b2 v z
  · have w := two v
    have x := a4 v
    have y := b4 v
    rw [hC v]
    omega
  · have x := a5 M hM
    have y := b5 M hM
    have dn : ∀ v : Int32, 0 ≤ μa v + μb v - μ v := fun v => by
      have w := two v
      have x := a1 v
      have y := b1 v
      omega
    have sd : mj_su μ M + mj_su (fun v => μa v + μb v - μ v) M = mj_su μa M + mj_su μb M := by
      rw [← mj_su_add, ← mj_su_add]
      exact mj_su_congr (fun v => by
        show μ v + (μa v + μb v - μ v) = μa v + μb v
        omega) M
    have many : ((K : Int) + 1) * c.toInt ≤ mj_su (fun v => μa v + μb v - μ v) M := by
      rcases hc with ⟨-, h⟩ | ⟨h1, h2⟩
      · rw [h, Int.mul_zero]
        exact mj_su_nn dn M
      · have mm := mj_su_many (c := c.toInt) M hM (K + 1) (fun v => μa v + μb v - μ v) V dn (fun j hj => by
          have w := hv.1 j (by omega)
          rw [Nat.zero_add] at w
          have wK : c.toInt ≤ (N j).toInt := by
            rw [h2]
            rcases Nat.lt_or_ge j K with q | q
            · have s := hs j K q h1
              rw [Nat.zero_add, Nat.zero_add] at s
              unfold mj_lea at s
              omega
            · rw [show j = K by omega]
              exact Int.le_refl _
          have w1 : (N j).toInt = μa (V j) + μb (V j) := w.1
          have w2 : 0 < μa (V j) + μb (V j) := w.2
          have u := two (V j)
          have x1 := a1 (V j)
          have y1 := b1 (V j)
          have z : ¬ μa (V j) = 0 ∨ ¬ μb (V j) = 0 := by omega
          refine ⟨(show μa (V j) + μb (V j) - μ (V j) = c.toInt by omega), ?_⟩
          rcases z with z | z
          · exact a2 _ z
          · exact b2 _ z) (fun a b ha hb z => hv.2.1 a b (by omega) (by omega) (by rw [Nat.zero_add, Nat.zero_add]; exact z))
        rw [show ((K + 1 : Nat) : Int) = (K : Int) + 1 by omega] at mm
        exact mm
    rw [Int.mul_add, Int.mul_add]
    omega
theorem mj_mg_add3 {L La Lb c : Int32} {x : Int} (e : L = La + Lb + c) (h1 : 0 ≤ La.toInt) (h2 : 0 ≤ Lb.toInt) (h3 : 0 ≤ c.toInt) (hx : La.toInt + Lb.toInt + c.toInt ≤ x) (h : x ≤ 1000) : L.toInt = La.toInt + Lb.toInt + c.toInt := by
  have e1 : (La + Lb).toInt = La.toInt + Lb.toInt := ki_add rfl rfl rfl (by omega) (by omega)
  exact ki_add e e1 rfl (by omega) (by omega)
theorem mj_T_mg {K : Nat} {f nl nr fm fl fe vv vn : Nat → Int32} (hs : shorts f) : ∀ (d a l r : Nat) (μ : Int32 → Int) (L c : Int32), mj_T K f nl nr fm fl fe vv vn d a l r μ L c → r ≤ 160 → mj_mg K (fun v => cnt f v l (r - l)) (r - l) μ L.toInt
  | 0, a, l, r, μ, L, c, h, hr => by
    obtain ⟨h1, h2, h3, h4, h5⟩ := h
    have s := hs l (by omega)
    rw [h2, h3, show r - l = 1 by omega]
    exact mj_mg_leaf s.1 s.2
  | d + 1, a, l, r, μ, L, c, h, hr => by
    rcases h with ⟨h1, h2, h3, h4, h5⟩ | ⟨h1, h2, μa, La, ca, μb, Lb, cb, ta, tb, hg, hL⟩
    · have s := hs l (by omega)
      rw [h2, h3, show r - l = 1 by omega]
      exact mj_mg_leaf s.1 s.2
    · have ga := mj_T_mg hs d _ _ _ _ _ _ ta (by omega)
      have gb := mj_T_mg hs d _ _ _ _ _ _ tb hr
      have g := mj_mg_tog (C := fun v => cnt f v l (r - l)) (n := r - l) ga gb hg (by omega) (fun v => by
        have e := mj_cnt_add f v l ((l + r) / 2 - l) (r - (l + r) / 2)
        rw [show (l + r) / 2 - l + (r - (l + r) / 2) = r - l by omega, show l + ((l + r) / 2 - l) = (l + r) / 2 by omega] at e
        exact e)
      have b1 := mj_mg_le ga
      have b2 := mj_mg_le gb
      have b3 := mj_mg_le g
      have c0 := mj_tog_nn hg
      rw [mj_mg_add3 hL b1.1 b2.1 c0 b3.2.1 (by omega)]
      exact g
/-! the parts reach the range's end -/
theorem mj_T_lo {K : Nat} {f nl nr fm fl fe vv vn : Nat → Int32} {d a l r : Nat} {μ : Int32 → Int} {L c : Int32} (h : mj_T K f nl nr fm fl fe vv vn d a l r μ L c) (k : Nat) (h1 : a ≤ k) (h2 : k < a + 2 * (r - l) - 1) : (l : Int) ≤ (nl k).toInt ∧ (nl k).toInt < (nr k).toInt ∧ (nr k).toInt ≤ (r : Int) := by
  obtain ⟨e, l2, r2, μ2, L2, c2, x1, x2, x3, x4⟩ := mj_T_all d a l r μ L c h k h1 h2
  have b := mj_T_nd x4
  have lt := mj_T_lt x4
  have b1 := b.1
  have b2 := b.2.1
  omega
theorem mj_T_from {K : Nat} {f nl nr fm fl fe vv vn : Nat → Int32} : ∀ (d a l r : Nat) (μ : Int32 → Int) (L c : Int32), mj_T K f nl nr fm fl fe vv vn d a l r μ L c → ∀ x y : Nat, a ≤ x → x ≤ y → y < a + 2 * (r - l) - 1 → (nl x).toInt ≤ (nl y).toInt
  | 0, a, l, r, μ, L, c, h, x, y, h1, h2, h3 => by
    have e := h.1
    rw [show x = y by omega]
    exact Int.le_refl _
  | d + 1, a, l, r, μ, L, c, h, x, y, h1, h2, h3 => by
    have top := mj_T_lo h y (by omega) h3
    rcases h with ⟨e, -⟩ | ⟨e, b, μa, La, ca, μb, Lb, cb, ta, tb, -, -⟩
    · rw [show x = y by omega]
      exact Int.le_refl _
    · have b1 := b.1
      by_cases hx : x = a
      · rw [hx]
        omega
      · rcases Nat.lt_or_ge y (a + 2 * ((l + r) / 2 - l)) with q | q
        · exact mj_T_from d _ _ _ _ _ _ ta x y (by omega) h2 (by omega)
        · rcases Nat.lt_or_ge x (a + 2 * ((l + r) / 2 - l)) with q2 | q2
          · have u := mj_T_lo ta x (by omega) (by omega)
            have w := mj_T_lo tb y (by omega) (by omega)
            omega
          · exact mj_T_from d _ _ _ _ _ _ tb x y (by omega) h2 (by omega)
theorem mj_pb_mono {nl nr : Nat → Int32} {l r : Int} {nd : Nat} (hok : ∀ k : Nat, k < nd → (nl k).toInt < (nr k).toInt) (a : Nat) : ∀ b : Nat, a ≤ b → b ≤ nd → mj_pb nl nr l r a ≤ mj_pb nl nr l r b
  | 0, h, _ => by rw [show a = 0 by omega]; exact Int.le_refl _
  | b + 1, h, hb => by
    rcases Nat.lt_or_ge b a with q | q
    · rw [show a = b + 1 by omega]
      exact Int.le_refl _
    · have ih := mj_pb_mono (l := l) (r := r) hok a b q (by omega)
      have o := hok b (by omega)
      simp only [mj_pb]
      split
      · rename_i c
        omega
      · exact ih
theorem mj_pb_le {nl nr : Nat → Int32} {l r : Int} (h : l ≤ r) : ∀ k : Nat, mj_pb nl nr l r k ≤ r
  | 0 => h
  | k + 1 => by
    have ih := mj_pb_le (nl := nl) (nr := nr) h k
    simp only [mj_pb]
    split
    · rename_i c
      exact c.2
    · exact ih
theorem mj_pb_eq {nl nr : Nat → Int32} {l r : Int} (a : Nat) : ∀ b : Nat, a ≤ b → mj_pq nl nr l r a = mj_pq nl nr l r b → mj_pb nl nr l r a = mj_pb nl nr l r b
  | 0, h, _ => by rw [show a = 0 by omega]
  | b + 1, h, e => by
    rcases Nat.lt_or_ge b a with q | q
    · rw [show a = b + 1 by omega]
    · have m := mj_pq_mono nl nr l r a b q
      simp only [mj_pq] at e
      by_cases c : (nl b).toInt = mj_pb nl nr l r b ∧ (nr b).toInt ≤ r
      · rw [if_pos c] at e
        omega
      · rw [if_neg c] at e
        simp only [mj_pb]
        rw [if_neg c]
        exact mj_pb_eq a b q (by omega)
theorem mj_pb_end {K : Nat} {f nl nr fm fl fe vv vn : Nat → Int32} {d n nd : Nat} {μ : Int32 → Int} {L c : Int32} {l r : Int} (h : mj_T K f nl nr fm fl fe vv vn d 0 0 n μ L c) (hnd : nd = 2 * n - 1) (hl : 0 ≤ l) (hlr : l < r) (hr : r ≤ (n : Int)) : mj_pb nl nr l r nd = r := by
  have ok : ∀ k : Nat, k < nd → (nl k).toInt < (nr k).toInt := fun k hk => (mj_T_lo h k (Nat.zero_le k) (by omega)).2.1
  have le := mj_pb_le (nl := nl) (nr := nr) (Int.le_of_lt hlr) nd
  have ge := mj_pb_mono (l := l) (r := r) ok 0 nd (Nat.zero_le nd) (Nat.le_refl nd)
  have g0 : mj_pb nl nr l r 0 = l := rfl
  by_cases eB : mj_pb nl nr l r nd = r
  · exact eB
  · exfalso
    obtain ⟨B, hB⟩ : ∃ B : Int, B = mj_pb nl nr l r nd := ⟨_, rfl⟩
    obtain ⟨kb, k1, k2, k3, k4⟩ := mj_T_leafAt B.toNat d 0 0 n μ L c h (Nat.zero_le _) (by omega)
    have kn : kb < nd := by omega
    have up := mj_pb_mono (l := l) (r := r) ok kb nd (by omega) (Nat.le_refl nd)
    by_cases q : mj_pb nl nr l r kb = B
    · have up2 := mj_pb_mono (l := l) (r := r) ok (kb + 1) nd (by omega) (Nat.le_refl nd)
      simp only [mj_pb] at up2
      rw [if_pos ⟨by omega, by omega⟩] at up2
      omega
    · have stay : ∀ y : Nat, kb ≤ y → y ≤ nd → mj_pb nl nr l r y = mj_pb nl nr l r kb := fun y => by
        induction y with
        | zero =>
          intro y1 _
          rw [show kb = 0 by omega]
        | succ y ih =>
          intro y1 y2
          rcases Nat.lt_or_ge y kb with z | z
          · rw [show kb = y + 1 by omega]
          · have e := ih z (by omega)
            have fr := mj_T_from d 0 0 n μ L c h kb y (Nat.zero_le _) z (by omega)
            simp only [mj_pb]
            rw [if_neg (fun w => by have := w.1; omega)]
            exact e
      have := stay nd (by omega) (Nat.le_refl nd)
      omega
theorem mj_H_mg {K : Nat} {f ff ft fs fo fe uv un : Nat → Int32} {l r : Int} {nd : Nat} (hs : shorts f) (ok : ∀ k : Nat, k < nd → mj_ok K f ff ft fs fo fe uv un k) (ht : ∀ k : Nat, k < nd → 0 ≤ (ff k).toInt ∧ (ff k).toInt < (ft k).toInt ∧ (ft k).toInt ≤ 160) (hl : 0 ≤ l) : ∀ (j : Nat) (μ : Int32 → Int) (L : Int32), mj_H K ff ft fs fo uv un l r j μ L → ∀ k : Nat, k ≤ nd → mj_pq ff ft l r k = j → l ≤ mj_pb ff ft l r k ∧ mj_mg K (fun v => cnt f v l.toNat (mj_pb ff ft l r k - l).toNat) (mj_pb ff ft l r k - l).toNat μ L.toInt
  | 0, μ, L, h, k, hk, e => by
    have h1 : μ = mj_z ∧ L = 0 := h
    have s := mj_pb_stay ff ft l r k e
    rw [h1.1, h1.2, s]
    exact ⟨Int.le_refl l, mj_mg_z K (by omega) (fun v => by rw [show (l - l).toNat = 0 by omega]; rfl)⟩
  | j + 1, μ, L, h, k, hk, e => by
    obtain ⟨q, μ0, L0, c, μk, h1, h2, h3, h4, h5, h6, h7, h8, h9⟩ := h
    have qk : q < k := by
      rcases Nat.lt_or_ge q k with z | z
      · exact z
      · have := mj_pq_mono ff ft l r k q z
        omega
    have ih := mj_H_mg hs ok ht hl j μ0 L0 h2 q (by omega) h4
    obtain ⟨t1, t2, t3⟩ := ht q (by omega)
    have n1 := ki_nat (ff q) rfl t1
    have n2 := ki_nat (ft q) rfl (by omega)
    have p2 := mj_pbq_yes h3 rfl
    have pk := mj_pb_eq (nl := ff) (nr := ft) (l := l) (r := r) (q + 1) k (by omega) (by omega)
    have h31 := h3.1
    obtain ⟨d, μ2, L2, c2, t⟩ := ok q (by omega)
    have b := mj_T_nd t
    have em : μ2 = μk := mj_vs_map b.2.2.2.2.2.2.2.1 h5
    subst em
    have gb := mj_T_mg hs d _ _ _ _ _ _ t (by omega)
    have g := mj_mg_tog (C := fun v => cnt f v l.toNat (mj_pb ff ft l r k - l).toNat) (n := (mj_pb ff ft l r k - l).toNat) ih.2 gb h8 (by omega) (fun v => by
      have e := mj_cnt_add f v l.toNat (mj_pb ff ft l r q - l).toNat ((ft q).toNatClampNeg - (ff q).toNatClampNeg)
      rw [show (mj_pb ff ft l r q - l).toNat + ((ft q).toNatClampNeg - (ff q).toNatClampNeg) = (mj_pb ff ft l r k - l).toNat by omega, show l.toNat + (mj_pb ff ft l r q - l).toNat = (ff q).toNatClampNeg by omega] at e
      exact e)
    have b1 := mj_mg_le ih.2
    have b2 := mj_mg_le gb
    have b3 := mj_mg_le g
    have c0 := mj_tog_nn h8
    have bl : fo q = L2 := b.2.2.2.2.2.1
    rw [bl] at h9
    refine ⟨by omega, ?_⟩
    rw [mj_mg_add3 h9 b1.1 b2.1 c0 b3.2.1 (by omega)]
    exact g
/-- what is heavy is among the votes -/
theorem mj_mg_heavy {K : Nat} {C : Int32 → Nat} {n : Nat} {μ : Int32 → Int} {L p q : Int} {v : Int32} (h : mj_mg K C n μ L) (hp : 0 ≤ p) (hq : 0 ≤ q) (he : q ≤ p * ((K : Int) + 1)) (hv : p * (n : Int) < (C v : Int) * q) : ¬ μ v = 0 := by
  intro z
  have b := mj_mg_le h
  have c := h.2.2.2.1 v
  have x1 : (C v : Int) * q ≤ L * q := Int.mul_le_mul_of_nonneg_right (by omega) hq
  have x2 : L * q ≤ L * (p * ((K : Int) + 1)) := Int.mul_le_mul_of_nonneg_left he b.1
  have x3 : L * (p * ((K : Int) + 1)) = p * (((K : Int) + 1) * L) := by rw [Int.mul_comm L, Int.mul_assoc]
  have x4 : p * (((K : Int) + 1) * L) ≤ p * (n : Int) := Int.mul_le_mul_of_nonneg_left b.2.2 hp
  rw [x3] at x2
  omega
theorem mj_GA_mg {K : Nat} {f ff ft fs fo fe uv un fv fn : Nat → Int32} {n nd l r : Int} {vs lo : Int32} (hs : shorts f) (hC : mj_C K f ff ft fs fo fe uv un nd n) (hn : n ≤ 160) (hl : 0 ≤ l) (hlr : l < r) (hr : r ≤ n) (g : mj_GA K ff ft fs fo uv un l r (mj_pq ff ft l r nd.toNat) vs lo fv fn) : ∃ μ : Int32 → Int, mj_vs fv fn 0 vs.toNatClampNeg μ ∧ mj_mg K (fun v => cnt f v l.toNat (r - l).toNat) (r - l).toNat μ lo.toInt ∧ ∀ v : Int32, μ v ≤ 51200 := by
  obtain ⟨c1, c2, c3, c4, c5, c6, c7⟩ := hC
  have n0 : 0 < n := by omega
  have cn : nd = 2 * n - 1 := by omega
  obtain ⟨d, μ0, L0, c0, t0⟩ := c7 0 (by omega)
  have r0 := c6 n0
  have z0 : (ff 0).toNatClampNeg = 0 := by
    have := ki_nat (ff 0) rfl (by omega)
    omega
  have z1 : (ft 0).toNatClampNeg = n.toNat := by
    have := ki_nat (ft 0) rfl (by omega)
    omega
  rw [z0, z1] at t0
  have pe := mj_pb_end (nd := nd.toNat) (l := l) (r := r) t0 (by omega) hl hlr (by omega)
  obtain ⟨μ, L, h1, h2, -, -, -, h7, h8⟩ := g
  have pl := mj_pq_le ff ft l r nd.toNat
  have mg := mj_H_mg (nd := nd.toNat) hs (fun k hk => c7 k (by omega)) (fun k hk => by
    have o := c4 k (by omega)
    unfold okAt at o
    omega) hl _ μ L h1 nd.toNat (Nat.le_refl _) rfl
  rw [pe] at mg
  exact ⟨μ, h2, by rw [h7]; exact mg.2, fun v => by
    have := (h8 v).2
    omega⟩


/-! put in at its place; the heavy ones in order -/
def mj_ins (V : Nat → Int32) (a : Nat) (v : Int32) : Nat → Int32 := fun j => if j < a then V j else if j = a then v else V (j - 1)
theorem mj_ins_lt {V : Nat → Int32} {a j : Nat} {v : Int32} (h : j < a) : mj_ins V a v j = V j := if_pos h
theorem mj_ins_at {V : Nat → Int32} {a : Nat} {v : Int32} : mj_ins V a v a = v := by
  unfold mj_ins
  rw [if_neg (Nat.lt_irrefl a), if_pos rfl]
theorem mj_ins_gt {V : Nat → Int32} {a j : Nat} {v : Int32} (h : a < j) : mj_ins V a v j = V (j - 1) := by
  unfold mj_ins
  rw [if_neg (show ¬ j < a by omega), if_neg (show ¬ j = a by omega)]
theorem mj_vs_ins {V N : Nat → Int32} {m a : Nat} {μ : Int32 → Int} {v n : Int32} (h : mj_vs V N 0 m μ) (hv : ∀ k : Nat, k < m → ¬ V k = v) (hn : 0 < n.toInt) (ha : a ≤ m) : mj_vs (mj_ins V a v) (mj_ins N a n) 0 (m + 1) (fun w => μ w + (if w = v then n.toInt else 0)) := by
  have mu0 : μ v = 0 := by
    by_cases c : μ v = 0
    · exact c
    · obtain ⟨j, j1, j2⟩ := h.2.2 v c
      rw [Nat.zero_add] at j2
      exact absurd j2 (hv j j1)
  have inj : ∀ x y : Nat, x < m → y < m → V x = V y → x = y := fun x y hx hy z => h.2.1 x y hx hy (by rw [Nat.zero_add, Nat.zero_add]; exact z)
  have own : ∀ k : Nat, k < m → (N k).toInt = μ (V k) + (if V k = v then n.toInt else 0) ∧ 0 < μ (V k) + (if V k = v then n.toInt else 0) := fun k hk => by
    rw [if_neg (hv k hk), Int.add_zero]
    have z := h.1 k hk
    rw [Nat.zero_add] at z
    exact z
  refine ⟨fun j hj => ?_, fun i j hi hj e => ?_, fun w hw => ?_⟩
  · rw [Nat.zero_add]
    rcases Nat.lt_trichotomy j a with q | q | q
    · rw [mj_ins_lt q, mj_ins_lt q]
      exact own j (by omega)
    · rw [q, mj_ins_at, mj_ins_at]
      show n.toInt = μ v + (if v = v then n.toInt else 0) ∧ 0 < μ v + (if v = v then n.toInt else 0)
      rw [if_pos rfl, mu0, Int.zero_add]
      exact ⟨rfl, hn⟩
    · rw [mj_ins_gt q, mj_ins_gt q]
      exact own (j - 1) (by omega)
  · rw [Nat.zero_add, Nat.zero_add] at e
    rcases Nat.lt_trichotomy i a with q | q | q
    · rw [mj_ins_lt q] at e
      rcases Nat.lt_trichotomy j a with u | u | u
      · rw [mj_ins_lt u] at e
        exact inj i j (by omega) (by omega) e
      · rw [u, mj_ins_at] at e
        exact absurd e (hv i (by omega))
      · rw [mj_ins_gt u] at e
        have z := inj i (j - 1) (by omega) (by omega) e
        omega
    · rw [q, mj_ins_at] at e
      rcases Nat.lt_trichotomy j a with u | u | u
      · rw [mj_ins_lt u] at e
        exact absurd e.symm (hv j (by omega))
      · omega
      · rw [mj_ins_gt u] at e
        exact absurd e.symm (hv (j - 1) (by omega))
    · rw [mj_ins_gt q] at e
      rcases Nat.lt_trichotomy j a with u | u | u
      · rw [mj_ins_lt u] at e
        have z := inj (i - 1) j (by omega) (by omega) e
        omega
      · rw [u, mj_ins_at] at e
        exact absurd e (hv (i - 1) (by omega))
      · rw [mj_ins_gt u] at e
        have z := inj (i - 1) (j - 1) (by omega) (by omega) e
        omega
  · by_cases c : w = v
    · exact ⟨a, by omega, by rw [Nat.zero_add, mj_ins_at, c]⟩
    · have hw2 : ¬ μ w = 0 := fun z => hw (show μ w + (if w = v then n.toInt else 0) = 0 by rw [z, if_neg c, Int.add_zero])
      obtain ⟨j, j1, j2⟩ := h.2.2 w hw2
      rw [Nat.zero_add] at j2
      rcases Nat.lt_or_ge j a with q | q
      · exact ⟨j, by omega, by rw [Nat.zero_add, mj_ins_lt q]; exact j2⟩
      · exact ⟨j + 1, by omega, by rw [Nat.zero_add, mj_ins_gt (show a < j + 1 by omega), Nat.add_sub_cancel]; exact j2⟩
theorem mj_srt_ins {V N : Nat → Int32} {m a : Nat} {v n : Int32} (h : mj_srt V N 0 m) (ha : a ≤ m) (h1 : ∀ j : Nat, j < a → n.toInt < (N j).toInt ∨ ((N j).toInt = n.toInt ∧ (V j).toInt ≤ v.toInt)) (h2 : ∀ j : Nat, a ≤ j → j < m → (N j).toInt < n.toInt ∨ (n.toInt = (N j).toInt ∧ v.toInt ≤ (V j).toInt)) : mj_srt (mj_ins V a v) (mj_ins N a n) 0 (m + 1) := by
  have old : ∀ x y : Nat, x < y → y < m → (N y).toInt < (N x).toInt ∨ ((N x).toInt = (N y).toInt ∧ (V x).toInt ≤ (V y).toInt) := fun x y hx hy => by
    have z := h x y hx hy
    rw [Nat.zero_add, Nat.zero_add] at z
    exact z
  intro i j hij hj
  rw [Nat.zero_add, Nat.zero_add]
  unfold mj_lea
  rcases Nat.lt_trichotomy j a with q | q | q
  · rw [mj_ins_lt q, mj_ins_lt q, mj_ins_lt (show i < a by omega), mj_ins_lt (show i < a by omega)]
    exact old i j hij (by omega)
  · rw [q, mj_ins_at, mj_ins_at, mj_ins_lt (show i < a by omega), mj_ins_lt (show i < a by omega)]
    exact h1 i (by omega)
  · rw [mj_ins_gt q, mj_ins_gt q]
    rcases Nat.lt_trichotomy i a with u | u | u
    · rw [mj_ins_lt u, mj_ins_lt u]
      exact old i (j - 1) (by omega) (by omega)
    · rw [u, mj_ins_at, mj_ins_at]
      exact h2 (j - 1) (by omega) (by omega)
    · rw [mj_ins_gt u, mj_ins_gt u]
      exact old (i - 1) (j - 1) (by omega) (by omega)
/-- moved up by one from a on -/
def mj_sh (z w : Nat → Int32) (a m : Nat) : Prop := (∀ j : Nat, j < a → w j = z j) ∧ ∀ j : Nat, a < j → j ≤ m → w j = z (j - 1)
theorem mj_sh_0 (z : Nat → Int32) {a m : Nat} (h : m ≤ a) : mj_sh z z a m := ⟨fun j _ => rfl, fun j h1 h2 => by omega⟩
theorem mj_sh_step {z w : Nat → Int32} {a a2 m : Nat} {x : Int32} (h : mj_sh z w a m) (ea : a = a2 + 1) (ex : x = w a2) : mj_sh z (upd w a x) a2 m := by
  subst ea
  refine ⟨fun j hj => ?_, fun j h1 h2 => ?_⟩
  · rw [upd_ne (show ¬ j = a2 + 1 by omega)]
    exact h.1 j (by omega)
  · by_cases e : j = a2 + 1
    · rw [e, upd_at, ex, Nat.add_sub_cancel]
      exact h.1 a2 (by omega)
    · rw [upd_ne e]
      exact h.2 j (by omega) h2
theorem mj_sh_ins {z w : Nat → Int32} {a m : Nat} {x : Int32} (h : mj_sh z w a m) (j : Nat) (hj : j < m + 1) : upd w a x j = mj_ins z a x j := by
  rcases Nat.lt_trichotomy j a with q | q | q
  · rw [mj_ins_lt q, upd_ne (show ¬ j = a by omega)]
    exact h.1 j q
  · rw [q, mj_ins_at, upd_at]
  · rw [mj_ins_gt q, upd_ne (show ¬ j = a by omega)]
    exact h.2 j q (by omega)
def mj_hvm (p q n : Int) (g : Int32 → Int) : Int32 → Int := fun v => if p * n < g v * q then g v else 0
theorem mj_hp_in {p q n : Int} {V : Nat → Int32} {g : Int32 → Int} {v : Int32} : ∀ (m : Nat), (∀ a b : Nat, a < m → b < m → V a = V b → a = b) → (∃ j : Nat, j < m ∧ V j = v) → p * n < g v * q → mj_hp p q n V g m v = g v
  | 0, _, ⟨j, hj, _⟩, _ => absurd hj (Nat.not_lt_zero j)
  | m + 1, hd, ⟨j, hj, e⟩, hv => by
    simp only [mj_hp]
    by_cases c : V m = v
    · have z : mj_hp p q n V g m v = 0 := by
        by_cases y : mj_hp p q n V g m v = 0
        · exact y
        · obtain ⟨k, k1, k2⟩ := mj_hp_supp m v y
          have := hd k m (by omega) (by omega) (k2.trans c.symm)
          omega
      rw [z, if_pos (And.intro c hv), Int.zero_add]
    · have jm : j < m := by
        rcases Nat.lt_or_eq_of_le (Nat.le_of_lt_succ hj) with y | y
        · exact y
        · rw [y] at e
          exact absurd e c
      rw [if_neg (show ¬ (V m = v ∧ p * n < g v * q) from fun y => c y.1), Int.add_zero]
      exact mj_hp_in m (fun a b ha hb => hd a b (by omega) (by omega)) ⟨j, jm, e⟩ hv
theorem mj_hp_out {p q n : Int} {V : Nat → Int32} {g : Int32 → Int} {v : Int32} (h : ¬ p * n < g v * q) : ∀ (m : Nat), mj_hp p q n V g m v = 0
  | 0 => rfl
  | m + 1 => by
    simp only [mj_hp]
    rw [if_neg (show ¬ (V m = v ∧ p * n < g v * q) from fun y => h y.2), Int.add_zero]
    exact mj_hp_out h m
theorem mj_hp_hvm {p q n : Int} {V : Nat → Int32} {g : Int32 → Int} {m : Nat} (hd : ∀ a b : Nat, a < m → b < m → V a = V b → a = b) (hin : ∀ v : Int32, p * n < g v * q → ∃ j : Nat, j < m ∧ V j = v) (v : Int32) : mj_hp p q n V g m v = mj_hvm p q n g v := by
  unfold mj_hvm
  by_cases c : p * n < g v * q
  · rw [if_pos c]
    exact mj_hp_in m hd (hin v c) c
  · rw [if_neg c]
    exact mj_hp_out c m
/-- the heavy ones met so far -/
def mj_hm2 (p q n : Int) (g : Int32 → Int) (M : Int32 → Nat) : Int32 → Int := fun v => if 0 < M v ∧ p * n < g v * q then g v else 0
theorem mj_hm2_new {p q n : Int} {g : Int32 → Int} {M M2 : Int32 → Nat} {x : Int32} {o : Int} (hM : ∀ v : Int32, M2 v = M v + (if x = v then 1 else 0)) (h0 : M x = 0) (hv : p * n < g x * q) (ho : o = g x) (v : Int32) : mj_hm2 p q n g M v + (if v = x then o else 0) = mj_hm2 p q n g M2 v := by
  unfold mj_hm2
  have e := hM v
  by_cases c : v = x
  · rw [c] at e ⊢
    rw [if_pos rfl] at e
    rw [if_neg (show ¬ (0 < M x ∧ p * n < g x * q) from fun z => by have := z.1; omega), if_pos (rfl : x = x), if_pos (show 0 < M2 x ∧ p * n < g x * q from ⟨by omega, hv⟩), Int.zero_add, ho]
  · rw [if_neg (show ¬ x = v from fun z => c z.symm)] at e
    rw [if_neg c, Int.add_zero, show M2 v = M v by omega]
theorem mj_hm2_old {p q n : Int} {g : Int32 → Int} {M M2 : Int32 → Nat} {x : Int32} (hM : ∀ v : Int32, M2 v = M v + (if x = v then 1 else 0)) (h : 0 < M x ∨ g x * q ≤ p * n) (v : Int32) : mj_hm2 p q n g M v = mj_hm2 p q n g M2 v := by
  unfold mj_hm2
  have e := hM v
  by_cases c : x = v
  · rw [if_pos c] at e
    rw [c] at h
    rcases h with h | h
    · by_cases y : p * n < g v * q
      · rw [if_pos (And.intro h y), if_pos (show 0 < M2 v ∧ p * n < g v * q from ⟨by omega, y⟩)]
      · rw [if_neg (show ¬ (0 < M v ∧ p * n < g v * q) from fun z => y z.2), if_neg (show ¬ (0 < M2 v ∧ p * n < g v * q) from fun z => y z.2)]
    · have y : ¬ p * n < g v * q := by omega
      rw [if_neg (show ¬ (0 < M v ∧ p * n < g v * q) from fun z => y z.2), if_neg (show ¬ (0 < M2 v ∧ p * n < g v * q) from fun z => y z.2)]
  · rw [if_neg c] at e
    rw [show M2 v = M v by omega]
theorem mj_hm2_all {p q n : Int} {g : Int32 → Int} {M : Int32 → Nat} (hg : ∀ v : Int32, 0 < g v → 0 < M v) (hpn : 0 ≤ p * n) (hg0 : ∀ v : Int32, 0 ≤ g v) (v : Int32) : mj_hm2 p q n g M v = mj_hvm p q n g v := by
  unfold mj_hm2 mj_hvm
  by_cases y : p * n < g v * q
  · have z := ki_mulpos (z := p * n) y hpn (hg0 v)
    rw [if_pos (And.intro (hg v z) y), if_pos y]
  · rw [if_neg (show ¬ (0 < M v ∧ p * n < g v * q) from fun z => y z.2), if_neg y]
theorem mj_hm2_M {p q n : Int} {g : Int32 → Int} {M M2 : Int32 → Nat} (h : ∀ v : Int32, M v = M2 v) (v : Int32) : mj_hm2 p q n g M v = mj_hm2 p q n g M2 v := by
  unfold mj_hm2
  rw [h v]
theorem mj_hv_0 {p q n : Int} {g : Int32 → Int} {M : Int32 → Nat} {V N : Nat → Int32} {m : Nat} (hm : m = 0) (h : ∀ v : Int32, M v = 0) : mj_vs V N 0 m (mj_hm2 p q n g M) := by
  subst hm
  refine mj_vs_congr (mj_vs_zero _ _ _) (fun v => ?_)
  unfold mj_hm2
  rw [if_neg (show ¬ (0 < M v ∧ p * n < g v * q) from fun z => by have := z.1; have := h v; omega)]
theorem mj_srt_le {V N : Nat → Int32} {m a t : Nat} {v n : Int32} (h : mj_srt V N 0 m) (ha : a ≤ m) (et : a = t + 1) (hb : n.toInt < (N t).toInt ∨ ((N t).toInt = n.toInt ∧ (V t).toInt ≤ v.toInt)) (j : Nat) (hj : j < a) : n.toInt < (N j).toInt ∨ ((N j).toInt = n.toInt ∧ (V j).toInt ≤ v.toInt) := by
  rcases Nat.lt_or_eq_of_le (show j ≤ t by omega) with q | q
  · have z := h j t q (by omega)
    rw [Nat.zero_add, Nat.zero_add] at z
    unfold mj_lea at z
    omega
  · rw [q]
    exact hb


