theorem mj_pc_at (nl nr : Nat → Int32) (p : Int) (j : Nat) : ∀ k : Nat, j < mj_pc nl nr p 0 k → ∃ i : Nat, i < k ∧ mj_has nl nr p i ∧ mj_pc nl nr p 0 i = j
  | 0, h => absurd h (Nat.not_lt_zero j)
  | k + 1, h => by
    by_cases hj : j < mj_pc nl nr p 0 k
    · obtain ⟨i, x1, x2, x3⟩ := mj_pc_at nl nr p j k hj
      exact ⟨i, by omega, x2, x3⟩
    · by_cases hp : mj_has nl nr p k
      · rw [mj_pc_yes hp] at h
        exact ⟨k, by omega, hp, by omega⟩
      · rw [mj_pc_no hp] at h
        omega
theorem mj_pc_le (nl nr : Nat → Int32) (p : Int) : ∀ k : Nat, mj_pc nl nr p 0 k ≤ k
  | 0 => Nat.le_refl 0
  | k + 1 => by
    have ih := mj_pc_le nl nr p k
    by_cases hp : mj_has nl nr p k
    · rw [mj_pc_yes hp]; omega
    · rw [mj_pc_no hp]; omega
def mj_nz (fm V N : Nat → Int32) (v : Int32) (k : Nat) : Prop := ¬ mj_nb V N v (6 * k) (fm k).toNatClampNeg = 0
def mj_hl (nl nr fm V N : Nat → Int32) (nd : Nat) (p : Int) (v : Int32) (x : Int) : Prop := ∃ k : Nat, k ≤ nd ∧ (∀ j : Nat, k ≤ j → j < nd → mj_has nl nr p j → mj_nz fm V N v j) ∧ x + (mj_pc nl nr p 0 k : Int) = (mj_pc nl nr p 0 nd : Int) ∧ (k = 0 ∨ ∃ q : Nat, k = q + 1 ∧ mj_has nl nr p q ∧ ¬ mj_nz fm V N v q)
theorem mj_nb_vs {V N : Nat → Int32} {v : Int32} : ∀ (m s : Nat), (∀ j : Nat, j < m → 0 < (N (s + j)).toInt) → 0 ≤ (mj_nb V N v s m).toInt
  | 0, s, _ => by
    rw [mj_nb_0 rfl]
    decide
  | m + 1, s, h => by
    by_cases hv : V s = v
    · rw [mj_nb_hit hv rfl]
      have := h 0 (by omega)
      rw [Nat.add_zero] at this
      omega
    · rw [mj_nb_miss hv rfl]
      exact mj_nb_vs m (s + 1) (fun j hj => by
        have := h (j + 1) (by omega)
        rw [show s + 1 + j = s + (j + 1) by omega]
        exact this)
theorem mj_L_nb {K : Nat} {f nl nr fm fl fe vv vn : Nat → Int32} {n nd : Int} (h : mj_L K f nl nr fm fl fe vv vn n nd) (hn : n ≤ 160) (k : Nat) (hk : (k : Int) < nd) (v : Int32) : 0 ≤ (mj_nb vv vn v (6 * k) (fm k).toNatClampNeg).toInt := by
  obtain ⟨-, -, -, μ, h1, -, -⟩ := mj_L_vs h hn k hk
  exact mj_nb_vs _ _ (fun j hj => by
    have := h1.1 j hj
    omega)

set_option maxHeartbeats 4000000 in
set_option maxRecDepth 100000 in
theorem c_X2_numberIn_x (l : Launch) (dC : Nat → ClassId) (dI : Nat → Nat → Nat) (q_t : Nat) (q_row : Nat) (q_joined : Nat) (q_from : Nat) (q_to : Nat) (q_size : Nat) (q_lossOf : Nat) (q_lessBy : Nat) (q_value : Nat) (q_number : Nat) (nodes : Int32) (here : Int32) (cyI : ClassId) (fs : Nat → Int32) (uv : Nat → Int32) (un : Nat → Int32) (p0 : Int32) (p1 : Int32) (b0 : 0 ≤ p0.toInt) (b1 : p0.toInt < 319) (s0 : sixes fs) : Met l yX2_numberIn wsX2_numberIn ({ frames := 0, cells := 0, slots := 0, locals := 0 }) (va_Pc [.ref q_t, .int p0, .int p1] (fun U => va_P (dC, dI) vwCl [kx_2 q_t q_row q_joined q_from q_to q_size q_lossOf q_lessBy q_value q_number nodes here, kx_a q_size cyI 319 fs, kx_a q_value cyI 1914 uv, kx_a q_number cyI 1914 un] U.heap ∧ va_K (dC, dI) vwCl [(cyI, .int)] U)) (vp_Si (fun r : Int32 => r = mj_nb uv un p1 (6 * p0.toNatClampNeg) (fs p0.toNatClampNeg).toNatClampNeg)) 0 0 (fun _ => False) := by
  refine Met.ofW (cc := cX2_numberIn) (maxL := 5) (ret := (some .int)) (by decide) rfl ?_
  intro p e s m args below meth c s₁ B hml hv
  obtain ⟨rfl, hP, hK⟩ := hv
  have hx := B.exec
  have hb := B.bytes
  have hr := B.returns
  have hts := atoms_spec (ws := wsX2_numberIn) B.pre
  have hown : s.vm.findClass RX2 = some m.cls := findClass_of_methodNamed B.named
  have hlocks := B.notSynchronized
  have hP : va_P (dC, dI) vwCl [kx_2 q_t q_row q_joined q_from q_to q_size q_lossOf q_lessBy q_value q_number nodes here, kx_a q_size cyI 319 fs, kx_a q_value cyI 1914 uv, kx_a q_number cyI 1914 un] s.heap := hP
  have hl := lv_entry ([.ref q_t, .int p0, .int p1]) (n := 5) (Nat.le_of_ble_eq_true rfl)
  rw [lg_entry_eq]
  generalize (lg_sl ([.ref q_t, .int p0, .int p1]) ++ List.replicate (5 - (lg_sl ([.ref q_t, .int p0, .int p1])).length) Slot.unset).toArray = ls at hl ⊢
  have hl : lv_has ls 5 [(0, .ref q_t), (1, .int p0), (2, .int p1)] := hl
  have hf_25 := hts (.fieldLink RX2 25 "MajorityIndex$Tree" "size" "[I") (List.mem_of_getElem? (i := 1) rfl)
  have hi_2 : ∀ w ∈ u_ws RX2 TX2 11, w ∈ wsX2_numberIn := fun w h => List.mem_cons_of_mem _ (List.mem_append_right _ h)
  have hf_34 := hts (.fieldLink RX2 34 "MajorityIndex$Tree" "value" "[I") (List.mem_of_getElem? (i := 2) rfl)
  have hf_37 := hts (.fieldLink RX2 37 "MajorityIndex$Tree" "number" "[I") (List.mem_of_getElem? (i := 3) rfl)
  have n_p0 := ki_nat p0 rfl (by omega)
  have n_m4 := s0 p0.toNatClampNeg (by omega)
  have n_fs := ki_nat (fs p0.toNatClampNeg) rfl (by omega)
  refine lv_iload_n hx hb dX2_numberIn_0 rfl (lv_at hl 1 rfl) ?_
  refine lv_bipush (v := 6) hx hb dX2_numberIn_1 (by decide) ?_
  refine lv_imul hx hb dX2_numberIn_3 ?_
  refine lv_topi (fun y_1 ey_1 => ?_)
  have i_1 : y_1.toInt = p0.toInt * 6 := ki_mul ey_1 rfl rfl (by omega) (by omega)
  refine lv_istore_n (lv' := [(3, .int y_1), (0, .ref q_t), (1, .int p0), (2, .int p1)]) hx hb dX2_numberIn_4 rfl hl (by decide) rfl (fun ls hl => ?_)
  refine lv_iconst (v := 0) hx hb dX2_numberIn_5 (by decide) ?_
  refine lv_istore (lv' := [(4, .int 0), (3, .int y_1), (0, .ref q_t), (1, .int p0), (2, .int p1)]) hx hb dX2_numberIn_6 hl (by decide) rfl (fun ls hl => ?_)
  have LP1 : ∀ (n : Nat) (i : Int32), (0 ≤ i.toInt) → (mj_nb uv un p1 (6 * p0.toNatClampNeg) (fs p0.toNatClampNeg).toNatClampNeg = mj_nb uv un p1 (6 * p0.toNatClampNeg + i.toNatClampNeg) ((fs p0.toNatClampNeg).toNatClampNeg - i.toNatClampNeg)) → (6 - i.toInt).toNat < n → ∀ (ls : Array Slot), lv_has ls 5 [(4, .int i), (3, .int y_1), (0, .ref q_t), (1, .int p0), (2, .int p1)] → W p l e (headSpec wsX2_numberIn ({ frames := 0, cells := 0, slots := 0, locals := 0 })).room s m ([.ref q_t, .int p0, .int p1] : List Value).toArray below meth c s.heap [] 0 0 (MQ below (vp_Si (fun r : Int32 => r = mj_nb uv un p1 (6 * p0.toNatClampNeg) (fs p0.toNatClampNeg).toNatClampNeg)) ([.ref q_t, .int p0, .int p1] : List Value).toArray s 0 0 (fun _ => False)) (F0 m 8 ls []) := by
    intro n
    induction n with
    | zero => intro i LP1_h0 LP1_h1 hn; exact absurd hn (Nat.not_lt_zero _)
    | succ n ih1 =>
      intro i LP1_h0 LP1_h1 hn1 ls hl
      have n_i := ki_nat i rfl (by omega)
      refine lv_iload hx hb dX2_numberIn_8 (lv_at hl 0 rfl) ?_
      refine lv_aload_n hx hb dX2_numberIn_10 rfl (lv_at hl 2 rfl) ?_
      refine va_get (D := (dC, dI)) (ci := 2) (v := .ref q_size) (C := RX2) (T := TX2) (N := 11) hx hb hts hi_2 hown hK hP 0 rfl rfl 4 (by decide) hf_25 (fun _ h9 => h9) rfl dX2_numberIn_11 ?_
      refine lv_iload_n hx hb dX2_numberIn_14 rfl (lv_at hl 3 rfl) ?_
      refine va_iald hx hb hK hP 1 0 rfl rfl (ki_in (by omega) (by omega)) dX2_numberIn_15 ?_
      refine lv_topi (fun y_2 ey_2 => ?_)
      have j_2 : y_2.toInt = (fs p0.toNatClampNeg).toInt := congrArg Int32.toInt ey_2
      have n_3 : (p0.toNatClampNeg : Int) = p0.toInt := ki_nat _ rfl (by omega)
      have i_4 := s0 p0.toNatClampNeg (by omega)
      refine lv_icmp_ge (tgt := 48) hx hb dX2_numberIn_16 (by decide) (fun c_5 => ?_) (fun c_5 => ?_)
      · have i_5 : y_2.toInt ≤ i.toInt := kc_le c_5
        refine lv_iconst (v := 0) hx hb dX2_numberIn_48 (by decide) ?_
        exact W.iret (v := 0) hx hb hr (fun t ht hW => ⟨0, rfl, (by (try dsimp only); rw [LP1_h1, mj_nb_0 (by (try dsimp only); omega)]), ht⟩) (fun q hq => by cases hq) dX2_numberIn_49
      · have i_5 : i.toInt < y_2.toInt := kc_nle c_5
        refine lv_aload_n hx hb dX2_numberIn_19 rfl (lv_at hl 2 rfl) ?_
        refine va_get (D := (dC, dI)) (ci := 2) (v := .ref q_value) (C := RX2) (T := TX2) (N := 11) hx hb hts hi_2 hown hK hP 0 rfl rfl 7 (by decide) hf_34 (fun _ h9 => h9) rfl dX2_numberIn_20 ?_
        refine lv_iload_n hx hb dX2_numberIn_23 rfl (lv_at hl 1 rfl) ?_
        refine lv_iload hx hb dX2_numberIn_24 (lv_at hl 0 rfl) ?_
        refine lv_iadd hx hb dX2_numberIn_26 ?_
        refine lv_topi (fun y_6 ey_6 => ?_)
        have i_6 : y_6.toInt = y_1.toInt + i.toInt := ki_add ey_6 rfl rfl (by omega) (by omega)
        refine va_iald hx hb hK hP 2 0 rfl rfl (ki_in (by omega) (by omega)) dX2_numberIn_27 ?_
        refine lv_topi (fun y_7 ey_7 => ?_)
        have j_7 : y_7.toInt = (uv y_6.toNatClampNeg).toInt := congrArg Int32.toInt ey_7
        refine lv_iload_n hx hb dX2_numberIn_28 rfl (lv_at hl 4 rfl) ?_
        refine lv_icmp_ne (tgt := 42) hx hb dX2_numberIn_29 (by decide) (fun c_8 => ?_) (fun c_8 => ?_)
        · have i_8 : ¬ y_7.toInt = p1.toInt := kc_ne c_8
          obtain ⟨x_9, ex_9⟩ : ∃ y : Int32, y = i + 1 := ⟨_, rfl⟩
          have i_9 : x_9.toInt = i.toInt + 1 := ki_add ex_9 rfl rfl (by omega) (by omega)
          refine lv_iinc (v := x_9) (lv' := [(4, .int x_9), (3, .int y_1), (0, .ref q_t), (1, .int p0), (2, .int p1)]) hx hb dX2_numberIn_42 hl (k := 0) rfl (by rw [ex_9]; rfl) (by decide) rfl (fun ls hl => ?_)
          refine lv_goto (tgt := 8) hx hb dX2_numberIn_45 (by decide) ?_
          have n_10 := ki_nat x_9 rfl (by omega)
          have n_11 := ki_nat y_6 rfl (by omega)
          exact ih1 x_9 (by omega) (by rw [LP1_h1, mj_nb_miss (n2 := (fs p0.toNatClampNeg).toNatClampNeg - x_9.toNatClampNeg) (by rw [show 6 * p0.toNatClampNeg + i.toNatClampNeg = y_6.toNatClampNeg by omega]; exact fun h => c_8 (ey_7.trans h)) (by omega), show 6 * p0.toNatClampNeg + i.toNatClampNeg + 1 = 6 * p0.toNatClampNeg + x_9.toNatClampNeg by omega]) (by omega) ls (lv_sub hl [0, 1, 2, 3, 4] rfl)
        · have i_8 : y_7.toInt = p1.toInt := kc_eq c_8
          refine lv_aload_n hx hb dX2_numberIn_32 rfl (lv_at hl 2 rfl) ?_
          refine va_get (D := (dC, dI)) (ci := 2) (v := .ref q_number) (C := RX2) (T := TX2) (N := 11) hx hb hts hi_2 hown hK hP 0 rfl rfl 8 (by decide) hf_37 (fun _ h9 => h9) rfl dX2_numberIn_33 ?_
          refine lv_iload_n hx hb dX2_numberIn_36 rfl (lv_at hl 1 rfl) ?_
          refine lv_iload hx hb dX2_numberIn_37 (lv_at hl 0 rfl) ?_
          refine lv_iadd hx hb dX2_numberIn_39 ?_
          refine lv_topi (fun y_12 ey_12 => ?_)
          have i_12 : y_12.toInt = y_1.toInt + i.toInt := ki_add ey_12 rfl rfl (by omega) (by omega)
          refine va_iald hx hb hK hP 3 0 rfl rfl (ki_in (by omega) (by omega)) dX2_numberIn_40 ?_
          refine lv_topi (fun y_13 ey_13 => ?_)
          have j_13 : y_13.toInt = (un y_12.toNatClampNeg).toInt := congrArg Int32.toInt ey_13
          have n_14 := ki_nat y_6 rfl (by omega)
          have n_15 := ki_nat y_12 rfl (by omega)
          exact W.iret (v := y_13) hx hb hr (fun t ht hW => ⟨y_13, rfl, (by (try dsimp only); rw [LP1_h1, mj_nb_hit (n2 := (fs p0.toNatClampNeg).toNatClampNeg - i.toNatClampNeg - 1) (by (try dsimp only); rw [show 6 * p0.toNatClampNeg + i.toNatClampNeg = y_6.toNatClampNeg by omega]; exact ey_7.symm.trans c_8) (by (try dsimp only); omega), ey_13, show 6 * p0.toNatClampNeg + i.toNatClampNeg = y_12.toNatClampNeg by omega]), ht⟩) (fun q hq => by cases hq) dX2_numberIn_41
  have k_16 : (0 : Int32).toInt = 0 := rfl
  exact LP1 ((6 - 0 : Int).toNat + 1) 0 (by omega) rfl (Nat.lt_succ_self _) ls (lv_sub hl [0, 1, 2, 3, 4] rfl)

set_option maxHeartbeats 4000000 in
set_option maxRecDepth 100000 in
theorem c_X2_holding_x (l : Launch) (dC : Nat → ClassId) (dI : Nat → Nat → Nat) (q_t : Nat) (q_row : Nat) (q_joined : Nat) (q_from : Nat) (q_to : Nat) (q_size : Nat) (q_lossOf : Nat) (q_lessBy : Nat) (q_value : Nat) (q_number : Nat) (nodes : Int32) (here : Int32) (q_cell : Nat) (cyI : ClassId) (len : Int32) (f : Nat → Int32) (ff : Nat → Int32) (ft : Nat → Int32) (fs : Nat → Int32) (uv : Nat → Int32) (un : Nat → Int32) (p0 : Int32) (b0 : 0 ≤ nodes.toInt) (c0 : nodes.toInt ≤ 319) (s0 : sixes fs) (d0 : 0 ≤ p0.toInt) (d1 : p0.toInt < 160) : Met l yX2_holding wsX2_holding ({ frames := 1, cells := 0, slots := 0, locals := 45 }) (va_Pc [.ref q_t, .int p0] (fun U => va_P (dC, dI) vwCl [kx_2 q_t q_row q_joined q_from q_to q_size q_lossOf q_lessBy q_value q_number nodes here, kx_0 q_row q_cell len, kx_a q_cell cyI 160 f, kx_a q_from cyI 319 ff, kx_a q_to cyI 319 ft, kx_a q_size cyI 319 fs, kx_a q_value cyI 1914 uv, kx_a q_number cyI 1914 un] U.heap ∧ va_K (dC, dI) vwCl [(cyI, .int)] U)) (vp_Si (fun r : Int32 => mj_hl ff ft fs uv un nodes.toNatClampNeg p0.toInt (f p0.toNatClampNeg) r.toInt)) 0 0 (fun _ => False) := by
  refine Met.ofW (cc := cX2_holding) (maxL := 4) (ret := (some .int)) (by decide) rfl ?_
  intro p e s m args below meth c s₁ B hml hv
  obtain ⟨rfl, hP, hK⟩ := hv
  have hx := B.exec
  have hb := B.bytes
  have hr := B.returns
  have hts := atoms_spec (ws := wsX2_holding) B.pre
  have hown : s.vm.findClass RX2 = some m.cls := findClass_of_methodNamed B.named
  have hlocks := B.notSynchronized
  have hP : va_P (dC, dI) vwCl [kx_2 q_t q_row q_joined q_from q_to q_size q_lossOf q_lessBy q_value q_number nodes here, kx_0 q_row q_cell len, kx_a q_cell cyI 160 f, kx_a q_from cyI 319 ff, kx_a q_to cyI 319 ft, kx_a q_size cyI 319 fs, kx_a q_value cyI 1914 uv, kx_a q_number cyI 1914 un] s.heap := hP
  have hl := lv_entry ([.ref q_t, .int p0]) (n := 4) (Nat.le_of_ble_eq_true rfl)
  rw [lg_entry_eq]
  generalize (lg_sl ([.ref q_t, .int p0]) ++ List.replicate (4 - (lg_sl ([.ref q_t, .int p0])).length) Slot.unset).toArray = ls at hl ⊢
  have hl : lv_has ls 4 [(0, .ref q_t), (1, .int p0)] := hl
  have hf_50 := hts (.fieldLink RX2 50 "MajorityIndex$Tree" "nodes" "I") (List.mem_of_getElem? (i := 1) rfl)
  have hi_2 : ∀ w ∈ u_ws RX2 TX2 11, w ∈ wsX2_holding := fun w h => List.mem_cons_of_mem _ (List.mem_append_left _ (List.mem_append_right _ h))
  have hf_40 := hts (.fieldLink RX2 40 "MajorityIndex$Tree" "row" "LMajorityIndex$Row;") (List.mem_of_getElem? (i := 2) rfl)
  have hf_74 := hts (.fieldLink RX2 74 "MajorityIndex$Row" "cell" "[I") (List.mem_of_getElem? (i := 3) rfl)
  have hi_0 : ∀ w ∈ u_ws RX0 TX0 2, w ∈ wsX2_holding := fun w h => List.mem_cons_of_mem _ (List.mem_append_right _ h)
  have n_nd := ki_nat nodes rfl (by omega)
  refine lv_iconst (v := 0) hx hb dX2_holding_0 (by decide) ?_
  refine lv_istore_n (lv' := [(2, .int 0), (0, .ref q_t), (1, .int p0)]) hx hb dX2_holding_1 rfl hl (by decide) rfl (fun ls hl => ?_)
  refine lv_aload_n hx hb dX2_holding_2 rfl (lv_at hl 1 rfl) ?_
  refine va_get (D := (dC, dI)) (ci := 2) (v := .int nodes) (C := RX2) (T := TX2) (N := 11) hx hb hts hi_2 hown hK hP 0 rfl rfl 9 (by decide) hf_50 (fun _ h9 => h9) rfl dX2_holding_3 ?_
  refine lv_iconst (v := 1) hx hb dX2_holding_6 (by decide) ?_
  refine lv_isub hx hb dX2_holding_7 ?_
  refine lv_topi (fun y_1 ey_1 => ?_)
  have i_1 : y_1.toInt = nodes.toInt - 1 := ki_sub ey_1 rfl rfl (by omega) (by omega)
  refine lv_istore_n (lv' := [(3, .int y_1), (2, .int 0), (0, .ref q_t), (1, .int p0)]) hx hb dX2_holding_8 rfl hl (by decide) rfl (fun ls hl => ?_)
  have LP1 : ∀ (n : Nat) (many : Int32) (i : Int32), (i.toInt < nodes.toInt) → (-1 ≤ i.toInt) → (many.toInt + (mj_pc ff ft p0.toInt 0 (i.toInt + 1).toNat : Int) = (mj_pc ff ft p0.toInt 0 nodes.toNatClampNeg : Int)) → (∀ k : Nat, i.toInt < (k : Int) → k < nodes.toNatClampNeg → mj_has ff ft p0.toInt k → mj_nz fs uv un (f p0.toNatClampNeg) k) → (i.toInt + 1).toNat < n → ∀ (ls : Array Slot), lv_has ls 4 [(3, .int i), (2, .int many), (0, .ref q_t), (1, .int p0)] → W p l e (headSpec wsX2_holding ({ frames := 1, cells := 0, slots := 0, locals := 45 })).room s m ([.ref q_t, .int p0] : List Value).toArray below meth c s.heap [] 0 0 (MQ below (vp_Si (fun r : Int32 => mj_hl ff ft fs uv un nodes.toNatClampNeg p0.toInt (f p0.toNatClampNeg) r.toInt)) ([.ref q_t, .int p0] : List Value).toArray s 0 0 (fun _ => False)) (F0 m 9 ls []) := by
    intro n
    induction n with
    | zero => intro many i LP1_h0 LP1_h1 LP1_h2 LP1_h3 hn; exact absurd hn (Nat.not_lt_zero _)
    | succ n ih1 =>
      intro many i LP1_h0 LP1_h1 LP1_h2 LP1_h3 hn1 ls hl
      have hle := mj_pc_le ff ft p0.toInt nodes.toNatClampNeg
      have hle2 := mj_pc_mono ff ft p0.toInt 0 (i.toInt + 1).toNat nodes.toNatClampNeg (by omega)
      refine lv_iload_n hx hb dX2_holding_9 rfl (lv_at hl 0 rfl) ?_
      refine lv_if_lt (tgt := 50) hx hb dX2_holding_10 (by decide) (fun c_2 => ?_) (fun c_2 => ?_)
      · have i_2 : i.toInt < 0 := kc_lt c_2
        refine lv_iload_n hx hb dX2_holding_50 rfl (lv_at hl 1 rfl) ?_
        rw [show (i.toInt + 1).toNat = 0 by omega] at LP1_h2
        exact W.iret (v := many) hx hb hr (fun t ht hW => ⟨many, rfl, ⟨0, by omega, fun j h1 h2 h3 => LP1_h3 j (by (try dsimp only); omega) h2 h3, LP1_h2, Or.inl rfl⟩, ht⟩) (fun q hq => by cases hq) dX2_holding_51
      · have i_2 : 0 ≤ i.toInt := kc_nlt c_2
        refine lv_aload_n hx hb dX2_holding_13 rfl (lv_at hl 2 rfl) ?_
        refine lv_iload_n hx hb dX2_holding_14 rfl (lv_at hl 0 rfl) ?_
        refine lv_iload_n hx hb dX2_holding_15 rfl (lv_at hl 3 rfl) ?_
        have hPc := hP.sub (ws' := [kx_2 q_t q_row q_joined q_from q_to q_size q_lossOf q_lessBy q_value q_number nodes here, kx_a q_from cyI 319 ff, kx_a q_to cyI 319 ft]) [0, 3, 4] rfl
        have hKc := hK
        refine vp_callSi (W.runV (As := [.int i, .int p0]) (rest := []) ⟨hx, hb, hml, hown, hts⟩ (c_X2_hasPlace l dC dI q_t q_row q_joined q_from q_to q_size q_lossOf q_lessBy q_value q_number nodes here cyI ff ft i p0 i_2 (by omega)) (cwV 2 hts gX2_holding_X2_hasPlace rfl rfl rfl (by decide +kernel) ⟨Nat.le_of_ble_eq_true rfl, Nat.le_of_ble_eq_true rfl⟩) ⟨fun a U g mk q => by obtain ⟨q0, qP, qK⟩ := q; exact ⟨q0, qP, va_K.moved (u := U) (U := U.calling g mk a) (Vm.Alike.refl U.vm) qK⟩, va_recv hKc hPc (ci := 2) (q0 := 0) rfl rfl, fun U hU hW => ⟨rfl, by rw [hU]; exact hPc, va_K.moved hW.alike hKc⟩⟩ rfl rfl hl.1 rfl (lv_room (Nat.le_of_ble_eq_true rfl)) dX2_holding_16 ⟨Nat.le_of_ble_eq_true rfl, Nat.le_of_ble_eq_true rfl⟩) (fun r_3 w_3 => ?_)
        rcases w_3 with ⟨rfl, w_3⟩ | ⟨rfl, w_3⟩
        · have w_3 : ((ff i.toNatClampNeg).toInt ≤ p0.toInt ∧ p0.toInt < (ft i.toNatClampNeg).toInt) := w_3
          refine lv_if_eq (tgt := 44) hx hb dX2_holding_19 (by decide) (fun c_4 => ?_) (fun c_4 => ?_)
          · exact absurd c_4 (by decide)
          · refine lv_aload_n hx hb dX2_holding_22 rfl (lv_at hl 2 rfl) ?_
            refine lv_iload_n hx hb dX2_holding_23 rfl (lv_at hl 0 rfl) ?_
            refine lv_aload_n hx hb dX2_holding_24 rfl (lv_at hl 2 rfl) ?_
            refine va_get (D := (dC, dI)) (ci := 2) (v := .ref q_row) (C := RX2) (T := TX2) (N := 11) hx hb hts hi_2 hown hK hP 0 rfl rfl 0 (by decide) hf_40 (fun _ h9 => h9) rfl dX2_holding_25 ?_
            refine va_get (D := (dC, dI)) (ci := 0) (v := .ref q_cell) (C := RX0) (T := TX0) (N := 2) hx hb hts hi_0 hown hK hP 1 rfl rfl 0 (by decide) hf_74 (fun _ h9 => h9) rfl dX2_holding_28 ?_
            refine lv_iload_n hx hb dX2_holding_31 rfl (lv_at hl 3 rfl) ?_
            refine va_iald hx hb hK hP 2 0 rfl rfl (ki_in (by omega) (by omega)) dX2_holding_32 ?_
            refine lv_topi (fun y_5 ey_5 => ?_)
            have j_5 : y_5.toInt = (f p0.toNatClampNeg).toInt := congrArg Int32.toInt ey_5
            have hPc := hP.sub (ws' := [kx_2 q_t q_row q_joined q_from q_to q_size q_lossOf q_lessBy q_value q_number nodes here, kx_a q_size cyI 319 fs, kx_a q_value cyI 1914 uv, kx_a q_number cyI 1914 un]) [0, 5, 6, 7] rfl
            have hKc := hK
            refine vp_callSi (W.runV (As := [.int i, .int y_5]) (rest := []) ⟨hx, hb, hml, hown, hts⟩ (c_X2_numberIn_x l dC dI q_t q_row q_joined q_from q_to q_size q_lossOf q_lessBy q_value q_number nodes here cyI fs uv un i y_5 i_2 (by omega) s0) (cwV 2 hts gX2_holding_X2_numberIn rfl rfl rfl (by decide +kernel) ⟨Nat.le_of_ble_eq_true rfl, Nat.le_of_ble_eq_true rfl⟩) ⟨fun a U g mk q => by obtain ⟨q0, qP, qK⟩ := q; exact ⟨q0, qP, va_K.moved (u := U) (U := U.calling g mk a) (Vm.Alike.refl U.vm) qK⟩, va_recv hKc hPc (ci := 2) (q0 := 0) rfl rfl, fun U hU hW => ⟨rfl, by rw [hU]; exact hPc, va_K.moved hW.alike hKc⟩⟩ rfl rfl hl.1 rfl (lv_room (Nat.le_of_ble_eq_true rfl)) dX2_holding_33 ⟨Nat.le_of_ble_eq_true rfl, Nat.le_of_ble_eq_true rfl⟩) (fun r_6 w_6 => ?_)
            subst w_6
            refine lv_if_ne (tgt := 41) hx hb dX2_holding_36 (by decide) (fun c_7 => ?_) (fun c_7 => ?_)
            · have i_7 : ¬ (mj_nb uv un y_5 (6 * i.toNatClampNeg) (fs i.toNatClampNeg).toNatClampNeg).toInt = 0 := kc_ne c_7
              obtain ⟨x_8, ex_8⟩ : ∃ y : Int32, y = many + 1 := ⟨_, rfl⟩
              have i_8 : x_8.toInt = many.toInt + 1 := ki_add ex_8 rfl rfl (by omega) (by omega)
              refine lv_iinc (v := x_8) (lv' := [(2, .int x_8), (3, .int i), (0, .ref q_t), (1, .int p0)]) hx hb dX2_holding_41 hl (k := 1) rfl (by rw [ex_8]; rfl) (by decide) rfl (fun ls hl => ?_)
              obtain ⟨x_9, ex_9⟩ : ∃ y : Int32, y = i + (-1) := ⟨_, rfl⟩
              have i_9 : x_9.toInt = i.toInt + (-1) := ki_add ex_9 rfl rfl (by omega) (by omega)
              refine lv_iinc (v := x_9) (lv' := [(3, .int x_9), (2, .int x_8), (0, .ref q_t), (1, .int p0)]) hx hb dX2_holding_44 hl (k := 1) rfl (by rw [ex_9]; rfl) (by decide) rfl (fun ls hl => ?_)
              refine lv_goto (tgt := 9) hx hb dX2_holding_47 (by decide) ?_
              have n_i9 := ki_nat i rfl (by omega)
              have n_k9 : (x_9.toInt + 1).toNat = i.toNatClampNeg := by omega
              have n_k8 : (i.toInt + 1).toNat = i.toNatClampNeg + 1 := by omega
              have st := mj_pc_yes (nl := ff) (nr := ft) (p := p0.toInt) (k := i.toNatClampNeg) (by unfold mj_has; omega)
              rw [n_k8] at LP1_h2
              exact ih1 x_8 x_9 (by omega) (by omega) (by rw [n_k9]; omega) (fun k h1 h2 hh => if h9 : i.toInt < (k : Int) then LP1_h3 k (by omega) h2 hh else (by unfold mj_nz; rw [show k = i.toNatClampNeg by omega, ← ey_5]; exact fun h => by have k0 : (0 : Int32).toInt = 0 := rfl; have k9 := congrArg Int32.toInt h; omega)) (by omega) ls (lv_sub hl [0, 1, 2, 3] rfl)
            · have i_7 : (mj_nb uv un y_5 (6 * i.toNatClampNeg) (fs i.toNatClampNeg).toNatClampNeg).toInt = 0 := kc_eq c_7
              refine lv_iload_n hx hb dX2_holding_39 rfl (lv_at hl 1 rfl) ?_
              have n_i9 := ki_nat i rfl (by omega)
              have h_q : mj_has ff ft p0.toInt i.toNatClampNeg := by unfold mj_has; omega
              have h_z : ¬ mj_nz fs uv un (f p0.toNatClampNeg) i.toNatClampNeg := fun h => h (by rw [← ey_5]; exact Int32.toInt_inj.mp (by have k0 : (0 : Int32).toInt = 0 := rfl; omega))
              rw [show (i.toInt + 1).toNat = i.toNatClampNeg + 1 by omega] at LP1_h2
              exact W.iret (v := many) hx hb hr (fun t ht hW => ⟨many, rfl, ⟨i.toNatClampNeg + 1, by omega, fun j h1 h2 h3 => LP1_h3 j (by (try dsimp only); omega) h2 h3, LP1_h2, Or.inr ⟨_, rfl, h_q, h_z⟩⟩, ht⟩) (fun q hq => by cases hq) dX2_holding_40
        · have w_3 : (p0.toInt < (ff i.toNatClampNeg).toInt ∨ (ft i.toNatClampNeg).toInt ≤ p0.toInt) := w_3
          refine lv_if_eq (tgt := 44) hx hb dX2_holding_19 (by decide) (fun c_10 => ?_) (fun c_10 => ?_)
          · obtain ⟨x_11, ex_11⟩ : ∃ y : Int32, y = i + (-1) := ⟨_, rfl⟩
            have i_11 : x_11.toInt = i.toInt + (-1) := ki_add ex_11 rfl rfl (by omega) (by omega)
            refine lv_iinc (v := x_11) (lv' := [(3, .int x_11), (2, .int many), (0, .ref q_t), (1, .int p0)]) hx hb dX2_holding_44 hl (k := 0) rfl (by rw [ex_11]; rfl) (by decide) rfl (fun ls hl => ?_)
            refine lv_goto (tgt := 9) hx hb dX2_holding_47 (by decide) ?_
            have n_i9 := ki_nat i rfl (by omega)
            have n_k9 : (x_11.toInt + 1).toNat = i.toNatClampNeg := by omega
            have n_k8 : (i.toInt + 1).toNat = i.toNatClampNeg + 1 := by omega
            have st := mj_pc_no (nl := ff) (nr := ft) (p := p0.toInt) (k := i.toNatClampNeg) (fun h => by unfold mj_has at h; omega)
            rw [n_k8] at LP1_h2
            exact ih1 many x_11 (by omega) (by omega) (by rw [n_k9]; omega) (fun k h1 h2 hh => if h9 : i.toInt < (k : Int) then LP1_h3 k (by omega) h2 hh else (by rw [show k = i.toNatClampNeg by omega] at hh; unfold mj_has at hh; exfalso; omega)) (by omega) ls (lv_sub hl [0, 1, 2, 3] rfl)
          · exact absurd c_10 (by decide)
  have k_12 : (0 : Int32).toInt = 0 := rfl
  exact LP1 ((y_1.toInt + 1 : Int).toNat + 1) 0 y_1 (by omega) (by omega) (by rw [show (_ : Int).toNat = nodes.toNatClampNeg by omega]; omega) (fun k h1 h2 => by exfalso; omega) (Nat.lt_succ_self _) ls (lv_sub hl [0, 1, 2, 3] rfl)

set_option maxHeartbeats 4000000 in
set_option maxRecDepth 100000 in
theorem c_X4_holds_y (l : Launch) (dC : Nat → ClassId) (dI : Nat → Nat → Nat) (m_ : Nat) (q_row : Nat) (q_t : Nat) (t_ : Nat) (h0 : Nat) (k0 : Nat) (w_ : Nat) (z_ : Nat) (slots : Int32) (old : Int32) (q_joined : Nat) (q_from : Nat) (q_to : Nat) (q_size : Nat) (q_lossOf : Nat) (q_lessBy : Nat) (q_value : Nat) (q_number : Nat) (nodes : Int32) (here : Int32) (q_cell : Nat) (cyI : ClassId) (len : Int32) (f : Nat → Int32) (ff : Nat → Int32) (ft : Nat → Int32) (fs : Nat → Int32) (fo : Nat → Int32) (uv : Nat → Int32) (un : Nat → Int32) (fe : Nat → Int32) (j_v : Nat) (j_n : Nat) (js : Int32) (jl : Int32) (je : Int32) (jv : Nat → Int32) (jn : Nat → Int32) (p0 : Int32) (sz : Nat) (a0 : 0 ≤ len.toInt) (a1 : len.toInt ≤ 160) (s0 : sixes fs) (sl0 : 1 ≤ slots.toInt) (sl1 : slots.toInt ≤ 6) (l0 : laidX old slots here f ff ft fs fo fe uv un nodes len) : Met l yX4_holds wsX4_holds ({ frames := 6, cells := 0, slots := 0, locals := 270 }) (va_Pc [.ref m_, .int p0] (fun U => U.heap.size = sz ∧ va_P (dC, dI) vwCl [kx_4 m_ q_row q_t t_ h0 k0 w_ z_ slots old, kx_2 q_t q_row q_joined q_from q_to q_size q_lossOf q_lessBy q_value q_number nodes here, kx_0 q_row q_cell len, kx_a q_cell cyI 160 f, kx_a q_from cyI 319 ff, kx_a q_to cyI 319 ft, kx_a q_size cyI 319 fs, kx_a q_lossOf cyI 319 fo, kx_a q_lessBy cyI 319 fe, kx_a q_value cyI 1914 uv, kx_a q_number cyI 1914 un, kx_3 q_joined j_v j_n js jl je, kx_a j_v cyI 12 jv, kx_a j_n cyI 12 jn] U.heap ∧ va_K (dC, dI) vwCl [(cyI, .int)] U ∧ va_D (fun _ => True) [kx_4 m_ q_row q_t t_ h0 k0 w_ z_ slots old, kx_2 q_t q_row q_joined q_from q_to q_size q_lossOf q_lessBy q_value q_number nodes here, kx_0 q_row q_cell len, kx_a q_cell cyI 160 f, kx_a q_from cyI 319 ff, kx_a q_to cyI 319 ft, kx_a q_size cyI 319 fs, kx_a q_lossOf cyI 319 fo, kx_a q_lessBy cyI 319 fe, kx_a q_value cyI 1914 uv, kx_a q_number cyI 1914 un, kx_3 q_joined j_v j_n js jl je, kx_a j_v cyI 12 jv, kx_a j_n cyI 12 jn])) (va_Qi (fun (r : Int32) (u : Int32 × Int32 × Int32 × (Nat → Int32) × (Nat → Int32) × (Nat → Int32) × (Nat → Int32) × (Nat → Int32) × (Nat → Int32) × (Nat → Int32) × Int32 × Int32 × Int32 × (Nat → Int32) × (Nat → Int32)) => (((0 ≤ p0.toInt ∧ p0.toInt < len.toInt) ∧ u.1.toInt = 0 ∧ mj_hl u.2.2.2.1 u.2.2.2.2.1 u.2.2.2.2.2.1 u.2.2.2.2.2.2.2.2.1 u.2.2.2.2.2.2.2.2.2.1 u.2.1.toNatClampNeg p0.toInt (f p0.toNatClampNeg) r.toInt) ∨ ((p0.toInt < 0 ∨ len.toInt ≤ p0.toInt) ∧ r = -1)) ∧ laidX u.1 slots u.2.2.1 f u.2.2.2.1 u.2.2.2.2.1 u.2.2.2.2.2.1 u.2.2.2.2.2.2.1 u.2.2.2.2.2.2.2.1 u.2.2.2.2.2.2.2.2.1 u.2.2.2.2.2.2.2.2.2.1 u.2.1 len ∧ sixes u.2.2.2.2.2.1) (fun (u : Int32 × Int32 × Int32 × (Nat → Int32) × (Nat → Int32) × (Nat → Int32) × (Nat → Int32) × (Nat → Int32) × (Nat → Int32) × (Nat → Int32) × Int32 × Int32 × Int32 × (Nat → Int32) × (Nat → Int32)) (t : State) => va_P (dC, dI) vwCl [kx_4 m_ q_row q_t t_ h0 k0 w_ z_ slots u.1, kx_2 q_t q_row q_joined q_from q_to q_size q_lossOf q_lessBy q_value q_number u.2.1 u.2.2.1, kx_0 q_row q_cell len, kx_a q_cell cyI 160 f, kx_a q_from cyI 319 u.2.2.2.1, kx_a q_to cyI 319 u.2.2.2.2.1, kx_a q_size cyI 319 u.2.2.2.2.2.1, kx_a q_lossOf cyI 319 u.2.2.2.2.2.2.1, kx_a q_lessBy cyI 319 u.2.2.2.2.2.2.2.1, kx_a q_value cyI 1914 u.2.2.2.2.2.2.2.2.1, kx_a q_number cyI 1914 u.2.2.2.2.2.2.2.2.2.1, kx_3 q_joined j_v j_n u.2.2.2.2.2.2.2.2.2.2.1 u.2.2.2.2.2.2.2.2.2.2.2.1 u.2.2.2.2.2.2.2.2.2.2.2.2.1, kx_a j_v cyI 12 u.2.2.2.2.2.2.2.2.2.2.2.2.2.1, kx_a j_n cyI 12 u.2.2.2.2.2.2.2.2.2.2.2.2.2.2] t.heap ∧ va_K (dC, dI) vwCl [(cyI, .int)] t ∧ va_D (va_A [kx_4 m_ q_row q_t t_ h0 k0 w_ z_ slots old, kx_2 q_t q_row q_joined q_from q_to q_size q_lossOf q_lessBy q_value q_number nodes here, kx_0 q_row q_cell len, kx_a q_cell cyI 160 f, kx_a q_from cyI 319 ff, kx_a q_to cyI 319 ft, kx_a q_size cyI 319 fs, kx_a q_lossOf cyI 319 fo, kx_a q_lessBy cyI 319 fe, kx_a q_value cyI 1914 uv, kx_a q_number cyI 1914 un, kx_3 q_joined j_v j_n js jl je, kx_a j_v cyI 12 jv, kx_a j_n cyI 12 jn] sz) [kx_4 m_ q_row q_t t_ h0 k0 w_ z_ slots u.1, kx_2 q_t q_row q_joined q_from q_to q_size q_lossOf q_lessBy q_value q_number u.2.1 u.2.2.1, kx_0 q_row q_cell len, kx_a q_cell cyI 160 f, kx_a q_from cyI 319 u.2.2.2.1, kx_a q_to cyI 319 u.2.2.2.2.1, kx_a q_size cyI 319 u.2.2.2.2.2.1, kx_a q_lossOf cyI 319 u.2.2.2.2.2.2.1, kx_a q_lessBy cyI 319 u.2.2.2.2.2.2.2.1, kx_a q_value cyI 1914 u.2.2.2.2.2.2.2.2.1, kx_a q_number cyI 1914 u.2.2.2.2.2.2.2.2.2.1, kx_3 q_joined j_v j_n u.2.2.2.2.2.2.2.2.2.2.1 u.2.2.2.2.2.2.2.2.2.2.2.1 u.2.2.2.2.2.2.2.2.2.2.2.2.1, kx_a j_v cyI 12 u.2.2.2.2.2.2.2.2.2.2.2.2.2.1, kx_a j_n cyI 12 u.2.2.2.2.2.2.2.2.2.2.2.2.2.2]) (va_A [kx_4 m_ q_row q_t t_ h0 k0 w_ z_ slots old, kx_2 q_t q_row q_joined q_from q_to q_size q_lossOf q_lessBy q_value q_number nodes here, kx_0 q_row q_cell len, kx_a q_cell cyI 160 f, kx_a q_from cyI 319 ff, kx_a q_to cyI 319 ft, kx_a q_size cyI 319 fs, kx_a q_lossOf cyI 319 fo, kx_a q_lessBy cyI 319 fe, kx_a q_value cyI 1914 uv, kx_a q_number cyI 1914 un, kx_3 q_joined j_v j_n js jl je, kx_a j_v cyI 12 jv, kx_a j_n cyI 12 jn] sz)) 0 0 (va_A [kx_4 m_ q_row q_t t_ h0 k0 w_ z_ slots old, kx_2 q_t q_row q_joined q_from q_to q_size q_lossOf q_lessBy q_value q_number nodes here, kx_0 q_row q_cell len, kx_a q_cell cyI 160 f, kx_a q_from cyI 319 ff, kx_a q_to cyI 319 ft, kx_a q_size cyI 319 fs, kx_a q_lossOf cyI 319 fo, kx_a q_lessBy cyI 319 fe, kx_a q_value cyI 1914 uv, kx_a q_number cyI 1914 un, kx_3 q_joined j_v j_n js jl je, kx_a j_v cyI 12 jv, kx_a j_n cyI 12 jn] sz) := by
  refine Met.ofW (cc := cX4_holds) (maxL := 2) (ret := (some .int)) (by decide) rfl ?_
  intro p e s m args below meth c s₁ B hml hv
  obtain ⟨rfl, hsz, hP, hK, hD0⟩ := hv
  have hx := B.exec
  have hb := B.bytes
  have hr := B.returns
  have hts := atoms_spec (ws := wsX4_holds) B.pre
  have hown : s.vm.findClass RX4 = some m.cls := findClass_of_methodNamed B.named
  have hlocks := B.notSynchronized
  subst hsz
  have hD := hD0.self (sz := s.heap.size)
  generalize hAe : va_A [kx_4 m_ q_row q_t t_ h0 k0 w_ z_ slots old, kx_2 q_t q_row q_joined q_from q_to q_size q_lossOf q_lessBy q_value q_number nodes here, kx_0 q_row q_cell len, kx_a q_cell cyI 160 f, kx_a q_from cyI 319 ff, kx_a q_to cyI 319 ft, kx_a q_size cyI 319 fs, kx_a q_lossOf cyI 319 fo, kx_a q_lessBy cyI 319 fe, kx_a q_value cyI 1914 uv, kx_a q_number cyI 1914 un, kx_3 q_joined j_v j_n js jl je, kx_a j_v cyI 12 jv, kx_a j_n cyI 12 jn] s.heap.size = A at hD ⊢
  have hA : ∀ q : Nat, s.heap.size ≤ q → A q := fun q h => by rw [← hAe]; exact Or.inr h
  have hS : va_S A s.heap s.heap [] := va_S.rf
  have hP : va_P (dC, dI) vwCl [kx_4 m_ q_row q_t t_ h0 k0 w_ z_ slots old, kx_2 q_t q_row q_joined q_from q_to q_size q_lossOf q_lessBy q_value q_number nodes here, kx_0 q_row q_cell len, kx_a q_cell cyI 160 f, kx_a q_from cyI 319 ff, kx_a q_to cyI 319 ft, kx_a q_size cyI 319 fs, kx_a q_lossOf cyI 319 fo, kx_a q_lessBy cyI 319 fe, kx_a q_value cyI 1914 uv, kx_a q_number cyI 1914 un, kx_3 q_joined j_v j_n js jl je, kx_a j_v cyI 12 jv, kx_a j_n cyI 12 jn] s.heap := hP
  have hl := lv_entry ([.ref m_, .int p0]) (n := 2) (Nat.le_of_ble_eq_true rfl)
  rw [lg_entry_eq]
  generalize (lg_sl ([.ref m_, .int p0]) ++ List.replicate (2 - (lg_sl ([.ref m_, .int p0])).length) Slot.unset).toArray = ls at hl ⊢
  have hl : lv_has ls 2 [(0, .ref m_), (1, .int p0)] := hl
  have hf_12 := hts (.fieldLink RX4 12 "MajorityIndex" "row" "LMajorityIndex$Row;") (List.mem_of_getElem? (i := 1) rfl)
  have hi_4 : ∀ w ∈ u_ws RX4 TX4 9, w ∈ wsX4_holds := fun w h => List.mem_cons_of_mem _ (List.mem_append_left _ (List.mem_append_left _ (List.mem_append_left _ (List.mem_append_right _ h))))
  refine lv_aload_n hx hb dX4_holds_0 rfl (lv_at hl 0 rfl) ?_
  refine va_get (D := (dC, dI)) (ci := 4) (v := .ref q_row) (C := RX4) (T := TX4) (N := 9) hx hb hts hi_4 hown hK hP 0 rfl rfl 0 (by decide) hf_12 (fun _ h9 => h9) rfl dX4_holds_1 ?_
  refine lv_iload_n hx hb dX4_holds_4 rfl (lv_at hl 1 rfl) ?_
  have hPc := hP.sub (ws' := [kx_0 q_row q_cell len]) [2] rfl
  have hKc := hK.sub (tys' := []) [] rfl
  refine vp_callSi (W.runV (As := [.int p0]) (rest := []) ⟨hx, hb, hml, hown, hts⟩ (c_X0_hasPlace l dC dI q_row q_cell len p0) (cwV 1 hts gX4_holds_X0_hasPlace rfl rfl rfl (by decide +kernel) ⟨Nat.le_of_ble_eq_true rfl, Nat.le_of_ble_eq_true rfl⟩) ⟨fun a U g mk q => by obtain ⟨q0, qP, qK⟩ := q; exact ⟨q0, qP, va_K.moved (u := U) (U := U.calling g mk a) (Vm.Alike.refl U.vm) qK⟩, va_recv hKc hPc (ci := 0) (q0 := 0) rfl rfl, fun U hU hW => ⟨rfl, by rw [hU]; exact hPc, va_K.moved hW.alike hKc⟩⟩ rfl rfl hl.1 rfl (lv_room (Nat.le_of_ble_eq_true rfl)) dX4_holds_5 ⟨Nat.le_of_ble_eq_true rfl, Nat.le_of_ble_eq_true rfl⟩) (fun r_1 w_1 => ?_)
  rcases w_1 with ⟨rfl, w_1⟩ | ⟨rfl, w_1⟩
  · have w_1 : (0 ≤ p0.toInt ∧ p0.toInt < len.toInt) := w_1
    refine lv_if_ne (tgt := 13) hx hb dX4_holds_8 (by decide) (fun c_2 => ?_) (fun c_2 => ?_)
    · refine lv_aload_n hx hb dX4_holds_13 rfl (lv_at hl 0 rfl) ?_
      have hPc := hP
      have hKc := hK
      have hDc := hD
      have hFc := kx_free hD hS hA
      refine va_callr (va_runV (As := []) (rest := []) ⟨hx, hb, hml, hown, hts⟩ (c_X4_laidTree_x l dC dI m_ q_row q_t t_ h0 k0 w_ z_ slots old q_joined q_from q_to q_size q_lossOf q_lessBy q_value q_number nodes here q_cell cyI len f ff ft fs fo uv un fe j_v j_n js jl je jv jn s.heap.size a0 a1 s0 sl0 sl1 l0) (cwV 0 hts gX4_holds_X4_laidTree rfl rfl rfl (by decide +kernel) ⟨Nat.le_of_ble_eq_true rfl, Nat.le_of_ble_eq_true rfl⟩) ⟨fun a U g mk q => by obtain ⟨q0, q1, qP, qK, qD⟩ := q; exact ⟨q0, q1, qP, va_K.moved (u := U) (U := U.calling g mk a) (Vm.Alike.refl U.vm) qK, qD⟩, va_recv hKc hPc (ci := 4) (q0 := 0) rfl rfl, fun U hU hW => ⟨rfl, by rw [hU], by rw [hU]; exact hPc, va_K.moved hW.alike hKc, hDc.weaken (fun _ _ _ _ => trivial)⟩⟩ rfl rfl hl.1 rfl (lv_room (Nat.le_of_ble_eq_true rfl)) dX4_holds_14 ⟨Nat.le_of_ble_eq_true rfl, Nat.le_of_ble_eq_true rfl⟩) hS (fun q _ h => hFc q h) hFc (fun u ra t H1 locs ht hvm w_3 hB hz1 hk1 hS => ?_)
      obtain ⟨o_4, o_5, o_6, o_7, o_8, o_9, o_10, o_11, o_12, o_13, o_14, o_15, o_16, o_17, o_18⟩ := u
      dsimp only at w_3 hB
      obtain ⟨er, hP1, hK1, hD1⟩ := hB
      rw [ht] at hP1
      have hK1 := va_K.moved hvm.symm hK1
      have hD := hD1.weaken (fun _ q _ h => hFc q.1 h)
      have hP := hP1
      clear hP1 hD1 hK1 hk1 hz1 hFc hDc hPc hKc
      generalize H1 = H at hP hS ⊢
      have w_3 : o_4.toInt = 0 ∧ o_6 = slots ∧ sixes o_9 ∧ mj_C slots.toNatClampNeg f o_7 o_8 o_9 o_10 o_11 o_12 o_13 o_5.toInt len.toInt ∧ 0 ≤ o_5.toInt ∧ o_5.toInt ≤ 319 ∧ treeOk o_7 o_8 o_5.toInt len.toInt := w_3
      rw [er]
      have i_hs := congrArg Int32.toInt w_3.2.1
      refine lv_iload_n hx hb dX4_holds_17 rfl (lv_at hl 1 rfl) ?_
      have hPc := hP.sub (ws' := [kx_2 q_t q_row q_joined q_from q_to q_size q_lossOf q_lessBy q_value q_number o_5 o_6, kx_0 q_row q_cell len, kx_a q_cell cyI 160 f, kx_a q_from cyI 319 o_7, kx_a q_to cyI 319 o_8, kx_a q_size cyI 319 o_9, kx_a q_value cyI 1914 o_12, kx_a q_number cyI 1914 o_13]) [1, 2, 3, 4, 5, 6, 9, 10] rfl
      have hKc := hK
      refine vp_callSi (W.runV (As := [.int p0]) (rest := []) ⟨hx, hb, hml, hown, hts⟩ (c_X2_holding_x l dC dI q_t q_row q_joined q_from q_to q_size q_lossOf q_lessBy q_value q_number o_5 o_6 q_cell cyI len f o_7 o_8 o_9 o_12 o_13 p0 w_3.2.2.2.2.1 w_3.2.2.2.2.2.1 w_3.2.2.1 (by omega) (by omega)) (cwV 1 hts gX4_holds_X2_holding rfl rfl rfl (by decide +kernel) ⟨Nat.le_of_ble_eq_true rfl, Nat.le_of_ble_eq_true rfl⟩) ⟨fun a U g mk q => by obtain ⟨q0, qP, qK⟩ := q; exact ⟨q0, qP, va_K.moved (u := U) (U := U.calling g mk a) (Vm.Alike.refl U.vm) qK⟩, va_recv hKc hPc (ci := 2) (q0 := 0) rfl rfl, fun U hU hW => ⟨rfl, by rw [hU]; exact hPc, va_K.moved hW.alike hKc⟩⟩ rfl rfl hl.1 rfl (lv_room (Nat.le_of_ble_eq_true rfl)) dX4_holds_18 ⟨Nat.le_of_ble_eq_true rfl, Nat.le_of_ble_eq_true rfl⟩) (fun r_19 w_19 => ?_)
      have w_19 : mj_hl o_7 o_8 o_9 o_12 o_13 o_5.toNatClampNeg p0.toInt (f p0.toNatClampNeg) r_19.toInt := w_19
      have hP9 := hP
      have hD9 := hD
      have hK9 := hK
      exact W.iret (v := r_19) hx hb hr (fun t ht hW => ⟨⟨r_19, (o_4, o_5, o_6, o_7, o_8, o_9, o_10, o_11, o_12, o_13, o_14, o_15, o_16, o_17, o_18), rfl, ⟨Or.inl ⟨(by (try dsimp only); omega), w_3.1, w_19⟩, (fun _ => ⟨w_3.2.1, w_3.2.2.2.1⟩), w_3.2.2.1⟩, by rw [ht]; exact hP9, va_K.moved hW.alike hK9, hD9⟩, hS.F ht⟩) hS.2.2 dX4_holds_21
    · exact absurd c_2 (by decide)
  · have w_1 : (p0.toInt < 0 ∨ len.toInt ≤ p0.toInt) := w_1
    refine lv_if_ne (tgt := 13) hx hb dX4_holds_8 (by decide) (fun c_20 => ?_) (fun c_20 => ?_)
    · exact absurd c_20 (by decide)
    · refine lv_iconst (v := (-1)) hx hb dX4_holds_11 (by decide) ?_
      have hP9 := hP
      have hD9 := hD
      have hK9 := hK
      exact W.iret (v := (-1)) hx hb hr (fun t ht hW => ⟨⟨(-1), (old, nodes, here, ff, ft, fs, fo, fe, uv, un, js, jl, je, jv, jn), rfl, ⟨Or.inr ⟨(by (try dsimp only); omega), rfl⟩, l0, s0⟩, by rw [ht]; exact hP9, va_K.moved hW.alike hK9, hD9⟩, hS.F ht⟩) hS.2.2 dX4_holds_12

set_option maxHeartbeats 4000000 in
set_option maxRecDepth 100000 in
theorem c_X5_holds_x (l : Launch) (dC : Nat → ClassId) (dI : Nat → Nat → Nat) (h0 : Nat) (g_row : Nat) (g_many : Nat) (g_loss : Nat) (g_less : Nat) (g_voteValue : Nat) (g_voteNumber : Nat) (g_allValue : Nat) (g_allNumber : Nat) (g_nodeL : Nat) (g_nodeR : Nat) (g_part : Nat) (g_wasMany : Nat) (g_wasLoss : Nat) (g_wasValue : Nat) (g_wasNumber : Nat) (g_path : Nat) (g_heavyValue : Nat) (g_heavyTimes : Nat) (g_fewest : Nat) (g_which : Nat) (g_met : Nat) (m_n : Int32) (m_slots : Int32) (m_thrown : Int32) (m_allMany : Int32) (m_nodes : Int32) (m_partMany : Int32) (m_pathMany : Int32) (m_heavyMany : Int32) (m_mostMet : Int32) (cyI : ClassId) (fm : Nat → Int32) (fl : Nat → Int32) (fe : Nat → Int32) (vv : Nat → Int32) (vn : Nat → Int32) (f : Nat → Int32) (av : Nat → Int32) (an : Nat → Int32) (nl : Nat → Int32) (nr : Nat → Int32) (gw : Nat → Int32) (p0 : Int32) (sz : Nat) (a0 : 0 ≤ m_n.toInt) (a1 : m_n.toInt ≤ 160) (sl0 : 1 ≤ m_slots.toInt) (sl1 : m_slots.toInt ≤ 6) (s4 : six4 fm) : Met l yX5_holds wsX5_holds ({ frames := 13, cells := 0, slots := 0, locals := 585 }) (va_Pc [.ref h0, .int p0] (fun U => U.heap.size = sz ∧ va_P (dC, dI) vwCl [kx_5 h0 g_row m_n m_slots m_thrown g_many g_loss g_less g_voteValue g_voteNumber g_allValue g_allNumber m_allMany g_nodeL g_nodeR m_nodes g_part m_partMany g_wasMany g_wasLoss g_wasValue g_wasNumber g_path m_pathMany g_heavyValue g_heavyTimes m_heavyMany g_fewest g_which g_met m_mostMet, kx_a g_row cyI 160 f, kx_a g_many cyI 324 fm, kx_a g_loss cyI 324 fl, kx_a g_less cyI 324 fe, kx_a g_voteValue cyI 1944 vv, kx_a g_voteNumber cyI 1944 vn, kx_a g_allValue cyI 12 av, kx_a g_allNumber cyI 12 an, kx_a g_nodeL cyI 320 nl, kx_a g_nodeR cyI 320 nr, kx_a g_path cyI 12 gw] U.heap ∧ va_K (dC, dI) vwCl [(cyI, .int)] U ∧ va_D (fun _ => True) [kx_5 h0 g_row m_n m_slots m_thrown g_many g_loss g_less g_voteValue g_voteNumber g_allValue g_allNumber m_allMany g_nodeL g_nodeR m_nodes g_part m_partMany g_wasMany g_wasLoss g_wasValue g_wasNumber g_path m_pathMany g_heavyValue g_heavyTimes m_heavyMany g_fewest g_which g_met m_mostMet, kx_a g_row cyI 160 f, kx_a g_many cyI 324 fm, kx_a g_loss cyI 324 fl, kx_a g_less cyI 324 fe, kx_a g_voteValue cyI 1944 vv, kx_a g_voteNumber cyI 1944 vn, kx_a g_allValue cyI 12 av, kx_a g_allNumber cyI 12 an, kx_a g_nodeL cyI 320 nl, kx_a g_nodeR cyI 320 nr, kx_a g_path cyI 12 gw])) (va_Qi (fun (r : Int32) (u : Int32 × Int32 × (Nat → Int32) × (Nat → Int32) × (Nat → Int32) × (Nat → Int32) × (Nat → Int32) × (Nat → Int32) × (Nat → Int32) × (Nat → Int32) × (Nat → Int32) × Int32 × (Nat → Int32)) => (((0 ≤ p0.toInt ∧ p0.toInt < m_n.toInt) ∧ (mj_L m_slots.toNatClampNeg f u.2.2.2.2.2.2.2.2.2.1 u.2.2.2.2.2.2.2.2.2.2.1 u.2.2.1 u.2.2.2.1 u.2.2.2.2.1 u.2.2.2.2.2.1 u.2.2.2.2.2.2.1 m_n.toInt u.1.toInt ∧ 0 ≤ u.1.toInt ∧ u.1.toInt ≤ 319) ∧ mj_hl u.2.2.2.2.2.2.2.2.2.1 u.2.2.2.2.2.2.2.2.2.2.1 u.2.2.1 u.2.2.2.2.2.1 u.2.2.2.2.2.2.1 u.1.toNatClampNeg p0.toInt (f p0.toNatClampNeg) r.toInt) ∨ ((p0.toInt < 0 ∨ m_n.toInt ≤ p0.toInt) ∧ r = -1)) ∧ six4 u.2.2.1) (fun (u : Int32 × Int32 × (Nat → Int32) × (Nat → Int32) × (Nat → Int32) × (Nat → Int32) × (Nat → Int32) × (Nat → Int32) × (Nat → Int32) × (Nat → Int32) × (Nat → Int32) × Int32 × (Nat → Int32)) (t : State) => va_P (dC, dI) vwCl [kx_5 h0 g_row m_n m_slots 0 g_many g_loss g_less g_voteValue g_voteNumber g_allValue g_allNumber u.2.1 g_nodeL g_nodeR u.1 g_part m_partMany g_wasMany g_wasLoss g_wasValue g_wasNumber g_path u.2.2.2.2.2.2.2.2.2.2.2.1 g_heavyValue g_heavyTimes m_heavyMany g_fewest g_which g_met m_mostMet, kx_a g_row cyI 160 f, kx_a g_many cyI 324 u.2.2.1, kx_a g_loss cyI 324 u.2.2.2.1, kx_a g_less cyI 324 u.2.2.2.2.1, kx_a g_voteValue cyI 1944 u.2.2.2.2.2.1, kx_a g_voteNumber cyI 1944 u.2.2.2.2.2.2.1, kx_a g_allValue cyI 12 u.2.2.2.2.2.2.2.1, kx_a g_allNumber cyI 12 u.2.2.2.2.2.2.2.2.1, kx_a g_nodeL cyI 320 u.2.2.2.2.2.2.2.2.2.1, kx_a g_nodeR cyI 320 u.2.2.2.2.2.2.2.2.2.2.1, kx_a g_path cyI 12 u.2.2.2.2.2.2.2.2.2.2.2.2] t.heap ∧ va_K (dC, dI) vwCl [(cyI, .int)] t ∧ va_D (va_A [kx_5 h0 g_row m_n m_slots m_thrown g_many g_loss g_less g_voteValue g_voteNumber g_allValue g_allNumber m_allMany g_nodeL g_nodeR m_nodes g_part m_partMany g_wasMany g_wasLoss g_wasValue g_wasNumber g_path m_pathMany g_heavyValue g_heavyTimes m_heavyMany g_fewest g_which g_met m_mostMet, kx_a g_row cyI 160 f, kx_a g_many cyI 324 fm, kx_a g_loss cyI 324 fl, kx_a g_less cyI 324 fe, kx_a g_voteValue cyI 1944 vv, kx_a g_voteNumber cyI 1944 vn, kx_a g_allValue cyI 12 av, kx_a g_allNumber cyI 12 an, kx_a g_nodeL cyI 320 nl, kx_a g_nodeR cyI 320 nr, kx_a g_path cyI 12 gw] sz) [kx_5 h0 g_row m_n m_slots 0 g_many g_loss g_less g_voteValue g_voteNumber g_allValue g_allNumber u.2.1 g_nodeL g_nodeR u.1 g_part m_partMany g_wasMany g_wasLoss g_wasValue g_wasNumber g_path u.2.2.2.2.2.2.2.2.2.2.2.1 g_heavyValue g_heavyTimes m_heavyMany g_fewest g_which g_met m_mostMet, kx_a g_row cyI 160 f, kx_a g_many cyI 324 u.2.2.1, kx_a g_loss cyI 324 u.2.2.2.1, kx_a g_less cyI 324 u.2.2.2.2.1, kx_a g_voteValue cyI 1944 u.2.2.2.2.2.1, kx_a g_voteNumber cyI 1944 u.2.2.2.2.2.2.1, kx_a g_allValue cyI 12 u.2.2.2.2.2.2.2.1, kx_a g_allNumber cyI 12 u.2.2.2.2.2.2.2.2.1, kx_a g_nodeL cyI 320 u.2.2.2.2.2.2.2.2.2.1, kx_a g_nodeR cyI 320 u.2.2.2.2.2.2.2.2.2.2.1, kx_a g_path cyI 12 u.2.2.2.2.2.2.2.2.2.2.2.2]) (va_A [kx_5 h0 g_row m_n m_slots m_thrown g_many g_loss g_less g_voteValue g_voteNumber g_allValue g_allNumber m_allMany g_nodeL g_nodeR m_nodes g_part m_partMany g_wasMany g_wasLoss g_wasValue g_wasNumber g_path m_pathMany g_heavyValue g_heavyTimes m_heavyMany g_fewest g_which g_met m_mostMet, kx_a g_row cyI 160 f, kx_a g_many cyI 324 fm, kx_a g_loss cyI 324 fl, kx_a g_less cyI 324 fe, kx_a g_voteValue cyI 1944 vv, kx_a g_voteNumber cyI 1944 vn, kx_a g_allValue cyI 12 av, kx_a g_allNumber cyI 12 an, kx_a g_nodeL cyI 320 nl, kx_a g_nodeR cyI 320 nr, kx_a g_path cyI 12 gw] sz)) 0 0 (va_A [kx_5 h0 g_row m_n m_slots m_thrown g_many g_loss g_less g_voteValue g_voteNumber g_allValue g_allNumber m_allMany g_nodeL g_nodeR m_nodes g_part m_partMany g_wasMany g_wasLoss g_wasValue g_wasNumber g_path m_pathMany g_heavyValue g_heavyTimes m_heavyMany g_fewest g_which g_met m_mostMet, kx_a g_row cyI 160 f, kx_a g_many cyI 324 fm, kx_a g_loss cyI 324 fl, kx_a g_less cyI 324 fe, kx_a g_voteValue cyI 1944 vv, kx_a g_voteNumber cyI 1944 vn, kx_a g_allValue cyI 12 av, kx_a g_allNumber cyI 12 an, kx_a g_nodeL cyI 320 nl, kx_a g_nodeR cyI 320 nr, kx_a g_path cyI 12 gw] sz) := by
  refine Met.ofW (cc := cX5_holds) (maxL := 3) (ret := (some .int)) (by decide) rfl ?_
  intro p e s m args below meth c s₁ B hml hv
  obtain ⟨rfl, hsz, hP, hK, hD0⟩ := hv
  have hx := B.exec
  have hb := B.bytes
  have hr := B.returns
  have hts := atoms_spec (ws := wsX5_holds) B.pre
  have hown : s.vm.findClass RX5 = some m.cls := findClass_of_methodNamed B.named
  have hlocks := B.notSynchronized
  subst hsz
  have hD := hD0.self (sz := s.heap.size)
  generalize hAe : va_A [kx_5 h0 g_row m_n m_slots m_thrown g_many g_loss g_less g_voteValue g_voteNumber g_allValue g_allNumber m_allMany g_nodeL g_nodeR m_nodes g_part m_partMany g_wasMany g_wasLoss g_wasValue g_wasNumber g_path m_pathMany g_heavyValue g_heavyTimes m_heavyMany g_fewest g_which g_met m_mostMet, kx_a g_row cyI 160 f, kx_a g_many cyI 324 fm, kx_a g_loss cyI 324 fl, kx_a g_less cyI 324 fe, kx_a g_voteValue cyI 1944 vv, kx_a g_voteNumber cyI 1944 vn, kx_a g_allValue cyI 12 av, kx_a g_allNumber cyI 12 an, kx_a g_nodeL cyI 320 nl, kx_a g_nodeR cyI 320 nr, kx_a g_path cyI 12 gw] s.heap.size = A at hD ⊢
  have hA : ∀ q : Nat, s.heap.size ≤ q → A q := fun q h => by rw [← hAe]; exact Or.inr h
  have hS : va_S A s.heap s.heap [] := va_S.rf
  have hP : va_P (dC, dI) vwCl [kx_5 h0 g_row m_n m_slots m_thrown g_many g_loss g_less g_voteValue g_voteNumber g_allValue g_allNumber m_allMany g_nodeL g_nodeR m_nodes g_part m_partMany g_wasMany g_wasLoss g_wasValue g_wasNumber g_path m_pathMany g_heavyValue g_heavyTimes m_heavyMany g_fewest g_which g_met m_mostMet, kx_a g_row cyI 160 f, kx_a g_many cyI 324 fm, kx_a g_loss cyI 324 fl, kx_a g_less cyI 324 fe, kx_a g_voteValue cyI 1944 vv, kx_a g_voteNumber cyI 1944 vn, kx_a g_allValue cyI 12 av, kx_a g_allNumber cyI 12 an, kx_a g_nodeL cyI 320 nl, kx_a g_nodeR cyI 320 nr, kx_a g_path cyI 12 gw] s.heap := hP
  have hl := lv_entry ([.ref h0, .int p0]) (n := 3) (Nat.le_of_ble_eq_true rfl)
  rw [lg_entry_eq]
  generalize (lg_sl ([.ref h0, .int p0]) ++ List.replicate (3 - (lg_sl ([.ref h0, .int p0])).length) Slot.unset).toArray = ls at hl ⊢
  have hl : lv_has ls 3 [(0, .ref h0), (1, .int p0)] := hl
  have hf_77 := hts (.fieldLink RX5 77 "MajorityIndexModel" "thrown" "I") (List.mem_of_getElem? (i := 1) rfl)
  have hi_5 : ∀ w ∈ u_ws RX5 TX5 30, w ∈ wsX5_holds := fun w h => List.mem_cons_of_mem _ (List.mem_append_right _ h)
  have hf_159 := hts (.fieldLink RX5 159 "MajorityIndexModel" "pathMany" "I") (List.mem_of_getElem? (i := 2) rfl)
  have hf_59 := hts (.fieldLink RX5 59 "MajorityIndexModel" "path" "[I") (List.mem_of_getElem? (i := 3) rfl)
  have hf_7 := hts (.fieldLink RX5 7 "MajorityIndexModel" "row" "[I") (List.mem_of_getElem? (i := 4) rfl)
  refine lv_aload_n hx hb dX5_holds_0 rfl (lv_at hl 0 rfl) ?_
  refine lv_iconst (v := 0) hx hb dX5_holds_1 (by decide) ?_
  refine va_put (D := (dC, dI)) (ci := 5) (v := .int 0) (ty := .int) (C := RX5) (T := TX5) (N := 30) hx hb hts hi_5 tyX5 tyX5_ok nmX5 hown hK hP hD hS 0 rfl rfl 3 (by decide) hf_77 (fun _ h9 => h9) rfl (by decide +kernel) rfl rfl (Nat.le_of_ble_eq_true rfl) dX5_holds_2 (fun H locs hP hD hS => ?_)
  have hP : va_P (dC, dI) vwCl [kx_5 h0 g_row m_n m_slots 0 g_many g_loss g_less g_voteValue g_voteNumber g_allValue g_allNumber m_allMany g_nodeL g_nodeR m_nodes g_part m_partMany g_wasMany g_wasLoss g_wasValue g_wasNumber g_path m_pathMany g_heavyValue g_heavyTimes m_heavyMany g_fewest g_which g_met m_mostMet, kx_a g_row cyI 160 f, kx_a g_many cyI 324 fm, kx_a g_loss cyI 324 fl, kx_a g_less cyI 324 fe, kx_a g_voteValue cyI 1944 vv, kx_a g_voteNumber cyI 1944 vn, kx_a g_allValue cyI 12 av, kx_a g_allNumber cyI 12 an, kx_a g_nodeL cyI 320 nl, kx_a g_nodeR cyI 320 nr, kx_a g_path cyI 12 gw] H := hP
  have hD : va_D A [kx_5 h0 g_row m_n m_slots 0 g_many g_loss g_less g_voteValue g_voteNumber g_allValue g_allNumber m_allMany g_nodeL g_nodeR m_nodes g_part m_partMany g_wasMany g_wasLoss g_wasValue g_wasNumber g_path m_pathMany g_heavyValue g_heavyTimes m_heavyMany g_fewest g_which g_met m_mostMet, kx_a g_row cyI 160 f, kx_a g_many cyI 324 fm, kx_a g_loss cyI 324 fl, kx_a g_less cyI 324 fe, kx_a g_voteValue cyI 1944 vv, kx_a g_voteNumber cyI 1944 vn, kx_a g_allValue cyI 12 av, kx_a g_allNumber cyI 12 an, kx_a g_nodeL cyI 320 nl, kx_a g_nodeR cyI 320 nr, kx_a g_path cyI 12 gw] := hD
  refine lv_aload_n hx hb dX5_holds_5 rfl (lv_at hl 0 rfl) ?_
  refine lv_iload_n hx hb dX5_holds_6 rfl (lv_at hl 1 rfl) ?_
  have hPc := hP.sub (ws' := [kx_5 h0 g_row m_n m_slots 0 g_many g_loss g_less g_voteValue g_voteNumber g_allValue g_allNumber m_allMany g_nodeL g_nodeR m_nodes g_part m_partMany g_wasMany g_wasLoss g_wasValue g_wasNumber g_path m_pathMany g_heavyValue g_heavyTimes m_heavyMany g_fewest g_which g_met m_mostMet]) [0] rfl
  have hKc := hK.sub (tys' := []) [] rfl
  refine vp_callSi (W.runV (As := [.int p0]) (rest := []) ⟨hx, hb, hml, hown, hts⟩ (c_X5_isPlace l dC dI h0 g_row g_many g_loss g_less g_voteValue g_voteNumber g_allValue g_allNumber g_nodeL g_nodeR g_part g_wasMany g_wasLoss g_wasValue g_wasNumber g_path g_heavyValue g_heavyTimes g_fewest g_which g_met m_n m_slots 0 m_allMany m_nodes m_partMany m_pathMany m_heavyMany m_mostMet p0 a0 a1) (cwV 1 hts gX5_holds_X5_isPlace rfl rfl rfl (by decide +kernel) ⟨Nat.le_of_ble_eq_true rfl, Nat.le_of_ble_eq_true rfl⟩) ⟨fun a U g mk q => by obtain ⟨q0, qP, qK⟩ := q; exact ⟨q0, qP, va_K.moved (u := U) (U := U.calling g mk a) (Vm.Alike.refl U.vm) qK⟩, va_recv hKc hPc (ci := 5) (q0 := 0) rfl rfl, fun U hU hW => ⟨rfl, by rw [hU]; exact hPc, va_K.moved hW.alike hKc⟩⟩ rfl rfl hl.1 rfl (lv_room (Nat.le_of_ble_eq_true rfl)) dX5_holds_7 ⟨Nat.le_of_ble_eq_true rfl, Nat.le_of_ble_eq_true rfl⟩) (fun r_1 w_1 => ?_)
  rcases w_1 with ⟨rfl, w_1⟩ | ⟨rfl, w_1⟩
  · have w_1 : (0 ≤ p0.toInt ∧ p0.toInt < m_n.toInt) := w_1
    refine lv_if_ne (tgt := 15) hx hb dX5_holds_10 (by decide) (fun c_2 => ?_) (fun c_2 => ?_)
    · refine lv_aload_n hx hb dX5_holds_15 rfl (lv_at hl 0 rfl) ?_
      refine lv_iload_n hx hb dX5_holds_16 rfl (lv_at hl 1 rfl) ?_
      have hPc := hP
      have hKc := hK
      have hDc := hD
      have hFc := kx_free hD hS hA
      refine va_callv (va_runV (As := [.int p0]) (rest := []) ⟨hx, hb, hml, hown, hts⟩ (c_X5_goesDown l dC dI h0 g_row g_many g_loss g_less g_voteValue g_voteNumber g_allValue g_allNumber g_nodeL g_nodeR g_part g_wasMany g_wasLoss g_wasValue g_wasNumber g_path g_heavyValue g_heavyTimes g_fewest g_which g_met m_n m_slots 0 m_allMany m_nodes m_partMany m_pathMany m_heavyMany m_mostMet cyI fm fl fe vv vn f av an nl nr gw p0 H.size a0 a1 sl0 sl1 s4) (cwV 1 hts gX5_holds_X5_goesDown rfl rfl rfl (by decide +kernel) ⟨Nat.le_of_ble_eq_true rfl, Nat.le_of_ble_eq_true rfl⟩) ⟨fun a U g mk q => by obtain ⟨q0, q1, qP, qK, qD⟩ := q; exact ⟨q0, q1, qP, va_K.moved (u := U) (U := U.calling g mk a) (Vm.Alike.refl U.vm) qK, qD⟩, va_recv hKc hPc (ci := 5) (q0 := 0) rfl rfl, fun U hU hW => ⟨rfl, by rw [hU], by rw [hU]; exact hPc, va_K.moved hW.alike hKc, hDc.weaken (fun _ _ _ _ => trivial)⟩⟩ rfl rfl hl.1 rfl (lv_room (Nat.le_of_ble_eq_true rfl)) dX5_holds_17 ⟨Nat.le_of_ble_eq_true rfl, Nat.le_of_ble_eq_true rfl⟩) hS (fun q _ h => hFc q h) hFc (fun u t H1 locs ht hvm w_3 hB hz1 hk1 hS => ?_)
      obtain ⟨o_4, o_5, o_6, o_7, o_8, o_9, o_10, o_11, o_12, o_13, o_14, o_15, o_16⟩ := u
      dsimp only at w_3 hB
      obtain ⟨hP1, hK1, hD1⟩ := hB
      rw [ht] at hP1
      have hK1 := va_K.moved hvm.symm hK1
      have hD := hD1.weaken (fun _ q _ h => hFc q.1 h)
      have hP := hP1
      clear hP1 hD1 hK1 hk1 hz1 hFc hDc hPc hKc
      generalize H1 = H at hP hS ⊢
      have w_3 : six4 o_6 ∧ mj_L m_slots.toNatClampNeg f o_13 o_14 o_6 o_7 o_8 o_9 o_10 m_n.toInt o_4.toInt ∧ 0 ≤ o_4.toInt ∧ o_4.toInt ≤ 319 ∧ 0 ≤ o_15.toInt ∧ o_15.toInt ≤ 9 ∧ o_15.toInt = (mj_pc o_13 o_14 p0.toInt 0 o_4.toNatClampNeg : Int) ∧ pathOk o_16 o_15.toInt o_4.toInt ∧ mj_pw o_13 o_14 p0.toInt o_16 o_4.toNatClampNeg := w_3
      refine lv_iconst (v := 0) hx hb dX5_holds_20 (by decide) ?_
      refine lv_istore_n (lv' := [(2, .int 0), (0, .ref h0), (1, .int p0)]) hx hb dX5_holds_21 rfl hl (by decide) rfl (fun ls hl => ?_)
      have LP1 : ∀ (n : Nat) (sm : Int32), (0 ≤ sm.toInt) → (sm.toInt ≤ o_15.toInt) → (∀ t : Nat, t < sm.toNatClampNeg → mj_nz o_6 o_9 o_10 (f p0.toNatClampNeg) (o_16 (o_15.toNatClampNeg - 1 - t)).toNatClampNeg) → (o_15.toInt - sm.toInt).toNat < n → ∀ (H : Heap) (locs : List Loc), va_P (dC, dI) vwCl [kx_5 h0 g_row m_n m_slots 0 g_many g_loss g_less g_voteValue g_voteNumber g_allValue g_allNumber o_5 g_nodeL g_nodeR o_4 g_part m_partMany g_wasMany g_wasLoss g_wasValue g_wasNumber g_path o_15 g_heavyValue g_heavyTimes m_heavyMany g_fewest g_which g_met m_mostMet, kx_a g_row cyI 160 f, kx_a g_many cyI 324 o_6, kx_a g_loss cyI 324 o_7, kx_a g_less cyI 324 o_8, kx_a g_voteValue cyI 1944 o_9, kx_a g_voteNumber cyI 1944 o_10, kx_a g_allValue cyI 12 o_11, kx_a g_allNumber cyI 12 o_12, kx_a g_nodeL cyI 320 o_13, kx_a g_nodeR cyI 320 o_14, kx_a g_path cyI 12 o_16] H → va_D A [kx_5 h0 g_row m_n m_slots 0 g_many g_loss g_less g_voteValue g_voteNumber g_allValue g_allNumber o_5 g_nodeL g_nodeR o_4 g_part m_partMany g_wasMany g_wasLoss g_wasValue g_wasNumber g_path o_15 g_heavyValue g_heavyTimes m_heavyMany g_fewest g_which g_met m_mostMet, kx_a g_row cyI 160 f, kx_a g_many cyI 324 o_6, kx_a g_loss cyI 324 o_7, kx_a g_less cyI 324 o_8, kx_a g_voteValue cyI 1944 o_9, kx_a g_voteNumber cyI 1944 o_10, kx_a g_allValue cyI 12 o_11, kx_a g_allNumber cyI 12 o_12, kx_a g_nodeL cyI 320 o_13, kx_a g_nodeR cyI 320 o_14, kx_a g_path cyI 12 o_16] → va_S A s.heap H locs → ∀ (ls : Array Slot), lv_has ls 3 [(2, .int sm), (0, .ref h0), (1, .int p0)] → W p l e (headSpec wsX5_holds ({ frames := 13, cells := 0, slots := 0, locals := 585 })).room s m ([.ref h0, .int p0] : List Value).toArray below meth c H locs 0 0 (MQ below (va_Qi (fun (r : Int32) (u : Int32 × Int32 × (Nat → Int32) × (Nat → Int32) × (Nat → Int32) × (Nat → Int32) × (Nat → Int32) × (Nat → Int32) × (Nat → Int32) × (Nat → Int32) × (Nat → Int32) × Int32 × (Nat → Int32)) => (((0 ≤ p0.toInt ∧ p0.toInt < m_n.toInt) ∧ (mj_L m_slots.toNatClampNeg f u.2.2.2.2.2.2.2.2.2.1 u.2.2.2.2.2.2.2.2.2.2.1 u.2.2.1 u.2.2.2.1 u.2.2.2.2.1 u.2.2.2.2.2.1 u.2.2.2.2.2.2.1 m_n.toInt u.1.toInt ∧ 0 ≤ u.1.toInt ∧ u.1.toInt ≤ 319) ∧ mj_hl u.2.2.2.2.2.2.2.2.2.1 u.2.2.2.2.2.2.2.2.2.2.1 u.2.2.1 u.2.2.2.2.2.1 u.2.2.2.2.2.2.1 u.1.toNatClampNeg p0.toInt (f p0.toNatClampNeg) r.toInt) ∨ ((p0.toInt < 0 ∨ m_n.toInt ≤ p0.toInt) ∧ r = -1)) ∧ six4 u.2.2.1) (fun (u : Int32 × Int32 × (Nat → Int32) × (Nat → Int32) × (Nat → Int32) × (Nat → Int32) × (Nat → Int32) × (Nat → Int32) × (Nat → Int32) × (Nat → Int32) × (Nat → Int32) × Int32 × (Nat → Int32)) (t : State) => va_P (dC, dI) vwCl [kx_5 h0 g_row m_n m_slots 0 g_many g_loss g_less g_voteValue g_voteNumber g_allValue g_allNumber u.2.1 g_nodeL g_nodeR u.1 g_part m_partMany g_wasMany g_wasLoss g_wasValue g_wasNumber g_path u.2.2.2.2.2.2.2.2.2.2.2.1 g_heavyValue g_heavyTimes m_heavyMany g_fewest g_which g_met m_mostMet, kx_a g_row cyI 160 f, kx_a g_many cyI 324 u.2.2.1, kx_a g_loss cyI 324 u.2.2.2.1, kx_a g_less cyI 324 u.2.2.2.2.1, kx_a g_voteValue cyI 1944 u.2.2.2.2.2.1, kx_a g_voteNumber cyI 1944 u.2.2.2.2.2.2.1, kx_a g_allValue cyI 12 u.2.2.2.2.2.2.2.1, kx_a g_allNumber cyI 12 u.2.2.2.2.2.2.2.2.1, kx_a g_nodeL cyI 320 u.2.2.2.2.2.2.2.2.2.1, kx_a g_nodeR cyI 320 u.2.2.2.2.2.2.2.2.2.2.1, kx_a g_path cyI 12 u.2.2.2.2.2.2.2.2.2.2.2.2] t.heap ∧ va_K (dC, dI) vwCl [(cyI, .int)] t ∧ va_D A [kx_5 h0 g_row m_n m_slots 0 g_many g_loss g_less g_voteValue g_voteNumber g_allValue g_allNumber u.2.1 g_nodeL g_nodeR u.1 g_part m_partMany g_wasMany g_wasLoss g_wasValue g_wasNumber g_path u.2.2.2.2.2.2.2.2.2.2.2.1 g_heavyValue g_heavyTimes m_heavyMany g_fewest g_which g_met m_mostMet, kx_a g_row cyI 160 f, kx_a g_many cyI 324 u.2.2.1, kx_a g_loss cyI 324 u.2.2.2.1, kx_a g_less cyI 324 u.2.2.2.2.1, kx_a g_voteValue cyI 1944 u.2.2.2.2.2.1, kx_a g_voteNumber cyI 1944 u.2.2.2.2.2.2.1, kx_a g_allValue cyI 12 u.2.2.2.2.2.2.2.1, kx_a g_allNumber cyI 12 u.2.2.2.2.2.2.2.2.1, kx_a g_nodeL cyI 320 u.2.2.2.2.2.2.2.2.2.1, kx_a g_nodeR cyI 320 u.2.2.2.2.2.2.2.2.2.2.1, kx_a g_path cyI 12 u.2.2.2.2.2.2.2.2.2.2.2.2]) A) ([.ref h0, .int p0] : List Value).toArray s 0 0 A) (F0 m 22 ls []) := by
        intro n
        induction n with
        | zero => intro sm LP1_h0 LP1_h1 LP1_h2 hn; exact absurd hn (Nat.not_lt_zero _)
        | succ n ih1 =>
          intro sm LP1_h0 LP1_h1 LP1_h2 hn1 H locs hP hD hS ls hl
          have n_sm := ki_nat sm rfl (by omega)
          refine lv_iload_n hx hb dX5_holds_22 rfl (lv_at hl 0 rfl) ?_
          refine lv_aload_n hx hb dX5_holds_23 rfl (lv_at hl 1 rfl) ?_
          refine va_get (D := (dC, dI)) (ci := 5) (v := .int o_15) (C := RX5) (T := TX5) (N := 30) hx hb hts hi_5 hown hK hP 0 rfl rfl 22 (by decide) hf_159 (fun _ h9 => h9) rfl dX5_holds_24 ?_
          refine lv_icmp_ge (tgt := 62) hx hb dX5_holds_27 (by decide) (fun c_17 => ?_) (fun c_17 => ?_)
          · have i_17 : o_15.toInt ≤ sm.toInt := kc_le c_17
            refine lv_iload_n hx hb dX5_holds_62 rfl (lv_at hl 0 rfl) ?_
            have hP9 := hP
            have hD9 := hD
            have hK9 := hK
            have n_pm := ki_nat o_15 rfl (by omega)
            have n_nd := ki_nat o_4 rfl (by omega)
            obtain ⟨d1, d2, d3, d4, d5, d6, d7, d8, d9⟩ := w_3
            have h_w : ∀ j : Nat, j < o_4.toNatClampNeg → mj_has o_13 o_14 p0.toInt j → o_15.toNatClampNeg ≤ mj_pc o_13 o_14 p0.toInt 0 j + sm.toNatClampNeg → mj_nz o_6 o_9 o_10 (f p0.toNatClampNeg) j := fun j j1 j2 j3 => by
              have g1 := mj_pc_yes j2
              have g2 := mj_pc_mono o_13 o_14 p0.toInt 0 (j + 1) o_4.toNatClampNeg (by omega)
              have g3 := LP1_h2 (o_15.toNatClampNeg - 1 - mj_pc o_13 o_14 p0.toInt 0 j) (by omega)
              rw [show o_15.toNatClampNeg - 1 - (o_15.toNatClampNeg - 1 - mj_pc o_13 o_14 p0.toInt 0 j) = mj_pc o_13 o_14 p0.toInt 0 j by omega] at g3
              have g4 := d9 j j1 j2
              have g5 := ki_nat (o_16 (mj_pc o_13 o_14 p0.toInt 0 j)) rfl (by omega)
              rw [show (o_16 (mj_pc o_13 o_14 p0.toInt 0 j)).toNatClampNeg = j by omega] at g3
              exact g3
            have h_h : mj_hl o_13 o_14 o_6 o_9 o_10 o_4.toNatClampNeg p0.toInt (f p0.toNatClampNeg) sm.toInt := ⟨0, Nat.zero_le _, fun j j1 j2 j3 => h_w j j2 j3 (by omega), (by show sm.toInt + ((0 : Nat) : Int) = _; omega), Or.inl rfl⟩
            exact W.iret (v := sm) hx hb hr (fun t ht hW => ⟨⟨sm, (o_4, o_5, o_6, o_7, o_8, o_9, o_10, o_11, o_12, o_13, o_14, o_15, o_16), rfl, ⟨Or.inl ⟨(by (try dsimp only); omega), ⟨d2, d3, d4⟩, h_h⟩, d1⟩, by rw [ht]; exact hP9, va_K.moved hW.alike hK9, hD9⟩, hS.F ht⟩) hS.2.2 dX5_holds_63
          · have i_17 : sm.toInt < o_15.toInt := kc_nle c_17
            refine lv_aload_n hx hb dX5_holds_30 rfl (lv_at hl 1 rfl) ?_
            refine lv_aload_n hx hb dX5_holds_31 rfl (lv_at hl 1 rfl) ?_
            refine va_get (D := (dC, dI)) (ci := 5) (v := .ref g_path) (C := RX5) (T := TX5) (N := 30) hx hb hts hi_5 hown hK hP 0 rfl rfl 21 (by decide) hf_59 (fun _ h9 => h9) rfl dX5_holds_32 ?_
            refine lv_aload_n hx hb dX5_holds_35 rfl (lv_at hl 1 rfl) ?_
            refine va_get (D := (dC, dI)) (ci := 5) (v := .int o_15) (C := RX5) (T := TX5) (N := 30) hx hb hts hi_5 hown hK hP 0 rfl rfl 22 (by decide) hf_159 (fun _ h9 => h9) rfl dX5_holds_36 ?_
            refine lv_iconst (v := 1) hx hb dX5_holds_39 (by decide) ?_
            refine lv_isub hx hb dX5_holds_40 ?_
            refine lv_topi (fun y_18 ey_18 => ?_)
            have i_18 : y_18.toInt = o_15.toInt - 1 := ki_sub ey_18 rfl rfl (by omega) (by omega)
            refine lv_iload_n hx hb dX5_holds_41 rfl (lv_at hl 0 rfl) ?_
            refine lv_isub hx hb dX5_holds_42 ?_
            refine lv_topi (fun y_19 ey_19 => ?_)
            have i_19 : y_19.toInt = y_18.toInt - sm.toInt := ki_sub ey_19 rfl rfl (by omega) (by omega)
            refine va_iald hx hb hK hP 11 0 rfl rfl (ki_in (by omega) (by omega)) dX5_holds_43 ?_
            refine lv_topi (fun y_20 ey_20 => ?_)
            have j_20 : y_20.toInt = (o_16 y_19.toNatClampNeg).toInt := congrArg Int32.toInt ey_20
            have n_21 : (y_19.toNatClampNeg : Int) = y_19.toInt := ki_nat _ rfl (by omega)
            have i_22 := w_3.2.2.2.2.2.2.2.1 y_19.toNatClampNeg (by omega)
            refine lv_aload_n hx hb dX5_holds_44 rfl (lv_at hl 1 rfl) ?_
            refine va_get (D := (dC, dI)) (ci := 5) (v := .ref g_row) (C := RX5) (T := TX5) (N := 30) hx hb hts hi_5 hown hK hP 0 rfl rfl 0 (by decide) hf_7 (fun _ h9 => h9) rfl dX5_holds_45 ?_
            refine lv_iload_n hx hb dX5_holds_48 rfl (lv_at hl 2 rfl) ?_
            refine va_iald hx hb hK hP 1 0 rfl rfl (ki_in (by omega) (by omega)) dX5_holds_49 ?_
            refine lv_topi (fun y_23 ey_23 => ?_)
            have j_23 : y_23.toInt = (f p0.toNatClampNeg).toInt := congrArg Int32.toInt ey_23
            have hPc := hP.sub (ws' := [kx_5 h0 g_row m_n m_slots 0 g_many g_loss g_less g_voteValue g_voteNumber g_allValue g_allNumber o_5 g_nodeL g_nodeR o_4 g_part m_partMany g_wasMany g_wasLoss g_wasValue g_wasNumber g_path o_15 g_heavyValue g_heavyTimes m_heavyMany g_fewest g_which g_met m_mostMet, kx_a g_many cyI 324 o_6, kx_a g_voteValue cyI 1944 o_9, kx_a g_voteNumber cyI 1944 o_10]) [0, 2, 5, 6] rfl
            have hKc := hK
            refine vp_callSi (W.runV (As := [.int y_20, .int y_23]) (rest := []) ⟨hx, hb, hml, hown, hts⟩ (c_X5_numberOf_x l dC dI h0 g_row g_many g_loss g_less g_voteValue g_voteNumber g_allValue g_allNumber g_nodeL g_nodeR g_part g_wasMany g_wasLoss g_wasValue g_wasNumber g_path g_heavyValue g_heavyTimes g_fewest g_which g_met m_n m_slots 0 o_5 o_4 m_partMany o_15 m_heavyMany m_mostMet cyI o_6 o_9 o_10 y_20 y_23 (by omega) (by omega) w_3.1) (cwV 2 hts gX5_holds_X5_numberOf rfl rfl rfl (by decide +kernel) ⟨Nat.le_of_ble_eq_true rfl, Nat.le_of_ble_eq_true rfl⟩) ⟨fun a U g mk q => by obtain ⟨q0, qP, qK⟩ := q; exact ⟨q0, qP, va_K.moved (u := U) (U := U.calling g mk a) (Vm.Alike.refl U.vm) qK⟩, va_recv hKc hPc (ci := 5) (q0 := 0) rfl rfl, fun U hU hW => ⟨rfl, by rw [hU]; exact hPc, va_K.moved hW.alike hKc⟩⟩ rfl rfl hl.1 rfl (lv_room (Nat.le_of_ble_eq_true rfl)) dX5_holds_50 ⟨Nat.le_of_ble_eq_true rfl, Nat.le_of_ble_eq_true rfl⟩) (fun r_24 w_24 => ?_)
            subst w_24
            refine lv_if_le (tgt := 62) hx hb dX5_holds_53 (by decide) (fun c_25 => ?_) (fun c_25 => ?_)
            · have i_25 : (mj_nb o_9 o_10 y_23 (6 * y_20.toNatClampNeg) (o_6 y_20.toNatClampNeg).toNatClampNeg).toInt ≤ 0 := kc_le c_25
              refine lv_iload_n hx hb dX5_holds_62 rfl (lv_at hl 0 rfl) ?_
              have hP9 := hP
              have hD9 := hD
              have hK9 := hK
              have n_pm := ki_nat o_15 rfl (by omega)
              have n_nd := ki_nat o_4 rfl (by omega)
              obtain ⟨d1, d2, d3, d4, d5, d6, d7, d8, d9⟩ := w_3
              have h_w : ∀ j : Nat, j < o_4.toNatClampNeg → mj_has o_13 o_14 p0.toInt j → o_15.toNatClampNeg ≤ mj_pc o_13 o_14 p0.toInt 0 j + sm.toNatClampNeg → mj_nz o_6 o_9 o_10 (f p0.toNatClampNeg) j := fun j j1 j2 j3 => by
                have g1 := mj_pc_yes j2
                have g2 := mj_pc_mono o_13 o_14 p0.toInt 0 (j + 1) o_4.toNatClampNeg (by omega)
                have g3 := LP1_h2 (o_15.toNatClampNeg - 1 - mj_pc o_13 o_14 p0.toInt 0 j) (by omega)
                rw [show o_15.toNatClampNeg - 1 - (o_15.toNatClampNeg - 1 - mj_pc o_13 o_14 p0.toInt 0 j) = mj_pc o_13 o_14 p0.toInt 0 j by omega] at g3
                have g4 := d9 j j1 j2
                have g5 := ki_nat (o_16 (mj_pc o_13 o_14 p0.toInt 0 j)) rfl (by omega)
                rw [show (o_16 (mj_pc o_13 o_14 p0.toInt 0 j)).toNatClampNeg = j by omega] at g3
                exact g3
              have n_26 := ki_nat y_19 rfl (by omega)
              have n_27 := ki_nat y_20 rfl (by omega)
              obtain ⟨q, q1, q2, q3⟩ := mj_pc_at o_13 o_14 p0.toInt (o_15.toNatClampNeg - 1 - sm.toNatClampNeg) o_4.toNatClampNeg (by omega)
              have q4 := d9 q q1 q2
              rw [q3] at q4
              have q5 : y_20.toNatClampNeg = q := by
                have q6 : y_20.toInt = (q : Int) := by rw [ey_20, show y_19.toNatClampNeg = o_15.toNatClampNeg - 1 - sm.toNatClampNeg by omega]; exact q4
                omega
              have q7 := mj_L_nb d2 (by omega) q (by omega) (f p0.toNatClampNeg)
              have q8 : (mj_nb o_9 o_10 y_23 (6 * y_20.toNatClampNeg) (o_6 y_20.toNatClampNeg).toNatClampNeg).toInt = (mj_nb o_9 o_10 (f p0.toNatClampNeg) (6 * q) (o_6 q).toNatClampNeg).toInt := by rw [← q5, ← ey_23]
              have q9 := mj_pc_yes q2
              have h_h : mj_hl o_13 o_14 o_6 o_9 o_10 o_4.toNatClampNeg p0.toInt (f p0.toNatClampNeg) sm.toInt := ⟨q + 1, by omega, fun j j1 j2 j3 => h_w j j2 j3 (by have := mj_pc_mono o_13 o_14 p0.toInt 0 (q + 1) j j1; omega), by omega, Or.inr ⟨q, rfl, q2, fun hz => hz (Int32.toInt_inj.mp (by have k0 : (0 : Int32).toInt = 0 := rfl; omega))⟩⟩
              exact W.iret (v := sm) hx hb hr (fun t ht hW => ⟨⟨sm, (o_4, o_5, o_6, o_7, o_8, o_9, o_10, o_11, o_12, o_13, o_14, o_15, o_16), rfl, ⟨Or.inl ⟨(by (try dsimp only); omega), ⟨d2, d3, d4⟩, h_h⟩, d1⟩, by rw [ht]; exact hP9, va_K.moved hW.alike hK9, hD9⟩, hS.F ht⟩) hS.2.2 dX5_holds_63
            · have i_25 : 0 < (mj_nb o_9 o_10 y_23 (6 * y_20.toNatClampNeg) (o_6 y_20.toNatClampNeg).toNatClampNeg).toInt := kc_nle c_25
              obtain ⟨x_28, ex_28⟩ : ∃ y : Int32, y = sm + 1 := ⟨_, rfl⟩
              have i_28 : x_28.toInt = sm.toInt + 1 := ki_add ex_28 rfl rfl (by omega) (by omega)
              refine lv_iinc (v := x_28) (lv' := [(2, .int x_28), (0, .ref h0), (1, .int p0)]) hx hb dX5_holds_56 hl (k := 0) rfl (by rw [ex_28]; rfl) (by decide) rfl (fun ls hl => ?_)
              refine lv_goto (tgt := 22) hx hb dX5_holds_59 (by decide) ?_
              have n_29 := ki_nat x_28 rfl (by omega)
              have n_30 := ki_nat y_19 rfl (by omega)
              have n_31 := ki_nat y_20 rfl (by omega)
              have n_32 := ki_nat o_15 rfl (by omega)
              exact ih1 x_28 (by omega) (by omega) (fun t ht => if h9 : t < sm.toNatClampNeg then LP1_h2 t h9 else (by rw [show o_15.toNatClampNeg - 1 - t = y_19.toNatClampNeg by omega]; unfold mj_nz; rw [← ey_20, ← ey_23]; exact fun h => by have k0 : (0 : Int32).toInt = 0 := rfl; have k9 := congrArg Int32.toInt h; omega)) (by omega) _ _ hP hD hS ls (lv_sub hl [0, 1, 2] rfl)
      have k_33 : (0 : Int32).toInt = 0 := rfl
      exact LP1 ((o_15.toInt - 0 : Int).toNat + 1) 0 (by omega) (by omega) (fun t ht => absurd ht (Nat.not_lt_zero t)) (Nat.lt_succ_self _) _ _ hP hD hS ls (lv_sub hl [0, 1, 2] rfl)
    · exact absurd c_2 (by decide)
  · have w_1 : (p0.toInt < 0 ∨ m_n.toInt ≤ p0.toInt) := w_1
    refine lv_if_ne (tgt := 15) hx hb dX5_holds_10 (by decide) (fun c_34 => ?_) (fun c_34 => ?_)
    · exact absurd c_34 (by decide)
    · refine lv_iconst (v := (-1)) hx hb dX5_holds_13 (by decide) ?_
      have hP9 := hP
      have hD9 := hD
      have hK9 := hK
      exact W.iret (v := (-1)) hx hb hr (fun t ht hW => ⟨⟨(-1), (m_nodes, m_allMany, fm, fl, fe, vv, vn, av, an, nl, nr, m_pathMany, gw), rfl, ⟨Or.inr ⟨(by (try dsimp only); omega), rfl⟩, s4⟩, by rw [ht]; exact hP9, va_K.moved hW.alike hK9, hD9⟩, hS.F ht⟩) hS.2.2 dX5_holds_14


