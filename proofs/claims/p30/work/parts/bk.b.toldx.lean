noncomputable def mj_nm (f ff ft : Nat → Int32) : Nat → Nat
  | 0 => 0
  | k + 1 => mj_nm f ff ft k + mj_hN f (ff k).toNatClampNeg ((ft k).toNatClampNeg - (ff k).toNatClampNeg)
theorem mj_nm_yes {f ff ft : Nat → Int32} {k k2 : Nat} (h : mj_hm f (ff k).toNatClampNeg ((ft k).toNatClampNeg - (ff k).toNatClampNeg)) (e : k2 = k + 1) : mj_nm f ff ft k2 = mj_nm f ff ft k + 1 := by
  subst e
  simp only [mj_nm]
  rw [mj_hN_yes h]
theorem mj_nm_no {f ff ft : Nat → Int32} {k k2 : Nat} (h : ¬ mj_hm f (ff k).toNatClampNeg ((ft k).toNatClampNeg - (ff k).toNatClampNeg)) (e : k2 = k + 1) : mj_nm f ff ft k2 = mj_nm f ff ft k := by
  subst e
  simp only [mj_nm]
  rw [mj_hN_no h, Nat.add_zero]
theorem mj_nm_le (f ff ft : Nat → Int32) : ∀ k : Nat, mj_nm f ff ft k ≤ k
  | 0 => Nat.le_refl 0
  | k + 1 => by
    have := mj_nm_le f ff ft k
    by_cases h : mj_hm f (ff k).toNatClampNeg ((ft k).toNatClampNeg - (ff k).toNatClampNeg)
    · rw [mj_nm_yes h rfl]; omega
    · rw [mj_nm_no h rfl]; omega
def mj_dp : Nat → Nat → Nat
  | 0, n => if n = 0 then 0 else 1
  | d + 1, n => if n < 2 then n else 1 + mj_dp d (n - n / 2)
theorem mj_dp_small {d n : Nat} (h : n < 2) : mj_dp d n = n := by
  cases d with
  | zero =>
    simp only [mj_dp]
    split <;> omega
  | succ d =>
    simp only [mj_dp]
    rw [if_pos h]
theorem mj_dp_big {d n n2 : Nat} (h : 2 ≤ n) (e : n2 = n - n / 2) : mj_dp (d + 1) n = 1 + mj_dp d n2 := by
  subst e
  simp only [mj_dp]
  rw [if_neg (by omega)]
theorem mj_dp_le : ∀ d n : Nat, mj_dp d n ≤ d + 1
  | 0, n => by
    simp only [mj_dp]
    split <;> omega
  | d + 1, n => by
    have := mj_dp_le d (n - n / 2)
    simp only [mj_dp]
    split <;> omega
theorem mj_dp_mono : ∀ (d a b : Nat), a ≤ b → mj_dp d a ≤ mj_dp d b
  | 0, a, b, h => by
    simp only [mj_dp]
    split <;> split <;> omega
  | d + 1, a, b, h => by
    have := mj_dp_mono d (a - a / 2) (b - b / 2) (by omega)
    simp only [mj_dp]
    split <;> split <;> omega
theorem mj_dp_up : ∀ (d n : Nat), n ≤ 2 ^ d → mj_dp (d + 1) n = mj_dp d n
  | 0, n, h => by
    have h1 : n ≤ 1 := h
    rw [mj_dp_small (by omega), mj_dp_small (by omega)]
  | d + 1, n, h => by
    by_cases h2 : n < 2
    · rw [mj_dp_small h2, mj_dp_small h2]
    · have e : 2 ^ (d + 1) = 2 * 2 ^ d := by rw [Nat.pow_succ, Nat.mul_comm]
      have h3 := mj_dp_up d (n - n / 2) (by omega)
      have h4 : mj_dp (d + 1 + 1) n = 1 + mj_dp (d + 1) (n - n / 2) := mj_dp_big (by omega) rfl
      have h5 : mj_dp (d + 1) n = 1 + mj_dp d (n - n / 2) := mj_dp_big (by omega) rfl
      omega
theorem mj_dp_step {n n2 : Nat} (h : 2 ≤ n) (hn : n ≤ 160) (e : n2 = n - n / 2) : mj_dp 8 n = 1 + mj_dp 8 n2 := by
  have h1 : mj_dp 8 n = 1 + mj_dp 7 n2 := mj_dp_big h e
  have h2 : mj_dp 8 n2 = mj_dp 7 n2 := mj_dp_up 7 n2 (show n2 ≤ 128 by omega)
  omega
theorem mj_dp_node {d n a b : Nat} (h : 2 ≤ n) (ea : a = n / 2) (eb : b = n - n / 2) : mj_dp (d + 1) n = 1 + mj_dp d b ∧ mj_dp d a ≤ mj_dp d b := ⟨mj_dp_big h eb, mj_dp_mono d a b (by omega)⟩
def mj_tld (f ff ft fo : Nat → Int32) (nd n sl : Int32) (what : Int) (r : Int32) : Prop := (what = 0 ∧ r = n) ∨ (what = 1 ∧ r = sl) ∨ (what = 2 ∧ r = nd) ∨ (what = 3 ∧ r.toInt = (mj_nm f ff ft nd.toNatClampNeg : Int)) ∨ (what = 4 ∧ r.toInt = (mj_dp 8 n.toNatClampNeg : Int)) ∨ (what = 5 ∧ n.toInt = 0 ∧ r = 0) ∨ (what = 5 ∧ 0 < n.toInt ∧ r = fo 0) ∨ (what = 6 ∧ r = mj_tot fo 0 nd.toNatClampNeg) ∨ ((what < 0 ∨ 6 < what) ∧ r = -1)
def mj_tl0 (n sl : Int32) (what : Int) (r : Int32) : Prop := (what = 0 ∧ r = n) ∨ (what = 1 ∧ r = sl) ∨ (what = 5 ∧ n.toInt = 0 ∧ r = 0) ∨ ((what < 0 ∨ 6 < what) ∧ r = -1)
set_option maxHeartbeats 4000000 in
set_option maxRecDepth 100000 in
theorem c_X2_nodesWithMajority_x (l : Launch) (dC : Nat → ClassId) (dI : Nat → Nat → Nat) (q_t : Nat) (q_row : Nat) (q_joined : Nat) (q_from : Nat) (q_to : Nat) (q_size : Nat) (q_lossOf : Nat) (q_lessBy : Nat) (q_value : Nat) (q_number : Nat) (nodes : Int32) (here : Int32) (q_cell : Nat) (cyI : ClassId) (len : Int32) (f : Nat → Int32) (ff : Nat → Int32) (ft : Nat → Int32) (b0 : 0 ≤ nodes.toInt) (c0 : nodes.toInt ≤ 319) (c1 : len.toInt ≤ 160) (t0 : treeOk ff ft nodes.toInt len.toInt) (s1 : shorts f) : Met l yX2_nodesWithMajority wsX2_nodesWithMajority ({ frames := 2, cells := 0, slots := 0, locals := 90 }) (va_Pc [.ref q_t] (fun U => va_P (dC, dI) vwCl [kx_2 q_t q_row q_joined q_from q_to q_size q_lossOf q_lessBy q_value q_number nodes here, kx_0 q_row q_cell len, kx_a q_cell cyI 160 f, kx_a q_from cyI 319 ff, kx_a q_to cyI 319 ft] U.heap ∧ va_K (dC, dI) vwCl [(cyI, .int)] U ∧ va_Nw (.methodLinkNest RX0 28 yX4_isHeavy RX4) U)) (vp_Si (fun r : Int32 => r.toInt = (mj_nm f ff ft nodes.toNatClampNeg : Int))) 0 0 (fun _ => False) := by
  refine Met.ofW (cc := cX2_nodesWithMajority) (maxL := 3) (ret := (some .int)) (by decide) rfl ?_
  intro p e s m args below meth c s₁ B hml hv
  obtain ⟨rfl, hP, hK, hN0⟩ := hv
  have hx := B.exec
  have hb := B.bytes
  have hr := B.returns
  have hts := atoms_spec (ws := wsX2_nodesWithMajority) B.pre
  have hown : s.vm.findClass RX2 = some m.cls := findClass_of_methodNamed B.named
  have hlocks := B.notSynchronized
  have hP : va_P (dC, dI) vwCl [kx_2 q_t q_row q_joined q_from q_to q_size q_lossOf q_lessBy q_value q_number nodes here, kx_0 q_row q_cell len, kx_a q_cell cyI 160 f, kx_a q_from cyI 319 ff, kx_a q_to cyI 319 ft] s.heap := hP
  have hl := lv_entry ([.ref q_t]) (n := 3) (Nat.le_of_ble_eq_true rfl)
  rw [lg_entry_eq]
  generalize (lg_sl ([.ref q_t]) ++ List.replicate (3 - (lg_sl ([.ref q_t])).length) Slot.unset).toArray = ls at hl ⊢
  have hl : lv_has ls 3 [(0, .ref q_t)] := hl
  have hf_50 := hts (.fieldLink RX2 50 "MajorityIndex$Tree" "nodes" "I") (List.mem_of_getElem? (i := 1) rfl)
  have hi_2 : ∀ w ∈ u_ws RX2 TX2 11, w ∈ wsX2_nodesWithMajority := fun w h => List.mem_cons_of_mem _ (List.mem_append_left _ (List.mem_append_right _ h))
  have hf_40 := hts (.fieldLink RX2 40 "MajorityIndex$Tree" "row" "LMajorityIndex$Row;") (List.mem_of_getElem? (i := 2) rfl)
  have hf_18 := hts (.fieldLink RX2 18 "MajorityIndex$Tree" "from" "[I") (List.mem_of_getElem? (i := 3) rfl)
  have hf_22 := hts (.fieldLink RX2 22 "MajorityIndex$Tree" "to" "[I") (List.mem_of_getElem? (i := 4) rfl)
  have hk_120 := hts (.constant RX2 120 (-40000)) (List.mem_of_getElem? (i := 5) rfl)
  have n_nd := ki_nat nodes rfl (by omega)
  refine lv_iconst (v := 0) hx hb dX2_nodesWithMajority_0 (by decide) ?_
  refine lv_istore_n (lv' := [(1, .int 0), (0, .ref q_t)]) hx hb dX2_nodesWithMajority_1 rfl hl (by decide) rfl (fun ls hl => ?_)
  refine lv_iconst (v := 0) hx hb dX2_nodesWithMajority_2 (by decide) ?_
  refine lv_istore_n (lv' := [(2, .int 0), (1, .int 0), (0, .ref q_t)]) hx hb dX2_nodesWithMajority_3 rfl hl (by decide) rfl (fun ls hl => ?_)
  have LP1 : ∀ (n : Nat) (i : Int32) (many : Int32), (0 ≤ i.toInt) → (many.toInt = (mj_nm f ff ft i.toNatClampNeg : Int)) → (i.toInt ≤ nodes.toInt) → (nodes.toInt - i.toInt).toNat < n → ∀ (ls : Array Slot), lv_has ls 3 [(2, .int i), (1, .int many), (0, .ref q_t)] → W p l e (headSpec wsX2_nodesWithMajority ({ frames := 2, cells := 0, slots := 0, locals := 90 })).room s m ([.ref q_t] : List Value).toArray below meth c s.heap [] 0 0 (MQ below (vp_Si (fun r : Int32 => r.toInt = (mj_nm f ff ft nodes.toNatClampNeg : Int))) ([.ref q_t] : List Value).toArray s 0 0 (fun _ => False)) (F0 m 4 ls []) := by
    intro n
    induction n with
    | zero => intro i many LP1_h0 LP1_h1 LP1_h2 hn; exact absurd hn (Nat.not_lt_zero _)
    | succ n ih1 =>
      intro i many LP1_h0 LP1_h1 LP1_h2 hn1 ls hl
      have n_i := ki_nat i rfl (by omega)
      have hle := mj_nm_le f ff ft i.toNatClampNeg
      refine lv_iload_n hx hb dX2_nodesWithMajority_4 rfl (lv_at hl 0 rfl) ?_
      refine lv_aload_n hx hb dX2_nodesWithMajority_5 rfl (lv_at hl 2 rfl) ?_
      refine va_get (D := (dC, dI)) (ci := 2) (v := .int nodes) (C := RX2) (T := TX2) (N := 11) hx hb hts hi_2 hown hK hP 0 rfl rfl 9 (by decide) hf_50 (fun _ h9 => h9) rfl dX2_nodesWithMajority_6 ?_
      refine lv_icmp_ge (tgt := 45) hx hb dX2_nodesWithMajority_9 (by decide) (fun c_1 => ?_) (fun c_1 => ?_)
      · have i_1 : nodes.toInt ≤ i.toInt := kc_le c_1
        refine lv_iload_n hx hb dX2_nodesWithMajority_45 rfl (lv_at hl 1 rfl) ?_
        exact W.iret (v := many) hx hb hr (fun t ht hW => ⟨many, rfl, (by (try dsimp only); rw [show nodes.toNatClampNeg = i.toNatClampNeg by omega]; exact LP1_h1), ht⟩) (fun q hq => by cases hq) dX2_nodesWithMajority_46
      · have i_1 : i.toInt < nodes.toInt := kc_nle c_1
        refine lv_aload_n hx hb dX2_nodesWithMajority_12 rfl (lv_at hl 2 rfl) ?_
        refine va_get (D := (dC, dI)) (ci := 2) (v := .ref q_row) (C := RX2) (T := TX2) (N := 11) hx hb hts hi_2 hown hK hP 0 rfl rfl 0 (by decide) hf_40 (fun _ h9 => h9) rfl dX2_nodesWithMajority_13 ?_
        refine lv_aload_n hx hb dX2_nodesWithMajority_16 rfl (lv_at hl 2 rfl) ?_
        refine va_get (D := (dC, dI)) (ci := 2) (v := .ref q_from) (C := RX2) (T := TX2) (N := 11) hx hb hts hi_2 hown hK hP 0 rfl rfl 2 (by decide) hf_18 (fun _ h9 => h9) rfl dX2_nodesWithMajority_17 ?_
        refine lv_iload_n hx hb dX2_nodesWithMajority_20 rfl (lv_at hl 0 rfl) ?_
        refine va_iald hx hb hK hP 3 0 rfl rfl (ki_in (by omega) (by omega)) dX2_nodesWithMajority_21 ?_
        refine lv_topi (fun y_2 ey_2 => ?_)
        have j_2 : y_2.toInt = (ff i.toNatClampNeg).toInt := congrArg Int32.toInt ey_2
        have n_3 : (i.toNatClampNeg : Int) = i.toInt := ki_nat _ rfl (by omega)
        have i_4 := t0 i.toNatClampNeg (by omega)
        unfold okAt at i_4
        refine lv_aload_n hx hb dX2_nodesWithMajority_22 rfl (lv_at hl 2 rfl) ?_
        refine va_get (D := (dC, dI)) (ci := 2) (v := .ref q_to) (C := RX2) (T := TX2) (N := 11) hx hb hts hi_2 hown hK hP 0 rfl rfl 3 (by decide) hf_22 (fun _ h9 => h9) rfl dX2_nodesWithMajority_23 ?_
        refine lv_iload_n hx hb dX2_nodesWithMajority_26 rfl (lv_at hl 0 rfl) ?_
        refine va_iald hx hb hK hP 4 0 rfl rfl (ki_in (by omega) (by omega)) dX2_nodesWithMajority_27 ?_
        refine lv_topi (fun y_5 ey_5 => ?_)
        have j_5 : y_5.toInt = (ft i.toNatClampNeg).toInt := congrArg Int32.toInt ey_5
        have n_6 : (i.toNatClampNeg : Int) = i.toInt := ki_nat _ rfl (by omega)
        have i_7 := t0 i.toNatClampNeg (by omega)
        unfold okAt at i_7
        have hPc := hP.sub (ws' := [kx_0 q_row q_cell len, kx_a q_cell cyI 160 f]) [1, 2] rfl
        have hKc := hK
        refine vp_callSi (W.runV (As := [.int y_2, .int y_5]) (rest := []) ⟨hx, hb, hml, hown, hts⟩ (c_X0_leader_x l dC dI q_row q_cell cyI len f y_2 y_5 (by omega) (by omega) (by omega)) (cwV 2 hts gX2_nodesWithMajority_X0_leader rfl rfl rfl (by decide +kernel) ⟨Nat.le_of_ble_eq_true rfl, Nat.le_of_ble_eq_true rfl⟩) ⟨fun a U g mk q => by obtain ⟨q0, qP, qK, qn0⟩ := q; exact ⟨q0, qP, va_K.moved (u := U) (U := U.calling g mk a) (Vm.Alike.refl U.vm) qK, va_Nw.same (u := U) (U := U.calling g mk a) rfl rfl qn0⟩, va_recv hKc hPc (ci := 0) (q0 := 0) rfl rfl, fun U hU hW => ⟨rfl, by rw [hU]; exact hPc, va_K.moved hW.alike hKc, va_Nw.warmM hW hN0⟩⟩ rfl rfl hl.1 rfl (lv_room (Nat.le_of_ble_eq_true rfl)) dX2_nodesWithMajority_28 ⟨Nat.le_of_ble_eq_true rfl, Nat.le_of_ble_eq_true rfl⟩) (fun r_8 w_8 => ?_)
        have w_8 : mj_maj f y_2.toNatClampNeg y_5.toNatClampNeg r_8 := w_8
        refine lv_ldc (v := (-40000)) hx hb hown hk_120 dX2_nodesWithMajority_31 ?_
        refine lv_icmp_eq (tgt := 39) hx hb dX2_nodesWithMajority_33 (by decide) (fun c_9 => ?_) (fun c_9 => ?_)
        · have i_9 : r_8.toInt = (-40000) := kc_eq c_9
          obtain ⟨x_10, ex_10⟩ : ∃ y : Int32, y = i + 1 := ⟨_, rfl⟩
          have i_10 : x_10.toInt = i.toInt + 1 := ki_add ex_10 rfl rfl (by omega) (by omega)
          refine lv_iinc (v := x_10) (lv' := [(2, .int x_10), (1, .int many), (0, .ref q_t)]) hx hb dX2_nodesWithMajority_39 hl (k := 0) rfl (by rw [ex_10]; rfl) (by decide) rfl (fun ls hl => ?_)
          refine lv_goto (tgt := 4) hx hb dX2_nodesWithMajority_42 (by decide) ?_
          have n_11 := ki_nat x_10 rfl (by omega)
          have n_f := ki_nat y_2 rfl (by omega)
          have n_t := ki_nat y_5 rfl (by omega)
          have hmi := mj_maj_hm w_8 s1 (by omega) (by omega)
          rw [ey_2, ey_5] at hmi
          have st := mj_nm_no (f := f) (ff := ff) (ft := ft) (k := i.toNatClampNeg) (k2 := x_10.toNatClampNeg) (fun h => hmi.mpr h c_9) (by omega)
          exact ih1 x_10 many (by omega) (by rw [st]; omega) (by omega) (by omega) ls (lv_sub hl [0, 1, 2] rfl)
        · have i_9 : ¬ r_8.toInt = (-40000) := kc_ne c_9
          obtain ⟨x_12, ex_12⟩ : ∃ y : Int32, y = many + 1 := ⟨_, rfl⟩
          have i_12 : x_12.toInt = many.toInt + 1 := ki_add ex_12 rfl rfl (by omega) (by omega)
          refine lv_iinc (v := x_12) (lv' := [(1, .int x_12), (2, .int i), (0, .ref q_t)]) hx hb dX2_nodesWithMajority_36 hl (k := 1) rfl (by rw [ex_12]; rfl) (by decide) rfl (fun ls hl => ?_)
          obtain ⟨x_13, ex_13⟩ : ∃ y : Int32, y = i + 1 := ⟨_, rfl⟩
          have i_13 : x_13.toInt = i.toInt + 1 := ki_add ex_13 rfl rfl (by omega) (by omega)
          refine lv_iinc (v := x_13) (lv' := [(2, .int x_13), (1, .int x_12), (0, .ref q_t)]) hx hb dX2_nodesWithMajority_39 hl (k := 1) rfl (by rw [ex_13]; rfl) (by decide) rfl (fun ls hl => ?_)
          refine lv_goto (tgt := 4) hx hb dX2_nodesWithMajority_42 (by decide) ?_
          have n_14 := ki_nat x_13 rfl (by omega)
          have n_f := ki_nat y_2 rfl (by omega)
          have n_t := ki_nat y_5 rfl (by omega)
          have hmi := mj_maj_hm w_8 s1 (by omega) (by omega)
          rw [ey_2, ey_5] at hmi
          have st := mj_nm_yes (f := f) (ff := ff) (ft := ft) (k := i.toNatClampNeg) (k2 := x_13.toNatClampNeg) (hmi.mp c_9) (by omega)
          exact ih1 x_13 x_12 (by omega) (by rw [st]; omega) (by omega) (by omega) ls (lv_sub hl [0, 1, 2] rfl)
  have k_15 : (0 : Int32).toInt = 0 := rfl
  have k_16 : (0 : Int32).toInt = 0 := rfl
  exact LP1 ((nodes.toInt - 0 : Int).toNat + 1) 0 0 (by omega) rfl (by omega) (Nat.lt_succ_self _) ls (lv_sub hl [0, 1, 2] rfl)

set_option maxHeartbeats 4000000 in
set_option maxRecDepth 100000 in
theorem c_X2_deepest_x (l : Launch) (dC : Nat → ClassId) (dI : Nat → Nat → Nat) (q_t : Nat) (q_row : Nat) (q_joined : Nat) (q_from : Nat) (q_to : Nat) (q_size : Nat) (q_lossOf : Nat) (q_lessBy : Nat) (q_value : Nat) (q_number : Nat) (nodes : Int32) (here : Int32) (q_cell : Nat) (len : Int32) (a0 : 0 ≤ len.toInt) (a1 : len.toInt ≤ 160) (nd : (len.toInt = 0 ∧ nodes.toInt = 0) ∨ (0 < len.toInt ∧ nodes.toInt = 2 * len.toInt - 1)) : Met l yX2_deepest wsX2_deepest ({ frames := 0, cells := 0, slots := 0, locals := 0 }) (va_Pc [.ref q_t] (fun U => va_P (dC, dI) vwCl [kx_2 q_t q_row q_joined q_from q_to q_size q_lossOf q_lessBy q_value q_number nodes here, kx_0 q_row q_cell len] U.heap ∧ va_K (dC, dI) vwCl [] U)) (vp_Si (fun r : Int32 => r.toInt = (mj_dp 8 len.toNatClampNeg : Int))) 0 0 (fun _ => False) := by
  refine Met.ofW (cc := cX2_deepest) (maxL := 3) (ret := (some .int)) (by decide) rfl ?_
  intro p e s m args below meth c s₁ B hml hv
  obtain ⟨rfl, hP, hK⟩ := hv
  have hx := B.exec
  have hb := B.bytes
  have hr := B.returns
  have hts := atoms_spec (ws := wsX2_deepest) B.pre
  have hown : s.vm.findClass RX2 = some m.cls := findClass_of_methodNamed B.named
  have hlocks := B.notSynchronized
  have hP : va_P (dC, dI) vwCl [kx_2 q_t q_row q_joined q_from q_to q_size q_lossOf q_lessBy q_value q_number nodes here, kx_0 q_row q_cell len] s.heap := hP
  have hl := lv_entry ([.ref q_t]) (n := 3) (Nat.le_of_ble_eq_true rfl)
  rw [lg_entry_eq]
  generalize (lg_sl ([.ref q_t]) ++ List.replicate (3 - (lg_sl ([.ref q_t])).length) Slot.unset).toArray = ls at hl ⊢
  have hl : lv_has ls 3 [(0, .ref q_t)] := hl
  have hf_50 := hts (.fieldLink RX2 50 "MajorityIndex$Tree" "nodes" "I") (List.mem_of_getElem? (i := 1) rfl)
  have hi_2 : ∀ w ∈ u_ws RX2 TX2 11, w ∈ wsX2_deepest := fun w h => List.mem_cons_of_mem _ (List.mem_append_left _ (List.mem_append_right _ h))
  have hf_40 := hts (.fieldLink RX2 40 "MajorityIndex$Tree" "row" "LMajorityIndex$Row;") (List.mem_of_getElem? (i := 2) rfl)
  have hf_44 := hts (.fieldLink RX2 44 "MajorityIndex$Row" "length" "I") (List.mem_of_getElem? (i := 3) rfl)
  have hi_0 : ∀ w ∈ u_ws RX0 TX0 2, w ∈ wsX2_deepest := fun w h => List.mem_cons_of_mem _ (List.mem_append_right _ h)
  have n_len := ki_nat len rfl (by omega)
  refine lv_aload_n hx hb dX2_deepest_0 rfl (lv_at hl 0 rfl) ?_
  refine va_get (D := (dC, dI)) (ci := 2) (v := .int nodes) (C := RX2) (T := TX2) (N := 11) hx hb hts hi_2 hown hK hP 0 rfl rfl 9 (by decide) hf_50 (fun _ h9 => h9) rfl dX2_deepest_1 ?_
  refine lv_if_ne (tgt := 11) hx hb dX2_deepest_4 (by decide) (fun c_1 => ?_) (fun c_1 => ?_)
  · have i_1 : ¬ nodes.toInt = 0 := kc_ne c_1
    refine lv_iconst (v := 1) hx hb dX2_deepest_11 (by decide) ?_
    refine lv_istore_n (lv' := [(1, .int 1), (0, .ref q_t)]) hx hb dX2_deepest_12 rfl hl (by decide) rfl (fun ls hl => ?_)
    refine lv_aload_n hx hb dX2_deepest_13 rfl (lv_at hl 1 rfl) ?_
    refine va_get (D := (dC, dI)) (ci := 2) (v := .ref q_row) (C := RX2) (T := TX2) (N := 11) hx hb hts hi_2 hown hK hP 0 rfl rfl 0 (by decide) hf_40 (fun _ h9 => h9) rfl dX2_deepest_14 ?_
    refine va_get (D := (dC, dI)) (ci := 0) (v := .int len) (C := RX0) (T := TX0) (N := 2) hx hb hts hi_0 hown hK hP 1 rfl rfl 1 (by decide) hf_44 (fun _ h9 => h9) rfl dX2_deepest_17 ?_
    refine lv_istore_n (lv' := [(2, .int len), (1, .int 1), (0, .ref q_t)]) hx hb dX2_deepest_20 rfl hl (by decide) rfl (fun ls hl => ?_)
    have LP1 : ∀ (n : Nat) (deep : Int32) (pl : Int32), (0 ≤ pl.toInt) → (pl.toInt ≤ 160) → ((pl.toInt = 0 ∧ len.toInt = 0 ∧ deep.toInt = 0) ∨ (1 ≤ pl.toInt ∧ deep.toInt + (mj_dp 8 pl.toNatClampNeg : Int) = 1 + (mj_dp 8 len.toNatClampNeg : Int))) → (pl.toInt).toNat < n → ∀ (ls : Array Slot), lv_has ls 3 [(2, .int pl), (1, .int deep), (0, .ref q_t)] → W p l e (headSpec wsX2_deepest ({ frames := 0, cells := 0, slots := 0, locals := 0 })).room s m ([.ref q_t] : List Value).toArray below meth c s.heap [] 0 0 (MQ below (vp_Si (fun r : Int32 => r.toInt = (mj_dp 8 len.toNatClampNeg : Int))) ([.ref q_t] : List Value).toArray s 0 0 (fun _ => False)) (F0 m 21 ls []) := by
      intro n
      induction n with
      | zero => intro deep pl LP1_h0 LP1_h1 LP1_h2 hn; exact absurd hn (Nat.not_lt_zero _)
      | succ n ih1 =>
        intro deep pl LP1_h0 LP1_h1 LP1_h2 hn1 ls hl
        have n_pl := ki_nat pl rfl (by omega)
        have hle := mj_dp_le 8 len.toNatClampNeg
        have hle2 := mj_dp_le 8 pl.toNatClampNeg
        refine lv_iload_n hx hb dX2_deepest_21 rfl (lv_at hl 0 rfl) ?_
        refine lv_iconst (v := 1) hx hb dX2_deepest_22 (by decide) ?_
        refine lv_icmp_le (tgt := 38) hx hb dX2_deepest_23 (by decide) (fun c_2 => ?_) (fun c_2 => ?_)
        · have i_2 : pl.toInt ≤ 1 := kc_le c_2
          refine lv_iload_n hx hb dX2_deepest_38 rfl (lv_at hl 1 rfl) ?_
          have d_0 : mj_dp 8 0 = 0 := rfl
          have d_1 : mj_dp 8 1 = 1 := rfl
          exact W.iret (v := deep) hx hb hr (fun t ht hW => ⟨deep, rfl, (by (try dsimp only); rcases LP1_h2 with h | h; (rw [show len.toNatClampNeg = 0 by omega, d_0]; omega); (rw [show pl.toNatClampNeg = 1 by omega, d_1] at h; omega)), ht⟩) (fun q hq => by cases hq) dX2_deepest_39
        · have i_2 : 1 < pl.toInt := kc_nle c_2
          obtain ⟨x_3, ex_3⟩ : ∃ y : Int32, y = deep + 1 := ⟨_, rfl⟩
          have i_3 : x_3.toInt = deep.toInt + 1 := ki_add ex_3 rfl rfl (by omega) (by omega)
          refine lv_iinc (v := x_3) (lv' := [(1, .int x_3), (2, .int pl), (0, .ref q_t)]) hx hb dX2_deepest_26 hl (k := 1) rfl (by rw [ex_3]; rfl) (by decide) rfl (fun ls hl => ?_)
          refine lv_iload_n hx hb dX2_deepest_29 rfl (lv_at hl 1 rfl) ?_
          refine lv_iload_n hx hb dX2_deepest_30 rfl (lv_at hl 1 rfl) ?_
          refine lv_iconst (v := 2) hx hb dX2_deepest_31 (by decide) ?_
          refine lv_idiv hx hb dX2_deepest_32 (by decide) ?_
          refine lv_topi (fun y_4 ey_4 => ?_)
          have i_4 : y_4.toInt = pl.toInt / 2 := ki_div2 ey_4 rfl (by omega)
          refine lv_isub hx hb dX2_deepest_33 ?_
          refine lv_topi (fun y_5 ey_5 => ?_)
          have i_5 : y_5.toInt = pl.toInt - y_4.toInt := ki_sub ey_5 rfl rfl (by omega) (by omega)
          refine lv_istore_n (lv' := [(2, .int y_5), (1, .int x_3), (0, .ref q_t)]) hx hb dX2_deepest_34 rfl hl (by decide) rfl (fun ls hl => ?_)
          refine lv_goto (tgt := 21) hx hb dX2_deepest_35 (by decide) ?_
          have n_6 := ki_nat y_5 rfl (by omega)
          have st := mj_dp_step (n := pl.toNatClampNeg) (n2 := y_5.toNatClampNeg) (by omega) (by omega) (by omega)
          exact ih1 x_3 y_5 (by omega) (by omega) (by omega) (by omega) ls (lv_sub hl [0, 1, 2] rfl)
    have k_7 : (1 : Int32).toInt = 1 := rfl
    exact LP1 ((len.toInt : Int).toNat + 1) 1 len (by omega) (by omega) (by omega) (Nat.lt_succ_self _) ls (lv_sub hl [0, 1, 2] rfl)
  · have i_1 : nodes.toInt = 0 := kc_eq c_1
    refine lv_iconst (v := 0) hx hb dX2_deepest_7 (by decide) ?_
    refine lv_goto (tgt := 12) hx hb dX2_deepest_8 (by decide) ?_
    refine lv_istore_n (lv' := [(1, .int 0), (0, .ref q_t)]) hx hb dX2_deepest_12 rfl hl (by decide) rfl (fun ls hl => ?_)
    refine lv_aload_n hx hb dX2_deepest_13 rfl (lv_at hl 1 rfl) ?_
    refine va_get (D := (dC, dI)) (ci := 2) (v := .ref q_row) (C := RX2) (T := TX2) (N := 11) hx hb hts hi_2 hown hK hP 0 rfl rfl 0 (by decide) hf_40 (fun _ h9 => h9) rfl dX2_deepest_14 ?_
    refine va_get (D := (dC, dI)) (ci := 0) (v := .int len) (C := RX0) (T := TX0) (N := 2) hx hb hts hi_0 hown hK hP 1 rfl rfl 1 (by decide) hf_44 (fun _ h9 => h9) rfl dX2_deepest_17 ?_
    refine lv_istore_n (lv' := [(2, .int len), (1, .int 0), (0, .ref q_t)]) hx hb dX2_deepest_20 rfl hl (by decide) rfl (fun ls hl => ?_)
    have LP2 : ∀ (n : Nat) (deep : Int32) (pl : Int32), (0 ≤ pl.toInt) → (pl.toInt ≤ 160) → ((pl.toInt = 0 ∧ len.toInt = 0 ∧ deep.toInt = 0) ∨ (1 ≤ pl.toInt ∧ deep.toInt + (mj_dp 8 pl.toNatClampNeg : Int) = 1 + (mj_dp 8 len.toNatClampNeg : Int))) → (pl.toInt).toNat < n → ∀ (ls : Array Slot), lv_has ls 3 [(2, .int pl), (1, .int deep), (0, .ref q_t)] → W p l e (headSpec wsX2_deepest ({ frames := 0, cells := 0, slots := 0, locals := 0 })).room s m ([.ref q_t] : List Value).toArray below meth c s.heap [] 0 0 (MQ below (vp_Si (fun r : Int32 => r.toInt = (mj_dp 8 len.toNatClampNeg : Int))) ([.ref q_t] : List Value).toArray s 0 0 (fun _ => False)) (F0 m 21 ls []) := by
      intro n
      induction n with
      | zero => intro deep pl LP2_h0 LP2_h1 LP2_h2 hn; exact absurd hn (Nat.not_lt_zero _)
      | succ n ih2 =>
        intro deep pl LP2_h0 LP2_h1 LP2_h2 hn2 ls hl
        have n_pl := ki_nat pl rfl (by omega)
        have hle := mj_dp_le 8 len.toNatClampNeg
        have hle2 := mj_dp_le 8 pl.toNatClampNeg
        refine lv_iload_n hx hb dX2_deepest_21 rfl (lv_at hl 0 rfl) ?_
        refine lv_iconst (v := 1) hx hb dX2_deepest_22 (by decide) ?_
        refine lv_icmp_le (tgt := 38) hx hb dX2_deepest_23 (by decide) (fun c_8 => ?_) (fun c_8 => ?_)
        · have i_8 : pl.toInt ≤ 1 := kc_le c_8
          refine lv_iload_n hx hb dX2_deepest_38 rfl (lv_at hl 1 rfl) ?_
          have d_0 : mj_dp 8 0 = 0 := rfl
          have d_1 : mj_dp 8 1 = 1 := rfl
          exact W.iret (v := deep) hx hb hr (fun t ht hW => ⟨deep, rfl, (by (try dsimp only); rcases LP2_h2 with h | h; (rw [show len.toNatClampNeg = 0 by omega, d_0]; omega); (rw [show pl.toNatClampNeg = 1 by omega, d_1] at h; omega)), ht⟩) (fun q hq => by cases hq) dX2_deepest_39
        · have i_8 : 1 < pl.toInt := kc_nle c_8
          obtain ⟨x_9, ex_9⟩ : ∃ y : Int32, y = deep + 1 := ⟨_, rfl⟩
          have i_9 : x_9.toInt = deep.toInt + 1 := ki_add ex_9 rfl rfl (by omega) (by omega)
          refine lv_iinc (v := x_9) (lv' := [(1, .int x_9), (2, .int pl), (0, .ref q_t)]) hx hb dX2_deepest_26 hl (k := 1) rfl (by rw [ex_9]; rfl) (by decide) rfl (fun ls hl => ?_)
          refine lv_iload_n hx hb dX2_deepest_29 rfl (lv_at hl 1 rfl) ?_
          refine lv_iload_n hx hb dX2_deepest_30 rfl (lv_at hl 1 rfl) ?_
          refine lv_iconst (v := 2) hx hb dX2_deepest_31 (by decide) ?_
          refine lv_idiv hx hb dX2_deepest_32 (by decide) ?_
          refine lv_topi (fun y_10 ey_10 => ?_)
          have i_10 : y_10.toInt = pl.toInt / 2 := ki_div2 ey_10 rfl (by omega)
          refine lv_isub hx hb dX2_deepest_33 ?_
          refine lv_topi (fun y_11 ey_11 => ?_)
          have i_11 : y_11.toInt = pl.toInt - y_10.toInt := ki_sub ey_11 rfl rfl (by omega) (by omega)
          refine lv_istore_n (lv' := [(2, .int y_11), (1, .int x_9), (0, .ref q_t)]) hx hb dX2_deepest_34 rfl hl (by decide) rfl (fun ls hl => ?_)
          refine lv_goto (tgt := 21) hx hb dX2_deepest_35 (by decide) ?_
          have n_12 := ki_nat y_11 rfl (by omega)
          have st := mj_dp_step (n := pl.toNatClampNeg) (n2 := y_11.toNatClampNeg) (by omega) (by omega) (by omega)
          exact ih2 x_9 y_11 (by omega) (by omega) (by omega) (by omega) ls (lv_sub hl [0, 1, 2] rfl)
    have k_13 : (0 : Int32).toInt = 0 := rfl
    exact LP2 ((len.toInt : Int).toNat + 1) 0 len (by omega) (by omega) (by omega) (Nat.lt_succ_self _) ls (lv_sub hl [0, 1, 2] rfl)

set_option maxHeartbeats 4000000 in
set_option maxRecDepth 100000 in
theorem c_X2_allLosses_x (l : Launch) (dC : Nat → ClassId) (dI : Nat → Nat → Nat) (q_t : Nat) (q_row : Nat) (q_joined : Nat) (q_from : Nat) (q_to : Nat) (q_size : Nat) (q_lossOf : Nat) (q_lessBy : Nat) (q_value : Nat) (q_number : Nat) (nodes : Int32) (here : Int32) (cyI : ClassId) (fo : Nat → Int32) (b0 : 0 ≤ nodes.toInt) (c0 : nodes.toInt ≤ 319) : Met l yX2_allLosses wsX2_allLosses ({ frames := 0, cells := 0, slots := 0, locals := 0 }) (va_Pc [.ref q_t] (fun U => va_P (dC, dI) vwCl [kx_2 q_t q_row q_joined q_from q_to q_size q_lossOf q_lessBy q_value q_number nodes here, kx_a q_lossOf cyI 319 fo] U.heap ∧ va_K (dC, dI) vwCl [(cyI, .int)] U)) (vp_Si (fun r : Int32 => r = mj_tot fo 0 nodes.toNatClampNeg)) 0 0 (fun _ => False) := by
  refine Met.ofW (cc := cX2_allLosses) (maxL := 3) (ret := (some .int)) (by decide) rfl ?_
  intro p e s m args below meth c s₁ B hml hv
  obtain ⟨rfl, hP, hK⟩ := hv
  have hx := B.exec
  have hb := B.bytes
  have hr := B.returns
  have hts := atoms_spec (ws := wsX2_allLosses) B.pre
  have hown : s.vm.findClass RX2 = some m.cls := findClass_of_methodNamed B.named
  have hlocks := B.notSynchronized
  have hP : va_P (dC, dI) vwCl [kx_2 q_t q_row q_joined q_from q_to q_size q_lossOf q_lessBy q_value q_number nodes here, kx_a q_lossOf cyI 319 fo] s.heap := hP
  have hl := lv_entry ([.ref q_t]) (n := 3) (Nat.le_of_ble_eq_true rfl)
  rw [lg_entry_eq]
  generalize (lg_sl ([.ref q_t]) ++ List.replicate (3 - (lg_sl ([.ref q_t])).length) Slot.unset).toArray = ls at hl ⊢
  have hl : lv_has ls 3 [(0, .ref q_t)] := hl
  have hf_50 := hts (.fieldLink RX2 50 "MajorityIndex$Tree" "nodes" "I") (List.mem_of_getElem? (i := 1) rfl)
  have hi_2 : ∀ w ∈ u_ws RX2 TX2 11, w ∈ wsX2_allLosses := fun w h => List.mem_cons_of_mem _ (List.mem_append_right _ h)
  have hf_28 := hts (.fieldLink RX2 28 "MajorityIndex$Tree" "lossOf" "[I") (List.mem_of_getElem? (i := 2) rfl)
  have n_nd := ki_nat nodes rfl (by omega)
  refine lv_iconst (v := 0) hx hb dX2_allLosses_0 (by decide) ?_
  refine lv_istore_n (lv' := [(1, .int 0), (0, .ref q_t)]) hx hb dX2_allLosses_1 rfl hl (by decide) rfl (fun ls hl => ?_)
  refine lv_iconst (v := 0) hx hb dX2_allLosses_2 (by decide) ?_
  refine lv_istore_n (lv' := [(2, .int 0), (1, .int 0), (0, .ref q_t)]) hx hb dX2_allLosses_3 rfl hl (by decide) rfl (fun ls hl => ?_)
  have LP1 : ∀ (n : Nat) (i : Int32) (all : Int32), (0 ≤ i.toInt) → (all = mj_tot fo 0 i.toNatClampNeg) → (i.toInt ≤ nodes.toInt) → (nodes.toInt - i.toInt).toNat < n → ∀ (ls : Array Slot), lv_has ls 3 [(2, .int i), (1, .int all), (0, .ref q_t)] → W p l e (headSpec wsX2_allLosses ({ frames := 0, cells := 0, slots := 0, locals := 0 })).room s m ([.ref q_t] : List Value).toArray below meth c s.heap [] 0 0 (MQ below (vp_Si (fun r : Int32 => r = mj_tot fo 0 nodes.toNatClampNeg)) ([.ref q_t] : List Value).toArray s 0 0 (fun _ => False)) (F0 m 4 ls []) := by
    intro n
    induction n with
    | zero => intro i all LP1_h0 LP1_h1 LP1_h2 hn; exact absurd hn (Nat.not_lt_zero _)
    | succ n ih1 =>
      intro i all LP1_h0 LP1_h1 LP1_h2 hn1 ls hl
      have n_i := ki_nat i rfl (by omega)
      refine lv_iload_n hx hb dX2_allLosses_4 rfl (lv_at hl 0 rfl) ?_
      refine lv_aload_n hx hb dX2_allLosses_5 rfl (lv_at hl 2 rfl) ?_
      refine va_get (D := (dC, dI)) (ci := 2) (v := .int nodes) (C := RX2) (T := TX2) (N := 11) hx hb hts hi_2 hown hK hP 0 rfl rfl 9 (by decide) hf_50 (fun _ h9 => h9) rfl dX2_allLosses_6 ?_
      refine lv_icmp_ge (tgt := 27) hx hb dX2_allLosses_9 (by decide) (fun c_1 => ?_) (fun c_1 => ?_)
      · have i_1 : nodes.toInt ≤ i.toInt := kc_le c_1
        refine lv_iload_n hx hb dX2_allLosses_27 rfl (lv_at hl 1 rfl) ?_
        exact W.iret (v := all) hx hb hr (fun t ht hW => ⟨all, rfl, (by (try dsimp only); rw [LP1_h1, show i.toNatClampNeg = nodes.toNatClampNeg by omega]), ht⟩) (fun q hq => by cases hq) dX2_allLosses_28
      · have i_1 : i.toInt < nodes.toInt := kc_nle c_1
        refine lv_iload_n hx hb dX2_allLosses_12 rfl (lv_at hl 1 rfl) ?_
        refine lv_aload_n hx hb dX2_allLosses_13 rfl (lv_at hl 2 rfl) ?_
        refine va_get (D := (dC, dI)) (ci := 2) (v := .ref q_lossOf) (C := RX2) (T := TX2) (N := 11) hx hb hts hi_2 hown hK hP 0 rfl rfl 5 (by decide) hf_28 (fun _ h9 => h9) rfl dX2_allLosses_14 ?_
        refine lv_iload_n hx hb dX2_allLosses_17 rfl (lv_at hl 0 rfl) ?_
        refine va_iald hx hb hK hP 1 0 rfl rfl (ki_in (by omega) (by omega)) dX2_allLosses_18 ?_
        refine lv_topi (fun y_2 ey_2 => ?_)
        have j_2 : y_2.toInt = (fo i.toNatClampNeg).toInt := congrArg Int32.toInt ey_2
        refine lv_iadd hx hb dX2_allLosses_19 ?_
        refine lv_topi (fun y_3 ey_3 => ?_)
        refine lv_istore_n (lv' := [(1, .int y_3), (2, .int i), (0, .ref q_t)]) hx hb dX2_allLosses_20 rfl hl (by decide) rfl (fun ls hl => ?_)
        obtain ⟨x_4, ex_4⟩ : ∃ y : Int32, y = i + 1 := ⟨_, rfl⟩
        have i_4 : x_4.toInt = i.toInt + 1 := ki_add ex_4 rfl rfl (by omega) (by omega)
        refine lv_iinc (v := x_4) (lv' := [(2, .int x_4), (1, .int y_3), (0, .ref q_t)]) hx hb dX2_allLosses_21 hl (k := 1) rfl (by rw [ex_4]; rfl) (by decide) rfl (fun ls hl => ?_)
        refine lv_goto (tgt := 4) hx hb dX2_allLosses_24 (by decide) ?_
        have n_5 := ki_nat x_4 rfl (by omega)
        exact ih1 x_4 y_3 (by omega) (by rw [ey_3, show x_4.toNatClampNeg = i.toNatClampNeg + 1 by omega, ey_2]; show all + fo i.toNatClampNeg = mj_tot fo 0 i.toNatClampNeg + fo (0 + i.toNatClampNeg); rw [← LP1_h1, Nat.zero_add]) (by omega) (by omega) ls (lv_sub hl [0, 1, 2] rfl)
  have k_6 : (0 : Int32).toInt = 0 := rfl
  have k_7 : (0 : Int32).toInt = 0 := rfl
  exact LP1 ((nodes.toInt - 0 : Int).toNat + 1) 0 0 (by omega) rfl (by omega) (Nat.lt_succ_self _) ls (lv_sub hl [0, 1, 2] rfl)

set_option maxHeartbeats 4000000 in
set_option maxRecDepth 100000 in
theorem c_X4_told_y (l : Launch) (dC : Nat → ClassId) (dI : Nat → Nat → Nat) (m_ : Nat) (q_row : Nat) (q_t : Nat) (t_ : Nat) (h0 : Nat) (k0 : Nat) (w_ : Nat) (z_ : Nat) (slots : Int32) (old : Int32) (q_joined : Nat) (q_from : Nat) (q_to : Nat) (q_size : Nat) (q_lossOf : Nat) (q_lessBy : Nat) (q_value : Nat) (q_number : Nat) (nodes : Int32) (here : Int32) (q_cell : Nat) (cyI : ClassId) (len : Int32) (f : Nat → Int32) (ff : Nat → Int32) (ft : Nat → Int32) (fs : Nat → Int32) (fo : Nat → Int32) (uv : Nat → Int32) (un : Nat → Int32) (fe : Nat → Int32) (j_v : Nat) (j_n : Nat) (js : Int32) (jl : Int32) (je : Int32) (jv : Nat → Int32) (jn : Nat → Int32) (p0 : Int32) (sz : Nat) (a0 : 0 ≤ len.toInt) (a1 : len.toInt ≤ 160) (s0 : sixes fs) (sl0 : 1 ≤ slots.toInt) (sl1 : slots.toInt ≤ 6) (l0 : laidX old slots here f ff ft fs fo fe uv un nodes len) (s1 : shorts f) : Met l yX4_told wsX4_told ({ frames := 6, cells := 0, slots := 0, locals := 270 }) (va_Pc [.ref m_, .int p0] (fun U => U.heap.size = sz ∧ va_P (dC, dI) vwCl [kx_4 m_ q_row q_t t_ h0 k0 w_ z_ slots old, kx_2 q_t q_row q_joined q_from q_to q_size q_lossOf q_lessBy q_value q_number nodes here, kx_0 q_row q_cell len, kx_a q_cell cyI 160 f, kx_a q_from cyI 319 ff, kx_a q_to cyI 319 ft, kx_a q_size cyI 319 fs, kx_a q_lossOf cyI 319 fo, kx_a q_lessBy cyI 319 fe, kx_a q_value cyI 1914 uv, kx_a q_number cyI 1914 un, kx_3 q_joined j_v j_n js jl je, kx_a j_v cyI 12 jv, kx_a j_n cyI 12 jn] U.heap ∧ va_K (dC, dI) vwCl [(cyI, .int)] U ∧ va_D (fun _ => True) [kx_4 m_ q_row q_t t_ h0 k0 w_ z_ slots old, kx_2 q_t q_row q_joined q_from q_to q_size q_lossOf q_lessBy q_value q_number nodes here, kx_0 q_row q_cell len, kx_a q_cell cyI 160 f, kx_a q_from cyI 319 ff, kx_a q_to cyI 319 ft, kx_a q_size cyI 319 fs, kx_a q_lossOf cyI 319 fo, kx_a q_lessBy cyI 319 fe, kx_a q_value cyI 1914 uv, kx_a q_number cyI 1914 un, kx_3 q_joined j_v j_n js jl je, kx_a j_v cyI 12 jv, kx_a j_n cyI 12 jn] ∧ va_Nw (.methodLinkNest RX0 28 yX4_isHeavy RX4) U)) (va_Qi (fun (r : Int32) (u : Int32 × Int32 × Int32 × (Nat → Int32) × (Nat → Int32) × (Nat → Int32) × (Nat → Int32) × (Nat → Int32) × (Nat → Int32) × (Nat → Int32) × Int32 × Int32 × Int32 × (Nat → Int32) × (Nat → Int32)) => ((u.1.toInt = 0 ∧ mj_tld f u.2.2.2.1 u.2.2.2.2.1 u.2.2.2.2.2.2.1 u.2.1 len slots p0.toInt r) ∨ mj_tl0 len slots p0.toInt r) ∧ laidX u.1 slots u.2.2.1 f u.2.2.2.1 u.2.2.2.2.1 u.2.2.2.2.2.1 u.2.2.2.2.2.2.1 u.2.2.2.2.2.2.2.1 u.2.2.2.2.2.2.2.2.1 u.2.2.2.2.2.2.2.2.2.1 u.2.1 len ∧ sixes u.2.2.2.2.2.1) (fun (u : Int32 × Int32 × Int32 × (Nat → Int32) × (Nat → Int32) × (Nat → Int32) × (Nat → Int32) × (Nat → Int32) × (Nat → Int32) × (Nat → Int32) × Int32 × Int32 × Int32 × (Nat → Int32) × (Nat → Int32)) (t : State) => va_P (dC, dI) vwCl [kx_4 m_ q_row q_t t_ h0 k0 w_ z_ slots u.1, kx_2 q_t q_row q_joined q_from q_to q_size q_lossOf q_lessBy q_value q_number u.2.1 u.2.2.1, kx_0 q_row q_cell len, kx_a q_cell cyI 160 f, kx_a q_from cyI 319 u.2.2.2.1, kx_a q_to cyI 319 u.2.2.2.2.1, kx_a q_size cyI 319 u.2.2.2.2.2.1, kx_a q_lossOf cyI 319 u.2.2.2.2.2.2.1, kx_a q_lessBy cyI 319 u.2.2.2.2.2.2.2.1, kx_a q_value cyI 1914 u.2.2.2.2.2.2.2.2.1, kx_a q_number cyI 1914 u.2.2.2.2.2.2.2.2.2.1, kx_3 q_joined j_v j_n u.2.2.2.2.2.2.2.2.2.2.1 u.2.2.2.2.2.2.2.2.2.2.2.1 u.2.2.2.2.2.2.2.2.2.2.2.2.1, kx_a j_v cyI 12 u.2.2.2.2.2.2.2.2.2.2.2.2.2.1, kx_a j_n cyI 12 u.2.2.2.2.2.2.2.2.2.2.2.2.2.2] t.heap ∧ va_K (dC, dI) vwCl [(cyI, .int)] t ∧ va_D (va_A [kx_4 m_ q_row q_t t_ h0 k0 w_ z_ slots old, kx_2 q_t q_row q_joined q_from q_to q_size q_lossOf q_lessBy q_value q_number nodes here, kx_0 q_row q_cell len, kx_a q_cell cyI 160 f, kx_a q_from cyI 319 ff, kx_a q_to cyI 319 ft, kx_a q_size cyI 319 fs, kx_a q_lossOf cyI 319 fo, kx_a q_lessBy cyI 319 fe, kx_a q_value cyI 1914 uv, kx_a q_number cyI 1914 un, kx_3 q_joined j_v j_n js jl je, kx_a j_v cyI 12 jv, kx_a j_n cyI 12 jn] sz) [kx_4 m_ q_row q_t t_ h0 k0 w_ z_ slots u.1, kx_2 q_t q_row q_joined q_from q_to q_size q_lossOf q_lessBy q_value q_number u.2.1 u.2.2.1, kx_0 q_row q_cell len, kx_a q_cell cyI 160 f, kx_a q_from cyI 319 u.2.2.2.1, kx_a q_to cyI 319 u.2.2.2.2.1, kx_a q_size cyI 319 u.2.2.2.2.2.1, kx_a q_lossOf cyI 319 u.2.2.2.2.2.2.1, kx_a q_lessBy cyI 319 u.2.2.2.2.2.2.2.1, kx_a q_value cyI 1914 u.2.2.2.2.2.2.2.2.1, kx_a q_number cyI 1914 u.2.2.2.2.2.2.2.2.2.1, kx_3 q_joined j_v j_n u.2.2.2.2.2.2.2.2.2.2.1 u.2.2.2.2.2.2.2.2.2.2.2.1 u.2.2.2.2.2.2.2.2.2.2.2.2.1, kx_a j_v cyI 12 u.2.2.2.2.2.2.2.2.2.2.2.2.2.1, kx_a j_n cyI 12 u.2.2.2.2.2.2.2.2.2.2.2.2.2.2]) (va_A [kx_4 m_ q_row q_t t_ h0 k0 w_ z_ slots old, kx_2 q_t q_row q_joined q_from q_to q_size q_lossOf q_lessBy q_value q_number nodes here, kx_0 q_row q_cell len, kx_a q_cell cyI 160 f, kx_a q_from cyI 319 ff, kx_a q_to cyI 319 ft, kx_a q_size cyI 319 fs, kx_a q_lossOf cyI 319 fo, kx_a q_lessBy cyI 319 fe, kx_a q_value cyI 1914 uv, kx_a q_number cyI 1914 un, kx_3 q_joined j_v j_n js jl je, kx_a j_v cyI 12 jv, kx_a j_n cyI 12 jn] sz)) 0 0 (va_A [kx_4 m_ q_row q_t t_ h0 k0 w_ z_ slots old, kx_2 q_t q_row q_joined q_from q_to q_size q_lossOf q_lessBy q_value q_number nodes here, kx_0 q_row q_cell len, kx_a q_cell cyI 160 f, kx_a q_from cyI 319 ff, kx_a q_to cyI 319 ft, kx_a q_size cyI 319 fs, kx_a q_lossOf cyI 319 fo, kx_a q_lessBy cyI 319 fe, kx_a q_value cyI 1914 uv, kx_a q_number cyI 1914 un, kx_3 q_joined j_v j_n js jl je, kx_a j_v cyI 12 jv, kx_a j_n cyI 12 jn] sz) := by
  refine Met.ofW (cc := cX4_told) (maxL := 2) (ret := (some .int)) (by decide) rfl ?_
  intro p e s m args below meth c s₁ B hml hv
  obtain ⟨rfl, hsz, hP, hK, hD0, hN0⟩ := hv
  have hx := B.exec
  have hb := B.bytes
  have hr := B.returns
  have hts := atoms_spec (ws := wsX4_told) B.pre
  have hown : s.vm.findClass RX4 = some m.cls := findClass_of_methodNamed B.named
  have hlocks := B.notSynchronized
  subst hsz
  have hD := hD0.self (sz := s.heap.size)
  generalize hAe : va_A [kx_4 m_ q_row q_t t_ h0 k0 w_ z_ slots old, kx_2 q_t q_row q_joined q_from q_to q_size q_lossOf q_lessBy q_value q_number nodes here, kx_0 q_row q_cell len, kx_a q_cell cyI 160 f, kx_a q_from cyI 319 ff, kx_a q_to cyI 319 ft, kx_a q_size cyI 319 fs, kx_a q_lossOf cyI 319 fo, kx_a q_lessBy cyI 319 fe, kx_a q_value cyI 1914 uv, kx_a q_number cyI 1914 un, kx_3 q_joined j_v j_n js jl je, kx_a j_v cyI 12 jv, kx_a j_n cyI 12 jn] s.heap.size = A at hD ⊢
  have hA : ∀ q : Nat, s.heap.size ≤ q → A q := fun q h => by rw [← hAe]; exact Or.inr h
  have hS : va_S A s.heap s.heap [] := va_S.rf
  have hP : va_P (dC, dI) vwCl [kx_4 m_ q_row q_t t_ h0 k0 w_ z_ slots old, kx_2 q_t q_row q_joined q_from q_to q_size q_lossOf q_lessBy q_value q_number nodes here, kx_0 q_row q_cell len, kx_a q_cell cyI 160 f, kx_a q_from cyI 319 ff, kx_a q_to cyI 319 ft, kx_a q_size cyI 319 fs, kx_a q_lossOf cyI 319 fo, kx_a q_lessBy cyI 319 fe, kx_a q_value cyI 1914 uv, kx_a q_number cyI 1914 un, kx_3 q_joined j_v j_n js jl je, kx_a j_v cyI 12 jv, kx_a j_n cyI 12 jn] s.heap := hP
  have hl := lv_entry ([.ref m_, .int p0]) (n := 2) (Nat.le_of_ble_eq_true rfl)
  rw [lg_entry_eq]
  generalize (lg_sl ([.ref m_, .int p0]) ++ List.replicate (2 - (lg_sl ([.ref m_, .int p0])).length) Slot.unset).toArray = ls at hl ⊢
  have hl : lv_has ls 2 [(0, .ref m_), (1, .int p0)] := hl
  have hf_12 := hts (.fieldLink RX4 12 "MajorityIndex" "row" "LMajorityIndex$Row;") (List.mem_of_getElem? (i := 1) rfl)
  have hi_4 : ∀ w ∈ u_ws RX4 TX4 9, w ∈ wsX4_told := fun w h => List.mem_cons_of_mem _ (List.mem_append_left _ (List.mem_append_left _ (List.mem_append_left _ (List.mem_append_right _ h))))
  have hf_57 := hts (.fieldLink RX4 57 "MajorityIndex$Row" "length" "I") (List.mem_of_getElem? (i := 2) rfl)
  have hi_0 : ∀ w ∈ u_ws RX0 TX0 2, w ∈ wsX4_told := fun w h => List.mem_cons_of_mem _ (List.mem_append_left _ (List.mem_append_left _ (List.mem_append_right _ h)))
  have hf_49 := hts (.fieldLink RX4 49 "MajorityIndex" "slotsNow" "I") (List.mem_of_getElem? (i := 3) rfl)
  have hf_163 := hts (.fieldLink RX4 163 "MajorityIndex$Tree" "nodes" "I") (List.mem_of_getElem? (i := 4) rfl)
  have hi_2 : ∀ w ∈ u_ws RX2 TX2 11, w ∈ wsX4_told := fun w h => List.mem_cons_of_mem _ (List.mem_append_left _ (List.mem_append_right _ h))
  have hf_139 := hts (.fieldLink RX4 139 "MajorityIndex$Tree" "lossOf" "[I") (List.mem_of_getElem? (i := 5) rfl)
  refine lv_iload_n hx hb dX4_told_0 rfl (lv_at hl 1 rfl) ?_
  by_cases s_1 : p0.toInt = 0
  · refine lv_tableIn (tgt := 44) (off := 43) hx hb dX4_told_1 (by omega) (by omega) (by rw [s_1]; rfl) (by decide) ?_
    refine lv_aload_n hx hb dX4_told_44 rfl (lv_at hl 0 rfl) ?_
    refine va_get (D := (dC, dI)) (ci := 4) (v := .ref q_row) (C := RX4) (T := TX4) (N := 9) hx hb hts hi_4 hown hK hP 0 rfl rfl 0 (by decide) hf_12 (fun _ h9 => h9) rfl dX4_told_45 ?_
    refine va_get (D := (dC, dI)) (ci := 0) (v := .int len) (C := RX0) (T := TX0) (N := 2) hx hb hts hi_0 hown hK hP 2 rfl rfl 1 (by decide) hf_57 (fun _ h9 => h9) rfl dX4_told_48 ?_
    have hP9 := hP
    have hD9 := hD
    have hK9 := hK
    exact W.iret (v := len) hx hb hr (fun t ht hW => ⟨⟨len, (old, nodes, here, ff, ft, fs, fo, fe, uv, un, js, jl, je, jv, jn), rfl, ⟨(Or.inr (Or.inl ⟨s_1, rfl⟩)), l0, s0⟩, by rw [ht]; exact hP9, va_K.moved hW.alike hK9, hD9⟩, hS.F ht⟩) hS.2.2 dX4_told_51
  by_cases s_2 : p0.toInt = 1
  · refine lv_tableIn (tgt := 52) (off := 51) hx hb dX4_told_1 (by omega) (by omega) (by rw [s_2]; rfl) (by decide) ?_
    refine lv_aload_n hx hb dX4_told_52 rfl (lv_at hl 0 rfl) ?_
    refine va_get (D := (dC, dI)) (ci := 4) (v := .int slots) (C := RX4) (T := TX4) (N := 9) hx hb hts hi_4 hown hK hP 0 rfl rfl 7 (by decide) hf_49 (fun _ h9 => h9) rfl dX4_told_53 ?_
    have hP9 := hP
    have hD9 := hD
    have hK9 := hK
    exact W.iret (v := slots) hx hb hr (fun t ht hW => ⟨⟨slots, (old, nodes, here, ff, ft, fs, fo, fe, uv, un, js, jl, je, jv, jn), rfl, ⟨(Or.inr (Or.inr (Or.inl ⟨s_2, rfl⟩))), l0, s0⟩, by rw [ht]; exact hP9, va_K.moved hW.alike hK9, hD9⟩, hS.F ht⟩) hS.2.2 dX4_told_56
  by_cases s_3 : p0.toInt = 2
  · refine lv_tableIn (tgt := 57) (off := 56) hx hb dX4_told_1 (by omega) (by omega) (by rw [s_3]; rfl) (by decide) ?_
    refine lv_aload_n hx hb dX4_told_57 rfl (lv_at hl 0 rfl) ?_
    have hPc := hP
    have hKc := hK
    have hDc := hD
    have hFc := kx_free hD hS hA
    refine va_callr (va_runV (As := []) (rest := []) ⟨hx, hb, hml, hown, hts⟩ (c_X4_laidTree_x l dC dI m_ q_row q_t t_ h0 k0 w_ z_ slots old q_joined q_from q_to q_size q_lossOf q_lessBy q_value q_number nodes here q_cell cyI len f ff ft fs fo uv un fe j_v j_n js jl je jv jn s.heap.size a0 a1 s0 sl0 sl1 l0) (cwV 0 hts gX4_told_X4_laidTree rfl rfl rfl (by decide +kernel) ⟨Nat.le_of_ble_eq_true rfl, Nat.le_of_ble_eq_true rfl⟩) ⟨fun a U g mk q => by obtain ⟨q0, q1, qP, qK, qD⟩ := q; exact ⟨q0, q1, qP, va_K.moved (u := U) (U := U.calling g mk a) (Vm.Alike.refl U.vm) qK, qD⟩, va_recv hKc hPc (ci := 4) (q0 := 0) rfl rfl, fun U hU hW => ⟨rfl, by rw [hU], by rw [hU]; exact hPc, va_K.moved hW.alike hKc, hDc.weaken (fun _ _ _ _ => trivial)⟩⟩ rfl rfl hl.1 rfl (lv_room (Nat.le_of_ble_eq_true rfl)) dX4_told_58 ⟨Nat.le_of_ble_eq_true rfl, Nat.le_of_ble_eq_true rfl⟩) hS (fun q _ h => hFc q h) hFc (fun u ra t H1 locs ht hvm w_4 hB hz1 hk1 hS => ?_)
    obtain ⟨o_5, o_6, o_7, o_8, o_9, o_10, o_11, o_12, o_13, o_14, o_15, o_16, o_17, o_18, o_19⟩ := u
    dsimp only at w_4 hB
    obtain ⟨er, hP1, hK1, hD1⟩ := hB
    rw [ht] at hP1
    have hK1 := va_K.moved hvm.symm hK1
    have hD := hD1.weaken (fun _ q _ h => hFc q.1 h)
    have hP := hP1
    clear hP1 hD1 hK1 hk1 hz1 hFc hDc hPc hKc
    generalize H1 = H at hP hS ⊢
    have w_4 : o_5.toInt = 0 ∧ o_7 = slots ∧ sixes o_10 ∧ mj_C slots.toNatClampNeg f o_8 o_9 o_10 o_11 o_12 o_13 o_14 o_6.toInt len.toInt ∧ 0 ≤ o_6.toInt ∧ o_6.toInt ≤ 319 ∧ treeOk o_8 o_9 o_6.toInt len.toInt := w_4
    rw [er]
    refine va_get (D := (dC, dI)) (ci := 2) (v := .int o_6) (C := RX2) (T := TX2) (N := 11) hx hb hts hi_2 hown hK hP 1 rfl rfl 9 (by decide) hf_163 (fun _ h9 => h9) rfl dX4_told_61 ?_
    have hP9 := hP
    have hD9 := hD
    have hK9 := hK
    exact W.iret (v := o_6) hx hb hr (fun t ht hW => ⟨⟨o_6, (o_5, o_6, o_7, o_8, o_9, o_10, o_11, o_12, o_13, o_14, o_15, o_16, o_17, o_18, o_19), rfl, ⟨(Or.inl ⟨w_4.1, (Or.inr (Or.inr (Or.inl ⟨s_3, rfl⟩)))⟩), (fun _ => ⟨w_4.2.1, w_4.2.2.2.1⟩), w_4.2.2.1⟩, by rw [ht]; exact hP9, va_K.moved hW.alike hK9, hD9⟩, hS.F ht⟩) hS.2.2 dX4_told_64
  by_cases s_20 : p0.toInt = 3
  · refine lv_tableIn (tgt := 65) (off := 64) hx hb dX4_told_1 (by omega) (by omega) (by rw [s_20]; rfl) (by decide) ?_
    refine lv_aload_n hx hb dX4_told_65 rfl (lv_at hl 0 rfl) ?_
    have hPc := hP
    have hKc := hK
    have hDc := hD
    have hFc := kx_free hD hS hA
    refine va_callr (va_runV (As := []) (rest := []) ⟨hx, hb, hml, hown, hts⟩ (c_X4_laidTree_x l dC dI m_ q_row q_t t_ h0 k0 w_ z_ slots old q_joined q_from q_to q_size q_lossOf q_lessBy q_value q_number nodes here q_cell cyI len f ff ft fs fo uv un fe j_v j_n js jl je jv jn s.heap.size a0 a1 s0 sl0 sl1 l0) (cwV 0 hts gX4_told_X4_laidTree rfl rfl rfl (by decide +kernel) ⟨Nat.le_of_ble_eq_true rfl, Nat.le_of_ble_eq_true rfl⟩) ⟨fun a U g mk q => by obtain ⟨q0, q1, qP, qK, qD⟩ := q; exact ⟨q0, q1, qP, va_K.moved (u := U) (U := U.calling g mk a) (Vm.Alike.refl U.vm) qK, qD⟩, va_recv hKc hPc (ci := 4) (q0 := 0) rfl rfl, fun U hU hW => ⟨rfl, by rw [hU], by rw [hU]; exact hPc, va_K.moved hW.alike hKc, hDc.weaken (fun _ _ _ _ => trivial)⟩⟩ rfl rfl hl.1 rfl (lv_room (Nat.le_of_ble_eq_true rfl)) dX4_told_66 ⟨Nat.le_of_ble_eq_true rfl, Nat.le_of_ble_eq_true rfl⟩) hS (fun q _ h => hFc q h) hFc (fun u ra t H1 locs ht hvm w_21 hB hz1 hk1 hS => ?_)
    obtain ⟨o_22, o_23, o_24, o_25, o_26, o_27, o_28, o_29, o_30, o_31, o_32, o_33, o_34, o_35, o_36⟩ := u
    dsimp only at w_21 hB
    obtain ⟨er, hP1, hK1, hD1⟩ := hB
    rw [ht] at hP1
    have hK1 := va_K.moved hvm.symm hK1
    have hD := hD1.weaken (fun _ q _ h => hFc q.1 h)
    have hP := hP1
    clear hP1 hD1 hK1 hk1 hz1 hFc hDc hPc hKc
    generalize H1 = H at hP hS ⊢
    have w_21 : o_22.toInt = 0 ∧ o_24 = slots ∧ sixes o_27 ∧ mj_C slots.toNatClampNeg f o_25 o_26 o_27 o_28 o_29 o_30 o_31 o_23.toInt len.toInt ∧ 0 ≤ o_23.toInt ∧ o_23.toInt ≤ 319 ∧ treeOk o_25 o_26 o_23.toInt len.toInt := w_21
    rw [er]
    have hPc := hP.sub (ws' := [kx_2 q_t q_row q_joined q_from q_to q_size q_lossOf q_lessBy q_value q_number o_23 o_24, kx_0 q_row q_cell len, kx_a q_cell cyI 160 f, kx_a q_from cyI 319 o_25, kx_a q_to cyI 319 o_26]) [1, 2, 3, 4, 5] rfl
    have hKc := hK
    refine vp_callSi (W.runV (As := []) (rest := []) ⟨hx, hb, hml, hown, hts⟩ (c_X2_nodesWithMajority_x l dC dI q_t q_row q_joined q_from q_to q_size q_lossOf q_lessBy q_value q_number o_23 o_24 q_cell cyI len f o_25 o_26 w_21.2.2.2.2.1 w_21.2.2.2.2.2.1 a1 w_21.2.2.2.2.2.2 s1) (cwV 0 hts gX4_told_X2_nodesWithMajority rfl rfl rfl (by decide +kernel) ⟨Nat.le_of_ble_eq_true rfl, Nat.le_of_ble_eq_true rfl⟩) ⟨fun a U g mk q => by obtain ⟨q0, qP, qK, qn0⟩ := q; exact ⟨q0, qP, va_K.moved (u := U) (U := U.calling g mk a) (Vm.Alike.refl U.vm) qK, va_Nw.same (u := U) (U := U.calling g mk a) rfl rfl qn0⟩, va_recv hKc hPc (ci := 2) (q0 := 0) rfl rfl, fun U hU hW => ⟨rfl, by rw [hU]; exact hPc, va_K.moved hW.alike hKc, va_Nw.warmM hW hN0⟩⟩ rfl rfl hl.1 rfl (lv_room (Nat.le_of_ble_eq_true rfl)) dX4_told_69 ⟨Nat.le_of_ble_eq_true rfl, Nat.le_of_ble_eq_true rfl⟩) (fun r_37 w_37 => ?_)
    have w_37 : r_37.toInt = (mj_nm f o_25 o_26 o_23.toNatClampNeg : Int) := w_37
    have hP9 := hP
    have hD9 := hD
    have hK9 := hK
    exact W.iret (v := r_37) hx hb hr (fun t ht hW => ⟨⟨r_37, (o_22, o_23, o_24, o_25, o_26, o_27, o_28, o_29, o_30, o_31, o_32, o_33, o_34, o_35, o_36), rfl, ⟨(Or.inl ⟨w_21.1, (Or.inr (Or.inr (Or.inr (Or.inl ⟨s_20, w_37⟩))))⟩), (fun _ => ⟨w_21.2.1, w_21.2.2.2.1⟩), w_21.2.2.1⟩, by rw [ht]; exact hP9, va_K.moved hW.alike hK9, hD9⟩, hS.F ht⟩) hS.2.2 dX4_told_72
  by_cases s_38 : p0.toInt = 4
  · refine lv_tableIn (tgt := 73) (off := 72) hx hb dX4_told_1 (by omega) (by omega) (by rw [s_38]; rfl) (by decide) ?_
    refine lv_aload_n hx hb dX4_told_73 rfl (lv_at hl 0 rfl) ?_
    have hPc := hP
    have hKc := hK
    have hDc := hD
    have hFc := kx_free hD hS hA
    refine va_callr (va_runV (As := []) (rest := []) ⟨hx, hb, hml, hown, hts⟩ (c_X4_laidTree_x l dC dI m_ q_row q_t t_ h0 k0 w_ z_ slots old q_joined q_from q_to q_size q_lossOf q_lessBy q_value q_number nodes here q_cell cyI len f ff ft fs fo uv un fe j_v j_n js jl je jv jn s.heap.size a0 a1 s0 sl0 sl1 l0) (cwV 0 hts gX4_told_X4_laidTree rfl rfl rfl (by decide +kernel) ⟨Nat.le_of_ble_eq_true rfl, Nat.le_of_ble_eq_true rfl⟩) ⟨fun a U g mk q => by obtain ⟨q0, q1, qP, qK, qD⟩ := q; exact ⟨q0, q1, qP, va_K.moved (u := U) (U := U.calling g mk a) (Vm.Alike.refl U.vm) qK, qD⟩, va_recv hKc hPc (ci := 4) (q0 := 0) rfl rfl, fun U hU hW => ⟨rfl, by rw [hU], by rw [hU]; exact hPc, va_K.moved hW.alike hKc, hDc.weaken (fun _ _ _ _ => trivial)⟩⟩ rfl rfl hl.1 rfl (lv_room (Nat.le_of_ble_eq_true rfl)) dX4_told_74 ⟨Nat.le_of_ble_eq_true rfl, Nat.le_of_ble_eq_true rfl⟩) hS (fun q _ h => hFc q h) hFc (fun u ra t H1 locs ht hvm w_39 hB hz1 hk1 hS => ?_)
    obtain ⟨o_40, o_41, o_42, o_43, o_44, o_45, o_46, o_47, o_48, o_49, o_50, o_51, o_52, o_53, o_54⟩ := u
    dsimp only at w_39 hB
    obtain ⟨er, hP1, hK1, hD1⟩ := hB
    rw [ht] at hP1
    have hK1 := va_K.moved hvm.symm hK1
    have hD := hD1.weaken (fun _ q _ h => hFc q.1 h)
    have hP := hP1
    clear hP1 hD1 hK1 hk1 hz1 hFc hDc hPc hKc
    generalize H1 = H at hP hS ⊢
    have w_39 : o_40.toInt = 0 ∧ o_42 = slots ∧ sixes o_45 ∧ mj_C slots.toNatClampNeg f o_43 o_44 o_45 o_46 o_47 o_48 o_49 o_41.toInt len.toInt ∧ 0 ≤ o_41.toInt ∧ o_41.toInt ≤ 319 ∧ treeOk o_43 o_44 o_41.toInt len.toInt := w_39
    rw [er]
    have hPc := hP.sub (ws' := [kx_2 q_t q_row q_joined q_from q_to q_size q_lossOf q_lessBy q_value q_number o_41 o_42, kx_0 q_row q_cell len]) [1, 2] rfl
    have hKc := hK.sub (tys' := []) [] rfl
    refine vp_callSi (W.runV (As := []) (rest := []) ⟨hx, hb, hml, hown, hts⟩ (c_X2_deepest_x l dC dI q_t q_row q_joined q_from q_to q_size q_lossOf q_lessBy q_value q_number o_41 o_42 q_cell len a0 a1 w_39.2.2.2.1.2.2.1) (cwV 0 hts gX4_told_X2_deepest rfl rfl rfl (by decide +kernel) ⟨Nat.le_of_ble_eq_true rfl, Nat.le_of_ble_eq_true rfl⟩) ⟨fun a U g mk q => by obtain ⟨q0, qP, qK⟩ := q; exact ⟨q0, qP, va_K.moved (u := U) (U := U.calling g mk a) (Vm.Alike.refl U.vm) qK⟩, va_recv hKc hPc (ci := 2) (q0 := 0) rfl rfl, fun U hU hW => ⟨rfl, by rw [hU]; exact hPc, va_K.moved hW.alike hKc⟩⟩ rfl rfl hl.1 rfl (lv_room (Nat.le_of_ble_eq_true rfl)) dX4_told_77 ⟨Nat.le_of_ble_eq_true rfl, Nat.le_of_ble_eq_true rfl⟩) (fun r_55 w_55 => ?_)
    have w_55 : r_55.toInt = (mj_dp 8 len.toNatClampNeg : Int) := w_55
    have hP9 := hP
    have hD9 := hD
    have hK9 := hK
    exact W.iret (v := r_55) hx hb hr (fun t ht hW => ⟨⟨r_55, (o_40, o_41, o_42, o_43, o_44, o_45, o_46, o_47, o_48, o_49, o_50, o_51, o_52, o_53, o_54), rfl, ⟨(Or.inl ⟨w_39.1, (Or.inr (Or.inr (Or.inr (Or.inr (Or.inl ⟨s_38, w_55⟩)))))⟩), (fun _ => ⟨w_39.2.1, w_39.2.2.2.1⟩), w_39.2.2.1⟩, by rw [ht]; exact hP9, va_K.moved hW.alike hK9, hD9⟩, hS.F ht⟩) hS.2.2 dX4_told_80
  by_cases s_56 : p0.toInt = 5
  · refine lv_tableIn (tgt := 81) (off := 80) hx hb dX4_told_1 (by omega) (by omega) (by rw [s_56]; rfl) (by decide) ?_
    refine lv_aload_n hx hb dX4_told_81 rfl (lv_at hl 0 rfl) ?_
    refine va_get (D := (dC, dI)) (ci := 4) (v := .ref q_row) (C := RX4) (T := TX4) (N := 9) hx hb hts hi_4 hown hK hP 0 rfl rfl 0 (by decide) hf_12 (fun _ h9 => h9) rfl dX4_told_82 ?_
    refine va_get (D := (dC, dI)) (ci := 0) (v := .int len) (C := RX0) (T := TX0) (N := 2) hx hb hts hi_0 hown hK hP 2 rfl rfl 1 (by decide) hf_57 (fun _ h9 => h9) rfl dX4_told_85 ?_
    refine lv_if_ne (tgt := 95) hx hb dX4_told_88 (by decide) (fun c_57 => ?_) (fun c_57 => ?_)
    · have i_57 : ¬ len.toInt = 0 := kc_ne c_57
      refine lv_aload_n hx hb dX4_told_95 rfl (lv_at hl 0 rfl) ?_
      have hPc := hP
      have hKc := hK
      have hDc := hD
      have hFc := kx_free hD hS hA
      refine va_callr (va_runV (As := []) (rest := []) ⟨hx, hb, hml, hown, hts⟩ (c_X4_laidTree_x l dC dI m_ q_row q_t t_ h0 k0 w_ z_ slots old q_joined q_from q_to q_size q_lossOf q_lessBy q_value q_number nodes here q_cell cyI len f ff ft fs fo uv un fe j_v j_n js jl je jv jn s.heap.size a0 a1 s0 sl0 sl1 l0) (cwV 0 hts gX4_told_X4_laidTree rfl rfl rfl (by decide +kernel) ⟨Nat.le_of_ble_eq_true rfl, Nat.le_of_ble_eq_true rfl⟩) ⟨fun a U g mk q => by obtain ⟨q0, q1, qP, qK, qD⟩ := q; exact ⟨q0, q1, qP, va_K.moved (u := U) (U := U.calling g mk a) (Vm.Alike.refl U.vm) qK, qD⟩, va_recv hKc hPc (ci := 4) (q0 := 0) rfl rfl, fun U hU hW => ⟨rfl, by rw [hU], by rw [hU]; exact hPc, va_K.moved hW.alike hKc, hDc.weaken (fun _ _ _ _ => trivial)⟩⟩ rfl rfl hl.1 rfl (lv_room (Nat.le_of_ble_eq_true rfl)) dX4_told_96 ⟨Nat.le_of_ble_eq_true rfl, Nat.le_of_ble_eq_true rfl⟩) hS (fun q _ h => hFc q h) hFc (fun u ra t H1 locs ht hvm w_58 hB hz1 hk1 hS => ?_)
      obtain ⟨o_59, o_60, o_61, o_62, o_63, o_64, o_65, o_66, o_67, o_68, o_69, o_70, o_71, o_72, o_73⟩ := u
      dsimp only at w_58 hB
      obtain ⟨er, hP1, hK1, hD1⟩ := hB
      rw [ht] at hP1
      have hK1 := va_K.moved hvm.symm hK1
      have hD := hD1.weaken (fun _ q _ h => hFc q.1 h)
      have hP := hP1
      clear hP1 hD1 hK1 hk1 hz1 hFc hDc hPc hKc
      generalize H1 = H at hP hS ⊢
      have w_58 : o_59.toInt = 0 ∧ o_61 = slots ∧ sixes o_64 ∧ mj_C slots.toNatClampNeg f o_62 o_63 o_64 o_65 o_66 o_67 o_68 o_60.toInt len.toInt ∧ 0 ≤ o_60.toInt ∧ o_60.toInt ≤ 319 ∧ treeOk o_62 o_63 o_60.toInt len.toInt := w_58
      rw [er]
      refine va_get (D := (dC, dI)) (ci := 2) (v := .ref q_lossOf) (C := RX2) (T := TX2) (N := 11) hx hb hts hi_2 hown hK hP 1 rfl rfl 5 (by decide) hf_139 (fun _ h9 => h9) rfl dX4_told_99 ?_
      refine lv_iconst (v := 0) hx hb dX4_told_102 (by decide) ?_
      refine va_iald hx hb hK hP 7 0 rfl rfl (ki_inl (by decide)) dX4_told_103 ?_
      refine lv_topi (fun y_74 ey_74 => ?_)
      have j_74 : y_74.toInt = (o_65 (0 : Int32).toNatClampNeg).toInt := congrArg Int32.toInt ey_74
      have hP9 := hP
      have hD9 := hD
      have hK9 := hK
      exact W.iret (v := y_74) hx hb hr (fun t ht hW => ⟨⟨y_74, (o_59, o_60, o_61, o_62, o_63, o_64, o_65, o_66, o_67, o_68, o_69, o_70, o_71, o_72, o_73), rfl, ⟨(Or.inl ⟨w_58.1, (Or.inr (Or.inr (Or.inr (Or.inr (Or.inr (Or.inr (Or.inl ⟨s_56, (by (try dsimp only); omega), ey_74⟩)))))))⟩), (fun _ => ⟨w_58.2.1, w_58.2.2.2.1⟩), w_58.2.2.1⟩, by rw [ht]; exact hP9, va_K.moved hW.alike hK9, hD9⟩, hS.F ht⟩) hS.2.2 dX4_told_104
    · have i_57 : len.toInt = 0 := kc_eq c_57
      refine lv_iconst (v := 0) hx hb dX4_told_91 (by decide) ?_
      refine lv_goto (tgt := 104) hx hb dX4_told_92 (by decide) ?_
      have hP9 := hP
      have hD9 := hD
      have hK9 := hK
      exact W.iret (v := 0) hx hb hr (fun t ht hW => ⟨⟨0, (old, nodes, here, ff, ft, fs, fo, fe, uv, un, js, jl, je, jv, jn), rfl, ⟨(Or.inr (Or.inr (Or.inr (Or.inl ⟨s_56, (by (try dsimp only); omega), rfl⟩)))), l0, s0⟩, by rw [ht]; exact hP9, va_K.moved hW.alike hK9, hD9⟩, hS.F ht⟩) hS.2.2 dX4_told_104
  by_cases s_75 : p0.toInt = 6
  · refine lv_tableIn (tgt := 105) (off := 104) hx hb dX4_told_1 (by omega) (by omega) (by rw [s_75]; rfl) (by decide) ?_
    refine lv_aload_n hx hb dX4_told_105 rfl (lv_at hl 0 rfl) ?_
    have hPc := hP
    have hKc := hK
    have hDc := hD
    have hFc := kx_free hD hS hA
    refine va_callr (va_runV (As := []) (rest := []) ⟨hx, hb, hml, hown, hts⟩ (c_X4_laidTree_x l dC dI m_ q_row q_t t_ h0 k0 w_ z_ slots old q_joined q_from q_to q_size q_lossOf q_lessBy q_value q_number nodes here q_cell cyI len f ff ft fs fo uv un fe j_v j_n js jl je jv jn s.heap.size a0 a1 s0 sl0 sl1 l0) (cwV 0 hts gX4_told_X4_laidTree rfl rfl rfl (by decide +kernel) ⟨Nat.le_of_ble_eq_true rfl, Nat.le_of_ble_eq_true rfl⟩) ⟨fun a U g mk q => by obtain ⟨q0, q1, qP, qK, qD⟩ := q; exact ⟨q0, q1, qP, va_K.moved (u := U) (U := U.calling g mk a) (Vm.Alike.refl U.vm) qK, qD⟩, va_recv hKc hPc (ci := 4) (q0 := 0) rfl rfl, fun U hU hW => ⟨rfl, by rw [hU], by rw [hU]; exact hPc, va_K.moved hW.alike hKc, hDc.weaken (fun _ _ _ _ => trivial)⟩⟩ rfl rfl hl.1 rfl (lv_room (Nat.le_of_ble_eq_true rfl)) dX4_told_106 ⟨Nat.le_of_ble_eq_true rfl, Nat.le_of_ble_eq_true rfl⟩) hS (fun q _ h => hFc q h) hFc (fun u ra t H1 locs ht hvm w_76 hB hz1 hk1 hS => ?_)
    obtain ⟨o_77, o_78, o_79, o_80, o_81, o_82, o_83, o_84, o_85, o_86, o_87, o_88, o_89, o_90, o_91⟩ := u
    dsimp only at w_76 hB
    obtain ⟨er, hP1, hK1, hD1⟩ := hB
    rw [ht] at hP1
    have hK1 := va_K.moved hvm.symm hK1
    have hD := hD1.weaken (fun _ q _ h => hFc q.1 h)
    have hP := hP1
    clear hP1 hD1 hK1 hk1 hz1 hFc hDc hPc hKc
    generalize H1 = H at hP hS ⊢
    have w_76 : o_77.toInt = 0 ∧ o_79 = slots ∧ sixes o_82 ∧ mj_C slots.toNatClampNeg f o_80 o_81 o_82 o_83 o_84 o_85 o_86 o_78.toInt len.toInt ∧ 0 ≤ o_78.toInt ∧ o_78.toInt ≤ 319 ∧ treeOk o_80 o_81 o_78.toInt len.toInt := w_76
    rw [er]
    have hPc := hP.sub (ws' := [kx_2 q_t q_row q_joined q_from q_to q_size q_lossOf q_lessBy q_value q_number o_78 o_79, kx_a q_lossOf cyI 319 o_83]) [1, 7] rfl
    have hKc := hK
    refine vp_callSi (W.runV (As := []) (rest := []) ⟨hx, hb, hml, hown, hts⟩ (c_X2_allLosses_x l dC dI q_t q_row q_joined q_from q_to q_size q_lossOf q_lessBy q_value q_number o_78 o_79 cyI o_83 w_76.2.2.2.2.1 w_76.2.2.2.2.2.1) (cwV 0 hts gX4_told_X2_allLosses rfl rfl rfl (by decide +kernel) ⟨Nat.le_of_ble_eq_true rfl, Nat.le_of_ble_eq_true rfl⟩) ⟨fun a U g mk q => by obtain ⟨q0, qP, qK⟩ := q; exact ⟨q0, qP, va_K.moved (u := U) (U := U.calling g mk a) (Vm.Alike.refl U.vm) qK⟩, va_recv hKc hPc (ci := 2) (q0 := 0) rfl rfl, fun U hU hW => ⟨rfl, by rw [hU]; exact hPc, va_K.moved hW.alike hKc⟩⟩ rfl rfl hl.1 rfl (lv_room (Nat.le_of_ble_eq_true rfl)) dX4_told_109 ⟨Nat.le_of_ble_eq_true rfl, Nat.le_of_ble_eq_true rfl⟩) (fun r_92 w_92 => ?_)
    subst w_92
    have hP9 := hP
    have hD9 := hD
    have hK9 := hK
    exact W.iret (v := (mj_tot o_83 0 o_78.toNatClampNeg)) hx hb hr (fun t ht hW => ⟨⟨(mj_tot o_83 0 o_78.toNatClampNeg), (o_77, o_78, o_79, o_80, o_81, o_82, o_83, o_84, o_85, o_86, o_87, o_88, o_89, o_90, o_91), rfl, ⟨(Or.inl ⟨w_76.1, (Or.inr (Or.inr (Or.inr (Or.inr (Or.inr (Or.inr (Or.inr (Or.inl ⟨s_75, rfl⟩))))))))⟩), (fun _ => ⟨w_76.2.1, w_76.2.2.2.1⟩), w_76.2.2.1⟩, by rw [ht]; exact hP9, va_K.moved hW.alike hK9, hD9⟩, hS.F ht⟩) hS.2.2 dX4_told_112
  refine lv_tableOut (tgt := 113) hx hb dX4_told_1 (by omega) (by decide) ?_
  refine lv_iconst (v := (-1)) hx hb dX4_told_113 (by decide) ?_
  have hP9 := hP
  have hD9 := hD
  have hK9 := hK
  exact W.iret (v := (-1)) hx hb hr (fun t ht hW => ⟨⟨(-1), (old, nodes, here, ff, ft, fs, fo, fe, uv, un, js, jl, je, jv, jn), rfl, ⟨(Or.inr (Or.inr (Or.inr (Or.inr ⟨(by (try dsimp only); omega), rfl⟩)))), l0, s0⟩, by rw [ht]; exact hP9, va_K.moved hW.alike hK9, hD9⟩, hS.F ht⟩) hS.2.2 dX4_told_114

set_option maxHeartbeats 4000000 in
set_option maxRecDepth 100000 in
theorem c_X5_nodesWithMajority_x (l : Launch) (dC : Nat → ClassId) (dI : Nat → Nat → Nat) (h0 : Nat) (g_row : Nat) (g_many : Nat) (g_loss : Nat) (g_less : Nat) (g_voteValue : Nat) (g_voteNumber : Nat) (g_allValue : Nat) (g_allNumber : Nat) (g_nodeL : Nat) (g_nodeR : Nat) (g_part : Nat) (g_wasMany : Nat) (g_wasLoss : Nat) (g_wasValue : Nat) (g_wasNumber : Nat) (g_path : Nat) (g_heavyValue : Nat) (g_heavyTimes : Nat) (g_fewest : Nat) (g_which : Nat) (g_met : Nat) (m_n : Int32) (m_slots : Int32) (m_thrown : Int32) (m_allMany : Int32) (m_nodes : Int32) (m_partMany : Int32) (m_pathMany : Int32) (m_heavyMany : Int32) (m_mostMet : Int32) (cyI : ClassId) (f : Nat → Int32) (nl : Nat → Int32) (nr : Nat → Int32) (b0 : 0 ≤ m_nodes.toInt) (b1 : m_nodes.toInt ≤ 319) (ok : nodesOk nl nr m_nodes.toInt) (s1 : shorts f) : Met l yX5_nodesWithMajority wsX5_nodesWithMajority ({ frames := 2, cells := 0, slots := 0, locals := 90 }) (va_Pc [.ref h0] (fun U => va_P (dC, dI) vwCl [kx_5 h0 g_row m_n m_slots m_thrown g_many g_loss g_less g_voteValue g_voteNumber g_allValue g_allNumber m_allMany g_nodeL g_nodeR m_nodes g_part m_partMany g_wasMany g_wasLoss g_wasValue g_wasNumber g_path m_pathMany g_heavyValue g_heavyTimes m_heavyMany g_fewest g_which g_met m_mostMet, kx_a g_row cyI 160 f, kx_a g_nodeL cyI 320 nl, kx_a g_nodeR cyI 320 nr] U.heap ∧ va_K (dC, dI) vwCl [(cyI, .int)] U)) (vp_Si (fun r : Int32 => r.toInt = (mj_nm f nl nr m_nodes.toNatClampNeg : Int))) 0 0 (fun _ => False) := by
  refine Met.ofW (cc := cX5_nodesWithMajority) (maxL := 3) (ret := (some .int)) (by decide) rfl ?_
  intro p e s m args below meth c s₁ B hml hv
  obtain ⟨rfl, hP, hK⟩ := hv
  have hx := B.exec
  have hb := B.bytes
  have hr := B.returns
  have hts := atoms_spec (ws := wsX5_nodesWithMajority) B.pre
  have hown : s.vm.findClass RX5 = some m.cls := findClass_of_methodNamed B.named
  have hlocks := B.notSynchronized
  have hP : va_P (dC, dI) vwCl [kx_5 h0 g_row m_n m_slots m_thrown g_many g_loss g_less g_voteValue g_voteNumber g_allValue g_allNumber m_allMany g_nodeL g_nodeR m_nodes g_part m_partMany g_wasMany g_wasLoss g_wasValue g_wasNumber g_path m_pathMany g_heavyValue g_heavyTimes m_heavyMany g_fewest g_which g_met m_mostMet, kx_a g_row cyI 160 f, kx_a g_nodeL cyI 320 nl, kx_a g_nodeR cyI 320 nr] s.heap := hP
  have hl := lv_entry ([.ref h0]) (n := 3) (Nat.le_of_ble_eq_true rfl)
  rw [lg_entry_eq]
  generalize (lg_sl ([.ref h0]) ++ List.replicate (3 - (lg_sl ([.ref h0])).length) Slot.unset).toArray = ls at hl ⊢
  have hl : lv_has ls 3 [(0, .ref h0)] := hl
  have hf_101 := hts (.fieldLink RX5 101 "MajorityIndexModel" "nodes" "I") (List.mem_of_getElem? (i := 1) rfl)
  have hi_5 : ∀ w ∈ u_ws RX5 TX5 30, w ∈ wsX5_nodesWithMajority := fun w h => List.mem_cons_of_mem _ (List.mem_append_right _ h)
  have hf_38 := hts (.fieldLink RX5 38 "MajorityIndexModel" "nodeL" "[I") (List.mem_of_getElem? (i := 2) rfl)
  have hf_41 := hts (.fieldLink RX5 41 "MajorityIndexModel" "nodeR" "[I") (List.mem_of_getElem? (i := 3) rfl)
  have hk_148 := hts (.constant RX5 148 (-40000)) (List.mem_of_getElem? (i := 4) rfl)
  have n_nd := ki_nat m_nodes rfl (by omega)
  refine lv_iconst (v := 0) hx hb dX5_nodesWithMajority_0 (by decide) ?_
  refine lv_istore_n (lv' := [(1, .int 0), (0, .ref h0)]) hx hb dX5_nodesWithMajority_1 rfl hl (by decide) rfl (fun ls hl => ?_)
  refine lv_iconst (v := 0) hx hb dX5_nodesWithMajority_2 (by decide) ?_
  refine lv_istore_n (lv' := [(2, .int 0), (1, .int 0), (0, .ref h0)]) hx hb dX5_nodesWithMajority_3 rfl hl (by decide) rfl (fun ls hl => ?_)
  have LP1 : ∀ (n : Nat) (i : Int32) (sm : Int32), (0 ≤ i.toInt) → (sm.toInt = (mj_nm f nl nr i.toNatClampNeg : Int)) → (i.toInt ≤ m_nodes.toInt) → (m_nodes.toInt - i.toInt).toNat < n → ∀ (ls : Array Slot), lv_has ls 3 [(2, .int i), (1, .int sm), (0, .ref h0)] → W p l e (headSpec wsX5_nodesWithMajority ({ frames := 2, cells := 0, slots := 0, locals := 90 })).room s m ([.ref h0] : List Value).toArray below meth c s.heap [] 0 0 (MQ below (vp_Si (fun r : Int32 => r.toInt = (mj_nm f nl nr m_nodes.toNatClampNeg : Int))) ([.ref h0] : List Value).toArray s 0 0 (fun _ => False)) (F0 m 4 ls []) := by
    intro n
    induction n with
    | zero => intro i sm LP1_h0 LP1_h1 LP1_h2 hn; exact absurd hn (Nat.not_lt_zero _)
    | succ n ih1 =>
      intro i sm LP1_h0 LP1_h1 LP1_h2 hn1 ls hl
      have n_i := ki_nat i rfl (by omega)
      have hle := mj_nm_le f nl nr i.toNatClampNeg
      refine lv_iload_n hx hb dX5_nodesWithMajority_4 rfl (lv_at hl 0 rfl) ?_
      refine lv_aload_n hx hb dX5_nodesWithMajority_5 rfl (lv_at hl 2 rfl) ?_
      refine va_get (D := (dC, dI)) (ci := 5) (v := .int m_nodes) (C := RX5) (T := TX5) (N := 30) hx hb hts hi_5 hown hK hP 0 rfl rfl 14 (by decide) hf_101 (fun _ h9 => h9) rfl dX5_nodesWithMajority_6 ?_
      refine lv_icmp_ge (tgt := 42) hx hb dX5_nodesWithMajority_9 (by decide) (fun c_1 => ?_) (fun c_1 => ?_)
      · have i_1 : m_nodes.toInt ≤ i.toInt := kc_le c_1
        refine lv_iload_n hx hb dX5_nodesWithMajority_42 rfl (lv_at hl 1 rfl) ?_
        exact W.iret (v := sm) hx hb hr (fun t ht hW => ⟨sm, rfl, (by (try dsimp only); rw [show m_nodes.toNatClampNeg = i.toNatClampNeg by omega]; exact LP1_h1), ht⟩) (fun q hq => by cases hq) dX5_nodesWithMajority_43
      · have i_1 : i.toInt < m_nodes.toInt := kc_nle c_1
        refine lv_aload_n hx hb dX5_nodesWithMajority_12 rfl (lv_at hl 2 rfl) ?_
        refine lv_aload_n hx hb dX5_nodesWithMajority_13 rfl (lv_at hl 2 rfl) ?_
        refine va_get (D := (dC, dI)) (ci := 5) (v := .ref g_nodeL) (C := RX5) (T := TX5) (N := 30) hx hb hts hi_5 hown hK hP 0 rfl rfl 12 (by decide) hf_38 (fun _ h9 => h9) rfl dX5_nodesWithMajority_14 ?_
        refine lv_iload_n hx hb dX5_nodesWithMajority_17 rfl (lv_at hl 0 rfl) ?_
        refine va_iald hx hb hK hP 2 0 rfl rfl (ki_in (by omega) (by omega)) dX5_nodesWithMajority_18 ?_
        refine lv_topi (fun y_2 ey_2 => ?_)
        have j_2 : y_2.toInt = (nl i.toNatClampNeg).toInt := congrArg Int32.toInt ey_2
        have n_3 : (i.toNatClampNeg : Int) = i.toInt := ki_nat _ rfl (by omega)
        have i_4 := ok i.toNatClampNeg (by omega)
        refine lv_aload_n hx hb dX5_nodesWithMajority_19 rfl (lv_at hl 2 rfl) ?_
        refine va_get (D := (dC, dI)) (ci := 5) (v := .ref g_nodeR) (C := RX5) (T := TX5) (N := 30) hx hb hts hi_5 hown hK hP 0 rfl rfl 13 (by decide) hf_41 (fun _ h9 => h9) rfl dX5_nodesWithMajority_20 ?_
        refine lv_iload_n hx hb dX5_nodesWithMajority_23 rfl (lv_at hl 0 rfl) ?_
        refine va_iald hx hb hK hP 3 0 rfl rfl (ki_in (by omega) (by omega)) dX5_nodesWithMajority_24 ?_
        refine lv_topi (fun y_5 ey_5 => ?_)
        have j_5 : y_5.toInt = (nr i.toNatClampNeg).toInt := congrArg Int32.toInt ey_5
        have n_6 : (i.toNatClampNeg : Int) = i.toInt := ki_nat _ rfl (by omega)
        have i_7 := ok i.toNatClampNeg (by omega)
        have hPc := hP.sub (ws' := [kx_5 h0 g_row m_n m_slots m_thrown g_many g_loss g_less g_voteValue g_voteNumber g_allValue g_allNumber m_allMany g_nodeL g_nodeR m_nodes g_part m_partMany g_wasMany g_wasLoss g_wasValue g_wasNumber g_path m_pathMany g_heavyValue g_heavyTimes m_heavyMany g_fewest g_which g_met m_mostMet, kx_a g_row cyI 160 f]) [0, 1] rfl
        have hKc := hK
        refine vp_callSi (W.runV (As := [.int y_2, .int y_5]) (rest := []) ⟨hx, hb, hml, hown, hts⟩ (c_X5_majorityOf_x l dC dI h0 g_row g_many g_loss g_less g_voteValue g_voteNumber g_allValue g_allNumber g_nodeL g_nodeR g_part g_wasMany g_wasLoss g_wasValue g_wasNumber g_path g_heavyValue g_heavyTimes g_fewest g_which g_met m_n m_slots m_thrown m_allMany m_nodes m_partMany m_pathMany m_heavyMany m_mostMet cyI f y_2 y_5 (by omega) (by omega) (by omega)) (cwV 2 hts gX5_nodesWithMajority_X5_majorityOf rfl rfl rfl (by decide +kernel) ⟨Nat.le_of_ble_eq_true rfl, Nat.le_of_ble_eq_true rfl⟩) ⟨fun a U g mk q => by obtain ⟨q0, qP, qK⟩ := q; exact ⟨q0, qP, va_K.moved (u := U) (U := U.calling g mk a) (Vm.Alike.refl U.vm) qK⟩, va_recv hKc hPc (ci := 5) (q0 := 0) rfl rfl, fun U hU hW => ⟨rfl, by rw [hU]; exact hPc, va_K.moved hW.alike hKc⟩⟩ rfl rfl hl.1 rfl (lv_room (Nat.le_of_ble_eq_true rfl)) dX5_nodesWithMajority_25 ⟨Nat.le_of_ble_eq_true rfl, Nat.le_of_ble_eq_true rfl⟩) (fun r_8 w_8 => ?_)
        have w_8 : mj_maj f y_2.toNatClampNeg y_5.toNatClampNeg r_8 := w_8
        refine lv_ldc (v := (-40000)) hx hb hown hk_148 dX5_nodesWithMajority_28 ?_
        refine lv_icmp_eq (tgt := 36) hx hb dX5_nodesWithMajority_30 (by decide) (fun c_9 => ?_) (fun c_9 => ?_)
        · have i_9 : r_8.toInt = (-40000) := kc_eq c_9
          obtain ⟨x_10, ex_10⟩ : ∃ y : Int32, y = i + 1 := ⟨_, rfl⟩
          have i_10 : x_10.toInt = i.toInt + 1 := ki_add ex_10 rfl rfl (by omega) (by omega)
          refine lv_iinc (v := x_10) (lv' := [(2, .int x_10), (1, .int sm), (0, .ref h0)]) hx hb dX5_nodesWithMajority_36 hl (k := 0) rfl (by rw [ex_10]; rfl) (by decide) rfl (fun ls hl => ?_)
          refine lv_goto (tgt := 4) hx hb dX5_nodesWithMajority_39 (by decide) ?_
          have n_11 := ki_nat x_10 rfl (by omega)
          have n_f := ki_nat y_2 rfl (by omega)
          have n_t := ki_nat y_5 rfl (by omega)
          have hmi := mj_maj_hm w_8 s1 (by omega) (by omega)
          rw [ey_2, ey_5] at hmi
          have st := mj_nm_no (f := f) (ff := nl) (ft := nr) (k := i.toNatClampNeg) (k2 := x_10.toNatClampNeg) (fun h => hmi.mpr h c_9) (by omega)
          exact ih1 x_10 sm (by omega) (by rw [st]; omega) (by omega) (by omega) ls (lv_sub hl [0, 1, 2] rfl)
        · have i_9 : ¬ r_8.toInt = (-40000) := kc_ne c_9
          obtain ⟨x_12, ex_12⟩ : ∃ y : Int32, y = sm + 1 := ⟨_, rfl⟩
          have i_12 : x_12.toInt = sm.toInt + 1 := ki_add ex_12 rfl rfl (by omega) (by omega)
          refine lv_iinc (v := x_12) (lv' := [(1, .int x_12), (2, .int i), (0, .ref h0)]) hx hb dX5_nodesWithMajority_33 hl (k := 1) rfl (by rw [ex_12]; rfl) (by decide) rfl (fun ls hl => ?_)
          obtain ⟨x_13, ex_13⟩ : ∃ y : Int32, y = i + 1 := ⟨_, rfl⟩
          have i_13 : x_13.toInt = i.toInt + 1 := ki_add ex_13 rfl rfl (by omega) (by omega)
          refine lv_iinc (v := x_13) (lv' := [(2, .int x_13), (1, .int x_12), (0, .ref h0)]) hx hb dX5_nodesWithMajority_36 hl (k := 1) rfl (by rw [ex_13]; rfl) (by decide) rfl (fun ls hl => ?_)
          refine lv_goto (tgt := 4) hx hb dX5_nodesWithMajority_39 (by decide) ?_
          have n_14 := ki_nat x_13 rfl (by omega)
          have n_f := ki_nat y_2 rfl (by omega)
          have n_t := ki_nat y_5 rfl (by omega)
          have hmi := mj_maj_hm w_8 s1 (by omega) (by omega)
          rw [ey_2, ey_5] at hmi
          have st := mj_nm_yes (f := f) (ff := nl) (ft := nr) (k := i.toNatClampNeg) (k2 := x_13.toNatClampNeg) (hmi.mp c_9) (by omega)
          exact ih1 x_13 x_12 (by omega) (by rw [st]; omega) (by omega) (by omega) ls (lv_sub hl [0, 1, 2] rfl)
  have k_15 : (0 : Int32).toInt = 0 := rfl
  have k_16 : (0 : Int32).toInt = 0 := rfl
  exact LP1 ((m_nodes.toInt - 0 : Int).toNat + 1) 0 0 (by omega) rfl (by omega) (Nat.lt_succ_self _) ls (lv_sub hl [0, 1, 2] rfl)

set_option maxHeartbeats 4000000 in
set_option maxRecDepth 100000 in
theorem c_X5_deep_x0 (l : Launch) (dC : Nat → ClassId) (dI : Nat → Nat → Nat) (h0 : Nat) (g_row : Nat) (g_many : Nat) (g_loss : Nat) (g_less : Nat) (g_voteValue : Nat) (g_voteNumber : Nat) (g_allValue : Nat) (g_allNumber : Nat) (g_nodeL : Nat) (g_nodeR : Nat) (g_part : Nat) (g_wasMany : Nat) (g_wasLoss : Nat) (g_wasValue : Nat) (g_wasNumber : Nat) (g_path : Nat) (g_heavyValue : Nat) (g_heavyTimes : Nat) (g_fewest : Nat) (g_which : Nat) (g_met : Nat) (m_n : Int32) (m_slots : Int32) (m_thrown : Int32) (m_allMany : Int32) (m_nodes : Int32) (m_partMany : Int32) (m_pathMany : Int32) (m_heavyMany : Int32) (m_mostMet : Int32) (p0 : Int32) (p1 : Int32) (b0 : 0 ≤ p0.toInt) (b1 : p0.toInt ≤ p1.toInt) (b2 : p1.toInt ≤ 160) (b3 : p1.toInt - p0.toInt ≤ 1) : Met l yX5_deep wsX5_deep ({ frames := 0, cells := 0, slots := 0, locals := 0 }) (va_Pc [.ref h0, .int p0, .int p1] (fun U => va_P (dC, dI) vwCl [kx_5 h0 g_row m_n m_slots m_thrown g_many g_loss g_less g_voteValue g_voteNumber g_allValue g_allNumber m_allMany g_nodeL g_nodeR m_nodes g_part m_partMany g_wasMany g_wasLoss g_wasValue g_wasNumber g_path m_pathMany g_heavyValue g_heavyTimes m_heavyMany g_fewest g_which g_met m_mostMet] U.heap ∧ va_K (dC, dI) vwCl [] U)) (vp_Si (fun r : Int32 => r.toInt = (mj_dp 0 (p1.toInt - p0.toInt).toNat : Int) ∧ 0 ≤ r.toInt ∧ r.toInt ≤ 1)) 0 0 (fun _ => False) := by
  refine Met.ofW (cc := cX5_deep) (maxL := 6) (ret := (some .int)) (by decide) rfl ?_
  intro p e s m args below meth c s₁ B hml hv
  obtain ⟨rfl, hP, hK⟩ := hv
  have hx := B.exec
  have hb := B.bytes
  have hr := B.returns
  have hts := atoms_spec (ws := wsX5_deep) B.pre
  have hown : s.vm.findClass RX5 = some m.cls := findClass_of_methodNamed B.named
  have hlocks := B.notSynchronized
  have hP : va_P (dC, dI) vwCl [kx_5 h0 g_row m_n m_slots m_thrown g_many g_loss g_less g_voteValue g_voteNumber g_allValue g_allNumber m_allMany g_nodeL g_nodeR m_nodes g_part m_partMany g_wasMany g_wasLoss g_wasValue g_wasNumber g_path m_pathMany g_heavyValue g_heavyTimes m_heavyMany g_fewest g_which g_met m_mostMet] s.heap := hP
  have hl := lv_entry ([.ref h0, .int p0, .int p1]) (n := 6) (Nat.le_of_ble_eq_true rfl)
  rw [lg_entry_eq]
  generalize (lg_sl ([.ref h0, .int p0, .int p1]) ++ List.replicate (6 - (lg_sl ([.ref h0, .int p0, .int p1])).length) Slot.unset).toArray = ls at hl ⊢
  have hl : lv_has ls 6 [(0, .ref h0), (1, .int p0), (2, .int p1)] := hl
  refine lv_iload_n hx hb dX5_deep_0 rfl (lv_at hl 2 rfl) ?_
  refine lv_iload_n hx hb dX5_deep_1 rfl (lv_at hl 1 rfl) ?_
  refine lv_isub hx hb dX5_deep_2 ?_
  refine lv_topi (fun y_1 ey_1 => ?_)
  have i_1 : y_1.toInt = p1.toInt - p0.toInt := ki_sub ey_1 rfl rfl (by omega) (by omega)
  refine lv_iconst (v := 2) hx hb dX5_deep_3 (by decide) ?_
  refine lv_icmp_ge (tgt := 11) hx hb dX5_deep_4 (by decide) (fun c_2 => ?_) (fun c_2 => ?_)
  · have i_2 : 2 ≤ y_1.toInt := kc_le c_2
    exfalso; omega
  · have i_2 : y_1.toInt < 2 := kc_nle c_2
    refine lv_iload_n hx hb dX5_deep_7 rfl (lv_at hl 2 rfl) ?_
    refine lv_iload_n hx hb dX5_deep_8 rfl (lv_at hl 1 rfl) ?_
    refine lv_isub hx hb dX5_deep_9 ?_
    refine lv_topi (fun y_3 ey_3 => ?_)
    have i_3 : y_3.toInt = p1.toInt - p0.toInt := ki_sub ey_3 rfl rfl (by omega) (by omega)
    exact W.iret (v := y_3) hx hb hr (fun t ht hW => ⟨y_3, rfl, ⟨(by (try dsimp only); rw [mj_dp_small (by omega)]; omega), (by (try dsimp only); omega), (by (try dsimp only); omega)⟩, ht⟩) (fun q hq => by cases hq) dX5_deep_10

set_option maxHeartbeats 4000000 in
set_option maxRecDepth 100000 in
theorem c_X5_deep_x1 (l : Launch) (dC : Nat → ClassId) (dI : Nat → Nat → Nat) (h0 : Nat) (g_row : Nat) (g_many : Nat) (g_loss : Nat) (g_less : Nat) (g_voteValue : Nat) (g_voteNumber : Nat) (g_allValue : Nat) (g_allNumber : Nat) (g_nodeL : Nat) (g_nodeR : Nat) (g_part : Nat) (g_wasMany : Nat) (g_wasLoss : Nat) (g_wasValue : Nat) (g_wasNumber : Nat) (g_path : Nat) (g_heavyValue : Nat) (g_heavyTimes : Nat) (g_fewest : Nat) (g_which : Nat) (g_met : Nat) (m_n : Int32) (m_slots : Int32) (m_thrown : Int32) (m_allMany : Int32) (m_nodes : Int32) (m_partMany : Int32) (m_pathMany : Int32) (m_heavyMany : Int32) (m_mostMet : Int32) (p0 : Int32) (p1 : Int32) (b0 : 0 ≤ p0.toInt) (b1 : p0.toInt ≤ p1.toInt) (b2 : p1.toInt ≤ 160) (b3 : p1.toInt - p0.toInt ≤ 2) : Met l yX5_deep wsX5_deep ({ frames := 1, cells := 0, slots := 0, locals := 45 }) (va_Pc [.ref h0, .int p0, .int p1] (fun U => va_P (dC, dI) vwCl [kx_5 h0 g_row m_n m_slots m_thrown g_many g_loss g_less g_voteValue g_voteNumber g_allValue g_allNumber m_allMany g_nodeL g_nodeR m_nodes g_part m_partMany g_wasMany g_wasLoss g_wasValue g_wasNumber g_path m_pathMany g_heavyValue g_heavyTimes m_heavyMany g_fewest g_which g_met m_mostMet] U.heap ∧ va_K (dC, dI) vwCl [] U)) (vp_Si (fun r : Int32 => r.toInt = (mj_dp 1 (p1.toInt - p0.toInt).toNat : Int) ∧ 0 ≤ r.toInt ∧ r.toInt ≤ 2)) 0 0 (fun _ => False) := by
  refine Met.ofW (cc := cX5_deep) (maxL := 6) (ret := (some .int)) (by decide) rfl ?_
  intro p e s m args below meth c s₁ B hml hv
  obtain ⟨rfl, hP, hK⟩ := hv
  have hx := B.exec
  have hb := B.bytes
  have hr := B.returns
  have hts := atoms_spec (ws := wsX5_deep) B.pre
  have hown : s.vm.findClass RX5 = some m.cls := findClass_of_methodNamed B.named
  have hlocks := B.notSynchronized
  have hP : va_P (dC, dI) vwCl [kx_5 h0 g_row m_n m_slots m_thrown g_many g_loss g_less g_voteValue g_voteNumber g_allValue g_allNumber m_allMany g_nodeL g_nodeR m_nodes g_part m_partMany g_wasMany g_wasLoss g_wasValue g_wasNumber g_path m_pathMany g_heavyValue g_heavyTimes m_heavyMany g_fewest g_which g_met m_mostMet] s.heap := hP
  have hl := lv_entry ([.ref h0, .int p0, .int p1]) (n := 6) (Nat.le_of_ble_eq_true rfl)
  rw [lg_entry_eq]
  generalize (lg_sl ([.ref h0, .int p0, .int p1]) ++ List.replicate (6 - (lg_sl ([.ref h0, .int p0, .int p1])).length) Slot.unset).toArray = ls at hl ⊢
  have hl : lv_has ls 6 [(0, .ref h0), (1, .int p0), (2, .int p1)] := hl
  refine lv_iload_n hx hb dX5_deep_0 rfl (lv_at hl 2 rfl) ?_
  refine lv_iload_n hx hb dX5_deep_1 rfl (lv_at hl 1 rfl) ?_
  refine lv_isub hx hb dX5_deep_2 ?_
  refine lv_topi (fun y_1 ey_1 => ?_)
  have i_1 : y_1.toInt = p1.toInt - p0.toInt := ki_sub ey_1 rfl rfl (by omega) (by omega)
  refine lv_iconst (v := 2) hx hb dX5_deep_3 (by decide) ?_
  refine lv_icmp_ge (tgt := 11) hx hb dX5_deep_4 (by decide) (fun c_2 => ?_) (fun c_2 => ?_)
  · have i_2 : 2 ≤ y_1.toInt := kc_le c_2
    refine lv_iload_n hx hb dX5_deep_11 rfl (lv_at hl 1 rfl) ?_
    refine lv_iload_n hx hb dX5_deep_12 rfl (lv_at hl 2 rfl) ?_
    refine lv_iadd hx hb dX5_deep_13 ?_
    refine lv_topi (fun y_3 ey_3 => ?_)
    have i_3 : y_3.toInt = p0.toInt + p1.toInt := ki_add ey_3 rfl rfl (by omega) (by omega)
    refine lv_iconst (v := 2) hx hb dX5_deep_14 (by decide) ?_
    refine lv_idiv hx hb dX5_deep_15 (by decide) ?_
    refine lv_topi (fun y_4 ey_4 => ?_)
    have i_4 : y_4.toInt = y_3.toInt / 2 := ki_div2 ey_4 rfl (by omega)
    refine lv_istore_n (lv' := [(3, .int y_4), (0, .ref h0), (1, .int p0), (2, .int p1)]) hx hb dX5_deep_16 rfl hl (by decide) rfl (fun ls hl => ?_)
    refine lv_aload_n hx hb dX5_deep_17 rfl (lv_at hl 1 rfl) ?_
    refine lv_iload_n hx hb dX5_deep_18 rfl (lv_at hl 2 rfl) ?_
    refine lv_iload_n hx hb dX5_deep_19 rfl (lv_at hl 0 rfl) ?_
    have hPc := hP
    have hKc := hK
    refine vp_callSi (W.runV (As := [.int p0, .int y_4]) (rest := []) ⟨hx, hb, hml, hown, hts⟩ (c_X5_deep_x0 l dC dI h0 g_row g_many g_loss g_less g_voteValue g_voteNumber g_allValue g_allNumber g_nodeL g_nodeR g_part g_wasMany g_wasLoss g_wasValue g_wasNumber g_path g_heavyValue g_heavyTimes g_fewest g_which g_met m_n m_slots m_thrown m_allMany m_nodes m_partMany m_pathMany m_heavyMany m_mostMet p0 y_4 b0 (by omega) (by omega) (by omega)) (cwV 2 hts gX5_deep_X5_deep rfl rfl rfl (by decide +kernel) ⟨Nat.le_of_ble_eq_true rfl, Nat.le_of_ble_eq_true rfl⟩) ⟨fun a U g mk q => by obtain ⟨q0, qP, qK⟩ := q; exact ⟨q0, qP, va_K.moved (u := U) (U := U.calling g mk a) (Vm.Alike.refl U.vm) qK⟩, va_recv hKc hPc (ci := 5) (q0 := 0) rfl rfl, fun U hU hW => ⟨rfl, by rw [hU]; exact hPc, va_K.moved hW.alike hKc⟩⟩ rfl rfl hl.1 rfl (lv_room (Nat.le_of_ble_eq_true rfl)) dX5_deep_20 ⟨Nat.le_of_ble_eq_true rfl, Nat.le_of_ble_eq_true rfl⟩) (fun r_5 w_5 => ?_)
    have w_5 : r_5.toInt = (mj_dp 0 (y_4.toInt - p0.toInt).toNat : Int) ∧ 0 ≤ r_5.toInt ∧ r_5.toInt ≤ 1 := w_5
    refine lv_istore (lv' := [(4, .int r_5), (3, .int y_4), (0, .ref h0), (1, .int p0), (2, .int p1)]) hx hb dX5_deep_23 hl (by decide) rfl (fun ls hl => ?_)
    refine lv_aload_n hx hb dX5_deep_25 rfl (lv_at hl 2 rfl) ?_
    refine lv_iload_n hx hb dX5_deep_26 rfl (lv_at hl 1 rfl) ?_
    refine lv_iload_n hx hb dX5_deep_27 rfl (lv_at hl 4 rfl) ?_
    have hPc := hP
    have hKc := hK
    refine vp_callSi (W.runV (As := [.int y_4, .int p1]) (rest := []) ⟨hx, hb, hml, hown, hts⟩ (c_X5_deep_x0 l dC dI h0 g_row g_many g_loss g_less g_voteValue g_voteNumber g_allValue g_allNumber g_nodeL g_nodeR g_part g_wasMany g_wasLoss g_wasValue g_wasNumber g_path g_heavyValue g_heavyTimes g_fewest g_which g_met m_n m_slots m_thrown m_allMany m_nodes m_partMany m_pathMany m_heavyMany m_mostMet y_4 p1 (by omega) (by omega) b2 (by omega)) (cwV 2 hts gX5_deep_X5_deep rfl rfl rfl (by decide +kernel) ⟨Nat.le_of_ble_eq_true rfl, Nat.le_of_ble_eq_true rfl⟩) ⟨fun a U g mk q => by obtain ⟨q0, qP, qK⟩ := q; exact ⟨q0, qP, va_K.moved (u := U) (U := U.calling g mk a) (Vm.Alike.refl U.vm) qK⟩, va_recv hKc hPc (ci := 5) (q0 := 0) rfl rfl, fun U hU hW => ⟨rfl, by rw [hU]; exact hPc, va_K.moved hW.alike hKc⟩⟩ rfl rfl hl.1 rfl (lv_room (Nat.le_of_ble_eq_true rfl)) dX5_deep_28 ⟨Nat.le_of_ble_eq_true rfl, Nat.le_of_ble_eq_true rfl⟩) (fun r_6 w_6 => ?_)
    have w_6 : r_6.toInt = (mj_dp 0 (p1.toInt - y_4.toInt).toNat : Int) ∧ 0 ≤ r_6.toInt ∧ r_6.toInt ≤ 1 := w_6
    refine lv_istore (lv' := [(5, .int r_6), (4, .int r_5), (3, .int y_4), (0, .ref h0), (1, .int p0), (2, .int p1)]) hx hb dX5_deep_31 hl (by decide) rfl (fun ls hl => ?_)
    refine lv_iconst (v := 1) hx hb dX5_deep_33 (by decide) ?_
    refine lv_iload hx hb dX5_deep_34 (lv_at hl 1 rfl) ?_
    refine lv_iload hx hb dX5_deep_36 (lv_at hl 0 rfl) ?_
    refine lv_icmp_le (tgt := 46) hx hb dX5_deep_38 (by decide) (fun c_7 => ?_) (fun c_7 => ?_)
    · have i_7 : r_5.toInt ≤ r_6.toInt := kc_le c_7
      refine lv_iload hx hb dX5_deep_46 (lv_at hl 0 rfl) ?_
      refine lv_iadd hx hb dX5_deep_48 ?_
      refine lv_topi (fun y_8 ey_8 => ?_)
      have i_8 : y_8.toInt = 1 + r_6.toInt := ki_add ey_8 rfl rfl (by omega) (by omega)
      have d_1 : mj_dp 1 (p1.toInt - p0.toInt).toNat = 1 + mj_dp 0 (p1.toInt - y_4.toInt).toNat ∧ mj_dp 0 (y_4.toInt - p0.toInt).toNat ≤ mj_dp 0 (p1.toInt - y_4.toInt).toNat := mj_dp_node (by omega) (by omega) (by omega)
      exact W.iret (v := y_8) hx hb hr (fun t ht hW => ⟨y_8, rfl, ⟨(by (try dsimp only); omega), (by (try dsimp only); omega), (by (try dsimp only); omega)⟩, ht⟩) (fun q hq => by cases hq) dX5_deep_49
    · have i_7 : r_6.toInt < r_5.toInt := kc_nle c_7
      refine lv_iload hx hb dX5_deep_41 (lv_at hl 1 rfl) ?_
      refine lv_goto (tgt := 48) hx hb dX5_deep_43 (by decide) ?_
      refine lv_iadd hx hb dX5_deep_48 ?_
      refine lv_topi (fun y_9 ey_9 => ?_)
      have i_9 : y_9.toInt = 1 + r_5.toInt := ki_add ey_9 rfl rfl (by omega) (by omega)
      have d_1 : mj_dp 1 (p1.toInt - p0.toInt).toNat = 1 + mj_dp 0 (p1.toInt - y_4.toInt).toNat ∧ mj_dp 0 (y_4.toInt - p0.toInt).toNat ≤ mj_dp 0 (p1.toInt - y_4.toInt).toNat := mj_dp_node (by omega) (by omega) (by omega)
      exact W.iret (v := y_9) hx hb hr (fun t ht hW => ⟨y_9, rfl, ⟨(by (try dsimp only); omega), (by (try dsimp only); omega), (by (try dsimp only); omega)⟩, ht⟩) (fun q hq => by cases hq) dX5_deep_49
  · have i_2 : y_1.toInt < 2 := kc_nle c_2
    refine lv_iload_n hx hb dX5_deep_7 rfl (lv_at hl 2 rfl) ?_
    refine lv_iload_n hx hb dX5_deep_8 rfl (lv_at hl 1 rfl) ?_
    refine lv_isub hx hb dX5_deep_9 ?_
    refine lv_topi (fun y_10 ey_10 => ?_)
    have i_10 : y_10.toInt = p1.toInt - p0.toInt := ki_sub ey_10 rfl rfl (by omega) (by omega)
    exact W.iret (v := y_10) hx hb hr (fun t ht hW => ⟨y_10, rfl, ⟨(by (try dsimp only); rw [mj_dp_small (by omega)]; omega), (by (try dsimp only); omega), (by (try dsimp only); omega)⟩, ht⟩) (fun q hq => by cases hq) dX5_deep_10

set_option maxHeartbeats 4000000 in
set_option maxRecDepth 100000 in
theorem c_X5_deep_x2 (l : Launch) (dC : Nat → ClassId) (dI : Nat → Nat → Nat) (h0 : Nat) (g_row : Nat) (g_many : Nat) (g_loss : Nat) (g_less : Nat) (g_voteValue : Nat) (g_voteNumber : Nat) (g_allValue : Nat) (g_allNumber : Nat) (g_nodeL : Nat) (g_nodeR : Nat) (g_part : Nat) (g_wasMany : Nat) (g_wasLoss : Nat) (g_wasValue : Nat) (g_wasNumber : Nat) (g_path : Nat) (g_heavyValue : Nat) (g_heavyTimes : Nat) (g_fewest : Nat) (g_which : Nat) (g_met : Nat) (m_n : Int32) (m_slots : Int32) (m_thrown : Int32) (m_allMany : Int32) (m_nodes : Int32) (m_partMany : Int32) (m_pathMany : Int32) (m_heavyMany : Int32) (m_mostMet : Int32) (p0 : Int32) (p1 : Int32) (b0 : 0 ≤ p0.toInt) (b1 : p0.toInt ≤ p1.toInt) (b2 : p1.toInt ≤ 160) (b3 : p1.toInt - p0.toInt ≤ 4) : Met l yX5_deep wsX5_deep ({ frames := 2, cells := 0, slots := 0, locals := 90 }) (va_Pc [.ref h0, .int p0, .int p1] (fun U => va_P (dC, dI) vwCl [kx_5 h0 g_row m_n m_slots m_thrown g_many g_loss g_less g_voteValue g_voteNumber g_allValue g_allNumber m_allMany g_nodeL g_nodeR m_nodes g_part m_partMany g_wasMany g_wasLoss g_wasValue g_wasNumber g_path m_pathMany g_heavyValue g_heavyTimes m_heavyMany g_fewest g_which g_met m_mostMet] U.heap ∧ va_K (dC, dI) vwCl [] U)) (vp_Si (fun r : Int32 => r.toInt = (mj_dp 2 (p1.toInt - p0.toInt).toNat : Int) ∧ 0 ≤ r.toInt ∧ r.toInt ≤ 3)) 0 0 (fun _ => False) := by
  refine Met.ofW (cc := cX5_deep) (maxL := 6) (ret := (some .int)) (by decide) rfl ?_
  intro p e s m args below meth c s₁ B hml hv
  obtain ⟨rfl, hP, hK⟩ := hv
  have hx := B.exec
  have hb := B.bytes
  have hr := B.returns
  have hts := atoms_spec (ws := wsX5_deep) B.pre
  have hown : s.vm.findClass RX5 = some m.cls := findClass_of_methodNamed B.named
  have hlocks := B.notSynchronized
  have hP : va_P (dC, dI) vwCl [kx_5 h0 g_row m_n m_slots m_thrown g_many g_loss g_less g_voteValue g_voteNumber g_allValue g_allNumber m_allMany g_nodeL g_nodeR m_nodes g_part m_partMany g_wasMany g_wasLoss g_wasValue g_wasNumber g_path m_pathMany g_heavyValue g_heavyTimes m_heavyMany g_fewest g_which g_met m_mostMet] s.heap := hP
  have hl := lv_entry ([.ref h0, .int p0, .int p1]) (n := 6) (Nat.le_of_ble_eq_true rfl)
  rw [lg_entry_eq]
  generalize (lg_sl ([.ref h0, .int p0, .int p1]) ++ List.replicate (6 - (lg_sl ([.ref h0, .int p0, .int p1])).length) Slot.unset).toArray = ls at hl ⊢
  have hl : lv_has ls 6 [(0, .ref h0), (1, .int p0), (2, .int p1)] := hl
  refine lv_iload_n hx hb dX5_deep_0 rfl (lv_at hl 2 rfl) ?_
  refine lv_iload_n hx hb dX5_deep_1 rfl (lv_at hl 1 rfl) ?_
  refine lv_isub hx hb dX5_deep_2 ?_
  refine lv_topi (fun y_1 ey_1 => ?_)
  have i_1 : y_1.toInt = p1.toInt - p0.toInt := ki_sub ey_1 rfl rfl (by omega) (by omega)
  refine lv_iconst (v := 2) hx hb dX5_deep_3 (by decide) ?_
  refine lv_icmp_ge (tgt := 11) hx hb dX5_deep_4 (by decide) (fun c_2 => ?_) (fun c_2 => ?_)
  · have i_2 : 2 ≤ y_1.toInt := kc_le c_2
    refine lv_iload_n hx hb dX5_deep_11 rfl (lv_at hl 1 rfl) ?_
    refine lv_iload_n hx hb dX5_deep_12 rfl (lv_at hl 2 rfl) ?_
    refine lv_iadd hx hb dX5_deep_13 ?_
    refine lv_topi (fun y_3 ey_3 => ?_)
    have i_3 : y_3.toInt = p0.toInt + p1.toInt := ki_add ey_3 rfl rfl (by omega) (by omega)
    refine lv_iconst (v := 2) hx hb dX5_deep_14 (by decide) ?_
    refine lv_idiv hx hb dX5_deep_15 (by decide) ?_
    refine lv_topi (fun y_4 ey_4 => ?_)
    have i_4 : y_4.toInt = y_3.toInt / 2 := ki_div2 ey_4 rfl (by omega)
    refine lv_istore_n (lv' := [(3, .int y_4), (0, .ref h0), (1, .int p0), (2, .int p1)]) hx hb dX5_deep_16 rfl hl (by decide) rfl (fun ls hl => ?_)
    refine lv_aload_n hx hb dX5_deep_17 rfl (lv_at hl 1 rfl) ?_
    refine lv_iload_n hx hb dX5_deep_18 rfl (lv_at hl 2 rfl) ?_
    refine lv_iload_n hx hb dX5_deep_19 rfl (lv_at hl 0 rfl) ?_
    have hPc := hP
    have hKc := hK
    refine vp_callSi (W.runV (As := [.int p0, .int y_4]) (rest := []) ⟨hx, hb, hml, hown, hts⟩ (c_X5_deep_x1 l dC dI h0 g_row g_many g_loss g_less g_voteValue g_voteNumber g_allValue g_allNumber g_nodeL g_nodeR g_part g_wasMany g_wasLoss g_wasValue g_wasNumber g_path g_heavyValue g_heavyTimes g_fewest g_which g_met m_n m_slots m_thrown m_allMany m_nodes m_partMany m_pathMany m_heavyMany m_mostMet p0 y_4 b0 (by omega) (by omega) (by omega)) (cwV 2 hts gX5_deep_X5_deep rfl rfl rfl (by decide +kernel) ⟨Nat.le_of_ble_eq_true rfl, Nat.le_of_ble_eq_true rfl⟩) ⟨fun a U g mk q => by obtain ⟨q0, qP, qK⟩ := q; exact ⟨q0, qP, va_K.moved (u := U) (U := U.calling g mk a) (Vm.Alike.refl U.vm) qK⟩, va_recv hKc hPc (ci := 5) (q0 := 0) rfl rfl, fun U hU hW => ⟨rfl, by rw [hU]; exact hPc, va_K.moved hW.alike hKc⟩⟩ rfl rfl hl.1 rfl (lv_room (Nat.le_of_ble_eq_true rfl)) dX5_deep_20 ⟨Nat.le_of_ble_eq_true rfl, Nat.le_of_ble_eq_true rfl⟩) (fun r_5 w_5 => ?_)
    have w_5 : r_5.toInt = (mj_dp 1 (y_4.toInt - p0.toInt).toNat : Int) ∧ 0 ≤ r_5.toInt ∧ r_5.toInt ≤ 2 := w_5
    refine lv_istore (lv' := [(4, .int r_5), (3, .int y_4), (0, .ref h0), (1, .int p0), (2, .int p1)]) hx hb dX5_deep_23 hl (by decide) rfl (fun ls hl => ?_)
    refine lv_aload_n hx hb dX5_deep_25 rfl (lv_at hl 2 rfl) ?_
    refine lv_iload_n hx hb dX5_deep_26 rfl (lv_at hl 1 rfl) ?_
    refine lv_iload_n hx hb dX5_deep_27 rfl (lv_at hl 4 rfl) ?_
    have hPc := hP
    have hKc := hK
    refine vp_callSi (W.runV (As := [.int y_4, .int p1]) (rest := []) ⟨hx, hb, hml, hown, hts⟩ (c_X5_deep_x1 l dC dI h0 g_row g_many g_loss g_less g_voteValue g_voteNumber g_allValue g_allNumber g_nodeL g_nodeR g_part g_wasMany g_wasLoss g_wasValue g_wasNumber g_path g_heavyValue g_heavyTimes g_fewest g_which g_met m_n m_slots m_thrown m_allMany m_nodes m_partMany m_pathMany m_heavyMany m_mostMet y_4 p1 (by omega) (by omega) b2 (by omega)) (cwV 2 hts gX5_deep_X5_deep rfl rfl rfl (by decide +kernel) ⟨Nat.le_of_ble_eq_true rfl, Nat.le_of_ble_eq_true rfl⟩) ⟨fun a U g mk q => by obtain ⟨q0, qP, qK⟩ := q; exact ⟨q0, qP, va_K.moved (u := U) (U := U.calling g mk a) (Vm.Alike.refl U.vm) qK⟩, va_recv hKc hPc (ci := 5) (q0 := 0) rfl rfl, fun U hU hW => ⟨rfl, by rw [hU]; exact hPc, va_K.moved hW.alike hKc⟩⟩ rfl rfl hl.1 rfl (lv_room (Nat.le_of_ble_eq_true rfl)) dX5_deep_28 ⟨Nat.le_of_ble_eq_true rfl, Nat.le_of_ble_eq_true rfl⟩) (fun r_6 w_6 => ?_)
    have w_6 : r_6.toInt = (mj_dp 1 (p1.toInt - y_4.toInt).toNat : Int) ∧ 0 ≤ r_6.toInt ∧ r_6.toInt ≤ 2 := w_6
    refine lv_istore (lv' := [(5, .int r_6), (4, .int r_5), (3, .int y_4), (0, .ref h0), (1, .int p0), (2, .int p1)]) hx hb dX5_deep_31 hl (by decide) rfl (fun ls hl => ?_)
    refine lv_iconst (v := 1) hx hb dX5_deep_33 (by decide) ?_
    refine lv_iload hx hb dX5_deep_34 (lv_at hl 1 rfl) ?_
    refine lv_iload hx hb dX5_deep_36 (lv_at hl 0 rfl) ?_
    refine lv_icmp_le (tgt := 46) hx hb dX5_deep_38 (by decide) (fun c_7 => ?_) (fun c_7 => ?_)
    · have i_7 : r_5.toInt ≤ r_6.toInt := kc_le c_7
      refine lv_iload hx hb dX5_deep_46 (lv_at hl 0 rfl) ?_
      refine lv_iadd hx hb dX5_deep_48 ?_
      refine lv_topi (fun y_8 ey_8 => ?_)
      have i_8 : y_8.toInt = 1 + r_6.toInt := ki_add ey_8 rfl rfl (by omega) (by omega)
      have d_1 : mj_dp 2 (p1.toInt - p0.toInt).toNat = 1 + mj_dp 1 (p1.toInt - y_4.toInt).toNat ∧ mj_dp 1 (y_4.toInt - p0.toInt).toNat ≤ mj_dp 1 (p1.toInt - y_4.toInt).toNat := mj_dp_node (by omega) (by omega) (by omega)
      exact W.iret (v := y_8) hx hb hr (fun t ht hW => ⟨y_8, rfl, ⟨(by (try dsimp only); omega), (by (try dsimp only); omega), (by (try dsimp only); omega)⟩, ht⟩) (fun q hq => by cases hq) dX5_deep_49
    · have i_7 : r_6.toInt < r_5.toInt := kc_nle c_7
      refine lv_iload hx hb dX5_deep_41 (lv_at hl 1 rfl) ?_
      refine lv_goto (tgt := 48) hx hb dX5_deep_43 (by decide) ?_
      refine lv_iadd hx hb dX5_deep_48 ?_
      refine lv_topi (fun y_9 ey_9 => ?_)
      have i_9 : y_9.toInt = 1 + r_5.toInt := ki_add ey_9 rfl rfl (by omega) (by omega)
      have d_1 : mj_dp 2 (p1.toInt - p0.toInt).toNat = 1 + mj_dp 1 (p1.toInt - y_4.toInt).toNat ∧ mj_dp 1 (y_4.toInt - p0.toInt).toNat ≤ mj_dp 1 (p1.toInt - y_4.toInt).toNat := mj_dp_node (by omega) (by omega) (by omega)
      exact W.iret (v := y_9) hx hb hr (fun t ht hW => ⟨y_9, rfl, ⟨(by (try dsimp only); omega), (by (try dsimp only); omega), (by (try dsimp only); omega)⟩, ht⟩) (fun q hq => by cases hq) dX5_deep_49
  · have i_2 : y_1.toInt < 2 := kc_nle c_2
    refine lv_iload_n hx hb dX5_deep_7 rfl (lv_at hl 2 rfl) ?_
    refine lv_iload_n hx hb dX5_deep_8 rfl (lv_at hl 1 rfl) ?_
    refine lv_isub hx hb dX5_deep_9 ?_
    refine lv_topi (fun y_10 ey_10 => ?_)
    have i_10 : y_10.toInt = p1.toInt - p0.toInt := ki_sub ey_10 rfl rfl (by omega) (by omega)
    exact W.iret (v := y_10) hx hb hr (fun t ht hW => ⟨y_10, rfl, ⟨(by (try dsimp only); rw [mj_dp_small (by omega)]; omega), (by (try dsimp only); omega), (by (try dsimp only); omega)⟩, ht⟩) (fun q hq => by cases hq) dX5_deep_10

set_option maxHeartbeats 4000000 in
set_option maxRecDepth 100000 in
theorem c_X5_deep_x3 (l : Launch) (dC : Nat → ClassId) (dI : Nat → Nat → Nat) (h0 : Nat) (g_row : Nat) (g_many : Nat) (g_loss : Nat) (g_less : Nat) (g_voteValue : Nat) (g_voteNumber : Nat) (g_allValue : Nat) (g_allNumber : Nat) (g_nodeL : Nat) (g_nodeR : Nat) (g_part : Nat) (g_wasMany : Nat) (g_wasLoss : Nat) (g_wasValue : Nat) (g_wasNumber : Nat) (g_path : Nat) (g_heavyValue : Nat) (g_heavyTimes : Nat) (g_fewest : Nat) (g_which : Nat) (g_met : Nat) (m_n : Int32) (m_slots : Int32) (m_thrown : Int32) (m_allMany : Int32) (m_nodes : Int32) (m_partMany : Int32) (m_pathMany : Int32) (m_heavyMany : Int32) (m_mostMet : Int32) (p0 : Int32) (p1 : Int32) (b0 : 0 ≤ p0.toInt) (b1 : p0.toInt ≤ p1.toInt) (b2 : p1.toInt ≤ 160) (b3 : p1.toInt - p0.toInt ≤ 8) : Met l yX5_deep wsX5_deep ({ frames := 3, cells := 0, slots := 0, locals := 135 }) (va_Pc [.ref h0, .int p0, .int p1] (fun U => va_P (dC, dI) vwCl [kx_5 h0 g_row m_n m_slots m_thrown g_many g_loss g_less g_voteValue g_voteNumber g_allValue g_allNumber m_allMany g_nodeL g_nodeR m_nodes g_part m_partMany g_wasMany g_wasLoss g_wasValue g_wasNumber g_path m_pathMany g_heavyValue g_heavyTimes m_heavyMany g_fewest g_which g_met m_mostMet] U.heap ∧ va_K (dC, dI) vwCl [] U)) (vp_Si (fun r : Int32 => r.toInt = (mj_dp 3 (p1.toInt - p0.toInt).toNat : Int) ∧ 0 ≤ r.toInt ∧ r.toInt ≤ 4)) 0 0 (fun _ => False) := by
  refine Met.ofW (cc := cX5_deep) (maxL := 6) (ret := (some .int)) (by decide) rfl ?_
  intro p e s m args below meth c s₁ B hml hv
  obtain ⟨rfl, hP, hK⟩ := hv
  have hx := B.exec
  have hb := B.bytes
  have hr := B.returns
  have hts := atoms_spec (ws := wsX5_deep) B.pre
  have hown : s.vm.findClass RX5 = some m.cls := findClass_of_methodNamed B.named
  have hlocks := B.notSynchronized
  have hP : va_P (dC, dI) vwCl [kx_5 h0 g_row m_n m_slots m_thrown g_many g_loss g_less g_voteValue g_voteNumber g_allValue g_allNumber m_allMany g_nodeL g_nodeR m_nodes g_part m_partMany g_wasMany g_wasLoss g_wasValue g_wasNumber g_path m_pathMany g_heavyValue g_heavyTimes m_heavyMany g_fewest g_which g_met m_mostMet] s.heap := hP
  have hl := lv_entry ([.ref h0, .int p0, .int p1]) (n := 6) (Nat.le_of_ble_eq_true rfl)
  rw [lg_entry_eq]
  generalize (lg_sl ([.ref h0, .int p0, .int p1]) ++ List.replicate (6 - (lg_sl ([.ref h0, .int p0, .int p1])).length) Slot.unset).toArray = ls at hl ⊢
  have hl : lv_has ls 6 [(0, .ref h0), (1, .int p0), (2, .int p1)] := hl
  refine lv_iload_n hx hb dX5_deep_0 rfl (lv_at hl 2 rfl) ?_
  refine lv_iload_n hx hb dX5_deep_1 rfl (lv_at hl 1 rfl) ?_
  refine lv_isub hx hb dX5_deep_2 ?_
  refine lv_topi (fun y_1 ey_1 => ?_)
  have i_1 : y_1.toInt = p1.toInt - p0.toInt := ki_sub ey_1 rfl rfl (by omega) (by omega)
  refine lv_iconst (v := 2) hx hb dX5_deep_3 (by decide) ?_
  refine lv_icmp_ge (tgt := 11) hx hb dX5_deep_4 (by decide) (fun c_2 => ?_) (fun c_2 => ?_)
  · have i_2 : 2 ≤ y_1.toInt := kc_le c_2
    refine lv_iload_n hx hb dX5_deep_11 rfl (lv_at hl 1 rfl) ?_
    refine lv_iload_n hx hb dX5_deep_12 rfl (lv_at hl 2 rfl) ?_
    refine lv_iadd hx hb dX5_deep_13 ?_
    refine lv_topi (fun y_3 ey_3 => ?_)
    have i_3 : y_3.toInt = p0.toInt + p1.toInt := ki_add ey_3 rfl rfl (by omega) (by omega)
    refine lv_iconst (v := 2) hx hb dX5_deep_14 (by decide) ?_
    refine lv_idiv hx hb dX5_deep_15 (by decide) ?_
    refine lv_topi (fun y_4 ey_4 => ?_)
    have i_4 : y_4.toInt = y_3.toInt / 2 := ki_div2 ey_4 rfl (by omega)
    refine lv_istore_n (lv' := [(3, .int y_4), (0, .ref h0), (1, .int p0), (2, .int p1)]) hx hb dX5_deep_16 rfl hl (by decide) rfl (fun ls hl => ?_)
    refine lv_aload_n hx hb dX5_deep_17 rfl (lv_at hl 1 rfl) ?_
    refine lv_iload_n hx hb dX5_deep_18 rfl (lv_at hl 2 rfl) ?_
    refine lv_iload_n hx hb dX5_deep_19 rfl (lv_at hl 0 rfl) ?_
    have hPc := hP
    have hKc := hK
    refine vp_callSi (W.runV (As := [.int p0, .int y_4]) (rest := []) ⟨hx, hb, hml, hown, hts⟩ (c_X5_deep_x2 l dC dI h0 g_row g_many g_loss g_less g_voteValue g_voteNumber g_allValue g_allNumber g_nodeL g_nodeR g_part g_wasMany g_wasLoss g_wasValue g_wasNumber g_path g_heavyValue g_heavyTimes g_fewest g_which g_met m_n m_slots m_thrown m_allMany m_nodes m_partMany m_pathMany m_heavyMany m_mostMet p0 y_4 b0 (by omega) (by omega) (by omega)) (cwV 2 hts gX5_deep_X5_deep rfl rfl rfl (by decide +kernel) ⟨Nat.le_of_ble_eq_true rfl, Nat.le_of_ble_eq_true rfl⟩) ⟨fun a U g mk q => by obtain ⟨q0, qP, qK⟩ := q; exact ⟨q0, qP, va_K.moved (u := U) (U := U.calling g mk a) (Vm.Alike.refl U.vm) qK⟩, va_recv hKc hPc (ci := 5) (q0 := 0) rfl rfl, fun U hU hW => ⟨rfl, by rw [hU]; exact hPc, va_K.moved hW.alike hKc⟩⟩ rfl rfl hl.1 rfl (lv_room (Nat.le_of_ble_eq_true rfl)) dX5_deep_20 ⟨Nat.le_of_ble_eq_true rfl, Nat.le_of_ble_eq_true rfl⟩) (fun r_5 w_5 => ?_)
    have w_5 : r_5.toInt = (mj_dp 2 (y_4.toInt - p0.toInt).toNat : Int) ∧ 0 ≤ r_5.toInt ∧ r_5.toInt ≤ 3 := w_5
    refine lv_istore (lv' := [(4, .int r_5), (3, .int y_4), (0, .ref h0), (1, .int p0), (2, .int p1)]) hx hb dX5_deep_23 hl (by decide) rfl (fun ls hl => ?_)
    refine lv_aload_n hx hb dX5_deep_25 rfl (lv_at hl 2 rfl) ?_
    refine lv_iload_n hx hb dX5_deep_26 rfl (lv_at hl 1 rfl) ?_
    refine lv_iload_n hx hb dX5_deep_27 rfl (lv_at hl 4 rfl) ?_
    have hPc := hP
    have hKc := hK
    refine vp_callSi (W.runV (As := [.int y_4, .int p1]) (rest := []) ⟨hx, hb, hml, hown, hts⟩ (c_X5_deep_x2 l dC dI h0 g_row g_many g_loss g_less g_voteValue g_voteNumber g_allValue g_allNumber g_nodeL g_nodeR g_part g_wasMany g_wasLoss g_wasValue g_wasNumber g_path g_heavyValue g_heavyTimes g_fewest g_which g_met m_n m_slots m_thrown m_allMany m_nodes m_partMany m_pathMany m_heavyMany m_mostMet y_4 p1 (by omega) (by omega) b2 (by omega)) (cwV 2 hts gX5_deep_X5_deep rfl rfl rfl (by decide +kernel) ⟨Nat.le_of_ble_eq_true rfl, Nat.le_of_ble_eq_true rfl⟩) ⟨fun a U g mk q => by obtain ⟨q0, qP, qK⟩ := q; exact ⟨q0, qP, va_K.moved (u := U) (U := U.calling g mk a) (Vm.Alike.refl U.vm) qK⟩, va_recv hKc hPc (ci := 5) (q0 := 0) rfl rfl, fun U hU hW => ⟨rfl, by rw [hU]; exact hPc, va_K.moved hW.alike hKc⟩⟩ rfl rfl hl.1 rfl (lv_room (Nat.le_of_ble_eq_true rfl)) dX5_deep_28 ⟨Nat.le_of_ble_eq_true rfl, Nat.le_of_ble_eq_true rfl⟩) (fun r_6 w_6 => ?_)
    have w_6 : r_6.toInt = (mj_dp 2 (p1.toInt - y_4.toInt).toNat : Int) ∧ 0 ≤ r_6.toInt ∧ r_6.toInt ≤ 3 := w_6
    refine lv_istore (lv' := [(5, .int r_6), (4, .int r_5), (3, .int y_4), (0, .ref h0), (1, .int p0), (2, .int p1)]) hx hb dX5_deep_31 hl (by decide) rfl (fun ls hl => ?_)
    refine lv_iconst (v := 1) hx hb dX5_deep_33 (by decide) ?_
    refine lv_iload hx hb dX5_deep_34 (lv_at hl 1 rfl) ?_
    refine lv_iload hx hb dX5_deep_36 (lv_at hl 0 rfl) ?_
    refine lv_icmp_le (tgt := 46) hx hb dX5_deep_38 (by decide) (fun c_7 => ?_) (fun c_7 => ?_)
    · have i_7 : r_5.toInt ≤ r_6.toInt := kc_le c_7
      refine lv_iload hx hb dX5_deep_46 (lv_at hl 0 rfl) ?_
      refine lv_iadd hx hb dX5_deep_48 ?_
      refine lv_topi (fun y_8 ey_8 => ?_)
      have i_8 : y_8.toInt = 1 + r_6.toInt := ki_add ey_8 rfl rfl (by omega) (by omega)
      have d_1 : mj_dp 3 (p1.toInt - p0.toInt).toNat = 1 + mj_dp 2 (p1.toInt - y_4.toInt).toNat ∧ mj_dp 2 (y_4.toInt - p0.toInt).toNat ≤ mj_dp 2 (p1.toInt - y_4.toInt).toNat := mj_dp_node (by omega) (by omega) (by omega)
      exact W.iret (v := y_8) hx hb hr (fun t ht hW => ⟨y_8, rfl, ⟨(by (try dsimp only); omega), (by (try dsimp only); omega), (by (try dsimp only); omega)⟩, ht⟩) (fun q hq => by cases hq) dX5_deep_49
    · have i_7 : r_6.toInt < r_5.toInt := kc_nle c_7
      refine lv_iload hx hb dX5_deep_41 (lv_at hl 1 rfl) ?_
      refine lv_goto (tgt := 48) hx hb dX5_deep_43 (by decide) ?_
      refine lv_iadd hx hb dX5_deep_48 ?_
      refine lv_topi (fun y_9 ey_9 => ?_)
      have i_9 : y_9.toInt = 1 + r_5.toInt := ki_add ey_9 rfl rfl (by omega) (by omega)
      have d_1 : mj_dp 3 (p1.toInt - p0.toInt).toNat = 1 + mj_dp 2 (p1.toInt - y_4.toInt).toNat ∧ mj_dp 2 (y_4.toInt - p0.toInt).toNat ≤ mj_dp 2 (p1.toInt - y_4.toInt).toNat := mj_dp_node (by omega) (by omega) (by omega)
      exact W.iret (v := y_9) hx hb hr (fun t ht hW => ⟨y_9, rfl, ⟨(by (try dsimp only); omega), (by (try dsimp only); omega), (by (try dsimp only); omega)⟩, ht⟩) (fun q hq => by cases hq) dX5_deep_49
  · have i_2 : y_1.toInt < 2 := kc_nle c_2
    refine lv_iload_n hx hb dX5_deep_7 rfl (lv_at hl 2 rfl) ?_
    refine lv_iload_n hx hb dX5_deep_8 rfl (lv_at hl 1 rfl) ?_
    refine lv_isub hx hb dX5_deep_9 ?_
    refine lv_topi (fun y_10 ey_10 => ?_)
    have i_10 : y_10.toInt = p1.toInt - p0.toInt := ki_sub ey_10 rfl rfl (by omega) (by omega)
    exact W.iret (v := y_10) hx hb hr (fun t ht hW => ⟨y_10, rfl, ⟨(by (try dsimp only); rw [mj_dp_small (by omega)]; omega), (by (try dsimp only); omega), (by (try dsimp only); omega)⟩, ht⟩) (fun q hq => by cases hq) dX5_deep_10

set_option maxHeartbeats 4000000 in
set_option maxRecDepth 100000 in
theorem c_X5_deep_x4 (l : Launch) (dC : Nat → ClassId) (dI : Nat → Nat → Nat) (h0 : Nat) (g_row : Nat) (g_many : Nat) (g_loss : Nat) (g_less : Nat) (g_voteValue : Nat) (g_voteNumber : Nat) (g_allValue : Nat) (g_allNumber : Nat) (g_nodeL : Nat) (g_nodeR : Nat) (g_part : Nat) (g_wasMany : Nat) (g_wasLoss : Nat) (g_wasValue : Nat) (g_wasNumber : Nat) (g_path : Nat) (g_heavyValue : Nat) (g_heavyTimes : Nat) (g_fewest : Nat) (g_which : Nat) (g_met : Nat) (m_n : Int32) (m_slots : Int32) (m_thrown : Int32) (m_allMany : Int32) (m_nodes : Int32) (m_partMany : Int32) (m_pathMany : Int32) (m_heavyMany : Int32) (m_mostMet : Int32) (p0 : Int32) (p1 : Int32) (b0 : 0 ≤ p0.toInt) (b1 : p0.toInt ≤ p1.toInt) (b2 : p1.toInt ≤ 160) (b3 : p1.toInt - p0.toInt ≤ 16) : Met l yX5_deep wsX5_deep ({ frames := 4, cells := 0, slots := 0, locals := 180 }) (va_Pc [.ref h0, .int p0, .int p1] (fun U => va_P (dC, dI) vwCl [kx_5 h0 g_row m_n m_slots m_thrown g_many g_loss g_less g_voteValue g_voteNumber g_allValue g_allNumber m_allMany g_nodeL g_nodeR m_nodes g_part m_partMany g_wasMany g_wasLoss g_wasValue g_wasNumber g_path m_pathMany g_heavyValue g_heavyTimes m_heavyMany g_fewest g_which g_met m_mostMet] U.heap ∧ va_K (dC, dI) vwCl [] U)) (vp_Si (fun r : Int32 => r.toInt = (mj_dp 4 (p1.toInt - p0.toInt).toNat : Int) ∧ 0 ≤ r.toInt ∧ r.toInt ≤ 5)) 0 0 (fun _ => False) := by
  refine Met.ofW (cc := cX5_deep) (maxL := 6) (ret := (some .int)) (by decide) rfl ?_
  intro p e s m args below meth c s₁ B hml hv
  obtain ⟨rfl, hP, hK⟩ := hv
  have hx := B.exec
  have hb := B.bytes
  have hr := B.returns
  have hts := atoms_spec (ws := wsX5_deep) B.pre
  have hown : s.vm.findClass RX5 = some m.cls := findClass_of_methodNamed B.named
  have hlocks := B.notSynchronized
  have hP : va_P (dC, dI) vwCl [kx_5 h0 g_row m_n m_slots m_thrown g_many g_loss g_less g_voteValue g_voteNumber g_allValue g_allNumber m_allMany g_nodeL g_nodeR m_nodes g_part m_partMany g_wasMany g_wasLoss g_wasValue g_wasNumber g_path m_pathMany g_heavyValue g_heavyTimes m_heavyMany g_fewest g_which g_met m_mostMet] s.heap := hP
  have hl := lv_entry ([.ref h0, .int p0, .int p1]) (n := 6) (Nat.le_of_ble_eq_true rfl)
  rw [lg_entry_eq]
  generalize (lg_sl ([.ref h0, .int p0, .int p1]) ++ List.replicate (6 - (lg_sl ([.ref h0, .int p0, .int p1])).length) Slot.unset).toArray = ls at hl ⊢
  have hl : lv_has ls 6 [(0, .ref h0), (1, .int p0), (2, .int p1)] := hl
  refine lv_iload_n hx hb dX5_deep_0 rfl (lv_at hl 2 rfl) ?_
  refine lv_iload_n hx hb dX5_deep_1 rfl (lv_at hl 1 rfl) ?_
  refine lv_isub hx hb dX5_deep_2 ?_
  refine lv_topi (fun y_1 ey_1 => ?_)
  have i_1 : y_1.toInt = p1.toInt - p0.toInt := ki_sub ey_1 rfl rfl (by omega) (by omega)
  refine lv_iconst (v := 2) hx hb dX5_deep_3 (by decide) ?_
  refine lv_icmp_ge (tgt := 11) hx hb dX5_deep_4 (by decide) (fun c_2 => ?_) (fun c_2 => ?_)
  · have i_2 : 2 ≤ y_1.toInt := kc_le c_2
    refine lv_iload_n hx hb dX5_deep_11 rfl (lv_at hl 1 rfl) ?_
    refine lv_iload_n hx hb dX5_deep_12 rfl (lv_at hl 2 rfl) ?_
    refine lv_iadd hx hb dX5_deep_13 ?_
    refine lv_topi (fun y_3 ey_3 => ?_)
    have i_3 : y_3.toInt = p0.toInt + p1.toInt := ki_add ey_3 rfl rfl (by omega) (by omega)
    refine lv_iconst (v := 2) hx hb dX5_deep_14 (by decide) ?_
    refine lv_idiv hx hb dX5_deep_15 (by decide) ?_
    refine lv_topi (fun y_4 ey_4 => ?_)
    have i_4 : y_4.toInt = y_3.toInt / 2 := ki_div2 ey_4 rfl (by omega)
    refine lv_istore_n (lv' := [(3, .int y_4), (0, .ref h0), (1, .int p0), (2, .int p1)]) hx hb dX5_deep_16 rfl hl (by decide) rfl (fun ls hl => ?_)
    refine lv_aload_n hx hb dX5_deep_17 rfl (lv_at hl 1 rfl) ?_
    refine lv_iload_n hx hb dX5_deep_18 rfl (lv_at hl 2 rfl) ?_
    refine lv_iload_n hx hb dX5_deep_19 rfl (lv_at hl 0 rfl) ?_
    have hPc := hP
    have hKc := hK
    refine vp_callSi (W.runV (As := [.int p0, .int y_4]) (rest := []) ⟨hx, hb, hml, hown, hts⟩ (c_X5_deep_x3 l dC dI h0 g_row g_many g_loss g_less g_voteValue g_voteNumber g_allValue g_allNumber g_nodeL g_nodeR g_part g_wasMany g_wasLoss g_wasValue g_wasNumber g_path g_heavyValue g_heavyTimes g_fewest g_which g_met m_n m_slots m_thrown m_allMany m_nodes m_partMany m_pathMany m_heavyMany m_mostMet p0 y_4 b0 (by omega) (by omega) (by omega)) (cwV 2 hts gX5_deep_X5_deep rfl rfl rfl (by decide +kernel) ⟨Nat.le_of_ble_eq_true rfl, Nat.le_of_ble_eq_true rfl⟩) ⟨fun a U g mk q => by obtain ⟨q0, qP, qK⟩ := q; exact ⟨q0, qP, va_K.moved (u := U) (U := U.calling g mk a) (Vm.Alike.refl U.vm) qK⟩, va_recv hKc hPc (ci := 5) (q0 := 0) rfl rfl, fun U hU hW => ⟨rfl, by rw [hU]; exact hPc, va_K.moved hW.alike hKc⟩⟩ rfl rfl hl.1 rfl (lv_room (Nat.le_of_ble_eq_true rfl)) dX5_deep_20 ⟨Nat.le_of_ble_eq_true rfl, Nat.le_of_ble_eq_true rfl⟩) (fun r_5 w_5 => ?_)
    have w_5 : r_5.toInt = (mj_dp 3 (y_4.toInt - p0.toInt).toNat : Int) ∧ 0 ≤ r_5.toInt ∧ r_5.toInt ≤ 4 := w_5
    refine lv_istore (lv' := [(4, .int r_5), (3, .int y_4), (0, .ref h0), (1, .int p0), (2, .int p1)]) hx hb dX5_deep_23 hl (by decide) rfl (fun ls hl => ?_)
    refine lv_aload_n hx hb dX5_deep_25 rfl (lv_at hl 2 rfl) ?_
    refine lv_iload_n hx hb dX5_deep_26 rfl (lv_at hl 1 rfl) ?_
    refine lv_iload_n hx hb dX5_deep_27 rfl (lv_at hl 4 rfl) ?_
    have hPc := hP
    have hKc := hK
    refine vp_callSi (W.runV (As := [.int y_4, .int p1]) (rest := []) ⟨hx, hb, hml, hown, hts⟩ (c_X5_deep_x3 l dC dI h0 g_row g_many g_loss g_less g_voteValue g_voteNumber g_allValue g_allNumber g_nodeL g_nodeR g_part g_wasMany g_wasLoss g_wasValue g_wasNumber g_path g_heavyValue g_heavyTimes g_fewest g_which g_met m_n m_slots m_thrown m_allMany m_nodes m_partMany m_pathMany m_heavyMany m_mostMet y_4 p1 (by omega) (by omega) b2 (by omega)) (cwV 2 hts gX5_deep_X5_deep rfl rfl rfl (by decide +kernel) ⟨Nat.le_of_ble_eq_true rfl, Nat.le_of_ble_eq_true rfl⟩) ⟨fun a U g mk q => by obtain ⟨q0, qP, qK⟩ := q; exact ⟨q0, qP, va_K.moved (u := U) (U := U.calling g mk a) (Vm.Alike.refl U.vm) qK⟩, va_recv hKc hPc (ci := 5) (q0 := 0) rfl rfl, fun U hU hW => ⟨rfl, by rw [hU]; exact hPc, va_K.moved hW.alike hKc⟩⟩ rfl rfl hl.1 rfl (lv_room (Nat.le_of_ble_eq_true rfl)) dX5_deep_28 ⟨Nat.le_of_ble_eq_true rfl, Nat.le_of_ble_eq_true rfl⟩) (fun r_6 w_6 => ?_)
    have w_6 : r_6.toInt = (mj_dp 3 (p1.toInt - y_4.toInt).toNat : Int) ∧ 0 ≤ r_6.toInt ∧ r_6.toInt ≤ 4 := w_6
    refine lv_istore (lv' := [(5, .int r_6), (4, .int r_5), (3, .int y_4), (0, .ref h0), (1, .int p0), (2, .int p1)]) hx hb dX5_deep_31 hl (by decide) rfl (fun ls hl => ?_)
    refine lv_iconst (v := 1) hx hb dX5_deep_33 (by decide) ?_
    refine lv_iload hx hb dX5_deep_34 (lv_at hl 1 rfl) ?_
    refine lv_iload hx hb dX5_deep_36 (lv_at hl 0 rfl) ?_
    refine lv_icmp_le (tgt := 46) hx hb dX5_deep_38 (by decide) (fun c_7 => ?_) (fun c_7 => ?_)
    · have i_7 : r_5.toInt ≤ r_6.toInt := kc_le c_7
      refine lv_iload hx hb dX5_deep_46 (lv_at hl 0 rfl) ?_
      refine lv_iadd hx hb dX5_deep_48 ?_
      refine lv_topi (fun y_8 ey_8 => ?_)
      have i_8 : y_8.toInt = 1 + r_6.toInt := ki_add ey_8 rfl rfl (by omega) (by omega)
      have d_1 : mj_dp 4 (p1.toInt - p0.toInt).toNat = 1 + mj_dp 3 (p1.toInt - y_4.toInt).toNat ∧ mj_dp 3 (y_4.toInt - p0.toInt).toNat ≤ mj_dp 3 (p1.toInt - y_4.toInt).toNat := mj_dp_node (by omega) (by omega) (by omega)
      exact W.iret (v := y_8) hx hb hr (fun t ht hW => ⟨y_8, rfl, ⟨(by (try dsimp only); omega), (by (try dsimp only); omega), (by (try dsimp only); omega)⟩, ht⟩) (fun q hq => by cases hq) dX5_deep_49
    · have i_7 : r_6.toInt < r_5.toInt := kc_nle c_7
      refine lv_iload hx hb dX5_deep_41 (lv_at hl 1 rfl) ?_
      refine lv_goto (tgt := 48) hx hb dX5_deep_43 (by decide) ?_
      refine lv_iadd hx hb dX5_deep_48 ?_
      refine lv_topi (fun y_9 ey_9 => ?_)
      have i_9 : y_9.toInt = 1 + r_5.toInt := ki_add ey_9 rfl rfl (by omega) (by omega)
      have d_1 : mj_dp 4 (p1.toInt - p0.toInt).toNat = 1 + mj_dp 3 (p1.toInt - y_4.toInt).toNat ∧ mj_dp 3 (y_4.toInt - p0.toInt).toNat ≤ mj_dp 3 (p1.toInt - y_4.toInt).toNat := mj_dp_node (by omega) (by omega) (by omega)
      exact W.iret (v := y_9) hx hb hr (fun t ht hW => ⟨y_9, rfl, ⟨(by (try dsimp only); omega), (by (try dsimp only); omega), (by (try dsimp only); omega)⟩, ht⟩) (fun q hq => by cases hq) dX5_deep_49
  · have i_2 : y_1.toInt < 2 := kc_nle c_2
    refine lv_iload_n hx hb dX5_deep_7 rfl (lv_at hl 2 rfl) ?_
    refine lv_iload_n hx hb dX5_deep_8 rfl (lv_at hl 1 rfl) ?_
    refine lv_isub hx hb dX5_deep_9 ?_
    refine lv_topi (fun y_10 ey_10 => ?_)
    have i_10 : y_10.toInt = p1.toInt - p0.toInt := ki_sub ey_10 rfl rfl (by omega) (by omega)
    exact W.iret (v := y_10) hx hb hr (fun t ht hW => ⟨y_10, rfl, ⟨(by (try dsimp only); rw [mj_dp_small (by omega)]; omega), (by (try dsimp only); omega), (by (try dsimp only); omega)⟩, ht⟩) (fun q hq => by cases hq) dX5_deep_10

set_option maxHeartbeats 4000000 in
set_option maxRecDepth 100000 in
theorem c_X5_deep_x5 (l : Launch) (dC : Nat → ClassId) (dI : Nat → Nat → Nat) (h0 : Nat) (g_row : Nat) (g_many : Nat) (g_loss : Nat) (g_less : Nat) (g_voteValue : Nat) (g_voteNumber : Nat) (g_allValue : Nat) (g_allNumber : Nat) (g_nodeL : Nat) (g_nodeR : Nat) (g_part : Nat) (g_wasMany : Nat) (g_wasLoss : Nat) (g_wasValue : Nat) (g_wasNumber : Nat) (g_path : Nat) (g_heavyValue : Nat) (g_heavyTimes : Nat) (g_fewest : Nat) (g_which : Nat) (g_met : Nat) (m_n : Int32) (m_slots : Int32) (m_thrown : Int32) (m_allMany : Int32) (m_nodes : Int32) (m_partMany : Int32) (m_pathMany : Int32) (m_heavyMany : Int32) (m_mostMet : Int32) (p0 : Int32) (p1 : Int32) (b0 : 0 ≤ p0.toInt) (b1 : p0.toInt ≤ p1.toInt) (b2 : p1.toInt ≤ 160) (b3 : p1.toInt - p0.toInt ≤ 32) : Met l yX5_deep wsX5_deep ({ frames := 5, cells := 0, slots := 0, locals := 225 }) (va_Pc [.ref h0, .int p0, .int p1] (fun U => va_P (dC, dI) vwCl [kx_5 h0 g_row m_n m_slots m_thrown g_many g_loss g_less g_voteValue g_voteNumber g_allValue g_allNumber m_allMany g_nodeL g_nodeR m_nodes g_part m_partMany g_wasMany g_wasLoss g_wasValue g_wasNumber g_path m_pathMany g_heavyValue g_heavyTimes m_heavyMany g_fewest g_which g_met m_mostMet] U.heap ∧ va_K (dC, dI) vwCl [] U)) (vp_Si (fun r : Int32 => r.toInt = (mj_dp 5 (p1.toInt - p0.toInt).toNat : Int) ∧ 0 ≤ r.toInt ∧ r.toInt ≤ 6)) 0 0 (fun _ => False) := by
  refine Met.ofW (cc := cX5_deep) (maxL := 6) (ret := (some .int)) (by decide) rfl ?_
  intro p e s m args below meth c s₁ B hml hv
  obtain ⟨rfl, hP, hK⟩ := hv
  have hx := B.exec
  have hb := B.bytes
  have hr := B.returns
  have hts := atoms_spec (ws := wsX5_deep) B.pre
  have hown : s.vm.findClass RX5 = some m.cls := findClass_of_methodNamed B.named
  have hlocks := B.notSynchronized
  have hP : va_P (dC, dI) vwCl [kx_5 h0 g_row m_n m_slots m_thrown g_many g_loss g_less g_voteValue g_voteNumber g_allValue g_allNumber m_allMany g_nodeL g_nodeR m_nodes g_part m_partMany g_wasMany g_wasLoss g_wasValue g_wasNumber g_path m_pathMany g_heavyValue g_heavyTimes m_heavyMany g_fewest g_which g_met m_mostMet] s.heap := hP
  have hl := lv_entry ([.ref h0, .int p0, .int p1]) (n := 6) (Nat.le_of_ble_eq_true rfl)
  rw [lg_entry_eq]
  generalize (lg_sl ([.ref h0, .int p0, .int p1]) ++ List.replicate (6 - (lg_sl ([.ref h0, .int p0, .int p1])).length) Slot.unset).toArray = ls at hl ⊢
  have hl : lv_has ls 6 [(0, .ref h0), (1, .int p0), (2, .int p1)] := hl
  refine lv_iload_n hx hb dX5_deep_0 rfl (lv_at hl 2 rfl) ?_
  refine lv_iload_n hx hb dX5_deep_1 rfl (lv_at hl 1 rfl) ?_
  refine lv_isub hx hb dX5_deep_2 ?_
  refine lv_topi (fun y_1 ey_1 => ?_)
  have i_1 : y_1.toInt = p1.toInt - p0.toInt := ki_sub ey_1 rfl rfl (by omega) (by omega)
  refine lv_iconst (v := 2) hx hb dX5_deep_3 (by decide) ?_
  refine lv_icmp_ge (tgt := 11) hx hb dX5_deep_4 (by decide) (fun c_2 => ?_) (fun c_2 => ?_)
  · have i_2 : 2 ≤ y_1.toInt := kc_le c_2
    refine lv_iload_n hx hb dX5_deep_11 rfl (lv_at hl 1 rfl) ?_
    refine lv_iload_n hx hb dX5_deep_12 rfl (lv_at hl 2 rfl) ?_
    refine lv_iadd hx hb dX5_deep_13 ?_
    refine lv_topi (fun y_3 ey_3 => ?_)
    have i_3 : y_3.toInt = p0.toInt + p1.toInt := ki_add ey_3 rfl rfl (by omega) (by omega)
    refine lv_iconst (v := 2) hx hb dX5_deep_14 (by decide) ?_
    refine lv_idiv hx hb dX5_deep_15 (by decide) ?_
    refine lv_topi (fun y_4 ey_4 => ?_)
    have i_4 : y_4.toInt = y_3.toInt / 2 := ki_div2 ey_4 rfl (by omega)
    refine lv_istore_n (lv' := [(3, .int y_4), (0, .ref h0), (1, .int p0), (2, .int p1)]) hx hb dX5_deep_16 rfl hl (by decide) rfl (fun ls hl => ?_)
    refine lv_aload_n hx hb dX5_deep_17 rfl (lv_at hl 1 rfl) ?_
    refine lv_iload_n hx hb dX5_deep_18 rfl (lv_at hl 2 rfl) ?_
    refine lv_iload_n hx hb dX5_deep_19 rfl (lv_at hl 0 rfl) ?_
    have hPc := hP
    have hKc := hK
    refine vp_callSi (W.runV (As := [.int p0, .int y_4]) (rest := []) ⟨hx, hb, hml, hown, hts⟩ (c_X5_deep_x4 l dC dI h0 g_row g_many g_loss g_less g_voteValue g_voteNumber g_allValue g_allNumber g_nodeL g_nodeR g_part g_wasMany g_wasLoss g_wasValue g_wasNumber g_path g_heavyValue g_heavyTimes g_fewest g_which g_met m_n m_slots m_thrown m_allMany m_nodes m_partMany m_pathMany m_heavyMany m_mostMet p0 y_4 b0 (by omega) (by omega) (by omega)) (cwV 2 hts gX5_deep_X5_deep rfl rfl rfl (by decide +kernel) ⟨Nat.le_of_ble_eq_true rfl, Nat.le_of_ble_eq_true rfl⟩) ⟨fun a U g mk q => by obtain ⟨q0, qP, qK⟩ := q; exact ⟨q0, qP, va_K.moved (u := U) (U := U.calling g mk a) (Vm.Alike.refl U.vm) qK⟩, va_recv hKc hPc (ci := 5) (q0 := 0) rfl rfl, fun U hU hW => ⟨rfl, by rw [hU]; exact hPc, va_K.moved hW.alike hKc⟩⟩ rfl rfl hl.1 rfl (lv_room (Nat.le_of_ble_eq_true rfl)) dX5_deep_20 ⟨Nat.le_of_ble_eq_true rfl, Nat.le_of_ble_eq_true rfl⟩) (fun r_5 w_5 => ?_)
    have w_5 : r_5.toInt = (mj_dp 4 (y_4.toInt - p0.toInt).toNat : Int) ∧ 0 ≤ r_5.toInt ∧ r_5.toInt ≤ 5 := w_5
    refine lv_istore (lv' := [(4, .int r_5), (3, .int y_4), (0, .ref h0), (1, .int p0), (2, .int p1)]) hx hb dX5_deep_23 hl (by decide) rfl (fun ls hl => ?_)
    refine lv_aload_n hx hb dX5_deep_25 rfl (lv_at hl 2 rfl) ?_
    refine lv_iload_n hx hb dX5_deep_26 rfl (lv_at hl 1 rfl) ?_
    refine lv_iload_n hx hb dX5_deep_27 rfl (lv_at hl 4 rfl) ?_
    have hPc := hP
    have hKc := hK
    refine vp_callSi (W.runV (As := [.int y_4, .int p1]) (rest := []) ⟨hx, hb, hml, hown, hts⟩ (c_X5_deep_x4 l dC dI h0 g_row g_many g_loss g_less g_voteValue g_voteNumber g_allValue g_allNumber g_nodeL g_nodeR g_part g_wasMany g_wasLoss g_wasValue g_wasNumber g_path g_heavyValue g_heavyTimes g_fewest g_which g_met m_n m_slots m_thrown m_allMany m_nodes m_partMany m_pathMany m_heavyMany m_mostMet y_4 p1 (by omega) (by omega) b2 (by omega)) (cwV 2 hts gX5_deep_X5_deep rfl rfl rfl (by decide +kernel) ⟨Nat.le_of_ble_eq_true rfl, Nat.le_of_ble_eq_true rfl⟩) ⟨fun a U g mk q => by obtain ⟨q0, qP, qK⟩ := q; exact ⟨q0, qP, va_K.moved (u := U) (U := U.calling g mk a) (Vm.Alike.refl U.vm) qK⟩, va_recv hKc hPc (ci := 5) (q0 := 0) rfl rfl, fun U hU hW => ⟨rfl, by rw [hU]; exact hPc, va_K.moved hW.alike hKc⟩⟩ rfl rfl hl.1 rfl (lv_room (Nat.le_of_ble_eq_true rfl)) dX5_deep_28 ⟨Nat.le_of_ble_eq_true rfl, Nat.le_of_ble_eq_true rfl⟩) (fun r_6 w_6 => ?_)
    have w_6 : r_6.toInt = (mj_dp 4 (p1.toInt - y_4.toInt).toNat : Int) ∧ 0 ≤ r_6.toInt ∧ r_6.toInt ≤ 5 := w_6
    refine lv_istore (lv' := [(5, .int r_6), (4, .int r_5), (3, .int y_4), (0, .ref h0), (1, .int p0), (2, .int p1)]) hx hb dX5_deep_31 hl (by decide) rfl (fun ls hl => ?_)
    refine lv_iconst (v := 1) hx hb dX5_deep_33 (by decide) ?_
    refine lv_iload hx hb dX5_deep_34 (lv_at hl 1 rfl) ?_
    refine lv_iload hx hb dX5_deep_36 (lv_at hl 0 rfl) ?_
    refine lv_icmp_le (tgt := 46) hx hb dX5_deep_38 (by decide) (fun c_7 => ?_) (fun c_7 => ?_)
    · have i_7 : r_5.toInt ≤ r_6.toInt := kc_le c_7
      refine lv_iload hx hb dX5_deep_46 (lv_at hl 0 rfl) ?_
      refine lv_iadd hx hb dX5_deep_48 ?_
      refine lv_topi (fun y_8 ey_8 => ?_)
      have i_8 : y_8.toInt = 1 + r_6.toInt := ki_add ey_8 rfl rfl (by omega) (by omega)
      have d_1 : mj_dp 5 (p1.toInt - p0.toInt).toNat = 1 + mj_dp 4 (p1.toInt - y_4.toInt).toNat ∧ mj_dp 4 (y_4.toInt - p0.toInt).toNat ≤ mj_dp 4 (p1.toInt - y_4.toInt).toNat := mj_dp_node (by omega) (by omega) (by omega)
      exact W.iret (v := y_8) hx hb hr (fun t ht hW => ⟨y_8, rfl, ⟨(by (try dsimp only); omega), (by (try dsimp only); omega), (by (try dsimp only); omega)⟩, ht⟩) (fun q hq => by cases hq) dX5_deep_49
    · have i_7 : r_6.toInt < r_5.toInt := kc_nle c_7
      refine lv_iload hx hb dX5_deep_41 (lv_at hl 1 rfl) ?_
      refine lv_goto (tgt := 48) hx hb dX5_deep_43 (by decide) ?_
      refine lv_iadd hx hb dX5_deep_48 ?_
      refine lv_topi (fun y_9 ey_9 => ?_)
      have i_9 : y_9.toInt = 1 + r_5.toInt := ki_add ey_9 rfl rfl (by omega) (by omega)
      have d_1 : mj_dp 5 (p1.toInt - p0.toInt).toNat = 1 + mj_dp 4 (p1.toInt - y_4.toInt).toNat ∧ mj_dp 4 (y_4.toInt - p0.toInt).toNat ≤ mj_dp 4 (p1.toInt - y_4.toInt).toNat := mj_dp_node (by omega) (by omega) (by omega)
      exact W.iret (v := y_9) hx hb hr (fun t ht hW => ⟨y_9, rfl, ⟨(by (try dsimp only); omega), (by (try dsimp only); omega), (by (try dsimp only); omega)⟩, ht⟩) (fun q hq => by cases hq) dX5_deep_49
  · have i_2 : y_1.toInt < 2 := kc_nle c_2
    refine lv_iload_n hx hb dX5_deep_7 rfl (lv_at hl 2 rfl) ?_
    refine lv_iload_n hx hb dX5_deep_8 rfl (lv_at hl 1 rfl) ?_
    refine lv_isub hx hb dX5_deep_9 ?_
    refine lv_topi (fun y_10 ey_10 => ?_)
    have i_10 : y_10.toInt = p1.toInt - p0.toInt := ki_sub ey_10 rfl rfl (by omega) (by omega)
    exact W.iret (v := y_10) hx hb hr (fun t ht hW => ⟨y_10, rfl, ⟨(by (try dsimp only); rw [mj_dp_small (by omega)]; omega), (by (try dsimp only); omega), (by (try dsimp only); omega)⟩, ht⟩) (fun q hq => by cases hq) dX5_deep_10

set_option maxHeartbeats 4000000 in
set_option maxRecDepth 100000 in
theorem c_X5_deep_x6 (l : Launch) (dC : Nat → ClassId) (dI : Nat → Nat → Nat) (h0 : Nat) (g_row : Nat) (g_many : Nat) (g_loss : Nat) (g_less : Nat) (g_voteValue : Nat) (g_voteNumber : Nat) (g_allValue : Nat) (g_allNumber : Nat) (g_nodeL : Nat) (g_nodeR : Nat) (g_part : Nat) (g_wasMany : Nat) (g_wasLoss : Nat) (g_wasValue : Nat) (g_wasNumber : Nat) (g_path : Nat) (g_heavyValue : Nat) (g_heavyTimes : Nat) (g_fewest : Nat) (g_which : Nat) (g_met : Nat) (m_n : Int32) (m_slots : Int32) (m_thrown : Int32) (m_allMany : Int32) (m_nodes : Int32) (m_partMany : Int32) (m_pathMany : Int32) (m_heavyMany : Int32) (m_mostMet : Int32) (p0 : Int32) (p1 : Int32) (b0 : 0 ≤ p0.toInt) (b1 : p0.toInt ≤ p1.toInt) (b2 : p1.toInt ≤ 160) (b3 : p1.toInt - p0.toInt ≤ 64) : Met l yX5_deep wsX5_deep ({ frames := 6, cells := 0, slots := 0, locals := 270 }) (va_Pc [.ref h0, .int p0, .int p1] (fun U => va_P (dC, dI) vwCl [kx_5 h0 g_row m_n m_slots m_thrown g_many g_loss g_less g_voteValue g_voteNumber g_allValue g_allNumber m_allMany g_nodeL g_nodeR m_nodes g_part m_partMany g_wasMany g_wasLoss g_wasValue g_wasNumber g_path m_pathMany g_heavyValue g_heavyTimes m_heavyMany g_fewest g_which g_met m_mostMet] U.heap ∧ va_K (dC, dI) vwCl [] U)) (vp_Si (fun r : Int32 => r.toInt = (mj_dp 6 (p1.toInt - p0.toInt).toNat : Int) ∧ 0 ≤ r.toInt ∧ r.toInt ≤ 7)) 0 0 (fun _ => False) := by
  refine Met.ofW (cc := cX5_deep) (maxL := 6) (ret := (some .int)) (by decide) rfl ?_
  intro p e s m args below meth c s₁ B hml hv
  obtain ⟨rfl, hP, hK⟩ := hv
  have hx := B.exec
  have hb := B.bytes
  have hr := B.returns
  have hts := atoms_spec (ws := wsX5_deep) B.pre
  have hown : s.vm.findClass RX5 = some m.cls := findClass_of_methodNamed B.named
  have hlocks := B.notSynchronized
  have hP : va_P (dC, dI) vwCl [kx_5 h0 g_row m_n m_slots m_thrown g_many g_loss g_less g_voteValue g_voteNumber g_allValue g_allNumber m_allMany g_nodeL g_nodeR m_nodes g_part m_partMany g_wasMany g_wasLoss g_wasValue g_wasNumber g_path m_pathMany g_heavyValue g_heavyTimes m_heavyMany g_fewest g_which g_met m_mostMet] s.heap := hP
  have hl := lv_entry ([.ref h0, .int p0, .int p1]) (n := 6) (Nat.le_of_ble_eq_true rfl)
  rw [lg_entry_eq]
  generalize (lg_sl ([.ref h0, .int p0, .int p1]) ++ List.replicate (6 - (lg_sl ([.ref h0, .int p0, .int p1])).length) Slot.unset).toArray = ls at hl ⊢
  have hl : lv_has ls 6 [(0, .ref h0), (1, .int p0), (2, .int p1)] := hl
  refine lv_iload_n hx hb dX5_deep_0 rfl (lv_at hl 2 rfl) ?_
  refine lv_iload_n hx hb dX5_deep_1 rfl (lv_at hl 1 rfl) ?_
  refine lv_isub hx hb dX5_deep_2 ?_
  refine lv_topi (fun y_1 ey_1 => ?_)
  have i_1 : y_1.toInt = p1.toInt - p0.toInt := ki_sub ey_1 rfl rfl (by omega) (by omega)
  refine lv_iconst (v := 2) hx hb dX5_deep_3 (by decide) ?_
  refine lv_icmp_ge (tgt := 11) hx hb dX5_deep_4 (by decide) (fun c_2 => ?_) (fun c_2 => ?_)
  · have i_2 : 2 ≤ y_1.toInt := kc_le c_2
    refine lv_iload_n hx hb dX5_deep_11 rfl (lv_at hl 1 rfl) ?_
    refine lv_iload_n hx hb dX5_deep_12 rfl (lv_at hl 2 rfl) ?_
    refine lv_iadd hx hb dX5_deep_13 ?_
    refine lv_topi (fun y_3 ey_3 => ?_)
    have i_3 : y_3.toInt = p0.toInt + p1.toInt := ki_add ey_3 rfl rfl (by omega) (by omega)
    refine lv_iconst (v := 2) hx hb dX5_deep_14 (by decide) ?_
    refine lv_idiv hx hb dX5_deep_15 (by decide) ?_
    refine lv_topi (fun y_4 ey_4 => ?_)
    have i_4 : y_4.toInt = y_3.toInt / 2 := ki_div2 ey_4 rfl (by omega)
    refine lv_istore_n (lv' := [(3, .int y_4), (0, .ref h0), (1, .int p0), (2, .int p1)]) hx hb dX5_deep_16 rfl hl (by decide) rfl (fun ls hl => ?_)
    refine lv_aload_n hx hb dX5_deep_17 rfl (lv_at hl 1 rfl) ?_
    refine lv_iload_n hx hb dX5_deep_18 rfl (lv_at hl 2 rfl) ?_
    refine lv_iload_n hx hb dX5_deep_19 rfl (lv_at hl 0 rfl) ?_
    have hPc := hP
    have hKc := hK
    refine vp_callSi (W.runV (As := [.int p0, .int y_4]) (rest := []) ⟨hx, hb, hml, hown, hts⟩ (c_X5_deep_x5 l dC dI h0 g_row g_many g_loss g_less g_voteValue g_voteNumber g_allValue g_allNumber g_nodeL g_nodeR g_part g_wasMany g_wasLoss g_wasValue g_wasNumber g_path g_heavyValue g_heavyTimes g_fewest g_which g_met m_n m_slots m_thrown m_allMany m_nodes m_partMany m_pathMany m_heavyMany m_mostMet p0 y_4 b0 (by omega) (by omega) (by omega)) (cwV 2 hts gX5_deep_X5_deep rfl rfl rfl (by decide +kernel) ⟨Nat.le_of_ble_eq_true rfl, Nat.le_of_ble_eq_true rfl⟩) ⟨fun a U g mk q => by obtain ⟨q0, qP, qK⟩ := q; exact ⟨q0, qP, va_K.moved (u := U) (U := U.calling g mk a) (Vm.Alike.refl U.vm) qK⟩, va_recv hKc hPc (ci := 5) (q0 := 0) rfl rfl, fun U hU hW => ⟨rfl, by rw [hU]; exact hPc, va_K.moved hW.alike hKc⟩⟩ rfl rfl hl.1 rfl (lv_room (Nat.le_of_ble_eq_true rfl)) dX5_deep_20 ⟨Nat.le_of_ble_eq_true rfl, Nat.le_of_ble_eq_true rfl⟩) (fun r_5 w_5 => ?_)
    have w_5 : r_5.toInt = (mj_dp 5 (y_4.toInt - p0.toInt).toNat : Int) ∧ 0 ≤ r_5.toInt ∧ r_5.toInt ≤ 6 := w_5
    refine lv_istore (lv' := [(4, .int r_5), (3, .int y_4), (0, .ref h0), (1, .int p0), (2, .int p1)]) hx hb dX5_deep_23 hl (by decide) rfl (fun ls hl => ?_)
    refine lv_aload_n hx hb dX5_deep_25 rfl (lv_at hl 2 rfl) ?_
    refine lv_iload_n hx hb dX5_deep_26 rfl (lv_at hl 1 rfl) ?_
    refine lv_iload_n hx hb dX5_deep_27 rfl (lv_at hl 4 rfl) ?_
    have hPc := hP
    have hKc := hK
    refine vp_callSi (W.runV (As := [.int y_4, .int p1]) (rest := []) ⟨hx, hb, hml, hown, hts⟩ (c_X5_deep_x5 l dC dI h0 g_row g_many g_loss g_less g_voteValue g_voteNumber g_allValue g_allNumber g_nodeL g_nodeR g_part g_wasMany g_wasLoss g_wasValue g_wasNumber g_path g_heavyValue g_heavyTimes g_fewest g_which g_met m_n m_slots m_thrown m_allMany m_nodes m_partMany m_pathMany m_heavyMany m_mostMet y_4 p1 (by omega) (by omega) b2 (by omega)) (cwV 2 hts gX5_deep_X5_deep rfl rfl rfl (by decide +kernel) ⟨Nat.le_of_ble_eq_true rfl, Nat.le_of_ble_eq_true rfl⟩) ⟨fun a U g mk q => by obtain ⟨q0, qP, qK⟩ := q; exact ⟨q0, qP, va_K.moved (u := U) (U := U.calling g mk a) (Vm.Alike.refl U.vm) qK⟩, va_recv hKc hPc (ci := 5) (q0 := 0) rfl rfl, fun U hU hW => ⟨rfl, by rw [hU]; exact hPc, va_K.moved hW.alike hKc⟩⟩ rfl rfl hl.1 rfl (lv_room (Nat.le_of_ble_eq_true rfl)) dX5_deep_28 ⟨Nat.le_of_ble_eq_true rfl, Nat.le_of_ble_eq_true rfl⟩) (fun r_6 w_6 => ?_)
    have w_6 : r_6.toInt = (mj_dp 5 (p1.toInt - y_4.toInt).toNat : Int) ∧ 0 ≤ r_6.toInt ∧ r_6.toInt ≤ 6 := w_6
    refine lv_istore (lv' := [(5, .int r_6), (4, .int r_5), (3, .int y_4), (0, .ref h0), (1, .int p0), (2, .int p1)]) hx hb dX5_deep_31 hl (by decide) rfl (fun ls hl => ?_)
    refine lv_iconst (v := 1) hx hb dX5_deep_33 (by decide) ?_
    refine lv_iload hx hb dX5_deep_34 (lv_at hl 1 rfl) ?_
    refine lv_iload hx hb dX5_deep_36 (lv_at hl 0 rfl) ?_
    refine lv_icmp_le (tgt := 46) hx hb dX5_deep_38 (by decide) (fun c_7 => ?_) (fun c_7 => ?_)
    · have i_7 : r_5.toInt ≤ r_6.toInt := kc_le c_7
      refine lv_iload hx hb dX5_deep_46 (lv_at hl 0 rfl) ?_
      refine lv_iadd hx hb dX5_deep_48 ?_
      refine lv_topi (fun y_8 ey_8 => ?_)
      have i_8 : y_8.toInt = 1 + r_6.toInt := ki_add ey_8 rfl rfl (by omega) (by omega)
      have d_1 : mj_dp 6 (p1.toInt - p0.toInt).toNat = 1 + mj_dp 5 (p1.toInt - y_4.toInt).toNat ∧ mj_dp 5 (y_4.toInt - p0.toInt).toNat ≤ mj_dp 5 (p1.toInt - y_4.toInt).toNat := mj_dp_node (by omega) (by omega) (by omega)
      exact W.iret (v := y_8) hx hb hr (fun t ht hW => ⟨y_8, rfl, ⟨(by (try dsimp only); omega), (by (try dsimp only); omega), (by (try dsimp only); omega)⟩, ht⟩) (fun q hq => by cases hq) dX5_deep_49
    · have i_7 : r_6.toInt < r_5.toInt := kc_nle c_7
      refine lv_iload hx hb dX5_deep_41 (lv_at hl 1 rfl) ?_
      refine lv_goto (tgt := 48) hx hb dX5_deep_43 (by decide) ?_
      refine lv_iadd hx hb dX5_deep_48 ?_
      refine lv_topi (fun y_9 ey_9 => ?_)
      have i_9 : y_9.toInt = 1 + r_5.toInt := ki_add ey_9 rfl rfl (by omega) (by omega)
      have d_1 : mj_dp 6 (p1.toInt - p0.toInt).toNat = 1 + mj_dp 5 (p1.toInt - y_4.toInt).toNat ∧ mj_dp 5 (y_4.toInt - p0.toInt).toNat ≤ mj_dp 5 (p1.toInt - y_4.toInt).toNat := mj_dp_node (by omega) (by omega) (by omega)
      exact W.iret (v := y_9) hx hb hr (fun t ht hW => ⟨y_9, rfl, ⟨(by (try dsimp only); omega), (by (try dsimp only); omega), (by (try dsimp only); omega)⟩, ht⟩) (fun q hq => by cases hq) dX5_deep_49
  · have i_2 : y_1.toInt < 2 := kc_nle c_2
    refine lv_iload_n hx hb dX5_deep_7 rfl (lv_at hl 2 rfl) ?_
    refine lv_iload_n hx hb dX5_deep_8 rfl (lv_at hl 1 rfl) ?_
    refine lv_isub hx hb dX5_deep_9 ?_
    refine lv_topi (fun y_10 ey_10 => ?_)
    have i_10 : y_10.toInt = p1.toInt - p0.toInt := ki_sub ey_10 rfl rfl (by omega) (by omega)
    exact W.iret (v := y_10) hx hb hr (fun t ht hW => ⟨y_10, rfl, ⟨(by (try dsimp only); rw [mj_dp_small (by omega)]; omega), (by (try dsimp only); omega), (by (try dsimp only); omega)⟩, ht⟩) (fun q hq => by cases hq) dX5_deep_10

set_option maxHeartbeats 4000000 in
set_option maxRecDepth 100000 in
theorem c_X5_deep_x7 (l : Launch) (dC : Nat → ClassId) (dI : Nat → Nat → Nat) (h0 : Nat) (g_row : Nat) (g_many : Nat) (g_loss : Nat) (g_less : Nat) (g_voteValue : Nat) (g_voteNumber : Nat) (g_allValue : Nat) (g_allNumber : Nat) (g_nodeL : Nat) (g_nodeR : Nat) (g_part : Nat) (g_wasMany : Nat) (g_wasLoss : Nat) (g_wasValue : Nat) (g_wasNumber : Nat) (g_path : Nat) (g_heavyValue : Nat) (g_heavyTimes : Nat) (g_fewest : Nat) (g_which : Nat) (g_met : Nat) (m_n : Int32) (m_slots : Int32) (m_thrown : Int32) (m_allMany : Int32) (m_nodes : Int32) (m_partMany : Int32) (m_pathMany : Int32) (m_heavyMany : Int32) (m_mostMet : Int32) (p0 : Int32) (p1 : Int32) (b0 : 0 ≤ p0.toInt) (b1 : p0.toInt ≤ p1.toInt) (b2 : p1.toInt ≤ 160) (b3 : p1.toInt - p0.toInt ≤ 128) : Met l yX5_deep wsX5_deep ({ frames := 7, cells := 0, slots := 0, locals := 315 }) (va_Pc [.ref h0, .int p0, .int p1] (fun U => va_P (dC, dI) vwCl [kx_5 h0 g_row m_n m_slots m_thrown g_many g_loss g_less g_voteValue g_voteNumber g_allValue g_allNumber m_allMany g_nodeL g_nodeR m_nodes g_part m_partMany g_wasMany g_wasLoss g_wasValue g_wasNumber g_path m_pathMany g_heavyValue g_heavyTimes m_heavyMany g_fewest g_which g_met m_mostMet] U.heap ∧ va_K (dC, dI) vwCl [] U)) (vp_Si (fun r : Int32 => r.toInt = (mj_dp 7 (p1.toInt - p0.toInt).toNat : Int) ∧ 0 ≤ r.toInt ∧ r.toInt ≤ 8)) 0 0 (fun _ => False) := by
  refine Met.ofW (cc := cX5_deep) (maxL := 6) (ret := (some .int)) (by decide) rfl ?_
  intro p e s m args below meth c s₁ B hml hv
  obtain ⟨rfl, hP, hK⟩ := hv
  have hx := B.exec
  have hb := B.bytes
  have hr := B.returns
  have hts := atoms_spec (ws := wsX5_deep) B.pre
  have hown : s.vm.findClass RX5 = some m.cls := findClass_of_methodNamed B.named
  have hlocks := B.notSynchronized
  have hP : va_P (dC, dI) vwCl [kx_5 h0 g_row m_n m_slots m_thrown g_many g_loss g_less g_voteValue g_voteNumber g_allValue g_allNumber m_allMany g_nodeL g_nodeR m_nodes g_part m_partMany g_wasMany g_wasLoss g_wasValue g_wasNumber g_path m_pathMany g_heavyValue g_heavyTimes m_heavyMany g_fewest g_which g_met m_mostMet] s.heap := hP
  have hl := lv_entry ([.ref h0, .int p0, .int p1]) (n := 6) (Nat.le_of_ble_eq_true rfl)
  rw [lg_entry_eq]
  generalize (lg_sl ([.ref h0, .int p0, .int p1]) ++ List.replicate (6 - (lg_sl ([.ref h0, .int p0, .int p1])).length) Slot.unset).toArray = ls at hl ⊢
  have hl : lv_has ls 6 [(0, .ref h0), (1, .int p0), (2, .int p1)] := hl
  refine lv_iload_n hx hb dX5_deep_0 rfl (lv_at hl 2 rfl) ?_
  refine lv_iload_n hx hb dX5_deep_1 rfl (lv_at hl 1 rfl) ?_
  refine lv_isub hx hb dX5_deep_2 ?_
  refine lv_topi (fun y_1 ey_1 => ?_)
  have i_1 : y_1.toInt = p1.toInt - p0.toInt := ki_sub ey_1 rfl rfl (by omega) (by omega)
  refine lv_iconst (v := 2) hx hb dX5_deep_3 (by decide) ?_
  refine lv_icmp_ge (tgt := 11) hx hb dX5_deep_4 (by decide) (fun c_2 => ?_) (fun c_2 => ?_)
  · have i_2 : 2 ≤ y_1.toInt := kc_le c_2
    refine lv_iload_n hx hb dX5_deep_11 rfl (lv_at hl 1 rfl) ?_
    refine lv_iload_n hx hb dX5_deep_12 rfl (lv_at hl 2 rfl) ?_
    refine lv_iadd hx hb dX5_deep_13 ?_
    refine lv_topi (fun y_3 ey_3 => ?_)
    have i_3 : y_3.toInt = p0.toInt + p1.toInt := ki_add ey_3 rfl rfl (by omega) (by omega)
    refine lv_iconst (v := 2) hx hb dX5_deep_14 (by decide) ?_
    refine lv_idiv hx hb dX5_deep_15 (by decide) ?_
    refine lv_topi (fun y_4 ey_4 => ?_)
    have i_4 : y_4.toInt = y_3.toInt / 2 := ki_div2 ey_4 rfl (by omega)
    refine lv_istore_n (lv' := [(3, .int y_4), (0, .ref h0), (1, .int p0), (2, .int p1)]) hx hb dX5_deep_16 rfl hl (by decide) rfl (fun ls hl => ?_)
    refine lv_aload_n hx hb dX5_deep_17 rfl (lv_at hl 1 rfl) ?_
    refine lv_iload_n hx hb dX5_deep_18 rfl (lv_at hl 2 rfl) ?_
    refine lv_iload_n hx hb dX5_deep_19 rfl (lv_at hl 0 rfl) ?_
    have hPc := hP
    have hKc := hK
    refine vp_callSi (W.runV (As := [.int p0, .int y_4]) (rest := []) ⟨hx, hb, hml, hown, hts⟩ (c_X5_deep_x6 l dC dI h0 g_row g_many g_loss g_less g_voteValue g_voteNumber g_allValue g_allNumber g_nodeL g_nodeR g_part g_wasMany g_wasLoss g_wasValue g_wasNumber g_path g_heavyValue g_heavyTimes g_fewest g_which g_met m_n m_slots m_thrown m_allMany m_nodes m_partMany m_pathMany m_heavyMany m_mostMet p0 y_4 b0 (by omega) (by omega) (by omega)) (cwV 2 hts gX5_deep_X5_deep rfl rfl rfl (by decide +kernel) ⟨Nat.le_of_ble_eq_true rfl, Nat.le_of_ble_eq_true rfl⟩) ⟨fun a U g mk q => by obtain ⟨q0, qP, qK⟩ := q; exact ⟨q0, qP, va_K.moved (u := U) (U := U.calling g mk a) (Vm.Alike.refl U.vm) qK⟩, va_recv hKc hPc (ci := 5) (q0 := 0) rfl rfl, fun U hU hW => ⟨rfl, by rw [hU]; exact hPc, va_K.moved hW.alike hKc⟩⟩ rfl rfl hl.1 rfl (lv_room (Nat.le_of_ble_eq_true rfl)) dX5_deep_20 ⟨Nat.le_of_ble_eq_true rfl, Nat.le_of_ble_eq_true rfl⟩) (fun r_5 w_5 => ?_)
    have w_5 : r_5.toInt = (mj_dp 6 (y_4.toInt - p0.toInt).toNat : Int) ∧ 0 ≤ r_5.toInt ∧ r_5.toInt ≤ 7 := w_5
    refine lv_istore (lv' := [(4, .int r_5), (3, .int y_4), (0, .ref h0), (1, .int p0), (2, .int p1)]) hx hb dX5_deep_23 hl (by decide) rfl (fun ls hl => ?_)
    refine lv_aload_n hx hb dX5_deep_25 rfl (lv_at hl 2 rfl) ?_
    refine lv_iload_n hx hb dX5_deep_26 rfl (lv_at hl 1 rfl) ?_
    refine lv_iload_n hx hb dX5_deep_27 rfl (lv_at hl 4 rfl) ?_
    have hPc := hP
    have hKc := hK
    refine vp_callSi (W.runV (As := [.int y_4, .int p1]) (rest := []) ⟨hx, hb, hml, hown, hts⟩ (c_X5_deep_x6 l dC dI h0 g_row g_many g_loss g_less g_voteValue g_voteNumber g_allValue g_allNumber g_nodeL g_nodeR g_part g_wasMany g_wasLoss g_wasValue g_wasNumber g_path g_heavyValue g_heavyTimes g_fewest g_which g_met m_n m_slots m_thrown m_allMany m_nodes m_partMany m_pathMany m_heavyMany m_mostMet y_4 p1 (by omega) (by omega) b2 (by omega)) (cwV 2 hts gX5_deep_X5_deep rfl rfl rfl (by decide +kernel) ⟨Nat.le_of_ble_eq_true rfl, Nat.le_of_ble_eq_true rfl⟩) ⟨fun a U g mk q => by obtain ⟨q0, qP, qK⟩ := q; exact ⟨q0, qP, va_K.moved (u := U) (U := U.calling g mk a) (Vm.Alike.refl U.vm) qK⟩, va_recv hKc hPc (ci := 5) (q0 := 0) rfl rfl, fun U hU hW => ⟨rfl, by rw [hU]; exact hPc, va_K.moved hW.alike hKc⟩⟩ rfl rfl hl.1 rfl (lv_room (Nat.le_of_ble_eq_true rfl)) dX5_deep_28 ⟨Nat.le_of_ble_eq_true rfl, Nat.le_of_ble_eq_true rfl⟩) (fun r_6 w_6 => ?_)
    have w_6 : r_6.toInt = (mj_dp 6 (p1.toInt - y_4.toInt).toNat : Int) ∧ 0 ≤ r_6.toInt ∧ r_6.toInt ≤ 7 := w_6
    refine lv_istore (lv' := [(5, .int r_6), (4, .int r_5), (3, .int y_4), (0, .ref h0), (1, .int p0), (2, .int p1)]) hx hb dX5_deep_31 hl (by decide) rfl (fun ls hl => ?_)
    refine lv_iconst (v := 1) hx hb dX5_deep_33 (by decide) ?_
    refine lv_iload hx hb dX5_deep_34 (lv_at hl 1 rfl) ?_
    refine lv_iload hx hb dX5_deep_36 (lv_at hl 0 rfl) ?_
    refine lv_icmp_le (tgt := 46) hx hb dX5_deep_38 (by decide) (fun c_7 => ?_) (fun c_7 => ?_)
    · have i_7 : r_5.toInt ≤ r_6.toInt := kc_le c_7
      refine lv_iload hx hb dX5_deep_46 (lv_at hl 0 rfl) ?_
      refine lv_iadd hx hb dX5_deep_48 ?_
      refine lv_topi (fun y_8 ey_8 => ?_)
      have i_8 : y_8.toInt = 1 + r_6.toInt := ki_add ey_8 rfl rfl (by omega) (by omega)
      have d_1 : mj_dp 7 (p1.toInt - p0.toInt).toNat = 1 + mj_dp 6 (p1.toInt - y_4.toInt).toNat ∧ mj_dp 6 (y_4.toInt - p0.toInt).toNat ≤ mj_dp 6 (p1.toInt - y_4.toInt).toNat := mj_dp_node (by omega) (by omega) (by omega)
      exact W.iret (v := y_8) hx hb hr (fun t ht hW => ⟨y_8, rfl, ⟨(by (try dsimp only); omega), (by (try dsimp only); omega), (by (try dsimp only); omega)⟩, ht⟩) (fun q hq => by cases hq) dX5_deep_49
    · have i_7 : r_6.toInt < r_5.toInt := kc_nle c_7
      refine lv_iload hx hb dX5_deep_41 (lv_at hl 1 rfl) ?_
      refine lv_goto (tgt := 48) hx hb dX5_deep_43 (by decide) ?_
      refine lv_iadd hx hb dX5_deep_48 ?_
      refine lv_topi (fun y_9 ey_9 => ?_)
      have i_9 : y_9.toInt = 1 + r_5.toInt := ki_add ey_9 rfl rfl (by omega) (by omega)
      have d_1 : mj_dp 7 (p1.toInt - p0.toInt).toNat = 1 + mj_dp 6 (p1.toInt - y_4.toInt).toNat ∧ mj_dp 6 (y_4.toInt - p0.toInt).toNat ≤ mj_dp 6 (p1.toInt - y_4.toInt).toNat := mj_dp_node (by omega) (by omega) (by omega)
      exact W.iret (v := y_9) hx hb hr (fun t ht hW => ⟨y_9, rfl, ⟨(by (try dsimp only); omega), (by (try dsimp only); omega), (by (try dsimp only); omega)⟩, ht⟩) (fun q hq => by cases hq) dX5_deep_49
  · have i_2 : y_1.toInt < 2 := kc_nle c_2
    refine lv_iload_n hx hb dX5_deep_7 rfl (lv_at hl 2 rfl) ?_
    refine lv_iload_n hx hb dX5_deep_8 rfl (lv_at hl 1 rfl) ?_
    refine lv_isub hx hb dX5_deep_9 ?_
    refine lv_topi (fun y_10 ey_10 => ?_)
    have i_10 : y_10.toInt = p1.toInt - p0.toInt := ki_sub ey_10 rfl rfl (by omega) (by omega)
    exact W.iret (v := y_10) hx hb hr (fun t ht hW => ⟨y_10, rfl, ⟨(by (try dsimp only); rw [mj_dp_small (by omega)]; omega), (by (try dsimp only); omega), (by (try dsimp only); omega)⟩, ht⟩) (fun q hq => by cases hq) dX5_deep_10

set_option maxHeartbeats 4000000 in
set_option maxRecDepth 100000 in
theorem c_X5_deep_x8 (l : Launch) (dC : Nat → ClassId) (dI : Nat → Nat → Nat) (h0 : Nat) (g_row : Nat) (g_many : Nat) (g_loss : Nat) (g_less : Nat) (g_voteValue : Nat) (g_voteNumber : Nat) (g_allValue : Nat) (g_allNumber : Nat) (g_nodeL : Nat) (g_nodeR : Nat) (g_part : Nat) (g_wasMany : Nat) (g_wasLoss : Nat) (g_wasValue : Nat) (g_wasNumber : Nat) (g_path : Nat) (g_heavyValue : Nat) (g_heavyTimes : Nat) (g_fewest : Nat) (g_which : Nat) (g_met : Nat) (m_n : Int32) (m_slots : Int32) (m_thrown : Int32) (m_allMany : Int32) (m_nodes : Int32) (m_partMany : Int32) (m_pathMany : Int32) (m_heavyMany : Int32) (m_mostMet : Int32) (p0 : Int32) (p1 : Int32) (b0 : 0 ≤ p0.toInt) (b1 : p0.toInt ≤ p1.toInt) (b2 : p1.toInt ≤ 160) (b3 : p1.toInt - p0.toInt ≤ 256) : Met l yX5_deep wsX5_deep ({ frames := 8, cells := 0, slots := 0, locals := 360 }) (va_Pc [.ref h0, .int p0, .int p1] (fun U => va_P (dC, dI) vwCl [kx_5 h0 g_row m_n m_slots m_thrown g_many g_loss g_less g_voteValue g_voteNumber g_allValue g_allNumber m_allMany g_nodeL g_nodeR m_nodes g_part m_partMany g_wasMany g_wasLoss g_wasValue g_wasNumber g_path m_pathMany g_heavyValue g_heavyTimes m_heavyMany g_fewest g_which g_met m_mostMet] U.heap ∧ va_K (dC, dI) vwCl [] U)) (vp_Si (fun r : Int32 => r.toInt = (mj_dp 8 (p1.toInt - p0.toInt).toNat : Int) ∧ 0 ≤ r.toInt ∧ r.toInt ≤ 9)) 0 0 (fun _ => False) := by
  refine Met.ofW (cc := cX5_deep) (maxL := 6) (ret := (some .int)) (by decide) rfl ?_
  intro p e s m args below meth c s₁ B hml hv
  obtain ⟨rfl, hP, hK⟩ := hv
  have hx := B.exec
  have hb := B.bytes
  have hr := B.returns
  have hts := atoms_spec (ws := wsX5_deep) B.pre
  have hown : s.vm.findClass RX5 = some m.cls := findClass_of_methodNamed B.named
  have hlocks := B.notSynchronized
  have hP : va_P (dC, dI) vwCl [kx_5 h0 g_row m_n m_slots m_thrown g_many g_loss g_less g_voteValue g_voteNumber g_allValue g_allNumber m_allMany g_nodeL g_nodeR m_nodes g_part m_partMany g_wasMany g_wasLoss g_wasValue g_wasNumber g_path m_pathMany g_heavyValue g_heavyTimes m_heavyMany g_fewest g_which g_met m_mostMet] s.heap := hP
  have hl := lv_entry ([.ref h0, .int p0, .int p1]) (n := 6) (Nat.le_of_ble_eq_true rfl)
  rw [lg_entry_eq]
  generalize (lg_sl ([.ref h0, .int p0, .int p1]) ++ List.replicate (6 - (lg_sl ([.ref h0, .int p0, .int p1])).length) Slot.unset).toArray = ls at hl ⊢
  have hl : lv_has ls 6 [(0, .ref h0), (1, .int p0), (2, .int p1)] := hl
  refine lv_iload_n hx hb dX5_deep_0 rfl (lv_at hl 2 rfl) ?_
  refine lv_iload_n hx hb dX5_deep_1 rfl (lv_at hl 1 rfl) ?_
  refine lv_isub hx hb dX5_deep_2 ?_
  refine lv_topi (fun y_1 ey_1 => ?_)
  have i_1 : y_1.toInt = p1.toInt - p0.toInt := ki_sub ey_1 rfl rfl (by omega) (by omega)
  refine lv_iconst (v := 2) hx hb dX5_deep_3 (by decide) ?_
  refine lv_icmp_ge (tgt := 11) hx hb dX5_deep_4 (by decide) (fun c_2 => ?_) (fun c_2 => ?_)
  · have i_2 : 2 ≤ y_1.toInt := kc_le c_2
    refine lv_iload_n hx hb dX5_deep_11 rfl (lv_at hl 1 rfl) ?_
    refine lv_iload_n hx hb dX5_deep_12 rfl (lv_at hl 2 rfl) ?_
    refine lv_iadd hx hb dX5_deep_13 ?_
    refine lv_topi (fun y_3 ey_3 => ?_)
    have i_3 : y_3.toInt = p0.toInt + p1.toInt := ki_add ey_3 rfl rfl (by omega) (by omega)
    refine lv_iconst (v := 2) hx hb dX5_deep_14 (by decide) ?_
    refine lv_idiv hx hb dX5_deep_15 (by decide) ?_
    refine lv_topi (fun y_4 ey_4 => ?_)
    have i_4 : y_4.toInt = y_3.toInt / 2 := ki_div2 ey_4 rfl (by omega)
    refine lv_istore_n (lv' := [(3, .int y_4), (0, .ref h0), (1, .int p0), (2, .int p1)]) hx hb dX5_deep_16 rfl hl (by decide) rfl (fun ls hl => ?_)
    refine lv_aload_n hx hb dX5_deep_17 rfl (lv_at hl 1 rfl) ?_
    refine lv_iload_n hx hb dX5_deep_18 rfl (lv_at hl 2 rfl) ?_
    refine lv_iload_n hx hb dX5_deep_19 rfl (lv_at hl 0 rfl) ?_
    have hPc := hP
    have hKc := hK
    refine vp_callSi (W.runV (As := [.int p0, .int y_4]) (rest := []) ⟨hx, hb, hml, hown, hts⟩ (c_X5_deep_x7 l dC dI h0 g_row g_many g_loss g_less g_voteValue g_voteNumber g_allValue g_allNumber g_nodeL g_nodeR g_part g_wasMany g_wasLoss g_wasValue g_wasNumber g_path g_heavyValue g_heavyTimes g_fewest g_which g_met m_n m_slots m_thrown m_allMany m_nodes m_partMany m_pathMany m_heavyMany m_mostMet p0 y_4 b0 (by omega) (by omega) (by omega)) (cwV 2 hts gX5_deep_X5_deep rfl rfl rfl (by decide +kernel) ⟨Nat.le_of_ble_eq_true rfl, Nat.le_of_ble_eq_true rfl⟩) ⟨fun a U g mk q => by obtain ⟨q0, qP, qK⟩ := q; exact ⟨q0, qP, va_K.moved (u := U) (U := U.calling g mk a) (Vm.Alike.refl U.vm) qK⟩, va_recv hKc hPc (ci := 5) (q0 := 0) rfl rfl, fun U hU hW => ⟨rfl, by rw [hU]; exact hPc, va_K.moved hW.alike hKc⟩⟩ rfl rfl hl.1 rfl (lv_room (Nat.le_of_ble_eq_true rfl)) dX5_deep_20 ⟨Nat.le_of_ble_eq_true rfl, Nat.le_of_ble_eq_true rfl⟩) (fun r_5 w_5 => ?_)
    have w_5 : r_5.toInt = (mj_dp 7 (y_4.toInt - p0.toInt).toNat : Int) ∧ 0 ≤ r_5.toInt ∧ r_5.toInt ≤ 8 := w_5
    refine lv_istore (lv' := [(4, .int r_5), (3, .int y_4), (0, .ref h0), (1, .int p0), (2, .int p1)]) hx hb dX5_deep_23 hl (by decide) rfl (fun ls hl => ?_)
    refine lv_aload_n hx hb dX5_deep_25 rfl (lv_at hl 2 rfl) ?_
    refine lv_iload_n hx hb dX5_deep_26 rfl (lv_at hl 1 rfl) ?_
    refine lv_iload_n hx hb dX5_deep_27 rfl (lv_at hl 4 rfl) ?_
    have hPc := hP
    have hKc := hK
    refine vp_callSi (W.runV (As := [.int y_4, .int p1]) (rest := []) ⟨hx, hb, hml, hown, hts⟩ (c_X5_deep_x7 l dC dI h0 g_row g_many g_loss g_less g_voteValue g_voteNumber g_allValue g_allNumber g_nodeL g_nodeR g_part g_wasMany g_wasLoss g_wasValue g_wasNumber g_path g_heavyValue g_heavyTimes g_fewest g_which g_met m_n m_slots m_thrown m_allMany m_nodes m_partMany m_pathMany m_heavyMany m_mostMet y_4 p1 (by omega) (by omega) b2 (by omega)) (cwV 2 hts gX5_deep_X5_deep rfl rfl rfl (by decide +kernel) ⟨Nat.le_of_ble_eq_true rfl, Nat.le_of_ble_eq_true rfl⟩) ⟨fun a U g mk q => by obtain ⟨q0, qP, qK⟩ := q; exact ⟨q0, qP, va_K.moved (u := U) (U := U.calling g mk a) (Vm.Alike.refl U.vm) qK⟩, va_recv hKc hPc (ci := 5) (q0 := 0) rfl rfl, fun U hU hW => ⟨rfl, by rw [hU]; exact hPc, va_K.moved hW.alike hKc⟩⟩ rfl rfl hl.1 rfl (lv_room (Nat.le_of_ble_eq_true rfl)) dX5_deep_28 ⟨Nat.le_of_ble_eq_true rfl, Nat.le_of_ble_eq_true rfl⟩) (fun r_6 w_6 => ?_)
    have w_6 : r_6.toInt = (mj_dp 7 (p1.toInt - y_4.toInt).toNat : Int) ∧ 0 ≤ r_6.toInt ∧ r_6.toInt ≤ 8 := w_6
    refine lv_istore (lv' := [(5, .int r_6), (4, .int r_5), (3, .int y_4), (0, .ref h0), (1, .int p0), (2, .int p1)]) hx hb dX5_deep_31 hl (by decide) rfl (fun ls hl => ?_)
    refine lv_iconst (v := 1) hx hb dX5_deep_33 (by decide) ?_
    refine lv_iload hx hb dX5_deep_34 (lv_at hl 1 rfl) ?_
    refine lv_iload hx hb dX5_deep_36 (lv_at hl 0 rfl) ?_
    refine lv_icmp_le (tgt := 46) hx hb dX5_deep_38 (by decide) (fun c_7 => ?_) (fun c_7 => ?_)
    · have i_7 : r_5.toInt ≤ r_6.toInt := kc_le c_7
      refine lv_iload hx hb dX5_deep_46 (lv_at hl 0 rfl) ?_
      refine lv_iadd hx hb dX5_deep_48 ?_
      refine lv_topi (fun y_8 ey_8 => ?_)
      have i_8 : y_8.toInt = 1 + r_6.toInt := ki_add ey_8 rfl rfl (by omega) (by omega)
      have d_1 : mj_dp 8 (p1.toInt - p0.toInt).toNat = 1 + mj_dp 7 (p1.toInt - y_4.toInt).toNat ∧ mj_dp 7 (y_4.toInt - p0.toInt).toNat ≤ mj_dp 7 (p1.toInt - y_4.toInt).toNat := mj_dp_node (by omega) (by omega) (by omega)
      exact W.iret (v := y_8) hx hb hr (fun t ht hW => ⟨y_8, rfl, ⟨(by (try dsimp only); omega), (by (try dsimp only); omega), (by (try dsimp only); omega)⟩, ht⟩) (fun q hq => by cases hq) dX5_deep_49
    · have i_7 : r_6.toInt < r_5.toInt := kc_nle c_7
      refine lv_iload hx hb dX5_deep_41 (lv_at hl 1 rfl) ?_
      refine lv_goto (tgt := 48) hx hb dX5_deep_43 (by decide) ?_
      refine lv_iadd hx hb dX5_deep_48 ?_
      refine lv_topi (fun y_9 ey_9 => ?_)
      have i_9 : y_9.toInt = 1 + r_5.toInt := ki_add ey_9 rfl rfl (by omega) (by omega)
      have d_1 : mj_dp 8 (p1.toInt - p0.toInt).toNat = 1 + mj_dp 7 (p1.toInt - y_4.toInt).toNat ∧ mj_dp 7 (y_4.toInt - p0.toInt).toNat ≤ mj_dp 7 (p1.toInt - y_4.toInt).toNat := mj_dp_node (by omega) (by omega) (by omega)
      exact W.iret (v := y_9) hx hb hr (fun t ht hW => ⟨y_9, rfl, ⟨(by (try dsimp only); omega), (by (try dsimp only); omega), (by (try dsimp only); omega)⟩, ht⟩) (fun q hq => by cases hq) dX5_deep_49
  · have i_2 : y_1.toInt < 2 := kc_nle c_2
    refine lv_iload_n hx hb dX5_deep_7 rfl (lv_at hl 2 rfl) ?_
    refine lv_iload_n hx hb dX5_deep_8 rfl (lv_at hl 1 rfl) ?_
    refine lv_isub hx hb dX5_deep_9 ?_
    refine lv_topi (fun y_10 ey_10 => ?_)
    have i_10 : y_10.toInt = p1.toInt - p0.toInt := ki_sub ey_10 rfl rfl (by omega) (by omega)
    exact W.iret (v := y_10) hx hb hr (fun t ht hW => ⟨y_10, rfl, ⟨(by (try dsimp only); rw [mj_dp_small (by omega)]; omega), (by (try dsimp only); omega), (by (try dsimp only); omega)⟩, ht⟩) (fun q hq => by cases hq) dX5_deep_10

set_option maxHeartbeats 4000000 in
set_option maxRecDepth 100000 in
theorem c_X5_told_x (l : Launch) (dC : Nat → ClassId) (dI : Nat → Nat → Nat) (h0 : Nat) (g_row : Nat) (g_many : Nat) (g_loss : Nat) (g_less : Nat) (g_voteValue : Nat) (g_voteNumber : Nat) (g_allValue : Nat) (g_allNumber : Nat) (g_nodeL : Nat) (g_nodeR : Nat) (g_part : Nat) (g_wasMany : Nat) (g_wasLoss : Nat) (g_wasValue : Nat) (g_wasNumber : Nat) (g_path : Nat) (g_heavyValue : Nat) (g_heavyTimes : Nat) (g_fewest : Nat) (g_which : Nat) (g_met : Nat) (m_n : Int32) (m_slots : Int32) (m_thrown : Int32) (m_allMany : Int32) (m_nodes : Int32) (m_partMany : Int32) (m_pathMany : Int32) (m_heavyMany : Int32) (m_mostMet : Int32) (cyI : ClassId) (fm : Nat → Int32) (fl : Nat → Int32) (fe : Nat → Int32) (vv : Nat → Int32) (vn : Nat → Int32) (f : Nat → Int32) (av : Nat → Int32) (an : Nat → Int32) (nl : Nat → Int32) (nr : Nat → Int32) (p0 : Int32) (sz : Nat) (a0 : 0 ≤ m_n.toInt) (a1 : m_n.toInt ≤ 160) (sl0 : 1 ≤ m_slots.toInt) (sl1 : m_slots.toInt ≤ 6) (s4 : six4 fm) (s1 : shorts f) : Met l yX5_told wsX5_told ({ frames := 12, cells := 0, slots := 0, locals := 540 }) (va_Pc [.ref h0, .int p0] (fun U => U.heap.size = sz ∧ va_P (dC, dI) vwCl [kx_5 h0 g_row m_n m_slots m_thrown g_many g_loss g_less g_voteValue g_voteNumber g_allValue g_allNumber m_allMany g_nodeL g_nodeR m_nodes g_part m_partMany g_wasMany g_wasLoss g_wasValue g_wasNumber g_path m_pathMany g_heavyValue g_heavyTimes m_heavyMany g_fewest g_which g_met m_mostMet, kx_a g_row cyI 160 f, kx_a g_many cyI 324 fm, kx_a g_loss cyI 324 fl, kx_a g_less cyI 324 fe, kx_a g_voteValue cyI 1944 vv, kx_a g_voteNumber cyI 1944 vn, kx_a g_allValue cyI 12 av, kx_a g_allNumber cyI 12 an, kx_a g_nodeL cyI 320 nl, kx_a g_nodeR cyI 320 nr] U.heap ∧ va_K (dC, dI) vwCl [(cyI, .int)] U ∧ va_D (fun _ => True) [kx_5 h0 g_row m_n m_slots m_thrown g_many g_loss g_less g_voteValue g_voteNumber g_allValue g_allNumber m_allMany g_nodeL g_nodeR m_nodes g_part m_partMany g_wasMany g_wasLoss g_wasValue g_wasNumber g_path m_pathMany g_heavyValue g_heavyTimes m_heavyMany g_fewest g_which g_met m_mostMet, kx_a g_row cyI 160 f, kx_a g_many cyI 324 fm, kx_a g_loss cyI 324 fl, kx_a g_less cyI 324 fe, kx_a g_voteValue cyI 1944 vv, kx_a g_voteNumber cyI 1944 vn, kx_a g_allValue cyI 12 av, kx_a g_allNumber cyI 12 an, kx_a g_nodeL cyI 320 nl, kx_a g_nodeR cyI 320 nr])) (va_Qi (fun (r : Int32) (u : Int32 × Int32 × (Nat → Int32) × (Nat → Int32) × (Nat → Int32) × (Nat → Int32) × (Nat → Int32) × (Nat → Int32) × (Nat → Int32) × (Nat → Int32) × (Nat → Int32)) => (mj_L m_slots.toNatClampNeg f u.2.2.2.2.2.2.2.2.2.1 u.2.2.2.2.2.2.2.2.2.2 u.2.2.1 u.2.2.2.1 u.2.2.2.2.1 u.2.2.2.2.2.1 u.2.2.2.2.2.2.1 m_n.toInt u.1.toInt ∧ 0 ≤ u.1.toInt ∧ u.1.toInt ≤ 319) ∧ mj_tld f u.2.2.2.2.2.2.2.2.2.1 u.2.2.2.2.2.2.2.2.2.2 u.2.2.2.1 u.1 m_n m_slots p0.toInt r ∧ six4 u.2.2.1) (fun (u : Int32 × Int32 × (Nat → Int32) × (Nat → Int32) × (Nat → Int32) × (Nat → Int32) × (Nat → Int32) × (Nat → Int32) × (Nat → Int32) × (Nat → Int32) × (Nat → Int32)) (t : State) => va_P (dC, dI) vwCl [kx_5 h0 g_row m_n m_slots 0 g_many g_loss g_less g_voteValue g_voteNumber g_allValue g_allNumber u.2.1 g_nodeL g_nodeR u.1 g_part m_partMany g_wasMany g_wasLoss g_wasValue g_wasNumber g_path m_pathMany g_heavyValue g_heavyTimes m_heavyMany g_fewest g_which g_met m_mostMet, kx_a g_row cyI 160 f, kx_a g_many cyI 324 u.2.2.1, kx_a g_loss cyI 324 u.2.2.2.1, kx_a g_less cyI 324 u.2.2.2.2.1, kx_a g_voteValue cyI 1944 u.2.2.2.2.2.1, kx_a g_voteNumber cyI 1944 u.2.2.2.2.2.2.1, kx_a g_allValue cyI 12 u.2.2.2.2.2.2.2.1, kx_a g_allNumber cyI 12 u.2.2.2.2.2.2.2.2.1, kx_a g_nodeL cyI 320 u.2.2.2.2.2.2.2.2.2.1, kx_a g_nodeR cyI 320 u.2.2.2.2.2.2.2.2.2.2] t.heap ∧ va_K (dC, dI) vwCl [(cyI, .int)] t ∧ va_D (va_A [kx_5 h0 g_row m_n m_slots m_thrown g_many g_loss g_less g_voteValue g_voteNumber g_allValue g_allNumber m_allMany g_nodeL g_nodeR m_nodes g_part m_partMany g_wasMany g_wasLoss g_wasValue g_wasNumber g_path m_pathMany g_heavyValue g_heavyTimes m_heavyMany g_fewest g_which g_met m_mostMet, kx_a g_row cyI 160 f, kx_a g_many cyI 324 fm, kx_a g_loss cyI 324 fl, kx_a g_less cyI 324 fe, kx_a g_voteValue cyI 1944 vv, kx_a g_voteNumber cyI 1944 vn, kx_a g_allValue cyI 12 av, kx_a g_allNumber cyI 12 an, kx_a g_nodeL cyI 320 nl, kx_a g_nodeR cyI 320 nr] sz) [kx_5 h0 g_row m_n m_slots 0 g_many g_loss g_less g_voteValue g_voteNumber g_allValue g_allNumber u.2.1 g_nodeL g_nodeR u.1 g_part m_partMany g_wasMany g_wasLoss g_wasValue g_wasNumber g_path m_pathMany g_heavyValue g_heavyTimes m_heavyMany g_fewest g_which g_met m_mostMet, kx_a g_row cyI 160 f, kx_a g_many cyI 324 u.2.2.1, kx_a g_loss cyI 324 u.2.2.2.1, kx_a g_less cyI 324 u.2.2.2.2.1, kx_a g_voteValue cyI 1944 u.2.2.2.2.2.1, kx_a g_voteNumber cyI 1944 u.2.2.2.2.2.2.1, kx_a g_allValue cyI 12 u.2.2.2.2.2.2.2.1, kx_a g_allNumber cyI 12 u.2.2.2.2.2.2.2.2.1, kx_a g_nodeL cyI 320 u.2.2.2.2.2.2.2.2.2.1, kx_a g_nodeR cyI 320 u.2.2.2.2.2.2.2.2.2.2]) (va_A [kx_5 h0 g_row m_n m_slots m_thrown g_many g_loss g_less g_voteValue g_voteNumber g_allValue g_allNumber m_allMany g_nodeL g_nodeR m_nodes g_part m_partMany g_wasMany g_wasLoss g_wasValue g_wasNumber g_path m_pathMany g_heavyValue g_heavyTimes m_heavyMany g_fewest g_which g_met m_mostMet, kx_a g_row cyI 160 f, kx_a g_many cyI 324 fm, kx_a g_loss cyI 324 fl, kx_a g_less cyI 324 fe, kx_a g_voteValue cyI 1944 vv, kx_a g_voteNumber cyI 1944 vn, kx_a g_allValue cyI 12 av, kx_a g_allNumber cyI 12 an, kx_a g_nodeL cyI 320 nl, kx_a g_nodeR cyI 320 nr] sz)) 0 0 (va_A [kx_5 h0 g_row m_n m_slots m_thrown g_many g_loss g_less g_voteValue g_voteNumber g_allValue g_allNumber m_allMany g_nodeL g_nodeR m_nodes g_part m_partMany g_wasMany g_wasLoss g_wasValue g_wasNumber g_path m_pathMany g_heavyValue g_heavyTimes m_heavyMany g_fewest g_which g_met m_mostMet, kx_a g_row cyI 160 f, kx_a g_many cyI 324 fm, kx_a g_loss cyI 324 fl, kx_a g_less cyI 324 fe, kx_a g_voteValue cyI 1944 vv, kx_a g_voteNumber cyI 1944 vn, kx_a g_allValue cyI 12 av, kx_a g_allNumber cyI 12 an, kx_a g_nodeL cyI 320 nl, kx_a g_nodeR cyI 320 nr] sz) := by
  refine Met.ofW (cc := cX5_told) (maxL := 4) (ret := (some .int)) (by decide) rfl ?_
  intro p e s m args below meth c s₁ B hml hv
  obtain ⟨rfl, hsz, hP, hK, hD0⟩ := hv
  have hx := B.exec
  have hb := B.bytes
  have hr := B.returns
  have hts := atoms_spec (ws := wsX5_told) B.pre
  have hown : s.vm.findClass RX5 = some m.cls := findClass_of_methodNamed B.named
  have hlocks := B.notSynchronized
  subst hsz
  have hD := hD0.self (sz := s.heap.size)
  generalize hAe : va_A [kx_5 h0 g_row m_n m_slots m_thrown g_many g_loss g_less g_voteValue g_voteNumber g_allValue g_allNumber m_allMany g_nodeL g_nodeR m_nodes g_part m_partMany g_wasMany g_wasLoss g_wasValue g_wasNumber g_path m_pathMany g_heavyValue g_heavyTimes m_heavyMany g_fewest g_which g_met m_mostMet, kx_a g_row cyI 160 f, kx_a g_many cyI 324 fm, kx_a g_loss cyI 324 fl, kx_a g_less cyI 324 fe, kx_a g_voteValue cyI 1944 vv, kx_a g_voteNumber cyI 1944 vn, kx_a g_allValue cyI 12 av, kx_a g_allNumber cyI 12 an, kx_a g_nodeL cyI 320 nl, kx_a g_nodeR cyI 320 nr] s.heap.size = A at hD ⊢
  have hA : ∀ q : Nat, s.heap.size ≤ q → A q := fun q h => by rw [← hAe]; exact Or.inr h
  have hS : va_S A s.heap s.heap [] := va_S.rf
  have hP : va_P (dC, dI) vwCl [kx_5 h0 g_row m_n m_slots m_thrown g_many g_loss g_less g_voteValue g_voteNumber g_allValue g_allNumber m_allMany g_nodeL g_nodeR m_nodes g_part m_partMany g_wasMany g_wasLoss g_wasValue g_wasNumber g_path m_pathMany g_heavyValue g_heavyTimes m_heavyMany g_fewest g_which g_met m_mostMet, kx_a g_row cyI 160 f, kx_a g_many cyI 324 fm, kx_a g_loss cyI 324 fl, kx_a g_less cyI 324 fe, kx_a g_voteValue cyI 1944 vv, kx_a g_voteNumber cyI 1944 vn, kx_a g_allValue cyI 12 av, kx_a g_allNumber cyI 12 an, kx_a g_nodeL cyI 320 nl, kx_a g_nodeR cyI 320 nr] s.heap := hP
  have hl := lv_entry ([.ref h0, .int p0]) (n := 4) (Nat.le_of_ble_eq_true rfl)
  rw [lg_entry_eq]
  generalize (lg_sl ([.ref h0, .int p0]) ++ List.replicate (4 - (lg_sl ([.ref h0, .int p0])).length) Slot.unset).toArray = ls at hl ⊢
  have hl : lv_has ls 4 [(0, .ref h0), (1, .int p0)] := hl
  have hf_77 := hts (.fieldLink RX5 77 "MajorityIndexModel" "thrown" "I") (List.mem_of_getElem? (i := 1) rfl)
  have hi_5 : ∀ w ∈ u_ws RX5 TX5 30, w ∈ wsX5_told := fun w h => List.mem_cons_of_mem _ (List.mem_append_right _ h)
  have hf_13 := hts (.fieldLink RX5 13 "MajorityIndexModel" "slots" "I") (List.mem_of_getElem? (i := 2) rfl)
  have hf_84 := hts (.fieldLink RX5 84 "MajorityIndexModel" "n" "I") (List.mem_of_getElem? (i := 3) rfl)
  have hf_101 := hts (.fieldLink RX5 101 "MajorityIndexModel" "nodes" "I") (List.mem_of_getElem? (i := 4) rfl)
  have hf_20 := hts (.fieldLink RX5 20 "MajorityIndexModel" "loss" "[I") (List.mem_of_getElem? (i := 5) rfl)
  refine lv_aload_n hx hb dX5_told_0 rfl (lv_at hl 0 rfl) ?_
  refine lv_iconst (v := 0) hx hb dX5_told_1 (by decide) ?_
  refine va_put (D := (dC, dI)) (ci := 5) (v := .int 0) (ty := .int) (C := RX5) (T := TX5) (N := 30) hx hb hts hi_5 tyX5 tyX5_ok nmX5 hown hK hP hD hS 0 rfl rfl 3 (by decide) hf_77 (fun _ h9 => h9) rfl (by decide +kernel) rfl rfl (Nat.le_of_ble_eq_true rfl) dX5_told_2 (fun H locs hP hD hS => ?_)
  have hP : va_P (dC, dI) vwCl [kx_5 h0 g_row m_n m_slots 0 g_many g_loss g_less g_voteValue g_voteNumber g_allValue g_allNumber m_allMany g_nodeL g_nodeR m_nodes g_part m_partMany g_wasMany g_wasLoss g_wasValue g_wasNumber g_path m_pathMany g_heavyValue g_heavyTimes m_heavyMany g_fewest g_which g_met m_mostMet, kx_a g_row cyI 160 f, kx_a g_many cyI 324 fm, kx_a g_loss cyI 324 fl, kx_a g_less cyI 324 fe, kx_a g_voteValue cyI 1944 vv, kx_a g_voteNumber cyI 1944 vn, kx_a g_allValue cyI 12 av, kx_a g_allNumber cyI 12 an, kx_a g_nodeL cyI 320 nl, kx_a g_nodeR cyI 320 nr] H := hP
  have hD : va_D A [kx_5 h0 g_row m_n m_slots 0 g_many g_loss g_less g_voteValue g_voteNumber g_allValue g_allNumber m_allMany g_nodeL g_nodeR m_nodes g_part m_partMany g_wasMany g_wasLoss g_wasValue g_wasNumber g_path m_pathMany g_heavyValue g_heavyTimes m_heavyMany g_fewest g_which g_met m_mostMet, kx_a g_row cyI 160 f, kx_a g_many cyI 324 fm, kx_a g_loss cyI 324 fl, kx_a g_less cyI 324 fe, kx_a g_voteValue cyI 1944 vv, kx_a g_voteNumber cyI 1944 vn, kx_a g_allValue cyI 12 av, kx_a g_allNumber cyI 12 an, kx_a g_nodeL cyI 320 nl, kx_a g_nodeR cyI 320 nr] := hD
  refine lv_aload_n hx hb dX5_told_5 rfl (lv_at hl 0 rfl) ?_
  refine lv_aload_n hx hb dX5_told_6 rfl (lv_at hl 0 rfl) ?_
  refine va_get (D := (dC, dI)) (ci := 5) (v := .int m_slots) (C := RX5) (T := TX5) (N := 30) hx hb hts hi_5 hown hK hP 0 rfl rfl 2 (by decide) hf_13 (fun _ h9 => h9) rfl dX5_told_7 ?_
  have hPc := hP
  have hKc := hK
  have hDc := hD
  have hFc := kx_free hD hS hA
  refine va_callv (va_runV (As := [.int m_slots]) (rest := []) ⟨hx, hb, hml, hown, hts⟩ (c_X5_laysAll l dC dI h0 g_row g_many g_loss g_less g_voteValue g_voteNumber g_allValue g_allNumber g_nodeL g_nodeR g_part g_wasMany g_wasLoss g_wasValue g_wasNumber g_path g_heavyValue g_heavyTimes g_fewest g_which g_met m_n m_slots 0 m_allMany m_nodes m_partMany m_pathMany m_heavyMany m_mostMet cyI fm fl fe vv vn f av an nl nr m_slots H.size a0 a1 sl0 sl1 s4) (cwV 1 hts gX5_told_X5_laysAll rfl rfl rfl (by decide +kernel) ⟨Nat.le_of_ble_eq_true rfl, Nat.le_of_ble_eq_true rfl⟩) ⟨fun a U g mk q => by obtain ⟨q0, q1, qP, qK, qD⟩ := q; exact ⟨q0, q1, qP, va_K.moved (u := U) (U := U.calling g mk a) (Vm.Alike.refl U.vm) qK, qD⟩, va_recv hKc hPc (ci := 5) (q0 := 0) rfl rfl, fun U hU hW => ⟨rfl, by rw [hU], by rw [hU]; exact hPc, va_K.moved hW.alike hKc, hDc.weaken (fun _ _ _ _ => trivial)⟩⟩ rfl rfl hl.1 rfl (lv_room (Nat.le_of_ble_eq_true rfl)) dX5_told_10 ⟨Nat.le_of_ble_eq_true rfl, Nat.le_of_ble_eq_true rfl⟩) hS (fun q _ h => hFc q h) hFc (fun u t H1 locs ht hvm w_1 hB hz1 hk1 hS => ?_)
  obtain ⟨o_2, o_3, o_4, o_5, o_6, o_7, o_8, o_9, o_10, o_11, o_12⟩ := u
  dsimp only at w_1 hB
  obtain ⟨hP1, hK1, hD1⟩ := hB
  rw [ht] at hP1
  have hK1 := va_K.moved hvm.symm hK1
  have hD := hD1.weaken (fun _ q _ h => hFc q.1 h)
  have hP := hP1
  clear hP1 hD1 hK1 hk1 hz1 hFc hDc hPc hKc
  generalize H1 = H at hP hS ⊢
  have w_1 : mj_L m_slots.toNatClampNeg f o_11 o_12 o_4 o_5 o_6 o_7 o_8 m_n.toInt o_2.toInt ∧ six4 o_4 ∧ 0 ≤ o_2.toInt ∧ o_2.toInt ≤ 319 := w_1
  have hok : nodesOk o_11 o_12 o_2.toInt := fun k hk => by have := mj_L_ok w_1.1 k hk; omega
  refine lv_iload_n hx hb dX5_told_13 rfl (lv_at hl 1 rfl) ?_
  by_cases s_13 : p0.toInt = 0
  · refine lv_tableIn (tgt := 56) (off := 42) hx hb dX5_told_14 (by omega) (by omega) (by rw [s_13]; rfl) (by decide) ?_
    refine lv_aload_n hx hb dX5_told_56 rfl (lv_at hl 0 rfl) ?_
    refine va_get (D := (dC, dI)) (ci := 5) (v := .int m_n) (C := RX5) (T := TX5) (N := 30) hx hb hts hi_5 hown hK hP 0 rfl rfl 1 (by decide) hf_84 (fun _ h9 => h9) rfl dX5_told_57 ?_
    have hP9 := hP
    have hD9 := hD
    have hK9 := hK
    have n_14 := ki_nat o_2 rfl (by omega)
    have n_15 := ki_nat m_n rfl (by omega)
    exact W.iret (v := m_n) hx hb hr (fun t ht hW => ⟨⟨m_n, (o_2, o_3, o_4, o_5, o_6, o_7, o_8, o_9, o_10, o_11, o_12), rfl, ⟨⟨w_1.1, (by (try dsimp only); omega), (by (try dsimp only); omega)⟩, (Or.inl ⟨s_13, rfl⟩), w_1.2.1⟩, by rw [ht]; exact hP9, va_K.moved hW.alike hK9, hD9⟩, hS.F ht⟩) hS.2.2 dX5_told_60
  by_cases s_16 : p0.toInt = 1
  · refine lv_tableIn (tgt := 61) (off := 47) hx hb dX5_told_14 (by omega) (by omega) (by rw [s_16]; rfl) (by decide) ?_
    refine lv_aload_n hx hb dX5_told_61 rfl (lv_at hl 0 rfl) ?_
    refine va_get (D := (dC, dI)) (ci := 5) (v := .int m_slots) (C := RX5) (T := TX5) (N := 30) hx hb hts hi_5 hown hK hP 0 rfl rfl 2 (by decide) hf_13 (fun _ h9 => h9) rfl dX5_told_62 ?_
    have hP9 := hP
    have hD9 := hD
    have hK9 := hK
    have n_17 := ki_nat o_2 rfl (by omega)
    have n_18 := ki_nat m_n rfl (by omega)
    exact W.iret (v := m_slots) hx hb hr (fun t ht hW => ⟨⟨m_slots, (o_2, o_3, o_4, o_5, o_6, o_7, o_8, o_9, o_10, o_11, o_12), rfl, ⟨⟨w_1.1, (by (try dsimp only); omega), (by (try dsimp only); omega)⟩, (Or.inr (Or.inl ⟨s_16, rfl⟩)), w_1.2.1⟩, by rw [ht]; exact hP9, va_K.moved hW.alike hK9, hD9⟩, hS.F ht⟩) hS.2.2 dX5_told_65
  by_cases s_19 : p0.toInt = 2
  · refine lv_tableIn (tgt := 66) (off := 52) hx hb dX5_told_14 (by omega) (by omega) (by rw [s_19]; rfl) (by decide) ?_
    refine lv_aload_n hx hb dX5_told_66 rfl (lv_at hl 0 rfl) ?_
    refine va_get (D := (dC, dI)) (ci := 5) (v := .int o_2) (C := RX5) (T := TX5) (N := 30) hx hb hts hi_5 hown hK hP 0 rfl rfl 14 (by decide) hf_101 (fun _ h9 => h9) rfl dX5_told_67 ?_
    have hP9 := hP
    have hD9 := hD
    have hK9 := hK
    have n_20 := ki_nat o_2 rfl (by omega)
    have n_21 := ki_nat m_n rfl (by omega)
    exact W.iret (v := o_2) hx hb hr (fun t ht hW => ⟨⟨o_2, (o_2, o_3, o_4, o_5, o_6, o_7, o_8, o_9, o_10, o_11, o_12), rfl, ⟨⟨w_1.1, (by (try dsimp only); omega), (by (try dsimp only); omega)⟩, (Or.inr (Or.inr (Or.inl ⟨s_19, rfl⟩))), w_1.2.1⟩, by rw [ht]; exact hP9, va_K.moved hW.alike hK9, hD9⟩, hS.F ht⟩) hS.2.2 dX5_told_70
  by_cases s_22 : p0.toInt = 3
  · refine lv_tableIn (tgt := 71) (off := 57) hx hb dX5_told_14 (by omega) (by omega) (by rw [s_22]; rfl) (by decide) ?_
    refine lv_aload_n hx hb dX5_told_71 rfl (lv_at hl 0 rfl) ?_
    have hPc := hP.sub (ws' := [kx_5 h0 g_row m_n m_slots 0 g_many g_loss g_less g_voteValue g_voteNumber g_allValue g_allNumber o_3 g_nodeL g_nodeR o_2 g_part m_partMany g_wasMany g_wasLoss g_wasValue g_wasNumber g_path m_pathMany g_heavyValue g_heavyTimes m_heavyMany g_fewest g_which g_met m_mostMet, kx_a g_row cyI 160 f, kx_a g_nodeL cyI 320 o_11, kx_a g_nodeR cyI 320 o_12]) [0, 1, 9, 10] rfl
    have hKc := hK
    refine vp_callSi (W.runV (As := []) (rest := []) ⟨hx, hb, hml, hown, hts⟩ (c_X5_nodesWithMajority_x l dC dI h0 g_row g_many g_loss g_less g_voteValue g_voteNumber g_allValue g_allNumber g_nodeL g_nodeR g_part g_wasMany g_wasLoss g_wasValue g_wasNumber g_path g_heavyValue g_heavyTimes g_fewest g_which g_met m_n m_slots 0 o_3 o_2 m_partMany m_pathMany m_heavyMany m_mostMet cyI f o_11 o_12 w_1.2.2.1 w_1.2.2.2 hok s1) (cwV 0 hts gX5_told_X5_nodesWithMajority rfl rfl rfl (by decide +kernel) ⟨Nat.le_of_ble_eq_true rfl, Nat.le_of_ble_eq_true rfl⟩) ⟨fun a U g mk q => by obtain ⟨q0, qP, qK⟩ := q; exact ⟨q0, qP, va_K.moved (u := U) (U := U.calling g mk a) (Vm.Alike.refl U.vm) qK⟩, va_recv hKc hPc (ci := 5) (q0 := 0) rfl rfl, fun U hU hW => ⟨rfl, by rw [hU]; exact hPc, va_K.moved hW.alike hKc⟩⟩ rfl rfl hl.1 rfl (lv_room (Nat.le_of_ble_eq_true rfl)) dX5_told_72 ⟨Nat.le_of_ble_eq_true rfl, Nat.le_of_ble_eq_true rfl⟩) (fun r_23 w_23 => ?_)
    have w_23 : r_23.toInt = (mj_nm f o_11 o_12 o_2.toNatClampNeg : Int) := w_23
    have hP9 := hP
    have hD9 := hD
    have hK9 := hK
    have n_24 := ki_nat o_2 rfl (by omega)
    have n_25 := ki_nat m_n rfl (by omega)
    exact W.iret (v := r_23) hx hb hr (fun t ht hW => ⟨⟨r_23, (o_2, o_3, o_4, o_5, o_6, o_7, o_8, o_9, o_10, o_11, o_12), rfl, ⟨⟨w_1.1, (by (try dsimp only); omega), (by (try dsimp only); omega)⟩, (Or.inr (Or.inr (Or.inr (Or.inl ⟨s_22, w_23⟩)))), w_1.2.1⟩, by rw [ht]; exact hP9, va_K.moved hW.alike hK9, hD9⟩, hS.F ht⟩) hS.2.2 dX5_told_75
  by_cases s_26 : p0.toInt = 4
  · refine lv_tableIn (tgt := 76) (off := 62) hx hb dX5_told_14 (by omega) (by omega) (by rw [s_26]; rfl) (by decide) ?_
    refine lv_aload_n hx hb dX5_told_76 rfl (lv_at hl 0 rfl) ?_
    refine lv_iconst (v := 0) hx hb dX5_told_77 (by decide) ?_
    refine lv_aload_n hx hb dX5_told_78 rfl (lv_at hl 0 rfl) ?_
    refine va_get (D := (dC, dI)) (ci := 5) (v := .int m_n) (C := RX5) (T := TX5) (N := 30) hx hb hts hi_5 hown hK hP 0 rfl rfl 1 (by decide) hf_84 (fun _ h9 => h9) rfl dX5_told_79 ?_
    have hPc := hP.sub (ws' := [kx_5 h0 g_row m_n m_slots 0 g_many g_loss g_less g_voteValue g_voteNumber g_allValue g_allNumber o_3 g_nodeL g_nodeR o_2 g_part m_partMany g_wasMany g_wasLoss g_wasValue g_wasNumber g_path m_pathMany g_heavyValue g_heavyTimes m_heavyMany g_fewest g_which g_met m_mostMet]) [0] rfl
    have hKc := hK.sub (tys' := []) [] rfl
    have k_27 : (0 : Int32).toInt = 0 := rfl
    refine vp_callSi (W.runV (As := [.int 0, .int m_n]) (rest := []) ⟨hx, hb, hml, hown, hts⟩ (c_X5_deep_x8 l dC dI h0 g_row g_many g_loss g_less g_voteValue g_voteNumber g_allValue g_allNumber g_nodeL g_nodeR g_part g_wasMany g_wasLoss g_wasValue g_wasNumber g_path g_heavyValue g_heavyTimes g_fewest g_which g_met m_n m_slots 0 o_3 o_2 m_partMany m_pathMany m_heavyMany m_mostMet 0 m_n (by omega) a0 a1 (by omega)) (cwV 2 hts gX5_told_X5_deep rfl rfl rfl (by decide +kernel) ⟨Nat.le_of_ble_eq_true rfl, Nat.le_of_ble_eq_true rfl⟩) ⟨fun a U g mk q => by obtain ⟨q0, qP, qK⟩ := q; exact ⟨q0, qP, va_K.moved (u := U) (U := U.calling g mk a) (Vm.Alike.refl U.vm) qK⟩, va_recv hKc hPc (ci := 5) (q0 := 0) rfl rfl, fun U hU hW => ⟨rfl, by rw [hU]; exact hPc, va_K.moved hW.alike hKc⟩⟩ rfl rfl hl.1 rfl (lv_room (Nat.le_of_ble_eq_true rfl)) dX5_told_82 ⟨Nat.le_of_ble_eq_true rfl, Nat.le_of_ble_eq_true rfl⟩) (fun r_28 w_28 => ?_)
    have w_28 : r_28.toInt = (mj_dp 8 (m_n.toInt - 0).toNat : Int) ∧ 0 ≤ r_28.toInt ∧ r_28.toInt ≤ 9 := w_28
    have hP9 := hP
    have hD9 := hD
    have hK9 := hK
    have n_29 := ki_nat o_2 rfl (by omega)
    have n_30 := ki_nat m_n rfl (by omega)
    have k_0 : (0 : Int32).toInt = 0 := rfl
    exact W.iret (v := r_28) hx hb hr (fun t ht hW => ⟨⟨r_28, (o_2, o_3, o_4, o_5, o_6, o_7, o_8, o_9, o_10, o_11, o_12), rfl, ⟨⟨w_1.1, (by (try dsimp only); omega), (by (try dsimp only); omega)⟩, (Or.inr (Or.inr (Or.inr (Or.inr (Or.inl ⟨s_26, w_28.1.trans (congrArg (fun z : Nat => ((mj_dp 8 z : Nat) : Int)) (by omega))⟩))))), w_1.2.1⟩, by rw [ht]; exact hP9, va_K.moved hW.alike hK9, hD9⟩, hS.F ht⟩) hS.2.2 dX5_told_85
  by_cases s_31 : p0.toInt = 5
  · refine lv_tableIn (tgt := 86) (off := 72) hx hb dX5_told_14 (by omega) (by omega) (by rw [s_31]; rfl) (by decide) ?_
    refine lv_aload_n hx hb dX5_told_86 rfl (lv_at hl 0 rfl) ?_
    refine va_get (D := (dC, dI)) (ci := 5) (v := .int m_n) (C := RX5) (T := TX5) (N := 30) hx hb hts hi_5 hown hK hP 0 rfl rfl 1 (by decide) hf_84 (fun _ h9 => h9) rfl dX5_told_87 ?_
    refine lv_if_ne (tgt := 97) hx hb dX5_told_90 (by decide) (fun c_32 => ?_) (fun c_32 => ?_)
    · have i_32 : ¬ m_n.toInt = 0 := kc_ne c_32
      refine lv_aload_n hx hb dX5_told_97 rfl (lv_at hl 0 rfl) ?_
      refine va_get (D := (dC, dI)) (ci := 5) (v := .ref g_loss) (C := RX5) (T := TX5) (N := 30) hx hb hts hi_5 hown hK hP 0 rfl rfl 5 (by decide) hf_20 (fun _ h9 => h9) rfl dX5_told_98 ?_
      refine lv_iconst (v := 0) hx hb dX5_told_101 (by decide) ?_
      refine va_iald hx hb hK hP 3 0 rfl rfl (ki_inl (by decide)) dX5_told_102 ?_
      refine lv_topi (fun y_33 ey_33 => ?_)
      have j_33 : y_33.toInt = (o_5 (0 : Int32).toNatClampNeg).toInt := congrArg Int32.toInt ey_33
      have hP9 := hP
      have hD9 := hD
      have hK9 := hK
      have n_34 := ki_nat o_2 rfl (by omega)
      have n_35 := ki_nat m_n rfl (by omega)
      exact W.iret (v := y_33) hx hb hr (fun t ht hW => ⟨⟨y_33, (o_2, o_3, o_4, o_5, o_6, o_7, o_8, o_9, o_10, o_11, o_12), rfl, ⟨⟨w_1.1, (by (try dsimp only); omega), (by (try dsimp only); omega)⟩, (Or.inr (Or.inr (Or.inr (Or.inr (Or.inr (Or.inr (Or.inl ⟨s_31, (by (try dsimp only); omega), ey_33⟩))))))), w_1.2.1⟩, by rw [ht]; exact hP9, va_K.moved hW.alike hK9, hD9⟩, hS.F ht⟩) hS.2.2 dX5_told_103
    · have i_32 : m_n.toInt = 0 := kc_eq c_32
      refine lv_iconst (v := 0) hx hb dX5_told_93 (by decide) ?_
      refine lv_goto (tgt := 103) hx hb dX5_told_94 (by decide) ?_
      have hP9 := hP
      have hD9 := hD
      have hK9 := hK
      have n_36 := ki_nat o_2 rfl (by omega)
      have n_37 := ki_nat m_n rfl (by omega)
      exact W.iret (v := 0) hx hb hr (fun t ht hW => ⟨⟨0, (o_2, o_3, o_4, o_5, o_6, o_7, o_8, o_9, o_10, o_11, o_12), rfl, ⟨⟨w_1.1, (by (try dsimp only); omega), (by (try dsimp only); omega)⟩, (Or.inr (Or.inr (Or.inr (Or.inr (Or.inr (Or.inl ⟨s_31, (by (try dsimp only); omega), rfl⟩)))))), w_1.2.1⟩, by rw [ht]; exact hP9, va_K.moved hW.alike hK9, hD9⟩, hS.F ht⟩) hS.2.2 dX5_told_103
  by_cases s_38 : p0.toInt = 6
  · refine lv_tableIn (tgt := 104) (off := 90) hx hb dX5_told_14 (by omega) (by omega) (by rw [s_38]; rfl) (by decide) ?_
    refine lv_iconst (v := 0) hx hb dX5_told_104 (by decide) ?_
    refine lv_istore_n (lv' := [(2, .int 0), (0, .ref h0), (1, .int p0)]) hx hb dX5_told_105 rfl hl (by decide) rfl (fun ls hl => ?_)
    refine lv_iconst (v := 0) hx hb dX5_told_106 (by decide) ?_
    refine lv_istore_n (lv' := [(3, .int 0), (2, .int 0), (0, .ref h0), (1, .int p0)]) hx hb dX5_told_107 rfl hl (by decide) rfl (fun ls hl => ?_)
    have LP1 : ∀ (n : Nat) (i : Int32) (sm : Int32), (0 ≤ i.toInt) → (sm = mj_tot o_5 0 i.toNatClampNeg) → (i.toInt ≤ o_2.toInt) → (o_2.toInt - i.toInt).toNat < n → ∀ (H : Heap) (locs : List Loc), va_P (dC, dI) vwCl [kx_5 h0 g_row m_n m_slots 0 g_many g_loss g_less g_voteValue g_voteNumber g_allValue g_allNumber o_3 g_nodeL g_nodeR o_2 g_part m_partMany g_wasMany g_wasLoss g_wasValue g_wasNumber g_path m_pathMany g_heavyValue g_heavyTimes m_heavyMany g_fewest g_which g_met m_mostMet, kx_a g_row cyI 160 f, kx_a g_many cyI 324 o_4, kx_a g_loss cyI 324 o_5, kx_a g_less cyI 324 o_6, kx_a g_voteValue cyI 1944 o_7, kx_a g_voteNumber cyI 1944 o_8, kx_a g_allValue cyI 12 o_9, kx_a g_allNumber cyI 12 o_10, kx_a g_nodeL cyI 320 o_11, kx_a g_nodeR cyI 320 o_12] H → va_D A [kx_5 h0 g_row m_n m_slots 0 g_many g_loss g_less g_voteValue g_voteNumber g_allValue g_allNumber o_3 g_nodeL g_nodeR o_2 g_part m_partMany g_wasMany g_wasLoss g_wasValue g_wasNumber g_path m_pathMany g_heavyValue g_heavyTimes m_heavyMany g_fewest g_which g_met m_mostMet, kx_a g_row cyI 160 f, kx_a g_many cyI 324 o_4, kx_a g_loss cyI 324 o_5, kx_a g_less cyI 324 o_6, kx_a g_voteValue cyI 1944 o_7, kx_a g_voteNumber cyI 1944 o_8, kx_a g_allValue cyI 12 o_9, kx_a g_allNumber cyI 12 o_10, kx_a g_nodeL cyI 320 o_11, kx_a g_nodeR cyI 320 o_12] → va_S A s.heap H locs → ∀ (ls : Array Slot), lv_has ls 4 [(3, .int i), (2, .int sm), (0, .ref h0), (1, .int p0)] → W p l e (headSpec wsX5_told ({ frames := 12, cells := 0, slots := 0, locals := 540 })).room s m ([.ref h0, .int p0] : List Value).toArray below meth c H locs 0 0 (MQ below (va_Qi (fun (r : Int32) (u : Int32 × Int32 × (Nat → Int32) × (Nat → Int32) × (Nat → Int32) × (Nat → Int32) × (Nat → Int32) × (Nat → Int32) × (Nat → Int32) × (Nat → Int32) × (Nat → Int32)) => (mj_L m_slots.toNatClampNeg f u.2.2.2.2.2.2.2.2.2.1 u.2.2.2.2.2.2.2.2.2.2 u.2.2.1 u.2.2.2.1 u.2.2.2.2.1 u.2.2.2.2.2.1 u.2.2.2.2.2.2.1 m_n.toInt u.1.toInt ∧ 0 ≤ u.1.toInt ∧ u.1.toInt ≤ 319) ∧ mj_tld f u.2.2.2.2.2.2.2.2.2.1 u.2.2.2.2.2.2.2.2.2.2 u.2.2.2.1 u.1 m_n m_slots p0.toInt r ∧ six4 u.2.2.1) (fun (u : Int32 × Int32 × (Nat → Int32) × (Nat → Int32) × (Nat → Int32) × (Nat → Int32) × (Nat → Int32) × (Nat → Int32) × (Nat → Int32) × (Nat → Int32) × (Nat → Int32)) (t : State) => va_P (dC, dI) vwCl [kx_5 h0 g_row m_n m_slots 0 g_many g_loss g_less g_voteValue g_voteNumber g_allValue g_allNumber u.2.1 g_nodeL g_nodeR u.1 g_part m_partMany g_wasMany g_wasLoss g_wasValue g_wasNumber g_path m_pathMany g_heavyValue g_heavyTimes m_heavyMany g_fewest g_which g_met m_mostMet, kx_a g_row cyI 160 f, kx_a g_many cyI 324 u.2.2.1, kx_a g_loss cyI 324 u.2.2.2.1, kx_a g_less cyI 324 u.2.2.2.2.1, kx_a g_voteValue cyI 1944 u.2.2.2.2.2.1, kx_a g_voteNumber cyI 1944 u.2.2.2.2.2.2.1, kx_a g_allValue cyI 12 u.2.2.2.2.2.2.2.1, kx_a g_allNumber cyI 12 u.2.2.2.2.2.2.2.2.1, kx_a g_nodeL cyI 320 u.2.2.2.2.2.2.2.2.2.1, kx_a g_nodeR cyI 320 u.2.2.2.2.2.2.2.2.2.2] t.heap ∧ va_K (dC, dI) vwCl [(cyI, .int)] t ∧ va_D A [kx_5 h0 g_row m_n m_slots 0 g_many g_loss g_less g_voteValue g_voteNumber g_allValue g_allNumber u.2.1 g_nodeL g_nodeR u.1 g_part m_partMany g_wasMany g_wasLoss g_wasValue g_wasNumber g_path m_pathMany g_heavyValue g_heavyTimes m_heavyMany g_fewest g_which g_met m_mostMet, kx_a g_row cyI 160 f, kx_a g_many cyI 324 u.2.2.1, kx_a g_loss cyI 324 u.2.2.2.1, kx_a g_less cyI 324 u.2.2.2.2.1, kx_a g_voteValue cyI 1944 u.2.2.2.2.2.1, kx_a g_voteNumber cyI 1944 u.2.2.2.2.2.2.1, kx_a g_allValue cyI 12 u.2.2.2.2.2.2.2.1, kx_a g_allNumber cyI 12 u.2.2.2.2.2.2.2.2.1, kx_a g_nodeL cyI 320 u.2.2.2.2.2.2.2.2.2.1, kx_a g_nodeR cyI 320 u.2.2.2.2.2.2.2.2.2.2]) A) ([.ref h0, .int p0] : List Value).toArray s 0 0 A) (F0 m 108 ls []) := by
      intro n
      induction n with
      | zero => intro i sm LP1_h0 LP1_h1 LP1_h2 hn; exact absurd hn (Nat.not_lt_zero _)
      | succ n ih1 =>
        intro i sm LP1_h0 LP1_h1 LP1_h2 hn1 H locs hP hD hS ls hl
        have n_i := ki_nat i rfl (by omega)
        refine lv_iload_n hx hb dX5_told_108 rfl (lv_at hl 0 rfl) ?_
        refine lv_aload_n hx hb dX5_told_109 rfl (lv_at hl 2 rfl) ?_
        refine va_get (D := (dC, dI)) (ci := 5) (v := .int o_2) (C := RX5) (T := TX5) (N := 30) hx hb hts hi_5 hown hK hP 0 rfl rfl 14 (by decide) hf_101 (fun _ h9 => h9) rfl dX5_told_110 ?_
        refine lv_icmp_ge (tgt := 131) hx hb dX5_told_113 (by decide) (fun c_39 => ?_) (fun c_39 => ?_)
        · have i_39 : o_2.toInt ≤ i.toInt := kc_le c_39
          refine lv_iload_n hx hb dX5_told_131 rfl (lv_at hl 1 rfl) ?_
          have hP9 := hP
          have hD9 := hD
          have hK9 := hK
          have n_40 := ki_nat o_2 rfl (by omega)
          have n_41 := ki_nat m_n rfl (by omega)
          exact W.iret (v := sm) hx hb hr (fun t ht hW => ⟨⟨sm, (o_2, o_3, o_4, o_5, o_6, o_7, o_8, o_9, o_10, o_11, o_12), rfl, ⟨⟨w_1.1, (by (try dsimp only); omega), (by (try dsimp only); omega)⟩, (Or.inr (Or.inr (Or.inr (Or.inr (Or.inr (Or.inr (Or.inr (Or.inl ⟨s_38, (by (try dsimp only); rw [show o_2.toNatClampNeg = i.toNatClampNeg by omega]; exact LP1_h1)⟩)))))))), w_1.2.1⟩, by rw [ht]; exact hP9, va_K.moved hW.alike hK9, hD9⟩, hS.F ht⟩) hS.2.2 dX5_told_132
        · have i_39 : i.toInt < o_2.toInt := kc_nle c_39
          refine lv_iload_n hx hb dX5_told_116 rfl (lv_at hl 1 rfl) ?_
          refine lv_aload_n hx hb dX5_told_117 rfl (lv_at hl 2 rfl) ?_
          refine va_get (D := (dC, dI)) (ci := 5) (v := .ref g_loss) (C := RX5) (T := TX5) (N := 30) hx hb hts hi_5 hown hK hP 0 rfl rfl 5 (by decide) hf_20 (fun _ h9 => h9) rfl dX5_told_118 ?_
          refine lv_iload_n hx hb dX5_told_121 rfl (lv_at hl 0 rfl) ?_
          refine va_iald hx hb hK hP 3 0 rfl rfl (ki_in (by omega) (by omega)) dX5_told_122 ?_
          refine lv_topi (fun y_42 ey_42 => ?_)
          have j_42 : y_42.toInt = (o_5 i.toNatClampNeg).toInt := congrArg Int32.toInt ey_42
          refine lv_iadd hx hb dX5_told_123 ?_
          refine lv_topi (fun y_43 ey_43 => ?_)
          refine lv_istore_n (lv' := [(2, .int y_43), (3, .int i), (0, .ref h0), (1, .int p0)]) hx hb dX5_told_124 rfl hl (by decide) rfl (fun ls hl => ?_)
          obtain ⟨x_44, ex_44⟩ : ∃ y : Int32, y = i + 1 := ⟨_, rfl⟩
          have i_44 : x_44.toInt = i.toInt + 1 := ki_add ex_44 rfl rfl (by omega) (by omega)
          refine lv_iinc (v := x_44) (lv' := [(3, .int x_44), (2, .int y_43), (0, .ref h0), (1, .int p0)]) hx hb dX5_told_125 hl (k := 1) rfl (by rw [ex_44]; rfl) (by decide) rfl (fun ls hl => ?_)
          refine lv_goto (tgt := 108) hx hb dX5_told_128 (by decide) ?_
          have n_45 := ki_nat x_44 rfl (by omega)
          exact ih1 x_44 y_43 (by omega) (by rw [ey_43, show x_44.toNatClampNeg = i.toNatClampNeg + 1 by omega, ey_42]; show sm + o_5 i.toNatClampNeg = mj_tot o_5 0 i.toNatClampNeg + o_5 (0 + i.toNatClampNeg); rw [← LP1_h1, Nat.zero_add]) (by omega) (by omega) _ _ hP hD hS ls (lv_sub hl [0, 1, 2, 3] rfl)
    have k_46 : (0 : Int32).toInt = 0 := rfl
    have k_47 : (0 : Int32).toInt = 0 := rfl
    exact LP1 ((o_2.toInt - 0 : Int).toNat + 1) 0 0 (by omega) rfl (by omega) (Nat.lt_succ_self _) _ _ hP hD hS ls (lv_sub hl [0, 1, 2, 3] rfl)
  refine lv_tableOut (tgt := 133) hx hb dX5_told_14 (by omega) (by decide) ?_
  refine lv_iconst (v := (-1)) hx hb dX5_told_133 (by decide) ?_
  have hP9 := hP
  have hD9 := hD
  have hK9 := hK
  have n_48 := ki_nat o_2 rfl (by omega)
  have n_49 := ki_nat m_n rfl (by omega)
  exact W.iret (v := (-1)) hx hb hr (fun t ht hW => ⟨⟨(-1), (o_2, o_3, o_4, o_5, o_6, o_7, o_8, o_9, o_10, o_11, o_12), rfl, ⟨⟨w_1.1, (by (try dsimp only); omega), (by (try dsimp only); omega)⟩, (Or.inr (Or.inr (Or.inr (Or.inr (Or.inr (Or.inr (Or.inr (Or.inr ⟨(by (try dsimp only); omega), rfl⟩)))))))), w_1.2.1⟩, by rw [ht]; exact hP9, va_K.moved hW.alike hK9, hD9⟩, hS.F ht⟩) hS.2.2 dX5_told_134


